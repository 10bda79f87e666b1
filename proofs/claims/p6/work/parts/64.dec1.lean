abbrev jc_X_keepDraft : ByteArray := prog_1_method_18_code
abbrev jy_X_keepDraft : MethodName := ⟨"MeasuredTensors", "keepDraft", "()I"⟩
theorem jd_X_keepDraft_0 : decode jc_X_keepDraft 0 = .ok (.aload_n 0, 1) := by decide +kernel
theorem jd_X_keepDraft_1 : decode jc_X_keepDraft 1 = .ok (.getfield 36, 3) := by decide +kernel
theorem jd_X_keepDraft_4 : decode jc_X_keepDraft 4 = .ok (.ifCond .lt 41, 3) := by decide +kernel
theorem jd_X_keepDraft_7 : decode jc_X_keepDraft 7 = .ok (.aload_n 0, 1) := by decide +kernel
theorem jd_X_keepDraft_8 : decode jc_X_keepDraft 8 = .ok (.getfield 36, 3) := by decide +kernel
theorem jd_X_keepDraft_11 : decode jc_X_keepDraft 11 = .ok (.aload_n 0, 1) := by decide +kernel
theorem jd_X_keepDraft_12 : decode jc_X_keepDraft 12 = .ok (.getfield 11, 3) := by decide +kernel
theorem jd_X_keepDraft_15 : decode jc_X_keepDraft 15 = .ok (.arraylength, 1) := by decide +kernel
theorem jd_X_keepDraft_16 : decode jc_X_keepDraft 16 = .ok (.if_icmp .ge 29, 3) := by decide +kernel
theorem jd_X_keepDraft_19 : decode jc_X_keepDraft 19 = .ok (.aload_n 0, 1) := by decide +kernel
theorem jd_X_keepDraft_20 : decode jc_X_keepDraft 20 = .ok (.getfield 32, 3) := by decide +kernel
theorem jd_X_keepDraft_23 : decode jc_X_keepDraft 23 = .ok (.getfield 93, 3) := by decide +kernel
theorem jd_X_keepDraft_26 : decode jc_X_keepDraft 26 = .ok (.invokevirtual 238, 3) := by decide +kernel
theorem jd_X_keepDraft_29 : decode jc_X_keepDraft 29 = .ok (.ifCond .ne 16, 3) := by decide +kernel
theorem jd_X_keepDraft_32 : decode jc_X_keepDraft 32 = .ok (.aload_n 0, 1) := by decide +kernel
theorem jd_X_keepDraft_33 : decode jc_X_keepDraft 33 = .ok (.getfield 32, 3) := by decide +kernel
theorem jd_X_keepDraft_36 : decode jc_X_keepDraft 36 = .ok (.getfield 73, 3) := by decide +kernel
theorem jd_X_keepDraft_39 : decode jc_X_keepDraft 39 = .ok (.invokevirtual 241, 3) := by decide +kernel
theorem jd_X_keepDraft_42 : decode jc_X_keepDraft 42 = .ok (.ifCond .eq 6, 3) := by decide +kernel
theorem jd_X_keepDraft_45 : decode jc_X_keepDraft 45 = .ok (.bipush (-8), 2) := by decide +kernel
theorem jd_X_keepDraft_47 : decode jc_X_keepDraft 47 = .ok (.ireturn, 1) := by decide +kernel
theorem jd_X_keepDraft_48 : decode jc_X_keepDraft 48 = .ok (.aload_n 0, 1) := by decide +kernel
theorem jd_X_keepDraft_49 : decode jc_X_keepDraft 49 = .ok (.getfield 43, 3) := by decide +kernel
theorem jd_X_keepDraft_52 : decode jc_X_keepDraft 52 = .ok (.i2l, 1) := by decide +kernel
theorem jd_X_keepDraft_53 : decode jc_X_keepDraft 53 = .ok (.aload_n 0, 1) := by decide +kernel
theorem jd_X_keepDraft_54 : decode jc_X_keepDraft 54 = .ok (.getfield 32, 3) := by decide +kernel
theorem jd_X_keepDraft_57 : decode jc_X_keepDraft 57 = .ok (.getfield 93, 3) := by decide +kernel
theorem jd_X_keepDraft_60 : decode jc_X_keepDraft 60 = .ok (.invokevirtual 114, 3) := by decide +kernel
theorem jd_X_keepDraft_63 : decode jc_X_keepDraft 63 = .ok (.i2l, 1) := by decide +kernel
theorem jd_X_keepDraft_64 : decode jc_X_keepDraft 64 = .ok (.aload_n 0, 1) := by decide +kernel
theorem jd_X_keepDraft_65 : decode jc_X_keepDraft 65 = .ok (.getfield 32, 3) := by decide +kernel
theorem jd_X_keepDraft_68 : decode jc_X_keepDraft 68 = .ok (.getfield 215, 3) := by decide +kernel
theorem jd_X_keepDraft_71 : decode jc_X_keepDraft 71 = .ok (.i2l, 1) := by decide +kernel
theorem jd_X_keepDraft_72 : decode jc_X_keepDraft 72 = .ok (.lmul, 1) := by decide +kernel
theorem jd_X_keepDraft_73 : decode jc_X_keepDraft 73 = .ok (.ladd, 1) := by decide +kernel
theorem jd_X_keepDraft_74 : decode jc_X_keepDraft 74 = .ok (.lstore_n 1, 1) := by decide +kernel
theorem jd_X_keepDraft_75 : decode jc_X_keepDraft 75 = .ok (.lload_n 1, 1) := by decide +kernel
theorem jd_X_keepDraft_76 : decode jc_X_keepDraft 76 = .ok (.ldc2_w 244, 3) := by decide +kernel
theorem jd_X_keepDraft_79 : decode jc_X_keepDraft 79 = .ok (.lcmp, 1) := by decide +kernel
theorem jd_X_keepDraft_80 : decode jc_X_keepDraft 80 = .ok (.ifCond .le 6, 3) := by decide +kernel
theorem jd_X_keepDraft_83 : decode jc_X_keepDraft 83 = .ok (.bipush (-8), 2) := by decide +kernel
theorem jd_X_keepDraft_85 : decode jc_X_keepDraft 85 = .ok (.ireturn, 1) := by decide +kernel
theorem jd_X_keepDraft_86 : decode jc_X_keepDraft 86 = .ok (.aload_n 0, 1) := by decide +kernel
theorem jd_X_keepDraft_87 : decode jc_X_keepDraft 87 = .ok (.getfield 11, 3) := by decide +kernel
theorem jd_X_keepDraft_90 : decode jc_X_keepDraft 90 = .ok (.aload_n 0, 1) := by decide +kernel
theorem jd_X_keepDraft_91 : decode jc_X_keepDraft 91 = .ok (.getfield 36, 3) := by decide +kernel
theorem jd_X_keepDraft_94 : decode jc_X_keepDraft 94 = .ok (.aaload, 1) := by decide +kernel
theorem jd_X_keepDraft_95 : decode jc_X_keepDraft 95 = .ok (.astore_n 3, 1) := by decide +kernel
theorem jd_X_keepDraft_96 : decode jc_X_keepDraft 96 = .ok (.aload_n 0, 1) := by decide +kernel
theorem jd_X_keepDraft_97 : decode jc_X_keepDraft 97 = .ok (.getfield 11, 3) := by decide +kernel
theorem jd_X_keepDraft_100 : decode jc_X_keepDraft 100 = .ok (.aload_n 0, 1) := by decide +kernel
theorem jd_X_keepDraft_101 : decode jc_X_keepDraft 101 = .ok (.getfield 36, 3) := by decide +kernel
theorem jd_X_keepDraft_104 : decode jc_X_keepDraft 104 = .ok (.aload_n 0, 1) := by decide +kernel
theorem jd_X_keepDraft_105 : decode jc_X_keepDraft 105 = .ok (.getfield 32, 3) := by decide +kernel
theorem jd_X_keepDraft_108 : decode jc_X_keepDraft 108 = .ok (.aastore, 1) := by decide +kernel
theorem jd_X_keepDraft_109 : decode jc_X_keepDraft 109 = .ok (.aload_n 0, 1) := by decide +kernel
theorem jd_X_keepDraft_110 : decode jc_X_keepDraft 110 = .ok (.aload_n 3, 1) := by decide +kernel
theorem jd_X_keepDraft_111 : decode jc_X_keepDraft 111 = .ok (.ifnonnull 13, 3) := by decide +kernel
theorem jd_X_keepDraft_114 : decode jc_X_keepDraft 114 = .ok (.new 9, 3) := by decide +kernel
theorem jd_X_keepDraft_117 : decode jc_X_keepDraft 117 = .ok (.dup, 1) := by decide +kernel
theorem jd_X_keepDraft_118 : decode jc_X_keepDraft 118 = .ok (.invokespecial 31, 3) := by decide +kernel
theorem jd_X_keepDraft_121 : decode jc_X_keepDraft 121 = .ok (.goto 4, 3) := by decide +kernel
theorem jd_X_keepDraft_124 : decode jc_X_keepDraft 124 = .ok (.aload_n 3, 1) := by decide +kernel
theorem jd_X_keepDraft_125 : decode jc_X_keepDraft 125 = .ok (.putfield 32, 3) := by decide +kernel
theorem jd_X_keepDraft_128 : decode jc_X_keepDraft 128 = .ok (.aload_n 0, 1) := by decide +kernel
theorem jd_X_keepDraft_129 : decode jc_X_keepDraft 129 = .ok (.lload_n 1, 1) := by decide +kernel
theorem jd_X_keepDraft_130 : decode jc_X_keepDraft 130 = .ok (.l2i, 1) := by decide +kernel
theorem jd_X_keepDraft_131 : decode jc_X_keepDraft 131 = .ok (.putfield 43, 3) := by decide +kernel
theorem jd_X_keepDraft_134 : decode jc_X_keepDraft 134 = .ok (.aload_n 0, 1) := by decide +kernel
theorem jd_X_keepDraft_135 : decode jc_X_keepDraft 135 = .ok (.dup, 1) := by decide +kernel
theorem jd_X_keepDraft_136 : decode jc_X_keepDraft 136 = .ok (.getfield 36, 3) := by decide +kernel
theorem jd_X_keepDraft_139 : decode jc_X_keepDraft 139 = .ok (.iconst 1, 1) := by decide +kernel
theorem jd_X_keepDraft_140 : decode jc_X_keepDraft 140 = .ok (.iadd, 1) := by decide +kernel
theorem jd_X_keepDraft_141 : decode jc_X_keepDraft 141 = .ok (.putfield 36, 3) := by decide +kernel
theorem jd_X_keepDraft_144 : decode jc_X_keepDraft 144 = .ok (.aload_n 0, 1) := by decide +kernel
theorem jd_X_keepDraft_145 : decode jc_X_keepDraft 145 = .ok (.getfield 36, 3) := by decide +kernel
theorem jd_X_keepDraft_148 : decode jc_X_keepDraft 148 = .ok (.iconst 1, 1) := by decide +kernel
theorem jd_X_keepDraft_149 : decode jc_X_keepDraft 149 = .ok (.isub, 1) := by decide +kernel
theorem jd_X_keepDraft_150 : decode jc_X_keepDraft 150 = .ok (.ireturn, 1) := by decide +kernel
abbrev jc_X_draftCellByCell : ByteArray := prog_1_method_19_code
abbrev jy_X_draftCellByCell : MethodName := ⟨"MeasuredTensors", "draftCellByCell", "(ILMeasuredTensors$Tensor;LMeasuredTensors$Tensor;)Z"⟩
theorem jd_X_draftCellByCell_0 : decode jc_X_draftCellByCell 0 = .ok (.aload_n 2, 1) := by decide +kernel
theorem jd_X_draftCellByCell_1 : decode jc_X_draftCellByCell 1 = .ok (.getfield 93, 3) := by decide +kernel
theorem jd_X_draftCellByCell_4 : decode jc_X_draftCellByCell 4 = .ok (.getfield 187, 3) := by decide +kernel
theorem jd_X_draftCellByCell_7 : decode jc_X_draftCellByCell 7 = .ok (.aload_n 3, 1) := by decide +kernel
theorem jd_X_draftCellByCell_8 : decode jc_X_draftCellByCell 8 = .ok (.getfield 93, 3) := by decide +kernel
theorem jd_X_draftCellByCell_11 : decode jc_X_draftCellByCell 11 = .ok (.getfield 187, 3) := by decide +kernel
theorem jd_X_draftCellByCell_14 : decode jc_X_draftCellByCell 14 = .ok (.if_icmp .ge 7, 3) := by decide +kernel
theorem jd_X_draftCellByCell_17 : decode jc_X_draftCellByCell 17 = .ok (.aload_n 3, 1) := by decide +kernel
theorem jd_X_draftCellByCell_18 : decode jc_X_draftCellByCell 18 = .ok (.goto 4, 3) := by decide +kernel
theorem jd_X_draftCellByCell_21 : decode jc_X_draftCellByCell 21 = .ok (.aload_n 2, 1) := by decide +kernel
theorem jd_X_draftCellByCell_22 : decode jc_X_draftCellByCell 22 = .ok (.astore 4, 2) := by decide +kernel
theorem jd_X_draftCellByCell_24 : decode jc_X_draftCellByCell 24 = .ok (.aload_n 2, 1) := by decide +kernel
theorem jd_X_draftCellByCell_25 : decode jc_X_draftCellByCell 25 = .ok (.getfield 93, 3) := by decide +kernel
theorem jd_X_draftCellByCell_28 : decode jc_X_draftCellByCell 28 = .ok (.getfield 187, 3) := by decide +kernel
theorem jd_X_draftCellByCell_31 : decode jc_X_draftCellByCell 31 = .ok (.aload_n 3, 1) := by decide +kernel
theorem jd_X_draftCellByCell_32 : decode jc_X_draftCellByCell 32 = .ok (.getfield 93, 3) := by decide +kernel
theorem jd_X_draftCellByCell_35 : decode jc_X_draftCellByCell 35 = .ok (.getfield 187, 3) := by decide +kernel
theorem jd_X_draftCellByCell_38 : decode jc_X_draftCellByCell 38 = .ok (.if_icmp .ge 7, 3) := by decide +kernel
theorem jd_X_draftCellByCell_41 : decode jc_X_draftCellByCell 41 = .ok (.aload_n 2, 1) := by decide +kernel
theorem jd_X_draftCellByCell_42 : decode jc_X_draftCellByCell 42 = .ok (.goto 4, 3) := by decide +kernel
theorem jd_X_draftCellByCell_45 : decode jc_X_draftCellByCell 45 = .ok (.aload_n 3, 1) := by decide +kernel
theorem jd_X_draftCellByCell_46 : decode jc_X_draftCellByCell 46 = .ok (.astore 5, 2) := by decide +kernel
theorem jd_X_draftCellByCell_48 : decode jc_X_draftCellByCell 48 = .ok (.aload_n 0, 1) := by decide +kernel
theorem jd_X_draftCellByCell_49 : decode jc_X_draftCellByCell 49 = .ok (.getfield 32, 3) := by decide +kernel
theorem jd_X_draftCellByCell_52 : decode jc_X_draftCellByCell 52 = .ok (.aload 4, 2) := by decide +kernel
theorem jd_X_draftCellByCell_54 : decode jc_X_draftCellByCell 54 = .ok (.invokevirtual 141, 3) := by decide +kernel
theorem jd_X_draftCellByCell_57 : decode jc_X_draftCellByCell 57 = .ok (.aload_n 0, 1) := by decide +kernel
theorem jd_X_draftCellByCell_58 : decode jc_X_draftCellByCell 58 = .ok (.getfield 32, 3) := by decide +kernel
theorem jd_X_draftCellByCell_61 : decode jc_X_draftCellByCell 61 = .ok (.aload 4, 2) := by decide +kernel
theorem jd_X_draftCellByCell_63 : decode jc_X_draftCellByCell 63 = .ok (.getfield 93, 3) := by decide +kernel
theorem jd_X_draftCellByCell_66 : decode jc_X_draftCellByCell 66 = .ok (.invokevirtual 114, 3) := by decide +kernel
theorem jd_X_draftCellByCell_69 : decode jc_X_draftCellByCell 69 = .ok (.aload_n 2, 1) := by decide +kernel
theorem jd_X_draftCellByCell_70 : decode jc_X_draftCellByCell 70 = .ok (.getfield 93, 3) := by decide +kernel
theorem jd_X_draftCellByCell_73 : decode jc_X_draftCellByCell 73 = .ok (.invokevirtual 114, 3) := by decide +kernel
theorem jd_X_draftCellByCell_76 : decode jc_X_draftCellByCell 76 = .ok (.invokestatic 246, 3) := by decide +kernel
theorem jd_X_draftCellByCell_79 : decode jc_X_draftCellByCell 79 = .ok (.putfield 250, 3) := by decide +kernel
theorem jd_X_draftCellByCell_82 : decode jc_X_draftCellByCell 82 = .ok (.aload_n 0, 1) := by decide +kernel
theorem jd_X_draftCellByCell_83 : decode jc_X_draftCellByCell 83 = .ok (.getfield 32, 3) := by decide +kernel
theorem jd_X_draftCellByCell_86 : decode jc_X_draftCellByCell 86 = .ok (.aload 4, 2) := by decide +kernel
theorem jd_X_draftCellByCell_88 : decode jc_X_draftCellByCell 88 = .ok (.getfield 93, 3) := by decide +kernel
theorem jd_X_draftCellByCell_91 : decode jc_X_draftCellByCell 91 = .ok (.invokevirtual 114, 3) := by decide +kernel
theorem jd_X_draftCellByCell_94 : decode jc_X_draftCellByCell 94 = .ok (.aload_n 3, 1) := by decide +kernel
theorem jd_X_draftCellByCell_95 : decode jc_X_draftCellByCell 95 = .ok (.getfield 93, 3) := by decide +kernel
theorem jd_X_draftCellByCell_98 : decode jc_X_draftCellByCell 98 = .ok (.invokevirtual 114, 3) := by decide +kernel
theorem jd_X_draftCellByCell_101 : decode jc_X_draftCellByCell 101 = .ok (.invokestatic 246, 3) := by decide +kernel
theorem jd_X_draftCellByCell_104 : decode jc_X_draftCellByCell 104 = .ok (.putfield 253, 3) := by decide +kernel
theorem jd_X_draftCellByCell_107 : decode jc_X_draftCellByCell 107 = .ok (.iload_n 1, 1) := by decide +kernel
theorem jd_X_draftCellByCell_108 : decode jc_X_draftCellByCell 108 = .ok (.iconst 2, 1) := by decide +kernel
theorem jd_X_draftCellByCell_109 : decode jc_X_draftCellByCell 109 = .ok (.if_icmp .ne 29, 3) := by decide +kernel
theorem jd_X_draftCellByCell_112 : decode jc_X_draftCellByCell 112 = .ok (.aload_n 0, 1) := by decide +kernel
theorem jd_X_draftCellByCell_113 : decode jc_X_draftCellByCell 113 = .ok (.getfield 32, 3) := by decide +kernel
theorem jd_X_draftCellByCell_116 : decode jc_X_draftCellByCell 116 = .ok (.getfield 73, 3) := by decide +kernel
theorem jd_X_draftCellByCell_119 : decode jc_X_draftCellByCell 119 = .ok (.aload 5, 2) := by decide +kernel
theorem jd_X_draftCellByCell_121 : decode jc_X_draftCellByCell 121 = .ok (.getfield 73, 3) := by decide +kernel
theorem jd_X_draftCellByCell_124 : decode jc_X_draftCellByCell 124 = .ok (.invokevirtual 256, 3) := by decide +kernel
theorem jd_X_draftCellByCell_127 : decode jc_X_draftCellByCell 127 = .ok (.aload_n 0, 1) := by decide +kernel
theorem jd_X_draftCellByCell_128 : decode jc_X_draftCellByCell 128 = .ok (.getfield 32, 3) := by decide +kernel
theorem jd_X_draftCellByCell_131 : decode jc_X_draftCellByCell 131 = .ok (.iconst 2, 1) := by decide +kernel
theorem jd_X_draftCellByCell_132 : decode jc_X_draftCellByCell 132 = .ok (.putfield 259, 3) := by decide +kernel
theorem jd_X_draftCellByCell_135 : decode jc_X_draftCellByCell 135 = .ok (.goto 29, 3) := by decide +kernel
theorem jd_X_draftCellByCell_138 : decode jc_X_draftCellByCell 138 = .ok (.aload_n 0, 1) := by decide +kernel
theorem jd_X_draftCellByCell_139 : decode jc_X_draftCellByCell 139 = .ok (.getfield 32, 3) := by decide +kernel
theorem jd_X_draftCellByCell_142 : decode jc_X_draftCellByCell 142 = .ok (.getfield 73, 3) := by decide +kernel
theorem jd_X_draftCellByCell_145 : decode jc_X_draftCellByCell 145 = .ok (.aload 5, 2) := by decide +kernel
theorem jd_X_draftCellByCell_147 : decode jc_X_draftCellByCell 147 = .ok (.getfield 73, 3) := by decide +kernel
theorem jd_X_draftCellByCell_150 : decode jc_X_draftCellByCell 150 = .ok (.invokevirtual 262, 3) := by decide +kernel
theorem jd_X_draftCellByCell_153 : decode jc_X_draftCellByCell 153 = .ok (.aload_n 0, 1) := by decide +kernel
theorem jd_X_draftCellByCell_154 : decode jc_X_draftCellByCell 154 = .ok (.getfield 32, 3) := by decide +kernel
theorem jd_X_draftCellByCell_157 : decode jc_X_draftCellByCell 157 = .ok (.getfield 73, 3) := by decide +kernel
theorem jd_X_draftCellByCell_160 : decode jc_X_draftCellByCell 160 = .ok (.iconst 1, 1) := by decide +kernel
theorem jd_X_draftCellByCell_161 : decode jc_X_draftCellByCell 161 = .ok (.invokevirtual 265, 3) := by decide +kernel
theorem jd_X_draftCellByCell_164 : decode jc_X_draftCellByCell 164 = .ok (.aload 4, 2) := by decide +kernel
theorem jd_X_draftCellByCell_166 : decode jc_X_draftCellByCell 166 = .ok (.getfield 93, 3) := by decide +kernel
theorem jd_X_draftCellByCell_169 : decode jc_X_draftCellByCell 169 = .ok (.aload 5, 2) := by decide +kernel
theorem jd_X_draftCellByCell_171 : decode jc_X_draftCellByCell 171 = .ok (.getfield 93, 3) := by decide +kernel
theorem jd_X_draftCellByCell_174 : decode jc_X_draftCellByCell 174 = .ok (.invokevirtual 269, 3) := by decide +kernel
theorem jd_X_draftCellByCell_177 : decode jc_X_draftCellByCell 177 = .ok (.ireturn, 1) := by decide +kernel
abbrev jc_X_draftMatrixProduct : ByteArray := prog_1_method_20_code
abbrev jy_X_draftMatrixProduct : MethodName := ⟨"MeasuredTensors", "draftMatrixProduct", "(LMeasuredTensors$Tensor;LMeasuredTensors$Tensor;)Z"⟩
theorem jd_X_draftMatrixProduct_0 : decode jc_X_draftMatrixProduct 0 = .ok (.aload_n 1, 1) := by decide +kernel
theorem jd_X_draftMatrixProduct_1 : decode jc_X_draftMatrixProduct 1 = .ok (.getfield 93, 3) := by decide +kernel
theorem jd_X_draftMatrixProduct_4 : decode jc_X_draftMatrixProduct 4 = .ok (.astore_n 3, 1) := by decide +kernel
theorem jd_X_draftMatrixProduct_5 : decode jc_X_draftMatrixProduct 5 = .ok (.aload_n 2, 1) := by decide +kernel
theorem jd_X_draftMatrixProduct_6 : decode jc_X_draftMatrixProduct 6 = .ok (.getfield 93, 3) := by decide +kernel
theorem jd_X_draftMatrixProduct_9 : decode jc_X_draftMatrixProduct 9 = .ok (.astore 4, 2) := by decide +kernel
theorem jd_X_draftMatrixProduct_11 : decode jc_X_draftMatrixProduct 11 = .ok (.aload_n 3, 1) := by decide +kernel
theorem jd_X_draftMatrixProduct_12 : decode jc_X_draftMatrixProduct 12 = .ok (.getfield 187, 3) := by decide +kernel
theorem jd_X_draftMatrixProduct_15 : decode jc_X_draftMatrixProduct 15 = .ok (.iconst 1, 1) := by decide +kernel
theorem jd_X_draftMatrixProduct_16 : decode jc_X_draftMatrixProduct 16 = .ok (.if_icmp .lt 48, 3) := by decide +kernel
theorem jd_X_draftMatrixProduct_19 : decode jc_X_draftMatrixProduct 19 = .ok (.aload_n 3, 1) := by decide +kernel
theorem jd_X_draftMatrixProduct_20 : decode jc_X_draftMatrixProduct 20 = .ok (.getfield 187, 3) := by decide +kernel
theorem jd_X_draftMatrixProduct_23 : decode jc_X_draftMatrixProduct 23 = .ok (.iconst 2, 1) := by decide +kernel
theorem jd_X_draftMatrixProduct_24 : decode jc_X_draftMatrixProduct 24 = .ok (.if_icmp .gt 40, 3) := by decide +kernel
theorem jd_X_draftMatrixProduct_27 : decode jc_X_draftMatrixProduct 27 = .ok (.aload 4, 2) := by decide +kernel
theorem jd_X_draftMatrixProduct_29 : decode jc_X_draftMatrixProduct 29 = .ok (.getfield 187, 3) := by decide +kernel
theorem jd_X_draftMatrixProduct_32 : decode jc_X_draftMatrixProduct 32 = .ok (.iconst 1, 1) := by decide +kernel
theorem jd_X_draftMatrixProduct_33 : decode jc_X_draftMatrixProduct 33 = .ok (.if_icmp .lt 31, 3) := by decide +kernel
theorem jd_X_draftMatrixProduct_36 : decode jc_X_draftMatrixProduct 36 = .ok (.aload 4, 2) := by decide +kernel
theorem jd_X_draftMatrixProduct_38 : decode jc_X_draftMatrixProduct 38 = .ok (.getfield 187, 3) := by decide +kernel
theorem jd_X_draftMatrixProduct_41 : decode jc_X_draftMatrixProduct 41 = .ok (.iconst 2, 1) := by decide +kernel
theorem jd_X_draftMatrixProduct_42 : decode jc_X_draftMatrixProduct 42 = .ok (.if_icmp .gt 22, 3) := by decide +kernel
theorem jd_X_draftMatrixProduct_45 : decode jc_X_draftMatrixProduct 45 = .ok (.aload_n 3, 1) := by decide +kernel
theorem jd_X_draftMatrixProduct_46 : decode jc_X_draftMatrixProduct 46 = .ok (.aload_n 3, 1) := by decide +kernel
theorem jd_X_draftMatrixProduct_47 : decode jc_X_draftMatrixProduct 47 = .ok (.getfield 187, 3) := by decide +kernel
theorem jd_X_draftMatrixProduct_50 : decode jc_X_draftMatrixProduct 50 = .ok (.iconst 1, 1) := by decide +kernel
theorem jd_X_draftMatrixProduct_51 : decode jc_X_draftMatrixProduct 51 = .ok (.isub, 1) := by decide +kernel
theorem jd_X_draftMatrixProduct_52 : decode jc_X_draftMatrixProduct 52 = .ok (.invokevirtual 212, 3) := by decide +kernel
theorem jd_X_draftMatrixProduct_55 : decode jc_X_draftMatrixProduct 55 = .ok (.aload 4, 2) := by decide +kernel
theorem jd_X_draftMatrixProduct_57 : decode jc_X_draftMatrixProduct 57 = .ok (.iconst 0, 1) := by decide +kernel
theorem jd_X_draftMatrixProduct_58 : decode jc_X_draftMatrixProduct 58 = .ok (.invokevirtual 212, 3) := by decide +kernel
theorem jd_X_draftMatrixProduct_61 : decode jc_X_draftMatrixProduct 61 = .ok (.if_icmp .eq 5, 3) := by decide +kernel
theorem jd_X_draftMatrixProduct_64 : decode jc_X_draftMatrixProduct 64 = .ok (.iconst 0, 1) := by decide +kernel
theorem jd_X_draftMatrixProduct_65 : decode jc_X_draftMatrixProduct 65 = .ok (.ireturn, 1) := by decide +kernel
theorem jd_X_draftMatrixProduct_66 : decode jc_X_draftMatrixProduct 66 = .ok (.aload_n 3, 1) := by decide +kernel
theorem jd_X_draftMatrixProduct_67 : decode jc_X_draftMatrixProduct 67 = .ok (.getfield 187, 3) := by decide +kernel
theorem jd_X_draftMatrixProduct_70 : decode jc_X_draftMatrixProduct 70 = .ok (.iconst 2, 1) := by decide +kernel
theorem jd_X_draftMatrixProduct_71 : decode jc_X_draftMatrixProduct 71 = .ok (.if_icmp .ne 11, 3) := by decide +kernel
theorem jd_X_draftMatrixProduct_74 : decode jc_X_draftMatrixProduct 74 = .ok (.aload_n 3, 1) := by decide +kernel
theorem jd_X_draftMatrixProduct_75 : decode jc_X_draftMatrixProduct 75 = .ok (.iconst 0, 1) := by decide +kernel
theorem jd_X_draftMatrixProduct_76 : decode jc_X_draftMatrixProduct 76 = .ok (.invokevirtual 212, 3) := by decide +kernel
theorem jd_X_draftMatrixProduct_79 : decode jc_X_draftMatrixProduct 79 = .ok (.goto 4, 3) := by decide +kernel
theorem jd_X_draftMatrixProduct_82 : decode jc_X_draftMatrixProduct 82 = .ok (.iconst 1, 1) := by decide +kernel
theorem jd_X_draftMatrixProduct_83 : decode jc_X_draftMatrixProduct 83 = .ok (.istore 5, 2) := by decide +kernel
theorem jd_X_draftMatrixProduct_85 : decode jc_X_draftMatrixProduct 85 = .ok (.aload 4, 2) := by decide +kernel
theorem jd_X_draftMatrixProduct_87 : decode jc_X_draftMatrixProduct 87 = .ok (.iconst 1, 1) := by decide +kernel
theorem jd_X_draftMatrixProduct_88 : decode jc_X_draftMatrixProduct 88 = .ok (.invokevirtual 212, 3) := by decide +kernel
theorem jd_X_draftMatrixProduct_91 : decode jc_X_draftMatrixProduct 91 = .ok (.istore 6, 2) := by decide +kernel
theorem jd_X_draftMatrixProduct_93 : decode jc_X_draftMatrixProduct 93 = .ok (.aload_n 3, 1) := by decide +kernel
theorem jd_X_draftMatrixProduct_94 : decode jc_X_draftMatrixProduct 94 = .ok (.getfield 187, 3) := by decide +kernel
theorem jd_X_draftMatrixProduct_97 : decode jc_X_draftMatrixProduct 97 = .ok (.iconst 2, 1) := by decide +kernel
theorem jd_X_draftMatrixProduct_98 : decode jc_X_draftMatrixProduct 98 = .ok (.if_icmp .ne 15, 3) := by decide +kernel
theorem jd_X_draftMatrixProduct_101 : decode jc_X_draftMatrixProduct 101 = .ok (.aload_n 0, 1) := by decide +kernel
theorem jd_X_draftMatrixProduct_102 : decode jc_X_draftMatrixProduct 102 = .ok (.getfield 32, 3) := by decide +kernel
theorem jd_X_draftMatrixProduct_105 : decode jc_X_draftMatrixProduct 105 = .ok (.getfield 93, 3) := by decide +kernel
theorem jd_X_draftMatrixProduct_108 : decode jc_X_draftMatrixProduct 108 = .ok (.iload 5, 2) := by decide +kernel
theorem jd_X_draftMatrixProduct_110 : decode jc_X_draftMatrixProduct 110 = .ok (.invokevirtual 273, 3) := by decide +kernel
theorem jd_X_draftMatrixProduct_113 : decode jc_X_draftMatrixProduct 113 = .ok (.aload 4, 2) := by decide +kernel
theorem jd_X_draftMatrixProduct_115 : decode jc_X_draftMatrixProduct 115 = .ok (.getfield 187, 3) := by decide +kernel
theorem jd_X_draftMatrixProduct_118 : decode jc_X_draftMatrixProduct 118 = .ok (.iconst 2, 1) := by decide +kernel
theorem jd_X_draftMatrixProduct_119 : decode jc_X_draftMatrixProduct 119 = .ok (.if_icmp .ne 15, 3) := by decide +kernel
theorem jd_X_draftMatrixProduct_122 : decode jc_X_draftMatrixProduct 122 = .ok (.aload_n 0, 1) := by decide +kernel
theorem jd_X_draftMatrixProduct_123 : decode jc_X_draftMatrixProduct 123 = .ok (.getfield 32, 3) := by decide +kernel
theorem jd_X_draftMatrixProduct_126 : decode jc_X_draftMatrixProduct 126 = .ok (.getfield 93, 3) := by decide +kernel
theorem jd_X_draftMatrixProduct_129 : decode jc_X_draftMatrixProduct 129 = .ok (.iload 6, 2) := by decide +kernel
theorem jd_X_draftMatrixProduct_131 : decode jc_X_draftMatrixProduct 131 = .ok (.invokevirtual 273, 3) := by decide +kernel
theorem jd_X_draftMatrixProduct_134 : decode jc_X_draftMatrixProduct 134 = .ok (.aload_n 0, 1) := by decide +kernel
theorem jd_X_draftMatrixProduct_135 : decode jc_X_draftMatrixProduct 135 = .ok (.getfield 32, 3) := by decide +kernel
theorem jd_X_draftMatrixProduct_138 : decode jc_X_draftMatrixProduct 138 = .ok (.iload 6, 2) := by decide +kernel
theorem jd_X_draftMatrixProduct_140 : decode jc_X_draftMatrixProduct 140 = .ok (.putfield 250, 3) := by decide +kernel
theorem jd_X_draftMatrixProduct_143 : decode jc_X_draftMatrixProduct 143 = .ok (.aload_n 0, 1) := by decide +kernel
theorem jd_X_draftMatrixProduct_144 : decode jc_X_draftMatrixProduct 144 = .ok (.getfield 32, 3) := by decide +kernel
theorem jd_X_draftMatrixProduct_147 : decode jc_X_draftMatrixProduct 147 = .ok (.iload 5, 2) := by decide +kernel
theorem jd_X_draftMatrixProduct_149 : decode jc_X_draftMatrixProduct 149 = .ok (.putfield 253, 3) := by decide +kernel
theorem jd_X_draftMatrixProduct_152 : decode jc_X_draftMatrixProduct 152 = .ok (.aload_n 0, 1) := by decide +kernel
theorem jd_X_draftMatrixProduct_153 : decode jc_X_draftMatrixProduct 153 = .ok (.aload 4, 2) := by decide +kernel
theorem jd_X_draftMatrixProduct_155 : decode jc_X_draftMatrixProduct 155 = .ok (.iconst 0, 1) := by decide +kernel
theorem jd_X_draftMatrixProduct_156 : decode jc_X_draftMatrixProduct 156 = .ok (.invokevirtual 212, 3) := by decide +kernel
theorem jd_X_draftMatrixProduct_159 : decode jc_X_draftMatrixProduct 159 = .ok (.aload_n 1, 1) := by decide +kernel
theorem jd_X_draftMatrixProduct_160 : decode jc_X_draftMatrixProduct 160 = .ok (.aload_n 2, 1) := by decide +kernel
theorem jd_X_draftMatrixProduct_161 : decode jc_X_draftMatrixProduct 161 = .ok (.invokevirtual 276, 3) := by decide +kernel
theorem jd_X_draftMatrixProduct_164 : decode jc_X_draftMatrixProduct 164 = .ok (.iconst 1, 1) := by decide +kernel
theorem jd_X_draftMatrixProduct_165 : decode jc_X_draftMatrixProduct 165 = .ok (.ireturn, 1) := by decide +kernel
abbrev jc_X_draftProducts : ByteArray := prog_1_method_21_code
abbrev jy_X_draftProducts : MethodName := ⟨"MeasuredTensors", "draftProducts", "(ILMeasuredTensors$Tensor;LMeasuredTensors$Tensor;)V"⟩
theorem jd_X_draftProducts_0 : decode jc_X_draftProducts 0 = .ok (.aload_n 0, 1) := by decide +kernel
theorem jd_X_draftProducts_1 : decode jc_X_draftProducts 1 = .ok (.getfield 32, 3) := by decide +kernel
theorem jd_X_draftProducts_4 : decode jc_X_draftProducts 4 = .ok (.iload_n 1, 1) := by decide +kernel
theorem jd_X_draftProducts_5 : decode jc_X_draftProducts 5 = .ok (.putfield 215, 3) := by decide +kernel
theorem jd_X_draftProducts_8 : decode jc_X_draftProducts 8 = .ok (.aload_n 0, 1) := by decide +kernel
theorem jd_X_draftProducts_9 : decode jc_X_draftProducts 9 = .ok (.getfield 32, 3) := by decide +kernel
theorem jd_X_draftProducts_12 : decode jc_X_draftProducts 12 = .ok (.getfield 73, 3) := by decide +kernel
theorem jd_X_draftProducts_15 : decode jc_X_draftProducts 15 = .ok (.aload_n 2, 1) := by decide +kernel
theorem jd_X_draftProducts_16 : decode jc_X_draftProducts 16 = .ok (.getfield 73, 3) := by decide +kernel
theorem jd_X_draftProducts_19 : decode jc_X_draftProducts 19 = .ok (.invokevirtual 280, 3) := by decide +kernel
theorem jd_X_draftProducts_22 : decode jc_X_draftProducts 22 = .ok (.aload_n 0, 1) := by decide +kernel
theorem jd_X_draftProducts_23 : decode jc_X_draftProducts 23 = .ok (.getfield 32, 3) := by decide +kernel
theorem jd_X_draftProducts_26 : decode jc_X_draftProducts 26 = .ok (.getfield 73, 3) := by decide +kernel
theorem jd_X_draftProducts_29 : decode jc_X_draftProducts 29 = .ok (.aload_n 3, 1) := by decide +kernel
theorem jd_X_draftProducts_30 : decode jc_X_draftProducts 30 = .ok (.getfield 73, 3) := by decide +kernel
theorem jd_X_draftProducts_33 : decode jc_X_draftProducts 33 = .ok (.invokevirtual 256, 3) := by decide +kernel
theorem jd_X_draftProducts_36 : decode jc_X_draftProducts 36 = .ok (.aload_n 0, 1) := by decide +kernel
theorem jd_X_draftProducts_37 : decode jc_X_draftProducts 37 = .ok (.getfield 32, 3) := by decide +kernel
theorem jd_X_draftProducts_40 : decode jc_X_draftProducts 40 = .ok (.getfield 73, 3) := by decide +kernel
theorem jd_X_draftProducts_43 : decode jc_X_draftProducts 43 = .ok (.iload_n 1, 1) := by decide +kernel
theorem jd_X_draftProducts_44 : decode jc_X_draftProducts 44 = .ok (.invokestatic 283, 3) := by decide +kernel
theorem jd_X_draftProducts_47 : decode jc_X_draftProducts 47 = .ok (.invokevirtual 265, 3) := by decide +kernel
theorem jd_X_draftProducts_50 : decode jc_X_draftProducts 50 = .ok (.aload_n 0, 1) := by decide +kernel
theorem jd_X_draftProducts_51 : decode jc_X_draftProducts 51 = .ok (.getfield 32, 3) := by decide +kernel
theorem jd_X_draftProducts_54 : decode jc_X_draftProducts 54 = .ok (.iconst 2, 1) := by decide +kernel
theorem jd_X_draftProducts_55 : decode jc_X_draftProducts 55 = .ok (.putfield 259, 3) := by decide +kernel
theorem jd_X_draftProducts_58 : decode jc_X_draftProducts 58 = .ok (.return_, 1) := by decide +kernel
abbrev jc_X_argumentsOf : ByteArray := prog_1_method_22_code
abbrev jy_X_argumentsOf : MethodName := ⟨"MeasuredTensors", "argumentsOf", "(I)I"⟩
theorem jd_X_argumentsOf_0 : decode jc_X_argumentsOf 0 = .ok (.iload_n 0, 1) := by decide +kernel
theorem jd_X_argumentsOf_1 : decode jc_X_argumentsOf 1 = .ok (.tableswitch 95 0 18 #[91, 91, 91, 91, 91, 91, 91, 91, 93, 91, 91, 95, 91, 91, 93, 91, 93, 93, 93], 91) := by decide +kernel
theorem jd_X_argumentsOf_92 : decode jc_X_argumentsOf 92 = .ok (.iconst 1, 1) := by decide +kernel
theorem jd_X_argumentsOf_93 : decode jc_X_argumentsOf 93 = .ok (.ireturn, 1) := by decide +kernel
theorem jd_X_argumentsOf_94 : decode jc_X_argumentsOf 94 = .ok (.iconst 2, 1) := by decide +kernel
theorem jd_X_argumentsOf_95 : decode jc_X_argumentsOf 95 = .ok (.ireturn, 1) := by decide +kernel
theorem jd_X_argumentsOf_96 : decode jc_X_argumentsOf 96 = .ok (.iconst 0, 1) := by decide +kernel
theorem jd_X_argumentsOf_97 : decode jc_X_argumentsOf 97 = .ok (.ireturn, 1) := by decide +kernel
abbrev jc_X_fewestNumbersOf : ByteArray := prog_1_method_23_code
abbrev jy_X_fewestNumbersOf : MethodName := ⟨"MeasuredTensors", "fewestNumbersOf", "(I)I"⟩
theorem jd_X_fewestNumbersOf_0 : decode jc_X_fewestNumbersOf 0 = .ok (.iload_n 0, 1) := by decide +kernel
theorem jd_X_fewestNumbersOf_1 : decode jc_X_fewestNumbersOf 1 = .ok (.iconst 5, 1) := by decide +kernel
theorem jd_X_fewestNumbersOf_2 : decode jc_X_fewestNumbersOf 2 = .ok (.if_icmp .eq 9, 3) := by decide +kernel
theorem jd_X_fewestNumbersOf_5 : decode jc_X_fewestNumbersOf 5 = .ok (.iload_n 0, 1) := by decide +kernel
theorem jd_X_fewestNumbersOf_6 : decode jc_X_fewestNumbersOf 6 = .ok (.bipush 6, 2) := by decide +kernel
theorem jd_X_fewestNumbersOf_8 : decode jc_X_fewestNumbersOf 8 = .ok (.if_icmp .ne 7, 3) := by decide +kernel
theorem jd_X_fewestNumbersOf_11 : decode jc_X_fewestNumbersOf 11 = .ok (.iconst 0, 1) := by decide +kernel
theorem jd_X_fewestNumbersOf_12 : decode jc_X_fewestNumbersOf 12 = .ok (.goto 7, 3) := by decide +kernel
theorem jd_X_fewestNumbersOf_15 : decode jc_X_fewestNumbersOf 15 = .ok (.iload_n 0, 1) := by decide +kernel
theorem jd_X_fewestNumbersOf_16 : decode jc_X_fewestNumbersOf 16 = .ok (.invokestatic 168, 3) := by decide +kernel
theorem jd_X_fewestNumbersOf_19 : decode jc_X_fewestNumbersOf 19 = .ok (.ireturn, 1) := by decide +kernel
abbrev jc_X_mostNumbersOf : ByteArray := prog_1_method_24_code
abbrev jy_X_mostNumbersOf : MethodName := ⟨"MeasuredTensors", "mostNumbersOf", "(I)I"⟩
theorem jd_X_mostNumbersOf_0 : decode jc_X_mostNumbersOf 0 = .ok (.iload_n 0, 1) := by decide +kernel
theorem jd_X_mostNumbersOf_1 : decode jc_X_mostNumbersOf 1 = .ok (.tableswitch 63 5 15 #[59, 59, 59, 59, 59, 59, 63, 63, 61, 63, 59], 59) := by decide +kernel
theorem jd_X_mostNumbersOf_60 : decode jc_X_mostNumbersOf 60 = .ok (.iconst 1, 1) := by decide +kernel
theorem jd_X_mostNumbersOf_61 : decode jc_X_mostNumbersOf 61 = .ok (.ireturn, 1) := by decide +kernel
theorem jd_X_mostNumbersOf_62 : decode jc_X_mostNumbersOf 62 = .ok (.iconst 2, 1) := by decide +kernel
theorem jd_X_mostNumbersOf_63 : decode jc_X_mostNumbersOf 63 = .ok (.ireturn, 1) := by decide +kernel
theorem jd_X_mostNumbersOf_64 : decode jc_X_mostNumbersOf 64 = .ok (.iconst 0, 1) := by decide +kernel
theorem jd_X_mostNumbersOf_65 : decode jc_X_mostNumbersOf 65 = .ok (.ireturn, 1) := by decide +kernel
abbrev jc_X_draftOfOne : ByteArray := prog_1_method_25_code
abbrev jy_X_draftOfOne : MethodName := ⟨"MeasuredTensors", "draftOfOne", "(ILMeasuredTensors$Tensor;III)Z"⟩
theorem jd_X_draftOfOne_0 : decode jc_X_draftOfOne 0 = .ok (.iload_n 1, 1) := by decide +kernel
theorem jd_X_draftOfOne_1 : decode jc_X_draftOfOne 1 = .ok (.tableswitch 245 2 15 #[71, 95, 118, 128, 128, 150, 245, 163, 163, 245, 175, 221, 245, 234], 71) := by decide +kernel
theorem jd_X_draftOfOne_72 : decode jc_X_draftOfOne 72 = .ok (.aload_n 0, 1) := by decide +kernel
theorem jd_X_draftOfOne_73 : decode jc_X_draftOfOne 73 = .ok (.getfield 32, 3) := by decide +kernel
theorem jd_X_draftOfOne_76 : decode jc_X_draftOfOne 76 = .ok (.getfield 73, 3) := by decide +kernel
theorem jd_X_draftOfOne_79 : decode jc_X_draftOfOne 79 = .ok (.aload_n 2, 1) := by decide +kernel
theorem jd_X_draftOfOne_80 : decode jc_X_draftOfOne 80 = .ok (.getfield 73, 3) := by decide +kernel
theorem jd_X_draftOfOne_83 : decode jc_X_draftOfOne 83 = .ok (.invokevirtual 256, 3) := by decide +kernel
theorem jd_X_draftOfOne_86 : decode jc_X_draftOfOne 86 = .ok (.aload_n 0, 1) := by decide +kernel
theorem jd_X_draftOfOne_87 : decode jc_X_draftOfOne 87 = .ok (.getfield 32, 3) := by decide +kernel
theorem jd_X_draftOfOne_90 : decode jc_X_draftOfOne 90 = .ok (.iconst 3, 1) := by decide +kernel
theorem jd_X_draftOfOne_91 : decode jc_X_draftOfOne 91 = .ok (.putfield 259, 3) := by decide +kernel
theorem jd_X_draftOfOne_94 : decode jc_X_draftOfOne 94 = .ok (.iconst 1, 1) := by decide +kernel
theorem jd_X_draftOfOne_95 : decode jc_X_draftOfOne 95 = .ok (.ireturn, 1) := by decide +kernel
theorem jd_X_draftOfOne_96 : decode jc_X_draftOfOne 96 = .ok (.aload_n 0, 1) := by decide +kernel
theorem jd_X_draftOfOne_97 : decode jc_X_draftOfOne 97 = .ok (.getfield 32, 3) := by decide +kernel
theorem jd_X_draftOfOne_100 : decode jc_X_draftOfOne 100 = .ok (.getfield 73, 3) := by decide +kernel
theorem jd_X_draftOfOne_103 : decode jc_X_draftOfOne 103 = .ok (.iconst 1, 1) := by decide +kernel
theorem jd_X_draftOfOne_104 : decode jc_X_draftOfOne 104 = .ok (.iconst 0, 1) := by decide +kernel
theorem jd_X_draftOfOne_105 : decode jc_X_draftOfOne 105 = .ok (.lconst 1, 1) := by decide +kernel
theorem jd_X_draftOfOne_106 : decode jc_X_draftOfOne 106 = .ok (.invokevirtual 79, 3) := by decide +kernel
theorem jd_X_draftOfOne_109 : decode jc_X_draftOfOne 109 = .ok (.aload_n 0, 1) := by decide +kernel
theorem jd_X_draftOfOne_110 : decode jc_X_draftOfOne 110 = .ok (.getfield 32, 3) := by decide +kernel
theorem jd_X_draftOfOne_113 : decode jc_X_draftOfOne 113 = .ok (.iconst 1, 1) := by decide +kernel
theorem jd_X_draftOfOne_114 : decode jc_X_draftOfOne 114 = .ok (.putfield 259, 3) := by decide +kernel
theorem jd_X_draftOfOne_117 : decode jc_X_draftOfOne 117 = .ok (.iconst 1, 1) := by decide +kernel
theorem jd_X_draftOfOne_118 : decode jc_X_draftOfOne 118 = .ok (.ireturn, 1) := by decide +kernel
theorem jd_X_draftOfOne_119 : decode jc_X_draftOfOne 119 = .ok (.aload_n 0, 1) := by decide +kernel
theorem jd_X_draftOfOne_120 : decode jc_X_draftOfOne 120 = .ok (.getfield 32, 3) := by decide +kernel
theorem jd_X_draftOfOne_123 : decode jc_X_draftOfOne 123 = .ok (.iconst 1, 1) := by decide +kernel
theorem jd_X_draftOfOne_124 : decode jc_X_draftOfOne 124 = .ok (.putfield 259, 3) := by decide +kernel
theorem jd_X_draftOfOne_127 : decode jc_X_draftOfOne 127 = .ok (.iconst 1, 1) := by decide +kernel
theorem jd_X_draftOfOne_128 : decode jc_X_draftOfOne 128 = .ok (.ireturn, 1) := by decide +kernel
theorem jd_X_draftOfOne_129 : decode jc_X_draftOfOne 129 = .ok (.iload_n 3, 1) := by decide +kernel
theorem jd_X_draftOfOne_130 : decode jc_X_draftOfOne 130 = .ok (.ifCond .ne 12, 3) := by decide +kernel
theorem jd_X_draftOfOne_133 : decode jc_X_draftOfOne 133 = .ok (.aload_n 0, 1) := by decide +kernel
theorem jd_X_draftOfOne_134 : decode jc_X_draftOfOne 134 = .ok (.iload_n 1, 1) := by decide +kernel
theorem jd_X_draftOfOne_135 : decode jc_X_draftOfOne 135 = .ok (.aload_n 2, 1) := by decide +kernel
theorem jd_X_draftOfOne_136 : decode jc_X_draftOfOne 136 = .ok (.invokevirtual 286, 3) := by decide +kernel
theorem jd_X_draftOfOne_139 : decode jc_X_draftOfOne 139 = .ok (.goto 11, 3) := by decide +kernel
theorem jd_X_draftOfOne_142 : decode jc_X_draftOfOne 142 = .ok (.aload_n 0, 1) := by decide +kernel
theorem jd_X_draftOfOne_143 : decode jc_X_draftOfOne 143 = .ok (.iload_n 1, 1) := by decide +kernel
theorem jd_X_draftOfOne_144 : decode jc_X_draftOfOne 144 = .ok (.aload_n 2, 1) := by decide +kernel
theorem jd_X_draftOfOne_145 : decode jc_X_draftOfOne 145 = .ok (.iload 4, 2) := by decide +kernel
theorem jd_X_draftOfOne_147 : decode jc_X_draftOfOne 147 = .ok (.invokevirtual 290, 3) := by decide +kernel
theorem jd_X_draftOfOne_150 : decode jc_X_draftOfOne 150 = .ok (.ireturn, 1) := by decide +kernel
theorem jd_X_draftOfOne_151 : decode jc_X_draftOfOne 151 = .ok (.aload_n 0, 1) := by decide +kernel
theorem jd_X_draftOfOne_152 : decode jc_X_draftOfOne 152 = .ok (.getfield 32, 3) := by decide +kernel
theorem jd_X_draftOfOne_155 : decode jc_X_draftOfOne 155 = .ok (.getfield 93, 3) := by decide +kernel
theorem jd_X_draftOfOne_158 : decode jc_X_draftOfOne 158 = .ok (.iload 4, 2) := by decide +kernel
theorem jd_X_draftOfOne_160 : decode jc_X_draftOfOne 160 = .ok (.invokevirtual 294, 3) := by decide +kernel
theorem jd_X_draftOfOne_163 : decode jc_X_draftOfOne 163 = .ok (.ireturn, 1) := by decide +kernel
theorem jd_X_draftOfOne_164 : decode jc_X_draftOfOne 164 = .ok (.aload_n 0, 1) := by decide +kernel
theorem jd_X_draftOfOne_165 : decode jc_X_draftOfOne 165 = .ok (.iload_n 1, 1) := by decide +kernel
theorem jd_X_draftOfOne_166 : decode jc_X_draftOfOne 166 = .ok (.aload_n 2, 1) := by decide +kernel
theorem jd_X_draftOfOne_167 : decode jc_X_draftOfOne 167 = .ok (.getfield 93, 3) := by decide +kernel
theorem jd_X_draftOfOne_170 : decode jc_X_draftOfOne 170 = .ok (.iload 4, 2) := by decide +kernel
theorem jd_X_draftOfOne_172 : decode jc_X_draftOfOne 172 = .ok (.invokevirtual 297, 3) := by decide +kernel
theorem jd_X_draftOfOne_175 : decode jc_X_draftOfOne 175 = .ok (.ireturn, 1) := by decide +kernel
theorem jd_X_draftOfOne_176 : decode jc_X_draftOfOne 176 = .ok (.aload_n 0, 1) := by decide +kernel
theorem jd_X_draftOfOne_177 : decode jc_X_draftOfOne 177 = .ok (.getfield 32, 3) := by decide +kernel
theorem jd_X_draftOfOne_180 : decode jc_X_draftOfOne 180 = .ok (.getfield 93, 3) := by decide +kernel
theorem jd_X_draftOfOne_183 : decode jc_X_draftOfOne 183 = .ok (.iconst 2, 1) := by decide +kernel
theorem jd_X_draftOfOne_184 : decode jc_X_draftOfOne 184 = .ok (.aload_n 2, 1) := by decide +kernel
theorem jd_X_draftOfOne_185 : decode jc_X_draftOfOne 185 = .ok (.getfield 93, 3) := by decide +kernel
theorem jd_X_draftOfOne_188 : decode jc_X_draftOfOne 188 = .ok (.iconst 1, 1) := by decide +kernel
theorem jd_X_draftOfOne_189 : decode jc_X_draftOfOne 189 = .ok (.invokevirtual 212, 3) := by decide +kernel
theorem jd_X_draftOfOne_192 : decode jc_X_draftOfOne 192 = .ok (.aload_n 2, 1) := by decide +kernel
theorem jd_X_draftOfOne_193 : decode jc_X_draftOfOne 193 = .ok (.getfield 93, 3) := by decide +kernel
theorem jd_X_draftOfOne_196 : decode jc_X_draftOfOne 196 = .ok (.iconst 0, 1) := by decide +kernel
theorem jd_X_draftOfOne_197 : decode jc_X_draftOfOne 197 = .ok (.invokevirtual 212, 3) := by decide +kernel
theorem jd_X_draftOfOne_200 : decode jc_X_draftOfOne 200 = .ok (.iconst 1, 1) := by decide +kernel
theorem jd_X_draftOfOne_201 : decode jc_X_draftOfOne 201 = .ok (.iconst 1, 1) := by decide +kernel
theorem jd_X_draftOfOne_202 : decode jc_X_draftOfOne 202 = .ok (.invokevirtual 97, 3) := by decide +kernel
theorem jd_X_draftOfOne_205 : decode jc_X_draftOfOne 205 = .ok (.aload_n 2, 1) := by decide +kernel
theorem jd_X_draftOfOne_206 : decode jc_X_draftOfOne 206 = .ok (.getfield 93, 3) := by decide +kernel
theorem jd_X_draftOfOne_209 : decode jc_X_draftOfOne 209 = .ok (.getfield 187, 3) := by decide +kernel
theorem jd_X_draftOfOne_212 : decode jc_X_draftOfOne 212 = .ok (.iconst 2, 1) := by decide +kernel
theorem jd_X_draftOfOne_213 : decode jc_X_draftOfOne 213 = .ok (.if_icmp .ne 7, 3) := by decide +kernel
theorem jd_X_draftOfOne_216 : decode jc_X_draftOfOne 216 = .ok (.iconst 1, 1) := by decide +kernel
theorem jd_X_draftOfOne_217 : decode jc_X_draftOfOne 217 = .ok (.goto 4, 3) := by decide +kernel
theorem jd_X_draftOfOne_220 : decode jc_X_draftOfOne 220 = .ok (.iconst 0, 1) := by decide +kernel
theorem jd_X_draftOfOne_221 : decode jc_X_draftOfOne 221 = .ok (.ireturn, 1) := by decide +kernel
theorem jd_X_draftOfOne_222 : decode jc_X_draftOfOne 222 = .ok (.aload_n 0, 1) := by decide +kernel
theorem jd_X_draftOfOne_223 : decode jc_X_draftOfOne 223 = .ok (.aload_n 2, 1) := by decide +kernel
theorem jd_X_draftOfOne_224 : decode jc_X_draftOfOne 224 = .ok (.getfield 93, 3) := by decide +kernel
theorem jd_X_draftOfOne_227 : decode jc_X_draftOfOne 227 = .ok (.iload 4, 2) := by decide +kernel
theorem jd_X_draftOfOne_229 : decode jc_X_draftOfOne 229 = .ok (.iload 5, 2) := by decide +kernel
theorem jd_X_draftOfOne_231 : decode jc_X_draftOfOne 231 = .ok (.invokevirtual 301, 3) := by decide +kernel
theorem jd_X_draftOfOne_234 : decode jc_X_draftOfOne 234 = .ok (.ireturn, 1) := by decide +kernel
theorem jd_X_draftOfOne_235 : decode jc_X_draftOfOne 235 = .ok (.aload_n 0, 1) := by decide +kernel
theorem jd_X_draftOfOne_236 : decode jc_X_draftOfOne 236 = .ok (.aload_n 2, 1) := by decide +kernel
theorem jd_X_draftOfOne_237 : decode jc_X_draftOfOne 237 = .ok (.getfield 93, 3) := by decide +kernel
theorem jd_X_draftOfOne_240 : decode jc_X_draftOfOne 240 = .ok (.iload 4, 2) := by decide +kernel
theorem jd_X_draftOfOne_242 : decode jc_X_draftOfOne 242 = .ok (.invokevirtual 305, 3) := by decide +kernel
theorem jd_X_draftOfOne_245 : decode jc_X_draftOfOne 245 = .ok (.ireturn, 1) := by decide +kernel
theorem jd_X_draftOfOne_246 : decode jc_X_draftOfOne 246 = .ok (.iconst 1, 1) := by decide +kernel
theorem jd_X_draftOfOne_247 : decode jc_X_draftOfOne 247 = .ok (.ireturn, 1) := by decide +kernel
abbrev jc_X_draftTotal : ByteArray := prog_1_method_26_code
abbrev jy_X_draftTotal : MethodName := ⟨"MeasuredTensors", "draftTotal", "(ILMeasuredTensors$Tensor;)Z"⟩
theorem jd_X_draftTotal_0 : decode jc_X_draftTotal 0 = .ok (.aload_n 0, 1) := by decide +kernel
theorem jd_X_draftTotal_1 : decode jc_X_draftTotal 1 = .ok (.getfield 32, 3) := by decide +kernel
theorem jd_X_draftTotal_4 : decode jc_X_draftTotal 4 = .ok (.getfield 93, 3) := by decide +kernel
theorem jd_X_draftTotal_7 : decode jc_X_draftTotal 7 = .ok (.invokevirtual 309, 3) := by decide +kernel
theorem jd_X_draftTotal_10 : decode jc_X_draftTotal 10 = .ok (.aload_n 0, 1) := by decide +kernel
theorem jd_X_draftTotal_11 : decode jc_X_draftTotal 11 = .ok (.iload_n 1, 1) := by decide +kernel
theorem jd_X_draftTotal_12 : decode jc_X_draftTotal 12 = .ok (.aload_n 2, 1) := by decide +kernel
theorem jd_X_draftTotal_13 : decode jc_X_draftTotal 13 = .ok (.getfield 93, 3) := by decide +kernel
theorem jd_X_draftTotal_16 : decode jc_X_draftTotal 16 = .ok (.invokevirtual 114, 3) := by decide +kernel
theorem jd_X_draftTotal_19 : decode jc_X_draftTotal 19 = .ok (.invokevirtual 312, 3) := by decide +kernel
theorem jd_X_draftTotal_22 : decode jc_X_draftTotal 22 = .ok (.iconst 1, 1) := by decide +kernel
theorem jd_X_draftTotal_23 : decode jc_X_draftTotal 23 = .ok (.ireturn, 1) := by decide +kernel
abbrev jc_X_draftTotalAlong : ByteArray := prog_1_method_27_code
abbrev jy_X_draftTotalAlong : MethodName := ⟨"MeasuredTensors", "draftTotalAlong", "(ILMeasuredTensors$Tensor;I)Z"⟩
theorem jd_X_draftTotalAlong_0 : decode jc_X_draftTotalAlong 0 = .ok (.aload_n 0, 1) := by decide +kernel
theorem jd_X_draftTotalAlong_1 : decode jc_X_draftTotalAlong 1 = .ok (.iload_n 1, 1) := by decide +kernel
theorem jd_X_draftTotalAlong_2 : decode jc_X_draftTotalAlong 2 = .ok (.aload_n 2, 1) := by decide +kernel
theorem jd_X_draftTotalAlong_3 : decode jc_X_draftTotalAlong 3 = .ok (.getfield 93, 3) := by decide +kernel
theorem jd_X_draftTotalAlong_6 : decode jc_X_draftTotalAlong 6 = .ok (.iload_n 3, 1) := by decide +kernel
theorem jd_X_draftTotalAlong_7 : decode jc_X_draftTotalAlong 7 = .ok (.invokevirtual 212, 3) := by decide +kernel
theorem jd_X_draftTotalAlong_10 : decode jc_X_draftTotalAlong 10 = .ok (.invokevirtual 312, 3) := by decide +kernel
theorem jd_X_draftTotalAlong_13 : decode jc_X_draftTotalAlong 13 = .ok (.aload_n 0, 1) := by decide +kernel
theorem jd_X_draftTotalAlong_14 : decode jc_X_draftTotalAlong 14 = .ok (.getfield 32, 3) := by decide +kernel
theorem jd_X_draftTotalAlong_17 : decode jc_X_draftTotalAlong 17 = .ok (.getfield 93, 3) := by decide +kernel
theorem jd_X_draftTotalAlong_20 : decode jc_X_draftTotalAlong 20 = .ok (.iload_n 3, 1) := by decide +kernel
theorem jd_X_draftTotalAlong_21 : decode jc_X_draftTotalAlong 21 = .ok (.invokevirtual 294, 3) := by decide +kernel
theorem jd_X_draftTotalAlong_24 : decode jc_X_draftTotalAlong 24 = .ok (.ireturn, 1) := by decide +kernel
abbrev jc_X_addUp : ByteArray := prog_1_method_28_code
abbrev jy_X_addUp : MethodName := ⟨"MeasuredTensors", "addUp", "(II)V"⟩
theorem jd_X_addUp_0 : decode jc_X_addUp 0 = .ok (.aload_n 0, 1) := by decide +kernel
theorem jd_X_addUp_1 : decode jc_X_addUp 1 = .ok (.getfield 32, 3) := by decide +kernel
theorem jd_X_addUp_4 : decode jc_X_addUp 4 = .ok (.iload_n 2, 1) := by decide +kernel
theorem jd_X_addUp_5 : decode jc_X_addUp 5 = .ok (.putfield 215, 3) := by decide +kernel
theorem jd_X_addUp_8 : decode jc_X_addUp 8 = .ok (.aload_n 0, 1) := by decide +kernel
theorem jd_X_addUp_9 : decode jc_X_addUp 9 = .ok (.getfield 32, 3) := by decide +kernel
theorem jd_X_addUp_12 : decode jc_X_addUp 12 = .ok (.getfield 73, 3) := by decide +kernel
theorem jd_X_addUp_15 : decode jc_X_addUp 15 = .ok (.iload_n 2, 1) := by decide +kernel
theorem jd_X_addUp_16 : decode jc_X_addUp 16 = .ok (.invokestatic 283, 3) := by decide +kernel
theorem jd_X_addUp_19 : decode jc_X_addUp 19 = .ok (.invokevirtual 265, 3) := by decide +kernel
theorem jd_X_addUp_22 : decode jc_X_addUp 22 = .ok (.iload_n 1, 1) := by decide +kernel
theorem jd_X_addUp_23 : decode jc_X_addUp 23 = .ok (.iconst 5, 1) := by decide +kernel
theorem jd_X_addUp_24 : decode jc_X_addUp 24 = .ok (.if_icmp .eq 12, 3) := by decide +kernel
theorem jd_X_addUp_27 : decode jc_X_addUp 27 = .ok (.aload_n 0, 1) := by decide +kernel
theorem jd_X_addUp_28 : decode jc_X_addUp 28 = .ok (.getfield 32, 3) := by decide +kernel
theorem jd_X_addUp_31 : decode jc_X_addUp 31 = .ok (.iload_n 2, 1) := by decide +kernel
theorem jd_X_addUp_32 : decode jc_X_addUp 32 = .ok (.iconst 1, 1) := by decide +kernel
theorem jd_X_addUp_33 : decode jc_X_addUp 33 = .ok (.invokevirtual 147, 3) := by decide +kernel
theorem jd_X_addUp_36 : decode jc_X_addUp 36 = .ok (.return_, 1) := by decide +kernel
abbrev jc_X_draftSquares : ByteArray := prog_1_method_29_code
abbrev jy_X_draftSquares : MethodName := ⟨"MeasuredTensors", "draftSquares", "(ILMeasuredTensors$Shape;I)Z"⟩
theorem jd_X_draftSquares_0 : decode jc_X_draftSquares 0 = .ok (.aload_n 2, 1) := by decide +kernel
theorem jd_X_draftSquares_1 : decode jc_X_draftSquares 1 = .ok (.iconst 1, 1) := by decide +kernel
theorem jd_X_draftSquares_2 : decode jc_X_draftSquares 2 = .ok (.invokevirtual 212, 3) := by decide +kernel
theorem jd_X_draftSquares_5 : decode jc_X_draftSquares 5 = .ok (.istore 4, 2) := by decide +kernel
theorem jd_X_draftSquares_7 : decode jc_X_draftSquares 7 = .ok (.aload_n 2, 1) := by decide +kernel
theorem jd_X_draftSquares_8 : decode jc_X_draftSquares 8 = .ok (.iconst 2, 1) := by decide +kernel
theorem jd_X_draftSquares_9 : decode jc_X_draftSquares 9 = .ok (.invokevirtual 212, 3) := by decide +kernel
theorem jd_X_draftSquares_12 : decode jc_X_draftSquares 12 = .ok (.istore 5, 2) := by decide +kernel
theorem jd_X_draftSquares_14 : decode jc_X_draftSquares 14 = .ok (.aload_n 2, 1) := by decide +kernel
theorem jd_X_draftSquares_15 : decode jc_X_draftSquares 15 = .ok (.getfield 187, 3) := by decide +kernel
theorem jd_X_draftSquares_18 : decode jc_X_draftSquares 18 = .ok (.iconst 3, 1) := by decide +kernel
theorem jd_X_draftSquares_19 : decode jc_X_draftSquares 19 = .ok (.if_icmp .ne 22, 3) := by decide +kernel
theorem jd_X_draftSquares_22 : decode jc_X_draftSquares 22 = .ok (.iload_n 3, 1) := by decide +kernel
theorem jd_X_draftSquares_23 : decode jc_X_draftSquares 23 = .ok (.iconst 1, 1) := by decide +kernel
theorem jd_X_draftSquares_24 : decode jc_X_draftSquares 24 = .ok (.if_icmp .lt 17, 3) := by decide +kernel
theorem jd_X_draftSquares_27 : decode jc_X_draftSquares 27 = .ok (.iload 4, 2) := by decide +kernel
theorem jd_X_draftSquares_29 : decode jc_X_draftSquares 29 = .ok (.iload_n 3, 1) := by decide +kernel
theorem jd_X_draftSquares_30 : decode jc_X_draftSquares 30 = .ok (.irem, 1) := by decide +kernel
theorem jd_X_draftSquares_31 : decode jc_X_draftSquares 31 = .ok (.ifCond .ne 10, 3) := by decide +kernel
theorem jd_X_draftSquares_34 : decode jc_X_draftSquares 34 = .ok (.iload 5, 2) := by decide +kernel
theorem jd_X_draftSquares_36 : decode jc_X_draftSquares 36 = .ok (.iload_n 3, 1) := by decide +kernel
theorem jd_X_draftSquares_37 : decode jc_X_draftSquares 37 = .ok (.irem, 1) := by decide +kernel
theorem jd_X_draftSquares_38 : decode jc_X_draftSquares 38 = .ok (.ifCond .eq 5, 3) := by decide +kernel
theorem jd_X_draftSquares_41 : decode jc_X_draftSquares 41 = .ok (.iconst 0, 1) := by decide +kernel
theorem jd_X_draftSquares_42 : decode jc_X_draftSquares 42 = .ok (.ireturn, 1) := by decide +kernel
theorem jd_X_draftSquares_43 : decode jc_X_draftSquares 43 = .ok (.aload_n 0, 1) := by decide +kernel
theorem jd_X_draftSquares_44 : decode jc_X_draftSquares 44 = .ok (.getfield 32, 3) := by decide +kernel
theorem jd_X_draftSquares_47 : decode jc_X_draftSquares 47 = .ok (.getfield 93, 3) := by decide +kernel
theorem jd_X_draftSquares_50 : decode jc_X_draftSquares 50 = .ok (.iconst 3, 1) := by decide +kernel
theorem jd_X_draftSquares_51 : decode jc_X_draftSquares 51 = .ok (.aload_n 2, 1) := by decide +kernel
theorem jd_X_draftSquares_52 : decode jc_X_draftSquares 52 = .ok (.iconst 0, 1) := by decide +kernel
theorem jd_X_draftSquares_53 : decode jc_X_draftSquares 53 = .ok (.invokevirtual 212, 3) := by decide +kernel
theorem jd_X_draftSquares_56 : decode jc_X_draftSquares 56 = .ok (.iload 4, 2) := by decide +kernel
theorem jd_X_draftSquares_58 : decode jc_X_draftSquares 58 = .ok (.iload_n 3, 1) := by decide +kernel
theorem jd_X_draftSquares_59 : decode jc_X_draftSquares 59 = .ok (.idiv, 1) := by decide +kernel
theorem jd_X_draftSquares_60 : decode jc_X_draftSquares 60 = .ok (.iload 5, 2) := by decide +kernel
theorem jd_X_draftSquares_62 : decode jc_X_draftSquares 62 = .ok (.iload_n 3, 1) := by decide +kernel
theorem jd_X_draftSquares_63 : decode jc_X_draftSquares 63 = .ok (.idiv, 1) := by decide +kernel
theorem jd_X_draftSquares_64 : decode jc_X_draftSquares 64 = .ok (.iconst 1, 1) := by decide +kernel
theorem jd_X_draftSquares_65 : decode jc_X_draftSquares 65 = .ok (.invokevirtual 97, 3) := by decide +kernel
theorem jd_X_draftSquares_68 : decode jc_X_draftSquares 68 = .ok (.iload_n 1, 1) := by decide +kernel
theorem jd_X_draftSquares_69 : decode jc_X_draftSquares 69 = .ok (.bipush 9, 2) := by decide +kernel
theorem jd_X_draftSquares_71 : decode jc_X_draftSquares 71 = .ok (.if_icmp .ne 11, 3) := by decide +kernel
theorem jd_X_draftSquares_74 : decode jc_X_draftSquares 74 = .ok (.aload_n 0, 1) := by decide +kernel
theorem jd_X_draftSquares_75 : decode jc_X_draftSquares 75 = .ok (.iload_n 1, 1) := by decide +kernel
theorem jd_X_draftSquares_76 : decode jc_X_draftSquares 76 = .ok (.iload_n 3, 1) := by decide +kernel
theorem jd_X_draftSquares_77 : decode jc_X_draftSquares 77 = .ok (.iload_n 3, 1) := by decide +kernel
theorem jd_X_draftSquares_78 : decode jc_X_draftSquares 78 = .ok (.imul, 1) := by decide +kernel
theorem jd_X_draftSquares_79 : decode jc_X_draftSquares 79 = .ok (.invokevirtual 312, 3) := by decide +kernel
theorem jd_X_draftSquares_82 : decode jc_X_draftSquares 82 = .ok (.iconst 1, 1) := by decide +kernel
theorem jd_X_draftSquares_83 : decode jc_X_draftSquares 83 = .ok (.ireturn, 1) := by decide +kernel
abbrev jc_X_draftPart : ByteArray := prog_1_method_30_code
abbrev jy_X_draftPart : MethodName := ⟨"MeasuredTensors", "draftPart", "(LMeasuredTensors$Shape;II)Z"⟩
theorem jd_X_draftPart_0 : decode jc_X_draftPart 0 = .ok (.aload_n 1, 1) := by decide +kernel
theorem jd_X_draftPart_1 : decode jc_X_draftPart 1 = .ok (.getfield 187, 3) := by decide +kernel
theorem jd_X_draftPart_4 : decode jc_X_draftPart 4 = .ok (.iconst 1, 1) := by decide +kernel
theorem jd_X_draftPart_5 : decode jc_X_draftPart 5 = .ok (.if_icmp .lt 17, 3) := by decide +kernel
theorem jd_X_draftPart_8 : decode jc_X_draftPart 8 = .ok (.iload_n 2, 1) := by decide +kernel
theorem jd_X_draftPart_9 : decode jc_X_draftPart 9 = .ok (.iload_n 3, 1) := by decide +kernel
theorem jd_X_draftPart_10 : decode jc_X_draftPart 10 = .ok (.if_icmp .ge 12, 3) := by decide +kernel
theorem jd_X_draftPart_13 : decode jc_X_draftPart 13 = .ok (.iload_n 3, 1) := by decide +kernel
theorem jd_X_draftPart_14 : decode jc_X_draftPart 14 = .ok (.aload_n 1, 1) := by decide +kernel
theorem jd_X_draftPart_15 : decode jc_X_draftPart 15 = .ok (.iconst 0, 1) := by decide +kernel
theorem jd_X_draftPart_16 : decode jc_X_draftPart 16 = .ok (.invokevirtual 212, 3) := by decide +kernel
theorem jd_X_draftPart_19 : decode jc_X_draftPart 19 = .ok (.if_icmp .le 5, 3) := by decide +kernel
theorem jd_X_draftPart_22 : decode jc_X_draftPart 22 = .ok (.iconst 0, 1) := by decide +kernel
theorem jd_X_draftPart_23 : decode jc_X_draftPart 23 = .ok (.ireturn, 1) := by decide +kernel
theorem jd_X_draftPart_24 : decode jc_X_draftPart 24 = .ok (.aload_n 0, 1) := by decide +kernel
theorem jd_X_draftPart_25 : decode jc_X_draftPart 25 = .ok (.getfield 32, 3) := by decide +kernel
theorem jd_X_draftPart_28 : decode jc_X_draftPart 28 = .ok (.getfield 93, 3) := by decide +kernel
theorem jd_X_draftPart_31 : decode jc_X_draftPart 31 = .ok (.iload_n 3, 1) := by decide +kernel
theorem jd_X_draftPart_32 : decode jc_X_draftPart 32 = .ok (.iload_n 2, 1) := by decide +kernel
theorem jd_X_draftPart_33 : decode jc_X_draftPart 33 = .ok (.isub, 1) := by decide +kernel
theorem jd_X_draftPart_34 : decode jc_X_draftPart 34 = .ok (.invokevirtual 315, 3) := by decide +kernel
theorem jd_X_draftPart_37 : decode jc_X_draftPart 37 = .ok (.iconst 1, 1) := by decide +kernel
theorem jd_X_draftPart_38 : decode jc_X_draftPart 38 = .ok (.ireturn, 1) := by decide +kernel
abbrev jc_X_draftPad : ByteArray := prog_1_method_31_code
abbrev jy_X_draftPad : MethodName := ⟨"MeasuredTensors", "draftPad", "(LMeasuredTensors$Shape;I)Z"⟩
theorem jd_X_draftPad_0 : decode jc_X_draftPad 0 = .ok (.aload_n 1, 1) := by decide +kernel
theorem jd_X_draftPad_1 : decode jc_X_draftPad 1 = .ok (.getfield 187, 3) := by decide +kernel
theorem jd_X_draftPad_4 : decode jc_X_draftPad 4 = .ok (.iconst 3, 1) := by decide +kernel
theorem jd_X_draftPad_5 : decode jc_X_draftPad 5 = .ok (.if_icmp .ne 14, 3) := by decide +kernel
theorem jd_X_draftPad_8 : decode jc_X_draftPad 8 = .ok (.iload_n 2, 1) := by decide +kernel
theorem jd_X_draftPad_9 : decode jc_X_draftPad 9 = .ok (.iconst 1, 1) := by decide +kernel
theorem jd_X_draftPad_10 : decode jc_X_draftPad 10 = .ok (.if_icmp .lt 9, 3) := by decide +kernel
theorem jd_X_draftPad_13 : decode jc_X_draftPad 13 = .ok (.iload_n 2, 1) := by decide +kernel
theorem jd_X_draftPad_14 : decode jc_X_draftPad 14 = .ok (.bipush 16, 2) := by decide +kernel
theorem jd_X_draftPad_16 : decode jc_X_draftPad 16 = .ok (.if_icmp .le 5, 3) := by decide +kernel
theorem jd_X_draftPad_19 : decode jc_X_draftPad 19 = .ok (.iconst 0, 1) := by decide +kernel
theorem jd_X_draftPad_20 : decode jc_X_draftPad 20 = .ok (.ireturn, 1) := by decide +kernel
theorem jd_X_draftPad_21 : decode jc_X_draftPad 21 = .ok (.aload_n 0, 1) := by decide +kernel
theorem jd_X_draftPad_22 : decode jc_X_draftPad 22 = .ok (.getfield 32, 3) := by decide +kernel
theorem jd_X_draftPad_25 : decode jc_X_draftPad 25 = .ok (.getfield 93, 3) := by decide +kernel
theorem jd_X_draftPad_28 : decode jc_X_draftPad 28 = .ok (.iconst 3, 1) := by decide +kernel
theorem jd_X_draftPad_29 : decode jc_X_draftPad 29 = .ok (.aload_n 1, 1) := by decide +kernel
theorem jd_X_draftPad_30 : decode jc_X_draftPad 30 = .ok (.iconst 0, 1) := by decide +kernel
theorem jd_X_draftPad_31 : decode jc_X_draftPad 31 = .ok (.invokevirtual 212, 3) := by decide +kernel
theorem jd_X_draftPad_34 : decode jc_X_draftPad 34 = .ok (.aload_n 1, 1) := by decide +kernel
theorem jd_X_draftPad_35 : decode jc_X_draftPad 35 = .ok (.iconst 1, 1) := by decide +kernel
theorem jd_X_draftPad_36 : decode jc_X_draftPad 36 = .ok (.invokevirtual 212, 3) := by decide +kernel
theorem jd_X_draftPad_39 : decode jc_X_draftPad 39 = .ok (.iconst 2, 1) := by decide +kernel
theorem jd_X_draftPad_40 : decode jc_X_draftPad 40 = .ok (.iload_n 2, 1) := by decide +kernel
theorem jd_X_draftPad_41 : decode jc_X_draftPad 41 = .ok (.imul, 1) := by decide +kernel
theorem jd_X_draftPad_42 : decode jc_X_draftPad 42 = .ok (.iadd, 1) := by decide +kernel
theorem jd_X_draftPad_43 : decode jc_X_draftPad 43 = .ok (.aload_n 1, 1) := by decide +kernel
theorem jd_X_draftPad_44 : decode jc_X_draftPad 44 = .ok (.iconst 2, 1) := by decide +kernel
theorem jd_X_draftPad_45 : decode jc_X_draftPad 45 = .ok (.invokevirtual 212, 3) := by decide +kernel
theorem jd_X_draftPad_48 : decode jc_X_draftPad 48 = .ok (.iconst 2, 1) := by decide +kernel
theorem jd_X_draftPad_49 : decode jc_X_draftPad 49 = .ok (.iload_n 2, 1) := by decide +kernel
theorem jd_X_draftPad_50 : decode jc_X_draftPad 50 = .ok (.imul, 1) := by decide +kernel
theorem jd_X_draftPad_51 : decode jc_X_draftPad 51 = .ok (.iadd, 1) := by decide +kernel
theorem jd_X_draftPad_52 : decode jc_X_draftPad 52 = .ok (.iconst 1, 1) := by decide +kernel
theorem jd_X_draftPad_53 : decode jc_X_draftPad 53 = .ok (.invokevirtual 97, 3) := by decide +kernel
theorem jd_X_draftPad_56 : decode jc_X_draftPad 56 = .ok (.iconst 1, 1) := by decide +kernel
theorem jd_X_draftPad_57 : decode jc_X_draftPad 57 = .ok (.ireturn, 1) := by decide +kernel
abbrev jc_X_draftOfTwo : ByteArray := prog_1_method_32_code
abbrev jy_X_draftOfTwo : MethodName := ⟨"MeasuredTensors", "draftOfTwo", "(ILMeasuredTensors$Tensor;LMeasuredTensors$Tensor;I)Z"⟩
theorem jd_X_draftOfTwo_0 : decode jc_X_draftOfTwo 0 = .ok (.aload_n 3, 1) := by decide +kernel
theorem jd_X_draftOfTwo_1 : decode jc_X_draftOfTwo 1 = .ok (.ifnonnull 5, 3) := by decide +kernel
theorem jd_X_draftOfTwo_4 : decode jc_X_draftOfTwo 4 = .ok (.iconst 0, 1) := by decide +kernel
theorem jd_X_draftOfTwo_5 : decode jc_X_draftOfTwo 5 = .ok (.ireturn, 1) := by decide +kernel
theorem jd_X_draftOfTwo_6 : decode jc_X_draftOfTwo 6 = .ok (.iload_n 1, 1) := by decide +kernel
theorem jd_X_draftOfTwo_7 : decode jc_X_draftOfTwo 7 = .ok (.lookupswitch 105 #[(8, 25), (14, 34)], 25) := by decide +kernel
theorem jd_X_draftOfTwo_32 : decode jc_X_draftOfTwo 32 = .ok (.aload_n 0, 1) := by decide +kernel
theorem jd_X_draftOfTwo_33 : decode jc_X_draftOfTwo 33 = .ok (.aload_n 2, 1) := by decide +kernel
theorem jd_X_draftOfTwo_34 : decode jc_X_draftOfTwo 34 = .ok (.aload_n 3, 1) := by decide +kernel
theorem jd_X_draftOfTwo_35 : decode jc_X_draftOfTwo 35 = .ok (.iload 4, 2) := by decide +kernel
theorem jd_X_draftOfTwo_37 : decode jc_X_draftOfTwo 37 = .ok (.invokevirtual 318, 3) := by decide +kernel
theorem jd_X_draftOfTwo_40 : decode jc_X_draftOfTwo 40 = .ok (.ireturn, 1) := by decide +kernel
theorem jd_X_draftOfTwo_41 : decode jc_X_draftOfTwo 41 = .ok (.aload_n 0, 1) := by decide +kernel
theorem jd_X_draftOfTwo_42 : decode jc_X_draftOfTwo 42 = .ok (.getfield 32, 3) := by decide +kernel
theorem jd_X_draftOfTwo_45 : decode jc_X_draftOfTwo 45 = .ok (.getfield 93, 3) := by decide +kernel
theorem jd_X_draftOfTwo_48 : decode jc_X_draftOfTwo 48 = .ok (.aload_n 2, 1) := by decide +kernel
theorem jd_X_draftOfTwo_49 : decode jc_X_draftOfTwo 49 = .ok (.getfield 93, 3) := by decide +kernel
theorem jd_X_draftOfTwo_52 : decode jc_X_draftOfTwo 52 = .ok (.iconst 0, 1) := by decide +kernel
theorem jd_X_draftOfTwo_53 : decode jc_X_draftOfTwo 53 = .ok (.invokevirtual 212, 3) := by decide +kernel
theorem jd_X_draftOfTwo_56 : decode jc_X_draftOfTwo 56 = .ok (.aload_n 3, 1) := by decide +kernel
theorem jd_X_draftOfTwo_57 : decode jc_X_draftOfTwo 57 = .ok (.getfield 93, 3) := by decide +kernel
theorem jd_X_draftOfTwo_60 : decode jc_X_draftOfTwo 60 = .ok (.iconst 0, 1) := by decide +kernel
theorem jd_X_draftOfTwo_61 : decode jc_X_draftOfTwo 61 = .ok (.invokevirtual 212, 3) := by decide +kernel
theorem jd_X_draftOfTwo_64 : decode jc_X_draftOfTwo 64 = .ok (.iadd, 1) := by decide +kernel
theorem jd_X_draftOfTwo_65 : decode jc_X_draftOfTwo 65 = .ok (.invokevirtual 315, 3) := by decide +kernel
theorem jd_X_draftOfTwo_68 : decode jc_X_draftOfTwo 68 = .ok (.aload_n 0, 1) := by decide +kernel
theorem jd_X_draftOfTwo_69 : decode jc_X_draftOfTwo 69 = .ok (.getfield 32, 3) := by decide +kernel
theorem jd_X_draftOfTwo_72 : decode jc_X_draftOfTwo 72 = .ok (.getfield 73, 3) := by decide +kernel
theorem jd_X_draftOfTwo_75 : decode jc_X_draftOfTwo 75 = .ok (.aload_n 3, 1) := by decide +kernel
theorem jd_X_draftOfTwo_76 : decode jc_X_draftOfTwo 76 = .ok (.getfield 73, 3) := by decide +kernel
theorem jd_X_draftOfTwo_79 : decode jc_X_draftOfTwo 79 = .ok (.invokevirtual 262, 3) := by decide +kernel
theorem jd_X_draftOfTwo_82 : decode jc_X_draftOfTwo 82 = .ok (.aload_n 2, 1) := by decide +kernel
theorem jd_X_draftOfTwo_83 : decode jc_X_draftOfTwo 83 = .ok (.getfield 93, 3) := by decide +kernel
theorem jd_X_draftOfTwo_86 : decode jc_X_draftOfTwo 86 = .ok (.getfield 187, 3) := by decide +kernel
theorem jd_X_draftOfTwo_89 : decode jc_X_draftOfTwo 89 = .ok (.ifCond .le 21, 3) := by decide +kernel
theorem jd_X_draftOfTwo_92 : decode jc_X_draftOfTwo 92 = .ok (.aload_n 2, 1) := by decide +kernel
theorem jd_X_draftOfTwo_93 : decode jc_X_draftOfTwo 93 = .ok (.getfield 93, 3) := by decide +kernel
theorem jd_X_draftOfTwo_96 : decode jc_X_draftOfTwo 96 = .ok (.aload_n 3, 1) := by decide +kernel
theorem jd_X_draftOfTwo_97 : decode jc_X_draftOfTwo 97 = .ok (.getfield 93, 3) := by decide +kernel
theorem jd_X_draftOfTwo_100 : decode jc_X_draftOfTwo 100 = .ok (.invokevirtual 322, 3) := by decide +kernel
theorem jd_X_draftOfTwo_103 : decode jc_X_draftOfTwo 103 = .ok (.ifCond .eq 7, 3) := by decide +kernel
theorem jd_X_draftOfTwo_106 : decode jc_X_draftOfTwo 106 = .ok (.iconst 1, 1) := by decide +kernel
theorem jd_X_draftOfTwo_107 : decode jc_X_draftOfTwo 107 = .ok (.goto 4, 3) := by decide +kernel
theorem jd_X_draftOfTwo_110 : decode jc_X_draftOfTwo 110 = .ok (.iconst 0, 1) := by decide +kernel
theorem jd_X_draftOfTwo_111 : decode jc_X_draftOfTwo 111 = .ok (.ireturn, 1) := by decide +kernel
theorem jd_X_draftOfTwo_112 : decode jc_X_draftOfTwo 112 = .ok (.aload_n 0, 1) := by decide +kernel
theorem jd_X_draftOfTwo_113 : decode jc_X_draftOfTwo 113 = .ok (.aload_n 2, 1) := by decide +kernel
theorem jd_X_draftOfTwo_114 : decode jc_X_draftOfTwo 114 = .ok (.aload_n 3, 1) := by decide +kernel
theorem jd_X_draftOfTwo_115 : decode jc_X_draftOfTwo 115 = .ok (.invokevirtual 325, 3) := by decide +kernel
theorem jd_X_draftOfTwo_118 : decode jc_X_draftOfTwo 118 = .ok (.aload_n 2, 1) := by decide +kernel
theorem jd_X_draftOfTwo_119 : decode jc_X_draftOfTwo 119 = .ok (.getfield 93, 3) := by decide +kernel
theorem jd_X_draftOfTwo_122 : decode jc_X_draftOfTwo 122 = .ok (.getfield 187, 3) := by decide +kernel
theorem jd_X_draftOfTwo_125 : decode jc_X_draftOfTwo 125 = .ok (.aload_n 3, 1) := by decide +kernel
theorem jd_X_draftOfTwo_126 : decode jc_X_draftOfTwo 126 = .ok (.getfield 93, 3) := by decide +kernel
theorem jd_X_draftOfTwo_129 : decode jc_X_draftOfTwo 129 = .ok (.getfield 187, 3) := by decide +kernel
theorem jd_X_draftOfTwo_132 : decode jc_X_draftOfTwo 132 = .ok (.if_icmp .ne 21, 3) := by decide +kernel
theorem jd_X_draftOfTwo_135 : decode jc_X_draftOfTwo 135 = .ok (.aload_n 2, 1) := by decide +kernel
theorem jd_X_draftOfTwo_136 : decode jc_X_draftOfTwo 136 = .ok (.getfield 93, 3) := by decide +kernel
theorem jd_X_draftOfTwo_139 : decode jc_X_draftOfTwo 139 = .ok (.aload_n 3, 1) := by decide +kernel
theorem jd_X_draftOfTwo_140 : decode jc_X_draftOfTwo 140 = .ok (.getfield 93, 3) := by decide +kernel
theorem jd_X_draftOfTwo_143 : decode jc_X_draftOfTwo 143 = .ok (.invokevirtual 269, 3) := by decide +kernel
theorem jd_X_draftOfTwo_146 : decode jc_X_draftOfTwo 146 = .ok (.ifCond .eq 7, 3) := by decide +kernel
theorem jd_X_draftOfTwo_149 : decode jc_X_draftOfTwo 149 = .ok (.iconst 1, 1) := by decide +kernel
theorem jd_X_draftOfTwo_150 : decode jc_X_draftOfTwo 150 = .ok (.goto 4, 3) := by decide +kernel
theorem jd_X_draftOfTwo_153 : decode jc_X_draftOfTwo 153 = .ok (.iconst 0, 1) := by decide +kernel
theorem jd_X_draftOfTwo_154 : decode jc_X_draftOfTwo 154 = .ok (.ireturn, 1) := by decide +kernel
abbrev jc_X_draftConvolution : ByteArray := prog_1_method_33_code
abbrev jy_X_draftConvolution : MethodName := ⟨"MeasuredTensors", "draftConvolution", "(LMeasuredTensors$Tensor;LMeasuredTensors$Tensor;I)Z"⟩
theorem jd_X_draftConvolution_0 : decode jc_X_draftConvolution 0 = .ok (.aload_n 1, 1) := by decide +kernel
theorem jd_X_draftConvolution_1 : decode jc_X_draftConvolution 1 = .ok (.getfield 93, 3) := by decide +kernel
theorem jd_X_draftConvolution_4 : decode jc_X_draftConvolution 4 = .ok (.astore 4, 2) := by decide +kernel
theorem jd_X_draftConvolution_6 : decode jc_X_draftConvolution 6 = .ok (.aload_n 2, 1) := by decide +kernel
theorem jd_X_draftConvolution_7 : decode jc_X_draftConvolution 7 = .ok (.getfield 93, 3) := by decide +kernel
theorem jd_X_draftConvolution_10 : decode jc_X_draftConvolution 10 = .ok (.astore 5, 2) := by decide +kernel
theorem jd_X_draftConvolution_12 : decode jc_X_draftConvolution 12 = .ok (.aload 4, 2) := by decide +kernel
theorem jd_X_draftConvolution_14 : decode jc_X_draftConvolution 14 = .ok (.getfield 187, 3) := by decide +kernel
theorem jd_X_draftConvolution_17 : decode jc_X_draftConvolution 17 = .ok (.iconst 3, 1) := by decide +kernel
theorem jd_X_draftConvolution_18 : decode jc_X_draftConvolution 18 = .ok (.if_icmp .ne 38, 3) := by decide +kernel
theorem jd_X_draftConvolution_21 : decode jc_X_draftConvolution 21 = .ok (.aload 5, 2) := by decide +kernel
theorem jd_X_draftConvolution_23 : decode jc_X_draftConvolution 23 = .ok (.getfield 187, 3) := by decide +kernel
theorem jd_X_draftConvolution_26 : decode jc_X_draftConvolution 26 = .ok (.iconst 4, 1) := by decide +kernel
theorem jd_X_draftConvolution_27 : decode jc_X_draftConvolution 27 = .ok (.if_icmp .ne 29, 3) := by decide +kernel
theorem jd_X_draftConvolution_30 : decode jc_X_draftConvolution 30 = .ok (.aload 5, 2) := by decide +kernel
theorem jd_X_draftConvolution_32 : decode jc_X_draftConvolution 32 = .ok (.iconst 1, 1) := by decide +kernel
theorem jd_X_draftConvolution_33 : decode jc_X_draftConvolution 33 = .ok (.invokevirtual 212, 3) := by decide +kernel
theorem jd_X_draftConvolution_36 : decode jc_X_draftConvolution 36 = .ok (.aload 4, 2) := by decide +kernel
theorem jd_X_draftConvolution_38 : decode jc_X_draftConvolution 38 = .ok (.iconst 0, 1) := by decide +kernel
theorem jd_X_draftConvolution_39 : decode jc_X_draftConvolution 39 = .ok (.invokevirtual 212, 3) := by decide +kernel
theorem jd_X_draftConvolution_42 : decode jc_X_draftConvolution 42 = .ok (.if_icmp .ne 14, 3) := by decide +kernel
theorem jd_X_draftConvolution_45 : decode jc_X_draftConvolution 45 = .ok (.iload_n 3, 1) := by decide +kernel
theorem jd_X_draftConvolution_46 : decode jc_X_draftConvolution 46 = .ok (.iconst 1, 1) := by decide +kernel
theorem jd_X_draftConvolution_47 : decode jc_X_draftConvolution 47 = .ok (.if_icmp .lt 9, 3) := by decide +kernel
theorem jd_X_draftConvolution_50 : decode jc_X_draftConvolution 50 = .ok (.iload_n 3, 1) := by decide +kernel
theorem jd_X_draftConvolution_51 : decode jc_X_draftConvolution 51 = .ok (.bipush 16, 2) := by decide +kernel
theorem jd_X_draftConvolution_53 : decode jc_X_draftConvolution 53 = .ok (.if_icmp .le 5, 3) := by decide +kernel
theorem jd_X_draftConvolution_56 : decode jc_X_draftConvolution 56 = .ok (.iconst 0, 1) := by decide +kernel
theorem jd_X_draftConvolution_57 : decode jc_X_draftConvolution 57 = .ok (.ireturn, 1) := by decide +kernel
theorem jd_X_draftConvolution_58 : decode jc_X_draftConvolution 58 = .ok (.aload 5, 2) := by decide +kernel
theorem jd_X_draftConvolution_60 : decode jc_X_draftConvolution 60 = .ok (.iconst 2, 1) := by decide +kernel
theorem jd_X_draftConvolution_61 : decode jc_X_draftConvolution 61 = .ok (.invokevirtual 212, 3) := by decide +kernel
theorem jd_X_draftConvolution_64 : decode jc_X_draftConvolution 64 = .ok (.aload 4, 2) := by decide +kernel
theorem jd_X_draftConvolution_66 : decode jc_X_draftConvolution 66 = .ok (.iconst 1, 1) := by decide +kernel
theorem jd_X_draftConvolution_67 : decode jc_X_draftConvolution 67 = .ok (.invokevirtual 212, 3) := by decide +kernel
theorem jd_X_draftConvolution_70 : decode jc_X_draftConvolution 70 = .ok (.if_icmp .gt 18, 3) := by decide +kernel
theorem jd_X_draftConvolution_73 : decode jc_X_draftConvolution 73 = .ok (.aload 5, 2) := by decide +kernel
theorem jd_X_draftConvolution_75 : decode jc_X_draftConvolution 75 = .ok (.iconst 3, 1) := by decide +kernel
theorem jd_X_draftConvolution_76 : decode jc_X_draftConvolution 76 = .ok (.invokevirtual 212, 3) := by decide +kernel
theorem jd_X_draftConvolution_79 : decode jc_X_draftConvolution 79 = .ok (.aload 4, 2) := by decide +kernel
theorem jd_X_draftConvolution_81 : decode jc_X_draftConvolution 81 = .ok (.iconst 2, 1) := by decide +kernel
theorem jd_X_draftConvolution_82 : decode jc_X_draftConvolution 82 = .ok (.invokevirtual 212, 3) := by decide +kernel
theorem jd_X_draftConvolution_85 : decode jc_X_draftConvolution 85 = .ok (.if_icmp .le 5, 3) := by decide +kernel
theorem jd_X_draftConvolution_88 : decode jc_X_draftConvolution 88 = .ok (.iconst 0, 1) := by decide +kernel
theorem jd_X_draftConvolution_89 : decode jc_X_draftConvolution 89 = .ok (.ireturn, 1) := by decide +kernel
theorem jd_X_draftConvolution_90 : decode jc_X_draftConvolution 90 = .ok (.aload 5, 2) := by decide +kernel
theorem jd_X_draftConvolution_92 : decode jc_X_draftConvolution 92 = .ok (.iconst 2, 1) := by decide +kernel
theorem jd_X_draftConvolution_93 : decode jc_X_draftConvolution 93 = .ok (.invokevirtual 212, 3) := by decide +kernel
theorem jd_X_draftConvolution_96 : decode jc_X_draftConvolution 96 = .ok (.aload 5, 2) := by decide +kernel
theorem jd_X_draftConvolution_98 : decode jc_X_draftConvolution 98 = .ok (.iconst 3, 1) := by decide +kernel
theorem jd_X_draftConvolution_99 : decode jc_X_draftConvolution 99 = .ok (.invokevirtual 212, 3) := by decide +kernel
theorem jd_X_draftConvolution_102 : decode jc_X_draftConvolution 102 = .ok (.imul, 1) := by decide +kernel
theorem jd_X_draftConvolution_103 : decode jc_X_draftConvolution 103 = .ok (.istore 6, 2) := by decide +kernel
theorem jd_X_draftConvolution_105 : decode jc_X_draftConvolution 105 = .ok (.aload 4, 2) := by decide +kernel
theorem jd_X_draftConvolution_107 : decode jc_X_draftConvolution 107 = .ok (.iconst 1, 1) := by decide +kernel
theorem jd_X_draftConvolution_108 : decode jc_X_draftConvolution 108 = .ok (.invokevirtual 212, 3) := by decide +kernel
theorem jd_X_draftConvolution_111 : decode jc_X_draftConvolution 111 = .ok (.aload 5, 2) := by decide +kernel
theorem jd_X_draftConvolution_113 : decode jc_X_draftConvolution 113 = .ok (.iconst 2, 1) := by decide +kernel
theorem jd_X_draftConvolution_114 : decode jc_X_draftConvolution 114 = .ok (.invokevirtual 212, 3) := by decide +kernel
theorem jd_X_draftConvolution_117 : decode jc_X_draftConvolution 117 = .ok (.isub, 1) := by decide +kernel
theorem jd_X_draftConvolution_118 : decode jc_X_draftConvolution 118 = .ok (.iload_n 3, 1) := by decide +kernel
theorem jd_X_draftConvolution_119 : decode jc_X_draftConvolution 119 = .ok (.idiv, 1) := by decide +kernel
theorem jd_X_draftConvolution_120 : decode jc_X_draftConvolution 120 = .ok (.iconst 1, 1) := by decide +kernel
theorem jd_X_draftConvolution_121 : decode jc_X_draftConvolution 121 = .ok (.iadd, 1) := by decide +kernel
theorem jd_X_draftConvolution_122 : decode jc_X_draftConvolution 122 = .ok (.istore 7, 2) := by decide +kernel
theorem jd_X_draftConvolution_124 : decode jc_X_draftConvolution 124 = .ok (.aload 4, 2) := by decide +kernel
theorem jd_X_draftConvolution_126 : decode jc_X_draftConvolution 126 = .ok (.iconst 2, 1) := by decide +kernel
theorem jd_X_draftConvolution_127 : decode jc_X_draftConvolution 127 = .ok (.invokevirtual 212, 3) := by decide +kernel
theorem jd_X_draftConvolution_130 : decode jc_X_draftConvolution 130 = .ok (.aload 5, 2) := by decide +kernel
theorem jd_X_draftConvolution_132 : decode jc_X_draftConvolution 132 = .ok (.iconst 3, 1) := by decide +kernel
theorem jd_X_draftConvolution_133 : decode jc_X_draftConvolution 133 = .ok (.invokevirtual 212, 3) := by decide +kernel
theorem jd_X_draftConvolution_136 : decode jc_X_draftConvolution 136 = .ok (.isub, 1) := by decide +kernel
theorem jd_X_draftConvolution_137 : decode jc_X_draftConvolution 137 = .ok (.iload_n 3, 1) := by decide +kernel
theorem jd_X_draftConvolution_138 : decode jc_X_draftConvolution 138 = .ok (.idiv, 1) := by decide +kernel
theorem jd_X_draftConvolution_139 : decode jc_X_draftConvolution 139 = .ok (.iconst 1, 1) := by decide +kernel
theorem jd_X_draftConvolution_140 : decode jc_X_draftConvolution 140 = .ok (.iadd, 1) := by decide +kernel
theorem jd_X_draftConvolution_141 : decode jc_X_draftConvolution 141 = .ok (.istore 8, 2) := by decide +kernel
theorem jd_X_draftConvolution_143 : decode jc_X_draftConvolution 143 = .ok (.aload_n 0, 1) := by decide +kernel
theorem jd_X_draftConvolution_144 : decode jc_X_draftConvolution 144 = .ok (.getfield 32, 3) := by decide +kernel
theorem jd_X_draftConvolution_147 : decode jc_X_draftConvolution 147 = .ok (.getfield 93, 3) := by decide +kernel
theorem jd_X_draftConvolution_150 : decode jc_X_draftConvolution 150 = .ok (.iconst 3, 1) := by decide +kernel
theorem jd_X_draftConvolution_151 : decode jc_X_draftConvolution 151 = .ok (.aload 5, 2) := by decide +kernel
theorem jd_X_draftConvolution_153 : decode jc_X_draftConvolution 153 = .ok (.iconst 0, 1) := by decide +kernel
theorem jd_X_draftConvolution_154 : decode jc_X_draftConvolution 154 = .ok (.invokevirtual 212, 3) := by decide +kernel
theorem jd_X_draftConvolution_157 : decode jc_X_draftConvolution 157 = .ok (.iload 7, 2) := by decide +kernel
theorem jd_X_draftConvolution_159 : decode jc_X_draftConvolution 159 = .ok (.iload 8, 2) := by decide +kernel
theorem jd_X_draftConvolution_161 : decode jc_X_draftConvolution 161 = .ok (.iconst 1, 1) := by decide +kernel
theorem jd_X_draftConvolution_162 : decode jc_X_draftConvolution 162 = .ok (.invokevirtual 97, 3) := by decide +kernel
theorem jd_X_draftConvolution_165 : decode jc_X_draftConvolution 165 = .ok (.aload_n 0, 1) := by decide +kernel
theorem jd_X_draftConvolution_166 : decode jc_X_draftConvolution 166 = .ok (.getfield 32, 3) := by decide +kernel
theorem jd_X_draftConvolution_169 : decode jc_X_draftConvolution 169 = .ok (.aload 5, 2) := by decide +kernel
theorem jd_X_draftConvolution_171 : decode jc_X_draftConvolution 171 = .ok (.iconst 0, 1) := by decide +kernel
theorem jd_X_draftConvolution_172 : decode jc_X_draftConvolution 172 = .ok (.invokevirtual 212, 3) := by decide +kernel
theorem jd_X_draftConvolution_175 : decode jc_X_draftConvolution 175 = .ok (.iload 6, 2) := by decide +kernel
theorem jd_X_draftConvolution_177 : decode jc_X_draftConvolution 177 = .ok (.imul, 1) := by decide +kernel
theorem jd_X_draftConvolution_178 : decode jc_X_draftConvolution 178 = .ok (.putfield 250, 3) := by decide +kernel
theorem jd_X_draftConvolution_181 : decode jc_X_draftConvolution 181 = .ok (.aload_n 0, 1) := by decide +kernel
theorem jd_X_draftConvolution_182 : decode jc_X_draftConvolution 182 = .ok (.getfield 32, 3) := by decide +kernel
theorem jd_X_draftConvolution_185 : decode jc_X_draftConvolution 185 = .ok (.iload 7, 2) := by decide +kernel
theorem jd_X_draftConvolution_187 : decode jc_X_draftConvolution 187 = .ok (.iload 8, 2) := by decide +kernel
theorem jd_X_draftConvolution_189 : decode jc_X_draftConvolution 189 = .ok (.imul, 1) := by decide +kernel
theorem jd_X_draftConvolution_190 : decode jc_X_draftConvolution 190 = .ok (.putfield 253, 3) := by decide +kernel
theorem jd_X_draftConvolution_193 : decode jc_X_draftConvolution 193 = .ok (.aload_n 0, 1) := by decide +kernel
theorem jd_X_draftConvolution_194 : decode jc_X_draftConvolution 194 = .ok (.aload 4, 2) := by decide +kernel
theorem jd_X_draftConvolution_196 : decode jc_X_draftConvolution 196 = .ok (.iconst 0, 1) := by decide +kernel
theorem jd_X_draftConvolution_197 : decode jc_X_draftConvolution 197 = .ok (.invokevirtual 212, 3) := by decide +kernel
theorem jd_X_draftConvolution_200 : decode jc_X_draftConvolution 200 = .ok (.iload 6, 2) := by decide +kernel
theorem jd_X_draftConvolution_202 : decode jc_X_draftConvolution 202 = .ok (.imul, 1) := by decide +kernel
theorem jd_X_draftConvolution_203 : decode jc_X_draftConvolution 203 = .ok (.aload_n 1, 1) := by decide +kernel
theorem jd_X_draftConvolution_204 : decode jc_X_draftConvolution 204 = .ok (.aload_n 2, 1) := by decide +kernel
theorem jd_X_draftConvolution_205 : decode jc_X_draftConvolution 205 = .ok (.invokevirtual 276, 3) := by decide +kernel
theorem jd_X_draftConvolution_208 : decode jc_X_draftConvolution 208 = .ok (.iconst 1, 1) := by decide +kernel
theorem jd_X_draftConvolution_209 : decode jc_X_draftConvolution 209 = .ok (.ireturn, 1) := by decide +kernel
