abbrev jc_X_draftGap : ByteArray := prog_1_method_34_code
abbrev jy_X_draftGap : MethodName := ⟨"MeasuredTensors", "draftGap", "(LMeasuredTensors$Tensor;LMeasuredTensors$Tensor;)V"⟩
theorem jd_X_draftGap_0 : decode jc_X_draftGap 0 = .ok (.aload_n 0, 1) := by decide +kernel
theorem jd_X_draftGap_1 : decode jc_X_draftGap 1 = .ok (.aload_n 1, 1) := by decide +kernel
theorem jd_X_draftGap_2 : decode jc_X_draftGap 2 = .ok (.aload_n 2, 1) := by decide +kernel
theorem jd_X_draftGap_3 : decode jc_X_draftGap 3 = .ok (.invokevirtual 329, 3) := by decide +kernel
theorem jd_X_draftGap_6 : decode jc_X_draftGap 6 = .ok (.aload_n 0, 1) := by decide +kernel
theorem jd_X_draftGap_7 : decode jc_X_draftGap 7 = .ok (.getfield 32, 3) := by decide +kernel
theorem jd_X_draftGap_10 : decode jc_X_draftGap 10 = .ok (.getfield 93, 3) := by decide +kernel
theorem jd_X_draftGap_13 : decode jc_X_draftGap 13 = .ok (.invokevirtual 309, 3) := by decide +kernel
theorem jd_X_draftGap_16 : decode jc_X_draftGap 16 = .ok (.aload_n 0, 1) := by decide +kernel
theorem jd_X_draftGap_17 : decode jc_X_draftGap 17 = .ok (.getfield 32, 3) := by decide +kernel
theorem jd_X_draftGap_20 : decode jc_X_draftGap 20 = .ok (.aload_n 1, 1) := by decide +kernel
theorem jd_X_draftGap_21 : decode jc_X_draftGap 21 = .ok (.getfield 93, 3) := by decide +kernel
theorem jd_X_draftGap_24 : decode jc_X_draftGap 24 = .ok (.invokevirtual 114, 3) := by decide +kernel
theorem jd_X_draftGap_27 : decode jc_X_draftGap 27 = .ok (.putfield 215, 3) := by decide +kernel
theorem jd_X_draftGap_30 : decode jc_X_draftGap 30 = .ok (.aload_n 0, 1) := by decide +kernel
theorem jd_X_draftGap_31 : decode jc_X_draftGap 31 = .ok (.getfield 32, 3) := by decide +kernel
theorem jd_X_draftGap_34 : decode jc_X_draftGap 34 = .ok (.getfield 73, 3) := by decide +kernel
theorem jd_X_draftGap_37 : decode jc_X_draftGap 37 = .ok (.aload_n 0, 1) := by decide +kernel
theorem jd_X_draftGap_38 : decode jc_X_draftGap 38 = .ok (.getfield 28, 3) := by decide +kernel
theorem jd_X_draftGap_41 : decode jc_X_draftGap 41 = .ok (.invokevirtual 280, 3) := by decide +kernel
theorem jd_X_draftGap_44 : decode jc_X_draftGap 44 = .ok (.aload_n 0, 1) := by decide +kernel
theorem jd_X_draftGap_45 : decode jc_X_draftGap 45 = .ok (.getfield 32, 3) := by decide +kernel
theorem jd_X_draftGap_48 : decode jc_X_draftGap 48 = .ok (.getfield 73, 3) := by decide +kernel
theorem jd_X_draftGap_51 : decode jc_X_draftGap 51 = .ok (.aload_n 0, 1) := by decide +kernel
theorem jd_X_draftGap_52 : decode jc_X_draftGap 52 = .ok (.getfield 28, 3) := by decide +kernel
theorem jd_X_draftGap_55 : decode jc_X_draftGap 55 = .ok (.invokevirtual 256, 3) := by decide +kernel
theorem jd_X_draftGap_58 : decode jc_X_draftGap 58 = .ok (.aload_n 0, 1) := by decide +kernel
theorem jd_X_draftGap_59 : decode jc_X_draftGap 59 = .ok (.getfield 32, 3) := by decide +kernel
theorem jd_X_draftGap_62 : decode jc_X_draftGap 62 = .ok (.getfield 73, 3) := by decide +kernel
theorem jd_X_draftGap_65 : decode jc_X_draftGap 65 = .ok (.aload_n 0, 1) := by decide +kernel
theorem jd_X_draftGap_66 : decode jc_X_draftGap 66 = .ok (.getfield 32, 3) := by decide +kernel
theorem jd_X_draftGap_69 : decode jc_X_draftGap 69 = .ok (.getfield 215, 3) := by decide +kernel
theorem jd_X_draftGap_72 : decode jc_X_draftGap 72 = .ok (.invokestatic 283, 3) := by decide +kernel
theorem jd_X_draftGap_75 : decode jc_X_draftGap 75 = .ok (.invokevirtual 265, 3) := by decide +kernel
theorem jd_X_draftGap_78 : decode jc_X_draftGap 78 = .ok (.aload_n 0, 1) := by decide +kernel
theorem jd_X_draftGap_79 : decode jc_X_draftGap 79 = .ok (.getfield 32, 3) := by decide +kernel
theorem jd_X_draftGap_82 : decode jc_X_draftGap 82 = .ok (.getfield 73, 3) := by decide +kernel
theorem jd_X_draftGap_85 : decode jc_X_draftGap 85 = .ok (.iconst 2, 1) := by decide +kernel
theorem jd_X_draftGap_86 : decode jc_X_draftGap 86 = .ok (.iconst 1, 1) := by decide +kernel
theorem jd_X_draftGap_87 : decode jc_X_draftGap 87 = .ok (.invokevirtual 332, 3) := by decide +kernel
theorem jd_X_draftGap_90 : decode jc_X_draftGap 90 = .ok (.aload_n 0, 1) := by decide +kernel
theorem jd_X_draftGap_91 : decode jc_X_draftGap 91 = .ok (.getfield 32, 3) := by decide +kernel
theorem jd_X_draftGap_94 : decode jc_X_draftGap 94 = .ok (.iconst 4, 1) := by decide +kernel
theorem jd_X_draftGap_95 : decode jc_X_draftGap 95 = .ok (.putfield 259, 3) := by decide +kernel
theorem jd_X_draftGap_98 : decode jc_X_draftGap 98 = .ok (.return_, 1) := by decide +kernel
abbrev jc_X_measureDifference : ByteArray := prog_1_method_35_code
abbrev jy_X_measureDifference : MethodName := ⟨"MeasuredTensors", "measureDifference", "(LMeasuredTensors$Tensor;LMeasuredTensors$Tensor;)V"⟩
theorem jd_X_measureDifference_0 : decode jc_X_measureDifference 0 = .ok (.aload_n 0, 1) := by decide +kernel
theorem jd_X_measureDifference_1 : decode jc_X_measureDifference 1 = .ok (.getfield 28, 3) := by decide +kernel
theorem jd_X_measureDifference_4 : decode jc_X_measureDifference 4 = .ok (.aload_n 1, 1) := by decide +kernel
theorem jd_X_measureDifference_5 : decode jc_X_measureDifference 5 = .ok (.getfield 73, 3) := by decide +kernel
theorem jd_X_measureDifference_8 : decode jc_X_measureDifference 8 = .ok (.invokevirtual 280, 3) := by decide +kernel
theorem jd_X_measureDifference_11 : decode jc_X_measureDifference 11 = .ok (.aload_n 0, 1) := by decide +kernel
theorem jd_X_measureDifference_12 : decode jc_X_measureDifference 12 = .ok (.getfield 28, 3) := by decide +kernel
theorem jd_X_measureDifference_15 : decode jc_X_measureDifference 15 = .ok (.aload_n 2, 1) := by decide +kernel
theorem jd_X_measureDifference_16 : decode jc_X_measureDifference 16 = .ok (.getfield 73, 3) := by decide +kernel
theorem jd_X_measureDifference_19 : decode jc_X_measureDifference 19 = .ok (.invokevirtual 262, 3) := by decide +kernel
theorem jd_X_measureDifference_22 : decode jc_X_measureDifference 22 = .ok (.aload_n 0, 1) := by decide +kernel
theorem jd_X_measureDifference_23 : decode jc_X_measureDifference 23 = .ok (.getfield 28, 3) := by decide +kernel
theorem jd_X_measureDifference_26 : decode jc_X_measureDifference 26 = .ok (.iconst 1, 1) := by decide +kernel
theorem jd_X_measureDifference_27 : decode jc_X_measureDifference 27 = .ok (.invokevirtual 265, 3) := by decide +kernel
theorem jd_X_measureDifference_30 : decode jc_X_measureDifference 30 = .ok (.return_, 1) := by decide +kernel
abbrev jc_X_draftWithIndex : ByteArray := prog_1_method_36_code
abbrev jy_X_draftWithIndex : MethodName := ⟨"MeasuredTensors", "draftWithIndex", "(ILMeasuredTensors$Tensor;LMeasuredTensors$Index;)Z"⟩
theorem jd_X_draftWithIndex_0 : decode jc_X_draftWithIndex 0 = .ok (.aload_n 3, 1) := by decide +kernel
theorem jd_X_draftWithIndex_1 : decode jc_X_draftWithIndex 1 = .ok (.ifnonnull 5, 3) := by decide +kernel
theorem jd_X_draftWithIndex_4 : decode jc_X_draftWithIndex 4 = .ok (.iconst 0, 1) := by decide +kernel
theorem jd_X_draftWithIndex_5 : decode jc_X_draftWithIndex 5 = .ok (.ireturn, 1) := by decide +kernel
theorem jd_X_draftWithIndex_6 : decode jc_X_draftWithIndex 6 = .ok (.aload_n 2, 1) := by decide +kernel
theorem jd_X_draftWithIndex_7 : decode jc_X_draftWithIndex 7 = .ok (.getfield 93, 3) := by decide +kernel
theorem jd_X_draftWithIndex_10 : decode jc_X_draftWithIndex 10 = .ok (.iconst 0, 1) := by decide +kernel
theorem jd_X_draftWithIndex_11 : decode jc_X_draftWithIndex 11 = .ok (.invokevirtual 212, 3) := by decide +kernel
theorem jd_X_draftWithIndex_14 : decode jc_X_draftWithIndex 14 = .ok (.istore 4, 2) := by decide +kernel
theorem jd_X_draftWithIndex_16 : decode jc_X_draftWithIndex 16 = .ok (.iload_n 1, 1) := by decide +kernel
theorem jd_X_draftWithIndex_17 : decode jc_X_draftWithIndex 17 = .ok (.bipush 16, 2) := by decide +kernel
theorem jd_X_draftWithIndex_19 : decode jc_X_draftWithIndex 19 = .ok (.if_icmp .ne 73, 3) := by decide +kernel
theorem jd_X_draftWithIndex_22 : decode jc_X_draftWithIndex 22 = .ok (.aload_n 0, 1) := by decide +kernel
theorem jd_X_draftWithIndex_23 : decode jc_X_draftWithIndex 23 = .ok (.getfield 32, 3) := by decide +kernel
theorem jd_X_draftWithIndex_26 : decode jc_X_draftWithIndex 26 = .ok (.getfield 93, 3) := by decide +kernel
theorem jd_X_draftWithIndex_29 : decode jc_X_draftWithIndex 29 = .ok (.aload_n 3, 1) := by decide +kernel
theorem jd_X_draftWithIndex_30 : decode jc_X_draftWithIndex 30 = .ok (.getfield 110, 3) := by decide +kernel
theorem jd_X_draftWithIndex_33 : decode jc_X_draftWithIndex 33 = .ok (.iconst 0, 1) := by decide +kernel
theorem jd_X_draftWithIndex_34 : decode jc_X_draftWithIndex 34 = .ok (.invokevirtual 212, 3) := by decide +kernel
theorem jd_X_draftWithIndex_37 : decode jc_X_draftWithIndex 37 = .ok (.invokevirtual 315, 3) := by decide +kernel
theorem jd_X_draftWithIndex_40 : decode jc_X_draftWithIndex 40 = .ok (.aload_n 0, 1) := by decide +kernel
theorem jd_X_draftWithIndex_41 : decode jc_X_draftWithIndex 41 = .ok (.getfield 32, 3) := by decide +kernel
theorem jd_X_draftWithIndex_44 : decode jc_X_draftWithIndex 44 = .ok (.aload_n 3, 1) := by decide +kernel
theorem jd_X_draftWithIndex_45 : decode jc_X_draftWithIndex 45 = .ok (.getfield 110, 3) := by decide +kernel
theorem jd_X_draftWithIndex_48 : decode jc_X_draftWithIndex 48 = .ok (.iconst 0, 1) := by decide +kernel
theorem jd_X_draftWithIndex_49 : decode jc_X_draftWithIndex 49 = .ok (.invokevirtual 212, 3) := by decide +kernel
theorem jd_X_draftWithIndex_52 : decode jc_X_draftWithIndex 52 = .ok (.putfield 250, 3) := by decide +kernel
theorem jd_X_draftWithIndex_55 : decode jc_X_draftWithIndex 55 = .ok (.aload_n 2, 1) := by decide +kernel
theorem jd_X_draftWithIndex_56 : decode jc_X_draftWithIndex 56 = .ok (.getfield 93, 3) := by decide +kernel
theorem jd_X_draftWithIndex_59 : decode jc_X_draftWithIndex 59 = .ok (.getfield 187, 3) := by decide +kernel
theorem jd_X_draftWithIndex_62 : decode jc_X_draftWithIndex 62 = .ok (.iconst 2, 1) := by decide +kernel
theorem jd_X_draftWithIndex_63 : decode jc_X_draftWithIndex 63 = .ok (.if_icmp .ne 27, 3) := by decide +kernel
theorem jd_X_draftWithIndex_66 : decode jc_X_draftWithIndex 66 = .ok (.aload_n 3, 1) := by decide +kernel
theorem jd_X_draftWithIndex_67 : decode jc_X_draftWithIndex 67 = .ok (.getfield 110, 3) := by decide +kernel
theorem jd_X_draftWithIndex_70 : decode jc_X_draftWithIndex 70 = .ok (.getfield 187, 3) := by decide +kernel
theorem jd_X_draftWithIndex_73 : decode jc_X_draftWithIndex 73 = .ok (.iconst 1, 1) := by decide +kernel
theorem jd_X_draftWithIndex_74 : decode jc_X_draftWithIndex 74 = .ok (.if_icmp .ne 16, 3) := by decide +kernel
theorem jd_X_draftWithIndex_77 : decode jc_X_draftWithIndex 77 = .ok (.aload_n 3, 1) := by decide +kernel
theorem jd_X_draftWithIndex_78 : decode jc_X_draftWithIndex 78 = .ok (.getfield 111, 3) := by decide +kernel
theorem jd_X_draftWithIndex_81 : decode jc_X_draftWithIndex 81 = .ok (.iload 4, 2) := by decide +kernel
theorem jd_X_draftWithIndex_83 : decode jc_X_draftWithIndex 83 = .ok (.if_icmp .gt 7, 3) := by decide +kernel
theorem jd_X_draftWithIndex_86 : decode jc_X_draftWithIndex 86 = .ok (.iconst 1, 1) := by decide +kernel
theorem jd_X_draftWithIndex_87 : decode jc_X_draftWithIndex 87 = .ok (.goto 4, 3) := by decide +kernel
theorem jd_X_draftWithIndex_90 : decode jc_X_draftWithIndex 90 = .ok (.iconst 0, 1) := by decide +kernel
theorem jd_X_draftWithIndex_91 : decode jc_X_draftWithIndex 91 = .ok (.ireturn, 1) := by decide +kernel
theorem jd_X_draftWithIndex_92 : decode jc_X_draftWithIndex 92 = .ok (.aload_n 0, 1) := by decide +kernel
theorem jd_X_draftWithIndex_93 : decode jc_X_draftWithIndex 93 = .ok (.getfield 32, 3) := by decide +kernel
theorem jd_X_draftWithIndex_96 : decode jc_X_draftWithIndex 96 = .ok (.getfield 93, 3) := by decide +kernel
theorem jd_X_draftWithIndex_99 : decode jc_X_draftWithIndex 99 = .ok (.invokevirtual 309, 3) := by decide +kernel
theorem jd_X_draftWithIndex_102 : decode jc_X_draftWithIndex 102 = .ok (.aload_n 0, 1) := by decide +kernel
theorem jd_X_draftWithIndex_103 : decode jc_X_draftWithIndex 103 = .ok (.getfield 32, 3) := by decide +kernel
theorem jd_X_draftWithIndex_106 : decode jc_X_draftWithIndex 106 = .ok (.iload 4, 2) := by decide +kernel
theorem jd_X_draftWithIndex_108 : decode jc_X_draftWithIndex 108 = .ok (.putfield 215, 3) := by decide +kernel
theorem jd_X_draftWithIndex_111 : decode jc_X_draftWithIndex 111 = .ok (.aload_n 0, 1) := by decide +kernel
theorem jd_X_draftWithIndex_112 : decode jc_X_draftWithIndex 112 = .ok (.getfield 32, 3) := by decide +kernel
theorem jd_X_draftWithIndex_115 : decode jc_X_draftWithIndex 115 = .ok (.iload 4, 2) := by decide +kernel
theorem jd_X_draftWithIndex_117 : decode jc_X_draftWithIndex 117 = .ok (.putfield 250, 3) := by decide +kernel
theorem jd_X_draftWithIndex_120 : decode jc_X_draftWithIndex 120 = .ok (.aload_n 0, 1) := by decide +kernel
theorem jd_X_draftWithIndex_121 : decode jc_X_draftWithIndex 121 = .ok (.getfield 32, 3) := by decide +kernel
theorem jd_X_draftWithIndex_124 : decode jc_X_draftWithIndex 124 = .ok (.getfield 73, 3) := by decide +kernel
theorem jd_X_draftWithIndex_127 : decode jc_X_draftWithIndex 127 = .ok (.iconst 3, 1) := by decide +kernel
theorem jd_X_draftWithIndex_128 : decode jc_X_draftWithIndex 128 = .ok (.iload 4, 2) := by decide +kernel
theorem jd_X_draftWithIndex_130 : decode jc_X_draftWithIndex 130 = .ok (.invokestatic 283, 3) := by decide +kernel
theorem jd_X_draftWithIndex_133 : decode jc_X_draftWithIndex 133 = .ok (.iadd, 1) := by decide +kernel
theorem jd_X_draftWithIndex_134 : decode jc_X_draftWithIndex 134 = .ok (.invokevirtual 265, 3) := by decide +kernel
theorem jd_X_draftWithIndex_137 : decode jc_X_draftWithIndex 137 = .ok (.aload_n 2, 1) := by decide +kernel
theorem jd_X_draftWithIndex_138 : decode jc_X_draftWithIndex 138 = .ok (.getfield 93, 3) := by decide +kernel
theorem jd_X_draftWithIndex_141 : decode jc_X_draftWithIndex 141 = .ok (.getfield 187, 3) := by decide +kernel
theorem jd_X_draftWithIndex_144 : decode jc_X_draftWithIndex 144 = .ok (.iconst 1, 1) := by decide +kernel
theorem jd_X_draftWithIndex_145 : decode jc_X_draftWithIndex 145 = .ok (.if_icmp .ne 26, 3) := by decide +kernel
theorem jd_X_draftWithIndex_148 : decode jc_X_draftWithIndex 148 = .ok (.aload_n 3, 1) := by decide +kernel
theorem jd_X_draftWithIndex_149 : decode jc_X_draftWithIndex 149 = .ok (.getfield 110, 3) := by decide +kernel
theorem jd_X_draftWithIndex_152 : decode jc_X_draftWithIndex 152 = .ok (.getfield 187, 3) := by decide +kernel
theorem jd_X_draftWithIndex_155 : decode jc_X_draftWithIndex 155 = .ok (.ifCond .ne 16, 3) := by decide +kernel
theorem jd_X_draftWithIndex_158 : decode jc_X_draftWithIndex 158 = .ok (.aload_n 3, 1) := by decide +kernel
theorem jd_X_draftWithIndex_159 : decode jc_X_draftWithIndex 159 = .ok (.getfield 111, 3) := by decide +kernel
theorem jd_X_draftWithIndex_162 : decode jc_X_draftWithIndex 162 = .ok (.iload 4, 2) := by decide +kernel
theorem jd_X_draftWithIndex_164 : decode jc_X_draftWithIndex 164 = .ok (.if_icmp .gt 7, 3) := by decide +kernel
theorem jd_X_draftWithIndex_167 : decode jc_X_draftWithIndex 167 = .ok (.iconst 1, 1) := by decide +kernel
theorem jd_X_draftWithIndex_168 : decode jc_X_draftWithIndex 168 = .ok (.goto 4, 3) := by decide +kernel
theorem jd_X_draftWithIndex_171 : decode jc_X_draftWithIndex 171 = .ok (.iconst 0, 1) := by decide +kernel
theorem jd_X_draftWithIndex_172 : decode jc_X_draftWithIndex 172 = .ok (.ireturn, 1) := by decide +kernel
abbrev jc_X_forgetSlopes : ByteArray := prog_1_method_37_code
abbrev jy_X_forgetSlopes : MethodName := ⟨"MeasuredTensors", "forgetSlopes", "()V"⟩
theorem jd_X_forgetSlopes_0 : decode jc_X_forgetSlopes 0 = .ok (.iconst 0, 1) := by decide +kernel
theorem jd_X_forgetSlopes_1 : decode jc_X_forgetSlopes 1 = .ok (.istore_n 1, 1) := by decide +kernel
theorem jd_X_forgetSlopes_2 : decode jc_X_forgetSlopes 2 = .ok (.iload_n 1, 1) := by decide +kernel
theorem jd_X_forgetSlopes_3 : decode jc_X_forgetSlopes 3 = .ok (.aload_n 0, 1) := by decide +kernel
theorem jd_X_forgetSlopes_4 : decode jc_X_forgetSlopes 4 = .ok (.getfield 36, 3) := by decide +kernel
theorem jd_X_forgetSlopes_7 : decode jc_X_forgetSlopes 7 = .ok (.if_icmp .ge 24, 3) := by decide +kernel
theorem jd_X_forgetSlopes_10 : decode jc_X_forgetSlopes 10 = .ok (.aload_n 0, 1) := by decide +kernel
theorem jd_X_forgetSlopes_11 : decode jc_X_forgetSlopes 11 = .ok (.iload_n 1, 1) := by decide +kernel
theorem jd_X_forgetSlopes_12 : decode jc_X_forgetSlopes 12 = .ok (.invokevirtual 122, 3) := by decide +kernel
theorem jd_X_forgetSlopes_15 : decode jc_X_forgetSlopes 15 = .ok (.astore_n 2, 1) := by decide +kernel
theorem jd_X_forgetSlopes_16 : decode jc_X_forgetSlopes 16 = .ok (.aload_n 2, 1) := by decide +kernel
theorem jd_X_forgetSlopes_17 : decode jc_X_forgetSlopes 17 = .ok (.ifnull 8, 3) := by decide +kernel
theorem jd_X_forgetSlopes_20 : decode jc_X_forgetSlopes 20 = .ok (.aload_n 2, 1) := by decide +kernel
theorem jd_X_forgetSlopes_21 : decode jc_X_forgetSlopes 21 = .ok (.iconst 0, 1) := by decide +kernel
theorem jd_X_forgetSlopes_22 : decode jc_X_forgetSlopes 22 = .ok (.putfield 224, 3) := by decide +kernel
theorem jd_X_forgetSlopes_25 : decode jc_X_forgetSlopes 25 = .ok (.iinc 1 1, 3) := by decide +kernel
theorem jd_X_forgetSlopes_28 : decode jc_X_forgetSlopes 28 = .ok (.goto (-26), 3) := by decide +kernel
theorem jd_X_forgetSlopes_31 : decode jc_X_forgetSlopes 31 = .ok (.return_, 1) := by decide +kernel
abbrev jc_X_measureSlopes : ByteArray := prog_1_method_38_code
abbrev jy_X_measureSlopes : MethodName := ⟨"MeasuredTensors", "measureSlopes", "(I)Z"⟩
theorem jd_X_measureSlopes_0 : decode jc_X_measureSlopes 0 = .ok (.iload_n 1, 1) := by decide +kernel
theorem jd_X_measureSlopes_1 : decode jc_X_measureSlopes 1 = .ok (.istore_n 2, 1) := by decide +kernel
theorem jd_X_measureSlopes_2 : decode jc_X_measureSlopes 2 = .ok (.iload_n 2, 1) := by decide +kernel
theorem jd_X_measureSlopes_3 : decode jc_X_measureSlopes 3 = .ok (.ifCond .lt 98, 3) := by decide +kernel
theorem jd_X_measureSlopes_6 : decode jc_X_measureSlopes 6 = .ok (.aload_n 0, 1) := by decide +kernel
theorem jd_X_measureSlopes_7 : decode jc_X_measureSlopes 7 = .ok (.iload_n 2, 1) := by decide +kernel
theorem jd_X_measureSlopes_8 : decode jc_X_measureSlopes 8 = .ok (.invokevirtual 122, 3) := by decide +kernel
theorem jd_X_measureSlopes_11 : decode jc_X_measureSlopes 11 = .ok (.astore_n 3, 1) := by decide +kernel
theorem jd_X_measureSlopes_12 : decode jc_X_measureSlopes 12 = .ok (.aload_n 3, 1) := by decide +kernel
theorem jd_X_measureSlopes_13 : decode jc_X_measureSlopes 13 = .ok (.ifnull 82, 3) := by decide +kernel
theorem jd_X_measureSlopes_16 : decode jc_X_measureSlopes 16 = .ok (.aload_n 3, 1) := by decide +kernel
theorem jd_X_measureSlopes_17 : decode jc_X_measureSlopes 17 = .ok (.getfield 224, 3) := by decide +kernel
theorem jd_X_measureSlopes_20 : decode jc_X_measureSlopes 20 = .ok (.ifCond .le 75, 3) := by decide +kernel
theorem jd_X_measureSlopes_23 : decode jc_X_measureSlopes 23 = .ok (.aload_n 3, 1) := by decide +kernel
theorem jd_X_measureSlopes_24 : decode jc_X_measureSlopes 24 = .ok (.getfield 227, 3) := by decide +kernel
theorem jd_X_measureSlopes_27 : decode jc_X_measureSlopes 27 = .ok (.aload_n 3, 1) := by decide +kernel
theorem jd_X_measureSlopes_28 : decode jc_X_measureSlopes 28 = .ok (.getfield 224, 3) := by decide +kernel
theorem jd_X_measureSlopes_31 : decode jc_X_measureSlopes 31 = .ok (.invokestatic 283, 3) := by decide +kernel
theorem jd_X_measureSlopes_34 : decode jc_X_measureSlopes 34 = .ok (.invokevirtual 265, 3) := by decide +kernel
theorem jd_X_measureSlopes_37 : decode jc_X_measureSlopes 37 = .ok (.aload_n 3, 1) := by decide +kernel
theorem jd_X_measureSlopes_38 : decode jc_X_measureSlopes 38 = .ok (.getfield 227, 3) := by decide +kernel
theorem jd_X_measureSlopes_41 : decode jc_X_measureSlopes 41 = .ok (.invokevirtual 241, 3) := by decide +kernel
theorem jd_X_measureSlopes_44 : decode jc_X_measureSlopes 44 = .ok (.ifCond .eq 5, 3) := by decide +kernel
theorem jd_X_measureSlopes_47 : decode jc_X_measureSlopes 47 = .ok (.iconst 0, 1) := by decide +kernel
theorem jd_X_measureSlopes_48 : decode jc_X_measureSlopes 48 = .ok (.ireturn, 1) := by decide +kernel
theorem jd_X_measureSlopes_49 : decode jc_X_measureSlopes 49 = .ok (.aload_n 0, 1) := by decide +kernel
theorem jd_X_measureSlopes_50 : decode jc_X_measureSlopes 50 = .ok (.aload_n 3, 1) := by decide +kernel
theorem jd_X_measureSlopes_51 : decode jc_X_measureSlopes 51 = .ok (.getfield 333, 3) := by decide +kernel
theorem jd_X_measureSlopes_54 : decode jc_X_measureSlopes 54 = .ok (.invokevirtual 122, 3) := by decide +kernel
theorem jd_X_measureSlopes_57 : decode jc_X_measureSlopes 57 = .ok (.astore 4, 2) := by decide +kernel
theorem jd_X_measureSlopes_59 : decode jc_X_measureSlopes 59 = .ok (.aload_n 0, 1) := by decide +kernel
theorem jd_X_measureSlopes_60 : decode jc_X_measureSlopes 60 = .ok (.aload_n 3, 1) := by decide +kernel
theorem jd_X_measureSlopes_61 : decode jc_X_measureSlopes 61 = .ok (.getfield 336, 3) := by decide +kernel
theorem jd_X_measureSlopes_64 : decode jc_X_measureSlopes 64 = .ok (.invokevirtual 122, 3) := by decide +kernel
theorem jd_X_measureSlopes_67 : decode jc_X_measureSlopes 67 = .ok (.astore 5, 2) := by decide +kernel
theorem jd_X_measureSlopes_69 : decode jc_X_measureSlopes 69 = .ok (.aload_n 0, 1) := by decide +kernel
theorem jd_X_measureSlopes_70 : decode jc_X_measureSlopes 70 = .ok (.aload_n 3, 1) := by decide +kernel
theorem jd_X_measureSlopes_71 : decode jc_X_measureSlopes 71 = .ok (.aload 4, 2) := by decide +kernel
theorem jd_X_measureSlopes_73 : decode jc_X_measureSlopes 73 = .ok (.aload 5, 2) := by decide +kernel
theorem jd_X_measureSlopes_75 : decode jc_X_measureSlopes 75 = .ok (.aload_n 3, 1) := by decide +kernel
theorem jd_X_measureSlopes_76 : decode jc_X_measureSlopes 76 = .ok (.getfield 250, 3) := by decide +kernel
theorem jd_X_measureSlopes_79 : decode jc_X_measureSlopes 79 = .ok (.invokevirtual 339, 3) := by decide +kernel
theorem jd_X_measureSlopes_82 : decode jc_X_measureSlopes 82 = .ok (.aload_n 0, 1) := by decide +kernel
theorem jd_X_measureSlopes_83 : decode jc_X_measureSlopes 83 = .ok (.aload_n 3, 1) := by decide +kernel
theorem jd_X_measureSlopes_84 : decode jc_X_measureSlopes 84 = .ok (.aload 5, 2) := by decide +kernel
theorem jd_X_measureSlopes_86 : decode jc_X_measureSlopes 86 = .ok (.aload 4, 2) := by decide +kernel
theorem jd_X_measureSlopes_88 : decode jc_X_measureSlopes 88 = .ok (.aload_n 3, 1) := by decide +kernel
theorem jd_X_measureSlopes_89 : decode jc_X_measureSlopes 89 = .ok (.getfield 253, 3) := by decide +kernel
theorem jd_X_measureSlopes_92 : decode jc_X_measureSlopes 92 = .ok (.invokevirtual 339, 3) := by decide +kernel
theorem jd_X_measureSlopes_95 : decode jc_X_measureSlopes 95 = .ok (.iinc 2 (-1), 3) := by decide +kernel
theorem jd_X_measureSlopes_98 : decode jc_X_measureSlopes 98 = .ok (.goto (-96), 3) := by decide +kernel
theorem jd_X_measureSlopes_101 : decode jc_X_measureSlopes 101 = .ok (.iconst 1, 1) := by decide +kernel
theorem jd_X_measureSlopes_102 : decode jc_X_measureSlopes 102 = .ok (.ireturn, 1) := by decide +kernel
abbrev jc_X_handShare : ByteArray := prog_1_method_39_code
abbrev jy_X_handShare : MethodName := ⟨"MeasuredTensors", "handShare", "(LMeasuredTensors$Tensor;LMeasuredTensors$Tensor;LMeasuredTensors$Tensor;I)V"⟩
theorem jd_X_handShare_0 : decode jc_X_handShare 0 = .ok (.aload_n 2, 1) := by decide +kernel
theorem jd_X_handShare_1 : decode jc_X_handShare 1 = .ok (.ifnull 19, 3) := by decide +kernel
theorem jd_X_handShare_4 : decode jc_X_handShare 4 = .ok (.aload_n 1, 1) := by decide +kernel
theorem jd_X_handShare_5 : decode jc_X_handShare 5 = .ok (.getfield 259, 3) := by decide +kernel
theorem jd_X_handShare_8 : decode jc_X_handShare 8 = .ok (.iconst 1, 1) := by decide +kernel
theorem jd_X_handShare_9 : decode jc_X_handShare 9 = .ok (.if_icmp .eq 11, 3) := by decide +kernel
theorem jd_X_handShare_12 : decode jc_X_handShare 12 = .ok (.aload_n 2, 1) := by decide +kernel
theorem jd_X_handShare_13 : decode jc_X_handShare 13 = .ok (.getfield 259, 3) := by decide +kernel
theorem jd_X_handShare_16 : decode jc_X_handShare 16 = .ok (.iconst 1, 1) := by decide +kernel
theorem jd_X_handShare_17 : decode jc_X_handShare 17 = .ok (.if_icmp .ne 4, 3) := by decide +kernel
theorem jd_X_handShare_20 : decode jc_X_handShare 20 = .ok (.return_, 1) := by decide +kernel
theorem jd_X_handShare_21 : decode jc_X_handShare 21 = .ok (.aload_n 0, 1) := by decide +kernel
theorem jd_X_handShare_22 : decode jc_X_handShare 22 = .ok (.getfield 24, 3) := by decide +kernel
theorem jd_X_handShare_25 : decode jc_X_handShare 25 = .ok (.aload_n 1, 1) := by decide +kernel
theorem jd_X_handShare_26 : decode jc_X_handShare 26 = .ok (.getfield 227, 3) := by decide +kernel
theorem jd_X_handShare_29 : decode jc_X_handShare 29 = .ok (.invokevirtual 280, 3) := by decide +kernel
theorem jd_X_handShare_32 : decode jc_X_handShare 32 = .ok (.aload_n 1, 1) := by decide +kernel
theorem jd_X_handShare_33 : decode jc_X_handShare 33 = .ok (.getfield 259, 3) := by decide +kernel
theorem jd_X_handShare_36 : decode jc_X_handShare 36 = .ok (.iconst 3, 1) := by decide +kernel
theorem jd_X_handShare_37 : decode jc_X_handShare 37 = .ok (.if_icmp .ne 25, 3) := by decide +kernel
theorem jd_X_handShare_40 : decode jc_X_handShare 40 = .ok (.aload_n 0, 1) := by decide +kernel
theorem jd_X_handShare_41 : decode jc_X_handShare 41 = .ok (.getfield 24, 3) := by decide +kernel
theorem jd_X_handShare_44 : decode jc_X_handShare 44 = .ok (.aload_n 2, 1) := by decide +kernel
theorem jd_X_handShare_45 : decode jc_X_handShare 45 = .ok (.getfield 73, 3) := by decide +kernel
theorem jd_X_handShare_48 : decode jc_X_handShare 48 = .ok (.invokevirtual 256, 3) := by decide +kernel
theorem jd_X_handShare_51 : decode jc_X_handShare 51 = .ok (.aload_n 0, 1) := by decide +kernel
theorem jd_X_handShare_52 : decode jc_X_handShare 52 = .ok (.getfield 24, 3) := by decide +kernel
theorem jd_X_handShare_55 : decode jc_X_handShare 55 = .ok (.iconst 1, 1) := by decide +kernel
theorem jd_X_handShare_56 : decode jc_X_handShare 56 = .ok (.invokevirtual 265, 3) := by decide +kernel
theorem jd_X_handShare_59 : decode jc_X_handShare 59 = .ok (.goto 92, 3) := by decide +kernel
theorem jd_X_handShare_62 : decode jc_X_handShare 62 = .ok (.aload_n 1, 1) := by decide +kernel
theorem jd_X_handShare_63 : decode jc_X_handShare 63 = .ok (.getfield 259, 3) := by decide +kernel
theorem jd_X_handShare_66 : decode jc_X_handShare 66 = .ok (.iconst 5, 1) := by decide +kernel
theorem jd_X_handShare_67 : decode jc_X_handShare 67 = .ok (.if_icmp .ne 21, 3) := by decide +kernel
theorem jd_X_handShare_70 : decode jc_X_handShare 70 = .ok (.aload_n 0, 1) := by decide +kernel
theorem jd_X_handShare_71 : decode jc_X_handShare 71 = .ok (.getfield 24, 3) := by decide +kernel
theorem jd_X_handShare_74 : decode jc_X_handShare 74 = .ok (.aload_n 1, 1) := by decide +kernel
theorem jd_X_handShare_75 : decode jc_X_handShare 75 = .ok (.getfield 343, 3) := by decide +kernel
theorem jd_X_handShare_78 : decode jc_X_handShare 78 = .ok (.aload_n 1, 1) := by decide +kernel
theorem jd_X_handShare_79 : decode jc_X_handShare 79 = .ok (.getfield 346, 3) := by decide +kernel
theorem jd_X_handShare_82 : decode jc_X_handShare 82 = .ok (.invokevirtual 332, 3) := by decide +kernel
theorem jd_X_handShare_85 : decode jc_X_handShare 85 = .ok (.goto 66, 3) := by decide +kernel
theorem jd_X_handShare_88 : decode jc_X_handShare 88 = .ok (.aload_n 1, 1) := by decide +kernel
theorem jd_X_handShare_89 : decode jc_X_handShare 89 = .ok (.getfield 259, 3) := by decide +kernel
theorem jd_X_handShare_92 : decode jc_X_handShare 92 = .ok (.iconst 2, 1) := by decide +kernel
theorem jd_X_handShare_93 : decode jc_X_handShare 93 = .ok (.if_icmp .ne 21, 3) := by decide +kernel
theorem jd_X_handShare_96 : decode jc_X_handShare 96 = .ok (.aload_n 3, 1) := by decide +kernel
theorem jd_X_handShare_97 : decode jc_X_handShare 97 = .ok (.ifnull 17, 3) := by decide +kernel
theorem jd_X_handShare_100 : decode jc_X_handShare 100 = .ok (.aload_n 0, 1) := by decide +kernel
theorem jd_X_handShare_101 : decode jc_X_handShare 101 = .ok (.getfield 24, 3) := by decide +kernel
theorem jd_X_handShare_104 : decode jc_X_handShare 104 = .ok (.aload_n 3, 1) := by decide +kernel
theorem jd_X_handShare_105 : decode jc_X_handShare 105 = .ok (.getfield 73, 3) := by decide +kernel
theorem jd_X_handShare_108 : decode jc_X_handShare 108 = .ok (.invokevirtual 256, 3) := by decide +kernel
theorem jd_X_handShare_111 : decode jc_X_handShare 111 = .ok (.goto 40, 3) := by decide +kernel
theorem jd_X_handShare_114 : decode jc_X_handShare 114 = .ok (.aload_n 1, 1) := by decide +kernel
theorem jd_X_handShare_115 : decode jc_X_handShare 115 = .ok (.getfield 259, 3) := by decide +kernel
theorem jd_X_handShare_118 : decode jc_X_handShare 118 = .ok (.iconst 4, 1) := by decide +kernel
theorem jd_X_handShare_119 : decode jc_X_handShare 119 = .ok (.if_icmp .ne 32, 3) := by decide +kernel
theorem jd_X_handShare_122 : decode jc_X_handShare 122 = .ok (.aload_n 3, 1) := by decide +kernel
theorem jd_X_handShare_123 : decode jc_X_handShare 123 = .ok (.ifnull 28, 3) := by decide +kernel
theorem jd_X_handShare_126 : decode jc_X_handShare 126 = .ok (.aload_n 0, 1) := by decide +kernel
theorem jd_X_handShare_127 : decode jc_X_handShare 127 = .ok (.aload_n 2, 1) := by decide +kernel
theorem jd_X_handShare_128 : decode jc_X_handShare 128 = .ok (.aload_n 3, 1) := by decide +kernel
theorem jd_X_handShare_129 : decode jc_X_handShare 129 = .ok (.invokevirtual 329, 3) := by decide +kernel
theorem jd_X_handShare_132 : decode jc_X_handShare 132 = .ok (.aload_n 0, 1) := by decide +kernel
theorem jd_X_handShare_133 : decode jc_X_handShare 133 = .ok (.getfield 24, 3) := by decide +kernel
theorem jd_X_handShare_136 : decode jc_X_handShare 136 = .ok (.aload_n 0, 1) := by decide +kernel
theorem jd_X_handShare_137 : decode jc_X_handShare 137 = .ok (.getfield 28, 3) := by decide +kernel
theorem jd_X_handShare_140 : decode jc_X_handShare 140 = .ok (.invokevirtual 256, 3) := by decide +kernel
theorem jd_X_handShare_143 : decode jc_X_handShare 143 = .ok (.aload_n 0, 1) := by decide +kernel
theorem jd_X_handShare_144 : decode jc_X_handShare 144 = .ok (.getfield 24, 3) := by decide +kernel
theorem jd_X_handShare_147 : decode jc_X_handShare 147 = .ok (.iconst 1, 1) := by decide +kernel
theorem jd_X_handShare_148 : decode jc_X_handShare 148 = .ok (.invokevirtual 265, 3) := by decide +kernel
theorem jd_X_handShare_151 : decode jc_X_handShare 151 = .ok (.aload_n 0, 1) := by decide +kernel
theorem jd_X_handShare_152 : decode jc_X_handShare 152 = .ok (.getfield 24, 3) := by decide +kernel
theorem jd_X_handShare_155 : decode jc_X_handShare 155 = .ok (.iload 4, 2) := by decide +kernel
theorem jd_X_handShare_157 : decode jc_X_handShare 157 = .ok (.invokestatic 283, 3) := by decide +kernel
theorem jd_X_handShare_160 : decode jc_X_handShare 160 = .ok (.invokevirtual 265, 3) := by decide +kernel
theorem jd_X_handShare_163 : decode jc_X_handShare 163 = .ok (.aload_n 2, 1) := by decide +kernel
theorem jd_X_handShare_164 : decode jc_X_handShare 164 = .ok (.aload_n 0, 1) := by decide +kernel
theorem jd_X_handShare_165 : decode jc_X_handShare 165 = .ok (.getfield 24, 3) := by decide +kernel
theorem jd_X_handShare_168 : decode jc_X_handShare 168 = .ok (.invokevirtual 195, 3) := by decide +kernel
theorem jd_X_handShare_171 : decode jc_X_handShare 171 = .ok (.return_, 1) := by decide +kernel
abbrev jc_X_paramSlopesFit : ByteArray := prog_1_method_40_code
abbrev jy_X_paramSlopesFit : MethodName := ⟨"MeasuredTensors", "paramSlopesFit", "()Z"⟩
theorem jd_X_paramSlopesFit_0 : decode jc_X_paramSlopesFit 0 = .ok (.lconst 1, 1) := by decide +kernel
theorem jd_X_paramSlopesFit_1 : decode jc_X_paramSlopesFit 1 = .ok (.lstore_n 1, 1) := by decide +kernel
theorem jd_X_paramSlopesFit_2 : decode jc_X_paramSlopesFit 2 = .ok (.iconst 0, 1) := by decide +kernel
theorem jd_X_paramSlopesFit_3 : decode jc_X_paramSlopesFit 3 = .ok (.istore_n 3, 1) := by decide +kernel
theorem jd_X_paramSlopesFit_4 : decode jc_X_paramSlopesFit 4 = .ok (.iload_n 3, 1) := by decide +kernel
theorem jd_X_paramSlopesFit_5 : decode jc_X_paramSlopesFit 5 = .ok (.aload_n 0, 1) := by decide +kernel
theorem jd_X_paramSlopesFit_6 : decode jc_X_paramSlopesFit 6 = .ok (.getfield 36, 3) := by decide +kernel
theorem jd_X_paramSlopesFit_9 : decode jc_X_paramSlopesFit 9 = .ok (.if_icmp .ge 50, 3) := by decide +kernel
theorem jd_X_paramSlopesFit_12 : decode jc_X_paramSlopesFit 12 = .ok (.aload_n 0, 1) := by decide +kernel
theorem jd_X_paramSlopesFit_13 : decode jc_X_paramSlopesFit 13 = .ok (.iload_n 3, 1) := by decide +kernel
theorem jd_X_paramSlopesFit_14 : decode jc_X_paramSlopesFit 14 = .ok (.invokevirtual 122, 3) := by decide +kernel
theorem jd_X_paramSlopesFit_17 : decode jc_X_paramSlopesFit 17 = .ok (.astore 4, 2) := by decide +kernel
theorem jd_X_paramSlopesFit_19 : decode jc_X_paramSlopesFit 19 = .ok (.aload 4, 2) := by decide +kernel
theorem jd_X_paramSlopesFit_21 : decode jc_X_paramSlopesFit 21 = .ok (.ifnull 32, 3) := by decide +kernel
theorem jd_X_paramSlopesFit_24 : decode jc_X_paramSlopesFit 24 = .ok (.aload 4, 2) := by decide +kernel
theorem jd_X_paramSlopesFit_26 : decode jc_X_paramSlopesFit 26 = .ok (.getfield 102, 3) := by decide +kernel
theorem jd_X_paramSlopesFit_29 : decode jc_X_paramSlopesFit 29 = .ok (.ifCond .eq 24, 3) := by decide +kernel
theorem jd_X_paramSlopesFit_32 : decode jc_X_paramSlopesFit 32 = .ok (.aload 4, 2) := by decide +kernel
theorem jd_X_paramSlopesFit_34 : decode jc_X_paramSlopesFit 34 = .ok (.getfield 224, 3) := by decide +kernel
theorem jd_X_paramSlopesFit_37 : decode jc_X_paramSlopesFit 37 = .ok (.ifCond .le 16, 3) := by decide +kernel
theorem jd_X_paramSlopesFit_40 : decode jc_X_paramSlopesFit 40 = .ok (.lload_n 1, 1) := by decide +kernel
theorem jd_X_paramSlopesFit_41 : decode jc_X_paramSlopesFit 41 = .ok (.aload 4, 2) := by decide +kernel
theorem jd_X_paramSlopesFit_43 : decode jc_X_paramSlopesFit 43 = .ok (.getfield 227, 3) := by decide +kernel
theorem jd_X_paramSlopesFit_46 : decode jc_X_paramSlopesFit 46 = .ok (.getfield 234, 3) := by decide +kernel
theorem jd_X_paramSlopesFit_49 : decode jc_X_paramSlopesFit 49 = .ok (.invokestatic 349, 3) := by decide +kernel
theorem jd_X_paramSlopesFit_52 : decode jc_X_paramSlopesFit 52 = .ok (.lstore_n 1, 1) := by decide +kernel
theorem jd_X_paramSlopesFit_53 : decode jc_X_paramSlopesFit 53 = .ok (.iinc 3 1, 3) := by decide +kernel
theorem jd_X_paramSlopesFit_56 : decode jc_X_paramSlopesFit 56 = .ok (.goto (-52), 3) := by decide +kernel
theorem jd_X_paramSlopesFit_59 : decode jc_X_paramSlopesFit 59 = .ok (.lload_n 1, 1) := by decide +kernel
theorem jd_X_paramSlopesFit_60 : decode jc_X_paramSlopesFit 60 = .ok (.ldc2_w 353, 3) := by decide +kernel
theorem jd_X_paramSlopesFit_63 : decode jc_X_paramSlopesFit 63 = .ok (.lcmp, 1) := by decide +kernel
theorem jd_X_paramSlopesFit_64 : decode jc_X_paramSlopesFit 64 = .ok (.ifCond .ge 7, 3) := by decide +kernel
theorem jd_X_paramSlopesFit_67 : decode jc_X_paramSlopesFit 67 = .ok (.iconst 1, 1) := by decide +kernel
theorem jd_X_paramSlopesFit_68 : decode jc_X_paramSlopesFit 68 = .ok (.goto 4, 3) := by decide +kernel
theorem jd_X_paramSlopesFit_71 : decode jc_X_paramSlopesFit 71 = .ok (.iconst 0, 1) := by decide +kernel
theorem jd_X_paramSlopesFit_72 : decode jc_X_paramSlopesFit 72 = .ok (.ireturn, 1) := by decide +kernel
abbrev jc_X_countLimbs : ByteArray := prog_1_method_41_code
abbrev jy_X_countLimbs : MethodName := ⟨"MeasuredTensors", "countLimbs", "()J"⟩
theorem jd_X_countLimbs_0 : decode jc_X_countLimbs 0 = .ok (.lconst 0, 1) := by decide +kernel
theorem jd_X_countLimbs_1 : decode jc_X_countLimbs 1 = .ok (.lstore_n 1, 1) := by decide +kernel
theorem jd_X_countLimbs_2 : decode jc_X_countLimbs 2 = .ok (.iconst 0, 1) := by decide +kernel
theorem jd_X_countLimbs_3 : decode jc_X_countLimbs 3 = .ok (.istore_n 3, 1) := by decide +kernel
theorem jd_X_countLimbs_4 : decode jc_X_countLimbs 4 = .ok (.iload_n 3, 1) := by decide +kernel
theorem jd_X_countLimbs_5 : decode jc_X_countLimbs 5 = .ok (.aload_n 0, 1) := by decide +kernel
theorem jd_X_countLimbs_6 : decode jc_X_countLimbs 6 = .ok (.getfield 36, 3) := by decide +kernel
theorem jd_X_countLimbs_9 : decode jc_X_countLimbs 9 = .ok (.if_icmp .ge 68, 3) := by decide +kernel
theorem jd_X_countLimbs_12 : decode jc_X_countLimbs 12 = .ok (.aload_n 0, 1) := by decide +kernel
theorem jd_X_countLimbs_13 : decode jc_X_countLimbs 13 = .ok (.iload_n 3, 1) := by decide +kernel
theorem jd_X_countLimbs_14 : decode jc_X_countLimbs 14 = .ok (.invokevirtual 122, 3) := by decide +kernel
theorem jd_X_countLimbs_17 : decode jc_X_countLimbs 17 = .ok (.astore 4, 2) := by decide +kernel
theorem jd_X_countLimbs_19 : decode jc_X_countLimbs 19 = .ok (.aload 4, 2) := by decide +kernel
theorem jd_X_countLimbs_21 : decode jc_X_countLimbs 21 = .ok (.ifnull 50, 3) := by decide +kernel
theorem jd_X_countLimbs_24 : decode jc_X_countLimbs 24 = .ok (.aload 4, 2) := by decide +kernel
theorem jd_X_countLimbs_26 : decode jc_X_countLimbs 26 = .ok (.getfield 73, 3) := by decide +kernel
theorem jd_X_countLimbs_29 : decode jc_X_countLimbs 29 = .ok (.invokevirtual 355, 3) := by decide +kernel
theorem jd_X_countLimbs_32 : decode jc_X_countLimbs 32 = .ok (.aload 4, 2) := by decide +kernel
theorem jd_X_countLimbs_34 : decode jc_X_countLimbs 34 = .ok (.getfield 224, 3) := by decide +kernel
theorem jd_X_countLimbs_37 : decode jc_X_countLimbs 37 = .ok (.ifCond .le 14, 3) := by decide +kernel
theorem jd_X_countLimbs_40 : decode jc_X_countLimbs 40 = .ok (.aload 4, 2) := by decide +kernel
theorem jd_X_countLimbs_42 : decode jc_X_countLimbs 42 = .ok (.getfield 227, 3) := by decide +kernel
theorem jd_X_countLimbs_45 : decode jc_X_countLimbs 45 = .ok (.invokevirtual 355, 3) := by decide +kernel
theorem jd_X_countLimbs_48 : decode jc_X_countLimbs 48 = .ok (.goto 4, 3) := by decide +kernel
theorem jd_X_countLimbs_51 : decode jc_X_countLimbs 51 = .ok (.iconst 0, 1) := by decide +kernel
theorem jd_X_countLimbs_52 : decode jc_X_countLimbs 52 = .ok (.iadd, 1) := by decide +kernel
theorem jd_X_countLimbs_53 : decode jc_X_countLimbs 53 = .ok (.istore 5, 2) := by decide +kernel
theorem jd_X_countLimbs_55 : decode jc_X_countLimbs 55 = .ok (.lload_n 1, 1) := by decide +kernel
theorem jd_X_countLimbs_56 : decode jc_X_countLimbs 56 = .ok (.aload 4, 2) := by decide +kernel
theorem jd_X_countLimbs_58 : decode jc_X_countLimbs 58 = .ok (.getfield 93, 3) := by decide +kernel
theorem jd_X_countLimbs_61 : decode jc_X_countLimbs 61 = .ok (.invokevirtual 114, 3) := by decide +kernel
theorem jd_X_countLimbs_64 : decode jc_X_countLimbs 64 = .ok (.i2l, 1) := by decide +kernel
theorem jd_X_countLimbs_65 : decode jc_X_countLimbs 65 = .ok (.iload 5, 2) := by decide +kernel
theorem jd_X_countLimbs_67 : decode jc_X_countLimbs 67 = .ok (.i2l, 1) := by decide +kernel
theorem jd_X_countLimbs_68 : decode jc_X_countLimbs 68 = .ok (.lmul, 1) := by decide +kernel
theorem jd_X_countLimbs_69 : decode jc_X_countLimbs 69 = .ok (.ladd, 1) := by decide +kernel
theorem jd_X_countLimbs_70 : decode jc_X_countLimbs 70 = .ok (.lstore_n 1, 1) := by decide +kernel
theorem jd_X_countLimbs_71 : decode jc_X_countLimbs 71 = .ok (.iinc 3 1, 3) := by decide +kernel
theorem jd_X_countLimbs_74 : decode jc_X_countLimbs 74 = .ok (.goto (-70), 3) := by decide +kernel
theorem jd_X_countLimbs_77 : decode jc_X_countLimbs 77 = .ok (.lload_n 1, 1) := by decide +kernel
theorem jd_X_countLimbs_78 : decode jc_X_countLimbs 78 = .ok (.lreturn, 1) := by decide +kernel
abbrev jc_X_areSides : ByteArray := prog_1_method_42_code
abbrev jy_X_areSides : MethodName := ⟨"MeasuredTensors", "areSides", "(IIIII)Z"⟩
theorem jd_X_areSides_0 : decode jc_X_areSides 0 = .ok (.iload_n 0, 1) := by decide +kernel
theorem jd_X_areSides_1 : decode jc_X_areSides 1 = .ok (.ifCond .lt 61, 3) := by decide +kernel
theorem jd_X_areSides_4 : decode jc_X_areSides 4 = .ok (.iload_n 0, 1) := by decide +kernel
theorem jd_X_areSides_5 : decode jc_X_areSides 5 = .ok (.iconst 4, 1) := by decide +kernel
theorem jd_X_areSides_6 : decode jc_X_areSides 6 = .ok (.if_icmp .gt 56, 3) := by decide +kernel
theorem jd_X_areSides_9 : decode jc_X_areSides 9 = .ok (.iload_n 0, 1) := by decide +kernel
theorem jd_X_areSides_10 : decode jc_X_areSides 10 = .ok (.iconst 1, 1) := by decide +kernel
theorem jd_X_areSides_11 : decode jc_X_areSides 11 = .ok (.if_icmp .lt 10, 3) := by decide +kernel
theorem jd_X_areSides_14 : decode jc_X_areSides 14 = .ok (.iload_n 1, 1) := by decide +kernel
theorem jd_X_areSides_15 : decode jc_X_areSides 15 = .ok (.invokestatic 358, 3) := by decide +kernel
theorem jd_X_areSides_18 : decode jc_X_areSides 18 = .ok (.ifCond .eq 44, 3) := by decide +kernel
theorem jd_X_areSides_21 : decode jc_X_areSides 21 = .ok (.iload_n 0, 1) := by decide +kernel
theorem jd_X_areSides_22 : decode jc_X_areSides 22 = .ok (.iconst 2, 1) := by decide +kernel
theorem jd_X_areSides_23 : decode jc_X_areSides 23 = .ok (.if_icmp .lt 10, 3) := by decide +kernel
theorem jd_X_areSides_26 : decode jc_X_areSides 26 = .ok (.iload_n 2, 1) := by decide +kernel
theorem jd_X_areSides_27 : decode jc_X_areSides 27 = .ok (.invokestatic 358, 3) := by decide +kernel
theorem jd_X_areSides_30 : decode jc_X_areSides 30 = .ok (.ifCond .eq 32, 3) := by decide +kernel
theorem jd_X_areSides_33 : decode jc_X_areSides 33 = .ok (.iload_n 0, 1) := by decide +kernel
theorem jd_X_areSides_34 : decode jc_X_areSides 34 = .ok (.iconst 3, 1) := by decide +kernel
theorem jd_X_areSides_35 : decode jc_X_areSides 35 = .ok (.if_icmp .lt 10, 3) := by decide +kernel
theorem jd_X_areSides_38 : decode jc_X_areSides 38 = .ok (.iload_n 3, 1) := by decide +kernel
theorem jd_X_areSides_39 : decode jc_X_areSides 39 = .ok (.invokestatic 358, 3) := by decide +kernel
theorem jd_X_areSides_42 : decode jc_X_areSides 42 = .ok (.ifCond .eq 20, 3) := by decide +kernel
theorem jd_X_areSides_45 : decode jc_X_areSides 45 = .ok (.iload_n 0, 1) := by decide +kernel
theorem jd_X_areSides_46 : decode jc_X_areSides 46 = .ok (.iconst 4, 1) := by decide +kernel
theorem jd_X_areSides_47 : decode jc_X_areSides 47 = .ok (.if_icmp .lt 11, 3) := by decide +kernel
theorem jd_X_areSides_50 : decode jc_X_areSides 50 = .ok (.iload 4, 2) := by decide +kernel
theorem jd_X_areSides_52 : decode jc_X_areSides 52 = .ok (.invokestatic 358, 3) := by decide +kernel
theorem jd_X_areSides_55 : decode jc_X_areSides 55 = .ok (.ifCond .eq 7, 3) := by decide +kernel
theorem jd_X_areSides_58 : decode jc_X_areSides 58 = .ok (.iconst 1, 1) := by decide +kernel
theorem jd_X_areSides_59 : decode jc_X_areSides 59 = .ok (.goto 4, 3) := by decide +kernel
theorem jd_X_areSides_62 : decode jc_X_areSides 62 = .ok (.iconst 0, 1) := by decide +kernel
theorem jd_X_areSides_63 : decode jc_X_areSides 63 = .ok (.ireturn, 1) := by decide +kernel
abbrev jc_X_isSide : ByteArray := prog_1_method_43_code
abbrev jy_X_isSide : MethodName := ⟨"MeasuredTensors", "isSide", "(I)Z"⟩
theorem jd_X_isSide_0 : decode jc_X_isSide 0 = .ok (.iload_n 0, 1) := by decide +kernel
theorem jd_X_isSide_1 : decode jc_X_isSide 1 = .ok (.iconst 1, 1) := by decide +kernel
theorem jd_X_isSide_2 : decode jc_X_isSide 2 = .ok (.if_icmp .lt 14, 3) := by decide +kernel
theorem jd_X_isSide_5 : decode jc_X_isSide 5 = .ok (.iload_n 0, 1) := by decide +kernel
theorem jd_X_isSide_6 : decode jc_X_isSide 6 = .ok (.sipush 4096, 3) := by decide +kernel
theorem jd_X_isSide_9 : decode jc_X_isSide 9 = .ok (.if_icmp .gt 7, 3) := by decide +kernel
theorem jd_X_isSide_12 : decode jc_X_isSide 12 = .ok (.iconst 1, 1) := by decide +kernel
theorem jd_X_isSide_13 : decode jc_X_isSide 13 = .ok (.goto 4, 3) := by decide +kernel
theorem jd_X_isSide_16 : decode jc_X_isSide 16 = .ok (.iconst 0, 1) := by decide +kernel
theorem jd_X_isSide_17 : decode jc_X_isSide 17 = .ok (.ireturn, 1) := by decide +kernel
abbrev jc_X_areWholeNumbers : ByteArray := prog_1_method_44_code
abbrev jy_X_areWholeNumbers : MethodName := ⟨"MeasuredTensors", "areWholeNumbers", "(III)Z"⟩
theorem jd_X_areWholeNumbers_0 : decode jc_X_areWholeNumbers 0 = .ok (.iload_n 0, 1) := by decide +kernel
theorem jd_X_areWholeNumbers_1 : decode jc_X_areWholeNumbers 1 = .ok (.ifCond .lt 30, 3) := by decide +kernel
theorem jd_X_areWholeNumbers_4 : decode jc_X_areWholeNumbers 4 = .ok (.iload_n 0, 1) := by decide +kernel
theorem jd_X_areWholeNumbers_5 : decode jc_X_areWholeNumbers 5 = .ok (.iconst 2, 1) := by decide +kernel
theorem jd_X_areWholeNumbers_6 : decode jc_X_areWholeNumbers 6 = .ok (.if_icmp .gt 25, 3) := by decide +kernel
theorem jd_X_areWholeNumbers_9 : decode jc_X_areWholeNumbers 9 = .ok (.iload_n 0, 1) := by decide +kernel
theorem jd_X_areWholeNumbers_10 : decode jc_X_areWholeNumbers 10 = .ok (.iconst 1, 1) := by decide +kernel
theorem jd_X_areWholeNumbers_11 : decode jc_X_areWholeNumbers 11 = .ok (.if_icmp .lt 7, 3) := by decide +kernel
theorem jd_X_areWholeNumbers_14 : decode jc_X_areWholeNumbers 14 = .ok (.iload_n 1, 1) := by decide +kernel
theorem jd_X_areWholeNumbers_15 : decode jc_X_areWholeNumbers 15 = .ok (.ifCond .lt 16, 3) := by decide +kernel
theorem jd_X_areWholeNumbers_18 : decode jc_X_areWholeNumbers 18 = .ok (.iload_n 0, 1) := by decide +kernel
theorem jd_X_areWholeNumbers_19 : decode jc_X_areWholeNumbers 19 = .ok (.iconst 2, 1) := by decide +kernel
theorem jd_X_areWholeNumbers_20 : decode jc_X_areWholeNumbers 20 = .ok (.if_icmp .lt 7, 3) := by decide +kernel
theorem jd_X_areWholeNumbers_23 : decode jc_X_areWholeNumbers 23 = .ok (.iload_n 2, 1) := by decide +kernel
theorem jd_X_areWholeNumbers_24 : decode jc_X_areWholeNumbers 24 = .ok (.ifCond .lt 7, 3) := by decide +kernel
theorem jd_X_areWholeNumbers_27 : decode jc_X_areWholeNumbers 27 = .ok (.iconst 1, 1) := by decide +kernel
theorem jd_X_areWholeNumbers_28 : decode jc_X_areWholeNumbers 28 = .ok (.goto 4, 3) := by decide +kernel
theorem jd_X_areWholeNumbers_31 : decode jc_X_areWholeNumbers 31 = .ok (.iconst 0, 1) := by decide +kernel
theorem jd_X_areWholeNumbers_32 : decode jc_X_areWholeNumbers 32 = .ok (.ireturn, 1) := by decide +kernel
abbrev jc_X_areInLeastTerms : ByteArray := prog_1_method_45_code
abbrev jy_X_areInLeastTerms : MethodName := ⟨"MeasuredTensors", "areInLeastTerms", "(II)Z"⟩
theorem jd_X_areInLeastTerms_0 : decode jc_X_areInLeastTerms 0 = .ok (.iload_n 0, 1) := by decide +kernel
theorem jd_X_areInLeastTerms_1 : decode jc_X_areInLeastTerms 1 = .ok (.i2l, 1) := by decide +kernel
theorem jd_X_areInLeastTerms_2 : decode jc_X_areInLeastTerms 2 = .ok (.iload_n 1, 1) := by decide +kernel
theorem jd_X_areInLeastTerms_3 : decode jc_X_areInLeastTerms 3 = .ok (.i2l, 1) := by decide +kernel
theorem jd_X_areInLeastTerms_4 : decode jc_X_areInLeastTerms 4 = .ok (.invokestatic 361, 3) := by decide +kernel
theorem jd_X_areInLeastTerms_7 : decode jc_X_areInLeastTerms 7 = .ok (.lconst 1, 1) := by decide +kernel
theorem jd_X_areInLeastTerms_8 : decode jc_X_areInLeastTerms 8 = .ok (.lcmp, 1) := by decide +kernel
theorem jd_X_areInLeastTerms_9 : decode jc_X_areInLeastTerms 9 = .ok (.ifCond .ne 7, 3) := by decide +kernel
theorem jd_X_areInLeastTerms_12 : decode jc_X_areInLeastTerms 12 = .ok (.iconst 1, 1) := by decide +kernel
theorem jd_X_areInLeastTerms_13 : decode jc_X_areInLeastTerms 13 = .ok (.goto 4, 3) := by decide +kernel
theorem jd_X_areInLeastTerms_16 : decode jc_X_areInLeastTerms 16 = .ok (.iconst 0, 1) := by decide +kernel
theorem jd_X_areInLeastTerms_17 : decode jc_X_areInLeastTerms 17 = .ok (.ireturn, 1) := by decide +kernel
abbrev jc_X_bitsOf : ByteArray := prog_1_method_46_code
abbrev jy_X_bitsOf : MethodName := ⟨"MeasuredTensors", "bitsOf", "(I)I"⟩
theorem jd_X_bitsOf_0 : decode jc_X_bitsOf 0 = .ok (.iconst 0, 1) := by decide +kernel
theorem jd_X_bitsOf_1 : decode jc_X_bitsOf 1 = .ok (.istore_n 1, 1) := by decide +kernel
theorem jd_X_bitsOf_2 : decode jc_X_bitsOf 2 = .ok (.iload_n 1, 1) := by decide +kernel
theorem jd_X_bitsOf_3 : decode jc_X_bitsOf 3 = .ok (.bipush 31, 2) := by decide +kernel
theorem jd_X_bitsOf_5 : decode jc_X_bitsOf 5 = .ok (.if_icmp .ge 15, 3) := by decide +kernel
theorem jd_X_bitsOf_8 : decode jc_X_bitsOf 8 = .ok (.iload_n 0, 1) := by decide +kernel
theorem jd_X_bitsOf_9 : decode jc_X_bitsOf 9 = .ok (.iload_n 1, 1) := by decide +kernel
theorem jd_X_bitsOf_10 : decode jc_X_bitsOf 10 = .ok (.ishr, 1) := by decide +kernel
theorem jd_X_bitsOf_11 : decode jc_X_bitsOf 11 = .ok (.ifCond .le 9, 3) := by decide +kernel
theorem jd_X_bitsOf_14 : decode jc_X_bitsOf 14 = .ok (.iinc 1 1, 3) := by decide +kernel
theorem jd_X_bitsOf_17 : decode jc_X_bitsOf 17 = .ok (.goto (-15), 3) := by decide +kernel
theorem jd_X_bitsOf_20 : decode jc_X_bitsOf 20 = .ok (.iload_n 1, 1) := by decide +kernel
theorem jd_X_bitsOf_21 : decode jc_X_bitsOf 21 = .ok (.ireturn, 1) := by decide +kernel
abbrev jc_X_doublingsTo : ByteArray := prog_1_method_47_code
abbrev jy_X_doublingsTo : MethodName := ⟨"MeasuredTensors", "doublingsTo", "(I)I"⟩
theorem jd_X_doublingsTo_0 : decode jc_X_doublingsTo 0 = .ok (.iload_n 0, 1) := by decide +kernel
theorem jd_X_doublingsTo_1 : decode jc_X_doublingsTo 1 = .ok (.iconst 1, 1) := by decide +kernel
theorem jd_X_doublingsTo_2 : decode jc_X_doublingsTo 2 = .ok (.isub, 1) := by decide +kernel
theorem jd_X_doublingsTo_3 : decode jc_X_doublingsTo 3 = .ok (.invokestatic 76, 3) := by decide +kernel
theorem jd_X_doublingsTo_6 : decode jc_X_doublingsTo 6 = .ok (.ireturn, 1) := by decide +kernel
abbrev jc_X_twosIn : ByteArray := prog_1_method_48_code
abbrev jy_X_twosIn : MethodName := ⟨"MeasuredTensors", "twosIn", "(I)I"⟩
theorem jd_X_twosIn_0 : decode jc_X_twosIn 0 = .ok (.iconst 0, 1) := by decide +kernel
theorem jd_X_twosIn_1 : decode jc_X_twosIn 1 = .ok (.istore_n 1, 1) := by decide +kernel
theorem jd_X_twosIn_2 : decode jc_X_twosIn 2 = .ok (.iload_n 1, 1) := by decide +kernel
theorem jd_X_twosIn_3 : decode jc_X_twosIn 3 = .ok (.bipush 31, 2) := by decide +kernel
theorem jd_X_twosIn_5 : decode jc_X_twosIn 5 = .ok (.if_icmp .ge 17, 3) := by decide +kernel
theorem jd_X_twosIn_8 : decode jc_X_twosIn 8 = .ok (.iload_n 0, 1) := by decide +kernel
theorem jd_X_twosIn_9 : decode jc_X_twosIn 9 = .ok (.iload_n 1, 1) := by decide +kernel
theorem jd_X_twosIn_10 : decode jc_X_twosIn 10 = .ok (.ishr, 1) := by decide +kernel
theorem jd_X_twosIn_11 : decode jc_X_twosIn 11 = .ok (.iconst 1, 1) := by decide +kernel
theorem jd_X_twosIn_12 : decode jc_X_twosIn 12 = .ok (.iand, 1) := by decide +kernel
theorem jd_X_twosIn_13 : decode jc_X_twosIn 13 = .ok (.ifCond .ne 9, 3) := by decide +kernel
theorem jd_X_twosIn_16 : decode jc_X_twosIn 16 = .ok (.iinc 1 1, 3) := by decide +kernel
theorem jd_X_twosIn_19 : decode jc_X_twosIn 19 = .ok (.goto (-17), 3) := by decide +kernel
theorem jd_X_twosIn_22 : decode jc_X_twosIn 22 = .ok (.iload_n 1, 1) := by decide +kernel
theorem jd_X_twosIn_23 : decode jc_X_twosIn 23 = .ok (.ireturn, 1) := by decide +kernel
abbrev jc_X_timesIn : ByteArray := prog_1_method_49_code
abbrev jy_X_timesIn : MethodName := ⟨"MeasuredTensors", "timesIn", "(II)I"⟩
theorem jd_X_timesIn_0 : decode jc_X_timesIn 0 = .ok (.iload_n 1, 1) := by decide +kernel
theorem jd_X_timesIn_1 : decode jc_X_timesIn 1 = .ok (.iconst 1, 1) := by decide +kernel
theorem jd_X_timesIn_2 : decode jc_X_timesIn 2 = .ok (.if_icmp .ge 7, 3) := by decide +kernel
theorem jd_X_timesIn_5 : decode jc_X_timesIn 5 = .ok (.iconst 0, 1) := by decide +kernel
theorem jd_X_timesIn_6 : decode jc_X_timesIn 6 = .ok (.goto 6, 3) := by decide +kernel
theorem jd_X_timesIn_9 : decode jc_X_timesIn 9 = .ok (.iload_n 0, 1) := by decide +kernel
theorem jd_X_timesIn_10 : decode jc_X_timesIn 10 = .ok (.iload_n 1, 1) := by decide +kernel
theorem jd_X_timesIn_11 : decode jc_X_timesIn 11 = .ok (.idiv, 1) := by decide +kernel
theorem jd_X_timesIn_12 : decode jc_X_timesIn 12 = .ok (.ireturn, 1) := by decide +kernel
abbrev jc_X_greatestCommonDivisor : ByteArray := prog_1_method_50_code
abbrev jy_X_greatestCommonDivisor : MethodName := ⟨"MeasuredTensors", "greatestCommonDivisor", "(JJ)J"⟩
theorem jd_X_greatestCommonDivisor_0 : decode jc_X_greatestCommonDivisor 0 = .ok (.lload_n 0, 1) := by decide +kernel
theorem jd_X_greatestCommonDivisor_1 : decode jc_X_greatestCommonDivisor 1 = .ok (.lstore 4, 2) := by decide +kernel
theorem jd_X_greatestCommonDivisor_3 : decode jc_X_greatestCommonDivisor 3 = .ok (.lload_n 2, 1) := by decide +kernel
theorem jd_X_greatestCommonDivisor_4 : decode jc_X_greatestCommonDivisor 4 = .ok (.lstore 6, 2) := by decide +kernel
theorem jd_X_greatestCommonDivisor_6 : decode jc_X_greatestCommonDivisor 6 = .ok (.iconst 0, 1) := by decide +kernel
theorem jd_X_greatestCommonDivisor_7 : decode jc_X_greatestCommonDivisor 7 = .ok (.istore 8, 2) := by decide +kernel
theorem jd_X_greatestCommonDivisor_9 : decode jc_X_greatestCommonDivisor 9 = .ok (.iload 8, 2) := by decide +kernel
theorem jd_X_greatestCommonDivisor_11 : decode jc_X_greatestCommonDivisor 11 = .ok (.sipush 128, 3) := by decide +kernel
theorem jd_X_greatestCommonDivisor_14 : decode jc_X_greatestCommonDivisor 14 = .ok (.if_icmp .ge 31, 3) := by decide +kernel
theorem jd_X_greatestCommonDivisor_17 : decode jc_X_greatestCommonDivisor 17 = .ok (.lload 6, 2) := by decide +kernel
theorem jd_X_greatestCommonDivisor_19 : decode jc_X_greatestCommonDivisor 19 = .ok (.lconst 0, 1) := by decide +kernel
theorem jd_X_greatestCommonDivisor_20 : decode jc_X_greatestCommonDivisor 20 = .ok (.lcmp, 1) := by decide +kernel
theorem jd_X_greatestCommonDivisor_21 : decode jc_X_greatestCommonDivisor 21 = .ok (.ifCond .eq 24, 3) := by decide +kernel
theorem jd_X_greatestCommonDivisor_24 : decode jc_X_greatestCommonDivisor 24 = .ok (.lload 4, 2) := by decide +kernel
theorem jd_X_greatestCommonDivisor_26 : decode jc_X_greatestCommonDivisor 26 = .ok (.lload 6, 2) := by decide +kernel
theorem jd_X_greatestCommonDivisor_28 : decode jc_X_greatestCommonDivisor 28 = .ok (.lrem, 1) := by decide +kernel
theorem jd_X_greatestCommonDivisor_29 : decode jc_X_greatestCommonDivisor 29 = .ok (.lstore 9, 2) := by decide +kernel
theorem jd_X_greatestCommonDivisor_31 : decode jc_X_greatestCommonDivisor 31 = .ok (.lload 6, 2) := by decide +kernel
theorem jd_X_greatestCommonDivisor_33 : decode jc_X_greatestCommonDivisor 33 = .ok (.lstore 4, 2) := by decide +kernel
theorem jd_X_greatestCommonDivisor_35 : decode jc_X_greatestCommonDivisor 35 = .ok (.lload 9, 2) := by decide +kernel
theorem jd_X_greatestCommonDivisor_37 : decode jc_X_greatestCommonDivisor 37 = .ok (.lstore 6, 2) := by decide +kernel
theorem jd_X_greatestCommonDivisor_39 : decode jc_X_greatestCommonDivisor 39 = .ok (.iinc 8 1, 3) := by decide +kernel
theorem jd_X_greatestCommonDivisor_42 : decode jc_X_greatestCommonDivisor 42 = .ok (.goto (-33), 3) := by decide +kernel
theorem jd_X_greatestCommonDivisor_45 : decode jc_X_greatestCommonDivisor 45 = .ok (.lload 4, 2) := by decide +kernel
theorem jd_X_greatestCommonDivisor_47 : decode jc_X_greatestCommonDivisor 47 = .ok (.lreturn, 1) := by decide +kernel
abbrev jc_X_productBelowBound : ByteArray := prog_1_method_51_code
abbrev jy_X_productBelowBound : MethodName := ⟨"MeasuredTensors", "productBelowBound", "(JJ)J"⟩
theorem jd_X_productBelowBound_0 : decode jc_X_productBelowBound 0 = .ok (.lload_n 0, 1) := by decide +kernel
theorem jd_X_productBelowBound_1 : decode jc_X_productBelowBound 1 = .ok (.lconst 1, 1) := by decide +kernel
theorem jd_X_productBelowBound_2 : decode jc_X_productBelowBound 2 = .ok (.lcmp, 1) := by decide +kernel
theorem jd_X_productBelowBound_3 : decode jc_X_productBelowBound 3 = .ok (.ifCond .lt 19, 3) := by decide +kernel
theorem jd_X_productBelowBound_6 : decode jc_X_productBelowBound 6 = .ok (.lload_n 2, 1) := by decide +kernel
theorem jd_X_productBelowBound_7 : decode jc_X_productBelowBound 7 = .ok (.lconst 1, 1) := by decide +kernel
theorem jd_X_productBelowBound_8 : decode jc_X_productBelowBound 8 = .ok (.lcmp, 1) := by decide +kernel
theorem jd_X_productBelowBound_9 : decode jc_X_productBelowBound 9 = .ok (.ifCond .lt 13, 3) := by decide +kernel
theorem jd_X_productBelowBound_12 : decode jc_X_productBelowBound 12 = .ok (.lload_n 0, 1) := by decide +kernel
theorem jd_X_productBelowBound_13 : decode jc_X_productBelowBound 13 = .ok (.ldc2_w 364, 3) := by decide +kernel
theorem jd_X_productBelowBound_16 : decode jc_X_productBelowBound 16 = .ok (.lload_n 2, 1) := by decide +kernel
theorem jd_X_productBelowBound_17 : decode jc_X_productBelowBound 17 = .ok (.ldiv, 1) := by decide +kernel
theorem jd_X_productBelowBound_18 : decode jc_X_productBelowBound 18 = .ok (.lcmp, 1) := by decide +kernel
theorem jd_X_productBelowBound_19 : decode jc_X_productBelowBound 19 = .ok (.ifCond .le 7, 3) := by decide +kernel
theorem jd_X_productBelowBound_22 : decode jc_X_productBelowBound 22 = .ok (.ldc2_w 353, 3) := by decide +kernel
theorem jd_X_productBelowBound_25 : decode jc_X_productBelowBound 25 = .ok (.lreturn, 1) := by decide +kernel
theorem jd_X_productBelowBound_26 : decode jc_X_productBelowBound 26 = .ok (.lload_n 0, 1) := by decide +kernel
theorem jd_X_productBelowBound_27 : decode jc_X_productBelowBound 27 = .ok (.lload_n 2, 1) := by decide +kernel
theorem jd_X_productBelowBound_28 : decode jc_X_productBelowBound 28 = .ok (.lmul, 1) := by decide +kernel
theorem jd_X_productBelowBound_29 : decode jc_X_productBelowBound 29 = .ok (.lreturn, 1) := by decide +kernel
abbrev jc_X_leastCommonMultiple : ByteArray := prog_1_method_52_code
abbrev jy_X_leastCommonMultiple : MethodName := ⟨"MeasuredTensors", "leastCommonMultiple", "(JJ)J"⟩
theorem jd_X_leastCommonMultiple_0 : decode jc_X_leastCommonMultiple 0 = .ok (.lload_n 0, 1) := by decide +kernel
theorem jd_X_leastCommonMultiple_1 : decode jc_X_leastCommonMultiple 1 = .ok (.lload_n 2, 1) := by decide +kernel
theorem jd_X_leastCommonMultiple_2 : decode jc_X_leastCommonMultiple 2 = .ok (.invokestatic 361, 3) := by decide +kernel
theorem jd_X_leastCommonMultiple_5 : decode jc_X_leastCommonMultiple 5 = .ok (.lstore 4, 2) := by decide +kernel
theorem jd_X_leastCommonMultiple_7 : decode jc_X_leastCommonMultiple 7 = .ok (.lload 4, 2) := by decide +kernel
theorem jd_X_leastCommonMultiple_9 : decode jc_X_leastCommonMultiple 9 = .ok (.lconst 1, 1) := by decide +kernel
theorem jd_X_leastCommonMultiple_10 : decode jc_X_leastCommonMultiple 10 = .ok (.lcmp, 1) := by decide +kernel
theorem jd_X_leastCommonMultiple_11 : decode jc_X_leastCommonMultiple 11 = .ok (.ifCond .ge 9, 3) := by decide +kernel
theorem jd_X_leastCommonMultiple_14 : decode jc_X_leastCommonMultiple 14 = .ok (.ldc2_w 353, 3) := by decide +kernel
theorem jd_X_leastCommonMultiple_17 : decode jc_X_leastCommonMultiple 17 = .ok (.goto 11, 3) := by decide +kernel
theorem jd_X_leastCommonMultiple_20 : decode jc_X_leastCommonMultiple 20 = .ok (.lload_n 0, 1) := by decide +kernel
theorem jd_X_leastCommonMultiple_21 : decode jc_X_leastCommonMultiple 21 = .ok (.lload 4, 2) := by decide +kernel
theorem jd_X_leastCommonMultiple_23 : decode jc_X_leastCommonMultiple 23 = .ok (.ldiv, 1) := by decide +kernel
theorem jd_X_leastCommonMultiple_24 : decode jc_X_leastCommonMultiple 24 = .ok (.lload_n 2, 1) := by decide +kernel
theorem jd_X_leastCommonMultiple_25 : decode jc_X_leastCommonMultiple 25 = .ok (.invokestatic 366, 3) := by decide +kernel
theorem jd_X_leastCommonMultiple_28 : decode jc_X_leastCommonMultiple 28 = .ok (.lreturn, 1) := by decide +kernel
abbrev jc_I_init : ByteArray := prog_2_method_1_code
abbrev jy_I_init : MethodName := ⟨"MeasuredTensors$Index", "<init>", "()V"⟩
theorem jd_I_init_0 : decode jc_I_init 0 = .ok (.aload_n 0, 1) := by decide +kernel
theorem jd_I_init_1 : decode jc_I_init 1 = .ok (.invokespecial 1, 3) := by decide +kernel
theorem jd_I_init_4 : decode jc_I_init 4 = .ok (.aload_n 0, 1) := by decide +kernel
theorem jd_I_init_5 : decode jc_I_init 5 = .ok (.new 7, 3) := by decide +kernel
theorem jd_I_init_8 : decode jc_I_init 8 = .ok (.dup, 1) := by decide +kernel
theorem jd_I_init_9 : decode jc_I_init 9 = .ok (.invokespecial 9, 3) := by decide +kernel
theorem jd_I_init_12 : decode jc_I_init 12 = .ok (.putfield 10, 3) := by decide +kernel
theorem jd_I_init_15 : decode jc_I_init 15 = .ok (.return_, 1) := by decide +kernel
abbrev jc_M_init : ByteArray := prog_3_method_1_code
abbrev jy_M_init : MethodName := ⟨"MeasuredTensors$Measure", "<init>", "()V"⟩
theorem jd_M_init_0 : decode jc_M_init 0 = .ok (.aload_n 0, 1) := by decide +kernel
theorem jd_M_init_1 : decode jc_M_init 1 = .ok (.invokespecial 3, 3) := by decide +kernel
theorem jd_M_init_4 : decode jc_M_init 4 = .ok (.aload_n 0, 1) := by decide +kernel
theorem jd_M_init_5 : decode jc_M_init 5 = .ok (.iconst 0, 1) := by decide +kernel
theorem jd_M_init_6 : decode jc_M_init 6 = .ok (.putfield 9, 3) := by decide +kernel
theorem jd_M_init_9 : decode jc_M_init 9 = .ok (.aload_n 0, 1) := by decide +kernel
theorem jd_M_init_10 : decode jc_M_init 10 = .ok (.iconst 0, 1) := by decide +kernel
theorem jd_M_init_11 : decode jc_M_init 11 = .ok (.putfield 15, 3) := by decide +kernel
theorem jd_M_init_14 : decode jc_M_init 14 = .ok (.aload_n 0, 1) := by decide +kernel
theorem jd_M_init_15 : decode jc_M_init 15 = .ok (.lconst 1, 1) := by decide +kernel
theorem jd_M_init_16 : decode jc_M_init 16 = .ok (.putfield 18, 3) := by decide +kernel
theorem jd_M_init_19 : decode jc_M_init 19 = .ok (.return_, 1) := by decide +kernel
abbrev jc_M_set : ByteArray := prog_3_method_2_code
abbrev jy_M_set : MethodName := ⟨"MeasuredTensors$Measure", "set", "(IIJ)V"⟩
theorem jd_M_set_0 : decode jc_M_set 0 = .ok (.aload_n 0, 1) := by decide +kernel
theorem jd_M_set_1 : decode jc_M_set 1 = .ok (.iload_n 1, 1) := by decide +kernel
theorem jd_M_set_2 : decode jc_M_set 2 = .ok (.putfield 9, 3) := by decide +kernel
theorem jd_M_set_5 : decode jc_M_set 5 = .ok (.aload_n 0, 1) := by decide +kernel
theorem jd_M_set_6 : decode jc_M_set 6 = .ok (.iload_n 2, 1) := by decide +kernel
theorem jd_M_set_7 : decode jc_M_set 7 = .ok (.putfield 15, 3) := by decide +kernel
theorem jd_M_set_10 : decode jc_M_set 10 = .ok (.aload_n 0, 1) := by decide +kernel
theorem jd_M_set_11 : decode jc_M_set 11 = .ok (.lload_n 3, 1) := by decide +kernel
theorem jd_M_set_12 : decode jc_M_set 12 = .ok (.putfield 18, 3) := by decide +kernel
theorem jd_M_set_15 : decode jc_M_set 15 = .ok (.return_, 1) := by decide +kernel
abbrev jc_M_copy : ByteArray := prog_3_method_3_code
abbrev jy_M_copy : MethodName := ⟨"MeasuredTensors$Measure", "copy", "(LMeasuredTensors$Measure;)V"⟩
theorem jd_M_copy_0 : decode jc_M_copy 0 = .ok (.aload_n 0, 1) := by decide +kernel
theorem jd_M_copy_1 : decode jc_M_copy 1 = .ok (.aload_n 1, 1) := by decide +kernel
theorem jd_M_copy_2 : decode jc_M_copy 2 = .ok (.getfield 9, 3) := by decide +kernel
theorem jd_M_copy_5 : decode jc_M_copy 5 = .ok (.aload_n 1, 1) := by decide +kernel
theorem jd_M_copy_6 : decode jc_M_copy 6 = .ok (.getfield 15, 3) := by decide +kernel
theorem jd_M_copy_9 : decode jc_M_copy 9 = .ok (.aload_n 1, 1) := by decide +kernel
theorem jd_M_copy_10 : decode jc_M_copy 10 = .ok (.getfield 18, 3) := by decide +kernel
theorem jd_M_copy_13 : decode jc_M_copy 13 = .ok (.invokevirtual 22, 3) := by decide +kernel
theorem jd_M_copy_16 : decode jc_M_copy 16 = .ok (.return_, 1) := by decide +kernel
abbrev jc_M_widen : ByteArray := prog_3_method_4_code
abbrev jy_M_widen : MethodName := ⟨"MeasuredTensors$Measure", "widen", "(I)V"⟩
theorem jd_M_widen_0 : decode jc_M_widen 0 = .ok (.aload_n 0, 1) := by decide +kernel
theorem jd_M_widen_1 : decode jc_M_widen 1 = .ok (.dup, 1) := by decide +kernel
theorem jd_M_widen_2 : decode jc_M_widen 2 = .ok (.getfield 9, 3) := by decide +kernel
theorem jd_M_widen_5 : decode jc_M_widen 5 = .ok (.iload_n 1, 1) := by decide +kernel
theorem jd_M_widen_6 : decode jc_M_widen 6 = .ok (.iadd, 1) := by decide +kernel
theorem jd_M_widen_7 : decode jc_M_widen 7 = .ok (.putfield 9, 3) := by decide +kernel
theorem jd_M_widen_10 : decode jc_M_widen 10 = .ok (.return_, 1) := by decide +kernel
abbrev jc_M_multiply : ByteArray := prog_3_method_5_code
abbrev jy_M_multiply : MethodName := ⟨"MeasuredTensors$Measure", "multiply", "(LMeasuredTensors$Measure;)V"⟩
theorem jd_M_multiply_0 : decode jc_M_multiply 0 = .ok (.aload_n 0, 1) := by decide +kernel
theorem jd_M_multiply_1 : decode jc_M_multiply 1 = .ok (.aload_n 0, 1) := by decide +kernel
theorem jd_M_multiply_2 : decode jc_M_multiply 2 = .ok (.getfield 9, 3) := by decide +kernel
theorem jd_M_multiply_5 : decode jc_M_multiply 5 = .ok (.aload_n 1, 1) := by decide +kernel
theorem jd_M_multiply_6 : decode jc_M_multiply 6 = .ok (.getfield 9, 3) := by decide +kernel
theorem jd_M_multiply_9 : decode jc_M_multiply 9 = .ok (.iadd, 1) := by decide +kernel
theorem jd_M_multiply_10 : decode jc_M_multiply 10 = .ok (.aload_n 0, 1) := by decide +kernel
theorem jd_M_multiply_11 : decode jc_M_multiply 11 = .ok (.getfield 15, 3) := by decide +kernel
theorem jd_M_multiply_14 : decode jc_M_multiply 14 = .ok (.aload_n 1, 1) := by decide +kernel
theorem jd_M_multiply_15 : decode jc_M_multiply 15 = .ok (.getfield 15, 3) := by decide +kernel
theorem jd_M_multiply_18 : decode jc_M_multiply 18 = .ok (.iadd, 1) := by decide +kernel
theorem jd_M_multiply_19 : decode jc_M_multiply 19 = .ok (.aload_n 0, 1) := by decide +kernel
theorem jd_M_multiply_20 : decode jc_M_multiply 20 = .ok (.getfield 18, 3) := by decide +kernel
theorem jd_M_multiply_23 : decode jc_M_multiply 23 = .ok (.aload_n 1, 1) := by decide +kernel
theorem jd_M_multiply_24 : decode jc_M_multiply 24 = .ok (.getfield 18, 3) := by decide +kernel
theorem jd_M_multiply_27 : decode jc_M_multiply 27 = .ok (.invokestatic 26, 3) := by decide +kernel
theorem jd_M_multiply_30 : decode jc_M_multiply 30 = .ok (.invokevirtual 22, 3) := by decide +kernel
theorem jd_M_multiply_33 : decode jc_M_multiply 33 = .ok (.return_, 1) := by decide +kernel
abbrev jc_M_divide : ByteArray := prog_3_method_6_code
abbrev jy_M_divide : MethodName := ⟨"MeasuredTensors$Measure", "divide", "(II)V"⟩
theorem jd_M_divide_0 : decode jc_M_divide 0 = .ok (.iload_n 1, 1) := by decide +kernel
theorem jd_M_divide_1 : decode jc_M_divide 1 = .ok (.invokestatic 30, 3) := by decide +kernel
theorem jd_M_divide_4 : decode jc_M_divide 4 = .ok (.istore_n 3, 1) := by decide +kernel
theorem jd_M_divide_5 : decode jc_M_divide 5 = .ok (.aload_n 0, 1) := by decide +kernel
theorem jd_M_divide_6 : decode jc_M_divide 6 = .ok (.aload_n 0, 1) := by decide +kernel
theorem jd_M_divide_7 : decode jc_M_divide 7 = .ok (.getfield 9, 3) := by decide +kernel
theorem jd_M_divide_10 : decode jc_M_divide 10 = .ok (.iload_n 2, 1) := by decide +kernel
theorem jd_M_divide_11 : decode jc_M_divide 11 = .ok (.invokestatic 34, 3) := by decide +kernel
theorem jd_M_divide_14 : decode jc_M_divide 14 = .ok (.iadd, 1) := by decide +kernel
theorem jd_M_divide_15 : decode jc_M_divide 15 = .ok (.aload_n 0, 1) := by decide +kernel
theorem jd_M_divide_16 : decode jc_M_divide 16 = .ok (.getfield 15, 3) := by decide +kernel
theorem jd_M_divide_19 : decode jc_M_divide 19 = .ok (.iload_n 3, 1) := by decide +kernel
theorem jd_M_divide_20 : decode jc_M_divide 20 = .ok (.iadd, 1) := by decide +kernel
theorem jd_M_divide_21 : decode jc_M_divide 21 = .ok (.aload_n 0, 1) := by decide +kernel
theorem jd_M_divide_22 : decode jc_M_divide 22 = .ok (.getfield 18, 3) := by decide +kernel
theorem jd_M_divide_25 : decode jc_M_divide 25 = .ok (.iload_n 1, 1) := by decide +kernel
theorem jd_M_divide_26 : decode jc_M_divide 26 = .ok (.iload_n 3, 1) := by decide +kernel
theorem jd_M_divide_27 : decode jc_M_divide 27 = .ok (.ishr, 1) := by decide +kernel
theorem jd_M_divide_28 : decode jc_M_divide 28 = .ok (.i2l, 1) := by decide +kernel
theorem jd_M_divide_29 : decode jc_M_divide 29 = .ok (.invokestatic 26, 3) := by decide +kernel
theorem jd_M_divide_32 : decode jc_M_divide 32 = .ok (.invokevirtual 22, 3) := by decide +kernel
theorem jd_M_divide_35 : decode jc_M_divide 35 = .ok (.return_, 1) := by decide +kernel
abbrev jc_M_unite : ByteArray := prog_3_method_7_code
abbrev jy_M_unite : MethodName := ⟨"MeasuredTensors$Measure", "unite", "(LMeasuredTensors$Measure;)V"⟩
theorem jd_M_unite_0 : decode jc_M_unite 0 = .ok (.aload_n 0, 1) := by decide +kernel
theorem jd_M_unite_1 : decode jc_M_unite 1 = .ok (.aload_n 0, 1) := by decide +kernel
theorem jd_M_unite_2 : decode jc_M_unite 2 = .ok (.getfield 9, 3) := by decide +kernel
theorem jd_M_unite_5 : decode jc_M_unite 5 = .ok (.aload_n 1, 1) := by decide +kernel
theorem jd_M_unite_6 : decode jc_M_unite 6 = .ok (.getfield 9, 3) := by decide +kernel
theorem jd_M_unite_9 : decode jc_M_unite 9 = .ok (.invokestatic 37, 3) := by decide +kernel
theorem jd_M_unite_12 : decode jc_M_unite 12 = .ok (.aload_n 0, 1) := by decide +kernel
theorem jd_M_unite_13 : decode jc_M_unite 13 = .ok (.getfield 15, 3) := by decide +kernel
theorem jd_M_unite_16 : decode jc_M_unite 16 = .ok (.aload_n 1, 1) := by decide +kernel
theorem jd_M_unite_17 : decode jc_M_unite 17 = .ok (.getfield 15, 3) := by decide +kernel
theorem jd_M_unite_20 : decode jc_M_unite 20 = .ok (.invokestatic 37, 3) := by decide +kernel
theorem jd_M_unite_23 : decode jc_M_unite 23 = .ok (.aload_n 0, 1) := by decide +kernel
theorem jd_M_unite_24 : decode jc_M_unite 24 = .ok (.getfield 18, 3) := by decide +kernel
theorem jd_M_unite_27 : decode jc_M_unite 27 = .ok (.aload_n 1, 1) := by decide +kernel
theorem jd_M_unite_28 : decode jc_M_unite 28 = .ok (.getfield 18, 3) := by decide +kernel
theorem jd_M_unite_31 : decode jc_M_unite 31 = .ok (.invokestatic 43, 3) := by decide +kernel
theorem jd_M_unite_34 : decode jc_M_unite 34 = .ok (.invokevirtual 22, 3) := by decide +kernel
theorem jd_M_unite_37 : decode jc_M_unite 37 = .ok (.return_, 1) := by decide +kernel
abbrev jc_M_isBeyond : ByteArray := prog_3_method_8_code
abbrev jy_M_isBeyond : MethodName := ⟨"MeasuredTensors$Measure", "isBeyond", "()Z"⟩
theorem jd_M_isBeyond_0 : decode jc_M_isBeyond 0 = .ok (.aload_n 0, 1) := by decide +kernel
theorem jd_M_isBeyond_1 : decode jc_M_isBeyond 1 = .ok (.getfield 9, 3) := by decide +kernel
theorem jd_M_isBeyond_4 : decode jc_M_isBeyond 4 = .ok (.sipush 4000, 3) := by decide +kernel
theorem jd_M_isBeyond_7 : decode jc_M_isBeyond 7 = .ok (.if_icmp .gt 24, 3) := by decide +kernel
theorem jd_M_isBeyond_10 : decode jc_M_isBeyond 10 = .ok (.aload_n 0, 1) := by decide +kernel
theorem jd_M_isBeyond_11 : decode jc_M_isBeyond 11 = .ok (.getfield 15, 3) := by decide +kernel
theorem jd_M_isBeyond_14 : decode jc_M_isBeyond 14 = .ok (.sipush 4000, 3) := by decide +kernel
theorem jd_M_isBeyond_17 : decode jc_M_isBeyond 17 = .ok (.if_icmp .gt 14, 3) := by decide +kernel
theorem jd_M_isBeyond_20 : decode jc_M_isBeyond 20 = .ok (.aload_n 0, 1) := by decide +kernel
theorem jd_M_isBeyond_21 : decode jc_M_isBeyond 21 = .ok (.getfield 18, 3) := by decide +kernel
theorem jd_M_isBeyond_24 : decode jc_M_isBeyond 24 = .ok (.ldc2_w 46, 3) := by decide +kernel
theorem jd_M_isBeyond_27 : decode jc_M_isBeyond 27 = .ok (.lcmp, 1) := by decide +kernel
theorem jd_M_isBeyond_28 : decode jc_M_isBeyond 28 = .ok (.ifCond .lt 7, 3) := by decide +kernel
theorem jd_M_isBeyond_31 : decode jc_M_isBeyond 31 = .ok (.iconst 1, 1) := by decide +kernel
theorem jd_M_isBeyond_32 : decode jc_M_isBeyond 32 = .ok (.goto 4, 3) := by decide +kernel
theorem jd_M_isBeyond_35 : decode jc_M_isBeyond 35 = .ok (.iconst 0, 1) := by decide +kernel
theorem jd_M_isBeyond_36 : decode jc_M_isBeyond 36 = .ok (.ireturn, 1) := by decide +kernel
abbrev jc_M_limbs : ByteArray := prog_3_method_9_code
abbrev jy_M_limbs : MethodName := ⟨"MeasuredTensors$Measure", "limbs", "()I"⟩
theorem jd_M_limbs_0 : decode jc_M_limbs 0 = .ok (.aload_n 0, 1) := by decide +kernel
theorem jd_M_limbs_1 : decode jc_M_limbs 1 = .ok (.getfield 9, 3) := by decide +kernel
theorem jd_M_limbs_4 : decode jc_M_limbs 4 = .ok (.aload_n 0, 1) := by decide +kernel
theorem jd_M_limbs_5 : decode jc_M_limbs 5 = .ok (.getfield 15, 3) := by decide +kernel
theorem jd_M_limbs_8 : decode jc_M_limbs 8 = .ok (.iadd, 1) := by decide +kernel
theorem jd_M_limbs_9 : decode jc_M_limbs 9 = .ok (.bipush 64, 2) := by decide +kernel
theorem jd_M_limbs_11 : decode jc_M_limbs 11 = .ok (.iadd, 1) := by decide +kernel
theorem jd_M_limbs_12 : decode jc_M_limbs 12 = .ok (.bipush 31, 2) := by decide +kernel
theorem jd_M_limbs_14 : decode jc_M_limbs 14 = .ok (.iadd, 1) := by decide +kernel
theorem jd_M_limbs_15 : decode jc_M_limbs 15 = .ok (.bipush 32, 2) := by decide +kernel
theorem jd_M_limbs_17 : decode jc_M_limbs 17 = .ok (.idiv, 1) := by decide +kernel
theorem jd_M_limbs_18 : decode jc_M_limbs 18 = .ok (.ireturn, 1) := by decide +kernel
abbrev jc_S_init : ByteArray := prog_4_method_1_code
abbrev jy_S_init : MethodName := ⟨"MeasuredTensors$Shape", "<init>", "()V"⟩
theorem jd_S_init_0 : decode jc_S_init 0 = .ok (.aload_n 0, 1) := by decide +kernel
theorem jd_S_init_1 : decode jc_S_init 1 = .ok (.invokespecial 3, 3) := by decide +kernel
theorem jd_S_init_4 : decode jc_S_init 4 = .ok (.aload_n 0, 1) := by decide +kernel
theorem jd_S_init_5 : decode jc_S_init 5 = .ok (.iconst 4, 1) := by decide +kernel
theorem jd_S_init_6 : decode jc_S_init 6 = .ok (.newarray .int, 2) := by decide +kernel
theorem jd_S_init_8 : decode jc_S_init 8 = .ok (.putfield 9, 3) := by decide +kernel
theorem jd_S_init_11 : decode jc_S_init 11 = .ok (.aload_n 0, 1) := by decide +kernel
theorem jd_S_init_12 : decode jc_S_init 12 = .ok (.iconst 0, 1) := by decide +kernel
theorem jd_S_init_13 : decode jc_S_init 13 = .ok (.putfield 15, 3) := by decide +kernel
theorem jd_S_init_16 : decode jc_S_init 16 = .ok (.return_, 1) := by decide +kernel
abbrev jc_S_clear : ByteArray := prog_4_method_2_code
abbrev jy_S_clear : MethodName := ⟨"MeasuredTensors$Shape", "clear", "()V"⟩
theorem jd_S_clear_0 : decode jc_S_clear 0 = .ok (.aload_n 0, 1) := by decide +kernel
theorem jd_S_clear_1 : decode jc_S_clear 1 = .ok (.iconst 0, 1) := by decide +kernel
theorem jd_S_clear_2 : decode jc_S_clear 2 = .ok (.putfield 15, 3) := by decide +kernel
theorem jd_S_clear_5 : decode jc_S_clear 5 = .ok (.return_, 1) := by decide +kernel
abbrev jc_S_append : ByteArray := prog_4_method_3_code
abbrev jy_S_append : MethodName := ⟨"MeasuredTensors$Shape", "append", "(I)V"⟩
theorem jd_S_append_0 : decode jc_S_append 0 = .ok (.aload_n 0, 1) := by decide +kernel
theorem jd_S_append_1 : decode jc_S_append 1 = .ok (.getfield 15, 3) := by decide +kernel
theorem jd_S_append_4 : decode jc_S_append 4 = .ok (.ifCond .lt 35, 3) := by decide +kernel
theorem jd_S_append_7 : decode jc_S_append 7 = .ok (.aload_n 0, 1) := by decide +kernel
theorem jd_S_append_8 : decode jc_S_append 8 = .ok (.getfield 15, 3) := by decide +kernel
theorem jd_S_append_11 : decode jc_S_append 11 = .ok (.aload_n 0, 1) := by decide +kernel
theorem jd_S_append_12 : decode jc_S_append 12 = .ok (.getfield 9, 3) := by decide +kernel
theorem jd_S_append_15 : decode jc_S_append 15 = .ok (.arraylength, 1) := by decide +kernel
theorem jd_S_append_16 : decode jc_S_append 16 = .ok (.if_icmp .ge 23, 3) := by decide +kernel
theorem jd_S_append_19 : decode jc_S_append 19 = .ok (.aload_n 0, 1) := by decide +kernel
theorem jd_S_append_20 : decode jc_S_append 20 = .ok (.getfield 9, 3) := by decide +kernel
theorem jd_S_append_23 : decode jc_S_append 23 = .ok (.aload_n 0, 1) := by decide +kernel
theorem jd_S_append_24 : decode jc_S_append 24 = .ok (.getfield 15, 3) := by decide +kernel
theorem jd_S_append_27 : decode jc_S_append 27 = .ok (.iload_n 1, 1) := by decide +kernel
theorem jd_S_append_28 : decode jc_S_append 28 = .ok (.iastore, 1) := by decide +kernel
theorem jd_S_append_29 : decode jc_S_append 29 = .ok (.aload_n 0, 1) := by decide +kernel
theorem jd_S_append_30 : decode jc_S_append 30 = .ok (.dup, 1) := by decide +kernel
theorem jd_S_append_31 : decode jc_S_append 31 = .ok (.getfield 15, 3) := by decide +kernel
theorem jd_S_append_34 : decode jc_S_append 34 = .ok (.iconst 1, 1) := by decide +kernel
theorem jd_S_append_35 : decode jc_S_append 35 = .ok (.iadd, 1) := by decide +kernel
theorem jd_S_append_36 : decode jc_S_append 36 = .ok (.putfield 15, 3) := by decide +kernel
theorem jd_S_append_39 : decode jc_S_append 39 = .ok (.return_, 1) := by decide +kernel
