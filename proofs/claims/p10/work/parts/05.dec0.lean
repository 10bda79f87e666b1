abbrev jc_Y_init : ByteArray := prog_7_method_1_code
abbrev jy_Y_init : MethodName := ⟨"MeasuredTensorsModel", "<init>", "()V"⟩
theorem jd_Y_init_0 : decode jc_Y_init 0 = .ok (.aload_n 0, 1) := by decide +kernel
theorem jd_Y_init_1 : decode jc_Y_init 1 = .ok (.invokespecial 1, 3) := by decide +kernel
theorem jd_Y_init_4 : decode jc_Y_init 4 = .ok (.aload_n 0, 1) := by decide +kernel
theorem jd_Y_init_5 : decode jc_Y_init 5 = .ok (.bipush 32, 2) := by decide +kernel
theorem jd_Y_init_7 : decode jc_Y_init 7 = .ok (.newarray .int, 2) := by decide +kernel
theorem jd_Y_init_9 : decode jc_Y_init 9 = .ok (.putfield 7, 3) := by decide +kernel
theorem jd_Y_init_12 : decode jc_Y_init 12 = .ok (.aload_n 0, 1) := by decide +kernel
theorem jd_Y_init_13 : decode jc_Y_init 13 = .ok (.bipush 32, 2) := by decide +kernel
theorem jd_Y_init_15 : decode jc_Y_init 15 = .ok (.newarray .int, 2) := by decide +kernel
theorem jd_Y_init_17 : decode jc_Y_init 17 = .ok (.putfield 13, 3) := by decide +kernel
theorem jd_Y_init_20 : decode jc_Y_init 20 = .ok (.aload_n 0, 1) := by decide +kernel
theorem jd_Y_init_21 : decode jc_Y_init 21 = .ok (.bipush 32, 2) := by decide +kernel
theorem jd_Y_init_23 : decode jc_Y_init 23 = .ok (.newarray .int, 2) := by decide +kernel
theorem jd_Y_init_25 : decode jc_Y_init 25 = .ok (.putfield 16, 3) := by decide +kernel
theorem jd_Y_init_28 : decode jc_Y_init 28 = .ok (.aload_n 0, 1) := by decide +kernel
theorem jd_Y_init_29 : decode jc_Y_init 29 = .ok (.bipush 32, 2) := by decide +kernel
theorem jd_Y_init_31 : decode jc_Y_init 31 = .ok (.newarray .int, 2) := by decide +kernel
theorem jd_Y_init_33 : decode jc_Y_init 33 = .ok (.putfield 19, 3) := by decide +kernel
theorem jd_Y_init_36 : decode jc_Y_init 36 = .ok (.aload_n 0, 1) := by decide +kernel
theorem jd_Y_init_37 : decode jc_Y_init 37 = .ok (.sipush 128, 3) := by decide +kernel
theorem jd_Y_init_40 : decode jc_Y_init 40 = .ok (.newarray .int, 2) := by decide +kernel
theorem jd_Y_init_42 : decode jc_Y_init 42 = .ok (.putfield 22, 3) := by decide +kernel
theorem jd_Y_init_45 : decode jc_Y_init 45 = .ok (.aload_n 0, 1) := by decide +kernel
theorem jd_Y_init_46 : decode jc_Y_init 46 = .ok (.bipush 32, 2) := by decide +kernel
theorem jd_Y_init_48 : decode jc_Y_init 48 = .ok (.newarray .int, 2) := by decide +kernel
theorem jd_Y_init_50 : decode jc_Y_init 50 = .ok (.putfield 25, 3) := by decide +kernel
theorem jd_Y_init_53 : decode jc_Y_init 53 = .ok (.aload_n 0, 1) := by decide +kernel
theorem jd_Y_init_54 : decode jc_Y_init 54 = .ok (.bipush 32, 2) := by decide +kernel
theorem jd_Y_init_56 : decode jc_Y_init 56 = .ok (.newarray .int, 2) := by decide +kernel
theorem jd_Y_init_58 : decode jc_Y_init 58 = .ok (.putfield 28, 3) := by decide +kernel
theorem jd_Y_init_61 : decode jc_Y_init 61 = .ok (.aload_n 0, 1) := by decide +kernel
theorem jd_Y_init_62 : decode jc_Y_init 62 = .ok (.bipush 32, 2) := by decide +kernel
theorem jd_Y_init_64 : decode jc_Y_init 64 = .ok (.newarray .int, 2) := by decide +kernel
theorem jd_Y_init_66 : decode jc_Y_init 66 = .ok (.putfield 31, 3) := by decide +kernel
theorem jd_Y_init_69 : decode jc_Y_init 69 = .ok (.aload_n 0, 1) := by decide +kernel
theorem jd_Y_init_70 : decode jc_Y_init 70 = .ok (.bipush 32, 2) := by decide +kernel
theorem jd_Y_init_72 : decode jc_Y_init 72 = .ok (.newarray .int, 2) := by decide +kernel
theorem jd_Y_init_74 : decode jc_Y_init 74 = .ok (.putfield 34, 3) := by decide +kernel
theorem jd_Y_init_77 : decode jc_Y_init 77 = .ok (.aload_n 0, 1) := by decide +kernel
theorem jd_Y_init_78 : decode jc_Y_init 78 = .ok (.bipush 32, 2) := by decide +kernel
theorem jd_Y_init_80 : decode jc_Y_init 80 = .ok (.newarray .long, 2) := by decide +kernel
theorem jd_Y_init_82 : decode jc_Y_init 82 = .ok (.putfield 37, 3) := by decide +kernel
theorem jd_Y_init_85 : decode jc_Y_init 85 = .ok (.aload_n 0, 1) := by decide +kernel
theorem jd_Y_init_86 : decode jc_Y_init 86 = .ok (.bipush 32, 2) := by decide +kernel
theorem jd_Y_init_88 : decode jc_Y_init 88 = .ok (.newarray .int, 2) := by decide +kernel
theorem jd_Y_init_90 : decode jc_Y_init 90 = .ok (.putfield 41, 3) := by decide +kernel
theorem jd_Y_init_93 : decode jc_Y_init 93 = .ok (.aload_n 0, 1) := by decide +kernel
theorem jd_Y_init_94 : decode jc_Y_init 94 = .ok (.bipush 32, 2) := by decide +kernel
theorem jd_Y_init_96 : decode jc_Y_init 96 = .ok (.newarray .int, 2) := by decide +kernel
theorem jd_Y_init_98 : decode jc_Y_init 98 = .ok (.putfield 44, 3) := by decide +kernel
theorem jd_Y_init_101 : decode jc_Y_init 101 = .ok (.aload_n 0, 1) := by decide +kernel
theorem jd_Y_init_102 : decode jc_Y_init 102 = .ok (.bipush 16, 2) := by decide +kernel
theorem jd_Y_init_104 : decode jc_Y_init 104 = .ok (.newarray .int, 2) := by decide +kernel
theorem jd_Y_init_106 : decode jc_Y_init 106 = .ok (.putfield 47, 3) := by decide +kernel
theorem jd_Y_init_109 : decode jc_Y_init 109 = .ok (.aload_n 0, 1) := by decide +kernel
theorem jd_Y_init_110 : decode jc_Y_init 110 = .ok (.bipush 16, 2) := by decide +kernel
theorem jd_Y_init_112 : decode jc_Y_init 112 = .ok (.newarray .int, 2) := by decide +kernel
theorem jd_Y_init_114 : decode jc_Y_init 114 = .ok (.putfield 50, 3) := by decide +kernel
theorem jd_Y_init_117 : decode jc_Y_init 117 = .ok (.aload_n 0, 1) := by decide +kernel
theorem jd_Y_init_118 : decode jc_Y_init 118 = .ok (.bipush 16, 2) := by decide +kernel
theorem jd_Y_init_120 : decode jc_Y_init 120 = .ok (.newarray .int, 2) := by decide +kernel
theorem jd_Y_init_122 : decode jc_Y_init 122 = .ok (.putfield 53, 3) := by decide +kernel
theorem jd_Y_init_125 : decode jc_Y_init 125 = .ok (.aload_n 0, 1) := by decide +kernel
theorem jd_Y_init_126 : decode jc_Y_init 126 = .ok (.iconst (-1), 1) := by decide +kernel
theorem jd_Y_init_127 : decode jc_Y_init 127 = .ok (.putfield 56, 3) := by decide +kernel
theorem jd_Y_init_130 : decode jc_Y_init 130 = .ok (.aload_n 0, 1) := by decide +kernel
theorem jd_Y_init_131 : decode jc_Y_init 131 = .ok (.bipush 32, 2) := by decide +kernel
theorem jd_Y_init_133 : decode jc_Y_init 133 = .ok (.newarray .int, 2) := by decide +kernel
theorem jd_Y_init_135 : decode jc_Y_init 135 = .ok (.putfield 60, 3) := by decide +kernel
theorem jd_Y_init_138 : decode jc_Y_init 138 = .ok (.aload_n 0, 1) := by decide +kernel
theorem jd_Y_init_139 : decode jc_Y_init 139 = .ok (.bipush 32, 2) := by decide +kernel
theorem jd_Y_init_141 : decode jc_Y_init 141 = .ok (.newarray .int, 2) := by decide +kernel
theorem jd_Y_init_143 : decode jc_Y_init 143 = .ok (.putfield 63, 3) := by decide +kernel
theorem jd_Y_init_146 : decode jc_Y_init 146 = .ok (.aload_n 0, 1) := by decide +kernel
theorem jd_Y_init_147 : decode jc_Y_init 147 = .ok (.bipush 32, 2) := by decide +kernel
theorem jd_Y_init_149 : decode jc_Y_init 149 = .ok (.newarray .int, 2) := by decide +kernel
theorem jd_Y_init_151 : decode jc_Y_init 151 = .ok (.putfield 66, 3) := by decide +kernel
theorem jd_Y_init_154 : decode jc_Y_init 154 = .ok (.aload_n 0, 1) := by decide +kernel
theorem jd_Y_init_155 : decode jc_Y_init 155 = .ok (.bipush 32, 2) := by decide +kernel
theorem jd_Y_init_157 : decode jc_Y_init 157 = .ok (.newarray .long, 2) := by decide +kernel
theorem jd_Y_init_159 : decode jc_Y_init 159 = .ok (.putfield 69, 3) := by decide +kernel
theorem jd_Y_init_162 : decode jc_Y_init 162 = .ok (.aload_n 0, 1) := by decide +kernel
theorem jd_Y_init_163 : decode jc_Y_init 163 = .ok (.iconst 4, 1) := by decide +kernel
theorem jd_Y_init_164 : decode jc_Y_init 164 = .ok (.newarray .int, 2) := by decide +kernel
theorem jd_Y_init_166 : decode jc_Y_init 166 = .ok (.putfield 72, 3) := by decide +kernel
theorem jd_Y_init_169 : decode jc_Y_init 169 = .ok (.return_, 1) := by decide +kernel
abbrev jc_Y_thrown : ByteArray := prog_7_method_2_code
abbrev jy_Y_thrown : MethodName := ⟨"MeasuredTensorsModel", "thrown", "()I"⟩
theorem jd_Y_thrown_0 : decode jc_Y_thrown 0 = .ok (.aload_n 0, 1) := by decide +kernel
theorem jd_Y_thrown_1 : decode jc_Y_thrown 1 = .ok (.getfield 75, 3) := by decide +kernel
theorem jd_Y_thrown_4 : decode jc_Y_thrown 4 = .ok (.ireturn, 1) := by decide +kernel
abbrev jc_Y_begin : ByteArray := prog_7_method_3_code
abbrev jy_Y_begin : MethodName := ⟨"MeasuredTensorsModel", "begin", "(I)V"⟩
theorem jd_Y_begin_0 : decode jc_Y_begin 0 = .ok (.aload_n 0, 1) := by decide +kernel
theorem jd_Y_begin_1 : decode jc_Y_begin 1 = .ok (.iload_n 1, 1) := by decide +kernel
theorem jd_Y_begin_2 : decode jc_Y_begin 2 = .ok (.ifCond .lt 9, 3) := by decide +kernel
theorem jd_Y_begin_5 : decode jc_Y_begin 5 = .ok (.iload_n 1, 1) := by decide +kernel
theorem jd_Y_begin_6 : decode jc_Y_begin 6 = .ok (.bipush 64, 2) := by decide +kernel
theorem jd_Y_begin_8 : decode jc_Y_begin 8 = .ok (.if_icmp .le 7, 3) := by decide +kernel
theorem jd_Y_begin_11 : decode jc_Y_begin 11 = .ok (.iconst 1, 1) := by decide +kernel
theorem jd_Y_begin_12 : decode jc_Y_begin 12 = .ok (.goto 4, 3) := by decide +kernel
theorem jd_Y_begin_15 : decode jc_Y_begin 15 = .ok (.iconst 0, 1) := by decide +kernel
theorem jd_Y_begin_16 : decode jc_Y_begin 16 = .ok (.putfield 75, 3) := by decide +kernel
theorem jd_Y_begin_19 : decode jc_Y_begin 19 = .ok (.aload_n 0, 1) := by decide +kernel
theorem jd_Y_begin_20 : decode jc_Y_begin 20 = .ok (.getfield 75, 3) := by decide +kernel
theorem jd_Y_begin_23 : decode jc_Y_begin 23 = .ok (.ifCond .le 4, 3) := by decide +kernel
theorem jd_Y_begin_26 : decode jc_Y_begin 26 = .ok (.return_, 1) := by decide +kernel
theorem jd_Y_begin_27 : decode jc_Y_begin 27 = .ok (.aload_n 0, 1) := by decide +kernel
theorem jd_Y_begin_28 : decode jc_Y_begin 28 = .ok (.iload_n 1, 1) := by decide +kernel
theorem jd_Y_begin_29 : decode jc_Y_begin 29 = .ok (.putfield 78, 3) := by decide +kernel
theorem jd_Y_begin_32 : decode jc_Y_begin 32 = .ok (.aload_n 0, 1) := by decide +kernel
theorem jd_Y_begin_33 : decode jc_Y_begin 33 = .ok (.iconst 0, 1) := by decide +kernel
theorem jd_Y_begin_34 : decode jc_Y_begin 34 = .ok (.putfield 81, 3) := by decide +kernel
theorem jd_Y_begin_37 : decode jc_Y_begin 37 = .ok (.aload_n 0, 1) := by decide +kernel
theorem jd_Y_begin_38 : decode jc_Y_begin 38 = .ok (.lconst 0, 1) := by decide +kernel
theorem jd_Y_begin_39 : decode jc_Y_begin 39 = .ok (.putfield 84, 3) := by decide +kernel
theorem jd_Y_begin_42 : decode jc_Y_begin 42 = .ok (.aload_n 0, 1) := by decide +kernel
theorem jd_Y_begin_43 : decode jc_Y_begin 43 = .ok (.iconst 0, 1) := by decide +kernel
theorem jd_Y_begin_44 : decode jc_Y_begin 44 = .ok (.putfield 88, 3) := by decide +kernel
theorem jd_Y_begin_47 : decode jc_Y_begin 47 = .ok (.aload_n 0, 1) := by decide +kernel
theorem jd_Y_begin_48 : decode jc_Y_begin 48 = .ok (.iconst (-1), 1) := by decide +kernel
theorem jd_Y_begin_49 : decode jc_Y_begin 49 = .ok (.putfield 56, 3) := by decide +kernel
theorem jd_Y_begin_52 : decode jc_Y_begin 52 = .ok (.return_, 1) := by decide +kernel
abbrev jc_Y_log : ByteArray := prog_7_method_4_code
abbrev jy_Y_log : MethodName := ⟨"MeasuredTensorsModel", "log", "(J)I"⟩
theorem jd_Y_log_0 : decode jc_Y_log 0 = .ok (.iconst 0, 1) := by decide +kernel
theorem jd_Y_log_1 : decode jc_Y_log 1 = .ok (.istore_n 2, 1) := by decide +kernel
theorem jd_Y_log_2 : decode jc_Y_log 2 = .ok (.lconst 1, 1) := by decide +kernel
theorem jd_Y_log_3 : decode jc_Y_log 3 = .ok (.lstore_n 3, 1) := by decide +kernel
theorem jd_Y_log_4 : decode jc_Y_log 4 = .ok (.lload_n 3, 1) := by decide +kernel
theorem jd_Y_log_5 : decode jc_Y_log 5 = .ok (.lload_n 0, 1) := by decide +kernel
theorem jd_Y_log_6 : decode jc_Y_log 6 = .ok (.lcmp, 1) := by decide +kernel
theorem jd_Y_log_7 : decode jc_Y_log 7 = .ok (.ifCond .ge 15, 3) := by decide +kernel
theorem jd_Y_log_10 : decode jc_Y_log 10 = .ok (.ldc2_w 91, 3) := by decide +kernel
theorem jd_Y_log_13 : decode jc_Y_log 13 = .ok (.lload_n 3, 1) := by decide +kernel
theorem jd_Y_log_14 : decode jc_Y_log 14 = .ok (.lmul, 1) := by decide +kernel
theorem jd_Y_log_15 : decode jc_Y_log 15 = .ok (.lstore_n 3, 1) := by decide +kernel
theorem jd_Y_log_16 : decode jc_Y_log 16 = .ok (.iinc 2 1, 3) := by decide +kernel
theorem jd_Y_log_19 : decode jc_Y_log 19 = .ok (.goto (-15), 3) := by decide +kernel
theorem jd_Y_log_22 : decode jc_Y_log 22 = .ok (.iload_n 2, 1) := by decide +kernel
theorem jd_Y_log_23 : decode jc_Y_log 23 = .ok (.ireturn, 1) := by decide +kernel
abbrev jc_Y_twos : ByteArray := prog_7_method_5_code
abbrev jy_Y_twos : MethodName := ⟨"MeasuredTensorsModel", "twos", "(J)I"⟩
theorem jd_Y_twos_0 : decode jc_Y_twos 0 = .ok (.iconst 0, 1) := by decide +kernel
theorem jd_Y_twos_1 : decode jc_Y_twos 1 = .ok (.istore_n 2, 1) := by decide +kernel
theorem jd_Y_twos_2 : decode jc_Y_twos 2 = .ok (.lload_n 0, 1) := by decide +kernel
theorem jd_Y_twos_3 : decode jc_Y_twos 3 = .ok (.lstore_n 3, 1) := by decide +kernel
theorem jd_Y_twos_4 : decode jc_Y_twos 4 = .ok (.lload_n 3, 1) := by decide +kernel
theorem jd_Y_twos_5 : decode jc_Y_twos 5 = .ok (.ldc2_w 91, 3) := by decide +kernel
theorem jd_Y_twos_8 : decode jc_Y_twos 8 = .ok (.lrem, 1) := by decide +kernel
theorem jd_Y_twos_9 : decode jc_Y_twos 9 = .ok (.lconst 0, 1) := by decide +kernel
theorem jd_Y_twos_10 : decode jc_Y_twos 10 = .ok (.lcmp, 1) := by decide +kernel
theorem jd_Y_twos_11 : decode jc_Y_twos 11 = .ok (.ifCond .ne 15, 3) := by decide +kernel
theorem jd_Y_twos_14 : decode jc_Y_twos 14 = .ok (.iinc 2 1, 3) := by decide +kernel
theorem jd_Y_twos_17 : decode jc_Y_twos 17 = .ok (.lload_n 3, 1) := by decide +kernel
theorem jd_Y_twos_18 : decode jc_Y_twos 18 = .ok (.ldc2_w 91, 3) := by decide +kernel
theorem jd_Y_twos_21 : decode jc_Y_twos 21 = .ok (.ldiv, 1) := by decide +kernel
theorem jd_Y_twos_22 : decode jc_Y_twos 22 = .ok (.lstore_n 3, 1) := by decide +kernel
theorem jd_Y_twos_23 : decode jc_Y_twos 23 = .ok (.goto (-19), 3) := by decide +kernel
theorem jd_Y_twos_26 : decode jc_Y_twos 26 = .ok (.iload_n 2, 1) := by decide +kernel
theorem jd_Y_twos_27 : decode jc_Y_twos 27 = .ok (.ireturn, 1) := by decide +kernel
abbrev jc_Y_oddPart : ByteArray := prog_7_method_6_code
abbrev jy_Y_oddPart : MethodName := ⟨"MeasuredTensorsModel", "oddPart", "(J)J"⟩
theorem jd_Y_oddPart_0 : decode jc_Y_oddPart 0 = .ok (.lload_n 0, 1) := by decide +kernel
theorem jd_Y_oddPart_1 : decode jc_Y_oddPart 1 = .ok (.lstore_n 2, 1) := by decide +kernel
theorem jd_Y_oddPart_2 : decode jc_Y_oddPart 2 = .ok (.lload_n 2, 1) := by decide +kernel
theorem jd_Y_oddPart_3 : decode jc_Y_oddPart 3 = .ok (.ldc2_w 91, 3) := by decide +kernel
theorem jd_Y_oddPart_6 : decode jc_Y_oddPart 6 = .ok (.lrem, 1) := by decide +kernel
theorem jd_Y_oddPart_7 : decode jc_Y_oddPart 7 = .ok (.lconst 0, 1) := by decide +kernel
theorem jd_Y_oddPart_8 : decode jc_Y_oddPart 8 = .ok (.lcmp, 1) := by decide +kernel
theorem jd_Y_oddPart_9 : decode jc_Y_oddPart 9 = .ok (.ifCond .ne 12, 3) := by decide +kernel
theorem jd_Y_oddPart_12 : decode jc_Y_oddPart 12 = .ok (.lload_n 2, 1) := by decide +kernel
theorem jd_Y_oddPart_13 : decode jc_Y_oddPart 13 = .ok (.ldc2_w 91, 3) := by decide +kernel
theorem jd_Y_oddPart_16 : decode jc_Y_oddPart 16 = .ok (.ldiv, 1) := by decide +kernel
theorem jd_Y_oddPart_17 : decode jc_Y_oddPart 17 = .ok (.lstore_n 2, 1) := by decide +kernel
theorem jd_Y_oddPart_18 : decode jc_Y_oddPart 18 = .ok (.goto (-16), 3) := by decide +kernel
theorem jd_Y_oddPart_21 : decode jc_Y_oddPart 21 = .ok (.lload_n 2, 1) := by decide +kernel
theorem jd_Y_oddPart_22 : decode jc_Y_oddPart 22 = .ok (.lreturn, 1) := by decide +kernel
abbrev jc_Y_gcd : ByteArray := prog_7_method_7_code
abbrev jy_Y_gcd : MethodName := ⟨"MeasuredTensorsModel", "gcd", "(JJ)J"⟩
theorem jd_Y_gcd_0 : decode jc_Y_gcd 0 = .ok (.lload_n 0, 1) := by decide +kernel
theorem jd_Y_gcd_1 : decode jc_Y_gcd 1 = .ok (.lstore 4, 2) := by decide +kernel
theorem jd_Y_gcd_3 : decode jc_Y_gcd 3 = .ok (.lload_n 2, 1) := by decide +kernel
theorem jd_Y_gcd_4 : decode jc_Y_gcd 4 = .ok (.lstore 6, 2) := by decide +kernel
theorem jd_Y_gcd_6 : decode jc_Y_gcd 6 = .ok (.lload 6, 2) := by decide +kernel
theorem jd_Y_gcd_8 : decode jc_Y_gcd 8 = .ok (.lconst 0, 1) := by decide +kernel
theorem jd_Y_gcd_9 : decode jc_Y_gcd 9 = .ok (.lcmp, 1) := by decide +kernel
theorem jd_Y_gcd_10 : decode jc_Y_gcd 10 = .ok (.ifCond .le 21, 3) := by decide +kernel
theorem jd_Y_gcd_13 : decode jc_Y_gcd 13 = .ok (.lload 4, 2) := by decide +kernel
theorem jd_Y_gcd_15 : decode jc_Y_gcd 15 = .ok (.lload 6, 2) := by decide +kernel
theorem jd_Y_gcd_17 : decode jc_Y_gcd 17 = .ok (.lrem, 1) := by decide +kernel
theorem jd_Y_gcd_18 : decode jc_Y_gcd 18 = .ok (.lstore 8, 2) := by decide +kernel
theorem jd_Y_gcd_20 : decode jc_Y_gcd 20 = .ok (.lload 6, 2) := by decide +kernel
theorem jd_Y_gcd_22 : decode jc_Y_gcd 22 = .ok (.lstore 4, 2) := by decide +kernel
theorem jd_Y_gcd_24 : decode jc_Y_gcd 24 = .ok (.lload 8, 2) := by decide +kernel
theorem jd_Y_gcd_26 : decode jc_Y_gcd 26 = .ok (.lstore 6, 2) := by decide +kernel
theorem jd_Y_gcd_28 : decode jc_Y_gcd 28 = .ok (.goto (-22), 3) := by decide +kernel
theorem jd_Y_gcd_31 : decode jc_Y_gcd 31 = .ok (.lload 4, 2) := by decide +kernel
theorem jd_Y_gcd_33 : decode jc_Y_gcd 33 = .ok (.lreturn, 1) := by decide +kernel
abbrev jc_Y_product : ByteArray := prog_7_method_8_code
abbrev jy_Y_product : MethodName := ⟨"MeasuredTensorsModel", "product", "(JJ)J"⟩
theorem jd_Y_product_0 : decode jc_Y_product 0 = .ok (.lload_n 0, 1) := by decide +kernel
theorem jd_Y_product_1 : decode jc_Y_product 1 = .ok (.lconst 0, 1) := by decide +kernel
theorem jd_Y_product_2 : decode jc_Y_product 2 = .ok (.lcmp, 1) := by decide +kernel
theorem jd_Y_product_3 : decode jc_Y_product 3 = .ok (.ifCond .eq 9, 3) := by decide +kernel
theorem jd_Y_product_6 : decode jc_Y_product 6 = .ok (.lload_n 2, 1) := by decide +kernel
theorem jd_Y_product_7 : decode jc_Y_product 7 = .ok (.lconst 0, 1) := by decide +kernel
theorem jd_Y_product_8 : decode jc_Y_product 8 = .ok (.lcmp, 1) := by decide +kernel
theorem jd_Y_product_9 : decode jc_Y_product 9 = .ok (.ifCond .ne 5, 3) := by decide +kernel
theorem jd_Y_product_12 : decode jc_Y_product 12 = .ok (.lconst 0, 1) := by decide +kernel
theorem jd_Y_product_13 : decode jc_Y_product 13 = .ok (.lreturn, 1) := by decide +kernel
theorem jd_Y_product_14 : decode jc_Y_product 14 = .ok (.lload_n 0, 1) := by decide +kernel
theorem jd_Y_product_15 : decode jc_Y_product 15 = .ok (.ldc2_w 93, 3) := by decide +kernel
theorem jd_Y_product_18 : decode jc_Y_product 18 = .ok (.lload_n 2, 1) := by decide +kernel
theorem jd_Y_product_19 : decode jc_Y_product 19 = .ok (.ldiv, 1) := by decide +kernel
theorem jd_Y_product_20 : decode jc_Y_product 20 = .ok (.lcmp, 1) := by decide +kernel
theorem jd_Y_product_21 : decode jc_Y_product 21 = .ok (.ifCond .gt 9, 3) := by decide +kernel
theorem jd_Y_product_24 : decode jc_Y_product 24 = .ok (.lload_n 0, 1) := by decide +kernel
theorem jd_Y_product_25 : decode jc_Y_product 25 = .ok (.lload_n 2, 1) := by decide +kernel
theorem jd_Y_product_26 : decode jc_Y_product 26 = .ok (.lmul, 1) := by decide +kernel
theorem jd_Y_product_27 : decode jc_Y_product 27 = .ok (.goto 4, 3) := by decide +kernel
theorem jd_Y_product_30 : decode jc_Y_product 30 = .ok (.lconst 0, 1) := by decide +kernel
theorem jd_Y_product_31 : decode jc_Y_product 31 = .ok (.lreturn, 1) := by decide +kernel
abbrev jc_Y_common : ByteArray := prog_7_method_9_code
abbrev jy_Y_common : MethodName := ⟨"MeasuredTensorsModel", "common", "(JJ)J"⟩
theorem jd_Y_common_0 : decode jc_Y_common 0 = .ok (.lload_n 0, 1) := by decide +kernel
theorem jd_Y_common_1 : decode jc_Y_common 1 = .ok (.lconst 0, 1) := by decide +kernel
theorem jd_Y_common_2 : decode jc_Y_common 2 = .ok (.lcmp, 1) := by decide +kernel
theorem jd_Y_common_3 : decode jc_Y_common 3 = .ok (.ifCond .eq 9, 3) := by decide +kernel
theorem jd_Y_common_6 : decode jc_Y_common 6 = .ok (.lload_n 2, 1) := by decide +kernel
theorem jd_Y_common_7 : decode jc_Y_common 7 = .ok (.lconst 0, 1) := by decide +kernel
theorem jd_Y_common_8 : decode jc_Y_common 8 = .ok (.lcmp, 1) := by decide +kernel
theorem jd_Y_common_9 : decode jc_Y_common 9 = .ok (.ifCond .ne 7, 3) := by decide +kernel
theorem jd_Y_common_12 : decode jc_Y_common 12 = .ok (.lconst 0, 1) := by decide +kernel
theorem jd_Y_common_13 : decode jc_Y_common 13 = .ok (.goto 14, 3) := by decide +kernel
theorem jd_Y_common_16 : decode jc_Y_common 16 = .ok (.lload_n 0, 1) := by decide +kernel
theorem jd_Y_common_17 : decode jc_Y_common 17 = .ok (.lload_n 0, 1) := by decide +kernel
theorem jd_Y_common_18 : decode jc_Y_common 18 = .ok (.lload_n 2, 1) := by decide +kernel
theorem jd_Y_common_19 : decode jc_Y_common 19 = .ok (.invokestatic 95, 3) := by decide +kernel
theorem jd_Y_common_22 : decode jc_Y_common 22 = .ok (.ldiv, 1) := by decide +kernel
theorem jd_Y_common_23 : decode jc_Y_common 23 = .ok (.lload_n 2, 1) := by decide +kernel
theorem jd_Y_common_24 : decode jc_Y_common 24 = .ok (.invokestatic 99, 3) := by decide +kernel
theorem jd_Y_common_27 : decode jc_Y_common 27 = .ok (.lreturn, 1) := by decide +kernel
abbrev jc_Y_side : ByteArray := prog_7_method_10_code
abbrev jy_Y_side : MethodName := ⟨"MeasuredTensorsModel", "side", "(II)I"⟩
theorem jd_Y_side_0 : decode jc_Y_side 0 = .ok (.aload_n 0, 1) := by decide +kernel
theorem jd_Y_side_1 : decode jc_Y_side 1 = .ok (.getfield 22, 3) := by decide +kernel
theorem jd_Y_side_4 : decode jc_Y_side 4 = .ok (.iconst 4, 1) := by decide +kernel
theorem jd_Y_side_5 : decode jc_Y_side 5 = .ok (.iload_n 1, 1) := by decide +kernel
theorem jd_Y_side_6 : decode jc_Y_side 6 = .ok (.imul, 1) := by decide +kernel
theorem jd_Y_side_7 : decode jc_Y_side 7 = .ok (.iload_n 2, 1) := by decide +kernel
theorem jd_Y_side_8 : decode jc_Y_side 8 = .ok (.iadd, 1) := by decide +kernel
theorem jd_Y_side_9 : decode jc_Y_side 9 = .ok (.iaload, 1) := by decide +kernel
theorem jd_Y_side_10 : decode jc_Y_side 10 = .ok (.ireturn, 1) := by decide +kernel
abbrev jc_Y_newCells : ByteArray := prog_7_method_11_code
abbrev jy_Y_newCells : MethodName := ⟨"MeasuredTensorsModel", "newCells", "()J"⟩
theorem jd_Y_newCells_0 : decode jc_Y_newCells 0 = .ok (.lconst 1, 1) := by decide +kernel
theorem jd_Y_newCells_1 : decode jc_Y_newCells 1 = .ok (.lstore_n 1, 1) := by decide +kernel
theorem jd_Y_newCells_2 : decode jc_Y_newCells 2 = .ok (.iconst 0, 1) := by decide +kernel
theorem jd_Y_newCells_3 : decode jc_Y_newCells 3 = .ok (.istore_n 3, 1) := by decide +kernel
theorem jd_Y_newCells_4 : decode jc_Y_newCells 4 = .ok (.iload_n 3, 1) := by decide +kernel
theorem jd_Y_newCells_5 : decode jc_Y_newCells 5 = .ok (.aload_n 0, 1) := by decide +kernel
theorem jd_Y_newCells_6 : decode jc_Y_newCells 6 = .ok (.getfield 102, 3) := by decide +kernel
theorem jd_Y_newCells_9 : decode jc_Y_newCells 9 = .ok (.if_icmp .ge 19, 3) := by decide +kernel
theorem jd_Y_newCells_12 : decode jc_Y_newCells 12 = .ok (.lload_n 1, 1) := by decide +kernel
theorem jd_Y_newCells_13 : decode jc_Y_newCells 13 = .ok (.aload_n 0, 1) := by decide +kernel
theorem jd_Y_newCells_14 : decode jc_Y_newCells 14 = .ok (.getfield 72, 3) := by decide +kernel
theorem jd_Y_newCells_17 : decode jc_Y_newCells 17 = .ok (.iload_n 3, 1) := by decide +kernel
theorem jd_Y_newCells_18 : decode jc_Y_newCells 18 = .ok (.iaload, 1) := by decide +kernel
theorem jd_Y_newCells_19 : decode jc_Y_newCells 19 = .ok (.i2l, 1) := by decide +kernel
theorem jd_Y_newCells_20 : decode jc_Y_newCells 20 = .ok (.lmul, 1) := by decide +kernel
theorem jd_Y_newCells_21 : decode jc_Y_newCells 21 = .ok (.lstore_n 1, 1) := by decide +kernel
theorem jd_Y_newCells_22 : decode jc_Y_newCells 22 = .ok (.iinc 3 1, 3) := by decide +kernel
theorem jd_Y_newCells_25 : decode jc_Y_newCells 25 = .ok (.goto (-21), 3) := by decide +kernel
theorem jd_Y_newCells_28 : decode jc_Y_newCells 28 = .ok (.lload_n 1, 1) := by decide +kernel
theorem jd_Y_newCells_29 : decode jc_Y_newCells 29 = .ok (.lreturn, 1) := by decide +kernel
abbrev jc_Y_shapeOf : ByteArray := prog_7_method_12_code
abbrev jy_Y_shapeOf : MethodName := ⟨"MeasuredTensorsModel", "shapeOf", "(I)V"⟩
theorem jd_Y_shapeOf_0 : decode jc_Y_shapeOf 0 = .ok (.aload_n 0, 1) := by decide +kernel
theorem jd_Y_shapeOf_1 : decode jc_Y_shapeOf 1 = .ok (.aload_n 0, 1) := by decide +kernel
theorem jd_Y_shapeOf_2 : decode jc_Y_shapeOf 2 = .ok (.getfield 19, 3) := by decide +kernel
theorem jd_Y_shapeOf_5 : decode jc_Y_shapeOf 5 = .ok (.iload_n 1, 1) := by decide +kernel
theorem jd_Y_shapeOf_6 : decode jc_Y_shapeOf 6 = .ok (.iaload, 1) := by decide +kernel
theorem jd_Y_shapeOf_7 : decode jc_Y_shapeOf 7 = .ok (.putfield 102, 3) := by decide +kernel
theorem jd_Y_shapeOf_10 : decode jc_Y_shapeOf 10 = .ok (.iconst 0, 1) := by decide +kernel
theorem jd_Y_shapeOf_11 : decode jc_Y_shapeOf 11 = .ok (.istore_n 2, 1) := by decide +kernel
theorem jd_Y_shapeOf_12 : decode jc_Y_shapeOf 12 = .ok (.iload_n 2, 1) := by decide +kernel
theorem jd_Y_shapeOf_13 : decode jc_Y_shapeOf 13 = .ok (.iconst 4, 1) := by decide +kernel
theorem jd_Y_shapeOf_14 : decode jc_Y_shapeOf 14 = .ok (.if_icmp .ge 21, 3) := by decide +kernel
theorem jd_Y_shapeOf_17 : decode jc_Y_shapeOf 17 = .ok (.aload_n 0, 1) := by decide +kernel
theorem jd_Y_shapeOf_18 : decode jc_Y_shapeOf 18 = .ok (.getfield 72, 3) := by decide +kernel
theorem jd_Y_shapeOf_21 : decode jc_Y_shapeOf 21 = .ok (.iload_n 2, 1) := by decide +kernel
theorem jd_Y_shapeOf_22 : decode jc_Y_shapeOf 22 = .ok (.aload_n 0, 1) := by decide +kernel
theorem jd_Y_shapeOf_23 : decode jc_Y_shapeOf 23 = .ok (.iload_n 1, 1) := by decide +kernel
theorem jd_Y_shapeOf_24 : decode jc_Y_shapeOf 24 = .ok (.iload_n 2, 1) := by decide +kernel
theorem jd_Y_shapeOf_25 : decode jc_Y_shapeOf 25 = .ok (.invokevirtual 105, 3) := by decide +kernel
theorem jd_Y_shapeOf_28 : decode jc_Y_shapeOf 28 = .ok (.iastore, 1) := by decide +kernel
theorem jd_Y_shapeOf_29 : decode jc_Y_shapeOf 29 = .ok (.iinc 2 1, 3) := by decide +kernel
theorem jd_Y_shapeOf_32 : decode jc_Y_shapeOf 32 = .ok (.goto (-20), 3) := by decide +kernel
theorem jd_Y_shapeOf_35 : decode jc_Y_shapeOf 35 = .ok (.return_, 1) := by decide +kernel
abbrev jc_Y_grow : ByteArray := prog_7_method_13_code
abbrev jy_Y_grow : MethodName := ⟨"MeasuredTensorsModel", "grow", "()V"⟩
theorem jd_Y_grow_0 : decode jc_Y_grow 0 = .ok (.aload_n 0, 1) := by decide +kernel
theorem jd_Y_grow_1 : decode jc_Y_grow 1 = .ok (.getfield 81, 3) := by decide +kernel
theorem jd_Y_grow_4 : decode jc_Y_grow 4 = .ok (.aload_n 0, 1) := by decide +kernel
theorem jd_Y_grow_5 : decode jc_Y_grow 5 = .ok (.getfield 7, 3) := by decide +kernel
theorem jd_Y_grow_8 : decode jc_Y_grow 8 = .ok (.arraylength, 1) := by decide +kernel
theorem jd_Y_grow_9 : decode jc_Y_grow 9 = .ok (.if_icmp .ge 4, 3) := by decide +kernel
theorem jd_Y_grow_12 : decode jc_Y_grow 12 = .ok (.return_, 1) := by decide +kernel
theorem jd_Y_grow_13 : decode jc_Y_grow 13 = .ok (.iconst 2, 1) := by decide +kernel
theorem jd_Y_grow_14 : decode jc_Y_grow 14 = .ok (.aload_n 0, 1) := by decide +kernel
theorem jd_Y_grow_15 : decode jc_Y_grow 15 = .ok (.getfield 81, 3) := by decide +kernel
theorem jd_Y_grow_18 : decode jc_Y_grow 18 = .ok (.imul, 1) := by decide +kernel
theorem jd_Y_grow_19 : decode jc_Y_grow 19 = .ok (.istore_n 1, 1) := by decide +kernel
theorem jd_Y_grow_20 : decode jc_Y_grow 20 = .ok (.aload_n 0, 1) := by decide +kernel
theorem jd_Y_grow_21 : decode jc_Y_grow 21 = .ok (.aload_n 0, 1) := by decide +kernel
theorem jd_Y_grow_22 : decode jc_Y_grow 22 = .ok (.getfield 7, 3) := by decide +kernel
theorem jd_Y_grow_25 : decode jc_Y_grow 25 = .ok (.iload_n 1, 1) := by decide +kernel
theorem jd_Y_grow_26 : decode jc_Y_grow 26 = .ok (.invokestatic 109, 3) := by decide +kernel
theorem jd_Y_grow_29 : decode jc_Y_grow 29 = .ok (.putfield 7, 3) := by decide +kernel
theorem jd_Y_grow_32 : decode jc_Y_grow 32 = .ok (.aload_n 0, 1) := by decide +kernel
theorem jd_Y_grow_33 : decode jc_Y_grow 33 = .ok (.aload_n 0, 1) := by decide +kernel
theorem jd_Y_grow_34 : decode jc_Y_grow 34 = .ok (.getfield 13, 3) := by decide +kernel
theorem jd_Y_grow_37 : decode jc_Y_grow 37 = .ok (.iload_n 1, 1) := by decide +kernel
theorem jd_Y_grow_38 : decode jc_Y_grow 38 = .ok (.invokestatic 109, 3) := by decide +kernel
theorem jd_Y_grow_41 : decode jc_Y_grow 41 = .ok (.putfield 13, 3) := by decide +kernel
theorem jd_Y_grow_44 : decode jc_Y_grow 44 = .ok (.aload_n 0, 1) := by decide +kernel
theorem jd_Y_grow_45 : decode jc_Y_grow 45 = .ok (.aload_n 0, 1) := by decide +kernel
theorem jd_Y_grow_46 : decode jc_Y_grow 46 = .ok (.getfield 16, 3) := by decide +kernel
theorem jd_Y_grow_49 : decode jc_Y_grow 49 = .ok (.iload_n 1, 1) := by decide +kernel
theorem jd_Y_grow_50 : decode jc_Y_grow 50 = .ok (.invokestatic 109, 3) := by decide +kernel
theorem jd_Y_grow_53 : decode jc_Y_grow 53 = .ok (.putfield 16, 3) := by decide +kernel
theorem jd_Y_grow_56 : decode jc_Y_grow 56 = .ok (.aload_n 0, 1) := by decide +kernel
theorem jd_Y_grow_57 : decode jc_Y_grow 57 = .ok (.aload_n 0, 1) := by decide +kernel
theorem jd_Y_grow_58 : decode jc_Y_grow 58 = .ok (.getfield 19, 3) := by decide +kernel
theorem jd_Y_grow_61 : decode jc_Y_grow 61 = .ok (.iload_n 1, 1) := by decide +kernel
theorem jd_Y_grow_62 : decode jc_Y_grow 62 = .ok (.invokestatic 109, 3) := by decide +kernel
theorem jd_Y_grow_65 : decode jc_Y_grow 65 = .ok (.putfield 19, 3) := by decide +kernel
theorem jd_Y_grow_68 : decode jc_Y_grow 68 = .ok (.aload_n 0, 1) := by decide +kernel
theorem jd_Y_grow_69 : decode jc_Y_grow 69 = .ok (.aload_n 0, 1) := by decide +kernel
theorem jd_Y_grow_70 : decode jc_Y_grow 70 = .ok (.getfield 22, 3) := by decide +kernel
theorem jd_Y_grow_73 : decode jc_Y_grow 73 = .ok (.iconst 4, 1) := by decide +kernel
theorem jd_Y_grow_74 : decode jc_Y_grow 74 = .ok (.iload_n 1, 1) := by decide +kernel
theorem jd_Y_grow_75 : decode jc_Y_grow 75 = .ok (.imul, 1) := by decide +kernel
theorem jd_Y_grow_76 : decode jc_Y_grow 76 = .ok (.invokestatic 109, 3) := by decide +kernel
theorem jd_Y_grow_79 : decode jc_Y_grow 79 = .ok (.putfield 22, 3) := by decide +kernel
theorem jd_Y_grow_82 : decode jc_Y_grow 82 = .ok (.aload_n 0, 1) := by decide +kernel
theorem jd_Y_grow_83 : decode jc_Y_grow 83 = .ok (.aload_n 0, 1) := by decide +kernel
theorem jd_Y_grow_84 : decode jc_Y_grow 84 = .ok (.getfield 25, 3) := by decide +kernel
theorem jd_Y_grow_87 : decode jc_Y_grow 87 = .ok (.iload_n 1, 1) := by decide +kernel
theorem jd_Y_grow_88 : decode jc_Y_grow 88 = .ok (.invokestatic 109, 3) := by decide +kernel
theorem jd_Y_grow_91 : decode jc_Y_grow 91 = .ok (.putfield 25, 3) := by decide +kernel
theorem jd_Y_grow_94 : decode jc_Y_grow 94 = .ok (.aload_n 0, 1) := by decide +kernel
theorem jd_Y_grow_95 : decode jc_Y_grow 95 = .ok (.aload_n 0, 1) := by decide +kernel
theorem jd_Y_grow_96 : decode jc_Y_grow 96 = .ok (.getfield 28, 3) := by decide +kernel
theorem jd_Y_grow_99 : decode jc_Y_grow 99 = .ok (.iload_n 1, 1) := by decide +kernel
theorem jd_Y_grow_100 : decode jc_Y_grow 100 = .ok (.invokestatic 109, 3) := by decide +kernel
theorem jd_Y_grow_103 : decode jc_Y_grow 103 = .ok (.putfield 28, 3) := by decide +kernel
theorem jd_Y_grow_106 : decode jc_Y_grow 106 = .ok (.aload_n 0, 1) := by decide +kernel
theorem jd_Y_grow_107 : decode jc_Y_grow 107 = .ok (.aload_n 0, 1) := by decide +kernel
theorem jd_Y_grow_108 : decode jc_Y_grow 108 = .ok (.getfield 31, 3) := by decide +kernel
theorem jd_Y_grow_111 : decode jc_Y_grow 111 = .ok (.iload_n 1, 1) := by decide +kernel
theorem jd_Y_grow_112 : decode jc_Y_grow 112 = .ok (.invokestatic 109, 3) := by decide +kernel
theorem jd_Y_grow_115 : decode jc_Y_grow 115 = .ok (.putfield 31, 3) := by decide +kernel
theorem jd_Y_grow_118 : decode jc_Y_grow 118 = .ok (.aload_n 0, 1) := by decide +kernel
theorem jd_Y_grow_119 : decode jc_Y_grow 119 = .ok (.aload_n 0, 1) := by decide +kernel
theorem jd_Y_grow_120 : decode jc_Y_grow 120 = .ok (.getfield 34, 3) := by decide +kernel
theorem jd_Y_grow_123 : decode jc_Y_grow 123 = .ok (.iload_n 1, 1) := by decide +kernel
theorem jd_Y_grow_124 : decode jc_Y_grow 124 = .ok (.invokestatic 109, 3) := by decide +kernel
theorem jd_Y_grow_127 : decode jc_Y_grow 127 = .ok (.putfield 34, 3) := by decide +kernel
theorem jd_Y_grow_130 : decode jc_Y_grow 130 = .ok (.aload_n 0, 1) := by decide +kernel
theorem jd_Y_grow_131 : decode jc_Y_grow 131 = .ok (.aload_n 0, 1) := by decide +kernel
theorem jd_Y_grow_132 : decode jc_Y_grow 132 = .ok (.getfield 37, 3) := by decide +kernel
theorem jd_Y_grow_135 : decode jc_Y_grow 135 = .ok (.iload_n 1, 1) := by decide +kernel
theorem jd_Y_grow_136 : decode jc_Y_grow 136 = .ok (.invokestatic 115, 3) := by decide +kernel
theorem jd_Y_grow_139 : decode jc_Y_grow 139 = .ok (.putfield 37, 3) := by decide +kernel
theorem jd_Y_grow_142 : decode jc_Y_grow 142 = .ok (.aload_n 0, 1) := by decide +kernel
theorem jd_Y_grow_143 : decode jc_Y_grow 143 = .ok (.aload_n 0, 1) := by decide +kernel
theorem jd_Y_grow_144 : decode jc_Y_grow 144 = .ok (.getfield 41, 3) := by decide +kernel
theorem jd_Y_grow_147 : decode jc_Y_grow 147 = .ok (.iload_n 1, 1) := by decide +kernel
theorem jd_Y_grow_148 : decode jc_Y_grow 148 = .ok (.invokestatic 109, 3) := by decide +kernel
theorem jd_Y_grow_151 : decode jc_Y_grow 151 = .ok (.putfield 41, 3) := by decide +kernel
theorem jd_Y_grow_154 : decode jc_Y_grow 154 = .ok (.aload_n 0, 1) := by decide +kernel
theorem jd_Y_grow_155 : decode jc_Y_grow 155 = .ok (.aload_n 0, 1) := by decide +kernel
theorem jd_Y_grow_156 : decode jc_Y_grow 156 = .ok (.getfield 44, 3) := by decide +kernel
theorem jd_Y_grow_159 : decode jc_Y_grow 159 = .ok (.iload_n 1, 1) := by decide +kernel
theorem jd_Y_grow_160 : decode jc_Y_grow 160 = .ok (.invokestatic 109, 3) := by decide +kernel
theorem jd_Y_grow_163 : decode jc_Y_grow 163 = .ok (.putfield 44, 3) := by decide +kernel
theorem jd_Y_grow_166 : decode jc_Y_grow 166 = .ok (.aload_n 0, 1) := by decide +kernel
theorem jd_Y_grow_167 : decode jc_Y_grow 167 = .ok (.aload_n 0, 1) := by decide +kernel
theorem jd_Y_grow_168 : decode jc_Y_grow 168 = .ok (.getfield 60, 3) := by decide +kernel
theorem jd_Y_grow_171 : decode jc_Y_grow 171 = .ok (.iload_n 1, 1) := by decide +kernel
theorem jd_Y_grow_172 : decode jc_Y_grow 172 = .ok (.invokestatic 109, 3) := by decide +kernel
theorem jd_Y_grow_175 : decode jc_Y_grow 175 = .ok (.putfield 60, 3) := by decide +kernel
theorem jd_Y_grow_178 : decode jc_Y_grow 178 = .ok (.aload_n 0, 1) := by decide +kernel
theorem jd_Y_grow_179 : decode jc_Y_grow 179 = .ok (.aload_n 0, 1) := by decide +kernel
theorem jd_Y_grow_180 : decode jc_Y_grow 180 = .ok (.getfield 63, 3) := by decide +kernel
theorem jd_Y_grow_183 : decode jc_Y_grow 183 = .ok (.iload_n 1, 1) := by decide +kernel
theorem jd_Y_grow_184 : decode jc_Y_grow 184 = .ok (.invokestatic 109, 3) := by decide +kernel
theorem jd_Y_grow_187 : decode jc_Y_grow 187 = .ok (.putfield 63, 3) := by decide +kernel
theorem jd_Y_grow_190 : decode jc_Y_grow 190 = .ok (.aload_n 0, 1) := by decide +kernel
theorem jd_Y_grow_191 : decode jc_Y_grow 191 = .ok (.aload_n 0, 1) := by decide +kernel
theorem jd_Y_grow_192 : decode jc_Y_grow 192 = .ok (.getfield 66, 3) := by decide +kernel
theorem jd_Y_grow_195 : decode jc_Y_grow 195 = .ok (.iload_n 1, 1) := by decide +kernel
theorem jd_Y_grow_196 : decode jc_Y_grow 196 = .ok (.invokestatic 109, 3) := by decide +kernel
theorem jd_Y_grow_199 : decode jc_Y_grow 199 = .ok (.putfield 66, 3) := by decide +kernel
theorem jd_Y_grow_202 : decode jc_Y_grow 202 = .ok (.aload_n 0, 1) := by decide +kernel
theorem jd_Y_grow_203 : decode jc_Y_grow 203 = .ok (.aload_n 0, 1) := by decide +kernel
theorem jd_Y_grow_204 : decode jc_Y_grow 204 = .ok (.getfield 69, 3) := by decide +kernel
theorem jd_Y_grow_207 : decode jc_Y_grow 207 = .ok (.iload_n 1, 1) := by decide +kernel
theorem jd_Y_grow_208 : decode jc_Y_grow 208 = .ok (.invokestatic 115, 3) := by decide +kernel
theorem jd_Y_grow_211 : decode jc_Y_grow 211 = .ok (.putfield 69, 3) := by decide +kernel
theorem jd_Y_grow_214 : decode jc_Y_grow 214 = .ok (.return_, 1) := by decide +kernel
abbrev jc_Y_make : ByteArray := prog_7_method_14_code
abbrev jy_Y_make : MethodName := ⟨"MeasuredTensorsModel", "make", "(IIIJJJI)I"⟩
theorem jd_Y_make_0 : decode jc_Y_make 0 = .ok (.aload_n 0, 1) := by decide +kernel
theorem jd_Y_make_1 : decode jc_Y_make 1 = .ok (.invokevirtual 118, 3) := by decide +kernel
theorem jd_Y_make_4 : decode jc_Y_make 4 = .ok (.ldc2_w 122, 3) := by decide +kernel
theorem jd_Y_make_7 : decode jc_Y_make 7 = .ok (.lcmp, 1) := by decide +kernel
theorem jd_Y_make_8 : decode jc_Y_make 8 = .ok (.ifCond .le 7, 3) := by decide +kernel
theorem jd_Y_make_11 : decode jc_Y_make 11 = .ok (.iconst 1, 1) := by decide +kernel
theorem jd_Y_make_12 : decode jc_Y_make 12 = .ok (.goto 4, 3) := by decide +kernel
theorem jd_Y_make_15 : decode jc_Y_make 15 = .ok (.iconst 0, 1) := by decide +kernel
theorem jd_Y_make_16 : decode jc_Y_make 16 = .ok (.istore 11, 2) := by decide +kernel
theorem jd_Y_make_18 : decode jc_Y_make 18 = .ok (.iconst 0, 1) := by decide +kernel
theorem jd_Y_make_19 : decode jc_Y_make 19 = .ok (.istore 12, 2) := by decide +kernel
theorem jd_Y_make_21 : decode jc_Y_make 21 = .ok (.iload 12, 2) := by decide +kernel
theorem jd_Y_make_23 : decode jc_Y_make 23 = .ok (.aload_n 0, 1) := by decide +kernel
theorem jd_Y_make_24 : decode jc_Y_make 24 = .ok (.getfield 102, 3) := by decide +kernel
theorem jd_Y_make_27 : decode jc_Y_make 27 = .ok (.if_icmp .ge 34, 3) := by decide +kernel
theorem jd_Y_make_30 : decode jc_Y_make 30 = .ok (.iload 11, 2) := by decide +kernel
theorem jd_Y_make_32 : decode jc_Y_make 32 = .ok (.ifCond .ne 16, 3) := by decide +kernel
theorem jd_Y_make_35 : decode jc_Y_make 35 = .ok (.aload_n 0, 1) := by decide +kernel
theorem jd_Y_make_36 : decode jc_Y_make 36 = .ok (.getfield 72, 3) := by decide +kernel
theorem jd_Y_make_39 : decode jc_Y_make 39 = .ok (.iload 12, 2) := by decide +kernel
theorem jd_Y_make_41 : decode jc_Y_make 41 = .ok (.iaload, 1) := by decide +kernel
theorem jd_Y_make_42 : decode jc_Y_make 42 = .ok (.sipush 4096, 3) := by decide +kernel
theorem jd_Y_make_45 : decode jc_Y_make 45 = .ok (.if_icmp .le 7, 3) := by decide +kernel
theorem jd_Y_make_48 : decode jc_Y_make 48 = .ok (.iconst 1, 1) := by decide +kernel
theorem jd_Y_make_49 : decode jc_Y_make 49 = .ok (.goto 4, 3) := by decide +kernel
theorem jd_Y_make_52 : decode jc_Y_make 52 = .ok (.iconst 0, 1) := by decide +kernel
theorem jd_Y_make_53 : decode jc_Y_make 53 = .ok (.istore 11, 2) := by decide +kernel
theorem jd_Y_make_55 : decode jc_Y_make 55 = .ok (.iinc 12 1, 3) := by decide +kernel
theorem jd_Y_make_58 : decode jc_Y_make 58 = .ok (.goto (-37), 3) := by decide +kernel
theorem jd_Y_make_61 : decode jc_Y_make 61 = .ok (.iload 11, 2) := by decide +kernel
theorem jd_Y_make_63 : decode jc_Y_make 63 = .ok (.ifCond .ne 58, 3) := by decide +kernel
theorem jd_Y_make_66 : decode jc_Y_make 66 = .ok (.aload_n 0, 1) := by decide +kernel
theorem jd_Y_make_67 : decode jc_Y_make 67 = .ok (.getfield 81, 3) := by decide +kernel
theorem jd_Y_make_70 : decode jc_Y_make 70 = .ok (.sipush 4000, 3) := by decide +kernel
theorem jd_Y_make_73 : decode jc_Y_make 73 = .ok (.if_icmp .eq 48, 3) := by decide +kernel
theorem jd_Y_make_76 : decode jc_Y_make 76 = .ok (.lload 4, 2) := by decide +kernel
theorem jd_Y_make_78 : decode jc_Y_make 78 = .ok (.ldc2_w 124, 3) := by decide +kernel
theorem jd_Y_make_81 : decode jc_Y_make 81 = .ok (.lcmp, 1) := by decide +kernel
theorem jd_Y_make_82 : decode jc_Y_make 82 = .ok (.ifCond .gt 39, 3) := by decide +kernel
theorem jd_Y_make_85 : decode jc_Y_make 85 = .ok (.lload 6, 2) := by decide +kernel
theorem jd_Y_make_87 : decode jc_Y_make 87 = .ok (.ldc2_w 124, 3) := by decide +kernel
theorem jd_Y_make_90 : decode jc_Y_make 90 = .ok (.lcmp, 1) := by decide +kernel
theorem jd_Y_make_91 : decode jc_Y_make 91 = .ok (.ifCond .gt 30, 3) := by decide +kernel
theorem jd_Y_make_94 : decode jc_Y_make 94 = .ok (.lload 8, 2) := by decide +kernel
theorem jd_Y_make_96 : decode jc_Y_make 96 = .ok (.lconst 0, 1) := by decide +kernel
theorem jd_Y_make_97 : decode jc_Y_make 97 = .ok (.lcmp, 1) := by decide +kernel
theorem jd_Y_make_98 : decode jc_Y_make 98 = .ok (.ifCond .eq 23, 3) := by decide +kernel
theorem jd_Y_make_101 : decode jc_Y_make 101 = .ok (.aload_n 0, 1) := by decide +kernel
theorem jd_Y_make_102 : decode jc_Y_make 102 = .ok (.getfield 84, 3) := by decide +kernel
theorem jd_Y_make_105 : decode jc_Y_make 105 = .ok (.aload_n 0, 1) := by decide +kernel
theorem jd_Y_make_106 : decode jc_Y_make 106 = .ok (.invokevirtual 118, 3) := by decide +kernel
theorem jd_Y_make_109 : decode jc_Y_make 109 = .ok (.iload 10, 2) := by decide +kernel
theorem jd_Y_make_111 : decode jc_Y_make 111 = .ok (.i2l, 1) := by decide +kernel
theorem jd_Y_make_112 : decode jc_Y_make 112 = .ok (.lmul, 1) := by decide +kernel
theorem jd_Y_make_113 : decode jc_Y_make 113 = .ok (.ladd, 1) := by decide +kernel
theorem jd_Y_make_114 : decode jc_Y_make 114 = .ok (.ldc2_w 126, 3) := by decide +kernel
theorem jd_Y_make_117 : decode jc_Y_make 117 = .ok (.lcmp, 1) := by decide +kernel
theorem jd_Y_make_118 : decode jc_Y_make 118 = .ok (.ifCond .le 6, 3) := by decide +kernel
theorem jd_Y_make_121 : decode jc_Y_make 121 = .ok (.bipush (-8), 2) := by decide +kernel
theorem jd_Y_make_123 : decode jc_Y_make 123 = .ok (.ireturn, 1) := by decide +kernel
theorem jd_Y_make_124 : decode jc_Y_make 124 = .ok (.aload_n 0, 1) := by decide +kernel
theorem jd_Y_make_125 : decode jc_Y_make 125 = .ok (.invokevirtual 128, 3) := by decide +kernel
theorem jd_Y_make_128 : decode jc_Y_make 128 = .ok (.aload_n 0, 1) := by decide +kernel
theorem jd_Y_make_129 : decode jc_Y_make 129 = .ok (.getfield 81, 3) := by decide +kernel
theorem jd_Y_make_132 : decode jc_Y_make 132 = .ok (.istore 12, 2) := by decide +kernel
theorem jd_Y_make_134 : decode jc_Y_make 134 = .ok (.aload_n 0, 1) := by decide +kernel
theorem jd_Y_make_135 : decode jc_Y_make 135 = .ok (.dup, 1) := by decide +kernel
theorem jd_Y_make_136 : decode jc_Y_make 136 = .ok (.getfield 81, 3) := by decide +kernel
theorem jd_Y_make_139 : decode jc_Y_make 139 = .ok (.iconst 1, 1) := by decide +kernel
theorem jd_Y_make_140 : decode jc_Y_make 140 = .ok (.iadd, 1) := by decide +kernel
theorem jd_Y_make_141 : decode jc_Y_make 141 = .ok (.putfield 81, 3) := by decide +kernel
theorem jd_Y_make_144 : decode jc_Y_make 144 = .ok (.aload_n 0, 1) := by decide +kernel
theorem jd_Y_make_145 : decode jc_Y_make 145 = .ok (.dup, 1) := by decide +kernel
theorem jd_Y_make_146 : decode jc_Y_make 146 = .ok (.getfield 84, 3) := by decide +kernel
theorem jd_Y_make_149 : decode jc_Y_make 149 = .ok (.aload_n 0, 1) := by decide +kernel
theorem jd_Y_make_150 : decode jc_Y_make 150 = .ok (.invokevirtual 118, 3) := by decide +kernel
theorem jd_Y_make_153 : decode jc_Y_make 153 = .ok (.iload 10, 2) := by decide +kernel
theorem jd_Y_make_155 : decode jc_Y_make 155 = .ok (.i2l, 1) := by decide +kernel
theorem jd_Y_make_156 : decode jc_Y_make 156 = .ok (.lmul, 1) := by decide +kernel
theorem jd_Y_make_157 : decode jc_Y_make 157 = .ok (.ladd, 1) := by decide +kernel
theorem jd_Y_make_158 : decode jc_Y_make 158 = .ok (.putfield 84, 3) := by decide +kernel
theorem jd_Y_make_161 : decode jc_Y_make 161 = .ok (.aload_n 0, 1) := by decide +kernel
theorem jd_Y_make_162 : decode jc_Y_make 162 = .ok (.getfield 7, 3) := by decide +kernel
theorem jd_Y_make_165 : decode jc_Y_make 165 = .ok (.iload 12, 2) := by decide +kernel
theorem jd_Y_make_167 : decode jc_Y_make 167 = .ok (.iload_n 1, 1) := by decide +kernel
theorem jd_Y_make_168 : decode jc_Y_make 168 = .ok (.iastore, 1) := by decide +kernel
theorem jd_Y_make_169 : decode jc_Y_make 169 = .ok (.aload_n 0, 1) := by decide +kernel
theorem jd_Y_make_170 : decode jc_Y_make 170 = .ok (.getfield 13, 3) := by decide +kernel
theorem jd_Y_make_173 : decode jc_Y_make 173 = .ok (.iload 12, 2) := by decide +kernel
theorem jd_Y_make_175 : decode jc_Y_make 175 = .ok (.iload_n 2, 1) := by decide +kernel
theorem jd_Y_make_176 : decode jc_Y_make 176 = .ok (.iastore, 1) := by decide +kernel
theorem jd_Y_make_177 : decode jc_Y_make 177 = .ok (.aload_n 0, 1) := by decide +kernel
theorem jd_Y_make_178 : decode jc_Y_make 178 = .ok (.getfield 16, 3) := by decide +kernel
theorem jd_Y_make_181 : decode jc_Y_make 181 = .ok (.iload 12, 2) := by decide +kernel
theorem jd_Y_make_183 : decode jc_Y_make 183 = .ok (.iload_n 3, 1) := by decide +kernel
theorem jd_Y_make_184 : decode jc_Y_make 184 = .ok (.iastore, 1) := by decide +kernel
theorem jd_Y_make_185 : decode jc_Y_make 185 = .ok (.aload_n 0, 1) := by decide +kernel
theorem jd_Y_make_186 : decode jc_Y_make 186 = .ok (.getfield 19, 3) := by decide +kernel
theorem jd_Y_make_189 : decode jc_Y_make 189 = .ok (.iload 12, 2) := by decide +kernel
theorem jd_Y_make_191 : decode jc_Y_make 191 = .ok (.aload_n 0, 1) := by decide +kernel
theorem jd_Y_make_192 : decode jc_Y_make 192 = .ok (.getfield 102, 3) := by decide +kernel
theorem jd_Y_make_195 : decode jc_Y_make 195 = .ok (.iastore, 1) := by decide +kernel
theorem jd_Y_make_196 : decode jc_Y_make 196 = .ok (.iconst 0, 1) := by decide +kernel
theorem jd_Y_make_197 : decode jc_Y_make 197 = .ok (.istore 13, 2) := by decide +kernel
theorem jd_Y_make_199 : decode jc_Y_make 199 = .ok (.iload 13, 2) := by decide +kernel
theorem jd_Y_make_201 : decode jc_Y_make 201 = .ok (.iconst 4, 1) := by decide +kernel
theorem jd_Y_make_202 : decode jc_Y_make 202 = .ok (.if_icmp .ge 41, 3) := by decide +kernel
theorem jd_Y_make_205 : decode jc_Y_make 205 = .ok (.aload_n 0, 1) := by decide +kernel
theorem jd_Y_make_206 : decode jc_Y_make 206 = .ok (.getfield 22, 3) := by decide +kernel
theorem jd_Y_make_209 : decode jc_Y_make 209 = .ok (.iconst 4, 1) := by decide +kernel
theorem jd_Y_make_210 : decode jc_Y_make 210 = .ok (.iload 12, 2) := by decide +kernel
theorem jd_Y_make_212 : decode jc_Y_make 212 = .ok (.imul, 1) := by decide +kernel
theorem jd_Y_make_213 : decode jc_Y_make 213 = .ok (.iload 13, 2) := by decide +kernel
theorem jd_Y_make_215 : decode jc_Y_make 215 = .ok (.iadd, 1) := by decide +kernel
theorem jd_Y_make_216 : decode jc_Y_make 216 = .ok (.iload 13, 2) := by decide +kernel
theorem jd_Y_make_218 : decode jc_Y_make 218 = .ok (.aload_n 0, 1) := by decide +kernel
theorem jd_Y_make_219 : decode jc_Y_make 219 = .ok (.getfield 102, 3) := by decide +kernel
theorem jd_Y_make_222 : decode jc_Y_make 222 = .ok (.if_icmp .ge 13, 3) := by decide +kernel
theorem jd_Y_make_225 : decode jc_Y_make 225 = .ok (.aload_n 0, 1) := by decide +kernel
theorem jd_Y_make_226 : decode jc_Y_make 226 = .ok (.getfield 72, 3) := by decide +kernel
theorem jd_Y_make_229 : decode jc_Y_make 229 = .ok (.iload 13, 2) := by decide +kernel
theorem jd_Y_make_231 : decode jc_Y_make 231 = .ok (.iaload, 1) := by decide +kernel
theorem jd_Y_make_232 : decode jc_Y_make 232 = .ok (.goto 4, 3) := by decide +kernel
theorem jd_Y_make_235 : decode jc_Y_make 235 = .ok (.iconst 1, 1) := by decide +kernel
theorem jd_Y_make_236 : decode jc_Y_make 236 = .ok (.iastore, 1) := by decide +kernel
theorem jd_Y_make_237 : decode jc_Y_make 237 = .ok (.iinc 13 1, 3) := by decide +kernel
theorem jd_Y_make_240 : decode jc_Y_make 240 = .ok (.goto (-41), 3) := by decide +kernel
theorem jd_Y_make_243 : decode jc_Y_make 243 = .ok (.aload_n 0, 1) := by decide +kernel
theorem jd_Y_make_244 : decode jc_Y_make 244 = .ok (.getfield 25, 3) := by decide +kernel
theorem jd_Y_make_247 : decode jc_Y_make 247 = .ok (.iload 12, 2) := by decide +kernel
theorem jd_Y_make_249 : decode jc_Y_make 249 = .ok (.aload_n 0, 1) := by decide +kernel
theorem jd_Y_make_250 : decode jc_Y_make 250 = .ok (.invokevirtual 118, 3) := by decide +kernel
theorem jd_Y_make_253 : decode jc_Y_make 253 = .ok (.l2i, 1) := by decide +kernel
theorem jd_Y_make_254 : decode jc_Y_make 254 = .ok (.iastore, 1) := by decide +kernel
theorem jd_Y_make_255 : decode jc_Y_make 255 = .ok (.aload_n 0, 1) := by decide +kernel
theorem jd_Y_make_256 : decode jc_Y_make 256 = .ok (.getfield 28, 3) := by decide +kernel
theorem jd_Y_make_259 : decode jc_Y_make 259 = .ok (.iload 12, 2) := by decide +kernel
theorem jd_Y_make_261 : decode jc_Y_make 261 = .ok (.iload 10, 2) := by decide +kernel
theorem jd_Y_make_263 : decode jc_Y_make 263 = .ok (.iastore, 1) := by decide +kernel
theorem jd_Y_make_264 : decode jc_Y_make 264 = .ok (.aload_n 0, 1) := by decide +kernel
theorem jd_Y_make_265 : decode jc_Y_make 265 = .ok (.getfield 31, 3) := by decide +kernel
theorem jd_Y_make_268 : decode jc_Y_make 268 = .ok (.iload 12, 2) := by decide +kernel
theorem jd_Y_make_270 : decode jc_Y_make 270 = .ok (.lload 4, 2) := by decide +kernel
theorem jd_Y_make_272 : decode jc_Y_make 272 = .ok (.l2i, 1) := by decide +kernel
theorem jd_Y_make_273 : decode jc_Y_make 273 = .ok (.iastore, 1) := by decide +kernel
theorem jd_Y_make_274 : decode jc_Y_make 274 = .ok (.aload_n 0, 1) := by decide +kernel
theorem jd_Y_make_275 : decode jc_Y_make 275 = .ok (.getfield 34, 3) := by decide +kernel
theorem jd_Y_make_278 : decode jc_Y_make 278 = .ok (.iload 12, 2) := by decide +kernel
theorem jd_Y_make_280 : decode jc_Y_make 280 = .ok (.lload 6, 2) := by decide +kernel
theorem jd_Y_make_282 : decode jc_Y_make 282 = .ok (.l2i, 1) := by decide +kernel
theorem jd_Y_make_283 : decode jc_Y_make 283 = .ok (.iastore, 1) := by decide +kernel
theorem jd_Y_make_284 : decode jc_Y_make 284 = .ok (.aload_n 0, 1) := by decide +kernel
theorem jd_Y_make_285 : decode jc_Y_make 285 = .ok (.getfield 37, 3) := by decide +kernel
theorem jd_Y_make_288 : decode jc_Y_make 288 = .ok (.iload 12, 2) := by decide +kernel
theorem jd_Y_make_290 : decode jc_Y_make 290 = .ok (.lload 8, 2) := by decide +kernel
theorem jd_Y_make_292 : decode jc_Y_make 292 = .ok (.lastore, 1) := by decide +kernel
theorem jd_Y_make_293 : decode jc_Y_make 293 = .ok (.aload_n 0, 1) := by decide +kernel
theorem jd_Y_make_294 : decode jc_Y_make 294 = .ok (.getfield 60, 3) := by decide +kernel
theorem jd_Y_make_297 : decode jc_Y_make 297 = .ok (.iload 12, 2) := by decide +kernel
theorem jd_Y_make_299 : decode jc_Y_make 299 = .ok (.iconst 0, 1) := by decide +kernel
theorem jd_Y_make_300 : decode jc_Y_make 300 = .ok (.iastore, 1) := by decide +kernel
theorem jd_Y_make_301 : decode jc_Y_make 301 = .ok (.iload 12, 2) := by decide +kernel
theorem jd_Y_make_303 : decode jc_Y_make 303 = .ok (.ireturn, 1) := by decide +kernel
abbrev jc_Y_makeLike : ByteArray := prog_7_method_15_code
abbrev jy_Y_makeLike : MethodName := ⟨"MeasuredTensorsModel", "makeLike", "(II)I"⟩
theorem jd_Y_makeLike_0 : decode jc_Y_makeLike 0 = .ok (.aload_n 0, 1) := by decide +kernel
theorem jd_Y_makeLike_1 : decode jc_Y_makeLike 1 = .ok (.iload_n 1, 1) := by decide +kernel
theorem jd_Y_makeLike_2 : decode jc_Y_makeLike 2 = .ok (.iload_n 2, 1) := by decide +kernel
theorem jd_Y_makeLike_3 : decode jc_Y_makeLike 3 = .ok (.iconst (-1), 1) := by decide +kernel
theorem jd_Y_makeLike_4 : decode jc_Y_makeLike 4 = .ok (.aload_n 0, 1) := by decide +kernel
theorem jd_Y_makeLike_5 : decode jc_Y_makeLike 5 = .ok (.getfield 31, 3) := by decide +kernel
theorem jd_Y_makeLike_8 : decode jc_Y_makeLike 8 = .ok (.iload_n 2, 1) := by decide +kernel
theorem jd_Y_makeLike_9 : decode jc_Y_makeLike 9 = .ok (.iaload, 1) := by decide +kernel
theorem jd_Y_makeLike_10 : decode jc_Y_makeLike 10 = .ok (.i2l, 1) := by decide +kernel
theorem jd_Y_makeLike_11 : decode jc_Y_makeLike 11 = .ok (.aload_n 0, 1) := by decide +kernel
theorem jd_Y_makeLike_12 : decode jc_Y_makeLike 12 = .ok (.getfield 34, 3) := by decide +kernel
theorem jd_Y_makeLike_15 : decode jc_Y_makeLike 15 = .ok (.iload_n 2, 1) := by decide +kernel
theorem jd_Y_makeLike_16 : decode jc_Y_makeLike 16 = .ok (.iaload, 1) := by decide +kernel
theorem jd_Y_makeLike_17 : decode jc_Y_makeLike 17 = .ok (.i2l, 1) := by decide +kernel
theorem jd_Y_makeLike_18 : decode jc_Y_makeLike 18 = .ok (.aload_n 0, 1) := by decide +kernel
theorem jd_Y_makeLike_19 : decode jc_Y_makeLike 19 = .ok (.getfield 37, 3) := by decide +kernel
theorem jd_Y_makeLike_22 : decode jc_Y_makeLike 22 = .ok (.iload_n 2, 1) := by decide +kernel
theorem jd_Y_makeLike_23 : decode jc_Y_makeLike 23 = .ok (.laload, 1) := by decide +kernel
theorem jd_Y_makeLike_24 : decode jc_Y_makeLike 24 = .ok (.iconst 1, 1) := by decide +kernel
theorem jd_Y_makeLike_25 : decode jc_Y_makeLike 25 = .ok (.invokevirtual 131, 3) := by decide +kernel
theorem jd_Y_makeLike_28 : decode jc_Y_makeLike 28 = .ok (.ireturn, 1) := by decide +kernel
abbrev jc_Y_noTensor : ByteArray := prog_7_method_16_code
abbrev jy_Y_noTensor : MethodName := ⟨"MeasuredTensorsModel", "noTensor", "(I)Z"⟩
theorem jd_Y_noTensor_0 : decode jc_Y_noTensor 0 = .ok (.iload_n 1, 1) := by decide +kernel
theorem jd_Y_noTensor_1 : decode jc_Y_noTensor 1 = .ok (.ifCond .lt 11, 3) := by decide +kernel
theorem jd_Y_noTensor_4 : decode jc_Y_noTensor 4 = .ok (.iload_n 1, 1) := by decide +kernel
theorem jd_Y_noTensor_5 : decode jc_Y_noTensor 5 = .ok (.aload_n 0, 1) := by decide +kernel
theorem jd_Y_noTensor_6 : decode jc_Y_noTensor 6 = .ok (.getfield 81, 3) := by decide +kernel
theorem jd_Y_noTensor_9 : decode jc_Y_noTensor 9 = .ok (.if_icmp .lt 7, 3) := by decide +kernel
theorem jd_Y_noTensor_12 : decode jc_Y_noTensor 12 = .ok (.iconst 1, 1) := by decide +kernel
theorem jd_Y_noTensor_13 : decode jc_Y_noTensor 13 = .ok (.goto 4, 3) := by decide +kernel
theorem jd_Y_noTensor_16 : decode jc_Y_noTensor 16 = .ok (.iconst 0, 1) := by decide +kernel
theorem jd_Y_noTensor_17 : decode jc_Y_noTensor 17 = .ok (.ireturn, 1) := by decide +kernel
abbrev jc_Y_isLeast : ByteArray := prog_7_method_17_code
abbrev jy_Y_isLeast : MethodName := ⟨"MeasuredTensorsModel", "isLeast", "(II)Z"⟩
theorem jd_Y_isLeast_0 : decode jc_Y_isLeast 0 = .ok (.iload_n 2, 1) := by decide +kernel
theorem jd_Y_isLeast_1 : decode jc_Y_isLeast 1 = .ok (.i2l, 1) := by decide +kernel
theorem jd_Y_isLeast_2 : decode jc_Y_isLeast 2 = .ok (.iload_n 1, 1) := by decide +kernel
theorem jd_Y_isLeast_3 : decode jc_Y_isLeast 3 = .ok (.i2l, 1) := by decide +kernel
theorem jd_Y_isLeast_4 : decode jc_Y_isLeast 4 = .ok (.invokestatic 95, 3) := by decide +kernel
theorem jd_Y_isLeast_7 : decode jc_Y_isLeast 7 = .ok (.lconst 1, 1) := by decide +kernel
theorem jd_Y_isLeast_8 : decode jc_Y_isLeast 8 = .ok (.lcmp, 1) := by decide +kernel
theorem jd_Y_isLeast_9 : decode jc_Y_isLeast 9 = .ok (.ifCond .ne 7, 3) := by decide +kernel
theorem jd_Y_isLeast_12 : decode jc_Y_isLeast 12 = .ok (.iconst 1, 1) := by decide +kernel
theorem jd_Y_isLeast_13 : decode jc_Y_isLeast 13 = .ok (.goto 4, 3) := by decide +kernel
theorem jd_Y_isLeast_16 : decode jc_Y_isLeast 16 = .ok (.iconst 0, 1) := by decide +kernel
theorem jd_Y_isLeast_17 : decode jc_Y_isLeast 17 = .ok (.ireturn, 1) := by decide +kernel
abbrev jc_Y_number : ByteArray := prog_7_method_18_code
abbrev jy_Y_number : MethodName := ⟨"MeasuredTensorsModel", "number", "(II)I"⟩
theorem jd_Y_number_0 : decode jc_Y_number 0 = .ok (.aload_n 0, 1) := by decide +kernel
theorem jd_Y_number_1 : decode jc_Y_number 1 = .ok (.iload_n 1, 1) := by decide +kernel
theorem jd_Y_number_2 : decode jc_Y_number 2 = .ok (.ifCond .lt 17, 3) := by decide +kernel
theorem jd_Y_number_5 : decode jc_Y_number 5 = .ok (.iload_n 2, 1) := by decide +kernel
theorem jd_Y_number_6 : decode jc_Y_number 6 = .ok (.iconst 1, 1) := by decide +kernel
theorem jd_Y_number_7 : decode jc_Y_number 7 = .ok (.if_icmp .lt 12, 3) := by decide +kernel
theorem jd_Y_number_10 : decode jc_Y_number 10 = .ok (.aload_n 0, 1) := by decide +kernel
theorem jd_Y_number_11 : decode jc_Y_number 11 = .ok (.iload_n 1, 1) := by decide +kernel
theorem jd_Y_number_12 : decode jc_Y_number 12 = .ok (.iload_n 2, 1) := by decide +kernel
theorem jd_Y_number_13 : decode jc_Y_number 13 = .ok (.invokevirtual 135, 3) := by decide +kernel
theorem jd_Y_number_16 : decode jc_Y_number 16 = .ok (.ifCond .ne 7, 3) := by decide +kernel
theorem jd_Y_number_19 : decode jc_Y_number 19 = .ok (.iconst 1, 1) := by decide +kernel
theorem jd_Y_number_20 : decode jc_Y_number 20 = .ok (.goto 4, 3) := by decide +kernel
theorem jd_Y_number_23 : decode jc_Y_number 23 = .ok (.iconst 0, 1) := by decide +kernel
theorem jd_Y_number_24 : decode jc_Y_number 24 = .ok (.putfield 75, 3) := by decide +kernel
theorem jd_Y_number_27 : decode jc_Y_number 27 = .ok (.aload_n 0, 1) := by decide +kernel
theorem jd_Y_number_28 : decode jc_Y_number 28 = .ok (.getfield 75, 3) := by decide +kernel
theorem jd_Y_number_31 : decode jc_Y_number 31 = .ok (.ifCond .le 5, 3) := by decide +kernel
theorem jd_Y_number_34 : decode jc_Y_number 34 = .ok (.iconst 0, 1) := by decide +kernel
theorem jd_Y_number_35 : decode jc_Y_number 35 = .ok (.ireturn, 1) := by decide +kernel
theorem jd_Y_number_36 : decode jc_Y_number 36 = .ok (.aload_n 0, 1) := by decide +kernel
theorem jd_Y_number_37 : decode jc_Y_number 37 = .ok (.iconst 0, 1) := by decide +kernel
theorem jd_Y_number_38 : decode jc_Y_number 38 = .ok (.putfield 102, 3) := by decide +kernel
theorem jd_Y_number_41 : decode jc_Y_number 41 = .ok (.aload_n 0, 1) := by decide +kernel
theorem jd_Y_number_42 : decode jc_Y_number 42 = .ok (.bipush 30, 2) := by decide +kernel
theorem jd_Y_number_44 : decode jc_Y_number 44 = .ok (.iconst (-1), 1) := by decide +kernel
theorem jd_Y_number_45 : decode jc_Y_number 45 = .ok (.iconst (-1), 1) := by decide +kernel
theorem jd_Y_number_46 : decode jc_Y_number 46 = .ok (.iload_n 1, 1) := by decide +kernel
theorem jd_Y_number_47 : decode jc_Y_number 47 = .ok (.i2l, 1) := by decide +kernel
theorem jd_Y_number_48 : decode jc_Y_number 48 = .ok (.lconst 1, 1) := by decide +kernel
theorem jd_Y_number_49 : decode jc_Y_number 49 = .ok (.ladd, 1) := by decide +kernel
theorem jd_Y_number_50 : decode jc_Y_number 50 = .ok (.invokestatic 139, 3) := by decide +kernel
theorem jd_Y_number_53 : decode jc_Y_number 53 = .ok (.i2l, 1) := by decide +kernel
theorem jd_Y_number_54 : decode jc_Y_number 54 = .ok (.iload_n 2, 1) := by decide +kernel
theorem jd_Y_number_55 : decode jc_Y_number 55 = .ok (.i2l, 1) := by decide +kernel
theorem jd_Y_number_56 : decode jc_Y_number 56 = .ok (.invokestatic 143, 3) := by decide +kernel
theorem jd_Y_number_59 : decode jc_Y_number 59 = .ok (.i2l, 1) := by decide +kernel
theorem jd_Y_number_60 : decode jc_Y_number 60 = .ok (.iload_n 2, 1) := by decide +kernel
theorem jd_Y_number_61 : decode jc_Y_number 61 = .ok (.i2l, 1) := by decide +kernel
theorem jd_Y_number_62 : decode jc_Y_number 62 = .ok (.invokestatic 146, 3) := by decide +kernel
theorem jd_Y_number_65 : decode jc_Y_number 65 = .ok (.iconst 1, 1) := by decide +kernel
theorem jd_Y_number_66 : decode jc_Y_number 66 = .ok (.invokevirtual 131, 3) := by decide +kernel
theorem jd_Y_number_69 : decode jc_Y_number 69 = .ok (.ireturn, 1) := by decide +kernel
abbrev jc_Y_take : ByteArray := prog_7_method_19_code
abbrev jy_Y_take : MethodName := ⟨"MeasuredTensorsModel", "take", "(IIIII)Z"⟩
theorem jd_Y_take_0 : decode jc_Y_take 0 = .ok (.aload_n 0, 1) := by decide +kernel
theorem jd_Y_take_1 : decode jc_Y_take 1 = .ok (.iload_n 1, 1) := by decide +kernel
theorem jd_Y_take_2 : decode jc_Y_take 2 = .ok (.putfield 102, 3) := by decide +kernel
theorem jd_Y_take_5 : decode jc_Y_take 5 = .ok (.aload_n 0, 1) := by decide +kernel
theorem jd_Y_take_6 : decode jc_Y_take 6 = .ok (.getfield 72, 3) := by decide +kernel
theorem jd_Y_take_9 : decode jc_Y_take 9 = .ok (.iconst 0, 1) := by decide +kernel
theorem jd_Y_take_10 : decode jc_Y_take 10 = .ok (.iload_n 2, 1) := by decide +kernel
theorem jd_Y_take_11 : decode jc_Y_take 11 = .ok (.iastore, 1) := by decide +kernel
theorem jd_Y_take_12 : decode jc_Y_take 12 = .ok (.aload_n 0, 1) := by decide +kernel
theorem jd_Y_take_13 : decode jc_Y_take 13 = .ok (.getfield 72, 3) := by decide +kernel
theorem jd_Y_take_16 : decode jc_Y_take 16 = .ok (.iconst 1, 1) := by decide +kernel
theorem jd_Y_take_17 : decode jc_Y_take 17 = .ok (.iload_n 3, 1) := by decide +kernel
theorem jd_Y_take_18 : decode jc_Y_take 18 = .ok (.iastore, 1) := by decide +kernel
theorem jd_Y_take_19 : decode jc_Y_take 19 = .ok (.aload_n 0, 1) := by decide +kernel
theorem jd_Y_take_20 : decode jc_Y_take 20 = .ok (.getfield 72, 3) := by decide +kernel
theorem jd_Y_take_23 : decode jc_Y_take 23 = .ok (.iconst 2, 1) := by decide +kernel
theorem jd_Y_take_24 : decode jc_Y_take 24 = .ok (.iload 4, 2) := by decide +kernel
theorem jd_Y_take_26 : decode jc_Y_take 26 = .ok (.iastore, 1) := by decide +kernel
theorem jd_Y_take_27 : decode jc_Y_take 27 = .ok (.aload_n 0, 1) := by decide +kernel
theorem jd_Y_take_28 : decode jc_Y_take 28 = .ok (.getfield 72, 3) := by decide +kernel
theorem jd_Y_take_31 : decode jc_Y_take 31 = .ok (.iconst 3, 1) := by decide +kernel
theorem jd_Y_take_32 : decode jc_Y_take 32 = .ok (.iload 5, 2) := by decide +kernel
theorem jd_Y_take_34 : decode jc_Y_take 34 = .ok (.iastore, 1) := by decide +kernel
theorem jd_Y_take_35 : decode jc_Y_take 35 = .ok (.iload_n 1, 1) := by decide +kernel
theorem jd_Y_take_36 : decode jc_Y_take 36 = .ok (.ifCond .lt 12, 3) := by decide +kernel
theorem jd_Y_take_39 : decode jc_Y_take 39 = .ok (.iload_n 1, 1) := by decide +kernel
theorem jd_Y_take_40 : decode jc_Y_take 40 = .ok (.iconst 4, 1) := by decide +kernel
theorem jd_Y_take_41 : decode jc_Y_take 41 = .ok (.if_icmp .gt 7, 3) := by decide +kernel
theorem jd_Y_take_44 : decode jc_Y_take 44 = .ok (.iconst 1, 1) := by decide +kernel
theorem jd_Y_take_45 : decode jc_Y_take 45 = .ok (.goto 4, 3) := by decide +kernel
theorem jd_Y_take_48 : decode jc_Y_take 48 = .ok (.iconst 0, 1) := by decide +kernel
theorem jd_Y_take_49 : decode jc_Y_take 49 = .ok (.istore 6, 2) := by decide +kernel
theorem jd_Y_take_51 : decode jc_Y_take 51 = .ok (.iconst 0, 1) := by decide +kernel
theorem jd_Y_take_52 : decode jc_Y_take 52 = .ok (.istore 7, 2) := by decide +kernel
theorem jd_Y_take_54 : decode jc_Y_take 54 = .ok (.iload 7, 2) := by decide +kernel
theorem jd_Y_take_56 : decode jc_Y_take 56 = .ok (.iload_n 1, 1) := by decide +kernel
theorem jd_Y_take_57 : decode jc_Y_take 57 = .ok (.if_icmp .ge 45, 3) := by decide +kernel
theorem jd_Y_take_60 : decode jc_Y_take 60 = .ok (.iload 6, 2) := by decide +kernel
theorem jd_Y_take_62 : decode jc_Y_take 62 = .ok (.ifCond .eq 40, 3) := by decide +kernel
theorem jd_Y_take_65 : decode jc_Y_take 65 = .ok (.aload_n 0, 1) := by decide +kernel
theorem jd_Y_take_66 : decode jc_Y_take 66 = .ok (.getfield 72, 3) := by decide +kernel
theorem jd_Y_take_69 : decode jc_Y_take 69 = .ok (.iload 7, 2) := by decide +kernel
theorem jd_Y_take_71 : decode jc_Y_take 71 = .ok (.iaload, 1) := by decide +kernel
theorem jd_Y_take_72 : decode jc_Y_take 72 = .ok (.iconst 1, 1) := by decide +kernel
theorem jd_Y_take_73 : decode jc_Y_take 73 = .ok (.if_icmp .lt 20, 3) := by decide +kernel
theorem jd_Y_take_76 : decode jc_Y_take 76 = .ok (.aload_n 0, 1) := by decide +kernel
theorem jd_Y_take_77 : decode jc_Y_take 77 = .ok (.getfield 72, 3) := by decide +kernel
theorem jd_Y_take_80 : decode jc_Y_take 80 = .ok (.iload 7, 2) := by decide +kernel
theorem jd_Y_take_82 : decode jc_Y_take 82 = .ok (.iaload, 1) := by decide +kernel
theorem jd_Y_take_83 : decode jc_Y_take 83 = .ok (.sipush 4096, 3) := by decide +kernel
theorem jd_Y_take_86 : decode jc_Y_take 86 = .ok (.if_icmp .gt 7, 3) := by decide +kernel
theorem jd_Y_take_89 : decode jc_Y_take 89 = .ok (.iconst 1, 1) := by decide +kernel
theorem jd_Y_take_90 : decode jc_Y_take 90 = .ok (.goto 4, 3) := by decide +kernel
theorem jd_Y_take_93 : decode jc_Y_take 93 = .ok (.iconst 0, 1) := by decide +kernel
theorem jd_Y_take_94 : decode jc_Y_take 94 = .ok (.istore 6, 2) := by decide +kernel
theorem jd_Y_take_96 : decode jc_Y_take 96 = .ok (.iinc 7 1, 3) := by decide +kernel
theorem jd_Y_take_99 : decode jc_Y_take 99 = .ok (.goto (-45), 3) := by decide +kernel
theorem jd_Y_take_102 : decode jc_Y_take 102 = .ok (.iload 6, 2) := by decide +kernel
theorem jd_Y_take_104 : decode jc_Y_take 104 = .ok (.ireturn, 1) := by decide +kernel
abbrev jc_Y_made : ByteArray := prog_7_method_20_code
abbrev jy_Y_made : MethodName := ⟨"MeasuredTensorsModel", "made", "(ZIIIII)I"⟩
theorem jd_Y_made_0 : decode jc_Y_made 0 = .ok (.aload_n 0, 1) := by decide +kernel
theorem jd_Y_made_1 : decode jc_Y_made 1 = .ok (.aload_n 0, 1) := by decide +kernel
theorem jd_Y_made_2 : decode jc_Y_made 2 = .ok (.iload_n 2, 1) := by decide +kernel
theorem jd_Y_made_3 : decode jc_Y_made 3 = .ok (.iload_n 3, 1) := by decide +kernel
theorem jd_Y_made_4 : decode jc_Y_made 4 = .ok (.iload 4, 2) := by decide +kernel
theorem jd_Y_made_6 : decode jc_Y_made 6 = .ok (.iload 5, 2) := by decide +kernel
theorem jd_Y_made_8 : decode jc_Y_made 8 = .ok (.iload 6, 2) := by decide +kernel
theorem jd_Y_made_10 : decode jc_Y_made 10 = .ok (.invokevirtual 150, 3) := by decide +kernel
theorem jd_Y_made_13 : decode jc_Y_made 13 = .ok (.ifCond .eq 7, 3) := by decide +kernel
theorem jd_Y_made_16 : decode jc_Y_made 16 = .ok (.iconst 0, 1) := by decide +kernel
theorem jd_Y_made_17 : decode jc_Y_made 17 = .ok (.goto 4, 3) := by decide +kernel
theorem jd_Y_made_20 : decode jc_Y_made 20 = .ok (.iconst 1, 1) := by decide +kernel
theorem jd_Y_made_21 : decode jc_Y_made 21 = .ok (.putfield 75, 3) := by decide +kernel
theorem jd_Y_made_24 : decode jc_Y_made 24 = .ok (.aload_n 0, 1) := by decide +kernel
theorem jd_Y_made_25 : decode jc_Y_made 25 = .ok (.getfield 75, 3) := by decide +kernel
theorem jd_Y_made_28 : decode jc_Y_made 28 = .ok (.ifCond .le 5, 3) := by decide +kernel
theorem jd_Y_made_31 : decode jc_Y_made 31 = .ok (.iconst 0, 1) := by decide +kernel
theorem jd_Y_made_32 : decode jc_Y_made 32 = .ok (.ireturn, 1) := by decide +kernel
theorem jd_Y_made_33 : decode jc_Y_made 33 = .ok (.aload_n 0, 1) := by decide +kernel
theorem jd_Y_made_34 : decode jc_Y_made 34 = .ok (.iload_n 1, 1) := by decide +kernel
theorem jd_Y_made_35 : decode jc_Y_made 35 = .ok (.ifCond .eq 8, 3) := by decide +kernel
theorem jd_Y_made_38 : decode jc_Y_made 38 = .ok (.bipush 32, 2) := by decide +kernel
theorem jd_Y_made_40 : decode jc_Y_made 40 = .ok (.goto 5, 3) := by decide +kernel
theorem jd_Y_made_43 : decode jc_Y_made 43 = .ok (.bipush 31, 2) := by decide +kernel
theorem jd_Y_made_45 : decode jc_Y_made 45 = .ok (.iconst (-1), 1) := by decide +kernel
theorem jd_Y_made_46 : decode jc_Y_made 46 = .ok (.iconst (-1), 1) := by decide +kernel
theorem jd_Y_made_47 : decode jc_Y_made 47 = .ok (.iload_n 1, 1) := by decide +kernel
theorem jd_Y_made_48 : decode jc_Y_made 48 = .ok (.ifCond .eq 9, 3) := by decide +kernel
theorem jd_Y_made_51 : decode jc_Y_made 51 = .ok (.ldc2_w 154, 3) := by decide +kernel
theorem jd_Y_made_54 : decode jc_Y_made 54 = .ok (.goto 6, 3) := by decide +kernel
theorem jd_Y_made_57 : decode jc_Y_made 57 = .ok (.ldc2_w 156, 3) := by decide +kernel
theorem jd_Y_made_60 : decode jc_Y_made 60 = .ok (.iload_n 1, 1) := by decide +kernel
theorem jd_Y_made_61 : decode jc_Y_made 61 = .ok (.ifCond .eq 11, 3) := by decide +kernel
theorem jd_Y_made_64 : decode jc_Y_made 64 = .ok (.aload_n 0, 1) := by decide +kernel
theorem jd_Y_made_65 : decode jc_Y_made 65 = .ok (.getfield 78, 3) := by decide +kernel
theorem jd_Y_made_68 : decode jc_Y_made 68 = .ok (.i2l, 1) := by decide +kernel
theorem jd_Y_made_69 : decode jc_Y_made 69 = .ok (.goto 6, 3) := by decide +kernel
theorem jd_Y_made_72 : decode jc_Y_made 72 = .ok (.ldc2_w 156, 3) := by decide +kernel
theorem jd_Y_made_75 : decode jc_Y_made 75 = .ok (.lconst 1, 1) := by decide +kernel
theorem jd_Y_made_76 : decode jc_Y_made 76 = .ok (.iconst 1, 1) := by decide +kernel
theorem jd_Y_made_77 : decode jc_Y_made 77 = .ok (.invokevirtual 131, 3) := by decide +kernel
theorem jd_Y_made_80 : decode jc_Y_made 80 = .ok (.ireturn, 1) := by decide +kernel
