abbrev jc_L_begin : ByteArray := method_3_code
abbrev jy_L_begin : MethodName := ⟨"MeasuredTensorsLaw", "begin", "(LMeasuredTensors;I)I"⟩
theorem jd_L_begin_0 : decode jc_L_begin 0 = .ok (.aload_n 0, 1) := by decide +kernel
theorem jd_L_begin_1 : decode jc_L_begin 1 = .ok (.iload_n 1, 1) := by decide +kernel
theorem jd_L_begin_2 : decode jc_L_begin 2 = .ok (.invokevirtual 7, 3) := by decide +kernel
theorem jd_L_begin_5 : decode jc_L_begin 5 = .ok (.goto 6, 3) := by decide +kernel
theorem jd_L_begin_8 : decode jc_L_begin 8 = .ok (.astore_n 2, 1) := by decide +kernel
theorem jd_L_begin_9 : decode jc_L_begin 9 = .ok (.iconst 1, 1) := by decide +kernel
theorem jd_L_begin_10 : decode jc_L_begin 10 = .ok (.ireturn, 1) := by decide +kernel
theorem jd_L_begin_11 : decode jc_L_begin 11 = .ok (.iconst 0, 1) := by decide +kernel
theorem jd_L_begin_12 : decode jc_L_begin 12 = .ok (.ireturn, 1) := by decide +kernel
abbrev jc_L_number : ByteArray := method_4_code
abbrev jy_L_number : MethodName := ⟨"MeasuredTensorsLaw", "number", "(LMeasuredTensors;II[J)I"⟩
theorem jd_L_number_0 : decode jc_L_number 0 = .ok (.aload_n 3, 1) := by decide +kernel
theorem jd_L_number_1 : decode jc_L_number 1 = .ok (.iconst 0, 1) := by decide +kernel
theorem jd_L_number_2 : decode jc_L_number 2 = .ok (.aload_n 0, 1) := by decide +kernel
theorem jd_L_number_3 : decode jc_L_number 3 = .ok (.iload_n 1, 1) := by decide +kernel
theorem jd_L_number_4 : decode jc_L_number 4 = .ok (.iload_n 2, 1) := by decide +kernel
theorem jd_L_number_5 : decode jc_L_number 5 = .ok (.invokevirtual 15, 3) := by decide +kernel
theorem jd_L_number_8 : decode jc_L_number 8 = .ok (.i2l, 1) := by decide +kernel
theorem jd_L_number_9 : decode jc_L_number 9 = .ok (.lastore, 1) := by decide +kernel
theorem jd_L_number_10 : decode jc_L_number 10 = .ok (.goto 7, 3) := by decide +kernel
theorem jd_L_number_13 : decode jc_L_number 13 = .ok (.astore 4, 2) := by decide +kernel
theorem jd_L_number_15 : decode jc_L_number 15 = .ok (.iconst 1, 1) := by decide +kernel
theorem jd_L_number_16 : decode jc_L_number 16 = .ok (.ireturn, 1) := by decide +kernel
theorem jd_L_number_17 : decode jc_L_number 17 = .ok (.iconst 0, 1) := by decide +kernel
theorem jd_L_number_18 : decode jc_L_number 18 = .ok (.ireturn, 1) := by decide +kernel
abbrev jc_L_made : ByteArray := method_5_code
abbrev jy_L_made : MethodName := ⟨"MeasuredTensorsLaw", "made", "(LMeasuredTensors;ZIIIII[J)I"⟩
theorem jd_L_made_0 : decode jc_L_made 0 = .ok (.aload 7, 2) := by decide +kernel
theorem jd_L_made_2 : decode jc_L_made 2 = .ok (.iconst 0, 1) := by decide +kernel
theorem jd_L_made_3 : decode jc_L_made 3 = .ok (.aload_n 0, 1) := by decide +kernel
theorem jd_L_made_4 : decode jc_L_made 4 = .ok (.iload_n 1, 1) := by decide +kernel
theorem jd_L_made_5 : decode jc_L_made 5 = .ok (.iload_n 2, 1) := by decide +kernel
theorem jd_L_made_6 : decode jc_L_made 6 = .ok (.iload_n 3, 1) := by decide +kernel
theorem jd_L_made_7 : decode jc_L_made 7 = .ok (.iload 4, 2) := by decide +kernel
theorem jd_L_made_9 : decode jc_L_made 9 = .ok (.iload 5, 2) := by decide +kernel
theorem jd_L_made_11 : decode jc_L_made 11 = .ok (.iload 6, 2) := by decide +kernel
theorem jd_L_made_13 : decode jc_L_made 13 = .ok (.invokevirtual 19, 3) := by decide +kernel
theorem jd_L_made_16 : decode jc_L_made 16 = .ok (.i2l, 1) := by decide +kernel
theorem jd_L_made_17 : decode jc_L_made 17 = .ok (.lastore, 1) := by decide +kernel
theorem jd_L_made_18 : decode jc_L_made 18 = .ok (.goto 7, 3) := by decide +kernel
theorem jd_L_made_21 : decode jc_L_made 21 = .ok (.astore 8, 2) := by decide +kernel
theorem jd_L_made_23 : decode jc_L_made 23 = .ok (.iconst 1, 1) := by decide +kernel
theorem jd_L_made_24 : decode jc_L_made 24 = .ok (.ireturn, 1) := by decide +kernel
theorem jd_L_made_25 : decode jc_L_made 25 = .ok (.iconst 0, 1) := by decide +kernel
theorem jd_L_made_26 : decode jc_L_made 26 = .ok (.ireturn, 1) := by decide +kernel
abbrev jc_L_index : ByteArray := method_6_code
abbrev jy_L_index : MethodName := ⟨"MeasuredTensorsLaw", "index", "(LMeasuredTensors;IIIIII[J)I"⟩
theorem jd_L_index_0 : decode jc_L_index 0 = .ok (.aload 7, 2) := by decide +kernel
theorem jd_L_index_2 : decode jc_L_index 2 = .ok (.iconst 0, 1) := by decide +kernel
theorem jd_L_index_3 : decode jc_L_index 3 = .ok (.aload_n 0, 1) := by decide +kernel
theorem jd_L_index_4 : decode jc_L_index 4 = .ok (.iload_n 1, 1) := by decide +kernel
theorem jd_L_index_5 : decode jc_L_index 5 = .ok (.iload_n 2, 1) := by decide +kernel
theorem jd_L_index_6 : decode jc_L_index 6 = .ok (.iload_n 3, 1) := by decide +kernel
theorem jd_L_index_7 : decode jc_L_index 7 = .ok (.iload 4, 2) := by decide +kernel
theorem jd_L_index_9 : decode jc_L_index 9 = .ok (.iload 5, 2) := by decide +kernel
theorem jd_L_index_11 : decode jc_L_index 11 = .ok (.iload 6, 2) := by decide +kernel
theorem jd_L_index_13 : decode jc_L_index 13 = .ok (.invokevirtual 23, 3) := by decide +kernel
theorem jd_L_index_16 : decode jc_L_index 16 = .ok (.i2l, 1) := by decide +kernel
theorem jd_L_index_17 : decode jc_L_index 17 = .ok (.lastore, 1) := by decide +kernel
theorem jd_L_index_18 : decode jc_L_index 18 = .ok (.goto 11, 3) := by decide +kernel
theorem jd_L_index_21 : decode jc_L_index 21 = .ok (.astore 8, 2) := by decide +kernel
theorem jd_L_index_23 : decode jc_L_index 23 = .ok (.iconst 1, 1) := by decide +kernel
theorem jd_L_index_24 : decode jc_L_index 24 = .ok (.ireturn, 1) := by decide +kernel
theorem jd_L_index_25 : decode jc_L_index 25 = .ok (.astore 8, 2) := by decide +kernel
theorem jd_L_index_27 : decode jc_L_index 27 = .ok (.iconst 2, 1) := by decide +kernel
theorem jd_L_index_28 : decode jc_L_index 28 = .ok (.ireturn, 1) := by decide +kernel
theorem jd_L_index_29 : decode jc_L_index 29 = .ok (.iconst 0, 1) := by decide +kernel
theorem jd_L_index_30 : decode jc_L_index 30 = .ok (.ireturn, 1) := by decide +kernel
abbrev jc_L_pair : ByteArray := method_7_code
abbrev jy_L_pair : MethodName := ⟨"MeasuredTensorsLaw", "pair", "(LMeasuredTensors;III[J)I"⟩
theorem jd_L_pair_0 : decode jc_L_pair 0 = .ok (.aload 4, 2) := by decide +kernel
theorem jd_L_pair_2 : decode jc_L_pair 2 = .ok (.iconst 0, 1) := by decide +kernel
theorem jd_L_pair_3 : decode jc_L_pair 3 = .ok (.aload_n 0, 1) := by decide +kernel
theorem jd_L_pair_4 : decode jc_L_pair 4 = .ok (.iload_n 1, 1) := by decide +kernel
theorem jd_L_pair_5 : decode jc_L_pair 5 = .ok (.iload_n 2, 1) := by decide +kernel
theorem jd_L_pair_6 : decode jc_L_pair 6 = .ok (.iload_n 3, 1) := by decide +kernel
theorem jd_L_pair_7 : decode jc_L_pair 7 = .ok (.invokevirtual 29, 3) := by decide +kernel
theorem jd_L_pair_10 : decode jc_L_pair 10 = .ok (.i2l, 1) := by decide +kernel
theorem jd_L_pair_11 : decode jc_L_pair 11 = .ok (.lastore, 1) := by decide +kernel
theorem jd_L_pair_12 : decode jc_L_pair 12 = .ok (.goto 11, 3) := by decide +kernel
theorem jd_L_pair_15 : decode jc_L_pair 15 = .ok (.astore 5, 2) := by decide +kernel
theorem jd_L_pair_17 : decode jc_L_pair 17 = .ok (.iconst 1, 1) := by decide +kernel
theorem jd_L_pair_18 : decode jc_L_pair 18 = .ok (.ireturn, 1) := by decide +kernel
theorem jd_L_pair_19 : decode jc_L_pair 19 = .ok (.astore 5, 2) := by decide +kernel
theorem jd_L_pair_21 : decode jc_L_pair 21 = .ok (.iconst 2, 1) := by decide +kernel
theorem jd_L_pair_22 : decode jc_L_pair 22 = .ok (.ireturn, 1) := by decide +kernel
theorem jd_L_pair_23 : decode jc_L_pair 23 = .ok (.iconst 0, 1) := by decide +kernel
theorem jd_L_pair_24 : decode jc_L_pair 24 = .ok (.ireturn, 1) := by decide +kernel
abbrev jc_L_turned : ByteArray := method_8_code
abbrev jy_L_turned : MethodName := ⟨"MeasuredTensorsLaw", "turned", "(LMeasuredTensors;I[J)I"⟩
theorem jd_L_turned_0 : decode jc_L_turned 0 = .ok (.aload_n 2, 1) := by decide +kernel
theorem jd_L_turned_1 : decode jc_L_turned 1 = .ok (.iconst 0, 1) := by decide +kernel
theorem jd_L_turned_2 : decode jc_L_turned 2 = .ok (.aload_n 0, 1) := by decide +kernel
theorem jd_L_turned_3 : decode jc_L_turned 3 = .ok (.iload_n 1, 1) := by decide +kernel
theorem jd_L_turned_4 : decode jc_L_turned 4 = .ok (.invokevirtual 35, 3) := by decide +kernel
theorem jd_L_turned_7 : decode jc_L_turned 7 = .ok (.i2l, 1) := by decide +kernel
theorem jd_L_turned_8 : decode jc_L_turned 8 = .ok (.lastore, 1) := by decide +kernel
theorem jd_L_turned_9 : decode jc_L_turned 9 = .ok (.goto 6, 3) := by decide +kernel
theorem jd_L_turned_12 : decode jc_L_turned 12 = .ok (.astore_n 3, 1) := by decide +kernel
theorem jd_L_turned_13 : decode jc_L_turned 13 = .ok (.iconst 1, 1) := by decide +kernel
theorem jd_L_turned_14 : decode jc_L_turned 14 = .ok (.ireturn, 1) := by decide +kernel
theorem jd_L_turned_15 : decode jc_L_turned 15 = .ok (.iconst 0, 1) := by decide +kernel
theorem jd_L_turned_16 : decode jc_L_turned 16 = .ok (.ireturn, 1) := by decide +kernel
abbrev jc_L_over : ByteArray := method_9_code
abbrev jy_L_over : MethodName := ⟨"MeasuredTensorsLaw", "over", "(LMeasuredTensors;III[J)I"⟩
theorem jd_L_over_0 : decode jc_L_over 0 = .ok (.aload 4, 2) := by decide +kernel
theorem jd_L_over_2 : decode jc_L_over 2 = .ok (.iconst 0, 1) := by decide +kernel
theorem jd_L_over_3 : decode jc_L_over 3 = .ok (.aload_n 0, 1) := by decide +kernel
theorem jd_L_over_4 : decode jc_L_over 4 = .ok (.iload_n 1, 1) := by decide +kernel
theorem jd_L_over_5 : decode jc_L_over 5 = .ok (.iload_n 2, 1) := by decide +kernel
theorem jd_L_over_6 : decode jc_L_over 6 = .ok (.iload_n 3, 1) := by decide +kernel
theorem jd_L_over_7 : decode jc_L_over 7 = .ok (.invokevirtual 39, 3) := by decide +kernel
theorem jd_L_over_10 : decode jc_L_over 10 = .ok (.i2l, 1) := by decide +kernel
theorem jd_L_over_11 : decode jc_L_over 11 = .ok (.lastore, 1) := by decide +kernel
theorem jd_L_over_12 : decode jc_L_over 12 = .ok (.goto 11, 3) := by decide +kernel
theorem jd_L_over_15 : decode jc_L_over 15 = .ok (.astore 5, 2) := by decide +kernel
theorem jd_L_over_17 : decode jc_L_over 17 = .ok (.iconst 1, 1) := by decide +kernel
theorem jd_L_over_18 : decode jc_L_over 18 = .ok (.ireturn, 1) := by decide +kernel
theorem jd_L_over_19 : decode jc_L_over 19 = .ok (.astore 5, 2) := by decide +kernel
theorem jd_L_over_21 : decode jc_L_over 21 = .ok (.iconst 2, 1) := by decide +kernel
theorem jd_L_over_22 : decode jc_L_over 22 = .ok (.ireturn, 1) := by decide +kernel
theorem jd_L_over_23 : decode jc_L_over 23 = .ok (.iconst 0, 1) := by decide +kernel
theorem jd_L_over_24 : decode jc_L_over 24 = .ok (.ireturn, 1) := by decide +kernel
abbrev jc_L_call : ByteArray := method_10_code
abbrev jy_L_call : MethodName := ⟨"MeasuredTensorsLaw", "call", "(LMeasuredTensors;IIIIIII[J)I"⟩
theorem jd_L_call_0 : decode jc_L_call 0 = .ok (.aload 8, 2) := by decide +kernel
theorem jd_L_call_2 : decode jc_L_call 2 = .ok (.iconst 0, 1) := by decide +kernel
theorem jd_L_call_3 : decode jc_L_call 3 = .ok (.aload_n 0, 1) := by decide +kernel
theorem jd_L_call_4 : decode jc_L_call 4 = .ok (.iload_n 1, 1) := by decide +kernel
theorem jd_L_call_5 : decode jc_L_call 5 = .ok (.iload_n 2, 1) := by decide +kernel
theorem jd_L_call_6 : decode jc_L_call 6 = .ok (.iload_n 3, 1) := by decide +kernel
theorem jd_L_call_7 : decode jc_L_call 7 = .ok (.iload 4, 2) := by decide +kernel
theorem jd_L_call_9 : decode jc_L_call 9 = .ok (.iload 5, 2) := by decide +kernel
theorem jd_L_call_11 : decode jc_L_call 11 = .ok (.iload 6, 2) := by decide +kernel
theorem jd_L_call_13 : decode jc_L_call 13 = .ok (.iload 7, 2) := by decide +kernel
theorem jd_L_call_15 : decode jc_L_call 15 = .ok (.invokevirtual 42, 3) := by decide +kernel
theorem jd_L_call_18 : decode jc_L_call 18 = .ok (.i2l, 1) := by decide +kernel
theorem jd_L_call_19 : decode jc_L_call 19 = .ok (.lastore, 1) := by decide +kernel
theorem jd_L_call_20 : decode jc_L_call 20 = .ok (.goto 11, 3) := by decide +kernel
theorem jd_L_call_23 : decode jc_L_call 23 = .ok (.astore 9, 2) := by decide +kernel
theorem jd_L_call_25 : decode jc_L_call 25 = .ok (.iconst 1, 1) := by decide +kernel
theorem jd_L_call_26 : decode jc_L_call 26 = .ok (.ireturn, 1) := by decide +kernel
theorem jd_L_call_27 : decode jc_L_call 27 = .ok (.astore 9, 2) := by decide +kernel
theorem jd_L_call_29 : decode jc_L_call 29 = .ok (.iconst 2, 1) := by decide +kernel
theorem jd_L_call_30 : decode jc_L_call 30 = .ok (.ireturn, 1) := by decide +kernel
theorem jd_L_call_31 : decode jc_L_call 31 = .ok (.iconst 0, 1) := by decide +kernel
theorem jd_L_call_32 : decode jc_L_call 32 = .ok (.ireturn, 1) := by decide +kernel
abbrev jc_L_reshape : ByteArray := method_11_code
abbrev jy_L_reshape : MethodName := ⟨"MeasuredTensorsLaw", "reshape", "(LMeasuredTensors;IIIIII[J)I"⟩
theorem jd_L_reshape_0 : decode jc_L_reshape 0 = .ok (.aload 7, 2) := by decide +kernel
theorem jd_L_reshape_2 : decode jc_L_reshape 2 = .ok (.iconst 0, 1) := by decide +kernel
theorem jd_L_reshape_3 : decode jc_L_reshape 3 = .ok (.aload_n 0, 1) := by decide +kernel
theorem jd_L_reshape_4 : decode jc_L_reshape 4 = .ok (.iload_n 1, 1) := by decide +kernel
theorem jd_L_reshape_5 : decode jc_L_reshape 5 = .ok (.iload_n 2, 1) := by decide +kernel
theorem jd_L_reshape_6 : decode jc_L_reshape 6 = .ok (.iload_n 3, 1) := by decide +kernel
theorem jd_L_reshape_7 : decode jc_L_reshape 7 = .ok (.iload 4, 2) := by decide +kernel
theorem jd_L_reshape_9 : decode jc_L_reshape 9 = .ok (.iload 5, 2) := by decide +kernel
theorem jd_L_reshape_11 : decode jc_L_reshape 11 = .ok (.iload 6, 2) := by decide +kernel
theorem jd_L_reshape_13 : decode jc_L_reshape 13 = .ok (.invokevirtual 46, 3) := by decide +kernel
theorem jd_L_reshape_16 : decode jc_L_reshape 16 = .ok (.i2l, 1) := by decide +kernel
theorem jd_L_reshape_17 : decode jc_L_reshape 17 = .ok (.lastore, 1) := by decide +kernel
theorem jd_L_reshape_18 : decode jc_L_reshape 18 = .ok (.goto 11, 3) := by decide +kernel
theorem jd_L_reshape_21 : decode jc_L_reshape 21 = .ok (.astore 8, 2) := by decide +kernel
theorem jd_L_reshape_23 : decode jc_L_reshape 23 = .ok (.iconst 1, 1) := by decide +kernel
theorem jd_L_reshape_24 : decode jc_L_reshape 24 = .ok (.ireturn, 1) := by decide +kernel
theorem jd_L_reshape_25 : decode jc_L_reshape 25 = .ok (.astore 8, 2) := by decide +kernel
theorem jd_L_reshape_27 : decode jc_L_reshape 27 = .ok (.iconst 2, 1) := by decide +kernel
theorem jd_L_reshape_28 : decode jc_L_reshape 28 = .ok (.ireturn, 1) := by decide +kernel
theorem jd_L_reshape_29 : decode jc_L_reshape 29 = .ok (.iconst 0, 1) := by decide +kernel
theorem jd_L_reshape_30 : decode jc_L_reshape 30 = .ok (.ireturn, 1) := by decide +kernel
abbrev jc_L_loss : ByteArray := method_12_code
abbrev jy_L_loss : MethodName := ⟨"MeasuredTensorsLaw", "loss", "(LMeasuredTensors;I[J)I"⟩
theorem jd_L_loss_0 : decode jc_L_loss 0 = .ok (.aload_n 2, 1) := by decide +kernel
theorem jd_L_loss_1 : decode jc_L_loss 1 = .ok (.iconst 0, 1) := by decide +kernel
theorem jd_L_loss_2 : decode jc_L_loss 2 = .ok (.aload_n 0, 1) := by decide +kernel
theorem jd_L_loss_3 : decode jc_L_loss 3 = .ok (.iload_n 1, 1) := by decide +kernel
theorem jd_L_loss_4 : decode jc_L_loss 4 = .ok (.invokevirtual 49, 3) := by decide +kernel
theorem jd_L_loss_7 : decode jc_L_loss 7 = .ok (.i2l, 1) := by decide +kernel
theorem jd_L_loss_8 : decode jc_L_loss 8 = .ok (.lastore, 1) := by decide +kernel
theorem jd_L_loss_9 : decode jc_L_loss 9 = .ok (.goto 9, 3) := by decide +kernel
theorem jd_L_loss_12 : decode jc_L_loss 12 = .ok (.astore_n 3, 1) := by decide +kernel
theorem jd_L_loss_13 : decode jc_L_loss 13 = .ok (.iconst 1, 1) := by decide +kernel
theorem jd_L_loss_14 : decode jc_L_loss 14 = .ok (.ireturn, 1) := by decide +kernel
theorem jd_L_loss_15 : decode jc_L_loss 15 = .ok (.astore_n 3, 1) := by decide +kernel
theorem jd_L_loss_16 : decode jc_L_loss 16 = .ok (.iconst 2, 1) := by decide +kernel
theorem jd_L_loss_17 : decode jc_L_loss 17 = .ok (.ireturn, 1) := by decide +kernel
theorem jd_L_loss_18 : decode jc_L_loss 18 = .ok (.iconst 0, 1) := by decide +kernel
theorem jd_L_loss_19 : decode jc_L_loss 19 = .ok (.ireturn, 1) := by decide +kernel
abbrev jc_L_told : ByteArray := method_13_code
abbrev jy_L_told : MethodName := ⟨"MeasuredTensorsLaw", "told", "(LMeasuredTensors;II[J)I"⟩
theorem jd_L_told_0 : decode jc_L_told 0 = .ok (.aload_n 3, 1) := by decide +kernel
theorem jd_L_told_1 : decode jc_L_told 1 = .ok (.iconst 0, 1) := by decide +kernel
theorem jd_L_told_2 : decode jc_L_told 2 = .ok (.aload_n 0, 1) := by decide +kernel
theorem jd_L_told_3 : decode jc_L_told 3 = .ok (.iload_n 1, 1) := by decide +kernel
theorem jd_L_told_4 : decode jc_L_told 4 = .ok (.iload_n 2, 1) := by decide +kernel
theorem jd_L_told_5 : decode jc_L_told 5 = .ok (.invokevirtual 52, 3) := by decide +kernel
theorem jd_L_told_8 : decode jc_L_told 8 = .ok (.i2l, 1) := by decide +kernel
theorem jd_L_told_9 : decode jc_L_told 9 = .ok (.lastore, 1) := by decide +kernel
theorem jd_L_told_10 : decode jc_L_told 10 = .ok (.goto 11, 3) := by decide +kernel
theorem jd_L_told_13 : decode jc_L_told 13 = .ok (.astore 4, 2) := by decide +kernel
theorem jd_L_told_15 : decode jc_L_told 15 = .ok (.iconst 1, 1) := by decide +kernel
theorem jd_L_told_16 : decode jc_L_told 16 = .ok (.ireturn, 1) := by decide +kernel
theorem jd_L_told_17 : decode jc_L_told 17 = .ok (.astore 4, 2) := by decide +kernel
theorem jd_L_told_19 : decode jc_L_told 19 = .ok (.iconst 2, 1) := by decide +kernel
theorem jd_L_told_20 : decode jc_L_told 20 = .ok (.ireturn, 1) := by decide +kernel
theorem jd_L_told_21 : decode jc_L_told 21 = .ok (.iconst 0, 1) := by decide +kernel
theorem jd_L_told_22 : decode jc_L_told 22 = .ok (.ireturn, 1) := by decide +kernel
abbrev jc_L_divisor : ByteArray := method_14_code
abbrev jy_L_divisor : MethodName := ⟨"MeasuredTensorsLaw", "divisor", "(LMeasuredTensors;IZ[J)I"⟩
theorem jd_L_divisor_0 : decode jc_L_divisor 0 = .ok (.aload_n 3, 1) := by decide +kernel
theorem jd_L_divisor_1 : decode jc_L_divisor 1 = .ok (.iconst 0, 1) := by decide +kernel
theorem jd_L_divisor_2 : decode jc_L_divisor 2 = .ok (.aload_n 0, 1) := by decide +kernel
theorem jd_L_divisor_3 : decode jc_L_divisor 3 = .ok (.iload_n 1, 1) := by decide +kernel
theorem jd_L_divisor_4 : decode jc_L_divisor 4 = .ok (.iload_n 2, 1) := by decide +kernel
theorem jd_L_divisor_5 : decode jc_L_divisor 5 = .ok (.invokevirtual 55, 3) := by decide +kernel
theorem jd_L_divisor_8 : decode jc_L_divisor 8 = .ok (.lastore, 1) := by decide +kernel
theorem jd_L_divisor_9 : decode jc_L_divisor 9 = .ok (.goto 7, 3) := by decide +kernel
theorem jd_L_divisor_12 : decode jc_L_divisor 12 = .ok (.astore 4, 2) := by decide +kernel
theorem jd_L_divisor_14 : decode jc_L_divisor 14 = .ok (.iconst 1, 1) := by decide +kernel
theorem jd_L_divisor_15 : decode jc_L_divisor 15 = .ok (.ireturn, 1) := by decide +kernel
theorem jd_L_divisor_16 : decode jc_L_divisor 16 = .ok (.iconst 0, 1) := by decide +kernel
theorem jd_L_divisor_17 : decode jc_L_divisor 17 = .ok (.ireturn, 1) := by decide +kernel
abbrev jc_L_law : ByteArray := code
theorem jd_L_law_0 : decode jc_L_law 0 = .ok (.new 8, 3) := by decide +kernel
theorem jd_L_law_3 : decode jc_L_law 3 = .ok (.dup, 1) := by decide +kernel
theorem jd_L_law_4 : decode jc_L_law 4 = .ok (.invokespecial 59, 3) := by decide +kernel
theorem jd_L_law_7 : decode jc_L_law 7 = .ok (.astore_n 1, 1) := by decide +kernel
theorem jd_L_law_8 : decode jc_L_law 8 = .ok (.new 60, 3) := by decide +kernel
theorem jd_L_law_11 : decode jc_L_law 11 = .ok (.dup, 1) := by decide +kernel
theorem jd_L_law_12 : decode jc_L_law 12 = .ok (.invokespecial 62, 3) := by decide +kernel
theorem jd_L_law_15 : decode jc_L_law 15 = .ok (.astore_n 2, 1) := by decide +kernel
theorem jd_L_law_16 : decode jc_L_law 16 = .ok (.iconst 1, 1) := by decide +kernel
theorem jd_L_law_17 : decode jc_L_law 17 = .ok (.newarray .long, 2) := by decide +kernel
theorem jd_L_law_19 : decode jc_L_law 19 = .ok (.astore_n 3, 1) := by decide +kernel
theorem jd_L_law_20 : decode jc_L_law 20 = .ok (.iconst 0, 1) := by decide +kernel
theorem jd_L_law_21 : decode jc_L_law 21 = .ok (.istore 4, 2) := by decide +kernel
theorem jd_L_law_23 : decode jc_L_law 23 = .ok (.iload 4, 2) := by decide +kernel
theorem jd_L_law_25 : decode jc_L_law 25 = .ok (.aload_n 0, 1) := by decide +kernel
theorem jd_L_law_26 : decode jc_L_law 26 = .ok (.arraylength, 1) := by decide +kernel
theorem jd_L_law_27 : decode jc_L_law 27 = .ok (.bipush 8, 2) := by decide +kernel
theorem jd_L_law_29 : decode jc_L_law 29 = .ok (.isub, 1) := by decide +kernel
theorem jd_L_law_30 : decode jc_L_law 30 = .ok (.if_icmp .gt 848, 3) := by decide +kernel
theorem jd_L_law_33 : decode jc_L_law 33 = .ok (.aload_n 0, 1) := by decide +kernel
theorem jd_L_law_34 : decode jc_L_law 34 = .ok (.iload 4, 2) := by decide +kernel
theorem jd_L_law_36 : decode jc_L_law 36 = .ok (.iaload, 1) := by decide +kernel
theorem jd_L_law_37 : decode jc_L_law 37 = .ok (.bipush 15, 2) := by decide +kernel
theorem jd_L_law_39 : decode jc_L_law 39 = .ok (.iand, 1) := by decide +kernel
theorem jd_L_law_40 : decode jc_L_law 40 = .ok (.tableswitch 832 0 12 #[68, 93, 133, 267, 357, 409, 437, 489, 593, 683, 711, 751, 807], 68) := by decide +kernel
theorem jd_L_law_108 : decode jc_L_law 108 = .ok (.aload_n 1, 1) := by decide +kernel
theorem jd_L_law_109 : decode jc_L_law 109 = .ok (.aload_n 0, 1) := by decide +kernel
theorem jd_L_law_110 : decode jc_L_law 110 = .ok (.iload 4, 2) := by decide +kernel
theorem jd_L_law_112 : decode jc_L_law 112 = .ok (.iconst 1, 1) := by decide +kernel
theorem jd_L_law_113 : decode jc_L_law 113 = .ok (.iadd, 1) := by decide +kernel
theorem jd_L_law_114 : decode jc_L_law 114 = .ok (.iaload, 1) := by decide +kernel
theorem jd_L_law_115 : decode jc_L_law 115 = .ok (.invokestatic 63, 3) := by decide +kernel
theorem jd_L_law_118 : decode jc_L_law 118 = .ok (.istore 5, 2) := by decide +kernel
theorem jd_L_law_120 : decode jc_L_law 120 = .ok (.aload_n 2, 1) := by decide +kernel
theorem jd_L_law_121 : decode jc_L_law 121 = .ok (.aload_n 0, 1) := by decide +kernel
theorem jd_L_law_122 : decode jc_L_law 122 = .ok (.iload 4, 2) := by decide +kernel
theorem jd_L_law_124 : decode jc_L_law 124 = .ok (.iconst 1, 1) := by decide +kernel
theorem jd_L_law_125 : decode jc_L_law 125 = .ok (.iadd, 1) := by decide +kernel
theorem jd_L_law_126 : decode jc_L_law 126 = .ok (.iaload, 1) := by decide +kernel
theorem jd_L_law_127 : decode jc_L_law 127 = .ok (.invokevirtual 68, 3) := by decide +kernel
theorem jd_L_law_130 : decode jc_L_law 130 = .ok (.goto 742, 3) := by decide +kernel
theorem jd_L_law_133 : decode jc_L_law 133 = .ok (.aload_n 1, 1) := by decide +kernel
theorem jd_L_law_134 : decode jc_L_law 134 = .ok (.aload_n 0, 1) := by decide +kernel
theorem jd_L_law_135 : decode jc_L_law 135 = .ok (.iload 4, 2) := by decide +kernel
theorem jd_L_law_137 : decode jc_L_law 137 = .ok (.iconst 1, 1) := by decide +kernel
theorem jd_L_law_138 : decode jc_L_law 138 = .ok (.iadd, 1) := by decide +kernel
theorem jd_L_law_139 : decode jc_L_law 139 = .ok (.iaload, 1) := by decide +kernel
theorem jd_L_law_140 : decode jc_L_law 140 = .ok (.aload_n 0, 1) := by decide +kernel
theorem jd_L_law_141 : decode jc_L_law 141 = .ok (.iload 4, 2) := by decide +kernel
theorem jd_L_law_143 : decode jc_L_law 143 = .ok (.iconst 2, 1) := by decide +kernel
theorem jd_L_law_144 : decode jc_L_law 144 = .ok (.iadd, 1) := by decide +kernel
theorem jd_L_law_145 : decode jc_L_law 145 = .ok (.iaload, 1) := by decide +kernel
theorem jd_L_law_146 : decode jc_L_law 146 = .ok (.aload_n 3, 1) := by decide +kernel
theorem jd_L_law_147 : decode jc_L_law 147 = .ok (.invokestatic 69, 3) := by decide +kernel
theorem jd_L_law_150 : decode jc_L_law 150 = .ok (.istore 5, 2) := by decide +kernel
theorem jd_L_law_152 : decode jc_L_law 152 = .ok (.aload_n 2, 1) := by decide +kernel
theorem jd_L_law_153 : decode jc_L_law 153 = .ok (.aload_n 0, 1) := by decide +kernel
theorem jd_L_law_154 : decode jc_L_law 154 = .ok (.iload 4, 2) := by decide +kernel
theorem jd_L_law_156 : decode jc_L_law 156 = .ok (.iconst 1, 1) := by decide +kernel
theorem jd_L_law_157 : decode jc_L_law 157 = .ok (.iadd, 1) := by decide +kernel
theorem jd_L_law_158 : decode jc_L_law 158 = .ok (.iaload, 1) := by decide +kernel
theorem jd_L_law_159 : decode jc_L_law 159 = .ok (.aload_n 0, 1) := by decide +kernel
theorem jd_L_law_160 : decode jc_L_law 160 = .ok (.iload 4, 2) := by decide +kernel
theorem jd_L_law_162 : decode jc_L_law 162 = .ok (.iconst 2, 1) := by decide +kernel
theorem jd_L_law_163 : decode jc_L_law 163 = .ok (.iadd, 1) := by decide +kernel
theorem jd_L_law_164 : decode jc_L_law 164 = .ok (.iaload, 1) := by decide +kernel
theorem jd_L_law_165 : decode jc_L_law 165 = .ok (.invokevirtual 72, 3) := by decide +kernel
theorem jd_L_law_168 : decode jc_L_law 168 = .ok (.istore 6, 2) := by decide +kernel
theorem jd_L_law_170 : decode jc_L_law 170 = .ok (.goto 702, 3) := by decide +kernel
theorem jd_L_law_173 : decode jc_L_law 173 = .ok (.aload_n 1, 1) := by decide +kernel
theorem jd_L_law_174 : decode jc_L_law 174 = .ok (.aload_n 0, 1) := by decide +kernel
theorem jd_L_law_175 : decode jc_L_law 175 = .ok (.iload 4, 2) := by decide +kernel
theorem jd_L_law_177 : decode jc_L_law 177 = .ok (.iconst 1, 1) := by decide +kernel
theorem jd_L_law_178 : decode jc_L_law 178 = .ok (.iadd, 1) := by decide +kernel
theorem jd_L_law_179 : decode jc_L_law 179 = .ok (.iaload, 1) := by decide +kernel
theorem jd_L_law_180 : decode jc_L_law 180 = .ok (.ifCond .eq 7, 3) := by decide +kernel
theorem jd_L_law_183 : decode jc_L_law 183 = .ok (.iconst 1, 1) := by decide +kernel
theorem jd_L_law_184 : decode jc_L_law 184 = .ok (.goto 4, 3) := by decide +kernel
theorem jd_L_law_187 : decode jc_L_law 187 = .ok (.iconst 0, 1) := by decide +kernel
theorem jd_L_law_188 : decode jc_L_law 188 = .ok (.aload_n 0, 1) := by decide +kernel
theorem jd_L_law_189 : decode jc_L_law 189 = .ok (.iload 4, 2) := by decide +kernel
theorem jd_L_law_191 : decode jc_L_law 191 = .ok (.iconst 2, 1) := by decide +kernel
theorem jd_L_law_192 : decode jc_L_law 192 = .ok (.iadd, 1) := by decide +kernel
theorem jd_L_law_193 : decode jc_L_law 193 = .ok (.iaload, 1) := by decide +kernel
theorem jd_L_law_194 : decode jc_L_law 194 = .ok (.aload_n 0, 1) := by decide +kernel
theorem jd_L_law_195 : decode jc_L_law 195 = .ok (.iload 4, 2) := by decide +kernel
theorem jd_L_law_197 : decode jc_L_law 197 = .ok (.iconst 3, 1) := by decide +kernel
theorem jd_L_law_198 : decode jc_L_law 198 = .ok (.iadd, 1) := by decide +kernel
theorem jd_L_law_199 : decode jc_L_law 199 = .ok (.iaload, 1) := by decide +kernel
theorem jd_L_law_200 : decode jc_L_law 200 = .ok (.aload_n 0, 1) := by decide +kernel
theorem jd_L_law_201 : decode jc_L_law 201 = .ok (.iload 4, 2) := by decide +kernel
theorem jd_L_law_203 : decode jc_L_law 203 = .ok (.iconst 4, 1) := by decide +kernel
theorem jd_L_law_204 : decode jc_L_law 204 = .ok (.iadd, 1) := by decide +kernel
theorem jd_L_law_205 : decode jc_L_law 205 = .ok (.iaload, 1) := by decide +kernel
theorem jd_L_law_206 : decode jc_L_law 206 = .ok (.aload_n 0, 1) := by decide +kernel
theorem jd_L_law_207 : decode jc_L_law 207 = .ok (.iload 4, 2) := by decide +kernel
theorem jd_L_law_209 : decode jc_L_law 209 = .ok (.iconst 5, 1) := by decide +kernel
theorem jd_L_law_210 : decode jc_L_law 210 = .ok (.iadd, 1) := by decide +kernel
theorem jd_L_law_211 : decode jc_L_law 211 = .ok (.iaload, 1) := by decide +kernel
theorem jd_L_law_212 : decode jc_L_law 212 = .ok (.aload_n 0, 1) := by decide +kernel
theorem jd_L_law_213 : decode jc_L_law 213 = .ok (.iload 4, 2) := by decide +kernel
theorem jd_L_law_215 : decode jc_L_law 215 = .ok (.bipush 6, 2) := by decide +kernel
theorem jd_L_law_217 : decode jc_L_law 217 = .ok (.iadd, 1) := by decide +kernel
theorem jd_L_law_218 : decode jc_L_law 218 = .ok (.iaload, 1) := by decide +kernel
theorem jd_L_law_219 : decode jc_L_law 219 = .ok (.aload_n 3, 1) := by decide +kernel
theorem jd_L_law_220 : decode jc_L_law 220 = .ok (.invokestatic 73, 3) := by decide +kernel
theorem jd_L_law_223 : decode jc_L_law 223 = .ok (.istore 5, 2) := by decide +kernel
theorem jd_L_law_225 : decode jc_L_law 225 = .ok (.aload_n 2, 1) := by decide +kernel
theorem jd_L_law_226 : decode jc_L_law 226 = .ok (.aload_n 0, 1) := by decide +kernel
theorem jd_L_law_227 : decode jc_L_law 227 = .ok (.iload 4, 2) := by decide +kernel
theorem jd_L_law_229 : decode jc_L_law 229 = .ok (.iconst 1, 1) := by decide +kernel
theorem jd_L_law_230 : decode jc_L_law 230 = .ok (.iadd, 1) := by decide +kernel
theorem jd_L_law_231 : decode jc_L_law 231 = .ok (.iaload, 1) := by decide +kernel
theorem jd_L_law_232 : decode jc_L_law 232 = .ok (.ifCond .eq 7, 3) := by decide +kernel
theorem jd_L_law_235 : decode jc_L_law 235 = .ok (.iconst 1, 1) := by decide +kernel
theorem jd_L_law_236 : decode jc_L_law 236 = .ok (.goto 4, 3) := by decide +kernel
theorem jd_L_law_239 : decode jc_L_law 239 = .ok (.iconst 0, 1) := by decide +kernel
theorem jd_L_law_240 : decode jc_L_law 240 = .ok (.aload_n 0, 1) := by decide +kernel
theorem jd_L_law_241 : decode jc_L_law 241 = .ok (.iload 4, 2) := by decide +kernel
theorem jd_L_law_243 : decode jc_L_law 243 = .ok (.iconst 2, 1) := by decide +kernel
theorem jd_L_law_244 : decode jc_L_law 244 = .ok (.iadd, 1) := by decide +kernel
theorem jd_L_law_245 : decode jc_L_law 245 = .ok (.iaload, 1) := by decide +kernel
theorem jd_L_law_246 : decode jc_L_law 246 = .ok (.aload_n 0, 1) := by decide +kernel
theorem jd_L_law_247 : decode jc_L_law 247 = .ok (.iload 4, 2) := by decide +kernel
theorem jd_L_law_249 : decode jc_L_law 249 = .ok (.iconst 3, 1) := by decide +kernel
theorem jd_L_law_250 : decode jc_L_law 250 = .ok (.iadd, 1) := by decide +kernel
theorem jd_L_law_251 : decode jc_L_law 251 = .ok (.iaload, 1) := by decide +kernel
theorem jd_L_law_252 : decode jc_L_law 252 = .ok (.aload_n 0, 1) := by decide +kernel
theorem jd_L_law_253 : decode jc_L_law 253 = .ok (.iload 4, 2) := by decide +kernel
theorem jd_L_law_255 : decode jc_L_law 255 = .ok (.iconst 4, 1) := by decide +kernel
theorem jd_L_law_256 : decode jc_L_law 256 = .ok (.iadd, 1) := by decide +kernel
theorem jd_L_law_257 : decode jc_L_law 257 = .ok (.iaload, 1) := by decide +kernel
theorem jd_L_law_258 : decode jc_L_law 258 = .ok (.aload_n 0, 1) := by decide +kernel
theorem jd_L_law_259 : decode jc_L_law 259 = .ok (.iload 4, 2) := by decide +kernel
theorem jd_L_law_261 : decode jc_L_law 261 = .ok (.iconst 5, 1) := by decide +kernel
theorem jd_L_law_262 : decode jc_L_law 262 = .ok (.iadd, 1) := by decide +kernel
theorem jd_L_law_263 : decode jc_L_law 263 = .ok (.iaload, 1) := by decide +kernel
theorem jd_L_law_264 : decode jc_L_law 264 = .ok (.aload_n 0, 1) := by decide +kernel
theorem jd_L_law_265 : decode jc_L_law 265 = .ok (.iload 4, 2) := by decide +kernel
theorem jd_L_law_267 : decode jc_L_law 267 = .ok (.bipush 6, 2) := by decide +kernel
theorem jd_L_law_269 : decode jc_L_law 269 = .ok (.iadd, 1) := by decide +kernel
theorem jd_L_law_270 : decode jc_L_law 270 = .ok (.iaload, 1) := by decide +kernel
theorem jd_L_law_271 : decode jc_L_law 271 = .ok (.invokevirtual 76, 3) := by decide +kernel
theorem jd_L_law_274 : decode jc_L_law 274 = .ok (.istore 6, 2) := by decide +kernel
theorem jd_L_law_276 : decode jc_L_law 276 = .ok (.aload_n 2, 1) := by decide +kernel
theorem jd_L_law_277 : decode jc_L_law 277 = .ok (.invokevirtual 77, 3) := by decide +kernel
theorem jd_L_law_280 : decode jc_L_law 280 = .ok (.iload 5, 2) := by decide +kernel
theorem jd_L_law_282 : decode jc_L_law 282 = .ok (.if_icmp .eq 5, 3) := by decide +kernel
theorem jd_L_law_285 : decode jc_L_law 285 = .ok (.iconst 0, 1) := by decide +kernel
theorem jd_L_law_286 : decode jc_L_law 286 = .ok (.ireturn, 1) := by decide +kernel
theorem jd_L_law_287 : decode jc_L_law 287 = .ok (.iload 5, 2) := by decide +kernel
theorem jd_L_law_289 : decode jc_L_law 289 = .ok (.ifCond .ne 15, 3) := by decide +kernel
theorem jd_L_law_292 : decode jc_L_law 292 = .ok (.aload_n 3, 1) := by decide +kernel
theorem jd_L_law_293 : decode jc_L_law 293 = .ok (.iconst 0, 1) := by decide +kernel
theorem jd_L_law_294 : decode jc_L_law 294 = .ok (.laload, 1) := by decide +kernel
theorem jd_L_law_295 : decode jc_L_law 295 = .ok (.iload 6, 2) := by decide +kernel
theorem jd_L_law_297 : decode jc_L_law 297 = .ok (.i2l, 1) := by decide +kernel
theorem jd_L_law_298 : decode jc_L_law 298 = .ok (.lcmp, 1) := by decide +kernel
theorem jd_L_law_299 : decode jc_L_law 299 = .ok (.ifCond .eq 5, 3) := by decide +kernel
theorem jd_L_law_302 : decode jc_L_law 302 = .ok (.iconst 0, 1) := by decide +kernel
theorem jd_L_law_303 : decode jc_L_law 303 = .ok (.ireturn, 1) := by decide +kernel
theorem jd_L_law_304 : decode jc_L_law 304 = .ok (.goto 568, 3) := by decide +kernel
theorem jd_L_law_307 : decode jc_L_law 307 = .ok (.aload_n 1, 1) := by decide +kernel
theorem jd_L_law_308 : decode jc_L_law 308 = .ok (.aload_n 0, 1) := by decide +kernel
theorem jd_L_law_309 : decode jc_L_law 309 = .ok (.iload 4, 2) := by decide +kernel
theorem jd_L_law_311 : decode jc_L_law 311 = .ok (.iconst 1, 1) := by decide +kernel
theorem jd_L_law_312 : decode jc_L_law 312 = .ok (.iadd, 1) := by decide +kernel
theorem jd_L_law_313 : decode jc_L_law 313 = .ok (.iaload, 1) := by decide +kernel
theorem jd_L_law_314 : decode jc_L_law 314 = .ok (.aload_n 0, 1) := by decide +kernel
theorem jd_L_law_315 : decode jc_L_law 315 = .ok (.iload 4, 2) := by decide +kernel
theorem jd_L_law_317 : decode jc_L_law 317 = .ok (.iconst 2, 1) := by decide +kernel
theorem jd_L_law_318 : decode jc_L_law 318 = .ok (.iadd, 1) := by decide +kernel
theorem jd_L_law_319 : decode jc_L_law 319 = .ok (.iaload, 1) := by decide +kernel
theorem jd_L_law_320 : decode jc_L_law 320 = .ok (.aload_n 0, 1) := by decide +kernel
theorem jd_L_law_321 : decode jc_L_law 321 = .ok (.iload 4, 2) := by decide +kernel
theorem jd_L_law_323 : decode jc_L_law 323 = .ok (.iconst 3, 1) := by decide +kernel
theorem jd_L_law_324 : decode jc_L_law 324 = .ok (.iadd, 1) := by decide +kernel
theorem jd_L_law_325 : decode jc_L_law 325 = .ok (.iaload, 1) := by decide +kernel
theorem jd_L_law_326 : decode jc_L_law 326 = .ok (.aload_n 0, 1) := by decide +kernel
theorem jd_L_law_327 : decode jc_L_law 327 = .ok (.iload 4, 2) := by decide +kernel
theorem jd_L_law_329 : decode jc_L_law 329 = .ok (.iconst 4, 1) := by decide +kernel
theorem jd_L_law_330 : decode jc_L_law 330 = .ok (.iadd, 1) := by decide +kernel
theorem jd_L_law_331 : decode jc_L_law 331 = .ok (.iaload, 1) := by decide +kernel
theorem jd_L_law_332 : decode jc_L_law 332 = .ok (.aload_n 0, 1) := by decide +kernel
theorem jd_L_law_333 : decode jc_L_law 333 = .ok (.iload 4, 2) := by decide +kernel
theorem jd_L_law_335 : decode jc_L_law 335 = .ok (.iconst 5, 1) := by decide +kernel
theorem jd_L_law_336 : decode jc_L_law 336 = .ok (.iadd, 1) := by decide +kernel
theorem jd_L_law_337 : decode jc_L_law 337 = .ok (.iaload, 1) := by decide +kernel
theorem jd_L_law_338 : decode jc_L_law 338 = .ok (.aload_n 0, 1) := by decide +kernel
theorem jd_L_law_339 : decode jc_L_law 339 = .ok (.iload 4, 2) := by decide +kernel
theorem jd_L_law_341 : decode jc_L_law 341 = .ok (.bipush 6, 2) := by decide +kernel
theorem jd_L_law_343 : decode jc_L_law 343 = .ok (.iadd, 1) := by decide +kernel
theorem jd_L_law_344 : decode jc_L_law 344 = .ok (.iaload, 1) := by decide +kernel
theorem jd_L_law_345 : decode jc_L_law 345 = .ok (.aload_n 3, 1) := by decide +kernel
theorem jd_L_law_346 : decode jc_L_law 346 = .ok (.invokestatic 81, 3) := by decide +kernel
theorem jd_L_law_349 : decode jc_L_law 349 = .ok (.istore 5, 2) := by decide +kernel
theorem jd_L_law_351 : decode jc_L_law 351 = .ok (.aload_n 2, 1) := by decide +kernel
theorem jd_L_law_352 : decode jc_L_law 352 = .ok (.aload_n 0, 1) := by decide +kernel
theorem jd_L_law_353 : decode jc_L_law 353 = .ok (.iload 4, 2) := by decide +kernel
theorem jd_L_law_355 : decode jc_L_law 355 = .ok (.iconst 1, 1) := by decide +kernel
theorem jd_L_law_356 : decode jc_L_law 356 = .ok (.iadd, 1) := by decide +kernel
theorem jd_L_law_357 : decode jc_L_law 357 = .ok (.iaload, 1) := by decide +kernel
theorem jd_L_law_358 : decode jc_L_law 358 = .ok (.aload_n 0, 1) := by decide +kernel
theorem jd_L_law_359 : decode jc_L_law 359 = .ok (.iload 4, 2) := by decide +kernel
theorem jd_L_law_361 : decode jc_L_law 361 = .ok (.iconst 2, 1) := by decide +kernel
theorem jd_L_law_362 : decode jc_L_law 362 = .ok (.iadd, 1) := by decide +kernel
theorem jd_L_law_363 : decode jc_L_law 363 = .ok (.iaload, 1) := by decide +kernel
theorem jd_L_law_364 : decode jc_L_law 364 = .ok (.aload_n 0, 1) := by decide +kernel
theorem jd_L_law_365 : decode jc_L_law 365 = .ok (.iload 4, 2) := by decide +kernel
theorem jd_L_law_367 : decode jc_L_law 367 = .ok (.iconst 3, 1) := by decide +kernel
theorem jd_L_law_368 : decode jc_L_law 368 = .ok (.iadd, 1) := by decide +kernel
theorem jd_L_law_369 : decode jc_L_law 369 = .ok (.iaload, 1) := by decide +kernel
theorem jd_L_law_370 : decode jc_L_law 370 = .ok (.aload_n 0, 1) := by decide +kernel
theorem jd_L_law_371 : decode jc_L_law 371 = .ok (.iload 4, 2) := by decide +kernel
theorem jd_L_law_373 : decode jc_L_law 373 = .ok (.iconst 4, 1) := by decide +kernel
theorem jd_L_law_374 : decode jc_L_law 374 = .ok (.iadd, 1) := by decide +kernel
theorem jd_L_law_375 : decode jc_L_law 375 = .ok (.iaload, 1) := by decide +kernel
theorem jd_L_law_376 : decode jc_L_law 376 = .ok (.aload_n 0, 1) := by decide +kernel
theorem jd_L_law_377 : decode jc_L_law 377 = .ok (.iload 4, 2) := by decide +kernel
theorem jd_L_law_379 : decode jc_L_law 379 = .ok (.iconst 5, 1) := by decide +kernel
theorem jd_L_law_380 : decode jc_L_law 380 = .ok (.iadd, 1) := by decide +kernel
theorem jd_L_law_381 : decode jc_L_law 381 = .ok (.iaload, 1) := by decide +kernel
theorem jd_L_law_382 : decode jc_L_law 382 = .ok (.aload_n 0, 1) := by decide +kernel
theorem jd_L_law_383 : decode jc_L_law 383 = .ok (.iload 4, 2) := by decide +kernel
theorem jd_L_law_385 : decode jc_L_law 385 = .ok (.bipush 6, 2) := by decide +kernel
theorem jd_L_law_387 : decode jc_L_law 387 = .ok (.iadd, 1) := by decide +kernel
theorem jd_L_law_388 : decode jc_L_law 388 = .ok (.iaload, 1) := by decide +kernel
theorem jd_L_law_389 : decode jc_L_law 389 = .ok (.invokevirtual 84, 3) := by decide +kernel
theorem jd_L_law_392 : decode jc_L_law 392 = .ok (.istore 6, 2) := by decide +kernel
theorem jd_L_law_394 : decode jc_L_law 394 = .ok (.goto 478, 3) := by decide +kernel
theorem jd_L_law_397 : decode jc_L_law 397 = .ok (.aload_n 1, 1) := by decide +kernel
theorem jd_L_law_398 : decode jc_L_law 398 = .ok (.aload_n 0, 1) := by decide +kernel
theorem jd_L_law_399 : decode jc_L_law 399 = .ok (.iload 4, 2) := by decide +kernel
theorem jd_L_law_401 : decode jc_L_law 401 = .ok (.iconst 1, 1) := by decide +kernel
theorem jd_L_law_402 : decode jc_L_law 402 = .ok (.iadd, 1) := by decide +kernel
theorem jd_L_law_403 : decode jc_L_law 403 = .ok (.iaload, 1) := by decide +kernel
theorem jd_L_law_404 : decode jc_L_law 404 = .ok (.aload_n 0, 1) := by decide +kernel
theorem jd_L_law_405 : decode jc_L_law 405 = .ok (.iload 4, 2) := by decide +kernel
theorem jd_L_law_407 : decode jc_L_law 407 = .ok (.iconst 2, 1) := by decide +kernel
theorem jd_L_law_408 : decode jc_L_law 408 = .ok (.iadd, 1) := by decide +kernel
theorem jd_L_law_409 : decode jc_L_law 409 = .ok (.iaload, 1) := by decide +kernel
theorem jd_L_law_410 : decode jc_L_law 410 = .ok (.aload_n 0, 1) := by decide +kernel
theorem jd_L_law_411 : decode jc_L_law 411 = .ok (.iload 4, 2) := by decide +kernel
theorem jd_L_law_413 : decode jc_L_law 413 = .ok (.iconst 3, 1) := by decide +kernel
theorem jd_L_law_414 : decode jc_L_law 414 = .ok (.iadd, 1) := by decide +kernel
theorem jd_L_law_415 : decode jc_L_law 415 = .ok (.iaload, 1) := by decide +kernel
theorem jd_L_law_416 : decode jc_L_law 416 = .ok (.aload_n 3, 1) := by decide +kernel
theorem jd_L_law_417 : decode jc_L_law 417 = .ok (.invokestatic 85, 3) := by decide +kernel
theorem jd_L_law_420 : decode jc_L_law 420 = .ok (.istore 5, 2) := by decide +kernel
theorem jd_L_law_422 : decode jc_L_law 422 = .ok (.aload_n 2, 1) := by decide +kernel
theorem jd_L_law_423 : decode jc_L_law 423 = .ok (.aload_n 0, 1) := by decide +kernel
theorem jd_L_law_424 : decode jc_L_law 424 = .ok (.iload 4, 2) := by decide +kernel
theorem jd_L_law_426 : decode jc_L_law 426 = .ok (.iconst 1, 1) := by decide +kernel
theorem jd_L_law_427 : decode jc_L_law 427 = .ok (.iadd, 1) := by decide +kernel
theorem jd_L_law_428 : decode jc_L_law 428 = .ok (.iaload, 1) := by decide +kernel
theorem jd_L_law_429 : decode jc_L_law 429 = .ok (.aload_n 0, 1) := by decide +kernel
theorem jd_L_law_430 : decode jc_L_law 430 = .ok (.iload 4, 2) := by decide +kernel
theorem jd_L_law_432 : decode jc_L_law 432 = .ok (.iconst 2, 1) := by decide +kernel
theorem jd_L_law_433 : decode jc_L_law 433 = .ok (.iadd, 1) := by decide +kernel
theorem jd_L_law_434 : decode jc_L_law 434 = .ok (.iaload, 1) := by decide +kernel
theorem jd_L_law_435 : decode jc_L_law 435 = .ok (.aload_n 0, 1) := by decide +kernel
theorem jd_L_law_436 : decode jc_L_law 436 = .ok (.iload 4, 2) := by decide +kernel
theorem jd_L_law_438 : decode jc_L_law 438 = .ok (.iconst 3, 1) := by decide +kernel
theorem jd_L_law_439 : decode jc_L_law 439 = .ok (.iadd, 1) := by decide +kernel
theorem jd_L_law_440 : decode jc_L_law 440 = .ok (.iaload, 1) := by decide +kernel
theorem jd_L_law_441 : decode jc_L_law 441 = .ok (.invokevirtual 88, 3) := by decide +kernel
theorem jd_L_law_444 : decode jc_L_law 444 = .ok (.istore 6, 2) := by decide +kernel
theorem jd_L_law_446 : decode jc_L_law 446 = .ok (.goto 426, 3) := by decide +kernel
theorem jd_L_law_449 : decode jc_L_law 449 = .ok (.aload_n 1, 1) := by decide +kernel
theorem jd_L_law_450 : decode jc_L_law 450 = .ok (.aload_n 0, 1) := by decide +kernel
theorem jd_L_law_451 : decode jc_L_law 451 = .ok (.iload 4, 2) := by decide +kernel
theorem jd_L_law_453 : decode jc_L_law 453 = .ok (.iconst 1, 1) := by decide +kernel
theorem jd_L_law_454 : decode jc_L_law 454 = .ok (.iadd, 1) := by decide +kernel
theorem jd_L_law_455 : decode jc_L_law 455 = .ok (.iaload, 1) := by decide +kernel
theorem jd_L_law_456 : decode jc_L_law 456 = .ok (.aload_n 3, 1) := by decide +kernel
theorem jd_L_law_457 : decode jc_L_law 457 = .ok (.invokestatic 89, 3) := by decide +kernel
theorem jd_L_law_460 : decode jc_L_law 460 = .ok (.istore 5, 2) := by decide +kernel
theorem jd_L_law_462 : decode jc_L_law 462 = .ok (.aload_n 2, 1) := by decide +kernel
theorem jd_L_law_463 : decode jc_L_law 463 = .ok (.aload_n 0, 1) := by decide +kernel
theorem jd_L_law_464 : decode jc_L_law 464 = .ok (.iload 4, 2) := by decide +kernel
theorem jd_L_law_466 : decode jc_L_law 466 = .ok (.iconst 1, 1) := by decide +kernel
theorem jd_L_law_467 : decode jc_L_law 467 = .ok (.iadd, 1) := by decide +kernel
theorem jd_L_law_468 : decode jc_L_law 468 = .ok (.iaload, 1) := by decide +kernel
theorem jd_L_law_469 : decode jc_L_law 469 = .ok (.invokevirtual 92, 3) := by decide +kernel
theorem jd_L_law_472 : decode jc_L_law 472 = .ok (.istore 6, 2) := by decide +kernel
theorem jd_L_law_474 : decode jc_L_law 474 = .ok (.goto 398, 3) := by decide +kernel
theorem jd_L_law_477 : decode jc_L_law 477 = .ok (.aload_n 1, 1) := by decide +kernel
theorem jd_L_law_478 : decode jc_L_law 478 = .ok (.aload_n 0, 1) := by decide +kernel
theorem jd_L_law_479 : decode jc_L_law 479 = .ok (.iload 4, 2) := by decide +kernel
theorem jd_L_law_481 : decode jc_L_law 481 = .ok (.iconst 1, 1) := by decide +kernel
theorem jd_L_law_482 : decode jc_L_law 482 = .ok (.iadd, 1) := by decide +kernel
theorem jd_L_law_483 : decode jc_L_law 483 = .ok (.iaload, 1) := by decide +kernel
theorem jd_L_law_484 : decode jc_L_law 484 = .ok (.aload_n 0, 1) := by decide +kernel
theorem jd_L_law_485 : decode jc_L_law 485 = .ok (.iload 4, 2) := by decide +kernel
theorem jd_L_law_487 : decode jc_L_law 487 = .ok (.iconst 2, 1) := by decide +kernel
theorem jd_L_law_488 : decode jc_L_law 488 = .ok (.iadd, 1) := by decide +kernel
theorem jd_L_law_489 : decode jc_L_law 489 = .ok (.iaload, 1) := by decide +kernel
theorem jd_L_law_490 : decode jc_L_law 490 = .ok (.aload_n 0, 1) := by decide +kernel
theorem jd_L_law_491 : decode jc_L_law 491 = .ok (.iload 4, 2) := by decide +kernel
theorem jd_L_law_493 : decode jc_L_law 493 = .ok (.iconst 3, 1) := by decide +kernel
theorem jd_L_law_494 : decode jc_L_law 494 = .ok (.iadd, 1) := by decide +kernel
theorem jd_L_law_495 : decode jc_L_law 495 = .ok (.iaload, 1) := by decide +kernel
theorem jd_L_law_496 : decode jc_L_law 496 = .ok (.aload_n 3, 1) := by decide +kernel
theorem jd_L_law_497 : decode jc_L_law 497 = .ok (.invokestatic 93, 3) := by decide +kernel
theorem jd_L_law_500 : decode jc_L_law 500 = .ok (.istore 5, 2) := by decide +kernel
theorem jd_L_law_502 : decode jc_L_law 502 = .ok (.aload_n 2, 1) := by decide +kernel
theorem jd_L_law_503 : decode jc_L_law 503 = .ok (.aload_n 0, 1) := by decide +kernel
theorem jd_L_law_504 : decode jc_L_law 504 = .ok (.iload 4, 2) := by decide +kernel
theorem jd_L_law_506 : decode jc_L_law 506 = .ok (.iconst 1, 1) := by decide +kernel
theorem jd_L_law_507 : decode jc_L_law 507 = .ok (.iadd, 1) := by decide +kernel
theorem jd_L_law_508 : decode jc_L_law 508 = .ok (.iaload, 1) := by decide +kernel
theorem jd_L_law_509 : decode jc_L_law 509 = .ok (.aload_n 0, 1) := by decide +kernel
theorem jd_L_law_510 : decode jc_L_law 510 = .ok (.iload 4, 2) := by decide +kernel
theorem jd_L_law_512 : decode jc_L_law 512 = .ok (.iconst 2, 1) := by decide +kernel
theorem jd_L_law_513 : decode jc_L_law 513 = .ok (.iadd, 1) := by decide +kernel
theorem jd_L_law_514 : decode jc_L_law 514 = .ok (.iaload, 1) := by decide +kernel
theorem jd_L_law_515 : decode jc_L_law 515 = .ok (.aload_n 0, 1) := by decide +kernel
theorem jd_L_law_516 : decode jc_L_law 516 = .ok (.iload 4, 2) := by decide +kernel
theorem jd_L_law_518 : decode jc_L_law 518 = .ok (.iconst 3, 1) := by decide +kernel
theorem jd_L_law_519 : decode jc_L_law 519 = .ok (.iadd, 1) := by decide +kernel
theorem jd_L_law_520 : decode jc_L_law 520 = .ok (.iaload, 1) := by decide +kernel
theorem jd_L_law_521 : decode jc_L_law 521 = .ok (.invokevirtual 95, 3) := by decide +kernel
theorem jd_L_law_524 : decode jc_L_law 524 = .ok (.istore 6, 2) := by decide +kernel
theorem jd_L_law_526 : decode jc_L_law 526 = .ok (.goto 346, 3) := by decide +kernel
theorem jd_L_law_529 : decode jc_L_law 529 = .ok (.aload_n 1, 1) := by decide +kernel
theorem jd_L_law_530 : decode jc_L_law 530 = .ok (.aload_n 0, 1) := by decide +kernel
theorem jd_L_law_531 : decode jc_L_law 531 = .ok (.iload 4, 2) := by decide +kernel
theorem jd_L_law_533 : decode jc_L_law 533 = .ok (.iconst 1, 1) := by decide +kernel
theorem jd_L_law_534 : decode jc_L_law 534 = .ok (.iadd, 1) := by decide +kernel
theorem jd_L_law_535 : decode jc_L_law 535 = .ok (.iaload, 1) := by decide +kernel
theorem jd_L_law_536 : decode jc_L_law 536 = .ok (.aload_n 0, 1) := by decide +kernel
theorem jd_L_law_537 : decode jc_L_law 537 = .ok (.iload 4, 2) := by decide +kernel
theorem jd_L_law_539 : decode jc_L_law 539 = .ok (.iconst 2, 1) := by decide +kernel
theorem jd_L_law_540 : decode jc_L_law 540 = .ok (.iadd, 1) := by decide +kernel
theorem jd_L_law_541 : decode jc_L_law 541 = .ok (.iaload, 1) := by decide +kernel
theorem jd_L_law_542 : decode jc_L_law 542 = .ok (.aload_n 0, 1) := by decide +kernel
theorem jd_L_law_543 : decode jc_L_law 543 = .ok (.iload 4, 2) := by decide +kernel
theorem jd_L_law_545 : decode jc_L_law 545 = .ok (.iconst 3, 1) := by decide +kernel
theorem jd_L_law_546 : decode jc_L_law 546 = .ok (.iadd, 1) := by decide +kernel
theorem jd_L_law_547 : decode jc_L_law 547 = .ok (.iaload, 1) := by decide +kernel
theorem jd_L_law_548 : decode jc_L_law 548 = .ok (.aload_n 0, 1) := by decide +kernel
theorem jd_L_law_549 : decode jc_L_law 549 = .ok (.iload 4, 2) := by decide +kernel
theorem jd_L_law_551 : decode jc_L_law 551 = .ok (.iconst 4, 1) := by decide +kernel
theorem jd_L_law_552 : decode jc_L_law 552 = .ok (.iadd, 1) := by decide +kernel
theorem jd_L_law_553 : decode jc_L_law 553 = .ok (.iaload, 1) := by decide +kernel
theorem jd_L_law_554 : decode jc_L_law 554 = .ok (.aload_n 0, 1) := by decide +kernel
theorem jd_L_law_555 : decode jc_L_law 555 = .ok (.iload 4, 2) := by decide +kernel
theorem jd_L_law_557 : decode jc_L_law 557 = .ok (.iconst 5, 1) := by decide +kernel
theorem jd_L_law_558 : decode jc_L_law 558 = .ok (.iadd, 1) := by decide +kernel
theorem jd_L_law_559 : decode jc_L_law 559 = .ok (.iaload, 1) := by decide +kernel
theorem jd_L_law_560 : decode jc_L_law 560 = .ok (.aload_n 0, 1) := by decide +kernel
theorem jd_L_law_561 : decode jc_L_law 561 = .ok (.iload 4, 2) := by decide +kernel
theorem jd_L_law_563 : decode jc_L_law 563 = .ok (.bipush 6, 2) := by decide +kernel
theorem jd_L_law_565 : decode jc_L_law 565 = .ok (.iadd, 1) := by decide +kernel
theorem jd_L_law_566 : decode jc_L_law 566 = .ok (.iaload, 1) := by decide +kernel
theorem jd_L_law_567 : decode jc_L_law 567 = .ok (.aload_n 0, 1) := by decide +kernel
theorem jd_L_law_568 : decode jc_L_law 568 = .ok (.iload 4, 2) := by decide +kernel
theorem jd_L_law_570 : decode jc_L_law 570 = .ok (.bipush 7, 2) := by decide +kernel
theorem jd_L_law_572 : decode jc_L_law 572 = .ok (.iadd, 1) := by decide +kernel
theorem jd_L_law_573 : decode jc_L_law 573 = .ok (.iaload, 1) := by decide +kernel
theorem jd_L_law_574 : decode jc_L_law 574 = .ok (.aload_n 3, 1) := by decide +kernel
theorem jd_L_law_575 : decode jc_L_law 575 = .ok (.invokestatic 96, 3) := by decide +kernel
theorem jd_L_law_578 : decode jc_L_law 578 = .ok (.istore 5, 2) := by decide +kernel
theorem jd_L_law_580 : decode jc_L_law 580 = .ok (.aload_n 2, 1) := by decide +kernel
theorem jd_L_law_581 : decode jc_L_law 581 = .ok (.aload_n 0, 1) := by decide +kernel
theorem jd_L_law_582 : decode jc_L_law 582 = .ok (.iload 4, 2) := by decide +kernel
theorem jd_L_law_584 : decode jc_L_law 584 = .ok (.iconst 1, 1) := by decide +kernel
theorem jd_L_law_585 : decode jc_L_law 585 = .ok (.iadd, 1) := by decide +kernel
theorem jd_L_law_586 : decode jc_L_law 586 = .ok (.iaload, 1) := by decide +kernel
theorem jd_L_law_587 : decode jc_L_law 587 = .ok (.aload_n 0, 1) := by decide +kernel
theorem jd_L_law_588 : decode jc_L_law 588 = .ok (.iload 4, 2) := by decide +kernel
theorem jd_L_law_590 : decode jc_L_law 590 = .ok (.iconst 2, 1) := by decide +kernel
theorem jd_L_law_591 : decode jc_L_law 591 = .ok (.iadd, 1) := by decide +kernel
theorem jd_L_law_592 : decode jc_L_law 592 = .ok (.iaload, 1) := by decide +kernel
theorem jd_L_law_593 : decode jc_L_law 593 = .ok (.aload_n 0, 1) := by decide +kernel
theorem jd_L_law_594 : decode jc_L_law 594 = .ok (.iload 4, 2) := by decide +kernel
theorem jd_L_law_596 : decode jc_L_law 596 = .ok (.iconst 3, 1) := by decide +kernel
theorem jd_L_law_597 : decode jc_L_law 597 = .ok (.iadd, 1) := by decide +kernel
theorem jd_L_law_598 : decode jc_L_law 598 = .ok (.iaload, 1) := by decide +kernel
theorem jd_L_law_599 : decode jc_L_law 599 = .ok (.aload_n 0, 1) := by decide +kernel
theorem jd_L_law_600 : decode jc_L_law 600 = .ok (.iload 4, 2) := by decide +kernel
theorem jd_L_law_602 : decode jc_L_law 602 = .ok (.iconst 4, 1) := by decide +kernel
theorem jd_L_law_603 : decode jc_L_law 603 = .ok (.iadd, 1) := by decide +kernel
theorem jd_L_law_604 : decode jc_L_law 604 = .ok (.iaload, 1) := by decide +kernel
theorem jd_L_law_605 : decode jc_L_law 605 = .ok (.aload_n 0, 1) := by decide +kernel
theorem jd_L_law_606 : decode jc_L_law 606 = .ok (.iload 4, 2) := by decide +kernel
theorem jd_L_law_608 : decode jc_L_law 608 = .ok (.iconst 5, 1) := by decide +kernel
theorem jd_L_law_609 : decode jc_L_law 609 = .ok (.iadd, 1) := by decide +kernel
theorem jd_L_law_610 : decode jc_L_law 610 = .ok (.iaload, 1) := by decide +kernel
theorem jd_L_law_611 : decode jc_L_law 611 = .ok (.aload_n 0, 1) := by decide +kernel
theorem jd_L_law_612 : decode jc_L_law 612 = .ok (.iload 4, 2) := by decide +kernel
theorem jd_L_law_614 : decode jc_L_law 614 = .ok (.bipush 6, 2) := by decide +kernel
theorem jd_L_law_616 : decode jc_L_law 616 = .ok (.iadd, 1) := by decide +kernel
theorem jd_L_law_617 : decode jc_L_law 617 = .ok (.iaload, 1) := by decide +kernel
theorem jd_L_law_618 : decode jc_L_law 618 = .ok (.aload_n 0, 1) := by decide +kernel
theorem jd_L_law_619 : decode jc_L_law 619 = .ok (.iload 4, 2) := by decide +kernel
theorem jd_L_law_621 : decode jc_L_law 621 = .ok (.bipush 7, 2) := by decide +kernel
theorem jd_L_law_623 : decode jc_L_law 623 = .ok (.iadd, 1) := by decide +kernel
theorem jd_L_law_624 : decode jc_L_law 624 = .ok (.iaload, 1) := by decide +kernel
theorem jd_L_law_625 : decode jc_L_law 625 = .ok (.invokevirtual 99, 3) := by decide +kernel
theorem jd_L_law_628 : decode jc_L_law 628 = .ok (.istore 6, 2) := by decide +kernel
theorem jd_L_law_630 : decode jc_L_law 630 = .ok (.goto 242, 3) := by decide +kernel
theorem jd_L_law_633 : decode jc_L_law 633 = .ok (.aload_n 1, 1) := by decide +kernel
theorem jd_L_law_634 : decode jc_L_law 634 = .ok (.aload_n 0, 1) := by decide +kernel
theorem jd_L_law_635 : decode jc_L_law 635 = .ok (.iload 4, 2) := by decide +kernel
theorem jd_L_law_637 : decode jc_L_law 637 = .ok (.iconst 1, 1) := by decide +kernel
theorem jd_L_law_638 : decode jc_L_law 638 = .ok (.iadd, 1) := by decide +kernel
theorem jd_L_law_639 : decode jc_L_law 639 = .ok (.iaload, 1) := by decide +kernel
theorem jd_L_law_640 : decode jc_L_law 640 = .ok (.aload_n 0, 1) := by decide +kernel
theorem jd_L_law_641 : decode jc_L_law 641 = .ok (.iload 4, 2) := by decide +kernel
theorem jd_L_law_643 : decode jc_L_law 643 = .ok (.iconst 2, 1) := by decide +kernel
theorem jd_L_law_644 : decode jc_L_law 644 = .ok (.iadd, 1) := by decide +kernel
theorem jd_L_law_645 : decode jc_L_law 645 = .ok (.iaload, 1) := by decide +kernel
theorem jd_L_law_646 : decode jc_L_law 646 = .ok (.aload_n 0, 1) := by decide +kernel
theorem jd_L_law_647 : decode jc_L_law 647 = .ok (.iload 4, 2) := by decide +kernel
theorem jd_L_law_649 : decode jc_L_law 649 = .ok (.iconst 3, 1) := by decide +kernel
theorem jd_L_law_650 : decode jc_L_law 650 = .ok (.iadd, 1) := by decide +kernel
theorem jd_L_law_651 : decode jc_L_law 651 = .ok (.iaload, 1) := by decide +kernel
theorem jd_L_law_652 : decode jc_L_law 652 = .ok (.aload_n 0, 1) := by decide +kernel
theorem jd_L_law_653 : decode jc_L_law 653 = .ok (.iload 4, 2) := by decide +kernel
theorem jd_L_law_655 : decode jc_L_law 655 = .ok (.iconst 4, 1) := by decide +kernel
theorem jd_L_law_656 : decode jc_L_law 656 = .ok (.iadd, 1) := by decide +kernel
theorem jd_L_law_657 : decode jc_L_law 657 = .ok (.iaload, 1) := by decide +kernel
theorem jd_L_law_658 : decode jc_L_law 658 = .ok (.aload_n 0, 1) := by decide +kernel
theorem jd_L_law_659 : decode jc_L_law 659 = .ok (.iload 4, 2) := by decide +kernel
theorem jd_L_law_661 : decode jc_L_law 661 = .ok (.iconst 5, 1) := by decide +kernel
theorem jd_L_law_662 : decode jc_L_law 662 = .ok (.iadd, 1) := by decide +kernel
theorem jd_L_law_663 : decode jc_L_law 663 = .ok (.iaload, 1) := by decide +kernel
theorem jd_L_law_664 : decode jc_L_law 664 = .ok (.aload_n 0, 1) := by decide +kernel
theorem jd_L_law_665 : decode jc_L_law 665 = .ok (.iload 4, 2) := by decide +kernel
theorem jd_L_law_667 : decode jc_L_law 667 = .ok (.bipush 6, 2) := by decide +kernel
theorem jd_L_law_669 : decode jc_L_law 669 = .ok (.iadd, 1) := by decide +kernel
theorem jd_L_law_670 : decode jc_L_law 670 = .ok (.iaload, 1) := by decide +kernel
theorem jd_L_law_671 : decode jc_L_law 671 = .ok (.aload_n 3, 1) := by decide +kernel
theorem jd_L_law_672 : decode jc_L_law 672 = .ok (.invokestatic 100, 3) := by decide +kernel
theorem jd_L_law_675 : decode jc_L_law 675 = .ok (.istore 5, 2) := by decide +kernel
theorem jd_L_law_677 : decode jc_L_law 677 = .ok (.aload_n 2, 1) := by decide +kernel
theorem jd_L_law_678 : decode jc_L_law 678 = .ok (.aload_n 0, 1) := by decide +kernel
theorem jd_L_law_679 : decode jc_L_law 679 = .ok (.iload 4, 2) := by decide +kernel
theorem jd_L_law_681 : decode jc_L_law 681 = .ok (.iconst 1, 1) := by decide +kernel
theorem jd_L_law_682 : decode jc_L_law 682 = .ok (.iadd, 1) := by decide +kernel
theorem jd_L_law_683 : decode jc_L_law 683 = .ok (.iaload, 1) := by decide +kernel
theorem jd_L_law_684 : decode jc_L_law 684 = .ok (.aload_n 0, 1) := by decide +kernel
theorem jd_L_law_685 : decode jc_L_law 685 = .ok (.iload 4, 2) := by decide +kernel
theorem jd_L_law_687 : decode jc_L_law 687 = .ok (.iconst 2, 1) := by decide +kernel
theorem jd_L_law_688 : decode jc_L_law 688 = .ok (.iadd, 1) := by decide +kernel
theorem jd_L_law_689 : decode jc_L_law 689 = .ok (.iaload, 1) := by decide +kernel
theorem jd_L_law_690 : decode jc_L_law 690 = .ok (.aload_n 0, 1) := by decide +kernel
theorem jd_L_law_691 : decode jc_L_law 691 = .ok (.iload 4, 2) := by decide +kernel
theorem jd_L_law_693 : decode jc_L_law 693 = .ok (.iconst 3, 1) := by decide +kernel
theorem jd_L_law_694 : decode jc_L_law 694 = .ok (.iadd, 1) := by decide +kernel
theorem jd_L_law_695 : decode jc_L_law 695 = .ok (.iaload, 1) := by decide +kernel
theorem jd_L_law_696 : decode jc_L_law 696 = .ok (.aload_n 0, 1) := by decide +kernel
theorem jd_L_law_697 : decode jc_L_law 697 = .ok (.iload 4, 2) := by decide +kernel
theorem jd_L_law_699 : decode jc_L_law 699 = .ok (.iconst 4, 1) := by decide +kernel
theorem jd_L_law_700 : decode jc_L_law 700 = .ok (.iadd, 1) := by decide +kernel
theorem jd_L_law_701 : decode jc_L_law 701 = .ok (.iaload, 1) := by decide +kernel
theorem jd_L_law_702 : decode jc_L_law 702 = .ok (.aload_n 0, 1) := by decide +kernel
theorem jd_L_law_703 : decode jc_L_law 703 = .ok (.iload 4, 2) := by decide +kernel
theorem jd_L_law_705 : decode jc_L_law 705 = .ok (.iconst 5, 1) := by decide +kernel
theorem jd_L_law_706 : decode jc_L_law 706 = .ok (.iadd, 1) := by decide +kernel
theorem jd_L_law_707 : decode jc_L_law 707 = .ok (.iaload, 1) := by decide +kernel
theorem jd_L_law_708 : decode jc_L_law 708 = .ok (.aload_n 0, 1) := by decide +kernel
theorem jd_L_law_709 : decode jc_L_law 709 = .ok (.iload 4, 2) := by decide +kernel
theorem jd_L_law_711 : decode jc_L_law 711 = .ok (.bipush 6, 2) := by decide +kernel
theorem jd_L_law_713 : decode jc_L_law 713 = .ok (.iadd, 1) := by decide +kernel
theorem jd_L_law_714 : decode jc_L_law 714 = .ok (.iaload, 1) := by decide +kernel
theorem jd_L_law_715 : decode jc_L_law 715 = .ok (.invokevirtual 102, 3) := by decide +kernel
theorem jd_L_law_718 : decode jc_L_law 718 = .ok (.istore 6, 2) := by decide +kernel
theorem jd_L_law_720 : decode jc_L_law 720 = .ok (.goto 152, 3) := by decide +kernel
theorem jd_L_law_723 : decode jc_L_law 723 = .ok (.aload_n 1, 1) := by decide +kernel
theorem jd_L_law_724 : decode jc_L_law 724 = .ok (.aload_n 0, 1) := by decide +kernel
theorem jd_L_law_725 : decode jc_L_law 725 = .ok (.iload 4, 2) := by decide +kernel
theorem jd_L_law_727 : decode jc_L_law 727 = .ok (.iconst 1, 1) := by decide +kernel
theorem jd_L_law_728 : decode jc_L_law 728 = .ok (.iadd, 1) := by decide +kernel
theorem jd_L_law_729 : decode jc_L_law 729 = .ok (.iaload, 1) := by decide +kernel
theorem jd_L_law_730 : decode jc_L_law 730 = .ok (.aload_n 3, 1) := by decide +kernel
theorem jd_L_law_731 : decode jc_L_law 731 = .ok (.invokestatic 103, 3) := by decide +kernel
theorem jd_L_law_734 : decode jc_L_law 734 = .ok (.istore 5, 2) := by decide +kernel
theorem jd_L_law_736 : decode jc_L_law 736 = .ok (.aload_n 2, 1) := by decide +kernel
theorem jd_L_law_737 : decode jc_L_law 737 = .ok (.aload_n 0, 1) := by decide +kernel
theorem jd_L_law_738 : decode jc_L_law 738 = .ok (.iload 4, 2) := by decide +kernel
theorem jd_L_law_740 : decode jc_L_law 740 = .ok (.iconst 1, 1) := by decide +kernel
theorem jd_L_law_741 : decode jc_L_law 741 = .ok (.iadd, 1) := by decide +kernel
theorem jd_L_law_742 : decode jc_L_law 742 = .ok (.iaload, 1) := by decide +kernel
theorem jd_L_law_743 : decode jc_L_law 743 = .ok (.invokevirtual 105, 3) := by decide +kernel
theorem jd_L_law_746 : decode jc_L_law 746 = .ok (.istore 6, 2) := by decide +kernel
theorem jd_L_law_748 : decode jc_L_law 748 = .ok (.goto 124, 3) := by decide +kernel
theorem jd_L_law_751 : decode jc_L_law 751 = .ok (.aload_n 1, 1) := by decide +kernel
theorem jd_L_law_752 : decode jc_L_law 752 = .ok (.aload_n 0, 1) := by decide +kernel
theorem jd_L_law_753 : decode jc_L_law 753 = .ok (.iload 4, 2) := by decide +kernel
theorem jd_L_law_755 : decode jc_L_law 755 = .ok (.iconst 1, 1) := by decide +kernel
theorem jd_L_law_756 : decode jc_L_law 756 = .ok (.iadd, 1) := by decide +kernel
theorem jd_L_law_757 : decode jc_L_law 757 = .ok (.iaload, 1) := by decide +kernel
theorem jd_L_law_758 : decode jc_L_law 758 = .ok (.aload_n 0, 1) := by decide +kernel
theorem jd_L_law_759 : decode jc_L_law 759 = .ok (.iload 4, 2) := by decide +kernel
theorem jd_L_law_761 : decode jc_L_law 761 = .ok (.iconst 2, 1) := by decide +kernel
theorem jd_L_law_762 : decode jc_L_law 762 = .ok (.iadd, 1) := by decide +kernel
theorem jd_L_law_763 : decode jc_L_law 763 = .ok (.iaload, 1) := by decide +kernel
theorem jd_L_law_764 : decode jc_L_law 764 = .ok (.aload_n 3, 1) := by decide +kernel
theorem jd_L_law_765 : decode jc_L_law 765 = .ok (.invokestatic 106, 3) := by decide +kernel
theorem jd_L_law_768 : decode jc_L_law 768 = .ok (.istore 5, 2) := by decide +kernel
theorem jd_L_law_770 : decode jc_L_law 770 = .ok (.aload_n 2, 1) := by decide +kernel
theorem jd_L_law_771 : decode jc_L_law 771 = .ok (.aload_n 0, 1) := by decide +kernel
theorem jd_L_law_772 : decode jc_L_law 772 = .ok (.iload 4, 2) := by decide +kernel
theorem jd_L_law_774 : decode jc_L_law 774 = .ok (.iconst 1, 1) := by decide +kernel
theorem jd_L_law_775 : decode jc_L_law 775 = .ok (.iadd, 1) := by decide +kernel
theorem jd_L_law_776 : decode jc_L_law 776 = .ok (.iaload, 1) := by decide +kernel
theorem jd_L_law_777 : decode jc_L_law 777 = .ok (.aload_n 0, 1) := by decide +kernel
theorem jd_L_law_778 : decode jc_L_law 778 = .ok (.iload 4, 2) := by decide +kernel
theorem jd_L_law_780 : decode jc_L_law 780 = .ok (.iconst 2, 1) := by decide +kernel
theorem jd_L_law_781 : decode jc_L_law 781 = .ok (.iadd, 1) := by decide +kernel
theorem jd_L_law_782 : decode jc_L_law 782 = .ok (.iaload, 1) := by decide +kernel
theorem jd_L_law_783 : decode jc_L_law 783 = .ok (.invokevirtual 108, 3) := by decide +kernel
theorem jd_L_law_786 : decode jc_L_law 786 = .ok (.istore 6, 2) := by decide +kernel
theorem jd_L_law_788 : decode jc_L_law 788 = .ok (.goto 84, 3) := by decide +kernel
theorem jd_L_law_791 : decode jc_L_law 791 = .ok (.aload_n 1, 1) := by decide +kernel
theorem jd_L_law_792 : decode jc_L_law 792 = .ok (.aload_n 0, 1) := by decide +kernel
theorem jd_L_law_793 : decode jc_L_law 793 = .ok (.iload 4, 2) := by decide +kernel
theorem jd_L_law_795 : decode jc_L_law 795 = .ok (.iconst 1, 1) := by decide +kernel
theorem jd_L_law_796 : decode jc_L_law 796 = .ok (.iadd, 1) := by decide +kernel
theorem jd_L_law_797 : decode jc_L_law 797 = .ok (.iaload, 1) := by decide +kernel
theorem jd_L_law_798 : decode jc_L_law 798 = .ok (.aload_n 0, 1) := by decide +kernel
theorem jd_L_law_799 : decode jc_L_law 799 = .ok (.iload 4, 2) := by decide +kernel
theorem jd_L_law_801 : decode jc_L_law 801 = .ok (.iconst 2, 1) := by decide +kernel
theorem jd_L_law_802 : decode jc_L_law 802 = .ok (.iadd, 1) := by decide +kernel
theorem jd_L_law_803 : decode jc_L_law 803 = .ok (.iaload, 1) := by decide +kernel
theorem jd_L_law_804 : decode jc_L_law 804 = .ok (.ifCond .eq 7, 3) := by decide +kernel
theorem jd_L_law_807 : decode jc_L_law 807 = .ok (.iconst 1, 1) := by decide +kernel
theorem jd_L_law_808 : decode jc_L_law 808 = .ok (.goto 4, 3) := by decide +kernel
theorem jd_L_law_811 : decode jc_L_law 811 = .ok (.iconst 0, 1) := by decide +kernel
theorem jd_L_law_812 : decode jc_L_law 812 = .ok (.aload_n 3, 1) := by decide +kernel
theorem jd_L_law_813 : decode jc_L_law 813 = .ok (.invokestatic 109, 3) := by decide +kernel
theorem jd_L_law_816 : decode jc_L_law 816 = .ok (.istore 5, 2) := by decide +kernel
theorem jd_L_law_818 : decode jc_L_law 818 = .ok (.aload_n 2, 1) := by decide +kernel
theorem jd_L_law_819 : decode jc_L_law 819 = .ok (.aload_n 0, 1) := by decide +kernel
theorem jd_L_law_820 : decode jc_L_law 820 = .ok (.iload 4, 2) := by decide +kernel
theorem jd_L_law_822 : decode jc_L_law 822 = .ok (.iconst 1, 1) := by decide +kernel
theorem jd_L_law_823 : decode jc_L_law 823 = .ok (.iadd, 1) := by decide +kernel
theorem jd_L_law_824 : decode jc_L_law 824 = .ok (.iaload, 1) := by decide +kernel
theorem jd_L_law_825 : decode jc_L_law 825 = .ok (.aload_n 0, 1) := by decide +kernel
theorem jd_L_law_826 : decode jc_L_law 826 = .ok (.iload 4, 2) := by decide +kernel
theorem jd_L_law_828 : decode jc_L_law 828 = .ok (.iconst 2, 1) := by decide +kernel
theorem jd_L_law_829 : decode jc_L_law 829 = .ok (.iadd, 1) := by decide +kernel
theorem jd_L_law_830 : decode jc_L_law 830 = .ok (.iaload, 1) := by decide +kernel
theorem jd_L_law_831 : decode jc_L_law 831 = .ok (.ifCond .eq 7, 3) := by decide +kernel
theorem jd_L_law_834 : decode jc_L_law 834 = .ok (.iconst 1, 1) := by decide +kernel
theorem jd_L_law_835 : decode jc_L_law 835 = .ok (.goto 4, 3) := by decide +kernel
theorem jd_L_law_838 : decode jc_L_law 838 = .ok (.iconst 0, 1) := by decide +kernel
theorem jd_L_law_839 : decode jc_L_law 839 = .ok (.invokevirtual 112, 3) := by decide +kernel
theorem jd_L_law_842 : decode jc_L_law 842 = .ok (.lstore 6, 2) := by decide +kernel
theorem jd_L_law_844 : decode jc_L_law 844 = .ok (.goto 28, 3) := by decide +kernel
theorem jd_L_law_847 : decode jc_L_law 847 = .ok (.aload_n 1, 1) := by decide +kernel
theorem jd_L_law_848 : decode jc_L_law 848 = .ok (.aload_n 0, 1) := by decide +kernel
theorem jd_L_law_849 : decode jc_L_law 849 = .ok (.iload 4, 2) := by decide +kernel
theorem jd_L_law_851 : decode jc_L_law 851 = .ok (.iconst 1, 1) := by decide +kernel
theorem jd_L_law_852 : decode jc_L_law 852 = .ok (.iadd, 1) := by decide +kernel
theorem jd_L_law_853 : decode jc_L_law 853 = .ok (.iaload, 1) := by decide +kernel
theorem jd_L_law_854 : decode jc_L_law 854 = .ok (.invokevirtual 113, 3) := by decide +kernel
theorem jd_L_law_857 : decode jc_L_law 857 = .ok (.pop, 1) := by decide +kernel
theorem jd_L_law_858 : decode jc_L_law 858 = .ok (.aload_n 2, 1) := by decide +kernel
theorem jd_L_law_859 : decode jc_L_law 859 = .ok (.aload_n 0, 1) := by decide +kernel
theorem jd_L_law_860 : decode jc_L_law 860 = .ok (.iload 4, 2) := by decide +kernel
theorem jd_L_law_862 : decode jc_L_law 862 = .ok (.iconst 1, 1) := by decide +kernel
theorem jd_L_law_863 : decode jc_L_law 863 = .ok (.iadd, 1) := by decide +kernel
theorem jd_L_law_864 : decode jc_L_law 864 = .ok (.iaload, 1) := by decide +kernel
theorem jd_L_law_865 : decode jc_L_law 865 = .ok (.invokevirtual 116, 3) := by decide +kernel
theorem jd_L_law_868 : decode jc_L_law 868 = .ok (.pop, 1) := by decide +kernel
theorem jd_L_law_869 : decode jc_L_law 869 = .ok (.goto 3, 3) := by decide +kernel
theorem jd_L_law_872 : decode jc_L_law 872 = .ok (.iinc 4 8, 3) := by decide +kernel
theorem jd_L_law_875 : decode jc_L_law 875 = .ok (.goto (-852), 3) := by decide +kernel
theorem jd_L_law_878 : decode jc_L_law 878 = .ok (.iconst 1, 1) := by decide +kernel
theorem jd_L_law_879 : decode jc_L_law 879 = .ok (.ireturn, 1) := by decide +kernel
