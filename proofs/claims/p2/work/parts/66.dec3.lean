abbrev jc_S_set : ByteArray := prog_4_method_4_code
abbrev jy_S_set : MethodName := ⟨"MeasuredTensors$Shape", "set", "(IIIII)V"⟩
theorem jd_S_set_0 : decode jc_S_set 0 = .ok (.aload_n 0, 1) := by decide +kernel
theorem jd_S_set_1 : decode jc_S_set 1 = .ok (.getfield 9, 3) := by decide +kernel
theorem jd_S_set_4 : decode jc_S_set 4 = .ok (.iconst 0, 1) := by decide +kernel
theorem jd_S_set_5 : decode jc_S_set 5 = .ok (.iload_n 2, 1) := by decide +kernel
theorem jd_S_set_6 : decode jc_S_set 6 = .ok (.iastore, 1) := by decide +kernel
theorem jd_S_set_7 : decode jc_S_set 7 = .ok (.aload_n 0, 1) := by decide +kernel
theorem jd_S_set_8 : decode jc_S_set 8 = .ok (.getfield 9, 3) := by decide +kernel
theorem jd_S_set_11 : decode jc_S_set 11 = .ok (.iconst 1, 1) := by decide +kernel
theorem jd_S_set_12 : decode jc_S_set 12 = .ok (.iload_n 3, 1) := by decide +kernel
theorem jd_S_set_13 : decode jc_S_set 13 = .ok (.iastore, 1) := by decide +kernel
theorem jd_S_set_14 : decode jc_S_set 14 = .ok (.aload_n 0, 1) := by decide +kernel
theorem jd_S_set_15 : decode jc_S_set 15 = .ok (.getfield 9, 3) := by decide +kernel
theorem jd_S_set_18 : decode jc_S_set 18 = .ok (.iconst 2, 1) := by decide +kernel
theorem jd_S_set_19 : decode jc_S_set 19 = .ok (.iload 4, 2) := by decide +kernel
theorem jd_S_set_21 : decode jc_S_set 21 = .ok (.iastore, 1) := by decide +kernel
theorem jd_S_set_22 : decode jc_S_set 22 = .ok (.aload_n 0, 1) := by decide +kernel
theorem jd_S_set_23 : decode jc_S_set 23 = .ok (.getfield 9, 3) := by decide +kernel
theorem jd_S_set_26 : decode jc_S_set 26 = .ok (.iconst 3, 1) := by decide +kernel
theorem jd_S_set_27 : decode jc_S_set 27 = .ok (.iload 5, 2) := by decide +kernel
theorem jd_S_set_29 : decode jc_S_set 29 = .ok (.iastore, 1) := by decide +kernel
theorem jd_S_set_30 : decode jc_S_set 30 = .ok (.aload_n 0, 1) := by decide +kernel
theorem jd_S_set_31 : decode jc_S_set 31 = .ok (.iload_n 1, 1) := by decide +kernel
theorem jd_S_set_32 : decode jc_S_set 32 = .ok (.putfield 15, 3) := by decide +kernel
theorem jd_S_set_35 : decode jc_S_set 35 = .ok (.return_, 1) := by decide +kernel
abbrev jc_S_setFirst : ByteArray := prog_4_method_5_code
abbrev jy_S_setFirst : MethodName := ⟨"MeasuredTensors$Shape", "setFirst", "(I)V"⟩
theorem jd_S_setFirst_0 : decode jc_S_setFirst 0 = .ok (.aload_n 0, 1) := by decide +kernel
theorem jd_S_setFirst_1 : decode jc_S_setFirst 1 = .ok (.getfield 9, 3) := by decide +kernel
theorem jd_S_setFirst_4 : decode jc_S_setFirst 4 = .ok (.iconst 0, 1) := by decide +kernel
theorem jd_S_setFirst_5 : decode jc_S_setFirst 5 = .ok (.iload_n 1, 1) := by decide +kernel
theorem jd_S_setFirst_6 : decode jc_S_setFirst 6 = .ok (.iastore, 1) := by decide +kernel
theorem jd_S_setFirst_7 : decode jc_S_setFirst 7 = .ok (.return_, 1) := by decide +kernel
abbrev jc_S_copy : ByteArray := prog_4_method_6_code
abbrev jy_S_copy : MethodName := ⟨"MeasuredTensors$Shape", "copy", "(LMeasuredTensors$Shape;)V"⟩
theorem jd_S_copy_0 : decode jc_S_copy 0 = .ok (.aload_n 0, 1) := by decide +kernel
theorem jd_S_copy_1 : decode jc_S_copy 1 = .ok (.aload_n 1, 1) := by decide +kernel
theorem jd_S_copy_2 : decode jc_S_copy 2 = .ok (.getfield 15, 3) := by decide +kernel
theorem jd_S_copy_5 : decode jc_S_copy 5 = .ok (.aload_n 1, 1) := by decide +kernel
theorem jd_S_copy_6 : decode jc_S_copy 6 = .ok (.iconst 0, 1) := by decide +kernel
theorem jd_S_copy_7 : decode jc_S_copy 7 = .ok (.invokevirtual 19, 3) := by decide +kernel
theorem jd_S_copy_10 : decode jc_S_copy 10 = .ok (.aload_n 1, 1) := by decide +kernel
theorem jd_S_copy_11 : decode jc_S_copy 11 = .ok (.iconst 1, 1) := by decide +kernel
theorem jd_S_copy_12 : decode jc_S_copy 12 = .ok (.invokevirtual 19, 3) := by decide +kernel
theorem jd_S_copy_15 : decode jc_S_copy 15 = .ok (.aload_n 1, 1) := by decide +kernel
theorem jd_S_copy_16 : decode jc_S_copy 16 = .ok (.iconst 2, 1) := by decide +kernel
theorem jd_S_copy_17 : decode jc_S_copy 17 = .ok (.invokevirtual 19, 3) := by decide +kernel
theorem jd_S_copy_20 : decode jc_S_copy 20 = .ok (.aload_n 1, 1) := by decide +kernel
theorem jd_S_copy_21 : decode jc_S_copy 21 = .ok (.iconst 3, 1) := by decide +kernel
theorem jd_S_copy_22 : decode jc_S_copy 22 = .ok (.invokevirtual 19, 3) := by decide +kernel
theorem jd_S_copy_25 : decode jc_S_copy 25 = .ok (.invokevirtual 23, 3) := by decide +kernel
theorem jd_S_copy_28 : decode jc_S_copy 28 = .ok (.return_, 1) := by decide +kernel
abbrev jc_S_remove : ByteArray := prog_4_method_7_code
abbrev jy_S_remove : MethodName := ⟨"MeasuredTensors$Shape", "remove", "(I)Z"⟩
theorem jd_S_remove_0 : decode jc_S_remove 0 = .ok (.iload_n 1, 1) := by decide +kernel
theorem jd_S_remove_1 : decode jc_S_remove 1 = .ok (.ifCond .lt 11, 3) := by decide +kernel
theorem jd_S_remove_4 : decode jc_S_remove 4 = .ok (.iload_n 1, 1) := by decide +kernel
theorem jd_S_remove_5 : decode jc_S_remove 5 = .ok (.aload_n 0, 1) := by decide +kernel
theorem jd_S_remove_6 : decode jc_S_remove 6 = .ok (.getfield 15, 3) := by decide +kernel
theorem jd_S_remove_9 : decode jc_S_remove 9 = .ok (.if_icmp .lt 5, 3) := by decide +kernel
theorem jd_S_remove_12 : decode jc_S_remove 12 = .ok (.iconst 0, 1) := by decide +kernel
theorem jd_S_remove_13 : decode jc_S_remove 13 = .ok (.ireturn, 1) := by decide +kernel
theorem jd_S_remove_14 : decode jc_S_remove 14 = .ok (.iload_n 1, 1) := by decide +kernel
theorem jd_S_remove_15 : decode jc_S_remove 15 = .ok (.istore_n 2, 1) := by decide +kernel
theorem jd_S_remove_16 : decode jc_S_remove 16 = .ok (.iload_n 2, 1) := by decide +kernel
theorem jd_S_remove_17 : decode jc_S_remove 17 = .ok (.iconst 1, 1) := by decide +kernel
theorem jd_S_remove_18 : decode jc_S_remove 18 = .ok (.iadd, 1) := by decide +kernel
theorem jd_S_remove_19 : decode jc_S_remove 19 = .ok (.aload_n 0, 1) := by decide +kernel
theorem jd_S_remove_20 : decode jc_S_remove 20 = .ok (.getfield 15, 3) := by decide +kernel
theorem jd_S_remove_23 : decode jc_S_remove 23 = .ok (.if_icmp .ge 34, 3) := by decide +kernel
theorem jd_S_remove_26 : decode jc_S_remove 26 = .ok (.iload_n 2, 1) := by decide +kernel
theorem jd_S_remove_27 : decode jc_S_remove 27 = .ok (.iconst 1, 1) := by decide +kernel
theorem jd_S_remove_28 : decode jc_S_remove 28 = .ok (.iadd, 1) := by decide +kernel
theorem jd_S_remove_29 : decode jc_S_remove 29 = .ok (.aload_n 0, 1) := by decide +kernel
theorem jd_S_remove_30 : decode jc_S_remove 30 = .ok (.getfield 9, 3) := by decide +kernel
theorem jd_S_remove_33 : decode jc_S_remove 33 = .ok (.arraylength, 1) := by decide +kernel
theorem jd_S_remove_34 : decode jc_S_remove 34 = .ok (.if_icmp .ge 23, 3) := by decide +kernel
theorem jd_S_remove_37 : decode jc_S_remove 37 = .ok (.aload_n 0, 1) := by decide +kernel
theorem jd_S_remove_38 : decode jc_S_remove 38 = .ok (.getfield 9, 3) := by decide +kernel
theorem jd_S_remove_41 : decode jc_S_remove 41 = .ok (.iload_n 2, 1) := by decide +kernel
theorem jd_S_remove_42 : decode jc_S_remove 42 = .ok (.aload_n 0, 1) := by decide +kernel
theorem jd_S_remove_43 : decode jc_S_remove 43 = .ok (.getfield 9, 3) := by decide +kernel
theorem jd_S_remove_46 : decode jc_S_remove 46 = .ok (.iload_n 2, 1) := by decide +kernel
theorem jd_S_remove_47 : decode jc_S_remove 47 = .ok (.iconst 1, 1) := by decide +kernel
theorem jd_S_remove_48 : decode jc_S_remove 48 = .ok (.iadd, 1) := by decide +kernel
theorem jd_S_remove_49 : decode jc_S_remove 49 = .ok (.iaload, 1) := by decide +kernel
theorem jd_S_remove_50 : decode jc_S_remove 50 = .ok (.iastore, 1) := by decide +kernel
theorem jd_S_remove_51 : decode jc_S_remove 51 = .ok (.iinc 2 1, 3) := by decide +kernel
theorem jd_S_remove_54 : decode jc_S_remove 54 = .ok (.goto (-38), 3) := by decide +kernel
theorem jd_S_remove_57 : decode jc_S_remove 57 = .ok (.aload_n 0, 1) := by decide +kernel
theorem jd_S_remove_58 : decode jc_S_remove 58 = .ok (.dup, 1) := by decide +kernel
theorem jd_S_remove_59 : decode jc_S_remove 59 = .ok (.getfield 15, 3) := by decide +kernel
theorem jd_S_remove_62 : decode jc_S_remove 62 = .ok (.iconst 1, 1) := by decide +kernel
theorem jd_S_remove_63 : decode jc_S_remove 63 = .ok (.isub, 1) := by decide +kernel
theorem jd_S_remove_64 : decode jc_S_remove 64 = .ok (.putfield 15, 3) := by decide +kernel
theorem jd_S_remove_67 : decode jc_S_remove 67 = .ok (.iconst 1, 1) := by decide +kernel
theorem jd_S_remove_68 : decode jc_S_remove 68 = .ok (.ireturn, 1) := by decide +kernel
abbrev jc_S_side : ByteArray := prog_4_method_8_code
abbrev jy_S_side : MethodName := ⟨"MeasuredTensors$Shape", "side", "(I)I"⟩
theorem jd_S_side_0 : decode jc_S_side 0 = .ok (.iload_n 1, 1) := by decide +kernel
theorem jd_S_side_1 : decode jc_S_side 1 = .ok (.ifCond .lt 20, 3) := by decide +kernel
theorem jd_S_side_4 : decode jc_S_side 4 = .ok (.iload_n 1, 1) := by decide +kernel
theorem jd_S_side_5 : decode jc_S_side 5 = .ok (.aload_n 0, 1) := by decide +kernel
theorem jd_S_side_6 : decode jc_S_side 6 = .ok (.getfield 15, 3) := by decide +kernel
theorem jd_S_side_9 : decode jc_S_side 9 = .ok (.if_icmp .ge 12, 3) := by decide +kernel
theorem jd_S_side_12 : decode jc_S_side 12 = .ok (.iload_n 1, 1) := by decide +kernel
theorem jd_S_side_13 : decode jc_S_side 13 = .ok (.aload_n 0, 1) := by decide +kernel
theorem jd_S_side_14 : decode jc_S_side 14 = .ok (.getfield 9, 3) := by decide +kernel
theorem jd_S_side_17 : decode jc_S_side 17 = .ok (.arraylength, 1) := by decide +kernel
theorem jd_S_side_18 : decode jc_S_side 18 = .ok (.if_icmp .lt 7, 3) := by decide +kernel
theorem jd_S_side_21 : decode jc_S_side 21 = .ok (.iconst 1, 1) := by decide +kernel
theorem jd_S_side_22 : decode jc_S_side 22 = .ok (.goto 9, 3) := by decide +kernel
theorem jd_S_side_25 : decode jc_S_side 25 = .ok (.aload_n 0, 1) := by decide +kernel
theorem jd_S_side_26 : decode jc_S_side 26 = .ok (.getfield 9, 3) := by decide +kernel
theorem jd_S_side_29 : decode jc_S_side 29 = .ok (.iload_n 1, 1) := by decide +kernel
theorem jd_S_side_30 : decode jc_S_side 30 = .ok (.iaload, 1) := by decide +kernel
theorem jd_S_side_31 : decode jc_S_side 31 = .ok (.ireturn, 1) := by decide +kernel
abbrev jc_S_cells : ByteArray := prog_4_method_9_code
abbrev jy_S_cells : MethodName := ⟨"MeasuredTensors$Shape", "cells", "()I"⟩
theorem jd_S_cells_0 : decode jc_S_cells 0 = .ok (.lconst 1, 1) := by decide +kernel
theorem jd_S_cells_1 : decode jc_S_cells 1 = .ok (.lstore_n 1, 1) := by decide +kernel
theorem jd_S_cells_2 : decode jc_S_cells 2 = .ok (.iconst 0, 1) := by decide +kernel
theorem jd_S_cells_3 : decode jc_S_cells 3 = .ok (.istore_n 3, 1) := by decide +kernel
theorem jd_S_cells_4 : decode jc_S_cells 4 = .ok (.iload_n 3, 1) := by decide +kernel
theorem jd_S_cells_5 : decode jc_S_cells 5 = .ok (.aload_n 0, 1) := by decide +kernel
theorem jd_S_cells_6 : decode jc_S_cells 6 = .ok (.getfield 15, 3) := by decide +kernel
theorem jd_S_cells_9 : decode jc_S_cells 9 = .ok (.if_icmp .ge 26, 3) := by decide +kernel
theorem jd_S_cells_12 : decode jc_S_cells 12 = .ok (.lload_n 1, 1) := by decide +kernel
theorem jd_S_cells_13 : decode jc_S_cells 13 = .ok (.ldc2_w 27, 3) := by decide +kernel
theorem jd_S_cells_16 : decode jc_S_cells 16 = .ok (.lcmp, 1) := by decide +kernel
theorem jd_S_cells_17 : decode jc_S_cells 17 = .ok (.ifCond .gt 18, 3) := by decide +kernel
theorem jd_S_cells_20 : decode jc_S_cells 20 = .ok (.lload_n 1, 1) := by decide +kernel
theorem jd_S_cells_21 : decode jc_S_cells 21 = .ok (.aload_n 0, 1) := by decide +kernel
theorem jd_S_cells_22 : decode jc_S_cells 22 = .ok (.iload_n 3, 1) := by decide +kernel
theorem jd_S_cells_23 : decode jc_S_cells 23 = .ok (.invokevirtual 19, 3) := by decide +kernel
theorem jd_S_cells_26 : decode jc_S_cells 26 = .ok (.i2l, 1) := by decide +kernel
theorem jd_S_cells_27 : decode jc_S_cells 27 = .ok (.lmul, 1) := by decide +kernel
theorem jd_S_cells_28 : decode jc_S_cells 28 = .ok (.lstore_n 1, 1) := by decide +kernel
theorem jd_S_cells_29 : decode jc_S_cells 29 = .ok (.iinc 3 1, 3) := by decide +kernel
theorem jd_S_cells_32 : decode jc_S_cells 32 = .ok (.goto (-28), 3) := by decide +kernel
theorem jd_S_cells_35 : decode jc_S_cells 35 = .ok (.lload_n 1, 1) := by decide +kernel
theorem jd_S_cells_36 : decode jc_S_cells 36 = .ok (.ldc2_w 27, 3) := by decide +kernel
theorem jd_S_cells_39 : decode jc_S_cells 39 = .ok (.lcmp, 1) := by decide +kernel
theorem jd_S_cells_40 : decode jc_S_cells 40 = .ok (.ifCond .le 8, 3) := by decide +kernel
theorem jd_S_cells_43 : decode jc_S_cells 43 = .ok (.ldc 29, 2) := by decide +kernel
theorem jd_S_cells_45 : decode jc_S_cells 45 = .ok (.goto 5, 3) := by decide +kernel
theorem jd_S_cells_48 : decode jc_S_cells 48 = .ok (.lload_n 1, 1) := by decide +kernel
theorem jd_S_cells_49 : decode jc_S_cells 49 = .ok (.l2i, 1) := by decide +kernel
theorem jd_S_cells_50 : decode jc_S_cells 50 = .ok (.ireturn, 1) := by decide +kernel
abbrev jc_S_isTooLarge : ByteArray := prog_4_method_10_code
abbrev jy_S_isTooLarge : MethodName := ⟨"MeasuredTensors$Shape", "isTooLarge", "()Z"⟩
theorem jd_S_isTooLarge_0 : decode jc_S_isTooLarge 0 = .ok (.iconst 0, 1) := by decide +kernel
theorem jd_S_isTooLarge_1 : decode jc_S_isTooLarge 1 = .ok (.istore_n 1, 1) := by decide +kernel
theorem jd_S_isTooLarge_2 : decode jc_S_isTooLarge 2 = .ok (.iload_n 1, 1) := by decide +kernel
theorem jd_S_isTooLarge_3 : decode jc_S_isTooLarge 3 = .ok (.aload_n 0, 1) := by decide +kernel
theorem jd_S_isTooLarge_4 : decode jc_S_isTooLarge 4 = .ok (.getfield 15, 3) := by decide +kernel
theorem jd_S_isTooLarge_7 : decode jc_S_isTooLarge 7 = .ok (.if_icmp .ge 22, 3) := by decide +kernel
theorem jd_S_isTooLarge_10 : decode jc_S_isTooLarge 10 = .ok (.aload_n 0, 1) := by decide +kernel
theorem jd_S_isTooLarge_11 : decode jc_S_isTooLarge 11 = .ok (.iload_n 1, 1) := by decide +kernel
theorem jd_S_isTooLarge_12 : decode jc_S_isTooLarge 12 = .ok (.invokevirtual 19, 3) := by decide +kernel
theorem jd_S_isTooLarge_15 : decode jc_S_isTooLarge 15 = .ok (.sipush 4096, 3) := by decide +kernel
theorem jd_S_isTooLarge_18 : decode jc_S_isTooLarge 18 = .ok (.if_icmp .le 5, 3) := by decide +kernel
theorem jd_S_isTooLarge_21 : decode jc_S_isTooLarge 21 = .ok (.iconst 1, 1) := by decide +kernel
theorem jd_S_isTooLarge_22 : decode jc_S_isTooLarge 22 = .ok (.ireturn, 1) := by decide +kernel
theorem jd_S_isTooLarge_23 : decode jc_S_isTooLarge 23 = .ok (.iinc 1 1, 3) := by decide +kernel
theorem jd_S_isTooLarge_26 : decode jc_S_isTooLarge 26 = .ok (.goto (-24), 3) := by decide +kernel
theorem jd_S_isTooLarge_29 : decode jc_S_isTooLarge 29 = .ok (.aload_n 0, 1) := by decide +kernel
theorem jd_S_isTooLarge_30 : decode jc_S_isTooLarge 30 = .ok (.invokevirtual 30, 3) := by decide +kernel
theorem jd_S_isTooLarge_33 : decode jc_S_isTooLarge 33 = .ok (.ldc 34, 2) := by decide +kernel
theorem jd_S_isTooLarge_35 : decode jc_S_isTooLarge 35 = .ok (.if_icmp .le 7, 3) := by decide +kernel
theorem jd_S_isTooLarge_38 : decode jc_S_isTooLarge 38 = .ok (.iconst 1, 1) := by decide +kernel
theorem jd_S_isTooLarge_39 : decode jc_S_isTooLarge 39 = .ok (.goto 4, 3) := by decide +kernel
theorem jd_S_isTooLarge_42 : decode jc_S_isTooLarge 42 = .ok (.iconst 0, 1) := by decide +kernel
theorem jd_S_isTooLarge_43 : decode jc_S_isTooLarge 43 = .ok (.ireturn, 1) := by decide +kernel
abbrev jc_S_endsWith : ByteArray := prog_4_method_11_code
abbrev jy_S_endsWith : MethodName := ⟨"MeasuredTensors$Shape", "endsWith", "(LMeasuredTensors$Shape;)Z"⟩
theorem jd_S_endsWith_0 : decode jc_S_endsWith 0 = .ok (.aload_n 0, 1) := by decide +kernel
theorem jd_S_endsWith_1 : decode jc_S_endsWith 1 = .ok (.getfield 15, 3) := by decide +kernel
theorem jd_S_endsWith_4 : decode jc_S_endsWith 4 = .ok (.aload_n 1, 1) := by decide +kernel
theorem jd_S_endsWith_5 : decode jc_S_endsWith 5 = .ok (.getfield 15, 3) := by decide +kernel
theorem jd_S_endsWith_8 : decode jc_S_endsWith 8 = .ok (.isub, 1) := by decide +kernel
theorem jd_S_endsWith_9 : decode jc_S_endsWith 9 = .ok (.istore_n 2, 1) := by decide +kernel
theorem jd_S_endsWith_10 : decode jc_S_endsWith 10 = .ok (.iconst 0, 1) := by decide +kernel
theorem jd_S_endsWith_11 : decode jc_S_endsWith 11 = .ok (.istore_n 3, 1) := by decide +kernel
theorem jd_S_endsWith_12 : decode jc_S_endsWith 12 = .ok (.iload_n 3, 1) := by decide +kernel
theorem jd_S_endsWith_13 : decode jc_S_endsWith 13 = .ok (.aload_n 1, 1) := by decide +kernel
theorem jd_S_endsWith_14 : decode jc_S_endsWith 14 = .ok (.getfield 15, 3) := by decide +kernel
theorem jd_S_endsWith_17 : decode jc_S_endsWith 17 = .ok (.if_icmp .ge 30, 3) := by decide +kernel
theorem jd_S_endsWith_20 : decode jc_S_endsWith 20 = .ok (.iload_n 2, 1) := by decide +kernel
theorem jd_S_endsWith_21 : decode jc_S_endsWith 21 = .ok (.ifCond .lt 18, 3) := by decide +kernel
theorem jd_S_endsWith_24 : decode jc_S_endsWith 24 = .ok (.aload_n 0, 1) := by decide +kernel
theorem jd_S_endsWith_25 : decode jc_S_endsWith 25 = .ok (.iload_n 2, 1) := by decide +kernel
theorem jd_S_endsWith_26 : decode jc_S_endsWith 26 = .ok (.iload_n 3, 1) := by decide +kernel
theorem jd_S_endsWith_27 : decode jc_S_endsWith 27 = .ok (.iadd, 1) := by decide +kernel
theorem jd_S_endsWith_28 : decode jc_S_endsWith 28 = .ok (.invokevirtual 19, 3) := by decide +kernel
theorem jd_S_endsWith_31 : decode jc_S_endsWith 31 = .ok (.aload_n 1, 1) := by decide +kernel
theorem jd_S_endsWith_32 : decode jc_S_endsWith 32 = .ok (.iload_n 3, 1) := by decide +kernel
theorem jd_S_endsWith_33 : decode jc_S_endsWith 33 = .ok (.invokevirtual 19, 3) := by decide +kernel
theorem jd_S_endsWith_36 : decode jc_S_endsWith 36 = .ok (.if_icmp .eq 5, 3) := by decide +kernel
theorem jd_S_endsWith_39 : decode jc_S_endsWith 39 = .ok (.iconst 0, 1) := by decide +kernel
theorem jd_S_endsWith_40 : decode jc_S_endsWith 40 = .ok (.ireturn, 1) := by decide +kernel
theorem jd_S_endsWith_41 : decode jc_S_endsWith 41 = .ok (.iinc 3 1, 3) := by decide +kernel
theorem jd_S_endsWith_44 : decode jc_S_endsWith 44 = .ok (.goto (-32), 3) := by decide +kernel
theorem jd_S_endsWith_47 : decode jc_S_endsWith 47 = .ok (.iconst 1, 1) := by decide +kernel
theorem jd_S_endsWith_48 : decode jc_S_endsWith 48 = .ok (.ireturn, 1) := by decide +kernel
abbrev jc_S_equalsBehindFirst : ByteArray := prog_4_method_12_code
abbrev jy_S_equalsBehindFirst : MethodName := ⟨"MeasuredTensors$Shape", "equalsBehindFirst", "(LMeasuredTensors$Shape;)Z"⟩
theorem jd_S_equalsBehindFirst_0 : decode jc_S_equalsBehindFirst 0 = .ok (.aload_n 0, 1) := by decide +kernel
theorem jd_S_equalsBehindFirst_1 : decode jc_S_equalsBehindFirst 1 = .ok (.getfield 15, 3) := by decide +kernel
theorem jd_S_equalsBehindFirst_4 : decode jc_S_equalsBehindFirst 4 = .ok (.aload_n 1, 1) := by decide +kernel
theorem jd_S_equalsBehindFirst_5 : decode jc_S_equalsBehindFirst 5 = .ok (.getfield 15, 3) := by decide +kernel
theorem jd_S_equalsBehindFirst_8 : decode jc_S_equalsBehindFirst 8 = .ok (.if_icmp .ne 46, 3) := by decide +kernel
theorem jd_S_equalsBehindFirst_11 : decode jc_S_equalsBehindFirst 11 = .ok (.aload_n 0, 1) := by decide +kernel
theorem jd_S_equalsBehindFirst_12 : decode jc_S_equalsBehindFirst 12 = .ok (.iconst 1, 1) := by decide +kernel
theorem jd_S_equalsBehindFirst_13 : decode jc_S_equalsBehindFirst 13 = .ok (.invokevirtual 19, 3) := by decide +kernel
theorem jd_S_equalsBehindFirst_16 : decode jc_S_equalsBehindFirst 16 = .ok (.aload_n 1, 1) := by decide +kernel
theorem jd_S_equalsBehindFirst_17 : decode jc_S_equalsBehindFirst 17 = .ok (.iconst 1, 1) := by decide +kernel
theorem jd_S_equalsBehindFirst_18 : decode jc_S_equalsBehindFirst 18 = .ok (.invokevirtual 19, 3) := by decide +kernel
theorem jd_S_equalsBehindFirst_21 : decode jc_S_equalsBehindFirst 21 = .ok (.if_icmp .ne 33, 3) := by decide +kernel
theorem jd_S_equalsBehindFirst_24 : decode jc_S_equalsBehindFirst 24 = .ok (.aload_n 0, 1) := by decide +kernel
theorem jd_S_equalsBehindFirst_25 : decode jc_S_equalsBehindFirst 25 = .ok (.iconst 2, 1) := by decide +kernel
theorem jd_S_equalsBehindFirst_26 : decode jc_S_equalsBehindFirst 26 = .ok (.invokevirtual 19, 3) := by decide +kernel
theorem jd_S_equalsBehindFirst_29 : decode jc_S_equalsBehindFirst 29 = .ok (.aload_n 1, 1) := by decide +kernel
theorem jd_S_equalsBehindFirst_30 : decode jc_S_equalsBehindFirst 30 = .ok (.iconst 2, 1) := by decide +kernel
theorem jd_S_equalsBehindFirst_31 : decode jc_S_equalsBehindFirst 31 = .ok (.invokevirtual 19, 3) := by decide +kernel
theorem jd_S_equalsBehindFirst_34 : decode jc_S_equalsBehindFirst 34 = .ok (.if_icmp .ne 20, 3) := by decide +kernel
theorem jd_S_equalsBehindFirst_37 : decode jc_S_equalsBehindFirst 37 = .ok (.aload_n 0, 1) := by decide +kernel
theorem jd_S_equalsBehindFirst_38 : decode jc_S_equalsBehindFirst 38 = .ok (.iconst 3, 1) := by decide +kernel
theorem jd_S_equalsBehindFirst_39 : decode jc_S_equalsBehindFirst 39 = .ok (.invokevirtual 19, 3) := by decide +kernel
theorem jd_S_equalsBehindFirst_42 : decode jc_S_equalsBehindFirst 42 = .ok (.aload_n 1, 1) := by decide +kernel
theorem jd_S_equalsBehindFirst_43 : decode jc_S_equalsBehindFirst 43 = .ok (.iconst 3, 1) := by decide +kernel
theorem jd_S_equalsBehindFirst_44 : decode jc_S_equalsBehindFirst 44 = .ok (.invokevirtual 19, 3) := by decide +kernel
theorem jd_S_equalsBehindFirst_47 : decode jc_S_equalsBehindFirst 47 = .ok (.if_icmp .ne 7, 3) := by decide +kernel
theorem jd_S_equalsBehindFirst_50 : decode jc_S_equalsBehindFirst 50 = .ok (.iconst 1, 1) := by decide +kernel
theorem jd_S_equalsBehindFirst_51 : decode jc_S_equalsBehindFirst 51 = .ok (.goto 4, 3) := by decide +kernel
theorem jd_S_equalsBehindFirst_54 : decode jc_S_equalsBehindFirst 54 = .ok (.iconst 0, 1) := by decide +kernel
theorem jd_S_equalsBehindFirst_55 : decode jc_S_equalsBehindFirst 55 = .ok (.ireturn, 1) := by decide +kernel
abbrev jc_T_init : ByteArray := prog_5_method_1_code
abbrev jy_T_init : MethodName := ⟨"MeasuredTensors$Tensor", "<init>", "()V"⟩
theorem jd_T_init_0 : decode jc_T_init 0 = .ok (.aload_n 0, 1) := by decide +kernel
theorem jd_T_init_1 : decode jc_T_init 1 = .ok (.invokespecial 3, 3) := by decide +kernel
theorem jd_T_init_4 : decode jc_T_init 4 = .ok (.aload_n 0, 1) := by decide +kernel
theorem jd_T_init_5 : decode jc_T_init 5 = .ok (.new 9, 3) := by decide +kernel
theorem jd_T_init_8 : decode jc_T_init 8 = .ok (.dup, 1) := by decide +kernel
theorem jd_T_init_9 : decode jc_T_init 9 = .ok (.invokespecial 11, 3) := by decide +kernel
theorem jd_T_init_12 : decode jc_T_init 12 = .ok (.putfield 12, 3) := by decide +kernel
theorem jd_T_init_15 : decode jc_T_init 15 = .ok (.aload_n 0, 1) := by decide +kernel
theorem jd_T_init_16 : decode jc_T_init 16 = .ok (.new 18, 3) := by decide +kernel
theorem jd_T_init_19 : decode jc_T_init 19 = .ok (.dup, 1) := by decide +kernel
theorem jd_T_init_20 : decode jc_T_init 20 = .ok (.invokespecial 20, 3) := by decide +kernel
theorem jd_T_init_23 : decode jc_T_init 23 = .ok (.putfield 21, 3) := by decide +kernel
theorem jd_T_init_26 : decode jc_T_init 26 = .ok (.aload_n 0, 1) := by decide +kernel
theorem jd_T_init_27 : decode jc_T_init 27 = .ok (.new 18, 3) := by decide +kernel
theorem jd_T_init_30 : decode jc_T_init 30 = .ok (.dup, 1) := by decide +kernel
theorem jd_T_init_31 : decode jc_T_init 31 = .ok (.invokespecial 20, 3) := by decide +kernel
theorem jd_T_init_34 : decode jc_T_init 34 = .ok (.putfield 25, 3) := by decide +kernel
theorem jd_T_init_37 : decode jc_T_init 37 = .ok (.return_, 1) := by decide +kernel
abbrev jc_T_start : ByteArray := prog_5_method_2_code
abbrev jy_T_start : MethodName := ⟨"MeasuredTensors$Tensor", "start", "(II)V"⟩
theorem jd_T_start_0 : decode jc_T_start 0 = .ok (.aload_n 0, 1) := by decide +kernel
theorem jd_T_start_1 : decode jc_T_start 1 = .ok (.getfield 12, 3) := by decide +kernel
theorem jd_T_start_4 : decode jc_T_start 4 = .ok (.invokevirtual 28, 3) := by decide +kernel
theorem jd_T_start_7 : decode jc_T_start 7 = .ok (.aload_n 0, 1) := by decide +kernel
theorem jd_T_start_8 : decode jc_T_start 8 = .ok (.iconst 0, 1) := by decide +kernel
theorem jd_T_start_9 : decode jc_T_start 9 = .ok (.putfield 31, 3) := by decide +kernel
theorem jd_T_start_12 : decode jc_T_start 12 = .ok (.aload_n 0, 1) := by decide +kernel
theorem jd_T_start_13 : decode jc_T_start 13 = .ok (.iconst 1, 1) := by decide +kernel
theorem jd_T_start_14 : decode jc_T_start 14 = .ok (.putfield 35, 3) := by decide +kernel
theorem jd_T_start_17 : decode jc_T_start 17 = .ok (.aload_n 0, 1) := by decide +kernel
theorem jd_T_start_18 : decode jc_T_start 18 = .ok (.iload_n 1, 1) := by decide +kernel
theorem jd_T_start_19 : decode jc_T_start 19 = .ok (.putfield 39, 3) := by decide +kernel
theorem jd_T_start_22 : decode jc_T_start 22 = .ok (.aload_n 0, 1) := by decide +kernel
theorem jd_T_start_23 : decode jc_T_start 23 = .ok (.iload_n 2, 1) := by decide +kernel
theorem jd_T_start_24 : decode jc_T_start 24 = .ok (.putfield 42, 3) := by decide +kernel
theorem jd_T_start_27 : decode jc_T_start 27 = .ok (.aload_n 0, 1) := by decide +kernel
theorem jd_T_start_28 : decode jc_T_start 28 = .ok (.iconst 1, 1) := by decide +kernel
theorem jd_T_start_29 : decode jc_T_start 29 = .ok (.putfield 45, 3) := by decide +kernel
theorem jd_T_start_32 : decode jc_T_start 32 = .ok (.aload_n 0, 1) := by decide +kernel
theorem jd_T_start_33 : decode jc_T_start 33 = .ok (.iconst 1, 1) := by decide +kernel
theorem jd_T_start_34 : decode jc_T_start 34 = .ok (.putfield 48, 3) := by decide +kernel
theorem jd_T_start_37 : decode jc_T_start 37 = .ok (.aload_n 0, 1) := by decide +kernel
theorem jd_T_start_38 : decode jc_T_start 38 = .ok (.iconst 0, 1) := by decide +kernel
theorem jd_T_start_39 : decode jc_T_start 39 = .ok (.putfield 51, 3) := by decide +kernel
theorem jd_T_start_42 : decode jc_T_start 42 = .ok (.aload_n 0, 1) := by decide +kernel
theorem jd_T_start_43 : decode jc_T_start 43 = .ok (.iconst 1, 1) := by decide +kernel
theorem jd_T_start_44 : decode jc_T_start 44 = .ok (.putfield 54, 3) := by decide +kernel
theorem jd_T_start_47 : decode jc_T_start 47 = .ok (.aload_n 0, 1) := by decide +kernel
theorem jd_T_start_48 : decode jc_T_start 48 = .ok (.iconst 1, 1) := by decide +kernel
theorem jd_T_start_49 : decode jc_T_start 49 = .ok (.putfield 57, 3) := by decide +kernel
theorem jd_T_start_52 : decode jc_T_start 52 = .ok (.aload_n 0, 1) := by decide +kernel
theorem jd_T_start_53 : decode jc_T_start 53 = .ok (.iconst 0, 1) := by decide +kernel
theorem jd_T_start_54 : decode jc_T_start 54 = .ok (.putfield 60, 3) := by decide +kernel
theorem jd_T_start_57 : decode jc_T_start 57 = .ok (.return_, 1) := by decide +kernel
abbrev jc_T_resemble : ByteArray := prog_5_method_3_code
abbrev jy_T_resemble : MethodName := ⟨"MeasuredTensors$Tensor", "resemble", "(LMeasuredTensors$Tensor;)V"⟩
theorem jd_T_resemble_0 : decode jc_T_resemble 0 = .ok (.aload_n 0, 1) := by decide +kernel
theorem jd_T_resemble_1 : decode jc_T_resemble 1 = .ok (.getfield 12, 3) := by decide +kernel
theorem jd_T_resemble_4 : decode jc_T_resemble 4 = .ok (.aload_n 1, 1) := by decide +kernel
theorem jd_T_resemble_5 : decode jc_T_resemble 5 = .ok (.getfield 12, 3) := by decide +kernel
theorem jd_T_resemble_8 : decode jc_T_resemble 8 = .ok (.invokevirtual 63, 3) := by decide +kernel
theorem jd_T_resemble_11 : decode jc_T_resemble 11 = .ok (.aload_n 0, 1) := by decide +kernel
theorem jd_T_resemble_12 : decode jc_T_resemble 12 = .ok (.getfield 21, 3) := by decide +kernel
theorem jd_T_resemble_15 : decode jc_T_resemble 15 = .ok (.aload_n 1, 1) := by decide +kernel
theorem jd_T_resemble_16 : decode jc_T_resemble 16 = .ok (.getfield 21, 3) := by decide +kernel
theorem jd_T_resemble_19 : decode jc_T_resemble 19 = .ok (.invokevirtual 67, 3) := by decide +kernel
theorem jd_T_resemble_22 : decode jc_T_resemble 22 = .ok (.return_, 1) := by decide +kernel
abbrev jc_T_divide : ByteArray := prog_5_method_4_code
abbrev jy_T_divide : MethodName := ⟨"MeasuredTensors$Tensor", "divide", "(II)V"⟩
theorem jd_T_divide_0 : decode jc_T_divide 0 = .ok (.aload_n 0, 1) := by decide +kernel
theorem jd_T_divide_1 : decode jc_T_divide 1 = .ok (.getfield 21, 3) := by decide +kernel
theorem jd_T_divide_4 : decode jc_T_divide 4 = .ok (.iload_n 1, 1) := by decide +kernel
theorem jd_T_divide_5 : decode jc_T_divide 5 = .ok (.iload_n 2, 1) := by decide +kernel
theorem jd_T_divide_6 : decode jc_T_divide 6 = .ok (.invokevirtual 70, 3) := by decide +kernel
theorem jd_T_divide_9 : decode jc_T_divide 9 = .ok (.aload_n 0, 1) := by decide +kernel
theorem jd_T_divide_10 : decode jc_T_divide 10 = .ok (.iconst 5, 1) := by decide +kernel
theorem jd_T_divide_11 : decode jc_T_divide 11 = .ok (.putfield 51, 3) := by decide +kernel
theorem jd_T_divide_14 : decode jc_T_divide 14 = .ok (.aload_n 0, 1) := by decide +kernel
theorem jd_T_divide_15 : decode jc_T_divide 15 = .ok (.iload_n 1, 1) := by decide +kernel
theorem jd_T_divide_16 : decode jc_T_divide 16 = .ok (.putfield 54, 3) := by decide +kernel
theorem jd_T_divide_19 : decode jc_T_divide 19 = .ok (.aload_n 0, 1) := by decide +kernel
theorem jd_T_divide_20 : decode jc_T_divide 20 = .ok (.iload_n 2, 1) := by decide +kernel
theorem jd_T_divide_21 : decode jc_T_divide 21 = .ok (.putfield 57, 3) := by decide +kernel
theorem jd_T_divide_24 : decode jc_T_divide 24 = .ok (.return_, 1) := by decide +kernel
abbrev jc_T_takeShare : ByteArray := prog_5_method_5_code
abbrev jy_T_takeShare : MethodName := ⟨"MeasuredTensors$Tensor", "takeShare", "(LMeasuredTensors$Measure;)V"⟩
theorem jd_T_takeShare_0 : decode jc_T_takeShare 0 = .ok (.aload_n 0, 1) := by decide +kernel
theorem jd_T_takeShare_1 : decode jc_T_takeShare 1 = .ok (.getfield 60, 3) := by decide +kernel
theorem jd_T_takeShare_4 : decode jc_T_takeShare 4 = .ok (.ifCond .ne 14, 3) := by decide +kernel
theorem jd_T_takeShare_7 : decode jc_T_takeShare 7 = .ok (.aload_n 0, 1) := by decide +kernel
theorem jd_T_takeShare_8 : decode jc_T_takeShare 8 = .ok (.getfield 25, 3) := by decide +kernel
theorem jd_T_takeShare_11 : decode jc_T_takeShare 11 = .ok (.aload_n 1, 1) := by decide +kernel
theorem jd_T_takeShare_12 : decode jc_T_takeShare 12 = .ok (.invokevirtual 67, 3) := by decide +kernel
theorem jd_T_takeShare_15 : decode jc_T_takeShare 15 = .ok (.goto 11, 3) := by decide +kernel
theorem jd_T_takeShare_18 : decode jc_T_takeShare 18 = .ok (.aload_n 0, 1) := by decide +kernel
theorem jd_T_takeShare_19 : decode jc_T_takeShare 19 = .ok (.getfield 25, 3) := by decide +kernel
theorem jd_T_takeShare_22 : decode jc_T_takeShare 22 = .ok (.aload_n 1, 1) := by decide +kernel
theorem jd_T_takeShare_23 : decode jc_T_takeShare 23 = .ok (.invokevirtual 74, 3) := by decide +kernel
theorem jd_T_takeShare_26 : decode jc_T_takeShare 26 = .ok (.aload_n 0, 1) := by decide +kernel
theorem jd_T_takeShare_27 : decode jc_T_takeShare 27 = .ok (.dup, 1) := by decide +kernel
theorem jd_T_takeShare_28 : decode jc_T_takeShare 28 = .ok (.getfield 60, 3) := by decide +kernel
theorem jd_T_takeShare_31 : decode jc_T_takeShare 31 = .ok (.iconst 1, 1) := by decide +kernel
theorem jd_T_takeShare_32 : decode jc_T_takeShare 32 = .ok (.iadd, 1) := by decide +kernel
theorem jd_T_takeShare_33 : decode jc_T_takeShare 33 = .ok (.putfield 60, 3) := by decide +kernel
theorem jd_T_takeShare_36 : decode jc_T_takeShare 36 = .ok (.return_, 1) := by decide +kernel
