abbrev jc_X_init : ByteArray := prog_1_method_1_code
abbrev jy_X_init : MethodName := ⟨"MeasuredTensors", "<init>", "()V"⟩
theorem jd_X_init_0 : decode jc_X_init 0 = .ok (.aload_n 0, 1) := by decide +kernel
theorem jd_X_init_1 : decode jc_X_init 1 = .ok (.invokespecial 1, 3) := by decide +kernel
theorem jd_X_init_4 : decode jc_X_init 4 = .ok (.aload_n 0, 1) := by decide +kernel
theorem jd_X_init_5 : decode jc_X_init 5 = .ok (.sipush 4000, 3) := by decide +kernel
theorem jd_X_init_8 : decode jc_X_init 8 = .ok (.anewarray 9, 3) := by decide +kernel
theorem jd_X_init_11 : decode jc_X_init 11 = .ok (.putfield 11, 3) := by decide +kernel
theorem jd_X_init_14 : decode jc_X_init 14 = .ok (.aload_n 0, 1) := by decide +kernel
theorem jd_X_init_15 : decode jc_X_init 15 = .ok (.sipush 1000, 3) := by decide +kernel
theorem jd_X_init_18 : decode jc_X_init 18 = .ok (.anewarray 15, 3) := by decide +kernel
theorem jd_X_init_21 : decode jc_X_init 21 = .ok (.putfield 17, 3) := by decide +kernel
theorem jd_X_init_24 : decode jc_X_init 24 = .ok (.aload_n 0, 1) := by decide +kernel
theorem jd_X_init_25 : decode jc_X_init 25 = .ok (.new 21, 3) := by decide +kernel
theorem jd_X_init_28 : decode jc_X_init 28 = .ok (.dup, 1) := by decide +kernel
theorem jd_X_init_29 : decode jc_X_init 29 = .ok (.invokespecial 23, 3) := by decide +kernel
theorem jd_X_init_32 : decode jc_X_init 32 = .ok (.putfield 24, 3) := by decide +kernel
theorem jd_X_init_35 : decode jc_X_init 35 = .ok (.aload_n 0, 1) := by decide +kernel
theorem jd_X_init_36 : decode jc_X_init 36 = .ok (.new 21, 3) := by decide +kernel
theorem jd_X_init_39 : decode jc_X_init 39 = .ok (.dup, 1) := by decide +kernel
theorem jd_X_init_40 : decode jc_X_init 40 = .ok (.invokespecial 23, 3) := by decide +kernel
theorem jd_X_init_43 : decode jc_X_init 43 = .ok (.putfield 28, 3) := by decide +kernel
theorem jd_X_init_46 : decode jc_X_init 46 = .ok (.aload_n 0, 1) := by decide +kernel
theorem jd_X_init_47 : decode jc_X_init 47 = .ok (.new 9, 3) := by decide +kernel
theorem jd_X_init_50 : decode jc_X_init 50 = .ok (.dup, 1) := by decide +kernel
theorem jd_X_init_51 : decode jc_X_init 51 = .ok (.invokespecial 31, 3) := by decide +kernel
theorem jd_X_init_54 : decode jc_X_init 54 = .ok (.putfield 32, 3) := by decide +kernel
theorem jd_X_init_57 : decode jc_X_init 57 = .ok (.aload_n 0, 1) := by decide +kernel
theorem jd_X_init_58 : decode jc_X_init 58 = .ok (.iconst 0, 1) := by decide +kernel
theorem jd_X_init_59 : decode jc_X_init 59 = .ok (.putfield 36, 3) := by decide +kernel
theorem jd_X_init_62 : decode jc_X_init 62 = .ok (.aload_n 0, 1) := by decide +kernel
theorem jd_X_init_63 : decode jc_X_init 63 = .ok (.iconst 0, 1) := by decide +kernel
theorem jd_X_init_64 : decode jc_X_init 64 = .ok (.putfield 40, 3) := by decide +kernel
theorem jd_X_init_67 : decode jc_X_init 67 = .ok (.aload_n 0, 1) := by decide +kernel
theorem jd_X_init_68 : decode jc_X_init 68 = .ok (.iconst 0, 1) := by decide +kernel
theorem jd_X_init_69 : decode jc_X_init 69 = .ok (.putfield 43, 3) := by decide +kernel
theorem jd_X_init_72 : decode jc_X_init 72 = .ok (.aload_n 0, 1) := by decide +kernel
theorem jd_X_init_73 : decode jc_X_init 73 = .ok (.iconst (-1), 1) := by decide +kernel
theorem jd_X_init_74 : decode jc_X_init 74 = .ok (.putfield 46, 3) := by decide +kernel
theorem jd_X_init_77 : decode jc_X_init 77 = .ok (.aload_n 0, 1) := by decide +kernel
theorem jd_X_init_78 : decode jc_X_init 78 = .ok (.iconst 0, 1) := by decide +kernel
theorem jd_X_init_79 : decode jc_X_init 79 = .ok (.putfield 49, 3) := by decide +kernel
theorem jd_X_init_82 : decode jc_X_init 82 = .ok (.return_, 1) := by decide +kernel
abbrev jc_X_begin : ByteArray := prog_1_method_2_code
abbrev jy_X_begin : MethodName := ⟨"MeasuredTensors", "begin", "(I)V"⟩
theorem jd_X_begin_0 : decode jc_X_begin 0 = .ok (.iload_n 1, 1) := by decide +kernel
theorem jd_X_begin_1 : decode jc_X_begin 1 = .ok (.ifCond .lt 9, 3) := by decide +kernel
theorem jd_X_begin_4 : decode jc_X_begin 4 = .ok (.iload_n 1, 1) := by decide +kernel
theorem jd_X_begin_5 : decode jc_X_begin 5 = .ok (.bipush 64, 2) := by decide +kernel
theorem jd_X_begin_7 : decode jc_X_begin 7 = .ok (.if_icmp .le 13, 3) := by decide +kernel
theorem jd_X_begin_10 : decode jc_X_begin 10 = .ok (.new 52, 3) := by decide +kernel
theorem jd_X_begin_13 : decode jc_X_begin 13 = .ok (.dup, 1) := by decide +kernel
theorem jd_X_begin_14 : decode jc_X_begin 14 = .ok (.ldc 54, 2) := by decide +kernel
theorem jd_X_begin_16 : decode jc_X_begin 16 = .ok (.invokespecial 56, 3) := by decide +kernel
theorem jd_X_begin_19 : decode jc_X_begin 19 = .ok (.athrow, 1) := by decide +kernel
theorem jd_X_begin_20 : decode jc_X_begin 20 = .ok (.aload_n 0, 1) := by decide +kernel
theorem jd_X_begin_21 : decode jc_X_begin 21 = .ok (.iconst 0, 1) := by decide +kernel
theorem jd_X_begin_22 : decode jc_X_begin 22 = .ok (.putfield 36, 3) := by decide +kernel
theorem jd_X_begin_25 : decode jc_X_begin 25 = .ok (.aload_n 0, 1) := by decide +kernel
theorem jd_X_begin_26 : decode jc_X_begin 26 = .ok (.iconst 0, 1) := by decide +kernel
theorem jd_X_begin_27 : decode jc_X_begin 27 = .ok (.putfield 40, 3) := by decide +kernel
theorem jd_X_begin_30 : decode jc_X_begin 30 = .ok (.aload_n 0, 1) := by decide +kernel
theorem jd_X_begin_31 : decode jc_X_begin 31 = .ok (.iconst 0, 1) := by decide +kernel
theorem jd_X_begin_32 : decode jc_X_begin 32 = .ok (.putfield 43, 3) := by decide +kernel
theorem jd_X_begin_35 : decode jc_X_begin 35 = .ok (.aload_n 0, 1) := by decide +kernel
theorem jd_X_begin_36 : decode jc_X_begin 36 = .ok (.iconst (-1), 1) := by decide +kernel
theorem jd_X_begin_37 : decode jc_X_begin 37 = .ok (.putfield 46, 3) := by decide +kernel
theorem jd_X_begin_40 : decode jc_X_begin 40 = .ok (.aload_n 0, 1) := by decide +kernel
theorem jd_X_begin_41 : decode jc_X_begin 41 = .ok (.iload_n 1, 1) := by decide +kernel
theorem jd_X_begin_42 : decode jc_X_begin 42 = .ok (.putfield 49, 3) := by decide +kernel
theorem jd_X_begin_45 : decode jc_X_begin 45 = .ok (.return_, 1) := by decide +kernel
abbrev jc_X_number : ByteArray := prog_1_method_3_code
abbrev jy_X_number : MethodName := ⟨"MeasuredTensors", "number", "(II)I"⟩
theorem jd_X_number_0 : decode jc_X_number 0 = .ok (.iload_n 1, 1) := by decide +kernel
theorem jd_X_number_1 : decode jc_X_number 1 = .ok (.ifCond .lt 16, 3) := by decide +kernel
theorem jd_X_number_4 : decode jc_X_number 4 = .ok (.iload_n 2, 1) := by decide +kernel
theorem jd_X_number_5 : decode jc_X_number 5 = .ok (.iconst 1, 1) := by decide +kernel
theorem jd_X_number_6 : decode jc_X_number 6 = .ok (.if_icmp .lt 11, 3) := by decide +kernel
theorem jd_X_number_9 : decode jc_X_number 9 = .ok (.iload_n 1, 1) := by decide +kernel
theorem jd_X_number_10 : decode jc_X_number 10 = .ok (.iload_n 2, 1) := by decide +kernel
theorem jd_X_number_11 : decode jc_X_number 11 = .ok (.invokestatic 59, 3) := by decide +kernel
theorem jd_X_number_14 : decode jc_X_number 14 = .ok (.ifCond .ne 13, 3) := by decide +kernel
theorem jd_X_number_17 : decode jc_X_number 17 = .ok (.new 52, 3) := by decide +kernel
theorem jd_X_number_20 : decode jc_X_number 20 = .ok (.dup, 1) := by decide +kernel
theorem jd_X_number_21 : decode jc_X_number 21 = .ok (.ldc 63, 2) := by decide +kernel
theorem jd_X_number_23 : decode jc_X_number 23 = .ok (.invokespecial 56, 3) := by decide +kernel
theorem jd_X_number_26 : decode jc_X_number 26 = .ok (.athrow, 1) := by decide +kernel
theorem jd_X_number_27 : decode jc_X_number 27 = .ok (.aload_n 0, 1) := by decide +kernel
theorem jd_X_number_28 : decode jc_X_number 28 = .ok (.getfield 32, 3) := by decide +kernel
theorem jd_X_number_31 : decode jc_X_number 31 = .ok (.iconst (-1), 1) := by decide +kernel
theorem jd_X_number_32 : decode jc_X_number 32 = .ok (.iconst (-1), 1) := by decide +kernel
theorem jd_X_number_33 : decode jc_X_number 33 = .ok (.invokevirtual 65, 3) := by decide +kernel
theorem jd_X_number_36 : decode jc_X_number 36 = .ok (.iload_n 2, 1) := by decide +kernel
theorem jd_X_number_37 : decode jc_X_number 37 = .ok (.invokestatic 69, 3) := by decide +kernel
theorem jd_X_number_40 : decode jc_X_number 40 = .ok (.istore_n 3, 1) := by decide +kernel
theorem jd_X_number_41 : decode jc_X_number 41 = .ok (.aload_n 0, 1) := by decide +kernel
theorem jd_X_number_42 : decode jc_X_number 42 = .ok (.getfield 32, 3) := by decide +kernel
theorem jd_X_number_45 : decode jc_X_number 45 = .ok (.getfield 73, 3) := by decide +kernel
theorem jd_X_number_48 : decode jc_X_number 48 = .ok (.iload_n 1, 1) := by decide +kernel
theorem jd_X_number_49 : decode jc_X_number 49 = .ok (.invokestatic 76, 3) := by decide +kernel
theorem jd_X_number_52 : decode jc_X_number 52 = .ok (.iload_n 3, 1) := by decide +kernel
theorem jd_X_number_53 : decode jc_X_number 53 = .ok (.iload_n 2, 1) := by decide +kernel
theorem jd_X_number_54 : decode jc_X_number 54 = .ok (.iload_n 3, 1) := by decide +kernel
theorem jd_X_number_55 : decode jc_X_number 55 = .ok (.ishr, 1) := by decide +kernel
theorem jd_X_number_56 : decode jc_X_number 56 = .ok (.i2l, 1) := by decide +kernel
theorem jd_X_number_57 : decode jc_X_number 57 = .ok (.invokevirtual 79, 3) := by decide +kernel
theorem jd_X_number_60 : decode jc_X_number 60 = .ok (.aload_n 0, 1) := by decide +kernel
theorem jd_X_number_61 : decode jc_X_number 61 = .ok (.invokevirtual 83, 3) := by decide +kernel
theorem jd_X_number_64 : decode jc_X_number 64 = .ok (.ireturn, 1) := by decide +kernel
abbrev jc_X_made : ByteArray := prog_1_method_4_code
abbrev jy_X_made : MethodName := ⟨"MeasuredTensors", "made", "(ZIIIII)I"⟩
theorem jd_X_made_0 : decode jc_X_made 0 = .ok (.iload_n 2, 1) := by decide +kernel
theorem jd_X_made_1 : decode jc_X_made 1 = .ok (.iload_n 3, 1) := by decide +kernel
theorem jd_X_made_2 : decode jc_X_made 2 = .ok (.iload 4, 2) := by decide +kernel
theorem jd_X_made_4 : decode jc_X_made 4 = .ok (.iload 5, 2) := by decide +kernel
theorem jd_X_made_6 : decode jc_X_made 6 = .ok (.iload 6, 2) := by decide +kernel
theorem jd_X_made_8 : decode jc_X_made 8 = .ok (.invokestatic 87, 3) := by decide +kernel
theorem jd_X_made_11 : decode jc_X_made 11 = .ok (.ifCond .ne 13, 3) := by decide +kernel
theorem jd_X_made_14 : decode jc_X_made 14 = .ok (.new 52, 3) := by decide +kernel
theorem jd_X_made_17 : decode jc_X_made 17 = .ok (.dup, 1) := by decide +kernel
theorem jd_X_made_18 : decode jc_X_made 18 = .ok (.ldc 91, 2) := by decide +kernel
theorem jd_X_made_20 : decode jc_X_made 20 = .ok (.invokespecial 56, 3) := by decide +kernel
theorem jd_X_made_23 : decode jc_X_made 23 = .ok (.athrow, 1) := by decide +kernel
theorem jd_X_made_24 : decode jc_X_made 24 = .ok (.aload_n 0, 1) := by decide +kernel
theorem jd_X_made_25 : decode jc_X_made 25 = .ok (.getfield 32, 3) := by decide +kernel
theorem jd_X_made_28 : decode jc_X_made 28 = .ok (.iconst (-1), 1) := by decide +kernel
theorem jd_X_made_29 : decode jc_X_made 29 = .ok (.iconst (-1), 1) := by decide +kernel
theorem jd_X_made_30 : decode jc_X_made 30 = .ok (.invokevirtual 65, 3) := by decide +kernel
theorem jd_X_made_33 : decode jc_X_made 33 = .ok (.aload_n 0, 1) := by decide +kernel
theorem jd_X_made_34 : decode jc_X_made 34 = .ok (.getfield 32, 3) := by decide +kernel
theorem jd_X_made_37 : decode jc_X_made 37 = .ok (.getfield 93, 3) := by decide +kernel
theorem jd_X_made_40 : decode jc_X_made 40 = .ok (.iload_n 2, 1) := by decide +kernel
theorem jd_X_made_41 : decode jc_X_made 41 = .ok (.iload_n 3, 1) := by decide +kernel
theorem jd_X_made_42 : decode jc_X_made 42 = .ok (.iload 4, 2) := by decide +kernel
theorem jd_X_made_44 : decode jc_X_made 44 = .ok (.iload 5, 2) := by decide +kernel
theorem jd_X_made_46 : decode jc_X_made 46 = .ok (.iload 6, 2) := by decide +kernel
theorem jd_X_made_48 : decode jc_X_made 48 = .ok (.invokevirtual 97, 3) := by decide +kernel
theorem jd_X_made_51 : decode jc_X_made 51 = .ok (.aload_n 0, 1) := by decide +kernel
theorem jd_X_made_52 : decode jc_X_made 52 = .ok (.getfield 32, 3) := by decide +kernel
theorem jd_X_made_55 : decode jc_X_made 55 = .ok (.iload_n 1, 1) := by decide +kernel
theorem jd_X_made_56 : decode jc_X_made 56 = .ok (.putfield 102, 3) := by decide +kernel
theorem jd_X_made_59 : decode jc_X_made 59 = .ok (.aload_n 0, 1) := by decide +kernel
theorem jd_X_made_60 : decode jc_X_made 60 = .ok (.getfield 32, 3) := by decide +kernel
theorem jd_X_made_63 : decode jc_X_made 63 = .ok (.getfield 73, 3) := by decide +kernel
theorem jd_X_made_66 : decode jc_X_made 66 = .ok (.iload_n 1, 1) := by decide +kernel
theorem jd_X_made_67 : decode jc_X_made 67 = .ok (.ifCond .eq 8, 3) := by decide +kernel
theorem jd_X_made_70 : decode jc_X_made 70 = .ok (.bipush 15, 2) := by decide +kernel
theorem jd_X_made_72 : decode jc_X_made 72 = .ok (.goto 5, 3) := by decide +kernel
theorem jd_X_made_75 : decode jc_X_made 75 = .ok (.bipush 16, 2) := by decide +kernel
theorem jd_X_made_77 : decode jc_X_made 77 = .ok (.iload_n 1, 1) := by decide +kernel
theorem jd_X_made_78 : decode jc_X_made 78 = .ok (.ifCond .eq 10, 3) := by decide +kernel
theorem jd_X_made_81 : decode jc_X_made 81 = .ok (.aload_n 0, 1) := by decide +kernel
theorem jd_X_made_82 : decode jc_X_made 82 = .ok (.getfield 49, 3) := by decide +kernel
theorem jd_X_made_85 : decode jc_X_made 85 = .ok (.goto 5, 3) := by decide +kernel
theorem jd_X_made_88 : decode jc_X_made 88 = .ok (.bipush 16, 2) := by decide +kernel
theorem jd_X_made_90 : decode jc_X_made 90 = .ok (.lconst 1, 1) := by decide +kernel
theorem jd_X_made_91 : decode jc_X_made 91 = .ok (.invokevirtual 79, 3) := by decide +kernel
theorem jd_X_made_94 : decode jc_X_made 94 = .ok (.aload_n 0, 1) := by decide +kernel
theorem jd_X_made_95 : decode jc_X_made 95 = .ok (.invokevirtual 83, 3) := by decide +kernel
theorem jd_X_made_98 : decode jc_X_made 98 = .ok (.ireturn, 1) := by decide +kernel
abbrev jc_X_index : ByteArray := prog_1_method_5_code
abbrev jy_X_index : MethodName := ⟨"MeasuredTensors", "index", "(IIIIII)I"⟩
theorem jd_X_index_0 : decode jc_X_index 0 = .ok (.iload_n 1, 1) := by decide +kernel
theorem jd_X_index_1 : decode jc_X_index 1 = .ok (.iload_n 2, 1) := by decide +kernel
theorem jd_X_index_2 : decode jc_X_index 2 = .ok (.iload_n 3, 1) := by decide +kernel
theorem jd_X_index_3 : decode jc_X_index 3 = .ok (.iload 4, 2) := by decide +kernel
theorem jd_X_index_5 : decode jc_X_index 5 = .ok (.iload 5, 2) := by decide +kernel
theorem jd_X_index_7 : decode jc_X_index 7 = .ok (.invokestatic 87, 3) := by decide +kernel
theorem jd_X_index_10 : decode jc_X_index 10 = .ok (.ifCond .eq 16, 3) := by decide +kernel
theorem jd_X_index_13 : decode jc_X_index 13 = .ok (.iload 6, 2) := by decide +kernel
theorem jd_X_index_15 : decode jc_X_index 15 = .ok (.iconst 1, 1) := by decide +kernel
theorem jd_X_index_16 : decode jc_X_index 16 = .ok (.if_icmp .lt 10, 3) := by decide +kernel
theorem jd_X_index_19 : decode jc_X_index 19 = .ok (.iload 6, 2) := by decide +kernel
theorem jd_X_index_21 : decode jc_X_index 21 = .ok (.ldc 106, 2) := by decide +kernel
theorem jd_X_index_23 : decode jc_X_index 23 = .ok (.if_icmp .le 13, 3) := by decide +kernel
theorem jd_X_index_26 : decode jc_X_index 26 = .ok (.new 52, 3) := by decide +kernel
theorem jd_X_index_29 : decode jc_X_index 29 = .ok (.dup, 1) := by decide +kernel
theorem jd_X_index_30 : decode jc_X_index 30 = .ok (.ldc 107, 2) := by decide +kernel
theorem jd_X_index_32 : decode jc_X_index 32 = .ok (.invokespecial 56, 3) := by decide +kernel
theorem jd_X_index_35 : decode jc_X_index 35 = .ok (.athrow, 1) := by decide +kernel
theorem jd_X_index_36 : decode jc_X_index 36 = .ok (.new 15, 3) := by decide +kernel
theorem jd_X_index_39 : decode jc_X_index 39 = .ok (.dup, 1) := by decide +kernel
theorem jd_X_index_40 : decode jc_X_index 40 = .ok (.invokespecial 109, 3) := by decide +kernel
theorem jd_X_index_43 : decode jc_X_index 43 = .ok (.astore 7, 2) := by decide +kernel
theorem jd_X_index_45 : decode jc_X_index 45 = .ok (.aload 7, 2) := by decide +kernel
theorem jd_X_index_47 : decode jc_X_index 47 = .ok (.getfield 110, 3) := by decide +kernel
theorem jd_X_index_50 : decode jc_X_index 50 = .ok (.iload_n 1, 1) := by decide +kernel
theorem jd_X_index_51 : decode jc_X_index 51 = .ok (.iload_n 2, 1) := by decide +kernel
theorem jd_X_index_52 : decode jc_X_index 52 = .ok (.iload_n 3, 1) := by decide +kernel
theorem jd_X_index_53 : decode jc_X_index 53 = .ok (.iload 4, 2) := by decide +kernel
theorem jd_X_index_55 : decode jc_X_index 55 = .ok (.iload 5, 2) := by decide +kernel
theorem jd_X_index_57 : decode jc_X_index 57 = .ok (.invokevirtual 97, 3) := by decide +kernel
theorem jd_X_index_60 : decode jc_X_index 60 = .ok (.aload 7, 2) := by decide +kernel
theorem jd_X_index_62 : decode jc_X_index 62 = .ok (.iload 6, 2) := by decide +kernel
theorem jd_X_index_64 : decode jc_X_index 64 = .ok (.putfield 111, 3) := by decide +kernel
theorem jd_X_index_67 : decode jc_X_index 67 = .ok (.aload 7, 2) := by decide +kernel
theorem jd_X_index_69 : decode jc_X_index 69 = .ok (.getfield 110, 3) := by decide +kernel
theorem jd_X_index_72 : decode jc_X_index 72 = .ok (.invokevirtual 114, 3) := by decide +kernel
theorem jd_X_index_75 : decode jc_X_index 75 = .ok (.sipush 4096, 3) := by decide +kernel
theorem jd_X_index_78 : decode jc_X_index 78 = .ok (.if_icmp .gt 22, 3) := by decide +kernel
theorem jd_X_index_81 : decode jc_X_index 81 = .ok (.aload_n 0, 1) := by decide +kernel
theorem jd_X_index_82 : decode jc_X_index 82 = .ok (.getfield 40, 3) := by decide +kernel
theorem jd_X_index_85 : decode jc_X_index 85 = .ok (.ifCond .lt 15, 3) := by decide +kernel
theorem jd_X_index_88 : decode jc_X_index 88 = .ok (.aload_n 0, 1) := by decide +kernel
theorem jd_X_index_89 : decode jc_X_index 89 = .ok (.getfield 40, 3) := by decide +kernel
theorem jd_X_index_92 : decode jc_X_index 92 = .ok (.aload_n 0, 1) := by decide +kernel
theorem jd_X_index_93 : decode jc_X_index 93 = .ok (.getfield 17, 3) := by decide +kernel
theorem jd_X_index_96 : decode jc_X_index 96 = .ok (.arraylength, 1) := by decide +kernel
theorem jd_X_index_97 : decode jc_X_index 97 = .ok (.if_icmp .lt 13, 3) := by decide +kernel
theorem jd_X_index_100 : decode jc_X_index 100 = .ok (.new 117, 3) := by decide +kernel
theorem jd_X_index_103 : decode jc_X_index 103 = .ok (.dup, 1) := by decide +kernel
theorem jd_X_index_104 : decode jc_X_index 104 = .ok (.ldc 119, 2) := by decide +kernel
theorem jd_X_index_106 : decode jc_X_index 106 = .ok (.invokespecial 121, 3) := by decide +kernel
theorem jd_X_index_109 : decode jc_X_index 109 = .ok (.athrow, 1) := by decide +kernel
theorem jd_X_index_110 : decode jc_X_index 110 = .ok (.aload_n 0, 1) := by decide +kernel
theorem jd_X_index_111 : decode jc_X_index 111 = .ok (.getfield 17, 3) := by decide +kernel
theorem jd_X_index_114 : decode jc_X_index 114 = .ok (.aload_n 0, 1) := by decide +kernel
theorem jd_X_index_115 : decode jc_X_index 115 = .ok (.getfield 40, 3) := by decide +kernel
theorem jd_X_index_118 : decode jc_X_index 118 = .ok (.aload 7, 2) := by decide +kernel
theorem jd_X_index_120 : decode jc_X_index 120 = .ok (.aastore, 1) := by decide +kernel
theorem jd_X_index_121 : decode jc_X_index 121 = .ok (.aload_n 0, 1) := by decide +kernel
theorem jd_X_index_122 : decode jc_X_index 122 = .ok (.dup, 1) := by decide +kernel
theorem jd_X_index_123 : decode jc_X_index 123 = .ok (.getfield 40, 3) := by decide +kernel
theorem jd_X_index_126 : decode jc_X_index 126 = .ok (.iconst 1, 1) := by decide +kernel
theorem jd_X_index_127 : decode jc_X_index 127 = .ok (.iadd, 1) := by decide +kernel
theorem jd_X_index_128 : decode jc_X_index 128 = .ok (.putfield 40, 3) := by decide +kernel
theorem jd_X_index_131 : decode jc_X_index 131 = .ok (.aload_n 0, 1) := by decide +kernel
theorem jd_X_index_132 : decode jc_X_index 132 = .ok (.getfield 40, 3) := by decide +kernel
theorem jd_X_index_135 : decode jc_X_index 135 = .ok (.iconst 1, 1) := by decide +kernel
theorem jd_X_index_136 : decode jc_X_index 136 = .ok (.isub, 1) := by decide +kernel
theorem jd_X_index_137 : decode jc_X_index 137 = .ok (.ireturn, 1) := by decide +kernel
abbrev jc_X_pair : ByteArray := prog_1_method_6_code
abbrev jy_X_pair : MethodName := ⟨"MeasuredTensors", "pair", "(III)I"⟩
theorem jd_X_pair_0 : decode jc_X_pair 0 = .ok (.aload_n 0, 1) := by decide +kernel
theorem jd_X_pair_1 : decode jc_X_pair 1 = .ok (.iload_n 2, 1) := by decide +kernel
theorem jd_X_pair_2 : decode jc_X_pair 2 = .ok (.invokevirtual 122, 3) := by decide +kernel
theorem jd_X_pair_5 : decode jc_X_pair 5 = .ok (.astore 4, 2) := by decide +kernel
theorem jd_X_pair_7 : decode jc_X_pair 7 = .ok (.aload_n 0, 1) := by decide +kernel
theorem jd_X_pair_8 : decode jc_X_pair 8 = .ok (.iload_n 3, 1) := by decide +kernel
theorem jd_X_pair_9 : decode jc_X_pair 9 = .ok (.invokevirtual 122, 3) := by decide +kernel
theorem jd_X_pair_12 : decode jc_X_pair 12 = .ok (.astore 5, 2) := by decide +kernel
theorem jd_X_pair_14 : decode jc_X_pair 14 = .ok (.aload 4, 2) := by decide +kernel
theorem jd_X_pair_16 : decode jc_X_pair 16 = .ok (.ifnull 8, 3) := by decide +kernel
theorem jd_X_pair_19 : decode jc_X_pair 19 = .ok (.aload 5, 2) := by decide +kernel
theorem jd_X_pair_21 : decode jc_X_pair 21 = .ok (.ifnonnull 13, 3) := by decide +kernel
theorem jd_X_pair_24 : decode jc_X_pair 24 = .ok (.new 126, 3) := by decide +kernel
theorem jd_X_pair_27 : decode jc_X_pair 27 = .ok (.dup, 1) := by decide +kernel
theorem jd_X_pair_28 : decode jc_X_pair 28 = .ok (.ldc 128, 2) := by decide +kernel
theorem jd_X_pair_30 : decode jc_X_pair 30 = .ok (.invokespecial 130, 3) := by decide +kernel
theorem jd_X_pair_33 : decode jc_X_pair 33 = .ok (.athrow, 1) := by decide +kernel
theorem jd_X_pair_34 : decode jc_X_pair 34 = .ok (.iload_n 1, 1) := by decide +kernel
theorem jd_X_pair_35 : decode jc_X_pair 35 = .ok (.ifCond .lt 8, 3) := by decide +kernel
theorem jd_X_pair_38 : decode jc_X_pair 38 = .ok (.iload_n 1, 1) := by decide +kernel
theorem jd_X_pair_39 : decode jc_X_pair 39 = .ok (.iconst 3, 1) := by decide +kernel
theorem jd_X_pair_40 : decode jc_X_pair 40 = .ok (.if_icmp .le 13, 3) := by decide +kernel
theorem jd_X_pair_43 : decode jc_X_pair 43 = .ok (.new 52, 3) := by decide +kernel
theorem jd_X_pair_46 : decode jc_X_pair 46 = .ok (.dup, 1) := by decide +kernel
theorem jd_X_pair_47 : decode jc_X_pair 47 = .ok (.ldc 131, 2) := by decide +kernel
theorem jd_X_pair_49 : decode jc_X_pair 49 = .ok (.invokespecial 56, 3) := by decide +kernel
theorem jd_X_pair_52 : decode jc_X_pair 52 = .ok (.athrow, 1) := by decide +kernel
theorem jd_X_pair_53 : decode jc_X_pair 53 = .ok (.aload_n 0, 1) := by decide +kernel
theorem jd_X_pair_54 : decode jc_X_pair 54 = .ok (.getfield 32, 3) := by decide +kernel
theorem jd_X_pair_57 : decode jc_X_pair 57 = .ok (.iload_n 2, 1) := by decide +kernel
theorem jd_X_pair_58 : decode jc_X_pair 58 = .ok (.iload_n 3, 1) := by decide +kernel
theorem jd_X_pair_59 : decode jc_X_pair 59 = .ok (.invokevirtual 65, 3) := by decide +kernel
theorem jd_X_pair_62 : decode jc_X_pair 62 = .ok (.iload_n 1, 1) := by decide +kernel
theorem jd_X_pair_63 : decode jc_X_pair 63 = .ok (.iconst 3, 1) := by decide +kernel
theorem jd_X_pair_64 : decode jc_X_pair 64 = .ok (.if_icmp .ne 14, 3) := by decide +kernel
theorem jd_X_pair_67 : decode jc_X_pair 67 = .ok (.aload_n 0, 1) := by decide +kernel
theorem jd_X_pair_68 : decode jc_X_pair 68 = .ok (.aload 4, 2) := by decide +kernel
theorem jd_X_pair_70 : decode jc_X_pair 70 = .ok (.aload 5, 2) := by decide +kernel
theorem jd_X_pair_72 : decode jc_X_pair 72 = .ok (.invokevirtual 133, 3) := by decide +kernel
theorem jd_X_pair_75 : decode jc_X_pair 75 = .ok (.goto 12, 3) := by decide +kernel
theorem jd_X_pair_78 : decode jc_X_pair 78 = .ok (.aload_n 0, 1) := by decide +kernel
theorem jd_X_pair_79 : decode jc_X_pair 79 = .ok (.iload_n 1, 1) := by decide +kernel
theorem jd_X_pair_80 : decode jc_X_pair 80 = .ok (.aload 4, 2) := by decide +kernel
theorem jd_X_pair_82 : decode jc_X_pair 82 = .ok (.aload 5, 2) := by decide +kernel
theorem jd_X_pair_84 : decode jc_X_pair 84 = .ok (.invokevirtual 137, 3) := by decide +kernel
theorem jd_X_pair_87 : decode jc_X_pair 87 = .ok (.istore 6, 2) := by decide +kernel
theorem jd_X_pair_89 : decode jc_X_pair 89 = .ok (.iload 6, 2) := by decide +kernel
theorem jd_X_pair_91 : decode jc_X_pair 91 = .ok (.ifCond .eq 10, 3) := by decide +kernel
theorem jd_X_pair_94 : decode jc_X_pair 94 = .ok (.aload_n 0, 1) := by decide +kernel
theorem jd_X_pair_95 : decode jc_X_pair 95 = .ok (.invokevirtual 83, 3) := by decide +kernel
theorem jd_X_pair_98 : decode jc_X_pair 98 = .ok (.goto 5, 3) := by decide +kernel
theorem jd_X_pair_101 : decode jc_X_pair 101 = .ok (.bipush (-5), 2) := by decide +kernel
theorem jd_X_pair_103 : decode jc_X_pair 103 = .ok (.ireturn, 1) := by decide +kernel
abbrev jc_X_turned : ByteArray := prog_1_method_7_code
abbrev jy_X_turned : MethodName := ⟨"MeasuredTensors", "turned", "(I)I"⟩
theorem jd_X_turned_0 : decode jc_X_turned 0 = .ok (.aload_n 0, 1) := by decide +kernel
theorem jd_X_turned_1 : decode jc_X_turned 1 = .ok (.iload_n 1, 1) := by decide +kernel
theorem jd_X_turned_2 : decode jc_X_turned 2 = .ok (.invokevirtual 122, 3) := by decide +kernel
theorem jd_X_turned_5 : decode jc_X_turned 5 = .ok (.astore_n 2, 1) := by decide +kernel
theorem jd_X_turned_6 : decode jc_X_turned 6 = .ok (.aload_n 2, 1) := by decide +kernel
theorem jd_X_turned_7 : decode jc_X_turned 7 = .ok (.ifnonnull 13, 3) := by decide +kernel
theorem jd_X_turned_10 : decode jc_X_turned 10 = .ok (.new 126, 3) := by decide +kernel
theorem jd_X_turned_13 : decode jc_X_turned 13 = .ok (.dup, 1) := by decide +kernel
theorem jd_X_turned_14 : decode jc_X_turned 14 = .ok (.ldc 128, 2) := by decide +kernel
theorem jd_X_turned_16 : decode jc_X_turned 16 = .ok (.invokespecial 130, 3) := by decide +kernel
theorem jd_X_turned_19 : decode jc_X_turned 19 = .ok (.athrow, 1) := by decide +kernel
theorem jd_X_turned_20 : decode jc_X_turned 20 = .ok (.aload_n 0, 1) := by decide +kernel
theorem jd_X_turned_21 : decode jc_X_turned 21 = .ok (.getfield 32, 3) := by decide +kernel
theorem jd_X_turned_24 : decode jc_X_turned 24 = .ok (.iload_n 1, 1) := by decide +kernel
theorem jd_X_turned_25 : decode jc_X_turned 25 = .ok (.iconst (-1), 1) := by decide +kernel
theorem jd_X_turned_26 : decode jc_X_turned 26 = .ok (.invokevirtual 65, 3) := by decide +kernel
theorem jd_X_turned_29 : decode jc_X_turned 29 = .ok (.aload_n 0, 1) := by decide +kernel
theorem jd_X_turned_30 : decode jc_X_turned 30 = .ok (.getfield 32, 3) := by decide +kernel
theorem jd_X_turned_33 : decode jc_X_turned 33 = .ok (.aload_n 2, 1) := by decide +kernel
theorem jd_X_turned_34 : decode jc_X_turned 34 = .ok (.invokevirtual 141, 3) := by decide +kernel
theorem jd_X_turned_37 : decode jc_X_turned 37 = .ok (.aload_n 0, 1) := by decide +kernel
theorem jd_X_turned_38 : decode jc_X_turned 38 = .ok (.invokevirtual 83, 3) := by decide +kernel
theorem jd_X_turned_41 : decode jc_X_turned 41 = .ok (.ireturn, 1) := by decide +kernel
abbrev jc_X_over : ByteArray := prog_1_method_8_code
abbrev jy_X_over : MethodName := ⟨"MeasuredTensors", "over", "(III)I"⟩
theorem jd_X_over_0 : decode jc_X_over 0 = .ok (.aload_n 0, 1) := by decide +kernel
theorem jd_X_over_1 : decode jc_X_over 1 = .ok (.iload_n 1, 1) := by decide +kernel
theorem jd_X_over_2 : decode jc_X_over 2 = .ok (.invokevirtual 122, 3) := by decide +kernel
theorem jd_X_over_5 : decode jc_X_over 5 = .ok (.astore 4, 2) := by decide +kernel
theorem jd_X_over_7 : decode jc_X_over 7 = .ok (.aload 4, 2) := by decide +kernel
theorem jd_X_over_9 : decode jc_X_over 9 = .ok (.ifnonnull 13, 3) := by decide +kernel
theorem jd_X_over_12 : decode jc_X_over 12 = .ok (.new 126, 3) := by decide +kernel
theorem jd_X_over_15 : decode jc_X_over 15 = .ok (.dup, 1) := by decide +kernel
theorem jd_X_over_16 : decode jc_X_over 16 = .ok (.ldc 128, 2) := by decide +kernel
theorem jd_X_over_18 : decode jc_X_over 18 = .ok (.invokespecial 130, 3) := by decide +kernel
theorem jd_X_over_21 : decode jc_X_over 21 = .ok (.athrow, 1) := by decide +kernel
theorem jd_X_over_22 : decode jc_X_over 22 = .ok (.iload_n 2, 1) := by decide +kernel
theorem jd_X_over_23 : decode jc_X_over 23 = .ok (.iconst 1, 1) := by decide +kernel
theorem jd_X_over_24 : decode jc_X_over 24 = .ok (.if_icmp .lt 16, 3) := by decide +kernel
theorem jd_X_over_27 : decode jc_X_over 27 = .ok (.iload_n 3, 1) := by decide +kernel
theorem jd_X_over_28 : decode jc_X_over 28 = .ok (.iconst 1, 1) := by decide +kernel
theorem jd_X_over_29 : decode jc_X_over 29 = .ok (.if_icmp .lt 11, 3) := by decide +kernel
theorem jd_X_over_32 : decode jc_X_over 32 = .ok (.iload_n 2, 1) := by decide +kernel
theorem jd_X_over_33 : decode jc_X_over 33 = .ok (.iload_n 3, 1) := by decide +kernel
theorem jd_X_over_34 : decode jc_X_over 34 = .ok (.invokestatic 59, 3) := by decide +kernel
theorem jd_X_over_37 : decode jc_X_over 37 = .ok (.ifCond .ne 13, 3) := by decide +kernel
theorem jd_X_over_40 : decode jc_X_over 40 = .ok (.new 52, 3) := by decide +kernel
theorem jd_X_over_43 : decode jc_X_over 43 = .ok (.dup, 1) := by decide +kernel
theorem jd_X_over_44 : decode jc_X_over 44 = .ok (.ldc 145, 2) := by decide +kernel
theorem jd_X_over_46 : decode jc_X_over 46 = .ok (.invokespecial 56, 3) := by decide +kernel
theorem jd_X_over_49 : decode jc_X_over 49 = .ok (.athrow, 1) := by decide +kernel
theorem jd_X_over_50 : decode jc_X_over 50 = .ok (.aload_n 0, 1) := by decide +kernel
theorem jd_X_over_51 : decode jc_X_over 51 = .ok (.getfield 32, 3) := by decide +kernel
theorem jd_X_over_54 : decode jc_X_over 54 = .ok (.iload_n 1, 1) := by decide +kernel
theorem jd_X_over_55 : decode jc_X_over 55 = .ok (.iconst (-1), 1) := by decide +kernel
theorem jd_X_over_56 : decode jc_X_over 56 = .ok (.invokevirtual 65, 3) := by decide +kernel
theorem jd_X_over_59 : decode jc_X_over 59 = .ok (.aload_n 0, 1) := by decide +kernel
theorem jd_X_over_60 : decode jc_X_over 60 = .ok (.getfield 32, 3) := by decide +kernel
theorem jd_X_over_63 : decode jc_X_over 63 = .ok (.aload 4, 2) := by decide +kernel
theorem jd_X_over_65 : decode jc_X_over 65 = .ok (.invokevirtual 141, 3) := by decide +kernel
theorem jd_X_over_68 : decode jc_X_over 68 = .ok (.aload_n 0, 1) := by decide +kernel
theorem jd_X_over_69 : decode jc_X_over 69 = .ok (.getfield 32, 3) := by decide +kernel
theorem jd_X_over_72 : decode jc_X_over 72 = .ok (.iload_n 2, 1) := by decide +kernel
theorem jd_X_over_73 : decode jc_X_over 73 = .ok (.iload_n 3, 1) := by decide +kernel
theorem jd_X_over_74 : decode jc_X_over 74 = .ok (.invokevirtual 147, 3) := by decide +kernel
theorem jd_X_over_77 : decode jc_X_over 77 = .ok (.aload_n 0, 1) := by decide +kernel
theorem jd_X_over_78 : decode jc_X_over 78 = .ok (.invokevirtual 83, 3) := by decide +kernel
theorem jd_X_over_81 : decode jc_X_over 81 = .ok (.ireturn, 1) := by decide +kernel
abbrev jc_X_call : ByteArray := prog_1_method_9_code
abbrev jy_X_call : MethodName := ⟨"MeasuredTensors", "call", "(IIIIIII)I"⟩
theorem jd_X_call_0 : decode jc_X_call 0 = .ok (.iload_n 1, 1) := by decide +kernel
theorem jd_X_call_1 : decode jc_X_call 1 = .ok (.invokestatic 150, 3) := by decide +kernel
theorem jd_X_call_4 : decode jc_X_call 4 = .ok (.ifCond .eq 24, 3) := by decide +kernel
theorem jd_X_call_7 : decode jc_X_call 7 = .ok (.iload_n 2, 1) := by decide +kernel
theorem jd_X_call_8 : decode jc_X_call 8 = .ok (.ifCond .lt 20, 3) := by decide +kernel
theorem jd_X_call_11 : decode jc_X_call 11 = .ok (.iload_n 2, 1) := by decide +kernel
theorem jd_X_call_12 : decode jc_X_call 12 = .ok (.iconst 2, 1) := by decide +kernel
theorem jd_X_call_13 : decode jc_X_call 13 = .ok (.if_icmp .gt 15, 3) := by decide +kernel
theorem jd_X_call_16 : decode jc_X_call 16 = .ok (.iload 5, 2) := by decide +kernel
theorem jd_X_call_18 : decode jc_X_call 18 = .ok (.iload 6, 2) := by decide +kernel
theorem jd_X_call_20 : decode jc_X_call 20 = .ok (.iload 7, 2) := by decide +kernel
theorem jd_X_call_22 : decode jc_X_call 22 = .ok (.invokestatic 153, 3) := by decide +kernel
theorem jd_X_call_25 : decode jc_X_call 25 = .ok (.ifCond .ne 13, 3) := by decide +kernel
theorem jd_X_call_28 : decode jc_X_call 28 = .ok (.new 52, 3) := by decide +kernel
theorem jd_X_call_31 : decode jc_X_call 31 = .ok (.dup, 1) := by decide +kernel
theorem jd_X_call_32 : decode jc_X_call 32 = .ok (.ldc 157, 2) := by decide +kernel
theorem jd_X_call_34 : decode jc_X_call 34 = .ok (.invokespecial 56, 3) := by decide +kernel
theorem jd_X_call_37 : decode jc_X_call 37 = .ok (.athrow, 1) := by decide +kernel
theorem jd_X_call_38 : decode jc_X_call 38 = .ok (.iload_n 2, 1) := by decide +kernel
theorem jd_X_call_39 : decode jc_X_call 39 = .ok (.ifCond .le 11, 3) := by decide +kernel
theorem jd_X_call_42 : decode jc_X_call 42 = .ok (.aload_n 0, 1) := by decide +kernel
theorem jd_X_call_43 : decode jc_X_call 43 = .ok (.iload_n 3, 1) := by decide +kernel
theorem jd_X_call_44 : decode jc_X_call 44 = .ok (.invokevirtual 159, 3) := by decide +kernel
theorem jd_X_call_47 : decode jc_X_call 47 = .ok (.ifCond .eq 17, 3) := by decide +kernel
theorem jd_X_call_50 : decode jc_X_call 50 = .ok (.iload_n 2, 1) := by decide +kernel
theorem jd_X_call_51 : decode jc_X_call 51 = .ok (.iconst 1, 1) := by decide +kernel
theorem jd_X_call_52 : decode jc_X_call 52 = .ok (.if_icmp .le 22, 3) := by decide +kernel
theorem jd_X_call_55 : decode jc_X_call 55 = .ok (.aload_n 0, 1) := by decide +kernel
theorem jd_X_call_56 : decode jc_X_call 56 = .ok (.iload 4, 2) := by decide +kernel
theorem jd_X_call_58 : decode jc_X_call 58 = .ok (.invokevirtual 159, 3) := by decide +kernel
theorem jd_X_call_61 : decode jc_X_call 61 = .ok (.ifCond .ne 13, 3) := by decide +kernel
theorem jd_X_call_64 : decode jc_X_call 64 = .ok (.new 126, 3) := by decide +kernel
theorem jd_X_call_67 : decode jc_X_call 67 = .ok (.dup, 1) := by decide +kernel
theorem jd_X_call_68 : decode jc_X_call 68 = .ok (.ldc 163, 2) := by decide +kernel
theorem jd_X_call_70 : decode jc_X_call 70 = .ok (.invokespecial 130, 3) := by decide +kernel
theorem jd_X_call_73 : decode jc_X_call 73 = .ok (.athrow, 1) := by decide +kernel
theorem jd_X_call_74 : decode jc_X_call 74 = .ok (.aload_n 0, 1) := by decide +kernel
theorem jd_X_call_75 : decode jc_X_call 75 = .ok (.iload_n 3, 1) := by decide +kernel
theorem jd_X_call_76 : decode jc_X_call 76 = .ok (.invokevirtual 122, 3) := by decide +kernel
theorem jd_X_call_79 : decode jc_X_call 79 = .ok (.astore 8, 2) := by decide +kernel
theorem jd_X_call_81 : decode jc_X_call 81 = .ok (.iload_n 2, 1) := by decide +kernel
theorem jd_X_call_82 : decode jc_X_call 82 = .ok (.iload_n 1, 1) := by decide +kernel
theorem jd_X_call_83 : decode jc_X_call 83 = .ok (.invokestatic 150, 3) := by decide +kernel
theorem jd_X_call_86 : decode jc_X_call 86 = .ok (.if_icmp .ne 26, 3) := by decide +kernel
theorem jd_X_call_89 : decode jc_X_call 89 = .ok (.iload 5, 2) := by decide +kernel
theorem jd_X_call_91 : decode jc_X_call 91 = .ok (.iload_n 1, 1) := by decide +kernel
theorem jd_X_call_92 : decode jc_X_call 92 = .ok (.invokestatic 165, 3) := by decide +kernel
theorem jd_X_call_95 : decode jc_X_call 95 = .ok (.if_icmp .lt 17, 3) := by decide +kernel
theorem jd_X_call_98 : decode jc_X_call 98 = .ok (.iload 5, 2) := by decide +kernel
theorem jd_X_call_100 : decode jc_X_call 100 = .ok (.iload_n 1, 1) := by decide +kernel
theorem jd_X_call_101 : decode jc_X_call 101 = .ok (.invokestatic 168, 3) := by decide +kernel
theorem jd_X_call_104 : decode jc_X_call 104 = .ok (.if_icmp .gt 8, 3) := by decide +kernel
theorem jd_X_call_107 : decode jc_X_call 107 = .ok (.aload 8, 2) := by decide +kernel
theorem jd_X_call_109 : decode jc_X_call 109 = .ok (.ifnonnull 6, 3) := by decide +kernel
theorem jd_X_call_112 : decode jc_X_call 112 = .ok (.bipush (-5), 2) := by decide +kernel
theorem jd_X_call_114 : decode jc_X_call 114 = .ok (.ireturn, 1) := by decide +kernel
theorem jd_X_call_115 : decode jc_X_call 115 = .ok (.aload_n 0, 1) := by decide +kernel
theorem jd_X_call_116 : decode jc_X_call 116 = .ok (.getfield 32, 3) := by decide +kernel
theorem jd_X_call_119 : decode jc_X_call 119 = .ok (.iload_n 3, 1) := by decide +kernel
theorem jd_X_call_120 : decode jc_X_call 120 = .ok (.iload_n 2, 1) := by decide +kernel
theorem jd_X_call_121 : decode jc_X_call 121 = .ok (.iconst 2, 1) := by decide +kernel
theorem jd_X_call_122 : decode jc_X_call 122 = .ok (.if_icmp .ne 13, 3) := by decide +kernel
theorem jd_X_call_125 : decode jc_X_call 125 = .ok (.iload 4, 2) := by decide +kernel
theorem jd_X_call_127 : decode jc_X_call 127 = .ok (.ifCond .lt 8, 3) := by decide +kernel
theorem jd_X_call_130 : decode jc_X_call 130 = .ok (.iload 4, 2) := by decide +kernel
theorem jd_X_call_132 : decode jc_X_call 132 = .ok (.goto 4, 3) := by decide +kernel
theorem jd_X_call_135 : decode jc_X_call 135 = .ok (.iconst (-1), 1) := by decide +kernel
theorem jd_X_call_136 : decode jc_X_call 136 = .ok (.invokevirtual 65, 3) := by decide +kernel
theorem jd_X_call_139 : decode jc_X_call 139 = .ok (.aload_n 0, 1) := by decide +kernel
theorem jd_X_call_140 : decode jc_X_call 140 = .ok (.getfield 32, 3) := by decide +kernel
theorem jd_X_call_143 : decode jc_X_call 143 = .ok (.aload 8, 2) := by decide +kernel
theorem jd_X_call_145 : decode jc_X_call 145 = .ok (.invokevirtual 141, 3) := by decide +kernel
theorem jd_X_call_148 : decode jc_X_call 148 = .ok (.iload_n 2, 1) := by decide +kernel
theorem jd_X_call_149 : decode jc_X_call 149 = .ok (.iconst 1, 1) := by decide +kernel
theorem jd_X_call_150 : decode jc_X_call 150 = .ok (.if_icmp .ne 21, 3) := by decide +kernel
theorem jd_X_call_153 : decode jc_X_call 153 = .ok (.aload_n 0, 1) := by decide +kernel
theorem jd_X_call_154 : decode jc_X_call 154 = .ok (.iload_n 1, 1) := by decide +kernel
theorem jd_X_call_155 : decode jc_X_call 155 = .ok (.aload 8, 2) := by decide +kernel
theorem jd_X_call_157 : decode jc_X_call 157 = .ok (.iload 5, 2) := by decide +kernel
theorem jd_X_call_159 : decode jc_X_call 159 = .ok (.iload 6, 2) := by decide +kernel
theorem jd_X_call_161 : decode jc_X_call 161 = .ok (.iload 7, 2) := by decide +kernel
theorem jd_X_call_163 : decode jc_X_call 163 = .ok (.invokevirtual 171, 3) := by decide +kernel
theorem jd_X_call_166 : decode jc_X_call 166 = .ok (.istore 9, 2) := by decide +kernel
theorem jd_X_call_168 : decode jc_X_call 168 = .ok (.goto 52, 3) := by decide +kernel
theorem jd_X_call_171 : decode jc_X_call 171 = .ok (.iload_n 1, 1) := by decide +kernel
theorem jd_X_call_172 : decode jc_X_call 172 = .ok (.bipush 16, 2) := by decide +kernel
theorem jd_X_call_174 : decode jc_X_call 174 = .ok (.if_icmp .eq 9, 3) := by decide +kernel
theorem jd_X_call_177 : decode jc_X_call 177 = .ok (.iload_n 1, 1) := by decide +kernel
theorem jd_X_call_178 : decode jc_X_call 178 = .ok (.bipush 17, 2) := by decide +kernel
theorem jd_X_call_180 : decode jc_X_call 180 = .ok (.if_icmp .ne 23, 3) := by decide +kernel
theorem jd_X_call_183 : decode jc_X_call 183 = .ok (.aload_n 0, 1) := by decide +kernel
theorem jd_X_call_184 : decode jc_X_call 184 = .ok (.iload_n 1, 1) := by decide +kernel
theorem jd_X_call_185 : decode jc_X_call 185 = .ok (.aload 8, 2) := by decide +kernel
theorem jd_X_call_187 : decode jc_X_call 187 = .ok (.aload_n 0, 1) := by decide +kernel
theorem jd_X_call_188 : decode jc_X_call 188 = .ok (.iconst (-1), 1) := by decide +kernel
theorem jd_X_call_189 : decode jc_X_call 189 = .ok (.iload 4, 2) := by decide +kernel
theorem jd_X_call_191 : decode jc_X_call 191 = .ok (.isub, 1) := by decide +kernel
theorem jd_X_call_192 : decode jc_X_call 192 = .ok (.invokevirtual 175, 3) := by decide +kernel
theorem jd_X_call_195 : decode jc_X_call 195 = .ok (.invokevirtual 179, 3) := by decide +kernel
theorem jd_X_call_198 : decode jc_X_call 198 = .ok (.istore 9, 2) := by decide +kernel
theorem jd_X_call_200 : decode jc_X_call 200 = .ok (.goto 20, 3) := by decide +kernel
theorem jd_X_call_203 : decode jc_X_call 203 = .ok (.aload_n 0, 1) := by decide +kernel
theorem jd_X_call_204 : decode jc_X_call 204 = .ok (.iload_n 1, 1) := by decide +kernel
theorem jd_X_call_205 : decode jc_X_call 205 = .ok (.aload 8, 2) := by decide +kernel
theorem jd_X_call_207 : decode jc_X_call 207 = .ok (.aload_n 0, 1) := by decide +kernel
theorem jd_X_call_208 : decode jc_X_call 208 = .ok (.iload 4, 2) := by decide +kernel
theorem jd_X_call_210 : decode jc_X_call 210 = .ok (.invokevirtual 122, 3) := by decide +kernel
theorem jd_X_call_213 : decode jc_X_call 213 = .ok (.iload 6, 2) := by decide +kernel
theorem jd_X_call_215 : decode jc_X_call 215 = .ok (.invokevirtual 183, 3) := by decide +kernel
theorem jd_X_call_218 : decode jc_X_call 218 = .ok (.istore 9, 2) := by decide +kernel
theorem jd_X_call_220 : decode jc_X_call 220 = .ok (.iload 9, 2) := by decide +kernel
theorem jd_X_call_222 : decode jc_X_call 222 = .ok (.ifCond .eq 10, 3) := by decide +kernel
theorem jd_X_call_225 : decode jc_X_call 225 = .ok (.aload_n 0, 1) := by decide +kernel
theorem jd_X_call_226 : decode jc_X_call 226 = .ok (.invokevirtual 83, 3) := by decide +kernel
theorem jd_X_call_229 : decode jc_X_call 229 = .ok (.goto 5, 3) := by decide +kernel
theorem jd_X_call_232 : decode jc_X_call 232 = .ok (.bipush (-5), 2) := by decide +kernel
theorem jd_X_call_234 : decode jc_X_call 234 = .ok (.ireturn, 1) := by decide +kernel
abbrev jc_X_reshape : ByteArray := prog_1_method_10_code
abbrev jy_X_reshape : MethodName := ⟨"MeasuredTensors", "reshape", "(IIIIII)I"⟩
theorem jd_X_reshape_0 : decode jc_X_reshape 0 = .ok (.aload_n 0, 1) := by decide +kernel
theorem jd_X_reshape_1 : decode jc_X_reshape 1 = .ok (.iload_n 1, 1) := by decide +kernel
theorem jd_X_reshape_2 : decode jc_X_reshape 2 = .ok (.invokevirtual 122, 3) := by decide +kernel
theorem jd_X_reshape_5 : decode jc_X_reshape 5 = .ok (.astore 7, 2) := by decide +kernel
theorem jd_X_reshape_7 : decode jc_X_reshape 7 = .ok (.aload 7, 2) := by decide +kernel
theorem jd_X_reshape_9 : decode jc_X_reshape 9 = .ok (.ifnonnull 13, 3) := by decide +kernel
theorem jd_X_reshape_12 : decode jc_X_reshape 12 = .ok (.new 126, 3) := by decide +kernel
theorem jd_X_reshape_15 : decode jc_X_reshape 15 = .ok (.dup, 1) := by decide +kernel
theorem jd_X_reshape_16 : decode jc_X_reshape 16 = .ok (.ldc 128, 2) := by decide +kernel
theorem jd_X_reshape_18 : decode jc_X_reshape 18 = .ok (.invokespecial 130, 3) := by decide +kernel
theorem jd_X_reshape_21 : decode jc_X_reshape 21 = .ok (.athrow, 1) := by decide +kernel
theorem jd_X_reshape_22 : decode jc_X_reshape 22 = .ok (.iload_n 2, 1) := by decide +kernel
theorem jd_X_reshape_23 : decode jc_X_reshape 23 = .ok (.iload_n 3, 1) := by decide +kernel
theorem jd_X_reshape_24 : decode jc_X_reshape 24 = .ok (.iload 4, 2) := by decide +kernel
theorem jd_X_reshape_26 : decode jc_X_reshape 26 = .ok (.iload 5, 2) := by decide +kernel
theorem jd_X_reshape_28 : decode jc_X_reshape 28 = .ok (.iload 6, 2) := by decide +kernel
theorem jd_X_reshape_30 : decode jc_X_reshape 30 = .ok (.invokestatic 87, 3) := by decide +kernel
theorem jd_X_reshape_33 : decode jc_X_reshape 33 = .ok (.ifCond .ne 13, 3) := by decide +kernel
theorem jd_X_reshape_36 : decode jc_X_reshape 36 = .ok (.new 52, 3) := by decide +kernel
theorem jd_X_reshape_39 : decode jc_X_reshape 39 = .ok (.dup, 1) := by decide +kernel
theorem jd_X_reshape_40 : decode jc_X_reshape 40 = .ok (.ldc 91, 2) := by decide +kernel
theorem jd_X_reshape_42 : decode jc_X_reshape 42 = .ok (.invokespecial 56, 3) := by decide +kernel
theorem jd_X_reshape_45 : decode jc_X_reshape 45 = .ok (.athrow, 1) := by decide +kernel
theorem jd_X_reshape_46 : decode jc_X_reshape 46 = .ok (.aload_n 0, 1) := by decide +kernel
theorem jd_X_reshape_47 : decode jc_X_reshape 47 = .ok (.getfield 32, 3) := by decide +kernel
theorem jd_X_reshape_50 : decode jc_X_reshape 50 = .ok (.iload_n 1, 1) := by decide +kernel
theorem jd_X_reshape_51 : decode jc_X_reshape 51 = .ok (.iconst (-1), 1) := by decide +kernel
theorem jd_X_reshape_52 : decode jc_X_reshape 52 = .ok (.invokevirtual 65, 3) := by decide +kernel
theorem jd_X_reshape_55 : decode jc_X_reshape 55 = .ok (.aload_n 0, 1) := by decide +kernel
theorem jd_X_reshape_56 : decode jc_X_reshape 56 = .ok (.getfield 32, 3) := by decide +kernel
theorem jd_X_reshape_59 : decode jc_X_reshape 59 = .ok (.aload 7, 2) := by decide +kernel
theorem jd_X_reshape_61 : decode jc_X_reshape 61 = .ok (.invokevirtual 141, 3) := by decide +kernel
theorem jd_X_reshape_64 : decode jc_X_reshape 64 = .ok (.aload_n 0, 1) := by decide +kernel
theorem jd_X_reshape_65 : decode jc_X_reshape 65 = .ok (.getfield 32, 3) := by decide +kernel
theorem jd_X_reshape_68 : decode jc_X_reshape 68 = .ok (.getfield 93, 3) := by decide +kernel
theorem jd_X_reshape_71 : decode jc_X_reshape 71 = .ok (.iload_n 2, 1) := by decide +kernel
theorem jd_X_reshape_72 : decode jc_X_reshape 72 = .ok (.iload_n 3, 1) := by decide +kernel
theorem jd_X_reshape_73 : decode jc_X_reshape 73 = .ok (.iload 4, 2) := by decide +kernel
theorem jd_X_reshape_75 : decode jc_X_reshape 75 = .ok (.iload 5, 2) := by decide +kernel
theorem jd_X_reshape_77 : decode jc_X_reshape 77 = .ok (.iload 6, 2) := by decide +kernel
theorem jd_X_reshape_79 : decode jc_X_reshape 79 = .ok (.invokevirtual 97, 3) := by decide +kernel
theorem jd_X_reshape_82 : decode jc_X_reshape 82 = .ok (.aload_n 0, 1) := by decide +kernel
theorem jd_X_reshape_83 : decode jc_X_reshape 83 = .ok (.getfield 32, 3) := by decide +kernel
theorem jd_X_reshape_86 : decode jc_X_reshape 86 = .ok (.getfield 93, 3) := by decide +kernel
theorem jd_X_reshape_89 : decode jc_X_reshape 89 = .ok (.invokevirtual 114, 3) := by decide +kernel
theorem jd_X_reshape_92 : decode jc_X_reshape 92 = .ok (.aload 7, 2) := by decide +kernel
theorem jd_X_reshape_94 : decode jc_X_reshape 94 = .ok (.getfield 93, 3) := by decide +kernel
theorem jd_X_reshape_97 : decode jc_X_reshape 97 = .ok (.invokevirtual 114, 3) := by decide +kernel
theorem jd_X_reshape_100 : decode jc_X_reshape 100 = .ok (.if_icmp .ne 10, 3) := by decide +kernel
theorem jd_X_reshape_103 : decode jc_X_reshape 103 = .ok (.aload_n 0, 1) := by decide +kernel
theorem jd_X_reshape_104 : decode jc_X_reshape 104 = .ok (.invokevirtual 83, 3) := by decide +kernel
theorem jd_X_reshape_107 : decode jc_X_reshape 107 = .ok (.goto 5, 3) := by decide +kernel
theorem jd_X_reshape_110 : decode jc_X_reshape 110 = .ok (.bipush (-5), 2) := by decide +kernel
theorem jd_X_reshape_112 : decode jc_X_reshape 112 = .ok (.ireturn, 1) := by decide +kernel
abbrev jc_X_loss : ByteArray := prog_1_method_11_code
abbrev jy_X_loss : MethodName := ⟨"MeasuredTensors", "loss", "(I)I"⟩
theorem jd_X_loss_0 : decode jc_X_loss 0 = .ok (.aload_n 0, 1) := by decide +kernel
theorem jd_X_loss_1 : decode jc_X_loss 1 = .ok (.iload_n 1, 1) := by decide +kernel
theorem jd_X_loss_2 : decode jc_X_loss 2 = .ok (.invokevirtual 122, 3) := by decide +kernel
theorem jd_X_loss_5 : decode jc_X_loss 5 = .ok (.astore_n 2, 1) := by decide +kernel
theorem jd_X_loss_6 : decode jc_X_loss 6 = .ok (.aload_n 2, 1) := by decide +kernel
theorem jd_X_loss_7 : decode jc_X_loss 7 = .ok (.ifnonnull 13, 3) := by decide +kernel
theorem jd_X_loss_10 : decode jc_X_loss 10 = .ok (.new 126, 3) := by decide +kernel
theorem jd_X_loss_13 : decode jc_X_loss 13 = .ok (.dup, 1) := by decide +kernel
theorem jd_X_loss_14 : decode jc_X_loss 14 = .ok (.ldc 128, 2) := by decide +kernel
theorem jd_X_loss_16 : decode jc_X_loss 16 = .ok (.invokespecial 130, 3) := by decide +kernel
theorem jd_X_loss_19 : decode jc_X_loss 19 = .ok (.athrow, 1) := by decide +kernel
theorem jd_X_loss_20 : decode jc_X_loss 20 = .ok (.aload_n 2, 1) := by decide +kernel
theorem jd_X_loss_21 : decode jc_X_loss 21 = .ok (.getfield 93, 3) := by decide +kernel
theorem jd_X_loss_24 : decode jc_X_loss 24 = .ok (.getfield 187, 3) := by decide +kernel
theorem jd_X_loss_27 : decode jc_X_loss 27 = .ok (.ifCond .eq 13, 3) := by decide +kernel
theorem jd_X_loss_30 : decode jc_X_loss 30 = .ok (.new 52, 3) := by decide +kernel
theorem jd_X_loss_33 : decode jc_X_loss 33 = .ok (.dup, 1) := by decide +kernel
theorem jd_X_loss_34 : decode jc_X_loss 34 = .ok (.ldc 190, 2) := by decide +kernel
theorem jd_X_loss_36 : decode jc_X_loss 36 = .ok (.invokespecial 56, 3) := by decide +kernel
theorem jd_X_loss_39 : decode jc_X_loss 39 = .ok (.athrow, 1) := by decide +kernel
theorem jd_X_loss_40 : decode jc_X_loss 40 = .ok (.aload_n 0, 1) := by decide +kernel
theorem jd_X_loss_41 : decode jc_X_loss 41 = .ok (.invokevirtual 192, 3) := by decide +kernel
theorem jd_X_loss_44 : decode jc_X_loss 44 = .ok (.aload_n 0, 1) := by decide +kernel
theorem jd_X_loss_45 : decode jc_X_loss 45 = .ok (.getfield 24, 3) := by decide +kernel
theorem jd_X_loss_48 : decode jc_X_loss 48 = .ok (.iconst 1, 1) := by decide +kernel
theorem jd_X_loss_49 : decode jc_X_loss 49 = .ok (.iconst 0, 1) := by decide +kernel
theorem jd_X_loss_50 : decode jc_X_loss 50 = .ok (.lconst 1, 1) := by decide +kernel
theorem jd_X_loss_51 : decode jc_X_loss 51 = .ok (.invokevirtual 79, 3) := by decide +kernel
theorem jd_X_loss_54 : decode jc_X_loss 54 = .ok (.aload_n 2, 1) := by decide +kernel
theorem jd_X_loss_55 : decode jc_X_loss 55 = .ok (.aload_n 0, 1) := by decide +kernel
theorem jd_X_loss_56 : decode jc_X_loss 56 = .ok (.getfield 24, 3) := by decide +kernel
theorem jd_X_loss_59 : decode jc_X_loss 59 = .ok (.invokevirtual 195, 3) := by decide +kernel
theorem jd_X_loss_62 : decode jc_X_loss 62 = .ok (.aload_n 0, 1) := by decide +kernel
theorem jd_X_loss_63 : decode jc_X_loss 63 = .ok (.iload_n 1, 1) := by decide +kernel
theorem jd_X_loss_64 : decode jc_X_loss 64 = .ok (.putfield 46, 3) := by decide +kernel
theorem jd_X_loss_67 : decode jc_X_loss 67 = .ok (.aload_n 0, 1) := by decide +kernel
theorem jd_X_loss_68 : decode jc_X_loss 68 = .ok (.iload_n 1, 1) := by decide +kernel
theorem jd_X_loss_69 : decode jc_X_loss 69 = .ok (.invokevirtual 199, 3) := by decide +kernel
theorem jd_X_loss_72 : decode jc_X_loss 72 = .ok (.ifCond .eq 14, 3) := by decide +kernel
theorem jd_X_loss_75 : decode jc_X_loss 75 = .ok (.aload_n 0, 1) := by decide +kernel
theorem jd_X_loss_76 : decode jc_X_loss 76 = .ok (.invokevirtual 202, 3) := by decide +kernel
theorem jd_X_loss_79 : decode jc_X_loss 79 = .ok (.ifCond .eq 7, 3) := by decide +kernel
theorem jd_X_loss_82 : decode jc_X_loss 82 = .ok (.iconst 1, 1) := by decide +kernel
theorem jd_X_loss_83 : decode jc_X_loss 83 = .ok (.goto 4, 3) := by decide +kernel
theorem jd_X_loss_86 : decode jc_X_loss 86 = .ok (.iconst 0, 1) := by decide +kernel
theorem jd_X_loss_87 : decode jc_X_loss 87 = .ok (.istore_n 3, 1) := by decide +kernel
theorem jd_X_loss_88 : decode jc_X_loss 88 = .ok (.iload_n 3, 1) := by decide +kernel
theorem jd_X_loss_89 : decode jc_X_loss 89 = .ok (.ifCond .eq 10, 3) := by decide +kernel
theorem jd_X_loss_92 : decode jc_X_loss 92 = .ok (.aload_n 0, 1) := by decide +kernel
theorem jd_X_loss_93 : decode jc_X_loss 93 = .ok (.invokevirtual 206, 3) := by decide +kernel
theorem jd_X_loss_96 : decode jc_X_loss 96 = .ok (.goto 4, 3) := by decide +kernel
theorem jd_X_loss_99 : decode jc_X_loss 99 = .ok (.lconst 0, 1) := by decide +kernel
theorem jd_X_loss_100 : decode jc_X_loss 100 = .ok (.lstore 4, 2) := by decide +kernel
theorem jd_X_loss_102 : decode jc_X_loss 102 = .ok (.iload_n 3, 1) := by decide +kernel
theorem jd_X_loss_103 : decode jc_X_loss 103 = .ok (.ifCond .eq 12, 3) := by decide +kernel
theorem jd_X_loss_106 : decode jc_X_loss 106 = .ok (.lload 4, 2) := by decide +kernel
theorem jd_X_loss_108 : decode jc_X_loss 108 = .ok (.ldc2_w 210, 3) := by decide +kernel
theorem jd_X_loss_111 : decode jc_X_loss 111 = .ok (.lcmp, 1) := by decide +kernel
theorem jd_X_loss_112 : decode jc_X_loss 112 = .ok (.ifCond .le 15, 3) := by decide +kernel
theorem jd_X_loss_115 : decode jc_X_loss 115 = .ok (.aload_n 0, 1) := by decide +kernel
theorem jd_X_loss_116 : decode jc_X_loss 116 = .ok (.invokevirtual 192, 3) := by decide +kernel
theorem jd_X_loss_119 : decode jc_X_loss 119 = .ok (.aload_n 0, 1) := by decide +kernel
theorem jd_X_loss_120 : decode jc_X_loss 120 = .ok (.iconst (-1), 1) := by decide +kernel
theorem jd_X_loss_121 : decode jc_X_loss 121 = .ok (.putfield 46, 3) := by decide +kernel
theorem jd_X_loss_124 : decode jc_X_loss 124 = .ok (.bipush (-8), 2) := by decide +kernel
theorem jd_X_loss_126 : decode jc_X_loss 126 = .ok (.ireturn, 1) := by decide +kernel
theorem jd_X_loss_127 : decode jc_X_loss 127 = .ok (.lload 4, 2) := by decide +kernel
theorem jd_X_loss_129 : decode jc_X_loss 129 = .ok (.l2i, 1) := by decide +kernel
theorem jd_X_loss_130 : decode jc_X_loss 130 = .ok (.ireturn, 1) := by decide +kernel
abbrev jc_X_told : ByteArray := prog_1_method_12_code
abbrev jy_X_told : MethodName := ⟨"MeasuredTensors", "told", "(II)I"⟩
theorem jd_X_told_0 : decode jc_X_told 0 = .ok (.aload_n 0, 1) := by decide +kernel
theorem jd_X_told_1 : decode jc_X_told 1 = .ok (.iload_n 1, 1) := by decide +kernel
theorem jd_X_told_2 : decode jc_X_told 2 = .ok (.invokevirtual 122, 3) := by decide +kernel
theorem jd_X_told_5 : decode jc_X_told 5 = .ok (.astore_n 3, 1) := by decide +kernel
theorem jd_X_told_6 : decode jc_X_told 6 = .ok (.aload_n 3, 1) := by decide +kernel
theorem jd_X_told_7 : decode jc_X_told 7 = .ok (.ifnonnull 13, 3) := by decide +kernel
theorem jd_X_told_10 : decode jc_X_told 10 = .ok (.new 126, 3) := by decide +kernel
theorem jd_X_told_13 : decode jc_X_told 13 = .ok (.dup, 1) := by decide +kernel
theorem jd_X_told_14 : decode jc_X_told 14 = .ok (.ldc 128, 2) := by decide +kernel
theorem jd_X_told_16 : decode jc_X_told 16 = .ok (.invokespecial 130, 3) := by decide +kernel
theorem jd_X_told_19 : decode jc_X_told 19 = .ok (.athrow, 1) := by decide +kernel
theorem jd_X_told_20 : decode jc_X_told 20 = .ok (.iload_n 2, 1) := by decide +kernel
theorem jd_X_told_21 : decode jc_X_told 21 = .ok (.tableswitch 154 0 11 #[63, 71, 71, 71, 71, 82, 90, 95, 103, 111, 116, 135], 63) := by decide +kernel
theorem jd_X_told_84 : decode jc_X_told 84 = .ok (.aload_n 3, 1) := by decide +kernel
theorem jd_X_told_85 : decode jc_X_told 85 = .ok (.getfield 93, 3) := by decide +kernel
theorem jd_X_told_88 : decode jc_X_told 88 = .ok (.getfield 187, 3) := by decide +kernel
theorem jd_X_told_91 : decode jc_X_told 91 = .ok (.ireturn, 1) := by decide +kernel
theorem jd_X_told_92 : decode jc_X_told 92 = .ok (.aload_n 3, 1) := by decide +kernel
theorem jd_X_told_93 : decode jc_X_told 93 = .ok (.getfield 93, 3) := by decide +kernel
theorem jd_X_told_96 : decode jc_X_told 96 = .ok (.iload_n 2, 1) := by decide +kernel
theorem jd_X_told_97 : decode jc_X_told 97 = .ok (.iconst 1, 1) := by decide +kernel
theorem jd_X_told_98 : decode jc_X_told 98 = .ok (.isub, 1) := by decide +kernel
theorem jd_X_told_99 : decode jc_X_told 99 = .ok (.invokevirtual 212, 3) := by decide +kernel
theorem jd_X_told_102 : decode jc_X_told 102 = .ok (.ireturn, 1) := by decide +kernel
theorem jd_X_told_103 : decode jc_X_told 103 = .ok (.aload_n 3, 1) := by decide +kernel
theorem jd_X_told_104 : decode jc_X_told 104 = .ok (.getfield 93, 3) := by decide +kernel
theorem jd_X_told_107 : decode jc_X_told 107 = .ok (.invokevirtual 114, 3) := by decide +kernel
theorem jd_X_told_110 : decode jc_X_told 110 = .ok (.ireturn, 1) := by decide +kernel
theorem jd_X_told_111 : decode jc_X_told 111 = .ok (.aload_n 3, 1) := by decide +kernel
theorem jd_X_told_112 : decode jc_X_told 112 = .ok (.getfield 215, 3) := by decide +kernel
theorem jd_X_told_115 : decode jc_X_told 115 = .ok (.ireturn, 1) := by decide +kernel
theorem jd_X_told_116 : decode jc_X_told 116 = .ok (.aload_n 3, 1) := by decide +kernel
theorem jd_X_told_117 : decode jc_X_told 117 = .ok (.getfield 73, 3) := by decide +kernel
theorem jd_X_told_120 : decode jc_X_told 120 = .ok (.getfield 218, 3) := by decide +kernel
theorem jd_X_told_123 : decode jc_X_told 123 = .ok (.ireturn, 1) := by decide +kernel
theorem jd_X_told_124 : decode jc_X_told 124 = .ok (.aload_n 3, 1) := by decide +kernel
theorem jd_X_told_125 : decode jc_X_told 125 = .ok (.getfield 73, 3) := by decide +kernel
theorem jd_X_told_128 : decode jc_X_told 128 = .ok (.getfield 221, 3) := by decide +kernel
theorem jd_X_told_131 : decode jc_X_told 131 = .ok (.ireturn, 1) := by decide +kernel
theorem jd_X_told_132 : decode jc_X_told 132 = .ok (.aload_n 3, 1) := by decide +kernel
theorem jd_X_told_133 : decode jc_X_told 133 = .ok (.getfield 224, 3) := by decide +kernel
theorem jd_X_told_136 : decode jc_X_told 136 = .ok (.ireturn, 1) := by decide +kernel
theorem jd_X_told_137 : decode jc_X_told 137 = .ok (.aload_n 3, 1) := by decide +kernel
theorem jd_X_told_138 : decode jc_X_told 138 = .ok (.getfield 224, 3) := by decide +kernel
theorem jd_X_told_141 : decode jc_X_told 141 = .ok (.ifCond .ne 7, 3) := by decide +kernel
theorem jd_X_told_144 : decode jc_X_told 144 = .ok (.iconst (-1), 1) := by decide +kernel
theorem jd_X_told_145 : decode jc_X_told 145 = .ok (.goto 10, 3) := by decide +kernel
theorem jd_X_told_148 : decode jc_X_told 148 = .ok (.aload_n 3, 1) := by decide +kernel
theorem jd_X_told_149 : decode jc_X_told 149 = .ok (.getfield 227, 3) := by decide +kernel
theorem jd_X_told_152 : decode jc_X_told 152 = .ok (.getfield 218, 3) := by decide +kernel
theorem jd_X_told_155 : decode jc_X_told 155 = .ok (.ireturn, 1) := by decide +kernel
theorem jd_X_told_156 : decode jc_X_told 156 = .ok (.aload_n 3, 1) := by decide +kernel
theorem jd_X_told_157 : decode jc_X_told 157 = .ok (.getfield 224, 3) := by decide +kernel
theorem jd_X_told_160 : decode jc_X_told 160 = .ok (.ifCond .ne 7, 3) := by decide +kernel
theorem jd_X_told_163 : decode jc_X_told 163 = .ok (.iconst (-1), 1) := by decide +kernel
theorem jd_X_told_164 : decode jc_X_told 164 = .ok (.goto 10, 3) := by decide +kernel
theorem jd_X_told_167 : decode jc_X_told 167 = .ok (.aload_n 3, 1) := by decide +kernel
theorem jd_X_told_168 : decode jc_X_told 168 = .ok (.getfield 227, 3) := by decide +kernel
theorem jd_X_told_171 : decode jc_X_told 171 = .ok (.getfield 221, 3) := by decide +kernel
theorem jd_X_told_174 : decode jc_X_told 174 = .ok (.ireturn, 1) := by decide +kernel
theorem jd_X_told_175 : decode jc_X_told 175 = .ok (.new 52, 3) := by decide +kernel
theorem jd_X_told_178 : decode jc_X_told 178 = .ok (.dup, 1) := by decide +kernel
theorem jd_X_told_179 : decode jc_X_told 179 = .ok (.ldc 230, 2) := by decide +kernel
theorem jd_X_told_181 : decode jc_X_told 181 = .ok (.invokespecial 56, 3) := by decide +kernel
theorem jd_X_told_184 : decode jc_X_told 184 = .ok (.athrow, 1) := by decide +kernel
abbrev jc_X_divisor : ByteArray := prog_1_method_13_code
abbrev jy_X_divisor : MethodName := ⟨"MeasuredTensors", "divisor", "(IZ)J"⟩
theorem jd_X_divisor_0 : decode jc_X_divisor 0 = .ok (.aload_n 0, 1) := by decide +kernel
theorem jd_X_divisor_1 : decode jc_X_divisor 1 = .ok (.iload_n 1, 1) := by decide +kernel
theorem jd_X_divisor_2 : decode jc_X_divisor 2 = .ok (.invokevirtual 122, 3) := by decide +kernel
theorem jd_X_divisor_5 : decode jc_X_divisor 5 = .ok (.astore_n 3, 1) := by decide +kernel
theorem jd_X_divisor_6 : decode jc_X_divisor 6 = .ok (.aload_n 3, 1) := by decide +kernel
theorem jd_X_divisor_7 : decode jc_X_divisor 7 = .ok (.ifnonnull 13, 3) := by decide +kernel
theorem jd_X_divisor_10 : decode jc_X_divisor 10 = .ok (.new 126, 3) := by decide +kernel
theorem jd_X_divisor_13 : decode jc_X_divisor 13 = .ok (.dup, 1) := by decide +kernel
theorem jd_X_divisor_14 : decode jc_X_divisor 14 = .ok (.ldc 128, 2) := by decide +kernel
theorem jd_X_divisor_16 : decode jc_X_divisor 16 = .ok (.invokespecial 130, 3) := by decide +kernel
theorem jd_X_divisor_19 : decode jc_X_divisor 19 = .ok (.athrow, 1) := by decide +kernel
theorem jd_X_divisor_20 : decode jc_X_divisor 20 = .ok (.iload_n 2, 1) := by decide +kernel
theorem jd_X_divisor_21 : decode jc_X_divisor 21 = .ok (.ifCond .eq 24, 3) := by decide +kernel
theorem jd_X_divisor_24 : decode jc_X_divisor 24 = .ok (.aload_n 3, 1) := by decide +kernel
theorem jd_X_divisor_25 : decode jc_X_divisor 25 = .ok (.getfield 224, 3) := by decide +kernel
theorem jd_X_divisor_28 : decode jc_X_divisor 28 = .ok (.ifCond .ne 9, 3) := by decide +kernel
theorem jd_X_divisor_31 : decode jc_X_divisor 31 = .ok (.ldc2_w 232, 3) := by decide +kernel
theorem jd_X_divisor_34 : decode jc_X_divisor 34 = .ok (.goto 10, 3) := by decide +kernel
theorem jd_X_divisor_37 : decode jc_X_divisor 37 = .ok (.aload_n 3, 1) := by decide +kernel
theorem jd_X_divisor_38 : decode jc_X_divisor 38 = .ok (.getfield 227, 3) := by decide +kernel
theorem jd_X_divisor_41 : decode jc_X_divisor 41 = .ok (.getfield 234, 3) := by decide +kernel
theorem jd_X_divisor_44 : decode jc_X_divisor 44 = .ok (.lreturn, 1) := by decide +kernel
theorem jd_X_divisor_45 : decode jc_X_divisor 45 = .ok (.aload_n 3, 1) := by decide +kernel
theorem jd_X_divisor_46 : decode jc_X_divisor 46 = .ok (.getfield 73, 3) := by decide +kernel
theorem jd_X_divisor_49 : decode jc_X_divisor 49 = .ok (.getfield 234, 3) := by decide +kernel
theorem jd_X_divisor_52 : decode jc_X_divisor 52 = .ok (.lreturn, 1) := by decide +kernel
abbrev jc_X_all : ByteArray := prog_1_method_14_code
abbrev jy_X_all : MethodName := ⟨"MeasuredTensors", "all", "(I)I"⟩
theorem jd_X_all_0 : decode jc_X_all 0 = .ok (.iload_n 1, 1) := by decide +kernel
theorem jd_X_all_1 : decode jc_X_all 1 = .ok (.tableswitch 51 0 3 #[31, 36, 41, 46], 31) := by decide +kernel
theorem jd_X_all_32 : decode jc_X_all 32 = .ok (.aload_n 0, 1) := by decide +kernel
theorem jd_X_all_33 : decode jc_X_all 33 = .ok (.getfield 36, 3) := by decide +kernel
theorem jd_X_all_36 : decode jc_X_all 36 = .ok (.ireturn, 1) := by decide +kernel
theorem jd_X_all_37 : decode jc_X_all 37 = .ok (.aload_n 0, 1) := by decide +kernel
theorem jd_X_all_38 : decode jc_X_all 38 = .ok (.getfield 40, 3) := by decide +kernel
theorem jd_X_all_41 : decode jc_X_all 41 = .ok (.ireturn, 1) := by decide +kernel
theorem jd_X_all_42 : decode jc_X_all 42 = .ok (.aload_n 0, 1) := by decide +kernel
theorem jd_X_all_43 : decode jc_X_all 43 = .ok (.getfield 43, 3) := by decide +kernel
theorem jd_X_all_46 : decode jc_X_all 46 = .ok (.ireturn, 1) := by decide +kernel
theorem jd_X_all_47 : decode jc_X_all 47 = .ok (.aload_n 0, 1) := by decide +kernel
theorem jd_X_all_48 : decode jc_X_all 48 = .ok (.getfield 46, 3) := by decide +kernel
theorem jd_X_all_51 : decode jc_X_all 51 = .ok (.ireturn, 1) := by decide +kernel
theorem jd_X_all_52 : decode jc_X_all 52 = .ok (.iconst (-1), 1) := by decide +kernel
theorem jd_X_all_53 : decode jc_X_all 53 = .ok (.ireturn, 1) := by decide +kernel
abbrev jc_X_tensorAt : ByteArray := prog_1_method_15_code
abbrev jy_X_tensorAt : MethodName := ⟨"MeasuredTensors", "tensorAt", "(I)LMeasuredTensors$Tensor;"⟩
theorem jd_X_tensorAt_0 : decode jc_X_tensorAt 0 = .ok (.iload_n 1, 1) := by decide +kernel
theorem jd_X_tensorAt_1 : decode jc_X_tensorAt 1 = .ok (.ifCond .lt 20, 3) := by decide +kernel
theorem jd_X_tensorAt_4 : decode jc_X_tensorAt 4 = .ok (.iload_n 1, 1) := by decide +kernel
theorem jd_X_tensorAt_5 : decode jc_X_tensorAt 5 = .ok (.aload_n 0, 1) := by decide +kernel
theorem jd_X_tensorAt_6 : decode jc_X_tensorAt 6 = .ok (.getfield 36, 3) := by decide +kernel
theorem jd_X_tensorAt_9 : decode jc_X_tensorAt 9 = .ok (.if_icmp .ge 12, 3) := by decide +kernel
theorem jd_X_tensorAt_12 : decode jc_X_tensorAt 12 = .ok (.iload_n 1, 1) := by decide +kernel
theorem jd_X_tensorAt_13 : decode jc_X_tensorAt 13 = .ok (.aload_n 0, 1) := by decide +kernel
theorem jd_X_tensorAt_14 : decode jc_X_tensorAt 14 = .ok (.getfield 11, 3) := by decide +kernel
theorem jd_X_tensorAt_17 : decode jc_X_tensorAt 17 = .ok (.arraylength, 1) := by decide +kernel
theorem jd_X_tensorAt_18 : decode jc_X_tensorAt 18 = .ok (.if_icmp .lt 7, 3) := by decide +kernel
theorem jd_X_tensorAt_21 : decode jc_X_tensorAt 21 = .ok (.aconst_null, 1) := by decide +kernel
theorem jd_X_tensorAt_22 : decode jc_X_tensorAt 22 = .ok (.goto 9, 3) := by decide +kernel
theorem jd_X_tensorAt_25 : decode jc_X_tensorAt 25 = .ok (.aload_n 0, 1) := by decide +kernel
theorem jd_X_tensorAt_26 : decode jc_X_tensorAt 26 = .ok (.getfield 11, 3) := by decide +kernel
theorem jd_X_tensorAt_29 : decode jc_X_tensorAt 29 = .ok (.iload_n 1, 1) := by decide +kernel
theorem jd_X_tensorAt_30 : decode jc_X_tensorAt 30 = .ok (.aaload, 1) := by decide +kernel
theorem jd_X_tensorAt_31 : decode jc_X_tensorAt 31 = .ok (.areturn, 1) := by decide +kernel
abbrev jc_X_indexAt : ByteArray := prog_1_method_16_code
abbrev jy_X_indexAt : MethodName := ⟨"MeasuredTensors", "indexAt", "(I)LMeasuredTensors$Index;"⟩
theorem jd_X_indexAt_0 : decode jc_X_indexAt 0 = .ok (.iload_n 1, 1) := by decide +kernel
theorem jd_X_indexAt_1 : decode jc_X_indexAt 1 = .ok (.ifCond .lt 20, 3) := by decide +kernel
theorem jd_X_indexAt_4 : decode jc_X_indexAt 4 = .ok (.iload_n 1, 1) := by decide +kernel
theorem jd_X_indexAt_5 : decode jc_X_indexAt 5 = .ok (.aload_n 0, 1) := by decide +kernel
theorem jd_X_indexAt_6 : decode jc_X_indexAt 6 = .ok (.getfield 40, 3) := by decide +kernel
theorem jd_X_indexAt_9 : decode jc_X_indexAt 9 = .ok (.if_icmp .ge 12, 3) := by decide +kernel
theorem jd_X_indexAt_12 : decode jc_X_indexAt 12 = .ok (.iload_n 1, 1) := by decide +kernel
theorem jd_X_indexAt_13 : decode jc_X_indexAt 13 = .ok (.aload_n 0, 1) := by decide +kernel
theorem jd_X_indexAt_14 : decode jc_X_indexAt 14 = .ok (.getfield 17, 3) := by decide +kernel
theorem jd_X_indexAt_17 : decode jc_X_indexAt 17 = .ok (.arraylength, 1) := by decide +kernel
theorem jd_X_indexAt_18 : decode jc_X_indexAt 18 = .ok (.if_icmp .lt 7, 3) := by decide +kernel
theorem jd_X_indexAt_21 : decode jc_X_indexAt 21 = .ok (.aconst_null, 1) := by decide +kernel
theorem jd_X_indexAt_22 : decode jc_X_indexAt 22 = .ok (.goto 9, 3) := by decide +kernel
theorem jd_X_indexAt_25 : decode jc_X_indexAt 25 = .ok (.aload_n 0, 1) := by decide +kernel
theorem jd_X_indexAt_26 : decode jc_X_indexAt 26 = .ok (.getfield 17, 3) := by decide +kernel
theorem jd_X_indexAt_29 : decode jc_X_indexAt 29 = .ok (.iload_n 1, 1) := by decide +kernel
theorem jd_X_indexAt_30 : decode jc_X_indexAt 30 = .ok (.aaload, 1) := by decide +kernel
theorem jd_X_indexAt_31 : decode jc_X_indexAt 31 = .ok (.areturn, 1) := by decide +kernel
abbrev jc_X_isThere : ByteArray := prog_1_method_17_code
abbrev jy_X_isThere : MethodName := ⟨"MeasuredTensors", "isThere", "(I)Z"⟩
theorem jd_X_isThere_0 : decode jc_X_isThere 0 = .ok (.iload_n 1, 1) := by decide +kernel
theorem jd_X_isThere_1 : decode jc_X_isThere 1 = .ok (.ifCond .ge 21, 3) := by decide +kernel
theorem jd_X_isThere_4 : decode jc_X_isThere 4 = .ok (.aload_n 0, 1) := by decide +kernel
theorem jd_X_isThere_5 : decode jc_X_isThere 5 = .ok (.iconst (-1), 1) := by decide +kernel
theorem jd_X_isThere_6 : decode jc_X_isThere 6 = .ok (.iload_n 1, 1) := by decide +kernel
theorem jd_X_isThere_7 : decode jc_X_isThere 7 = .ok (.isub, 1) := by decide +kernel
theorem jd_X_isThere_8 : decode jc_X_isThere 8 = .ok (.invokevirtual 175, 3) := by decide +kernel
theorem jd_X_isThere_11 : decode jc_X_isThere 11 = .ok (.ifnull 7, 3) := by decide +kernel
theorem jd_X_isThere_14 : decode jc_X_isThere 14 = .ok (.iconst 1, 1) := by decide +kernel
theorem jd_X_isThere_15 : decode jc_X_isThere 15 = .ok (.goto 20, 3) := by decide +kernel
theorem jd_X_isThere_18 : decode jc_X_isThere 18 = .ok (.iconst 0, 1) := by decide +kernel
theorem jd_X_isThere_19 : decode jc_X_isThere 19 = .ok (.goto 16, 3) := by decide +kernel
theorem jd_X_isThere_22 : decode jc_X_isThere 22 = .ok (.aload_n 0, 1) := by decide +kernel
theorem jd_X_isThere_23 : decode jc_X_isThere 23 = .ok (.iload_n 1, 1) := by decide +kernel
theorem jd_X_isThere_24 : decode jc_X_isThere 24 = .ok (.invokevirtual 122, 3) := by decide +kernel
theorem jd_X_isThere_27 : decode jc_X_isThere 27 = .ok (.ifnull 7, 3) := by decide +kernel
theorem jd_X_isThere_30 : decode jc_X_isThere 30 = .ok (.iconst 1, 1) := by decide +kernel
theorem jd_X_isThere_31 : decode jc_X_isThere 31 = .ok (.goto 4, 3) := by decide +kernel
theorem jd_X_isThere_34 : decode jc_X_isThere 34 = .ok (.iconst 0, 1) := by decide +kernel
theorem jd_X_isThere_35 : decode jc_X_isThere 35 = .ok (.ireturn, 1) := by decide +kernel
