/-! decode rows (written by wip/whole/mk_names.py) -/
theorem d_Cut_init_0 : decode prog_1_method_1_code 0 = .ok (.aload_n 0, 1) := by decide +kernel
theorem d_Cut_init_1 : decode prog_1_method_1_code 1 = .ok (.invokespecial 3, 3) := by decide +kernel
theorem d_Cut_init_4 : decode prog_1_method_1_code 4 = .ok (.aload_n 0, 1) := by decide +kernel
theorem d_Cut_init_5 : decode prog_1_method_1_code 5 = .ok (.new 9, 3) := by decide +kernel
theorem d_Cut_init_8 : decode prog_1_method_1_code 8 = .ok (.dup, 1) := by decide +kernel
theorem d_Cut_init_9 : decode prog_1_method_1_code 9 = .ok (.invokespecial 11, 3) := by decide +kernel
theorem d_Cut_init_12 : decode prog_1_method_1_code 12 = .ok (.putfield 12, 3) := by decide +kernel
theorem d_Cut_init_15 : decode prog_1_method_1_code 15 = .ok (.aload_n 0, 1) := by decide +kernel
theorem d_Cut_init_16 : decode prog_1_method_1_code 16 = .ok (.new 16, 3) := by decide +kernel
theorem d_Cut_init_19 : decode prog_1_method_1_code 19 = .ok (.dup, 1) := by decide +kernel
theorem d_Cut_init_20 : decode prog_1_method_1_code 20 = .ok (.invokespecial 18, 3) := by decide +kernel
theorem d_Cut_init_23 : decode prog_1_method_1_code 23 = .ok (.putfield 19, 3) := by decide +kernel
theorem d_Cut_init_26 : decode prog_1_method_1_code 26 = .ok (.aload_n 0, 1) := by decide +kernel
theorem d_Cut_init_27 : decode prog_1_method_1_code 27 = .ok (.new 23, 3) := by decide +kernel
theorem d_Cut_init_30 : decode prog_1_method_1_code 30 = .ok (.dup, 1) := by decide +kernel
theorem d_Cut_init_31 : decode prog_1_method_1_code 31 = .ok (.invokespecial 25, 3) := by decide +kernel
theorem d_Cut_init_34 : decode prog_1_method_1_code 34 = .ok (.putfield 26, 3) := by decide +kernel
theorem d_Cut_init_37 : decode prog_1_method_1_code 37 = .ok (.aload_n 0, 1) := by decide +kernel
theorem d_Cut_init_38 : decode prog_1_method_1_code 38 = .ok (.new 30, 3) := by decide +kernel
theorem d_Cut_init_41 : decode prog_1_method_1_code 41 = .ok (.dup, 1) := by decide +kernel
theorem d_Cut_init_42 : decode prog_1_method_1_code 42 = .ok (.invokespecial 32, 3) := by decide +kernel
theorem d_Cut_init_45 : decode prog_1_method_1_code 45 = .ok (.putfield 33, 3) := by decide +kernel
theorem d_Cut_init_48 : decode prog_1_method_1_code 48 = .ok (.aload_n 0, 1) := by decide +kernel
theorem d_Cut_init_49 : decode prog_1_method_1_code 49 = .ok (.bipush 100, 2) := by decide +kernel
theorem d_Cut_init_51 : decode prog_1_method_1_code 51 = .ok (.putfield 37, 3) := by decide +kernel
theorem d_Cut_init_54 : decode prog_1_method_1_code 54 = .ok (.aload_n 0, 1) := by decide +kernel
theorem d_Cut_init_55 : decode prog_1_method_1_code 55 = .ok (.sipush 1000, 3) := by decide +kernel
theorem d_Cut_init_58 : decode prog_1_method_1_code 58 = .ok (.putfield 41, 3) := by decide +kernel
theorem d_Cut_init_61 : decode prog_1_method_1_code 61 = .ok (.aload_n 0, 1) := by decide +kernel
theorem d_Cut_init_62 : decode prog_1_method_1_code 62 = .ok (.iconst 1, 1) := by decide +kernel
theorem d_Cut_init_63 : decode prog_1_method_1_code 63 = .ok (.putfield 44, 3) := by decide +kernel
theorem d_Cut_init_66 : decode prog_1_method_1_code 66 = .ok (.return_, 1) := by decide +kernel
theorem d_Cut_step_0 : decode prog_1_method_2_code 0 = .ok (.aload_n 0, 1) := by decide +kernel
theorem d_Cut_step_1 : decode prog_1_method_2_code 1 = .ok (.getfield 33, 3) := by decide +kernel
theorem d_Cut_step_4 : decode prog_1_method_2_code 4 = .ok (.getfield 48, 3) := by decide +kernel
theorem d_Cut_step_7 : decode prog_1_method_2_code 7 = .ok (.ifCond .le 13, 3) := by decide +kernel
theorem d_Cut_step_10 : decode prog_1_method_2_code 10 = .ok (.new 51, 3) := by decide +kernel
theorem d_Cut_step_13 : decode prog_1_method_2_code 13 = .ok (.dup, 1) := by decide +kernel
theorem d_Cut_step_14 : decode prog_1_method_2_code 14 = .ok (.ldc 53, 2) := by decide +kernel
theorem d_Cut_step_16 : decode prog_1_method_2_code 16 = .ok (.invokespecial 55, 3) := by decide +kernel
theorem d_Cut_step_19 : decode prog_1_method_2_code 19 = .ok (.athrow, 1) := by decide +kernel
theorem d_Cut_step_20 : decode prog_1_method_2_code 20 = .ok (.iload_n 1, 1) := by decide +kernel
theorem d_Cut_step_21 : decode prog_1_method_2_code 21 = .ok (.iconst 1, 1) := by decide +kernel
theorem d_Cut_step_22 : decode prog_1_method_2_code 22 = .ok (.ldc 58, 2) := by decide +kernel
theorem d_Cut_step_24 : decode prog_1_method_2_code 24 = .ok (.invokestatic 59, 3) := by decide +kernel
theorem d_Cut_step_27 : decode prog_1_method_2_code 27 = .ok (.ifCond .ne 13, 3) := by decide +kernel
theorem d_Cut_step_30 : decode prog_1_method_2_code 30 = .ok (.iload_n 2, 1) := by decide +kernel
theorem d_Cut_step_31 : decode prog_1_method_2_code 31 = .ok (.iconst 1, 1) := by decide +kernel
theorem d_Cut_step_32 : decode prog_1_method_2_code 32 = .ok (.ldc 63, 2) := by decide +kernel
theorem d_Cut_step_34 : decode prog_1_method_2_code 34 = .ok (.invokestatic 59, 3) := by decide +kernel
theorem d_Cut_step_37 : decode prog_1_method_2_code 37 = .ok (.ifCond .eq 13, 3) := by decide +kernel
theorem d_Cut_step_40 : decode prog_1_method_2_code 40 = .ok (.new 64, 3) := by decide +kernel
theorem d_Cut_step_43 : decode prog_1_method_2_code 43 = .ok (.dup, 1) := by decide +kernel
theorem d_Cut_step_44 : decode prog_1_method_2_code 44 = .ok (.ldc 66, 2) := by decide +kernel
theorem d_Cut_step_46 : decode prog_1_method_2_code 46 = .ok (.invokespecial 68, 3) := by decide +kernel
theorem d_Cut_step_49 : decode prog_1_method_2_code 49 = .ok (.athrow, 1) := by decide +kernel
theorem d_Cut_step_50 : decode prog_1_method_2_code 50 = .ok (.aload_n 0, 1) := by decide +kernel
theorem d_Cut_step_51 : decode prog_1_method_2_code 51 = .ok (.iload_n 1, 1) := by decide +kernel
theorem d_Cut_step_52 : decode prog_1_method_2_code 52 = .ok (.putfield 37, 3) := by decide +kernel
theorem d_Cut_step_55 : decode prog_1_method_2_code 55 = .ok (.aload_n 0, 1) := by decide +kernel
theorem d_Cut_step_56 : decode prog_1_method_2_code 56 = .ok (.iload_n 2, 1) := by decide +kernel
theorem d_Cut_step_57 : decode prog_1_method_2_code 57 = .ok (.putfield 41, 3) := by decide +kernel
theorem d_Cut_step_60 : decode prog_1_method_2_code 60 = .ok (.return_, 1) := by decide +kernel
theorem d_Cut_cast_0 : decode prog_1_method_3_code 0 = .ok (.iload_n 1, 1) := by decide +kernel
theorem d_Cut_cast_1 : decode prog_1_method_3_code 1 = .ok (.ifCond .ge 13, 3) := by decide +kernel
theorem d_Cut_cast_4 : decode prog_1_method_3_code 4 = .ok (.new 64, 3) := by decide +kernel
theorem d_Cut_cast_7 : decode prog_1_method_3_code 7 = .ok (.dup, 1) := by decide +kernel
theorem d_Cut_cast_8 : decode prog_1_method_3_code 8 = .ok (.ldc 69, 2) := by decide +kernel
theorem d_Cut_cast_10 : decode prog_1_method_3_code 10 = .ok (.invokespecial 68, 3) := by decide +kernel
theorem d_Cut_cast_13 : decode prog_1_method_3_code 13 = .ok (.athrow, 1) := by decide +kernel
theorem d_Cut_cast_14 : decode prog_1_method_3_code 14 = .ok (.iload_n 1, 1) := by decide +kernel
theorem d_Cut_cast_15 : decode prog_1_method_3_code 15 = .ok (.sipush 300, 3) := by decide +kernel
theorem d_Cut_cast_18 : decode prog_1_method_3_code 18 = .ok (.aload_n 0, 1) := by decide +kernel
theorem d_Cut_cast_19 : decode prog_1_method_3_code 19 = .ok (.getfield 12, 3) := by decide +kernel
theorem d_Cut_cast_22 : decode prog_1_method_3_code 22 = .ok (.getfield 71, 3) := by decide +kernel
theorem d_Cut_cast_25 : decode prog_1_method_3_code 25 = .ok (.isub, 1) := by decide +kernel
theorem d_Cut_cast_26 : decode prog_1_method_3_code 26 = .ok (.if_icmp .le 13, 3) := by decide +kernel
theorem d_Cut_cast_29 : decode prog_1_method_3_code 29 = .ok (.new 74, 3) := by decide +kernel
theorem d_Cut_cast_32 : decode prog_1_method_3_code 32 = .ok (.dup, 1) := by decide +kernel
theorem d_Cut_cast_33 : decode prog_1_method_3_code 33 = .ok (.ldc 76, 2) := by decide +kernel
theorem d_Cut_cast_35 : decode prog_1_method_3_code 35 = .ok (.invokespecial 78, 3) := by decide +kernel
theorem d_Cut_cast_38 : decode prog_1_method_3_code 38 = .ok (.athrow, 1) := by decide +kernel
theorem d_Cut_cast_39 : decode prog_1_method_3_code 39 = .ok (.aload_n 0, 1) := by decide +kernel
theorem d_Cut_cast_40 : decode prog_1_method_3_code 40 = .ok (.getfield 12, 3) := by decide +kernel
theorem d_Cut_cast_43 : decode prog_1_method_3_code 43 = .ok (.dup, 1) := by decide +kernel
theorem d_Cut_cast_44 : decode prog_1_method_3_code 44 = .ok (.getfield 71, 3) := by decide +kernel
theorem d_Cut_cast_47 : decode prog_1_method_3_code 47 = .ok (.iload_n 1, 1) := by decide +kernel
theorem d_Cut_cast_48 : decode prog_1_method_3_code 48 = .ok (.iadd, 1) := by decide +kernel
theorem d_Cut_cast_49 : decode prog_1_method_3_code 49 = .ok (.putfield 71, 3) := by decide +kernel
theorem d_Cut_cast_52 : decode prog_1_method_3_code 52 = .ok (.aload_n 0, 1) := by decide +kernel
theorem d_Cut_cast_53 : decode prog_1_method_3_code 53 = .ok (.iconst 1, 1) := by decide +kernel
theorem d_Cut_cast_54 : decode prog_1_method_3_code 54 = .ok (.putfield 44, 3) := by decide +kernel
theorem d_Cut_cast_57 : decode prog_1_method_3_code 57 = .ok (.aload_n 0, 1) := by decide +kernel
theorem d_Cut_cast_58 : decode prog_1_method_3_code 58 = .ok (.getfield 12, 3) := by decide +kernel
theorem d_Cut_cast_61 : decode prog_1_method_3_code 61 = .ok (.getfield 71, 3) := by decide +kernel
theorem d_Cut_cast_64 : decode prog_1_method_3_code 64 = .ok (.ireturn, 1) := by decide +kernel
theorem d_Cut_want_0 : decode prog_1_method_4_code 0 = .ok (.aload_n 0, 1) := by decide +kernel
theorem d_Cut_want_1 : decode prog_1_method_4_code 1 = .ok (.getfield 19, 3) := by decide +kernel
theorem d_Cut_want_4 : decode prog_1_method_4_code 4 = .ok (.getfield 79, 3) := by decide +kernel
theorem d_Cut_want_7 : decode prog_1_method_4_code 7 = .ok (.bipush 6, 2) := by decide +kernel
theorem d_Cut_want_9 : decode prog_1_method_4_code 9 = .ok (.if_icmp .lt 13, 3) := by decide +kernel
theorem d_Cut_want_12 : decode prog_1_method_4_code 12 = .ok (.new 51, 3) := by decide +kernel
theorem d_Cut_want_15 : decode prog_1_method_4_code 15 = .ok (.dup, 1) := by decide +kernel
theorem d_Cut_want_16 : decode prog_1_method_4_code 16 = .ok (.ldc 80, 2) := by decide +kernel
theorem d_Cut_want_18 : decode prog_1_method_4_code 18 = .ok (.invokespecial 55, 3) := by decide +kernel
theorem d_Cut_want_21 : decode prog_1_method_4_code 21 = .ok (.athrow, 1) := by decide +kernel
theorem d_Cut_want_22 : decode prog_1_method_4_code 22 = .ok (.iload_n 1, 1) := by decide +kernel
theorem d_Cut_want_23 : decode prog_1_method_4_code 23 = .ok (.iload_n 2, 1) := by decide +kernel
theorem d_Cut_want_24 : decode prog_1_method_4_code 24 = .ok (.invokestatic 82, 3) := by decide +kernel
theorem d_Cut_want_27 : decode prog_1_method_4_code 27 = .ok (.ifCond .ne 13, 3) := by decide +kernel
theorem d_Cut_want_30 : decode prog_1_method_4_code 30 = .ok (.new 64, 3) := by decide +kernel
theorem d_Cut_want_33 : decode prog_1_method_4_code 33 = .ok (.dup, 1) := by decide +kernel
theorem d_Cut_want_34 : decode prog_1_method_4_code 34 = .ok (.ldc 86, 2) := by decide +kernel
theorem d_Cut_want_36 : decode prog_1_method_4_code 36 = .ok (.invokespecial 68, 3) := by decide +kernel
theorem d_Cut_want_39 : decode prog_1_method_4_code 39 = .ok (.athrow, 1) := by decide +kernel
theorem d_Cut_want_40 : decode prog_1_method_4_code 40 = .ok (.aload_n 0, 1) := by decide +kernel
theorem d_Cut_want_41 : decode prog_1_method_4_code 41 = .ok (.getfield 19, 3) := by decide +kernel
theorem d_Cut_want_44 : decode prog_1_method_4_code 44 = .ok (.getfield 79, 3) := by decide +kernel
theorem d_Cut_want_47 : decode prog_1_method_4_code 47 = .ok (.istore_n 3, 1) := by decide +kernel
theorem d_Cut_want_48 : decode prog_1_method_4_code 48 = .ok (.aload_n 0, 1) := by decide +kernel
theorem d_Cut_want_49 : decode prog_1_method_4_code 49 = .ok (.getfield 19, 3) := by decide +kernel
theorem d_Cut_want_52 : decode prog_1_method_4_code 52 = .ok (.dup, 1) := by decide +kernel
theorem d_Cut_want_53 : decode prog_1_method_4_code 53 = .ok (.getfield 79, 3) := by decide +kernel
theorem d_Cut_want_56 : decode prog_1_method_4_code 56 = .ok (.iconst 1, 1) := by decide +kernel
theorem d_Cut_want_57 : decode prog_1_method_4_code 57 = .ok (.iadd, 1) := by decide +kernel
theorem d_Cut_want_58 : decode prog_1_method_4_code 58 = .ok (.putfield 79, 3) := by decide +kernel
theorem d_Cut_want_61 : decode prog_1_method_4_code 61 = .ok (.aload_n 0, 1) := by decide +kernel
theorem d_Cut_want_62 : decode prog_1_method_4_code 62 = .ok (.iload_n 3, 1) := by decide +kernel
theorem d_Cut_want_63 : decode prog_1_method_4_code 63 = .ok (.iload_n 1, 1) := by decide +kernel
theorem d_Cut_want_64 : decode prog_1_method_4_code 64 = .ok (.iload_n 2, 1) := by decide +kernel
theorem d_Cut_want_65 : decode prog_1_method_4_code 65 = .ok (.invokevirtual 88, 3) := by decide +kernel
theorem d_Cut_want_68 : decode prog_1_method_4_code 68 = .ok (.iload_n 3, 1) := by decide +kernel
theorem d_Cut_want_69 : decode prog_1_method_4_code 69 = .ok (.ireturn, 1) := by decide +kernel
theorem d_Cut_span_0 : decode prog_1_method_5_code 0 = .ok (.iload_n 1, 1) := by decide +kernel
theorem d_Cut_span_1 : decode prog_1_method_5_code 1 = .ok (.ifCond .lt 14, 3) := by decide +kernel
theorem d_Cut_span_4 : decode prog_1_method_5_code 4 = .ok (.iload_n 1, 1) := by decide +kernel
theorem d_Cut_span_5 : decode prog_1_method_5_code 5 = .ok (.aload_n 0, 1) := by decide +kernel
theorem d_Cut_span_6 : decode prog_1_method_5_code 6 = .ok (.getfield 19, 3) := by decide +kernel
theorem d_Cut_span_9 : decode prog_1_method_5_code 9 = .ok (.getfield 79, 3) := by decide +kernel
theorem d_Cut_span_12 : decode prog_1_method_5_code 12 = .ok (.if_icmp .lt 13, 3) := by decide +kernel
theorem d_Cut_span_15 : decode prog_1_method_5_code 15 = .ok (.new 92, 3) := by decide +kernel
theorem d_Cut_span_18 : decode prog_1_method_5_code 18 = .ok (.dup, 1) := by decide +kernel
theorem d_Cut_span_19 : decode prog_1_method_5_code 19 = .ok (.ldc 94, 2) := by decide +kernel
theorem d_Cut_span_21 : decode prog_1_method_5_code 21 = .ok (.invokespecial 96, 3) := by decide +kernel
theorem d_Cut_span_24 : decode prog_1_method_5_code 24 = .ok (.athrow, 1) := by decide +kernel
theorem d_Cut_span_25 : decode prog_1_method_5_code 25 = .ok (.iload_n 2, 1) := by decide +kernel
theorem d_Cut_span_26 : decode prog_1_method_5_code 26 = .ok (.iload_n 3, 1) := by decide +kernel
theorem d_Cut_span_27 : decode prog_1_method_5_code 27 = .ok (.invokestatic 82, 3) := by decide +kernel
theorem d_Cut_span_30 : decode prog_1_method_5_code 30 = .ok (.ifCond .ne 13, 3) := by decide +kernel
theorem d_Cut_span_33 : decode prog_1_method_5_code 33 = .ok (.new 64, 3) := by decide +kernel
theorem d_Cut_span_36 : decode prog_1_method_5_code 36 = .ok (.dup, 1) := by decide +kernel
theorem d_Cut_span_37 : decode prog_1_method_5_code 37 = .ok (.ldc 86, 2) := by decide +kernel
theorem d_Cut_span_39 : decode prog_1_method_5_code 39 = .ok (.invokespecial 68, 3) := by decide +kernel
theorem d_Cut_span_42 : decode prog_1_method_5_code 42 = .ok (.athrow, 1) := by decide +kernel
theorem d_Cut_span_43 : decode prog_1_method_5_code 43 = .ok (.aload_n 0, 1) := by decide +kernel
theorem d_Cut_span_44 : decode prog_1_method_5_code 44 = .ok (.iload_n 1, 1) := by decide +kernel
theorem d_Cut_span_45 : decode prog_1_method_5_code 45 = .ok (.iload_n 2, 1) := by decide +kernel
theorem d_Cut_span_46 : decode prog_1_method_5_code 46 = .ok (.iload_n 3, 1) := by decide +kernel
theorem d_Cut_span_47 : decode prog_1_method_5_code 47 = .ok (.invokevirtual 88, 3) := by decide +kernel
theorem d_Cut_span_50 : decode prog_1_method_5_code 50 = .ok (.return_, 1) := by decide +kernel
theorem d_Cut_trim_0 : decode prog_1_method_6_code 0 = .ok (.iload_n 1, 1) := by decide +kernel
theorem d_Cut_trim_1 : decode prog_1_method_6_code 1 = .ok (.iconst 0, 1) := by decide +kernel
theorem d_Cut_trim_2 : decode prog_1_method_6_code 2 = .ok (.sipush 300, 3) := by decide +kernel
theorem d_Cut_trim_5 : decode prog_1_method_6_code 5 = .ok (.invokestatic 59, 3) := by decide +kernel
theorem d_Cut_trim_8 : decode prog_1_method_6_code 8 = .ok (.ifCond .ne 14, 3) := by decide +kernel
theorem d_Cut_trim_11 : decode prog_1_method_6_code 11 = .ok (.iload_n 2, 1) := by decide +kernel
theorem d_Cut_trim_12 : decode prog_1_method_6_code 12 = .ok (.iconst 0, 1) := by decide +kernel
theorem d_Cut_trim_13 : decode prog_1_method_6_code 13 = .ok (.sipush 300, 3) := by decide +kernel
theorem d_Cut_trim_16 : decode prog_1_method_6_code 16 = .ok (.invokestatic 59, 3) := by decide +kernel
theorem d_Cut_trim_19 : decode prog_1_method_6_code 19 = .ok (.ifCond .eq 13, 3) := by decide +kernel
theorem d_Cut_trim_22 : decode prog_1_method_6_code 22 = .ok (.new 64, 3) := by decide +kernel
theorem d_Cut_trim_25 : decode prog_1_method_6_code 25 = .ok (.dup, 1) := by decide +kernel
theorem d_Cut_trim_26 : decode prog_1_method_6_code 26 = .ok (.ldc 97, 2) := by decide +kernel
theorem d_Cut_trim_28 : decode prog_1_method_6_code 28 = .ok (.invokespecial 68, 3) := by decide +kernel
theorem d_Cut_trim_31 : decode prog_1_method_6_code 31 = .ok (.athrow, 1) := by decide +kernel
theorem d_Cut_trim_32 : decode prog_1_method_6_code 32 = .ok (.aload_n 0, 1) := by decide +kernel
theorem d_Cut_trim_33 : decode prog_1_method_6_code 33 = .ok (.getfield 12, 3) := by decide +kernel
theorem d_Cut_trim_36 : decode prog_1_method_6_code 36 = .ok (.iload_n 1, 1) := by decide +kernel
theorem d_Cut_trim_37 : decode prog_1_method_6_code 37 = .ok (.putfield 99, 3) := by decide +kernel
theorem d_Cut_trim_40 : decode prog_1_method_6_code 40 = .ok (.aload_n 0, 1) := by decide +kernel
theorem d_Cut_trim_41 : decode prog_1_method_6_code 41 = .ok (.getfield 12, 3) := by decide +kernel
theorem d_Cut_trim_44 : decode prog_1_method_6_code 44 = .ok (.iload_n 2, 1) := by decide +kernel
theorem d_Cut_trim_45 : decode prog_1_method_6_code 45 = .ok (.putfield 102, 3) := by decide +kernel
theorem d_Cut_trim_48 : decode prog_1_method_6_code 48 = .ok (.aload_n 0, 1) := by decide +kernel
theorem d_Cut_trim_49 : decode prog_1_method_6_code 49 = .ok (.iconst 1, 1) := by decide +kernel
theorem d_Cut_trim_50 : decode prog_1_method_6_code 50 = .ok (.putfield 44, 3) := by decide +kernel
theorem d_Cut_trim_53 : decode prog_1_method_6_code 53 = .ok (.return_, 1) := by decide +kernel
theorem d_Cut_bad_0 : decode prog_1_method_7_code 0 = .ok (.aload_n 0, 1) := by decide +kernel
theorem d_Cut_bad_1 : decode prog_1_method_7_code 1 = .ok (.getfield 12, 3) := by decide +kernel
theorem d_Cut_bad_4 : decode prog_1_method_7_code 4 = .ok (.getfield 105, 3) := by decide +kernel
theorem d_Cut_bad_7 : decode prog_1_method_7_code 7 = .ok (.bipush 20, 2) := by decide +kernel
theorem d_Cut_bad_9 : decode prog_1_method_7_code 9 = .ok (.if_icmp .lt 13, 3) := by decide +kernel
theorem d_Cut_bad_12 : decode prog_1_method_7_code 12 = .ok (.new 51, 3) := by decide +kernel
theorem d_Cut_bad_15 : decode prog_1_method_7_code 15 = .ok (.dup, 1) := by decide +kernel
theorem d_Cut_bad_16 : decode prog_1_method_7_code 16 = .ok (.ldc 108, 2) := by decide +kernel
theorem d_Cut_bad_18 : decode prog_1_method_7_code 18 = .ok (.invokespecial 55, 3) := by decide +kernel
theorem d_Cut_bad_21 : decode prog_1_method_7_code 21 = .ok (.athrow, 1) := by decide +kernel
theorem d_Cut_bad_22 : decode prog_1_method_7_code 22 = .ok (.iload_n 1, 1) := by decide +kernel
theorem d_Cut_bad_23 : decode prog_1_method_7_code 23 = .ok (.iload_n 2, 1) := by decide +kernel
theorem d_Cut_bad_24 : decode prog_1_method_7_code 24 = .ok (.invokestatic 110, 3) := by decide +kernel
theorem d_Cut_bad_27 : decode prog_1_method_7_code 27 = .ok (.ifCond .ne 13, 3) := by decide +kernel
theorem d_Cut_bad_30 : decode prog_1_method_7_code 30 = .ok (.new 64, 3) := by decide +kernel
theorem d_Cut_bad_33 : decode prog_1_method_7_code 33 = .ok (.dup, 1) := by decide +kernel
theorem d_Cut_bad_34 : decode prog_1_method_7_code 34 = .ok (.ldc 113, 2) := by decide +kernel
theorem d_Cut_bad_36 : decode prog_1_method_7_code 36 = .ok (.invokespecial 68, 3) := by decide +kernel
theorem d_Cut_bad_39 : decode prog_1_method_7_code 39 = .ok (.athrow, 1) := by decide +kernel
theorem d_Cut_bad_40 : decode prog_1_method_7_code 40 = .ok (.aload_n 0, 1) := by decide +kernel
theorem d_Cut_bad_41 : decode prog_1_method_7_code 41 = .ok (.getfield 12, 3) := by decide +kernel
theorem d_Cut_bad_44 : decode prog_1_method_7_code 44 = .ok (.iload_n 1, 1) := by decide +kernel
theorem d_Cut_bad_45 : decode prog_1_method_7_code 45 = .ok (.iload_n 2, 1) := by decide +kernel
theorem d_Cut_bad_46 : decode prog_1_method_7_code 46 = .ok (.invokevirtual 115, 3) := by decide +kernel
theorem d_Cut_bad_49 : decode prog_1_method_7_code 49 = .ok (.aload_n 0, 1) := by decide +kernel
theorem d_Cut_bad_50 : decode prog_1_method_7_code 50 = .ok (.iconst 1, 1) := by decide +kernel
theorem d_Cut_bad_51 : decode prog_1_method_7_code 51 = .ok (.putfield 44, 3) := by decide +kernel
theorem d_Cut_bad_54 : decode prog_1_method_7_code 54 = .ok (.aload_n 0, 1) := by decide +kernel
theorem d_Cut_bad_55 : decode prog_1_method_7_code 55 = .ok (.getfield 12, 3) := by decide +kernel
theorem d_Cut_bad_58 : decode prog_1_method_7_code 58 = .ok (.getfield 105, 3) := by decide +kernel
theorem d_Cut_bad_61 : decode prog_1_method_7_code 61 = .ok (.ireturn, 1) := by decide +kernel
theorem d_Cut_bar_0 : decode prog_1_method_8_code 0 = .ok (.aload_n 0, 1) := by decide +kernel
theorem d_Cut_bar_1 : decode prog_1_method_8_code 1 = .ok (.getfield 12, 3) := by decide +kernel
theorem d_Cut_bar_4 : decode prog_1_method_8_code 4 = .ok (.getfield 119, 3) := by decide +kernel
theorem d_Cut_bar_7 : decode prog_1_method_8_code 7 = .ok (.bipush 20, 2) := by decide +kernel
theorem d_Cut_bar_9 : decode prog_1_method_8_code 9 = .ok (.if_icmp .lt 13, 3) := by decide +kernel
theorem d_Cut_bar_12 : decode prog_1_method_8_code 12 = .ok (.new 51, 3) := by decide +kernel
theorem d_Cut_bar_15 : decode prog_1_method_8_code 15 = .ok (.dup, 1) := by decide +kernel
theorem d_Cut_bar_16 : decode prog_1_method_8_code 16 = .ok (.ldc 122, 2) := by decide +kernel
theorem d_Cut_bar_18 : decode prog_1_method_8_code 18 = .ok (.invokespecial 55, 3) := by decide +kernel
theorem d_Cut_bar_21 : decode prog_1_method_8_code 21 = .ok (.athrow, 1) := by decide +kernel
theorem d_Cut_bar_22 : decode prog_1_method_8_code 22 = .ok (.iload_n 1, 1) := by decide +kernel
theorem d_Cut_bar_23 : decode prog_1_method_8_code 23 = .ok (.iload_n 2, 1) := by decide +kernel
theorem d_Cut_bar_24 : decode prog_1_method_8_code 24 = .ok (.invokestatic 110, 3) := by decide +kernel
theorem d_Cut_bar_27 : decode prog_1_method_8_code 27 = .ok (.ifCond .ne 13, 3) := by decide +kernel
theorem d_Cut_bar_30 : decode prog_1_method_8_code 30 = .ok (.new 64, 3) := by decide +kernel
theorem d_Cut_bar_33 : decode prog_1_method_8_code 33 = .ok (.dup, 1) := by decide +kernel
theorem d_Cut_bar_34 : decode prog_1_method_8_code 34 = .ok (.ldc 124, 2) := by decide +kernel
theorem d_Cut_bar_36 : decode prog_1_method_8_code 36 = .ok (.invokespecial 68, 3) := by decide +kernel
theorem d_Cut_bar_39 : decode prog_1_method_8_code 39 = .ok (.athrow, 1) := by decide +kernel
theorem d_Cut_bar_40 : decode prog_1_method_8_code 40 = .ok (.aload_n 0, 1) := by decide +kernel
theorem d_Cut_bar_41 : decode prog_1_method_8_code 41 = .ok (.getfield 12, 3) := by decide +kernel
theorem d_Cut_bar_44 : decode prog_1_method_8_code 44 = .ok (.iload_n 1, 1) := by decide +kernel
theorem d_Cut_bar_45 : decode prog_1_method_8_code 45 = .ok (.iload_n 2, 1) := by decide +kernel
theorem d_Cut_bar_46 : decode prog_1_method_8_code 46 = .ok (.invokevirtual 126, 3) := by decide +kernel
theorem d_Cut_bar_49 : decode prog_1_method_8_code 49 = .ok (.aload_n 0, 1) := by decide +kernel
theorem d_Cut_bar_50 : decode prog_1_method_8_code 50 = .ok (.iconst 1, 1) := by decide +kernel
theorem d_Cut_bar_51 : decode prog_1_method_8_code 51 = .ok (.putfield 44, 3) := by decide +kernel
theorem d_Cut_bar_54 : decode prog_1_method_8_code 54 = .ok (.aload_n 0, 1) := by decide +kernel
theorem d_Cut_bar_55 : decode prog_1_method_8_code 55 = .ok (.getfield 12, 3) := by decide +kernel
theorem d_Cut_bar_58 : decode prog_1_method_8_code 58 = .ok (.getfield 119, 3) := by decide +kernel
theorem d_Cut_bar_61 : decode prog_1_method_8_code 61 = .ok (.ireturn, 1) := by decide +kernel
theorem d_Cut_loss_0 : decode prog_1_method_9_code 0 = .ok (.aload_n 0, 1) := by decide +kernel
theorem d_Cut_loss_1 : decode prog_1_method_9_code 1 = .ok (.invokevirtual 129, 3) := by decide +kernel
theorem d_Cut_loss_4 : decode prog_1_method_9_code 4 = .ok (.aload_n 0, 1) := by decide +kernel
theorem d_Cut_loss_5 : decode prog_1_method_9_code 5 = .ok (.getfield 26, 3) := by decide +kernel
theorem d_Cut_loss_8 : decode prog_1_method_9_code 8 = .ok (.getfield 132, 3) := by decide +kernel
theorem d_Cut_loss_11 : decode prog_1_method_9_code 11 = .ok (.aload_n 0, 1) := by decide +kernel
theorem d_Cut_loss_12 : decode prog_1_method_9_code 12 = .ok (.getfield 12, 3) := by decide +kernel
theorem d_Cut_loss_15 : decode prog_1_method_9_code 15 = .ok (.getfield 136, 3) := by decide +kernel
theorem d_Cut_loss_18 : decode prog_1_method_9_code 18 = .ok (.iaload, 1) := by decide +kernel
theorem d_Cut_loss_19 : decode prog_1_method_9_code 19 = .ok (.ireturn, 1) := by decide +kernel
theorem d_Cut_part_0 : decode prog_1_method_10_code 0 = .ok (.iload_n 1, 1) := by decide +kernel
theorem d_Cut_part_1 : decode prog_1_method_10_code 1 = .ok (.ifCond .lt 10, 3) := by decide +kernel
theorem d_Cut_part_4 : decode prog_1_method_10_code 4 = .ok (.iload_n 2, 1) := by decide +kernel
theorem d_Cut_part_5 : decode prog_1_method_10_code 5 = .ok (.invokestatic 139, 3) := by decide +kernel
theorem d_Cut_part_8 : decode prog_1_method_10_code 8 = .ok (.ifCond .ne 13, 3) := by decide +kernel
theorem d_Cut_part_11 : decode prog_1_method_10_code 11 = .ok (.new 92, 3) := by decide +kernel
theorem d_Cut_part_14 : decode prog_1_method_10_code 14 = .ok (.dup, 1) := by decide +kernel
theorem d_Cut_part_15 : decode prog_1_method_10_code 15 = .ok (.ldc 143, 2) := by decide +kernel
theorem d_Cut_part_17 : decode prog_1_method_10_code 17 = .ok (.invokespecial 96, 3) := by decide +kernel
theorem d_Cut_part_20 : decode prog_1_method_10_code 20 = .ok (.athrow, 1) := by decide +kernel
theorem d_Cut_part_21 : decode prog_1_method_10_code 21 = .ok (.aload_n 0, 1) := by decide +kernel
theorem d_Cut_part_22 : decode prog_1_method_10_code 22 = .ok (.invokevirtual 129, 3) := by decide +kernel
theorem d_Cut_part_25 : decode prog_1_method_10_code 25 = .ok (.aload_n 0, 1) := by decide +kernel
theorem d_Cut_part_26 : decode prog_1_method_10_code 26 = .ok (.getfield 26, 3) := by decide +kernel
theorem d_Cut_part_29 : decode prog_1_method_10_code 29 = .ok (.iload_n 1, 1) := by decide +kernel
theorem d_Cut_part_30 : decode prog_1_method_10_code 30 = .ok (.aload_n 0, 1) := by decide +kernel
theorem d_Cut_part_31 : decode prog_1_method_10_code 31 = .ok (.getfield 12, 3) := by decide +kernel
theorem d_Cut_part_34 : decode prog_1_method_10_code 34 = .ok (.invokevirtual 145, 3) := by decide +kernel
theorem d_Cut_part_37 : decode prog_1_method_10_code 37 = .ok (.istore_n 3, 1) := by decide +kernel
theorem d_Cut_part_38 : decode prog_1_method_10_code 38 = .ok (.iload_n 3, 1) := by decide +kernel
theorem d_Cut_part_39 : decode prog_1_method_10_code 39 = .ok (.aload_n 0, 1) := by decide +kernel
theorem d_Cut_part_40 : decode prog_1_method_10_code 40 = .ok (.getfield 12, 3) := by decide +kernel
theorem d_Cut_part_43 : decode prog_1_method_10_code 43 = .ok (.getfield 71, 3) := by decide +kernel
theorem d_Cut_part_46 : decode prog_1_method_10_code 46 = .ok (.if_icmp .lt 6, 3) := by decide +kernel
theorem d_Cut_part_49 : decode prog_1_method_10_code 49 = .ok (.bipush (-2), 2) := by decide +kernel
theorem d_Cut_part_51 : decode prog_1_method_10_code 51 = .ok (.ireturn, 1) := by decide +kernel
theorem d_Cut_part_52 : decode prog_1_method_10_code 52 = .ok (.iload_n 2, 1) := by decide +kernel
theorem d_Cut_part_53 : decode prog_1_method_10_code 53 = .ok (.aload_n 0, 1) := by decide +kernel
theorem d_Cut_part_54 : decode prog_1_method_10_code 54 = .ok (.getfield 26, 3) := by decide +kernel
theorem d_Cut_part_57 : decode prog_1_method_10_code 57 = .ok (.getfield 149, 3) := by decide +kernel
theorem d_Cut_part_60 : decode prog_1_method_10_code 60 = .ok (.iload_n 3, 1) := by decide +kernel
theorem d_Cut_part_61 : decode prog_1_method_10_code 61 = .ok (.iaload, 1) := by decide +kernel
theorem d_Cut_part_62 : decode prog_1_method_10_code 62 = .ok (.iload_n 3, 1) := by decide +kernel
theorem d_Cut_part_63 : decode prog_1_method_10_code 63 = .ok (.aload_n 0, 1) := by decide +kernel
theorem d_Cut_part_64 : decode prog_1_method_10_code 64 = .ok (.getfield 26, 3) := by decide +kernel
theorem d_Cut_part_67 : decode prog_1_method_10_code 67 = .ok (.getfield 152, 3) := by decide +kernel
theorem d_Cut_part_70 : decode prog_1_method_10_code 70 = .ok (.iload_n 3, 1) := by decide +kernel
theorem d_Cut_part_71 : decode prog_1_method_10_code 71 = .ok (.iaload, 1) := by decide +kernel
theorem d_Cut_part_72 : decode prog_1_method_10_code 72 = .ok (.invokestatic 155, 3) := by decide +kernel
theorem d_Cut_part_75 : decode prog_1_method_10_code 75 = .ok (.ireturn, 1) := by decide +kernel
theorem d_Cut_cut_0 : decode prog_1_method_11_code 0 = .ok (.aload_n 0, 1) := by decide +kernel
theorem d_Cut_cut_1 : decode prog_1_method_11_code 1 = .ok (.getfield 12, 3) := by decide +kernel
theorem d_Cut_cut_4 : decode prog_1_method_11_code 4 = .ok (.getfield 136, 3) := by decide +kernel
theorem d_Cut_cut_7 : decode prog_1_method_11_code 7 = .ok (.aload_n 0, 1) := by decide +kernel
theorem d_Cut_cut_8 : decode prog_1_method_11_code 8 = .ok (.getfield 12, 3) := by decide +kernel
theorem d_Cut_cut_11 : decode prog_1_method_11_code 11 = .ok (.getfield 71, 3) := by decide +kernel
theorem d_Cut_cut_14 : decode prog_1_method_11_code 14 = .ok (.if_icmp .lt 13, 3) := by decide +kernel
theorem d_Cut_cut_17 : decode prog_1_method_11_code 17 = .ok (.new 51, 3) := by decide +kernel
theorem d_Cut_cut_20 : decode prog_1_method_11_code 20 = .ok (.dup, 1) := by decide +kernel
theorem d_Cut_cut_21 : decode prog_1_method_11_code 21 = .ok (.ldc 159, 2) := by decide +kernel
theorem d_Cut_cut_23 : decode prog_1_method_11_code 23 = .ok (.invokespecial 55, 3) := by decide +kernel
theorem d_Cut_cut_26 : decode prog_1_method_11_code 26 = .ok (.athrow, 1) := by decide +kernel
theorem d_Cut_cut_27 : decode prog_1_method_11_code 27 = .ok (.aload_n 0, 1) := by decide +kernel
theorem d_Cut_cut_28 : decode prog_1_method_11_code 28 = .ok (.getfield 33, 3) := by decide +kernel
theorem d_Cut_cut_31 : decode prog_1_method_11_code 31 = .ok (.getfield 48, 3) := by decide +kernel
theorem d_Cut_cut_34 : decode prog_1_method_11_code 34 = .ok (.bipush 100, 2) := by decide +kernel
theorem d_Cut_cut_36 : decode prog_1_method_11_code 36 = .ok (.if_icmp .lt 13, 3) := by decide +kernel
theorem d_Cut_cut_39 : decode prog_1_method_11_code 39 = .ok (.new 74, 3) := by decide +kernel
theorem d_Cut_cut_42 : decode prog_1_method_11_code 42 = .ok (.dup, 1) := by decide +kernel
theorem d_Cut_cut_43 : decode prog_1_method_11_code 43 = .ok (.ldc 161, 2) := by decide +kernel
theorem d_Cut_cut_45 : decode prog_1_method_11_code 45 = .ok (.invokespecial 78, 3) := by decide +kernel
theorem d_Cut_cut_48 : decode prog_1_method_11_code 48 = .ok (.athrow, 1) := by decide +kernel
theorem d_Cut_cut_49 : decode prog_1_method_11_code 49 = .ok (.aload_n 0, 1) := by decide +kernel
theorem d_Cut_cut_50 : decode prog_1_method_11_code 50 = .ok (.invokevirtual 129, 3) := by decide +kernel
theorem d_Cut_cut_53 : decode prog_1_method_11_code 53 = .ok (.aload_n 0, 1) := by decide +kernel
theorem d_Cut_cut_54 : decode prog_1_method_11_code 54 = .ok (.getfield 12, 3) := by decide +kernel
theorem d_Cut_cut_57 : decode prog_1_method_11_code 57 = .ok (.getfield 136, 3) := by decide +kernel
theorem d_Cut_cut_60 : decode prog_1_method_11_code 60 = .ok (.istore_n 1, 1) := by decide +kernel
theorem d_Cut_cut_61 : decode prog_1_method_11_code 61 = .ok (.aload_n 0, 1) := by decide +kernel
theorem d_Cut_cut_62 : decode prog_1_method_11_code 62 = .ok (.getfield 33, 3) := by decide +kernel
theorem d_Cut_cut_65 : decode prog_1_method_11_code 65 = .ok (.getfield 48, 3) := by decide +kernel
theorem d_Cut_cut_68 : decode prog_1_method_11_code 68 = .ok (.istore_n 2, 1) := by decide +kernel
theorem d_Cut_cut_69 : decode prog_1_method_11_code 69 = .ok (.aload_n 0, 1) := by decide +kernel
theorem d_Cut_cut_70 : decode prog_1_method_11_code 70 = .ok (.getfield 33, 3) := by decide +kernel
theorem d_Cut_cut_73 : decode prog_1_method_11_code 73 = .ok (.aload_n 0, 1) := by decide +kernel
theorem d_Cut_cut_74 : decode prog_1_method_11_code 74 = .ok (.getfield 26, 3) := by decide +kernel
theorem d_Cut_cut_77 : decode prog_1_method_11_code 77 = .ok (.getfield 149, 3) := by decide +kernel
theorem d_Cut_cut_80 : decode prog_1_method_11_code 80 = .ok (.iload_n 1, 1) := by decide +kernel
theorem d_Cut_cut_81 : decode prog_1_method_11_code 81 = .ok (.iaload, 1) := by decide +kernel
theorem d_Cut_cut_82 : decode prog_1_method_11_code 82 = .ok (.iload_n 1, 1) := by decide +kernel
theorem d_Cut_cut_83 : decode prog_1_method_11_code 83 = .ok (.aload_n 0, 1) := by decide +kernel
theorem d_Cut_cut_84 : decode prog_1_method_11_code 84 = .ok (.getfield 26, 3) := by decide +kernel
theorem d_Cut_cut_87 : decode prog_1_method_11_code 87 = .ok (.getfield 152, 3) := by decide +kernel
theorem d_Cut_cut_90 : decode prog_1_method_11_code 90 = .ok (.iload_n 1, 1) := by decide +kernel
theorem d_Cut_cut_91 : decode prog_1_method_11_code 91 = .ok (.iaload, 1) := by decide +kernel
theorem d_Cut_cut_92 : decode prog_1_method_11_code 92 = .ok (.invokevirtual 163, 3) := by decide +kernel
theorem d_Cut_cut_95 : decode prog_1_method_11_code 95 = .ok (.aload_n 0, 1) := by decide +kernel
theorem d_Cut_cut_96 : decode prog_1_method_11_code 96 = .ok (.getfield 12, 3) := by decide +kernel
theorem d_Cut_cut_99 : decode prog_1_method_11_code 99 = .ok (.iload_n 1, 1) := by decide +kernel
theorem d_Cut_cut_100 : decode prog_1_method_11_code 100 = .ok (.aload_n 0, 1) := by decide +kernel
theorem d_Cut_cut_101 : decode prog_1_method_11_code 101 = .ok (.getfield 26, 3) := by decide +kernel
theorem d_Cut_cut_104 : decode prog_1_method_11_code 104 = .ok (.getfield 152, 3) := by decide +kernel
theorem d_Cut_cut_107 : decode prog_1_method_11_code 107 = .ok (.iload_n 1, 1) := by decide +kernel
theorem d_Cut_cut_108 : decode prog_1_method_11_code 108 = .ok (.iaload, 1) := by decide +kernel
theorem d_Cut_cut_109 : decode prog_1_method_11_code 109 = .ok (.iadd, 1) := by decide +kernel
theorem d_Cut_cut_110 : decode prog_1_method_11_code 110 = .ok (.putfield 136, 3) := by decide +kernel
theorem d_Cut_cut_113 : decode prog_1_method_11_code 113 = .ok (.iload_n 2, 1) := by decide +kernel
theorem d_Cut_cut_114 : decode prog_1_method_11_code 114 = .ok (.ireturn, 1) := by decide +kernel
theorem d_Cut_slab_0 : decode prog_1_method_12_code 0 = .ok (.aload_n 0, 1) := by decide +kernel
theorem d_Cut_slab_1 : decode prog_1_method_12_code 1 = .ok (.iload_n 1, 1) := by decide +kernel
theorem d_Cut_slab_2 : decode prog_1_method_12_code 2 = .ok (.invokevirtual 166, 3) := by decide +kernel
theorem d_Cut_slab_5 : decode prog_1_method_12_code 5 = .ok (.ifCond .eq 10, 3) := by decide +kernel
theorem d_Cut_slab_8 : decode prog_1_method_12_code 8 = .ok (.iload_n 2, 1) := by decide +kernel
theorem d_Cut_slab_9 : decode prog_1_method_12_code 9 = .ok (.invokestatic 139, 3) := by decide +kernel
theorem d_Cut_slab_12 : decode prog_1_method_12_code 12 = .ok (.ifCond .ne 13, 3) := by decide +kernel
theorem d_Cut_slab_15 : decode prog_1_method_12_code 15 = .ok (.new 92, 3) := by decide +kernel
theorem d_Cut_slab_18 : decode prog_1_method_12_code 18 = .ok (.dup, 1) := by decide +kernel
theorem d_Cut_slab_19 : decode prog_1_method_12_code 19 = .ok (.ldc 169, 2) := by decide +kernel
theorem d_Cut_slab_21 : decode prog_1_method_12_code 21 = .ok (.invokespecial 96, 3) := by decide +kernel
theorem d_Cut_slab_24 : decode prog_1_method_12_code 24 = .ok (.athrow, 1) := by decide +kernel
theorem d_Cut_slab_25 : decode prog_1_method_12_code 25 = .ok (.iload_n 2, 1) := by decide +kernel
theorem d_Cut_slab_26 : decode prog_1_method_12_code 26 = .ok (.aload_n 0, 1) := by decide +kernel
theorem d_Cut_slab_27 : decode prog_1_method_12_code 27 = .ok (.getfield 33, 3) := by decide +kernel
theorem d_Cut_slab_30 : decode prog_1_method_12_code 30 = .ok (.getfield 171, 3) := by decide +kernel
theorem d_Cut_slab_33 : decode prog_1_method_12_code 33 = .ok (.iload_n 1, 1) := by decide +kernel
theorem d_Cut_slab_34 : decode prog_1_method_12_code 34 = .ok (.iaload, 1) := by decide +kernel
theorem d_Cut_slab_35 : decode prog_1_method_12_code 35 = .ok (.aload_n 0, 1) := by decide +kernel
theorem d_Cut_slab_36 : decode prog_1_method_12_code 36 = .ok (.getfield 33, 3) := by decide +kernel
theorem d_Cut_slab_39 : decode prog_1_method_12_code 39 = .ok (.getfield 172, 3) := by decide +kernel
theorem d_Cut_slab_42 : decode prog_1_method_12_code 42 = .ok (.iload_n 1, 1) := by decide +kernel
theorem d_Cut_slab_43 : decode prog_1_method_12_code 43 = .ok (.iaload, 1) := by decide +kernel
theorem d_Cut_slab_44 : decode prog_1_method_12_code 44 = .ok (.aload_n 0, 1) := by decide +kernel
theorem d_Cut_slab_45 : decode prog_1_method_12_code 45 = .ok (.getfield 33, 3) := by decide +kernel
theorem d_Cut_slab_48 : decode prog_1_method_12_code 48 = .ok (.getfield 175, 3) := by decide +kernel
theorem d_Cut_slab_51 : decode prog_1_method_12_code 51 = .ok (.iload_n 1, 1) := by decide +kernel
theorem d_Cut_slab_52 : decode prog_1_method_12_code 52 = .ok (.iaload, 1) := by decide +kernel
theorem d_Cut_slab_53 : decode prog_1_method_12_code 53 = .ok (.invokestatic 155, 3) := by decide +kernel
theorem d_Cut_slab_56 : decode prog_1_method_12_code 56 = .ok (.ireturn, 1) := by decide +kernel
theorem d_Cut_weight_0 : decode prog_1_method_13_code 0 = .ok (.aload_n 0, 1) := by decide +kernel
theorem d_Cut_weight_1 : decode prog_1_method_13_code 1 = .ok (.iload_n 1, 1) := by decide +kernel
theorem d_Cut_weight_2 : decode prog_1_method_13_code 2 = .ok (.invokevirtual 166, 3) := by decide +kernel
theorem d_Cut_weight_5 : decode prog_1_method_13_code 5 = .ok (.ifCond .ne 13, 3) := by decide +kernel
theorem d_Cut_weight_8 : decode prog_1_method_13_code 8 = .ok (.new 92, 3) := by decide +kernel
theorem d_Cut_weight_11 : decode prog_1_method_13_code 11 = .ok (.dup, 1) := by decide +kernel
theorem d_Cut_weight_12 : decode prog_1_method_13_code 12 = .ok (.ldc 176, 2) := by decide +kernel
theorem d_Cut_weight_14 : decode prog_1_method_13_code 14 = .ok (.invokespecial 96, 3) := by decide +kernel
theorem d_Cut_weight_17 : decode prog_1_method_13_code 17 = .ok (.athrow, 1) := by decide +kernel
theorem d_Cut_weight_18 : decode prog_1_method_13_code 18 = .ok (.aload_n 0, 1) := by decide +kernel
theorem d_Cut_weight_19 : decode prog_1_method_13_code 19 = .ok (.getfield 33, 3) := by decide +kernel
theorem d_Cut_weight_22 : decode prog_1_method_13_code 22 = .ok (.getfield 175, 3) := by decide +kernel
theorem d_Cut_weight_25 : decode prog_1_method_13_code 25 = .ok (.iload_n 1, 1) := by decide +kernel
theorem d_Cut_weight_26 : decode prog_1_method_13_code 26 = .ok (.iaload, 1) := by decide +kernel
theorem d_Cut_weight_27 : decode prog_1_method_13_code 27 = .ok (.i2l, 1) := by decide +kernel
theorem d_Cut_weight_28 : decode prog_1_method_13_code 28 = .ok (.aload_n 0, 1) := by decide +kernel
theorem d_Cut_weight_29 : decode prog_1_method_13_code 29 = .ok (.getfield 37, 3) := by decide +kernel
theorem d_Cut_weight_32 : decode prog_1_method_13_code 32 = .ok (.i2l, 1) := by decide +kernel
theorem d_Cut_weight_33 : decode prog_1_method_13_code 33 = .ok (.lmul, 1) := by decide +kernel
theorem d_Cut_weight_34 : decode prog_1_method_13_code 34 = .ok (.lstore_n 2, 1) := by decide +kernel
theorem d_Cut_weight_35 : decode prog_1_method_13_code 35 = .ok (.lload_n 2, 1) := by decide +kernel
theorem d_Cut_weight_36 : decode prog_1_method_13_code 36 = .ok (.aload_n 0, 1) := by decide +kernel
theorem d_Cut_weight_37 : decode prog_1_method_13_code 37 = .ok (.getfield 41, 3) := by decide +kernel
theorem d_Cut_weight_40 : decode prog_1_method_13_code 40 = .ok (.i2l, 1) := by decide +kernel
theorem d_Cut_weight_41 : decode prog_1_method_13_code 41 = .ok (.lmul, 1) := by decide +kernel
theorem d_Cut_weight_42 : decode prog_1_method_13_code 42 = .ok (.ldc2_w 178, 3) := by decide +kernel
theorem d_Cut_weight_45 : decode prog_1_method_13_code 45 = .ok (.ldiv, 1) := by decide +kernel
theorem d_Cut_weight_46 : decode prog_1_method_13_code 46 = .ok (.lreturn, 1) := by decide +kernel
theorem d_Cut_count_0 : decode prog_1_method_14_code 0 = .ok (.iload_n 1, 1) := by decide +kernel
theorem d_Cut_count_1 : decode prog_1_method_14_code 1 = .ok (.iconst (-1), 1) := by decide +kernel
theorem d_Cut_count_2 : decode prog_1_method_14_code 2 = .ok (.if_icmp .lt 14, 3) := by decide +kernel
theorem d_Cut_count_5 : decode prog_1_method_14_code 5 = .ok (.iload_n 1, 1) := by decide +kernel
theorem d_Cut_count_6 : decode prog_1_method_14_code 6 = .ok (.aload_n 0, 1) := by decide +kernel
theorem d_Cut_count_7 : decode prog_1_method_14_code 7 = .ok (.getfield 19, 3) := by decide +kernel
theorem d_Cut_count_10 : decode prog_1_method_14_code 10 = .ok (.getfield 79, 3) := by decide +kernel
theorem d_Cut_count_13 : decode prog_1_method_14_code 13 = .ok (.if_icmp .lt 13, 3) := by decide +kernel
theorem d_Cut_count_16 : decode prog_1_method_14_code 16 = .ok (.new 92, 3) := by decide +kernel
theorem d_Cut_count_19 : decode prog_1_method_14_code 19 = .ok (.dup, 1) := by decide +kernel
theorem d_Cut_count_20 : decode prog_1_method_14_code 20 = .ok (.ldc 94, 2) := by decide +kernel
theorem d_Cut_count_22 : decode prog_1_method_14_code 22 = .ok (.invokespecial 96, 3) := by decide +kernel
theorem d_Cut_count_25 : decode prog_1_method_14_code 25 = .ok (.athrow, 1) := by decide +kernel
theorem d_Cut_count_26 : decode prog_1_method_14_code 26 = .ok (.aload_n 0, 1) := by decide +kernel
theorem d_Cut_count_27 : decode prog_1_method_14_code 27 = .ok (.getfield 33, 3) := by decide +kernel
theorem d_Cut_count_30 : decode prog_1_method_14_code 30 = .ok (.iload_n 1, 1) := by decide +kernel
theorem d_Cut_count_31 : decode prog_1_method_14_code 31 = .ok (.invokevirtual 180, 3) := by decide +kernel
theorem d_Cut_count_34 : decode prog_1_method_14_code 34 = .ok (.ireturn, 1) := by decide +kernel
theorem d_Cut_torch_0 : decode prog_1_method_15_code 0 = .ok (.aload_n 0, 1) := by decide +kernel
theorem d_Cut_torch_1 : decode prog_1_method_15_code 1 = .ok (.getfield 12, 3) := by decide +kernel
theorem d_Cut_torch_4 : decode prog_1_method_15_code 4 = .ok (.getfield 136, 3) := by decide +kernel
theorem d_Cut_torch_7 : decode prog_1_method_15_code 7 = .ok (.ireturn, 1) := by decide +kernel
theorem d_Cut_tellSpan_0 : decode prog_1_method_16_code 0 = .ok (.aload_n 0, 1) := by decide +kernel
theorem d_Cut_tellSpan_1 : decode prog_1_method_16_code 1 = .ok (.getfield 19, 3) := by decide +kernel
theorem d_Cut_tellSpan_4 : decode prog_1_method_16_code 4 = .ok (.getfield 184, 3) := by decide +kernel
theorem d_Cut_tellSpan_7 : decode prog_1_method_16_code 7 = .ok (.iload_n 1, 1) := by decide +kernel
theorem d_Cut_tellSpan_8 : decode prog_1_method_16_code 8 = .ok (.iload_n 2, 1) := by decide +kernel
theorem d_Cut_tellSpan_9 : decode prog_1_method_16_code 9 = .ok (.iastore, 1) := by decide +kernel
theorem d_Cut_tellSpan_10 : decode prog_1_method_16_code 10 = .ok (.aload_n 0, 1) := by decide +kernel
theorem d_Cut_tellSpan_11 : decode prog_1_method_16_code 11 = .ok (.getfield 19, 3) := by decide +kernel
theorem d_Cut_tellSpan_14 : decode prog_1_method_16_code 14 = .ok (.getfield 187, 3) := by decide +kernel
theorem d_Cut_tellSpan_17 : decode prog_1_method_16_code 17 = .ok (.iload_n 1, 1) := by decide +kernel
theorem d_Cut_tellSpan_18 : decode prog_1_method_16_code 18 = .ok (.iload_n 3, 1) := by decide +kernel
theorem d_Cut_tellSpan_19 : decode prog_1_method_16_code 19 = .ok (.iastore, 1) := by decide +kernel
theorem d_Cut_tellSpan_20 : decode prog_1_method_16_code 20 = .ok (.aload_n 0, 1) := by decide +kernel
theorem d_Cut_tellSpan_21 : decode prog_1_method_16_code 21 = .ok (.iconst 1, 1) := by decide +kernel
theorem d_Cut_tellSpan_22 : decode prog_1_method_16_code 22 = .ok (.putfield 44, 3) := by decide +kernel
theorem d_Cut_tellSpan_25 : decode prog_1_method_16_code 25 = .ok (.return_, 1) := by decide +kernel
theorem d_Cut_renewPlan_0 : decode prog_1_method_17_code 0 = .ok (.aload_n 0, 1) := by decide +kernel
theorem d_Cut_renewPlan_1 : decode prog_1_method_17_code 1 = .ok (.getfield 44, 3) := by decide +kernel
theorem d_Cut_renewPlan_4 : decode prog_1_method_17_code 4 = .ok (.ifCond .eq 23, 3) := by decide +kernel
theorem d_Cut_renewPlan_7 : decode prog_1_method_17_code 7 = .ok (.aload_n 0, 1) := by decide +kernel
theorem d_Cut_renewPlan_8 : decode prog_1_method_17_code 8 = .ok (.getfield 26, 3) := by decide +kernel
theorem d_Cut_renewPlan_11 : decode prog_1_method_17_code 11 = .ok (.aload_n 0, 1) := by decide +kernel
theorem d_Cut_renewPlan_12 : decode prog_1_method_17_code 12 = .ok (.getfield 12, 3) := by decide +kernel
theorem d_Cut_renewPlan_15 : decode prog_1_method_17_code 15 = .ok (.aload_n 0, 1) := by decide +kernel
theorem d_Cut_renewPlan_16 : decode prog_1_method_17_code 16 = .ok (.getfield 19, 3) := by decide +kernel
theorem d_Cut_renewPlan_19 : decode prog_1_method_17_code 19 = .ok (.invokevirtual 190, 3) := by decide +kernel
theorem d_Cut_renewPlan_22 : decode prog_1_method_17_code 22 = .ok (.aload_n 0, 1) := by decide +kernel
theorem d_Cut_renewPlan_23 : decode prog_1_method_17_code 23 = .ok (.iconst 0, 1) := by decide +kernel
theorem d_Cut_renewPlan_24 : decode prog_1_method_17_code 24 = .ok (.putfield 44, 3) := by decide +kernel
theorem d_Cut_renewPlan_27 : decode prog_1_method_17_code 27 = .ok (.return_, 1) := by decide +kernel
theorem d_Cut_isSlab_0 : decode prog_1_method_18_code 0 = .ok (.iload_n 1, 1) := by decide +kernel
theorem d_Cut_isSlab_1 : decode prog_1_method_18_code 1 = .ok (.ifCond .lt 18, 3) := by decide +kernel
theorem d_Cut_isSlab_4 : decode prog_1_method_18_code 4 = .ok (.iload_n 1, 1) := by decide +kernel
theorem d_Cut_isSlab_5 : decode prog_1_method_18_code 5 = .ok (.aload_n 0, 1) := by decide +kernel
theorem d_Cut_isSlab_6 : decode prog_1_method_18_code 6 = .ok (.getfield 33, 3) := by decide +kernel
theorem d_Cut_isSlab_9 : decode prog_1_method_18_code 9 = .ok (.getfield 48, 3) := by decide +kernel
theorem d_Cut_isSlab_12 : decode prog_1_method_18_code 12 = .ok (.if_icmp .ge 7, 3) := by decide +kernel
theorem d_Cut_isSlab_15 : decode prog_1_method_18_code 15 = .ok (.iconst 1, 1) := by decide +kernel
theorem d_Cut_isSlab_16 : decode prog_1_method_18_code 16 = .ok (.goto 4, 3) := by decide +kernel
theorem d_Cut_isSlab_19 : decode prog_1_method_18_code 19 = .ok (.iconst 0, 1) := by decide +kernel
theorem d_Cut_isSlab_20 : decode prog_1_method_18_code 20 = .ok (.ireturn, 1) := by decide +kernel
theorem d_Cut_isOutside_0 : decode prog_1_method_19_code 0 = .ok (.iload_n 0, 1) := by decide +kernel
theorem d_Cut_isOutside_1 : decode prog_1_method_19_code 1 = .ok (.iload_n 1, 1) := by decide +kernel
theorem d_Cut_isOutside_2 : decode prog_1_method_19_code 2 = .ok (.if_icmp .lt 8, 3) := by decide +kernel
theorem d_Cut_isOutside_5 : decode prog_1_method_19_code 5 = .ok (.iload_n 0, 1) := by decide +kernel
theorem d_Cut_isOutside_6 : decode prog_1_method_19_code 6 = .ok (.iload_n 2, 1) := by decide +kernel
theorem d_Cut_isOutside_7 : decode prog_1_method_19_code 7 = .ok (.if_icmp .le 7, 3) := by decide +kernel
theorem d_Cut_isOutside_10 : decode prog_1_method_19_code 10 = .ok (.iconst 1, 1) := by decide +kernel
theorem d_Cut_isOutside_11 : decode prog_1_method_19_code 11 = .ok (.goto 4, 3) := by decide +kernel
theorem d_Cut_isOutside_14 : decode prog_1_method_19_code 14 = .ok (.iconst 0, 1) := by decide +kernel
theorem d_Cut_isOutside_15 : decode prog_1_method_19_code 15 = .ok (.ireturn, 1) := by decide +kernel
theorem d_Cut_isSpan_0 : decode prog_1_method_20_code 0 = .ok (.iload_n 0, 1) := by decide +kernel
theorem d_Cut_isSpan_1 : decode prog_1_method_20_code 1 = .ok (.iconst 1, 1) := by decide +kernel
theorem d_Cut_isSpan_2 : decode prog_1_method_20_code 2 = .ok (.if_icmp .lt 18, 3) := by decide +kernel
theorem d_Cut_isSpan_5 : decode prog_1_method_20_code 5 = .ok (.iload_n 0, 1) := by decide +kernel
theorem d_Cut_isSpan_6 : decode prog_1_method_20_code 6 = .ok (.iload_n 1, 1) := by decide +kernel
theorem d_Cut_isSpan_7 : decode prog_1_method_20_code 7 = .ok (.if_icmp .gt 13, 3) := by decide +kernel
theorem d_Cut_isSpan_10 : decode prog_1_method_20_code 10 = .ok (.iload_n 1, 1) := by decide +kernel
theorem d_Cut_isSpan_11 : decode prog_1_method_20_code 11 = .ok (.bipush 60, 2) := by decide +kernel
theorem d_Cut_isSpan_13 : decode prog_1_method_20_code 13 = .ok (.if_icmp .gt 7, 3) := by decide +kernel
theorem d_Cut_isSpan_16 : decode prog_1_method_20_code 16 = .ok (.iconst 1, 1) := by decide +kernel
theorem d_Cut_isSpan_17 : decode prog_1_method_20_code 17 = .ok (.goto 4, 3) := by decide +kernel
theorem d_Cut_isSpan_20 : decode prog_1_method_20_code 20 = .ok (.iconst 0, 1) := by decide +kernel
theorem d_Cut_isSpan_21 : decode prog_1_method_20_code 21 = .ok (.ireturn, 1) := by decide +kernel
theorem d_Cut_isStretch_0 : decode prog_1_method_21_code 0 = .ok (.iload_n 0, 1) := by decide +kernel
theorem d_Cut_isStretch_1 : decode prog_1_method_21_code 1 = .ok (.ifCond .lt 19, 3) := by decide +kernel
theorem d_Cut_isStretch_4 : decode prog_1_method_21_code 4 = .ok (.iload_n 0, 1) := by decide +kernel
theorem d_Cut_isStretch_5 : decode prog_1_method_21_code 5 = .ok (.iload_n 1, 1) := by decide +kernel
theorem d_Cut_isStretch_6 : decode prog_1_method_21_code 6 = .ok (.if_icmp .gt 14, 3) := by decide +kernel
theorem d_Cut_isStretch_9 : decode prog_1_method_21_code 9 = .ok (.iload_n 1, 1) := by decide +kernel
theorem d_Cut_isStretch_10 : decode prog_1_method_21_code 10 = .ok (.sipush 300, 3) := by decide +kernel
theorem d_Cut_isStretch_13 : decode prog_1_method_21_code 13 = .ok (.if_icmp .gt 7, 3) := by decide +kernel
theorem d_Cut_isStretch_16 : decode prog_1_method_21_code 16 = .ok (.iconst 1, 1) := by decide +kernel
theorem d_Cut_isStretch_17 : decode prog_1_method_21_code 17 = .ok (.goto 4, 3) := by decide +kernel
theorem d_Cut_isStretch_20 : decode prog_1_method_21_code 20 = .ok (.iconst 0, 1) := by decide +kernel
theorem d_Cut_isStretch_21 : decode prog_1_method_21_code 21 = .ok (.ireturn, 1) := by decide +kernel
theorem d_Cut_isWhat_0 : decode prog_1_method_22_code 0 = .ok (.iload_n 0, 1) := by decide +kernel
theorem d_Cut_isWhat_1 : decode prog_1_method_22_code 1 = .ok (.ifCond .lt 12, 3) := by decide +kernel
theorem d_Cut_isWhat_4 : decode prog_1_method_22_code 4 = .ok (.iload_n 0, 1) := by decide +kernel
theorem d_Cut_isWhat_5 : decode prog_1_method_22_code 5 = .ok (.iconst 2, 1) := by decide +kernel
theorem d_Cut_isWhat_6 : decode prog_1_method_22_code 6 = .ok (.if_icmp .gt 7, 3) := by decide +kernel
theorem d_Cut_isWhat_9 : decode prog_1_method_22_code 9 = .ok (.iconst 1, 1) := by decide +kernel
theorem d_Cut_isWhat_10 : decode prog_1_method_22_code 10 = .ok (.goto 4, 3) := by decide +kernel
theorem d_Cut_isWhat_13 : decode prog_1_method_22_code 13 = .ok (.iconst 0, 1) := by decide +kernel
theorem d_Cut_isWhat_14 : decode prog_1_method_22_code 14 = .ok (.ireturn, 1) := by decide +kernel
theorem d_Cut_pick_0 : decode prog_1_method_23_code 0 = .ok (.iload_n 0, 1) := by decide +kernel
theorem d_Cut_pick_1 : decode prog_1_method_23_code 1 = .ok (.ifCond .ne 5, 3) := by decide +kernel
theorem d_Cut_pick_4 : decode prog_1_method_23_code 4 = .ok (.iload_n 1, 1) := by decide +kernel
theorem d_Cut_pick_5 : decode prog_1_method_23_code 5 = .ok (.ireturn, 1) := by decide +kernel
theorem d_Cut_pick_6 : decode prog_1_method_23_code 6 = .ok (.iload_n 0, 1) := by decide +kernel
theorem d_Cut_pick_7 : decode prog_1_method_23_code 7 = .ok (.iconst 1, 1) := by decide +kernel
theorem d_Cut_pick_8 : decode prog_1_method_23_code 8 = .ok (.if_icmp .ne 7, 3) := by decide +kernel
theorem d_Cut_pick_11 : decode prog_1_method_23_code 11 = .ok (.iload_n 2, 1) := by decide +kernel
theorem d_Cut_pick_12 : decode prog_1_method_23_code 12 = .ok (.goto 4, 3) := by decide +kernel
theorem d_Cut_pick_15 : decode prog_1_method_23_code 15 = .ok (.iload_n 3, 1) := by decide +kernel
theorem d_Cut_pick_16 : decode prog_1_method_23_code 16 = .ok (.ireturn, 1) := by decide +kernel
theorem d_Plan_init_0 : decode prog_2_method_1_code 0 = .ok (.aload_n 0, 1) := by decide +kernel
theorem d_Plan_init_1 : decode prog_2_method_1_code 1 = .ok (.invokespecial 3, 3) := by decide +kernel
theorem d_Plan_init_4 : decode prog_2_method_1_code 4 = .ok (.aload_n 0, 1) := by decide +kernel
theorem d_Plan_init_5 : decode prog_2_method_1_code 5 = .ok (.sipush 301, 3) := by decide +kernel
theorem d_Plan_init_8 : decode prog_2_method_1_code 8 = .ok (.newarray .int, 2) := by decide +kernel
theorem d_Plan_init_10 : decode prog_2_method_1_code 10 = .ok (.putfield 9, 3) := by decide +kernel
theorem d_Plan_init_13 : decode prog_2_method_1_code 13 = .ok (.aload_n 0, 1) := by decide +kernel
theorem d_Plan_init_14 : decode prog_2_method_1_code 14 = .ok (.sipush 301, 3) := by decide +kernel
theorem d_Plan_init_17 : decode prog_2_method_1_code 17 = .ok (.newarray .int, 2) := by decide +kernel
theorem d_Plan_init_19 : decode prog_2_method_1_code 19 = .ok (.putfield 15, 3) := by decide +kernel
theorem d_Plan_init_22 : decode prog_2_method_1_code 22 = .ok (.aload_n 0, 1) := by decide +kernel
theorem d_Plan_init_23 : decode prog_2_method_1_code 23 = .ok (.sipush 301, 3) := by decide +kernel
theorem d_Plan_init_26 : decode prog_2_method_1_code 26 = .ok (.newarray .int, 2) := by decide +kernel
theorem d_Plan_init_28 : decode prog_2_method_1_code 28 = .ok (.putfield 18, 3) := by decide +kernel
theorem d_Plan_init_31 : decode prog_2_method_1_code 31 = .ok (.return_, 1) := by decide +kernel
theorem d_Plan_make_0 : decode prog_2_method_2_code 0 = .ok (.aload_n 0, 1) := by decide +kernel
theorem d_Plan_make_1 : decode prog_2_method_2_code 1 = .ok (.getfield 9, 3) := by decide +kernel
theorem d_Plan_make_4 : decode prog_2_method_2_code 4 = .ok (.aload_n 1, 1) := by decide +kernel
theorem d_Plan_make_5 : decode prog_2_method_2_code 5 = .ok (.getfield 21, 3) := by decide +kernel
theorem d_Plan_make_8 : decode prog_2_method_2_code 8 = .ok (.iconst 0, 1) := by decide +kernel
theorem d_Plan_make_9 : decode prog_2_method_2_code 9 = .ok (.iastore, 1) := by decide +kernel
theorem d_Plan_make_10 : decode prog_2_method_2_code 10 = .ok (.aload_n 0, 1) := by decide +kernel
theorem d_Plan_make_11 : decode prog_2_method_2_code 11 = .ok (.getfield 15, 3) := by decide +kernel
theorem d_Plan_make_14 : decode prog_2_method_2_code 14 = .ok (.aload_n 1, 1) := by decide +kernel
theorem d_Plan_make_15 : decode prog_2_method_2_code 15 = .ok (.getfield 21, 3) := by decide +kernel
theorem d_Plan_make_18 : decode prog_2_method_2_code 18 = .ok (.bipush (-2), 2) := by decide +kernel
theorem d_Plan_make_20 : decode prog_2_method_2_code 20 = .ok (.iastore, 1) := by decide +kernel
theorem d_Plan_make_21 : decode prog_2_method_2_code 21 = .ok (.aload_n 0, 1) := by decide +kernel
theorem d_Plan_make_22 : decode prog_2_method_2_code 22 = .ok (.getfield 18, 3) := by decide +kernel
theorem d_Plan_make_25 : decode prog_2_method_2_code 25 = .ok (.aload_n 1, 1) := by decide +kernel
theorem d_Plan_make_26 : decode prog_2_method_2_code 26 = .ok (.getfield 21, 3) := by decide +kernel
theorem d_Plan_make_29 : decode prog_2_method_2_code 29 = .ok (.iconst 0, 1) := by decide +kernel
theorem d_Plan_make_30 : decode prog_2_method_2_code 30 = .ok (.iastore, 1) := by decide +kernel
theorem d_Plan_make_31 : decode prog_2_method_2_code 31 = .ok (.iconst 0, 1) := by decide +kernel
theorem d_Plan_make_32 : decode prog_2_method_2_code 32 = .ok (.istore_n 3, 1) := by decide +kernel
theorem d_Plan_make_33 : decode prog_2_method_2_code 33 = .ok (.iconst 0, 1) := by decide +kernel
theorem d_Plan_make_34 : decode prog_2_method_2_code 34 = .ok (.istore 4, 2) := by decide +kernel
theorem d_Plan_make_36 : decode prog_2_method_2_code 36 = .ok (.aload_n 1, 1) := by decide +kernel
theorem d_Plan_make_37 : decode prog_2_method_2_code 37 = .ok (.getfield 21, 3) := by decide +kernel
theorem d_Plan_make_40 : decode prog_2_method_2_code 40 = .ok (.iconst 1, 1) := by decide +kernel
theorem d_Plan_make_41 : decode prog_2_method_2_code 41 = .ok (.isub, 1) := by decide +kernel
theorem d_Plan_make_42 : decode prog_2_method_2_code 42 = .ok (.istore 5, 2) := by decide +kernel
theorem d_Plan_make_44 : decode prog_2_method_2_code 44 = .ok (.iload 5, 2) := by decide +kernel
theorem d_Plan_make_46 : decode prog_2_method_2_code 46 = .ok (.aload_n 1, 1) := by decide +kernel
theorem d_Plan_make_47 : decode prog_2_method_2_code 47 = .ok (.getfield 27, 3) := by decide +kernel
theorem d_Plan_make_50 : decode prog_2_method_2_code 50 = .ok (.if_icmp .lt 55, 3) := by decide +kernel
theorem d_Plan_make_53 : decode prog_2_method_2_code 53 = .ok (.aload_n 1, 1) := by decide +kernel
theorem d_Plan_make_54 : decode prog_2_method_2_code 54 = .ok (.iload 5, 2) := by decide +kernel
theorem d_Plan_make_56 : decode prog_2_method_2_code 56 = .ok (.invokevirtual 30, 3) := by decide +kernel
theorem d_Plan_make_59 : decode prog_2_method_2_code 59 = .ok (.ifCond .eq 9, 3) := by decide +kernel
theorem d_Plan_make_62 : decode prog_2_method_2_code 62 = .ok (.iinc 3 1, 3) := by decide +kernel
theorem d_Plan_make_65 : decode prog_2_method_2_code 65 = .ok (.goto 8, 3) := by decide +kernel
theorem d_Plan_make_68 : decode prog_2_method_2_code 68 = .ok (.iconst 0, 1) := by decide +kernel
theorem d_Plan_make_69 : decode prog_2_method_2_code 69 = .ok (.istore_n 3, 1) := by decide +kernel
theorem d_Plan_make_70 : decode prog_2_method_2_code 70 = .ok (.iinc 4 1, 3) := by decide +kernel
theorem d_Plan_make_73 : decode prog_2_method_2_code 73 = .ok (.aload_n 0, 1) := by decide +kernel
theorem d_Plan_make_74 : decode prog_2_method_2_code 74 = .ok (.iload 5, 2) := by decide +kernel
theorem d_Plan_make_76 : decode prog_2_method_2_code 76 = .ok (.invokevirtual 34, 3) := by decide +kernel
theorem d_Plan_make_79 : decode prog_2_method_2_code 79 = .ok (.aload_n 1, 1) := by decide +kernel
theorem d_Plan_make_80 : decode prog_2_method_2_code 80 = .ok (.iload 5, 2) := by decide +kernel
theorem d_Plan_make_82 : decode prog_2_method_2_code 82 = .ok (.invokevirtual 38, 3) := by decide +kernel
theorem d_Plan_make_85 : decode prog_2_method_2_code 85 = .ok (.ifCond .eq 14, 3) := by decide +kernel
theorem d_Plan_make_88 : decode prog_2_method_2_code 88 = .ok (.aload_n 0, 1) := by decide +kernel
theorem d_Plan_make_89 : decode prog_2_method_2_code 89 = .ok (.iload 5, 2) := by decide +kernel
theorem d_Plan_make_91 : decode prog_2_method_2_code 91 = .ok (.iload_n 3, 1) := by decide +kernel
theorem d_Plan_make_92 : decode prog_2_method_2_code 92 = .ok (.iload 4, 2) := by decide +kernel
theorem d_Plan_make_94 : decode prog_2_method_2_code 94 = .ok (.aload_n 1, 1) := by decide +kernel
theorem d_Plan_make_95 : decode prog_2_method_2_code 95 = .ok (.aload_n 2, 1) := by decide +kernel
theorem d_Plan_make_96 : decode prog_2_method_2_code 96 = .ok (.invokevirtual 41, 3) := by decide +kernel
theorem d_Plan_make_99 : decode prog_2_method_2_code 99 = .ok (.iinc 5 (-1), 3) := by decide +kernel
theorem d_Plan_make_102 : decode prog_2_method_2_code 102 = .ok (.goto (-58), 3) := by decide +kernel
theorem d_Plan_make_105 : decode prog_2_method_2_code 105 = .ok (.return_, 1) := by decide +kernel
theorem d_Plan_beginOfPart_0 : decode prog_2_method_3_code 0 = .ok (.iload_n 1, 1) := by decide +kernel
theorem d_Plan_beginOfPart_1 : decode prog_2_method_3_code 1 = .ok (.sipush 300, 3) := by decide +kernel
theorem d_Plan_beginOfPart_4 : decode prog_2_method_3_code 4 = .ok (.invokestatic 45, 3) := by decide +kernel
theorem d_Plan_beginOfPart_7 : decode prog_2_method_3_code 7 = .ok (.istore_n 3, 1) := by decide +kernel
theorem d_Plan_beginOfPart_8 : decode prog_2_method_3_code 8 = .ok (.aload_n 2, 1) := by decide +kernel
theorem d_Plan_beginOfPart_9 : decode prog_2_method_3_code 9 = .ok (.getfield 27, 3) := by decide +kernel
theorem d_Plan_beginOfPart_12 : decode prog_2_method_3_code 12 = .ok (.istore 4, 2) := by decide +kernel
theorem d_Plan_beginOfPart_14 : decode prog_2_method_3_code 14 = .ok (.iconst 0, 1) := by decide +kernel
theorem d_Plan_beginOfPart_15 : decode prog_2_method_3_code 15 = .ok (.istore 5, 2) := by decide +kernel
theorem d_Plan_beginOfPart_17 : decode prog_2_method_3_code 17 = .ok (.iload 5, 2) := by decide +kernel
theorem d_Plan_beginOfPart_19 : decode prog_2_method_3_code 19 = .ok (.iload_n 3, 1) := by decide +kernel
theorem d_Plan_beginOfPart_20 : decode prog_2_method_3_code 20 = .ok (.if_icmp .ge 30, 3) := by decide +kernel
theorem d_Plan_beginOfPart_23 : decode prog_2_method_3_code 23 = .ok (.iload 4, 2) := by decide +kernel
theorem d_Plan_beginOfPart_25 : decode prog_2_method_3_code 25 = .ok (.aload_n 2, 1) := by decide +kernel
theorem d_Plan_beginOfPart_26 : decode prog_2_method_3_code 26 = .ok (.getfield 21, 3) := by decide +kernel
theorem d_Plan_beginOfPart_29 : decode prog_2_method_3_code 29 = .ok (.if_icmp .ge 21, 3) := by decide +kernel
theorem d_Plan_beginOfPart_32 : decode prog_2_method_3_code 32 = .ok (.iload 4, 2) := by decide +kernel
theorem d_Plan_beginOfPart_34 : decode prog_2_method_3_code 34 = .ok (.aload_n 0, 1) := by decide +kernel
theorem d_Plan_beginOfPart_35 : decode prog_2_method_3_code 35 = .ok (.getfield 18, 3) := by decide +kernel
theorem d_Plan_beginOfPart_38 : decode prog_2_method_3_code 38 = .ok (.iload 4, 2) := by decide +kernel
theorem d_Plan_beginOfPart_40 : decode prog_2_method_3_code 40 = .ok (.iaload, 1) := by decide +kernel
theorem d_Plan_beginOfPart_41 : decode prog_2_method_3_code 41 = .ok (.iadd, 1) := by decide +kernel
theorem d_Plan_beginOfPart_42 : decode prog_2_method_3_code 42 = .ok (.istore 4, 2) := by decide +kernel
theorem d_Plan_beginOfPart_44 : decode prog_2_method_3_code 44 = .ok (.iinc 5 1, 3) := by decide +kernel
theorem d_Plan_beginOfPart_47 : decode prog_2_method_3_code 47 = .ok (.goto (-30), 3) := by decide +kernel
theorem d_Plan_beginOfPart_50 : decode prog_2_method_3_code 50 = .ok (.iload 4, 2) := by decide +kernel
theorem d_Plan_beginOfPart_52 : decode prog_2_method_3_code 52 = .ok (.ireturn, 1) := by decide +kernel
theorem d_Plan_takeScrap_0 : decode prog_2_method_4_code 0 = .ok (.aload_n 0, 1) := by decide +kernel
theorem d_Plan_takeScrap_1 : decode prog_2_method_4_code 1 = .ok (.getfield 15, 3) := by decide +kernel
theorem d_Plan_takeScrap_4 : decode prog_2_method_4_code 4 = .ok (.iload_n 1, 1) := by decide +kernel
theorem d_Plan_takeScrap_5 : decode prog_2_method_4_code 5 = .ok (.iconst 1, 1) := by decide +kernel
theorem d_Plan_takeScrap_6 : decode prog_2_method_4_code 6 = .ok (.iadd, 1) := by decide +kernel
theorem d_Plan_takeScrap_7 : decode prog_2_method_4_code 7 = .ok (.iaload, 1) := by decide +kernel
theorem d_Plan_takeScrap_8 : decode prog_2_method_4_code 8 = .ok (.iconst (-1), 1) := by decide +kernel
theorem d_Plan_takeScrap_9 : decode prog_2_method_4_code 9 = .ok (.if_icmp .ne 7, 3) := by decide +kernel
theorem d_Plan_takeScrap_12 : decode prog_2_method_4_code 12 = .ok (.iconst 1, 1) := by decide +kernel
theorem d_Plan_takeScrap_13 : decode prog_2_method_4_code 13 = .ok (.goto 4, 3) := by decide +kernel
theorem d_Plan_takeScrap_16 : decode prog_2_method_4_code 16 = .ok (.iconst 0, 1) := by decide +kernel
theorem d_Plan_takeScrap_17 : decode prog_2_method_4_code 17 = .ok (.istore_n 2, 1) := by decide +kernel
theorem d_Plan_takeScrap_18 : decode prog_2_method_4_code 18 = .ok (.aload_n 0, 1) := by decide +kernel
theorem d_Plan_takeScrap_19 : decode prog_2_method_4_code 19 = .ok (.getfield 9, 3) := by decide +kernel
theorem d_Plan_takeScrap_22 : decode prog_2_method_4_code 22 = .ok (.iload_n 1, 1) := by decide +kernel
theorem d_Plan_takeScrap_23 : decode prog_2_method_4_code 23 = .ok (.aload_n 0, 1) := by decide +kernel
theorem d_Plan_takeScrap_24 : decode prog_2_method_4_code 24 = .ok (.getfield 9, 3) := by decide +kernel
theorem d_Plan_takeScrap_27 : decode prog_2_method_4_code 27 = .ok (.iload_n 1, 1) := by decide +kernel
theorem d_Plan_takeScrap_28 : decode prog_2_method_4_code 28 = .ok (.iconst 1, 1) := by decide +kernel
theorem d_Plan_takeScrap_29 : decode prog_2_method_4_code 29 = .ok (.iadd, 1) := by decide +kernel
theorem d_Plan_takeScrap_30 : decode prog_2_method_4_code 30 = .ok (.iaload, 1) := by decide +kernel
theorem d_Plan_takeScrap_31 : decode prog_2_method_4_code 31 = .ok (.iconst 1, 1) := by decide +kernel
theorem d_Plan_takeScrap_32 : decode prog_2_method_4_code 32 = .ok (.iadd, 1) := by decide +kernel
theorem d_Plan_takeScrap_33 : decode prog_2_method_4_code 33 = .ok (.iastore, 1) := by decide +kernel
theorem d_Plan_takeScrap_34 : decode prog_2_method_4_code 34 = .ok (.aload_n 0, 1) := by decide +kernel
theorem d_Plan_takeScrap_35 : decode prog_2_method_4_code 35 = .ok (.getfield 15, 3) := by decide +kernel
theorem d_Plan_takeScrap_38 : decode prog_2_method_4_code 38 = .ok (.iload_n 1, 1) := by decide +kernel
theorem d_Plan_takeScrap_39 : decode prog_2_method_4_code 39 = .ok (.iconst (-1), 1) := by decide +kernel
theorem d_Plan_takeScrap_40 : decode prog_2_method_4_code 40 = .ok (.iastore, 1) := by decide +kernel
theorem d_Plan_takeScrap_41 : decode prog_2_method_4_code 41 = .ok (.aload_n 0, 1) := by decide +kernel
theorem d_Plan_takeScrap_42 : decode prog_2_method_4_code 42 = .ok (.getfield 18, 3) := by decide +kernel
theorem d_Plan_takeScrap_45 : decode prog_2_method_4_code 45 = .ok (.iload_n 1, 1) := by decide +kernel
theorem d_Plan_takeScrap_46 : decode prog_2_method_4_code 46 = .ok (.iload_n 2, 1) := by decide +kernel
theorem d_Plan_takeScrap_47 : decode prog_2_method_4_code 47 = .ok (.ifCond .eq 16, 3) := by decide +kernel
theorem d_Plan_takeScrap_50 : decode prog_2_method_4_code 50 = .ok (.aload_n 0, 1) := by decide +kernel
theorem d_Plan_takeScrap_51 : decode prog_2_method_4_code 51 = .ok (.getfield 18, 3) := by decide +kernel
theorem d_Plan_takeScrap_54 : decode prog_2_method_4_code 54 = .ok (.iload_n 1, 1) := by decide +kernel
theorem d_Plan_takeScrap_55 : decode prog_2_method_4_code 55 = .ok (.iconst 1, 1) := by decide +kernel
theorem d_Plan_takeScrap_56 : decode prog_2_method_4_code 56 = .ok (.iadd, 1) := by decide +kernel
theorem d_Plan_takeScrap_57 : decode prog_2_method_4_code 57 = .ok (.iaload, 1) := by decide +kernel
theorem d_Plan_takeScrap_58 : decode prog_2_method_4_code 58 = .ok (.iconst 1, 1) := by decide +kernel
theorem d_Plan_takeScrap_59 : decode prog_2_method_4_code 59 = .ok (.iadd, 1) := by decide +kernel
theorem d_Plan_takeScrap_60 : decode prog_2_method_4_code 60 = .ok (.goto 4, 3) := by decide +kernel
theorem d_Plan_takeScrap_63 : decode prog_2_method_4_code 63 = .ok (.iconst 1, 1) := by decide +kernel
theorem d_Plan_takeScrap_64 : decode prog_2_method_4_code 64 = .ok (.iastore, 1) := by decide +kernel
theorem d_Plan_takeScrap_65 : decode prog_2_method_4_code 65 = .ok (.return_, 1) := by decide +kernel
theorem d_Plan_takeBestPiece_0 : decode prog_2_method_5_code 0 = .ok (.iconst 0, 1) := by decide +kernel
theorem d_Plan_takeBestPiece_1 : decode prog_2_method_5_code 1 = .ok (.istore 6, 2) := by decide +kernel
theorem d_Plan_takeBestPiece_3 : decode prog_2_method_5_code 3 = .ok (.iload 6, 2) := by decide +kernel
theorem d_Plan_takeBestPiece_5 : decode prog_2_method_5_code 5 = .ok (.aload 5, 2) := by decide +kernel
theorem d_Plan_takeBestPiece_7 : decode prog_2_method_5_code 7 = .ok (.getfield 51, 3) := by decide +kernel
theorem d_Plan_takeBestPiece_10 : decode prog_2_method_5_code 10 = .ok (.if_icmp .ge 102, 3) := by decide +kernel
theorem d_Plan_takeBestPiece_13 : decode prog_2_method_5_code 13 = .ok (.aload 5, 2) := by decide +kernel
theorem d_Plan_takeBestPiece_15 : decode prog_2_method_5_code 15 = .ok (.getfield 56, 3) := by decide +kernel
theorem d_Plan_takeBestPiece_18 : decode prog_2_method_5_code 18 = .ok (.iload 6, 2) := by decide +kernel
theorem d_Plan_takeBestPiece_20 : decode prog_2_method_5_code 20 = .ok (.iaload, 1) := by decide +kernel
theorem d_Plan_takeBestPiece_21 : decode prog_2_method_5_code 21 = .ok (.iload_n 2, 1) := by decide +kernel
theorem d_Plan_takeBestPiece_22 : decode prog_2_method_5_code 22 = .ok (.invokestatic 45, 3) := by decide +kernel
theorem d_Plan_takeBestPiece_25 : decode prog_2_method_5_code 25 = .ok (.istore 7, 2) := by decide +kernel
theorem d_Plan_takeBestPiece_27 : decode prog_2_method_5_code 27 = .ok (.iload 7, 2) := by decide +kernel
theorem d_Plan_takeBestPiece_29 : decode prog_2_method_5_code 29 = .ok (.istore 8, 2) := by decide +kernel
theorem d_Plan_takeBestPiece_31 : decode prog_2_method_5_code 31 = .ok (.iload 8, 2) := by decide +kernel
theorem d_Plan_takeBestPiece_33 : decode prog_2_method_5_code 33 = .ok (.aload 5, 2) := by decide +kernel
theorem d_Plan_takeBestPiece_35 : decode prog_2_method_5_code 35 = .ok (.getfield 59, 3) := by decide +kernel
theorem d_Plan_takeBestPiece_38 : decode prog_2_method_5_code 38 = .ok (.iload 6, 2) := by decide +kernel
theorem d_Plan_takeBestPiece_40 : decode prog_2_method_5_code 40 = .ok (.iaload, 1) := by decide +kernel
theorem d_Plan_takeBestPiece_41 : decode prog_2_method_5_code 41 = .ok (.if_icmp .lt 65, 3) := by decide +kernel
theorem d_Plan_takeBestPiece_44 : decode prog_2_method_5_code 44 = .ok (.iload_n 1, 1) := by decide +kernel
theorem d_Plan_takeBestPiece_45 : decode prog_2_method_5_code 45 = .ok (.iload 8, 2) := by decide +kernel
theorem d_Plan_takeBestPiece_47 : decode prog_2_method_5_code 47 = .ok (.iadd, 1) := by decide +kernel
theorem d_Plan_takeBestPiece_48 : decode prog_2_method_5_code 48 = .ok (.istore 9, 2) := by decide +kernel
theorem d_Plan_takeBestPiece_50 : decode prog_2_method_5_code 50 = .ok (.aload 4, 2) := by decide +kernel
theorem d_Plan_takeBestPiece_52 : decode prog_2_method_5_code 52 = .ok (.iload 9, 2) := by decide +kernel
theorem d_Plan_takeBestPiece_54 : decode prog_2_method_5_code 54 = .ok (.invokevirtual 62, 3) := by decide +kernel
theorem d_Plan_takeBestPiece_57 : decode prog_2_method_5_code 57 = .ok (.ifCond .eq 22, 3) := by decide +kernel
theorem d_Plan_takeBestPiece_60 : decode prog_2_method_5_code 60 = .ok (.aload_n 0, 1) := by decide +kernel
theorem d_Plan_takeBestPiece_61 : decode prog_2_method_5_code 61 = .ok (.iload_n 1, 1) := by decide +kernel
theorem d_Plan_takeBestPiece_62 : decode prog_2_method_5_code 62 = .ok (.iload 9, 2) := by decide +kernel
theorem d_Plan_takeBestPiece_64 : decode prog_2_method_5_code 64 = .ok (.invokevirtual 65, 3) := by decide +kernel
theorem d_Plan_takeBestPiece_67 : decode prog_2_method_5_code 67 = .ok (.ifCond .eq 12, 3) := by decide +kernel
theorem d_Plan_takeBestPiece_70 : decode prog_2_method_5_code 70 = .ok (.aload_n 0, 1) := by decide +kernel
theorem d_Plan_takeBestPiece_71 : decode prog_2_method_5_code 71 = .ok (.iload_n 1, 1) := by decide +kernel
theorem d_Plan_takeBestPiece_72 : decode prog_2_method_5_code 72 = .ok (.iload 6, 2) := by decide +kernel
theorem d_Plan_takeBestPiece_74 : decode prog_2_method_5_code 74 = .ok (.iload 8, 2) := by decide +kernel
theorem d_Plan_takeBestPiece_76 : decode prog_2_method_5_code 76 = .ok (.invokevirtual 69, 3) := by decide +kernel
theorem d_Plan_takeBestPiece_79 : decode prog_2_method_5_code 79 = .ok (.aload_n 0, 1) := by decide +kernel
theorem d_Plan_takeBestPiece_80 : decode prog_2_method_5_code 80 = .ok (.getfield 15, 3) := by decide +kernel
theorem d_Plan_takeBestPiece_83 : decode prog_2_method_5_code 83 = .ok (.iload_n 1, 1) := by decide +kernel
theorem d_Plan_takeBestPiece_84 : decode prog_2_method_5_code 84 = .ok (.iaload, 1) := by decide +kernel
theorem d_Plan_takeBestPiece_85 : decode prog_2_method_5_code 85 = .ok (.iconst (-1), 1) := by decide +kernel
theorem d_Plan_takeBestPiece_86 : decode prog_2_method_5_code 86 = .ok (.if_icmp .eq 14, 3) := by decide +kernel
theorem d_Plan_takeBestPiece_89 : decode prog_2_method_5_code 89 = .ok (.aload_n 0, 1) := by decide +kernel
theorem d_Plan_takeBestPiece_90 : decode prog_2_method_5_code 90 = .ok (.getfield 9, 3) := by decide +kernel
theorem d_Plan_takeBestPiece_93 : decode prog_2_method_5_code 93 = .ok (.iload_n 1, 1) := by decide +kernel
theorem d_Plan_takeBestPiece_94 : decode prog_2_method_5_code 94 = .ok (.iaload, 1) := by decide +kernel
theorem d_Plan_takeBestPiece_95 : decode prog_2_method_5_code 95 = .ok (.iload_n 3, 1) := by decide +kernel
theorem d_Plan_takeBestPiece_96 : decode prog_2_method_5_code 96 = .ok (.if_icmp .ne 4, 3) := by decide +kernel
theorem d_Plan_takeBestPiece_99 : decode prog_2_method_5_code 99 = .ok (.return_, 1) := by decide +kernel
theorem d_Plan_takeBestPiece_100 : decode prog_2_method_5_code 100 = .ok (.iinc 8 (-1), 3) := by decide +kernel
theorem d_Plan_takeBestPiece_103 : decode prog_2_method_5_code 103 = .ok (.goto (-72), 3) := by decide +kernel
theorem d_Plan_takeBestPiece_106 : decode prog_2_method_5_code 106 = .ok (.iinc 6 1, 3) := by decide +kernel
theorem d_Plan_takeBestPiece_109 : decode prog_2_method_5_code 109 = .ok (.goto (-106), 3) := by decide +kernel
theorem d_Plan_takeBestPiece_112 : decode prog_2_method_5_code 112 = .ok (.return_, 1) := by decide +kernel
theorem d_Plan_takePiece_0 : decode prog_2_method_6_code 0 = .ok (.aload_n 0, 1) := by decide +kernel
theorem d_Plan_takePiece_1 : decode prog_2_method_6_code 1 = .ok (.getfield 9, 3) := by decide +kernel
theorem d_Plan_takePiece_4 : decode prog_2_method_6_code 4 = .ok (.iload_n 1, 1) := by decide +kernel
theorem d_Plan_takePiece_5 : decode prog_2_method_6_code 5 = .ok (.aload_n 0, 1) := by decide +kernel
theorem d_Plan_takePiece_6 : decode prog_2_method_6_code 6 = .ok (.getfield 9, 3) := by decide +kernel
theorem d_Plan_takePiece_9 : decode prog_2_method_6_code 9 = .ok (.iload_n 1, 1) := by decide +kernel
theorem d_Plan_takePiece_10 : decode prog_2_method_6_code 10 = .ok (.iload_n 3, 1) := by decide +kernel
theorem d_Plan_takePiece_11 : decode prog_2_method_6_code 11 = .ok (.iadd, 1) := by decide +kernel
theorem d_Plan_takePiece_12 : decode prog_2_method_6_code 12 = .ok (.iaload, 1) := by decide +kernel
theorem d_Plan_takePiece_13 : decode prog_2_method_6_code 13 = .ok (.iastore, 1) := by decide +kernel
theorem d_Plan_takePiece_14 : decode prog_2_method_6_code 14 = .ok (.aload_n 0, 1) := by decide +kernel
theorem d_Plan_takePiece_15 : decode prog_2_method_6_code 15 = .ok (.getfield 15, 3) := by decide +kernel
theorem d_Plan_takePiece_18 : decode prog_2_method_6_code 18 = .ok (.iload_n 1, 1) := by decide +kernel
theorem d_Plan_takePiece_19 : decode prog_2_method_6_code 19 = .ok (.iload_n 2, 1) := by decide +kernel
theorem d_Plan_takePiece_20 : decode prog_2_method_6_code 20 = .ok (.iastore, 1) := by decide +kernel
theorem d_Plan_takePiece_21 : decode prog_2_method_6_code 21 = .ok (.aload_n 0, 1) := by decide +kernel
theorem d_Plan_takePiece_22 : decode prog_2_method_6_code 22 = .ok (.getfield 18, 3) := by decide +kernel
theorem d_Plan_takePiece_25 : decode prog_2_method_6_code 25 = .ok (.iload_n 1, 1) := by decide +kernel
theorem d_Plan_takePiece_26 : decode prog_2_method_6_code 26 = .ok (.iload_n 3, 1) := by decide +kernel
theorem d_Plan_takePiece_27 : decode prog_2_method_6_code 27 = .ok (.iastore, 1) := by decide +kernel
theorem d_Plan_takePiece_28 : decode prog_2_method_6_code 28 = .ok (.return_, 1) := by decide +kernel
theorem d_Plan_isBetter_0 : decode prog_2_method_7_code 0 = .ok (.aload_n 0, 1) := by decide +kernel
theorem d_Plan_isBetter_1 : decode prog_2_method_7_code 1 = .ok (.getfield 9, 3) := by decide +kernel
theorem d_Plan_isBetter_4 : decode prog_2_method_7_code 4 = .ok (.iload_n 2, 1) := by decide +kernel
theorem d_Plan_isBetter_5 : decode prog_2_method_7_code 5 = .ok (.iaload, 1) := by decide +kernel
theorem d_Plan_isBetter_6 : decode prog_2_method_7_code 6 = .ok (.aload_n 0, 1) := by decide +kernel
theorem d_Plan_isBetter_7 : decode prog_2_method_7_code 7 = .ok (.getfield 9, 3) := by decide +kernel
theorem d_Plan_isBetter_10 : decode prog_2_method_7_code 10 = .ok (.iload_n 1, 1) := by decide +kernel
theorem d_Plan_isBetter_11 : decode prog_2_method_7_code 11 = .ok (.iaload, 1) := by decide +kernel
theorem d_Plan_isBetter_12 : decode prog_2_method_7_code 12 = .ok (.if_icmp .ge 7, 3) := by decide +kernel
theorem d_Plan_isBetter_15 : decode prog_2_method_7_code 15 = .ok (.iconst 1, 1) := by decide +kernel
theorem d_Plan_isBetter_16 : decode prog_2_method_7_code 16 = .ok (.goto 4, 3) := by decide +kernel
theorem d_Plan_isBetter_19 : decode prog_2_method_7_code 19 = .ok (.iconst 0, 1) := by decide +kernel
theorem d_Plan_isBetter_20 : decode prog_2_method_7_code 20 = .ok (.istore_n 3, 1) := by decide +kernel
theorem d_Plan_isBetter_21 : decode prog_2_method_7_code 21 = .ok (.aload_n 0, 1) := by decide +kernel
theorem d_Plan_isBetter_22 : decode prog_2_method_7_code 22 = .ok (.getfield 9, 3) := by decide +kernel
theorem d_Plan_isBetter_25 : decode prog_2_method_7_code 25 = .ok (.iload_n 2, 1) := by decide +kernel
theorem d_Plan_isBetter_26 : decode prog_2_method_7_code 26 = .ok (.iaload, 1) := by decide +kernel
theorem d_Plan_isBetter_27 : decode prog_2_method_7_code 27 = .ok (.aload_n 0, 1) := by decide +kernel
theorem d_Plan_isBetter_28 : decode prog_2_method_7_code 28 = .ok (.getfield 9, 3) := by decide +kernel
theorem d_Plan_isBetter_31 : decode prog_2_method_7_code 31 = .ok (.iload_n 1, 1) := by decide +kernel
theorem d_Plan_isBetter_32 : decode prog_2_method_7_code 32 = .ok (.iaload, 1) := by decide +kernel
theorem d_Plan_isBetter_33 : decode prog_2_method_7_code 33 = .ok (.if_icmp .ne 17, 3) := by decide +kernel
theorem d_Plan_isBetter_36 : decode prog_2_method_7_code 36 = .ok (.aload_n 0, 1) := by decide +kernel
theorem d_Plan_isBetter_37 : decode prog_2_method_7_code 37 = .ok (.getfield 15, 3) := by decide +kernel
theorem d_Plan_isBetter_40 : decode prog_2_method_7_code 40 = .ok (.iload_n 1, 1) := by decide +kernel
theorem d_Plan_isBetter_41 : decode prog_2_method_7_code 41 = .ok (.iaload, 1) := by decide +kernel
theorem d_Plan_isBetter_42 : decode prog_2_method_7_code 42 = .ok (.iconst (-1), 1) := by decide +kernel
theorem d_Plan_isBetter_43 : decode prog_2_method_7_code 43 = .ok (.if_icmp .ne 7, 3) := by decide +kernel
theorem d_Plan_isBetter_46 : decode prog_2_method_7_code 46 = .ok (.iconst 1, 1) := by decide +kernel
theorem d_Plan_isBetter_47 : decode prog_2_method_7_code 47 = .ok (.goto 4, 3) := by decide +kernel
theorem d_Plan_isBetter_50 : decode prog_2_method_7_code 50 = .ok (.iconst 0, 1) := by decide +kernel
theorem d_Plan_isBetter_51 : decode prog_2_method_7_code 51 = .ok (.istore 4, 2) := by decide +kernel
theorem d_Plan_isBetter_53 : decode prog_2_method_7_code 53 = .ok (.iload_n 3, 1) := by decide +kernel
theorem d_Plan_isBetter_54 : decode prog_2_method_7_code 54 = .ok (.ifCond .ne 8, 3) := by decide +kernel
theorem d_Plan_isBetter_57 : decode prog_2_method_7_code 57 = .ok (.iload 4, 2) := by decide +kernel
theorem d_Plan_isBetter_59 : decode prog_2_method_7_code 59 = .ok (.ifCond .eq 7, 3) := by decide +kernel
theorem d_Plan_isBetter_62 : decode prog_2_method_7_code 62 = .ok (.iconst 1, 1) := by decide +kernel
theorem d_Plan_isBetter_63 : decode prog_2_method_7_code 63 = .ok (.goto 4, 3) := by decide +kernel
theorem d_Plan_isBetter_66 : decode prog_2_method_7_code 66 = .ok (.iconst 0, 1) := by decide +kernel
theorem d_Plan_isBetter_67 : decode prog_2_method_7_code 67 = .ok (.ireturn, 1) := by decide +kernel
theorem d_Slabs_init_0 : decode prog_3_method_1_code 0 = .ok (.aload_n 0, 1) := by decide +kernel
theorem d_Slabs_init_1 : decode prog_3_method_1_code 1 = .ok (.invokespecial 3, 3) := by decide +kernel
theorem d_Slabs_init_4 : decode prog_3_method_1_code 4 = .ok (.aload_n 0, 1) := by decide +kernel
theorem d_Slabs_init_5 : decode prog_3_method_1_code 5 = .ok (.iconst 0, 1) := by decide +kernel
theorem d_Slabs_init_6 : decode prog_3_method_1_code 6 = .ok (.putfield 9, 3) := by decide +kernel
theorem d_Slabs_init_9 : decode prog_3_method_1_code 9 = .ok (.aload_n 0, 1) := by decide +kernel
theorem d_Slabs_init_10 : decode prog_3_method_1_code 10 = .ok (.bipush 100, 2) := by decide +kernel
theorem d_Slabs_init_12 : decode prog_3_method_1_code 12 = .ok (.newarray .int, 2) := by decide +kernel
theorem d_Slabs_init_14 : decode prog_3_method_1_code 14 = .ok (.putfield 15, 3) := by decide +kernel
theorem d_Slabs_init_17 : decode prog_3_method_1_code 17 = .ok (.aload_n 0, 1) := by decide +kernel
theorem d_Slabs_init_18 : decode prog_3_method_1_code 18 = .ok (.bipush 100, 2) := by decide +kernel
theorem d_Slabs_init_20 : decode prog_3_method_1_code 20 = .ok (.newarray .int, 2) := by decide +kernel
theorem d_Slabs_init_22 : decode prog_3_method_1_code 22 = .ok (.putfield 19, 3) := by decide +kernel
theorem d_Slabs_init_25 : decode prog_3_method_1_code 25 = .ok (.aload_n 0, 1) := by decide +kernel
theorem d_Slabs_init_26 : decode prog_3_method_1_code 26 = .ok (.bipush 100, 2) := by decide +kernel
theorem d_Slabs_init_28 : decode prog_3_method_1_code 28 = .ok (.newarray .int, 2) := by decide +kernel
theorem d_Slabs_init_30 : decode prog_3_method_1_code 30 = .ok (.putfield 22, 3) := by decide +kernel
theorem d_Slabs_init_33 : decode prog_3_method_1_code 33 = .ok (.return_, 1) := by decide +kernel
theorem d_Slabs_append_0 : decode prog_3_method_2_code 0 = .ok (.aload_n 0, 1) := by decide +kernel
theorem d_Slabs_append_1 : decode prog_3_method_2_code 1 = .ok (.getfield 15, 3) := by decide +kernel
theorem d_Slabs_append_4 : decode prog_3_method_2_code 4 = .ok (.aload_n 0, 1) := by decide +kernel
theorem d_Slabs_append_5 : decode prog_3_method_2_code 5 = .ok (.getfield 9, 3) := by decide +kernel
theorem d_Slabs_append_8 : decode prog_3_method_2_code 8 = .ok (.iload_n 1, 1) := by decide +kernel
theorem d_Slabs_append_9 : decode prog_3_method_2_code 9 = .ok (.iastore, 1) := by decide +kernel
theorem d_Slabs_append_10 : decode prog_3_method_2_code 10 = .ok (.aload_n 0, 1) := by decide +kernel
theorem d_Slabs_append_11 : decode prog_3_method_2_code 11 = .ok (.getfield 19, 3) := by decide +kernel
theorem d_Slabs_append_14 : decode prog_3_method_2_code 14 = .ok (.aload_n 0, 1) := by decide +kernel
theorem d_Slabs_append_15 : decode prog_3_method_2_code 15 = .ok (.getfield 9, 3) := by decide +kernel
theorem d_Slabs_append_18 : decode prog_3_method_2_code 18 = .ok (.iload_n 2, 1) := by decide +kernel
theorem d_Slabs_append_19 : decode prog_3_method_2_code 19 = .ok (.iastore, 1) := by decide +kernel
theorem d_Slabs_append_20 : decode prog_3_method_2_code 20 = .ok (.aload_n 0, 1) := by decide +kernel
theorem d_Slabs_append_21 : decode prog_3_method_2_code 21 = .ok (.getfield 22, 3) := by decide +kernel
theorem d_Slabs_append_24 : decode prog_3_method_2_code 24 = .ok (.aload_n 0, 1) := by decide +kernel
theorem d_Slabs_append_25 : decode prog_3_method_2_code 25 = .ok (.getfield 9, 3) := by decide +kernel
theorem d_Slabs_append_28 : decode prog_3_method_2_code 28 = .ok (.iload_n 3, 1) := by decide +kernel
theorem d_Slabs_append_29 : decode prog_3_method_2_code 29 = .ok (.iastore, 1) := by decide +kernel
theorem d_Slabs_append_30 : decode prog_3_method_2_code 30 = .ok (.aload_n 0, 1) := by decide +kernel
theorem d_Slabs_append_31 : decode prog_3_method_2_code 31 = .ok (.dup, 1) := by decide +kernel
theorem d_Slabs_append_32 : decode prog_3_method_2_code 32 = .ok (.getfield 9, 3) := by decide +kernel
theorem d_Slabs_append_35 : decode prog_3_method_2_code 35 = .ok (.iconst 1, 1) := by decide +kernel
theorem d_Slabs_append_36 : decode prog_3_method_2_code 36 = .ok (.iadd, 1) := by decide +kernel
theorem d_Slabs_append_37 : decode prog_3_method_2_code 37 = .ok (.putfield 9, 3) := by decide +kernel
theorem d_Slabs_append_40 : decode prog_3_method_2_code 40 = .ok (.return_, 1) := by decide +kernel
theorem d_Slabs_howManyOf_0 : decode prog_3_method_3_code 0 = .ok (.iconst 0, 1) := by decide +kernel
theorem d_Slabs_howManyOf_1 : decode prog_3_method_3_code 1 = .ok (.istore_n 2, 1) := by decide +kernel
theorem d_Slabs_howManyOf_2 : decode prog_3_method_3_code 2 = .ok (.iconst 0, 1) := by decide +kernel
theorem d_Slabs_howManyOf_3 : decode prog_3_method_3_code 3 = .ok (.istore_n 3, 1) := by decide +kernel
theorem d_Slabs_howManyOf_4 : decode prog_3_method_3_code 4 = .ok (.iload_n 3, 1) := by decide +kernel
theorem d_Slabs_howManyOf_5 : decode prog_3_method_3_code 5 = .ok (.aload_n 0, 1) := by decide +kernel
theorem d_Slabs_howManyOf_6 : decode prog_3_method_3_code 6 = .ok (.getfield 9, 3) := by decide +kernel
theorem d_Slabs_howManyOf_9 : decode prog_3_method_3_code 9 = .ok (.if_icmp .ge 22, 3) := by decide +kernel
theorem d_Slabs_howManyOf_12 : decode prog_3_method_3_code 12 = .ok (.aload_n 0, 1) := by decide +kernel
theorem d_Slabs_howManyOf_13 : decode prog_3_method_3_code 13 = .ok (.getfield 15, 3) := by decide +kernel
theorem d_Slabs_howManyOf_16 : decode prog_3_method_3_code 16 = .ok (.iload_n 3, 1) := by decide +kernel
theorem d_Slabs_howManyOf_17 : decode prog_3_method_3_code 17 = .ok (.iaload, 1) := by decide +kernel
theorem d_Slabs_howManyOf_18 : decode prog_3_method_3_code 18 = .ok (.iload_n 1, 1) := by decide +kernel
theorem d_Slabs_howManyOf_19 : decode prog_3_method_3_code 19 = .ok (.if_icmp .ne 6, 3) := by decide +kernel
theorem d_Slabs_howManyOf_22 : decode prog_3_method_3_code 22 = .ok (.iinc 2 1, 3) := by decide +kernel
theorem d_Slabs_howManyOf_25 : decode prog_3_method_3_code 25 = .ok (.iinc 3 1, 3) := by decide +kernel
theorem d_Slabs_howManyOf_28 : decode prog_3_method_3_code 28 = .ok (.goto (-24), 3) := by decide +kernel
theorem d_Slabs_howManyOf_31 : decode prog_3_method_3_code 31 = .ok (.iload_n 2, 1) := by decide +kernel
theorem d_Slabs_howManyOf_32 : decode prog_3_method_3_code 32 = .ok (.ireturn, 1) := by decide +kernel
theorem d_Strand_init_0 : decode prog_4_method_1_code 0 = .ok (.aload_n 0, 1) := by decide +kernel
theorem d_Strand_init_1 : decode prog_4_method_1_code 1 = .ok (.invokespecial 3, 3) := by decide +kernel
theorem d_Strand_init_4 : decode prog_4_method_1_code 4 = .ok (.aload_n 0, 1) := by decide +kernel
theorem d_Strand_init_5 : decode prog_4_method_1_code 5 = .ok (.iconst 0, 1) := by decide +kernel
theorem d_Strand_init_6 : decode prog_4_method_1_code 6 = .ok (.putfield 9, 3) := by decide +kernel
theorem d_Strand_init_9 : decode prog_4_method_1_code 9 = .ok (.aload_n 0, 1) := by decide +kernel
theorem d_Strand_init_10 : decode prog_4_method_1_code 10 = .ok (.iconst 0, 1) := by decide +kernel
theorem d_Strand_init_11 : decode prog_4_method_1_code 11 = .ok (.putfield 15, 3) := by decide +kernel
theorem d_Strand_init_14 : decode prog_4_method_1_code 14 = .ok (.aload_n 0, 1) := by decide +kernel
theorem d_Strand_init_15 : decode prog_4_method_1_code 15 = .ok (.iconst 0, 1) := by decide +kernel
theorem d_Strand_init_16 : decode prog_4_method_1_code 16 = .ok (.putfield 18, 3) := by decide +kernel
theorem d_Strand_init_19 : decode prog_4_method_1_code 19 = .ok (.aload_n 0, 1) := by decide +kernel
theorem d_Strand_init_20 : decode prog_4_method_1_code 20 = .ok (.iconst 0, 1) := by decide +kernel
theorem d_Strand_init_21 : decode prog_4_method_1_code 21 = .ok (.putfield 21, 3) := by decide +kernel
theorem d_Strand_init_24 : decode prog_4_method_1_code 24 = .ok (.aload_n 0, 1) := by decide +kernel
theorem d_Strand_init_25 : decode prog_4_method_1_code 25 = .ok (.iconst 0, 1) := by decide +kernel
theorem d_Strand_init_26 : decode prog_4_method_1_code 26 = .ok (.putfield 24, 3) := by decide +kernel
theorem d_Strand_init_29 : decode prog_4_method_1_code 29 = .ok (.aload_n 0, 1) := by decide +kernel
theorem d_Strand_init_30 : decode prog_4_method_1_code 30 = .ok (.iconst 0, 1) := by decide +kernel
theorem d_Strand_init_31 : decode prog_4_method_1_code 31 = .ok (.putfield 27, 3) := by decide +kernel
theorem d_Strand_init_34 : decode prog_4_method_1_code 34 = .ok (.aload_n 0, 1) := by decide +kernel
theorem d_Strand_init_35 : decode prog_4_method_1_code 35 = .ok (.sipush 300, 3) := by decide +kernel
theorem d_Strand_init_38 : decode prog_4_method_1_code 38 = .ok (.newarray .boolean, 2) := by decide +kernel
theorem d_Strand_init_40 : decode prog_4_method_1_code 40 = .ok (.putfield 30, 3) := by decide +kernel
theorem d_Strand_init_43 : decode prog_4_method_1_code 43 = .ok (.aload_n 0, 1) := by decide +kernel
theorem d_Strand_init_44 : decode prog_4_method_1_code 44 = .ok (.sipush 301, 3) := by decide +kernel
theorem d_Strand_init_47 : decode prog_4_method_1_code 47 = .ok (.newarray .boolean, 2) := by decide +kernel
theorem d_Strand_init_49 : decode prog_4_method_1_code 49 = .ok (.putfield 34, 3) := by decide +kernel
theorem d_Strand_init_52 : decode prog_4_method_1_code 52 = .ok (.return_, 1) := by decide +kernel
theorem d_Strand_markBad_0 : decode prog_4_method_2_code 0 = .ok (.iload_n 1, 1) := by decide +kernel
theorem d_Strand_markBad_1 : decode prog_4_method_2_code 1 = .ok (.istore_n 3, 1) := by decide +kernel
theorem d_Strand_markBad_2 : decode prog_4_method_2_code 2 = .ok (.iload_n 3, 1) := by decide +kernel
theorem d_Strand_markBad_3 : decode prog_4_method_2_code 3 = .ok (.iload_n 2, 1) := by decide +kernel
theorem d_Strand_markBad_4 : decode prog_4_method_2_code 4 = .ok (.if_icmp .ge 16, 3) := by decide +kernel
theorem d_Strand_markBad_7 : decode prog_4_method_2_code 7 = .ok (.aload_n 0, 1) := by decide +kernel
theorem d_Strand_markBad_8 : decode prog_4_method_2_code 8 = .ok (.getfield 30, 3) := by decide +kernel
theorem d_Strand_markBad_11 : decode prog_4_method_2_code 11 = .ok (.iload_n 3, 1) := by decide +kernel
theorem d_Strand_markBad_12 : decode prog_4_method_2_code 12 = .ok (.iconst 1, 1) := by decide +kernel
theorem d_Strand_markBad_13 : decode prog_4_method_2_code 13 = .ok (.bastore, 1) := by decide +kernel
theorem d_Strand_markBad_14 : decode prog_4_method_2_code 14 = .ok (.iinc 3 1, 3) := by decide +kernel
theorem d_Strand_markBad_17 : decode prog_4_method_2_code 17 = .ok (.goto (-15), 3) := by decide +kernel
theorem d_Strand_markBad_20 : decode prog_4_method_2_code 20 = .ok (.aload_n 0, 1) := by decide +kernel
theorem d_Strand_markBad_21 : decode prog_4_method_2_code 21 = .ok (.dup, 1) := by decide +kernel
theorem d_Strand_markBad_22 : decode prog_4_method_2_code 22 = .ok (.getfield 24, 3) := by decide +kernel
theorem d_Strand_markBad_25 : decode prog_4_method_2_code 25 = .ok (.iconst 1, 1) := by decide +kernel
theorem d_Strand_markBad_26 : decode prog_4_method_2_code 26 = .ok (.iadd, 1) := by decide +kernel
theorem d_Strand_markBad_27 : decode prog_4_method_2_code 27 = .ok (.putfield 24, 3) := by decide +kernel
theorem d_Strand_markBad_30 : decode prog_4_method_2_code 30 = .ok (.return_, 1) := by decide +kernel
theorem d_Strand_markBarred_0 : decode prog_4_method_3_code 0 = .ok (.iload_n 1, 1) := by decide +kernel
theorem d_Strand_markBarred_1 : decode prog_4_method_3_code 1 = .ok (.istore_n 3, 1) := by decide +kernel
theorem d_Strand_markBarred_2 : decode prog_4_method_3_code 2 = .ok (.iload_n 3, 1) := by decide +kernel
theorem d_Strand_markBarred_3 : decode prog_4_method_3_code 3 = .ok (.iload_n 2, 1) := by decide +kernel
theorem d_Strand_markBarred_4 : decode prog_4_method_3_code 4 = .ok (.if_icmp .gt 16, 3) := by decide +kernel
theorem d_Strand_markBarred_7 : decode prog_4_method_3_code 7 = .ok (.aload_n 0, 1) := by decide +kernel
theorem d_Strand_markBarred_8 : decode prog_4_method_3_code 8 = .ok (.getfield 34, 3) := by decide +kernel
theorem d_Strand_markBarred_11 : decode prog_4_method_3_code 11 = .ok (.iload_n 3, 1) := by decide +kernel
theorem d_Strand_markBarred_12 : decode prog_4_method_3_code 12 = .ok (.iconst 1, 1) := by decide +kernel
theorem d_Strand_markBarred_13 : decode prog_4_method_3_code 13 = .ok (.bastore, 1) := by decide +kernel
theorem d_Strand_markBarred_14 : decode prog_4_method_3_code 14 = .ok (.iinc 3 1, 3) := by decide +kernel
theorem d_Strand_markBarred_17 : decode prog_4_method_3_code 17 = .ok (.goto (-15), 3) := by decide +kernel
theorem d_Strand_markBarred_20 : decode prog_4_method_3_code 20 = .ok (.aload_n 0, 1) := by decide +kernel
theorem d_Strand_markBarred_21 : decode prog_4_method_3_code 21 = .ok (.dup, 1) := by decide +kernel
theorem d_Strand_markBarred_22 : decode prog_4_method_3_code 22 = .ok (.getfield 27, 3) := by decide +kernel
theorem d_Strand_markBarred_25 : decode prog_4_method_3_code 25 = .ok (.iconst 1, 1) := by decide +kernel
theorem d_Strand_markBarred_26 : decode prog_4_method_3_code 26 = .ok (.iadd, 1) := by decide +kernel
theorem d_Strand_markBarred_27 : decode prog_4_method_3_code 27 = .ok (.putfield 27, 3) := by decide +kernel
theorem d_Strand_markBarred_30 : decode prog_4_method_3_code 30 = .ok (.return_, 1) := by decide +kernel
theorem d_Strand_isSound_0 : decode prog_4_method_4_code 0 = .ok (.iload_n 1, 1) := by decide +kernel
theorem d_Strand_isSound_1 : decode prog_4_method_4_code 1 = .ok (.aload_n 0, 1) := by decide +kernel
theorem d_Strand_isSound_2 : decode prog_4_method_4_code 2 = .ok (.getfield 18, 3) := by decide +kernel
theorem d_Strand_isSound_5 : decode prog_4_method_4_code 5 = .ok (.if_icmp .lt 29, 3) := by decide +kernel
theorem d_Strand_isSound_8 : decode prog_4_method_4_code 8 = .ok (.iload_n 1, 1) := by decide +kernel
theorem d_Strand_isSound_9 : decode prog_4_method_4_code 9 = .ok (.aload_n 0, 1) := by decide +kernel
theorem d_Strand_isSound_10 : decode prog_4_method_4_code 10 = .ok (.getfield 9, 3) := by decide +kernel
theorem d_Strand_isSound_13 : decode prog_4_method_4_code 13 = .ok (.aload_n 0, 1) := by decide +kernel
theorem d_Strand_isSound_14 : decode prog_4_method_4_code 14 = .ok (.getfield 21, 3) := by decide +kernel
theorem d_Strand_isSound_17 : decode prog_4_method_4_code 17 = .ok (.isub, 1) := by decide +kernel
theorem d_Strand_isSound_18 : decode prog_4_method_4_code 18 = .ok (.if_icmp .ge 16, 3) := by decide +kernel
theorem d_Strand_isSound_21 : decode prog_4_method_4_code 21 = .ok (.aload_n 0, 1) := by decide +kernel
theorem d_Strand_isSound_22 : decode prog_4_method_4_code 22 = .ok (.getfield 30, 3) := by decide +kernel
theorem d_Strand_isSound_25 : decode prog_4_method_4_code 25 = .ok (.iload_n 1, 1) := by decide +kernel
theorem d_Strand_isSound_26 : decode prog_4_method_4_code 26 = .ok (.baload, 1) := by decide +kernel
theorem d_Strand_isSound_27 : decode prog_4_method_4_code 27 = .ok (.ifCond .ne 7, 3) := by decide +kernel
theorem d_Strand_isSound_30 : decode prog_4_method_4_code 30 = .ok (.iconst 1, 1) := by decide +kernel
theorem d_Strand_isSound_31 : decode prog_4_method_4_code 31 = .ok (.goto 4, 3) := by decide +kernel
theorem d_Strand_isSound_34 : decode prog_4_method_4_code 34 = .ok (.iconst 0, 1) := by decide +kernel
theorem d_Strand_isSound_35 : decode prog_4_method_4_code 35 = .ok (.ireturn, 1) := by decide +kernel
theorem d_Strand_pieceMayBegin_0 : decode prog_4_method_5_code 0 = .ok (.iload_n 1, 1) := by decide +kernel
theorem d_Strand_pieceMayBegin_1 : decode prog_4_method_5_code 1 = .ok (.aload_n 0, 1) := by decide +kernel
theorem d_Strand_pieceMayBegin_2 : decode prog_4_method_5_code 2 = .ok (.getfield 15, 3) := by decide +kernel
theorem d_Strand_pieceMayBegin_5 : decode prog_4_method_5_code 5 = .ok (.if_icmp .eq 12, 3) := by decide +kernel
theorem d_Strand_pieceMayBegin_8 : decode prog_4_method_5_code 8 = .ok (.aload_n 0, 1) := by decide +kernel
theorem d_Strand_pieceMayBegin_9 : decode prog_4_method_5_code 9 = .ok (.getfield 34, 3) := by decide +kernel
theorem d_Strand_pieceMayBegin_12 : decode prog_4_method_5_code 12 = .ok (.iload_n 1, 1) := by decide +kernel
theorem d_Strand_pieceMayBegin_13 : decode prog_4_method_5_code 13 = .ok (.baload, 1) := by decide +kernel
theorem d_Strand_pieceMayBegin_14 : decode prog_4_method_5_code 14 = .ok (.ifCond .ne 7, 3) := by decide +kernel
theorem d_Strand_pieceMayBegin_17 : decode prog_4_method_5_code 17 = .ok (.iconst 1, 1) := by decide +kernel
theorem d_Strand_pieceMayBegin_18 : decode prog_4_method_5_code 18 = .ok (.goto 4, 3) := by decide +kernel
theorem d_Strand_pieceMayBegin_21 : decode prog_4_method_5_code 21 = .ok (.iconst 0, 1) := by decide +kernel
theorem d_Strand_pieceMayBegin_22 : decode prog_4_method_5_code 22 = .ok (.ireturn, 1) := by decide +kernel
theorem d_Strand_pieceMayEnd_0 : decode prog_4_method_6_code 0 = .ok (.iload_n 1, 1) := by decide +kernel
theorem d_Strand_pieceMayEnd_1 : decode prog_4_method_6_code 1 = .ok (.aload_n 0, 1) := by decide +kernel
theorem d_Strand_pieceMayEnd_2 : decode prog_4_method_6_code 2 = .ok (.getfield 9, 3) := by decide +kernel
theorem d_Strand_pieceMayEnd_5 : decode prog_4_method_6_code 5 = .ok (.if_icmp .eq 12, 3) := by decide +kernel
theorem d_Strand_pieceMayEnd_8 : decode prog_4_method_6_code 8 = .ok (.aload_n 0, 1) := by decide +kernel
theorem d_Strand_pieceMayEnd_9 : decode prog_4_method_6_code 9 = .ok (.getfield 34, 3) := by decide +kernel
theorem d_Strand_pieceMayEnd_12 : decode prog_4_method_6_code 12 = .ok (.iload_n 1, 1) := by decide +kernel
theorem d_Strand_pieceMayEnd_13 : decode prog_4_method_6_code 13 = .ok (.baload, 1) := by decide +kernel
theorem d_Strand_pieceMayEnd_14 : decode prog_4_method_6_code 14 = .ok (.ifCond .ne 7, 3) := by decide +kernel
theorem d_Strand_pieceMayEnd_17 : decode prog_4_method_6_code 17 = .ok (.iconst 1, 1) := by decide +kernel
theorem d_Strand_pieceMayEnd_18 : decode prog_4_method_6_code 18 = .ok (.goto 4, 3) := by decide +kernel
theorem d_Strand_pieceMayEnd_21 : decode prog_4_method_6_code 21 = .ok (.iconst 0, 1) := by decide +kernel
theorem d_Strand_pieceMayEnd_22 : decode prog_4_method_6_code 22 = .ok (.ireturn, 1) := by decide +kernel
theorem d_Wanted_init_0 : decode prog_5_method_1_code 0 = .ok (.aload_n 0, 1) := by decide +kernel
theorem d_Wanted_init_1 : decode prog_5_method_1_code 1 = .ok (.invokespecial 3, 3) := by decide +kernel
theorem d_Wanted_init_4 : decode prog_5_method_1_code 4 = .ok (.aload_n 0, 1) := by decide +kernel
theorem d_Wanted_init_5 : decode prog_5_method_1_code 5 = .ok (.iconst 0, 1) := by decide +kernel
theorem d_Wanted_init_6 : decode prog_5_method_1_code 6 = .ok (.putfield 9, 3) := by decide +kernel
theorem d_Wanted_init_9 : decode prog_5_method_1_code 9 = .ok (.aload_n 0, 1) := by decide +kernel
theorem d_Wanted_init_10 : decode prog_5_method_1_code 10 = .ok (.bipush 6, 2) := by decide +kernel
theorem d_Wanted_init_12 : decode prog_5_method_1_code 12 = .ok (.newarray .int, 2) := by decide +kernel
theorem d_Wanted_init_14 : decode prog_5_method_1_code 14 = .ok (.putfield 15, 3) := by decide +kernel
theorem d_Wanted_init_17 : decode prog_5_method_1_code 17 = .ok (.aload_n 0, 1) := by decide +kernel
theorem d_Wanted_init_18 : decode prog_5_method_1_code 18 = .ok (.bipush 6, 2) := by decide +kernel
theorem d_Wanted_init_20 : decode prog_5_method_1_code 20 = .ok (.newarray .int, 2) := by decide +kernel
theorem d_Wanted_init_22 : decode prog_5_method_1_code 22 = .ok (.putfield 19, 3) := by decide +kernel
theorem d_Wanted_init_25 : decode prog_5_method_1_code 25 = .ok (.return_, 1) := by decide +kernel
