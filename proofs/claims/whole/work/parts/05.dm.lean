/-! decode rows (written by wip/whole/mk_names.py) -/
theorem d_Model_init_0 : decode prog_7_method_1_code 0 = .ok (.aload_n 0, 1) := by decide +kernel
theorem d_Model_init_1 : decode prog_7_method_1_code 1 = .ok (.invokespecial 1, 3) := by decide +kernel
theorem d_Model_init_4 : decode prog_7_method_1_code 4 = .ok (.aload_n 0, 1) := by decide +kernel
theorem d_Model_init_5 : decode prog_7_method_1_code 5 = .ok (.bipush 100, 2) := by decide +kernel
theorem d_Model_init_7 : decode prog_7_method_1_code 7 = .ok (.putfield 7, 3) := by decide +kernel
theorem d_Model_init_10 : decode prog_7_method_1_code 10 = .ok (.aload_n 0, 1) := by decide +kernel
theorem d_Model_init_11 : decode prog_7_method_1_code 11 = .ok (.sipush 1000, 3) := by decide +kernel
theorem d_Model_init_14 : decode prog_7_method_1_code 14 = .ok (.putfield 13, 3) := by decide +kernel
theorem d_Model_init_17 : decode prog_7_method_1_code 17 = .ok (.aload_n 0, 1) := by decide +kernel
theorem d_Model_init_18 : decode prog_7_method_1_code 18 = .ok (.bipush 6, 2) := by decide +kernel
theorem d_Model_init_20 : decode prog_7_method_1_code 20 = .ok (.newarray .int, 2) := by decide +kernel
theorem d_Model_init_22 : decode prog_7_method_1_code 22 = .ok (.putfield 16, 3) := by decide +kernel
theorem d_Model_init_25 : decode prog_7_method_1_code 25 = .ok (.aload_n 0, 1) := by decide +kernel
theorem d_Model_init_26 : decode prog_7_method_1_code 26 = .ok (.bipush 6, 2) := by decide +kernel
theorem d_Model_init_28 : decode prog_7_method_1_code 28 = .ok (.newarray .int, 2) := by decide +kernel
theorem d_Model_init_30 : decode prog_7_method_1_code 30 = .ok (.putfield 20, 3) := by decide +kernel
theorem d_Model_init_33 : decode prog_7_method_1_code 33 = .ok (.aload_n 0, 1) := by decide +kernel
theorem d_Model_init_34 : decode prog_7_method_1_code 34 = .ok (.bipush 20, 2) := by decide +kernel
theorem d_Model_init_36 : decode prog_7_method_1_code 36 = .ok (.newarray .int, 2) := by decide +kernel
theorem d_Model_init_38 : decode prog_7_method_1_code 38 = .ok (.putfield 23, 3) := by decide +kernel
theorem d_Model_init_41 : decode prog_7_method_1_code 41 = .ok (.aload_n 0, 1) := by decide +kernel
theorem d_Model_init_42 : decode prog_7_method_1_code 42 = .ok (.bipush 20, 2) := by decide +kernel
theorem d_Model_init_44 : decode prog_7_method_1_code 44 = .ok (.newarray .int, 2) := by decide +kernel
theorem d_Model_init_46 : decode prog_7_method_1_code 46 = .ok (.putfield 26, 3) := by decide +kernel
theorem d_Model_init_49 : decode prog_7_method_1_code 49 = .ok (.aload_n 0, 1) := by decide +kernel
theorem d_Model_init_50 : decode prog_7_method_1_code 50 = .ok (.bipush 20, 2) := by decide +kernel
theorem d_Model_init_52 : decode prog_7_method_1_code 52 = .ok (.newarray .int, 2) := by decide +kernel
theorem d_Model_init_54 : decode prog_7_method_1_code 54 = .ok (.putfield 29, 3) := by decide +kernel
theorem d_Model_init_57 : decode prog_7_method_1_code 57 = .ok (.aload_n 0, 1) := by decide +kernel
theorem d_Model_init_58 : decode prog_7_method_1_code 58 = .ok (.bipush 20, 2) := by decide +kernel
theorem d_Model_init_60 : decode prog_7_method_1_code 60 = .ok (.newarray .int, 2) := by decide +kernel
theorem d_Model_init_62 : decode prog_7_method_1_code 62 = .ok (.putfield 32, 3) := by decide +kernel
theorem d_Model_init_65 : decode prog_7_method_1_code 65 = .ok (.aload_n 0, 1) := by decide +kernel
theorem d_Model_init_66 : decode prog_7_method_1_code 66 = .ok (.bipush 100, 2) := by decide +kernel
theorem d_Model_init_68 : decode prog_7_method_1_code 68 = .ok (.newarray .int, 2) := by decide +kernel
theorem d_Model_init_70 : decode prog_7_method_1_code 70 = .ok (.putfield 35, 3) := by decide +kernel
theorem d_Model_init_73 : decode prog_7_method_1_code 73 = .ok (.aload_n 0, 1) := by decide +kernel
theorem d_Model_init_74 : decode prog_7_method_1_code 74 = .ok (.bipush 100, 2) := by decide +kernel
theorem d_Model_init_76 : decode prog_7_method_1_code 76 = .ok (.newarray .int, 2) := by decide +kernel
theorem d_Model_init_78 : decode prog_7_method_1_code 78 = .ok (.putfield 38, 3) := by decide +kernel
theorem d_Model_init_81 : decode prog_7_method_1_code 81 = .ok (.aload_n 0, 1) := by decide +kernel
theorem d_Model_init_82 : decode prog_7_method_1_code 82 = .ok (.bipush 100, 2) := by decide +kernel
theorem d_Model_init_84 : decode prog_7_method_1_code 84 = .ok (.newarray .int, 2) := by decide +kernel
theorem d_Model_init_86 : decode prog_7_method_1_code 86 = .ok (.putfield 41, 3) := by decide +kernel
theorem d_Model_init_89 : decode prog_7_method_1_code 89 = .ok (.aload_n 0, 1) := by decide +kernel
theorem d_Model_init_90 : decode prog_7_method_1_code 90 = .ok (.sipush 301, 3) := by decide +kernel
theorem d_Model_init_93 : decode prog_7_method_1_code 93 = .ok (.newarray .int, 2) := by decide +kernel
theorem d_Model_init_95 : decode prog_7_method_1_code 95 = .ok (.putfield 44, 3) := by decide +kernel
theorem d_Model_init_98 : decode prog_7_method_1_code 98 = .ok (.aload_n 0, 1) := by decide +kernel
theorem d_Model_init_99 : decode prog_7_method_1_code 99 = .ok (.sipush 301, 3) := by decide +kernel
theorem d_Model_init_102 : decode prog_7_method_1_code 102 = .ok (.newarray .int, 2) := by decide +kernel
theorem d_Model_init_104 : decode prog_7_method_1_code 104 = .ok (.putfield 47, 3) := by decide +kernel
theorem d_Model_init_107 : decode prog_7_method_1_code 107 = .ok (.aload_n 0, 1) := by decide +kernel
theorem d_Model_init_108 : decode prog_7_method_1_code 108 = .ok (.sipush 301, 3) := by decide +kernel
theorem d_Model_init_111 : decode prog_7_method_1_code 111 = .ok (.newarray .int, 2) := by decide +kernel
theorem d_Model_init_113 : decode prog_7_method_1_code 113 = .ok (.putfield 50, 3) := by decide +kernel
theorem d_Model_init_116 : decode prog_7_method_1_code 116 = .ok (.aload_n 0, 1) := by decide +kernel
theorem d_Model_init_117 : decode prog_7_method_1_code 117 = .ok (.sipush 302, 3) := by decide +kernel
theorem d_Model_init_120 : decode prog_7_method_1_code 120 = .ok (.newarray .int, 2) := by decide +kernel
theorem d_Model_init_122 : decode prog_7_method_1_code 122 = .ok (.putfield 53, 3) := by decide +kernel
theorem d_Model_init_125 : decode prog_7_method_1_code 125 = .ok (.return_, 1) := by decide +kernel
theorem d_Model_thrown_0 : decode prog_7_method_2_code 0 = .ok (.aload_n 0, 1) := by decide +kernel
theorem d_Model_thrown_1 : decode prog_7_method_2_code 1 = .ok (.getfield 56, 3) := by decide +kernel
theorem d_Model_thrown_4 : decode prog_7_method_2_code 4 = .ok (.ireturn, 1) := by decide +kernel
theorem d_Model_throwing_0 : decode prog_7_method_3_code 0 = .ok (.aload_n 0, 1) := by decide +kernel
theorem d_Model_throwing_1 : decode prog_7_method_3_code 1 = .ok (.iload_n 1, 1) := by decide +kernel
theorem d_Model_throwing_2 : decode prog_7_method_3_code 2 = .ok (.ifCond .eq 7, 3) := by decide +kernel
theorem d_Model_throwing_5 : decode prog_7_method_3_code 5 = .ok (.iconst 1, 1) := by decide +kernel
theorem d_Model_throwing_6 : decode prog_7_method_3_code 6 = .ok (.goto 12, 3) := by decide +kernel
theorem d_Model_throwing_9 : decode prog_7_method_3_code 9 = .ok (.iload_n 2, 1) := by decide +kernel
theorem d_Model_throwing_10 : decode prog_7_method_3_code 10 = .ok (.ifCond .eq 7, 3) := by decide +kernel
theorem d_Model_throwing_13 : decode prog_7_method_3_code 13 = .ok (.iconst 2, 1) := by decide +kernel
theorem d_Model_throwing_14 : decode prog_7_method_3_code 14 = .ok (.goto 4, 3) := by decide +kernel
theorem d_Model_throwing_17 : decode prog_7_method_3_code 17 = .ok (.iconst 0, 1) := by decide +kernel
theorem d_Model_throwing_18 : decode prog_7_method_3_code 18 = .ok (.putfield 56, 3) := by decide +kernel
theorem d_Model_throwing_21 : decode prog_7_method_3_code 21 = .ok (.aload_n 0, 1) := by decide +kernel
theorem d_Model_throwing_22 : decode prog_7_method_3_code 22 = .ok (.getfield 56, 3) := by decide +kernel
theorem d_Model_throwing_25 : decode prog_7_method_3_code 25 = .ok (.ifCond .le 7, 3) := by decide +kernel
theorem d_Model_throwing_28 : decode prog_7_method_3_code 28 = .ok (.iconst 1, 1) := by decide +kernel
theorem d_Model_throwing_29 : decode prog_7_method_3_code 29 = .ok (.goto 4, 3) := by decide +kernel
theorem d_Model_throwing_32 : decode prog_7_method_3_code 32 = .ok (.iconst 0, 1) := by decide +kernel
theorem d_Model_throwing_33 : decode prog_7_method_3_code 33 = .ok (.ireturn, 1) := by decide +kernel
theorem d_Model_in_0 : decode prog_7_method_4_code 0 = .ok (.iload_n 0, 1) := by decide +kernel
theorem d_Model_in_1 : decode prog_7_method_4_code 1 = .ok (.iload_n 1, 1) := by decide +kernel
theorem d_Model_in_2 : decode prog_7_method_4_code 2 = .ok (.if_icmp .lt 12, 3) := by decide +kernel
theorem d_Model_in_5 : decode prog_7_method_4_code 5 = .ok (.iload_n 0, 1) := by decide +kernel
theorem d_Model_in_6 : decode prog_7_method_4_code 6 = .ok (.iload_n 2, 1) := by decide +kernel
theorem d_Model_in_7 : decode prog_7_method_4_code 7 = .ok (.if_icmp .gt 7, 3) := by decide +kernel
theorem d_Model_in_10 : decode prog_7_method_4_code 10 = .ok (.iconst 1, 1) := by decide +kernel
theorem d_Model_in_11 : decode prog_7_method_4_code 11 = .ok (.goto 4, 3) := by decide +kernel
theorem d_Model_in_14 : decode prog_7_method_4_code 14 = .ok (.iconst 0, 1) := by decide +kernel
theorem d_Model_in_15 : decode prog_7_method_4_code 15 = .ok (.ireturn, 1) := by decide +kernel
theorem d_Model_step_0 : decode prog_7_method_5_code 0 = .ok (.aload_n 0, 1) := by decide +kernel
theorem d_Model_step_1 : decode prog_7_method_5_code 1 = .ok (.aload_n 0, 1) := by decide +kernel
theorem d_Model_step_2 : decode prog_7_method_5_code 2 = .ok (.getfield 59, 3) := by decide +kernel
theorem d_Model_step_5 : decode prog_7_method_5_code 5 = .ok (.ifCond .le 7, 3) := by decide +kernel
theorem d_Model_step_8 : decode prog_7_method_5_code 8 = .ok (.iconst 1, 1) := by decide +kernel
theorem d_Model_step_9 : decode prog_7_method_5_code 9 = .ok (.goto 4, 3) := by decide +kernel
theorem d_Model_step_12 : decode prog_7_method_5_code 12 = .ok (.iconst 0, 1) := by decide +kernel
theorem d_Model_step_13 : decode prog_7_method_5_code 13 = .ok (.iload_n 1, 1) := by decide +kernel
theorem d_Model_step_14 : decode prog_7_method_5_code 14 = .ok (.iconst 1, 1) := by decide +kernel
theorem d_Model_step_15 : decode prog_7_method_5_code 15 = .ok (.ldc 62, 2) := by decide +kernel
theorem d_Model_step_17 : decode prog_7_method_5_code 17 = .ok (.invokestatic 63, 3) := by decide +kernel
theorem d_Model_step_20 : decode prog_7_method_5_code 20 = .ok (.ifCond .eq 13, 3) := by decide +kernel
theorem d_Model_step_23 : decode prog_7_method_5_code 23 = .ok (.iload_n 2, 1) := by decide +kernel
theorem d_Model_step_24 : decode prog_7_method_5_code 24 = .ok (.iconst 1, 1) := by decide +kernel
theorem d_Model_step_25 : decode prog_7_method_5_code 25 = .ok (.ldc 67, 2) := by decide +kernel
theorem d_Model_step_27 : decode prog_7_method_5_code 27 = .ok (.invokestatic 63, 3) := by decide +kernel
theorem d_Model_step_30 : decode prog_7_method_5_code 30 = .ok (.ifCond .ne 7, 3) := by decide +kernel
theorem d_Model_step_33 : decode prog_7_method_5_code 33 = .ok (.iconst 1, 1) := by decide +kernel
theorem d_Model_step_34 : decode prog_7_method_5_code 34 = .ok (.goto 4, 3) := by decide +kernel
theorem d_Model_step_37 : decode prog_7_method_5_code 37 = .ok (.iconst 0, 1) := by decide +kernel
theorem d_Model_step_38 : decode prog_7_method_5_code 38 = .ok (.invokevirtual 68, 3) := by decide +kernel
theorem d_Model_step_41 : decode prog_7_method_5_code 41 = .ok (.ifCond .eq 4, 3) := by decide +kernel
theorem d_Model_step_44 : decode prog_7_method_5_code 44 = .ok (.return_, 1) := by decide +kernel
theorem d_Model_step_45 : decode prog_7_method_5_code 45 = .ok (.aload_n 0, 1) := by decide +kernel
theorem d_Model_step_46 : decode prog_7_method_5_code 46 = .ok (.iload_n 1, 1) := by decide +kernel
theorem d_Model_step_47 : decode prog_7_method_5_code 47 = .ok (.putfield 7, 3) := by decide +kernel
theorem d_Model_step_50 : decode prog_7_method_5_code 50 = .ok (.aload_n 0, 1) := by decide +kernel
theorem d_Model_step_51 : decode prog_7_method_5_code 51 = .ok (.iload_n 2, 1) := by decide +kernel
theorem d_Model_step_52 : decode prog_7_method_5_code 52 = .ok (.putfield 13, 3) := by decide +kernel
theorem d_Model_step_55 : decode prog_7_method_5_code 55 = .ok (.return_, 1) := by decide +kernel
theorem d_Model_cast_0 : decode prog_7_method_6_code 0 = .ok (.aload_n 0, 1) := by decide +kernel
theorem d_Model_cast_1 : decode prog_7_method_6_code 1 = .ok (.iload_n 1, 1) := by decide +kernel
theorem d_Model_cast_2 : decode prog_7_method_6_code 2 = .ok (.ifCond .ge 7, 3) := by decide +kernel
theorem d_Model_cast_5 : decode prog_7_method_6_code 5 = .ok (.iconst 1, 1) := by decide +kernel
theorem d_Model_cast_6 : decode prog_7_method_6_code 6 = .ok (.goto 4, 3) := by decide +kernel
theorem d_Model_cast_9 : decode prog_7_method_6_code 9 = .ok (.iconst 0, 1) := by decide +kernel
theorem d_Model_cast_10 : decode prog_7_method_6_code 10 = .ok (.iload_n 1, 1) := by decide +kernel
theorem d_Model_cast_11 : decode prog_7_method_6_code 11 = .ok (.sipush 300, 3) := by decide +kernel
theorem d_Model_cast_14 : decode prog_7_method_6_code 14 = .ok (.aload_n 0, 1) := by decide +kernel
theorem d_Model_cast_15 : decode prog_7_method_6_code 15 = .ok (.getfield 72, 3) := by decide +kernel
theorem d_Model_cast_18 : decode prog_7_method_6_code 18 = .ok (.isub, 1) := by decide +kernel
theorem d_Model_cast_19 : decode prog_7_method_6_code 19 = .ok (.if_icmp .le 7, 3) := by decide +kernel
theorem d_Model_cast_22 : decode prog_7_method_6_code 22 = .ok (.iconst 1, 1) := by decide +kernel
theorem d_Model_cast_23 : decode prog_7_method_6_code 23 = .ok (.goto 4, 3) := by decide +kernel
theorem d_Model_cast_26 : decode prog_7_method_6_code 26 = .ok (.iconst 0, 1) := by decide +kernel
theorem d_Model_cast_27 : decode prog_7_method_6_code 27 = .ok (.invokevirtual 68, 3) := by decide +kernel
theorem d_Model_cast_30 : decode prog_7_method_6_code 30 = .ok (.ifCond .eq 5, 3) := by decide +kernel
theorem d_Model_cast_33 : decode prog_7_method_6_code 33 = .ok (.iconst 0, 1) := by decide +kernel
theorem d_Model_cast_34 : decode prog_7_method_6_code 34 = .ok (.ireturn, 1) := by decide +kernel
theorem d_Model_cast_35 : decode prog_7_method_6_code 35 = .ok (.aload_n 0, 1) := by decide +kernel
theorem d_Model_cast_36 : decode prog_7_method_6_code 36 = .ok (.dup, 1) := by decide +kernel
theorem d_Model_cast_37 : decode prog_7_method_6_code 37 = .ok (.getfield 72, 3) := by decide +kernel
theorem d_Model_cast_40 : decode prog_7_method_6_code 40 = .ok (.iload_n 1, 1) := by decide +kernel
theorem d_Model_cast_41 : decode prog_7_method_6_code 41 = .ok (.iadd, 1) := by decide +kernel
theorem d_Model_cast_42 : decode prog_7_method_6_code 42 = .ok (.putfield 72, 3) := by decide +kernel
theorem d_Model_cast_45 : decode prog_7_method_6_code 45 = .ok (.aload_n 0, 1) := by decide +kernel
theorem d_Model_cast_46 : decode prog_7_method_6_code 46 = .ok (.getfield 72, 3) := by decide +kernel
theorem d_Model_cast_49 : decode prog_7_method_6_code 49 = .ok (.ireturn, 1) := by decide +kernel
theorem d_Model_isSpan_0 : decode prog_7_method_7_code 0 = .ok (.iload_n 0, 1) := by decide +kernel
theorem d_Model_isSpan_1 : decode prog_7_method_7_code 1 = .ok (.iconst 1, 1) := by decide +kernel
theorem d_Model_isSpan_2 : decode prog_7_method_7_code 2 = .ok (.bipush 60, 2) := by decide +kernel
theorem d_Model_isSpan_4 : decode prog_7_method_7_code 4 = .ok (.invokestatic 63, 3) := by decide +kernel
theorem d_Model_isSpan_7 : decode prog_7_method_7_code 7 = .ok (.ifCond .eq 17, 3) := by decide +kernel
theorem d_Model_isSpan_10 : decode prog_7_method_7_code 10 = .ok (.iload_n 1, 1) := by decide +kernel
theorem d_Model_isSpan_11 : decode prog_7_method_7_code 11 = .ok (.iload_n 0, 1) := by decide +kernel
theorem d_Model_isSpan_12 : decode prog_7_method_7_code 12 = .ok (.bipush 60, 2) := by decide +kernel
theorem d_Model_isSpan_14 : decode prog_7_method_7_code 14 = .ok (.invokestatic 63, 3) := by decide +kernel
theorem d_Model_isSpan_17 : decode prog_7_method_7_code 17 = .ok (.ifCond .eq 7, 3) := by decide +kernel
theorem d_Model_isSpan_20 : decode prog_7_method_7_code 20 = .ok (.iconst 1, 1) := by decide +kernel
theorem d_Model_isSpan_21 : decode prog_7_method_7_code 21 = .ok (.goto 4, 3) := by decide +kernel
theorem d_Model_isSpan_24 : decode prog_7_method_7_code 24 = .ok (.iconst 0, 1) := by decide +kernel
theorem d_Model_isSpan_25 : decode prog_7_method_7_code 25 = .ok (.ireturn, 1) := by decide +kernel
theorem d_Model_want_0 : decode prog_7_method_8_code 0 = .ok (.aload_n 0, 1) := by decide +kernel
theorem d_Model_want_1 : decode prog_7_method_8_code 1 = .ok (.aload_n 0, 1) := by decide +kernel
theorem d_Model_want_2 : decode prog_7_method_8_code 2 = .ok (.getfield 75, 3) := by decide +kernel
theorem d_Model_want_5 : decode prog_7_method_8_code 5 = .ok (.bipush 6, 2) := by decide +kernel
theorem d_Model_want_7 : decode prog_7_method_8_code 7 = .ok (.if_icmp .ne 7, 3) := by decide +kernel
theorem d_Model_want_10 : decode prog_7_method_8_code 10 = .ok (.iconst 1, 1) := by decide +kernel
theorem d_Model_want_11 : decode prog_7_method_8_code 11 = .ok (.goto 4, 3) := by decide +kernel
theorem d_Model_want_14 : decode prog_7_method_8_code 14 = .ok (.iconst 0, 1) := by decide +kernel
theorem d_Model_want_15 : decode prog_7_method_8_code 15 = .ok (.iload_n 1, 1) := by decide +kernel
theorem d_Model_want_16 : decode prog_7_method_8_code 16 = .ok (.iload_n 2, 1) := by decide +kernel
theorem d_Model_want_17 : decode prog_7_method_8_code 17 = .ok (.invokestatic 78, 3) := by decide +kernel
theorem d_Model_want_20 : decode prog_7_method_8_code 20 = .ok (.ifCond .ne 7, 3) := by decide +kernel
theorem d_Model_want_23 : decode prog_7_method_8_code 23 = .ok (.iconst 1, 1) := by decide +kernel
theorem d_Model_want_24 : decode prog_7_method_8_code 24 = .ok (.goto 4, 3) := by decide +kernel
theorem d_Model_want_27 : decode prog_7_method_8_code 27 = .ok (.iconst 0, 1) := by decide +kernel
theorem d_Model_want_28 : decode prog_7_method_8_code 28 = .ok (.invokevirtual 68, 3) := by decide +kernel
theorem d_Model_want_31 : decode prog_7_method_8_code 31 = .ok (.ifCond .eq 5, 3) := by decide +kernel
theorem d_Model_want_34 : decode prog_7_method_8_code 34 = .ok (.iconst 0, 1) := by decide +kernel
theorem d_Model_want_35 : decode prog_7_method_8_code 35 = .ok (.ireturn, 1) := by decide +kernel
theorem d_Model_want_36 : decode prog_7_method_8_code 36 = .ok (.aload_n 0, 1) := by decide +kernel
theorem d_Model_want_37 : decode prog_7_method_8_code 37 = .ok (.getfield 16, 3) := by decide +kernel
theorem d_Model_want_40 : decode prog_7_method_8_code 40 = .ok (.aload_n 0, 1) := by decide +kernel
theorem d_Model_want_41 : decode prog_7_method_8_code 41 = .ok (.getfield 75, 3) := by decide +kernel
theorem d_Model_want_44 : decode prog_7_method_8_code 44 = .ok (.iload_n 1, 1) := by decide +kernel
theorem d_Model_want_45 : decode prog_7_method_8_code 45 = .ok (.iastore, 1) := by decide +kernel
theorem d_Model_want_46 : decode prog_7_method_8_code 46 = .ok (.aload_n 0, 1) := by decide +kernel
theorem d_Model_want_47 : decode prog_7_method_8_code 47 = .ok (.getfield 20, 3) := by decide +kernel
theorem d_Model_want_50 : decode prog_7_method_8_code 50 = .ok (.aload_n 0, 1) := by decide +kernel
theorem d_Model_want_51 : decode prog_7_method_8_code 51 = .ok (.getfield 75, 3) := by decide +kernel
theorem d_Model_want_54 : decode prog_7_method_8_code 54 = .ok (.iload_n 2, 1) := by decide +kernel
theorem d_Model_want_55 : decode prog_7_method_8_code 55 = .ok (.iastore, 1) := by decide +kernel
theorem d_Model_want_56 : decode prog_7_method_8_code 56 = .ok (.aload_n 0, 1) := by decide +kernel
theorem d_Model_want_57 : decode prog_7_method_8_code 57 = .ok (.dup, 1) := by decide +kernel
theorem d_Model_want_58 : decode prog_7_method_8_code 58 = .ok (.getfield 75, 3) := by decide +kernel
theorem d_Model_want_61 : decode prog_7_method_8_code 61 = .ok (.iconst 1, 1) := by decide +kernel
theorem d_Model_want_62 : decode prog_7_method_8_code 62 = .ok (.iadd, 1) := by decide +kernel
theorem d_Model_want_63 : decode prog_7_method_8_code 63 = .ok (.putfield 75, 3) := by decide +kernel
theorem d_Model_want_66 : decode prog_7_method_8_code 66 = .ok (.aload_n 0, 1) := by decide +kernel
theorem d_Model_want_67 : decode prog_7_method_8_code 67 = .ok (.getfield 75, 3) := by decide +kernel
theorem d_Model_want_70 : decode prog_7_method_8_code 70 = .ok (.iconst 1, 1) := by decide +kernel
theorem d_Model_want_71 : decode prog_7_method_8_code 71 = .ok (.isub, 1) := by decide +kernel
theorem d_Model_want_72 : decode prog_7_method_8_code 72 = .ok (.ireturn, 1) := by decide +kernel
theorem d_Model_span_0 : decode prog_7_method_9_code 0 = .ok (.aload_n 0, 1) := by decide +kernel
theorem d_Model_span_1 : decode prog_7_method_9_code 1 = .ok (.iload_n 1, 1) := by decide +kernel
theorem d_Model_span_2 : decode prog_7_method_9_code 2 = .ok (.iconst 0, 1) := by decide +kernel
theorem d_Model_span_3 : decode prog_7_method_9_code 3 = .ok (.aload_n 0, 1) := by decide +kernel
theorem d_Model_span_4 : decode prog_7_method_9_code 4 = .ok (.getfield 75, 3) := by decide +kernel
theorem d_Model_span_7 : decode prog_7_method_9_code 7 = .ok (.iconst 1, 1) := by decide +kernel
theorem d_Model_span_8 : decode prog_7_method_9_code 8 = .ok (.isub, 1) := by decide +kernel
theorem d_Model_span_9 : decode prog_7_method_9_code 9 = .ok (.invokestatic 63, 3) := by decide +kernel
theorem d_Model_span_12 : decode prog_7_method_9_code 12 = .ok (.ifCond .ne 7, 3) := by decide +kernel
theorem d_Model_span_15 : decode prog_7_method_9_code 15 = .ok (.iconst 1, 1) := by decide +kernel
theorem d_Model_span_16 : decode prog_7_method_9_code 16 = .ok (.goto 4, 3) := by decide +kernel
theorem d_Model_span_19 : decode prog_7_method_9_code 19 = .ok (.iconst 0, 1) := by decide +kernel
theorem d_Model_span_20 : decode prog_7_method_9_code 20 = .ok (.iload_n 2, 1) := by decide +kernel
theorem d_Model_span_21 : decode prog_7_method_9_code 21 = .ok (.iload_n 3, 1) := by decide +kernel
theorem d_Model_span_22 : decode prog_7_method_9_code 22 = .ok (.invokestatic 78, 3) := by decide +kernel
theorem d_Model_span_25 : decode prog_7_method_9_code 25 = .ok (.ifCond .ne 7, 3) := by decide +kernel
theorem d_Model_span_28 : decode prog_7_method_9_code 28 = .ok (.iconst 1, 1) := by decide +kernel
theorem d_Model_span_29 : decode prog_7_method_9_code 29 = .ok (.goto 4, 3) := by decide +kernel
theorem d_Model_span_32 : decode prog_7_method_9_code 32 = .ok (.iconst 0, 1) := by decide +kernel
theorem d_Model_span_33 : decode prog_7_method_9_code 33 = .ok (.invokevirtual 68, 3) := by decide +kernel
theorem d_Model_span_36 : decode prog_7_method_9_code 36 = .ok (.ifCond .eq 4, 3) := by decide +kernel
theorem d_Model_span_39 : decode prog_7_method_9_code 39 = .ok (.return_, 1) := by decide +kernel
theorem d_Model_span_40 : decode prog_7_method_9_code 40 = .ok (.aload_n 0, 1) := by decide +kernel
theorem d_Model_span_41 : decode prog_7_method_9_code 41 = .ok (.getfield 16, 3) := by decide +kernel
theorem d_Model_span_44 : decode prog_7_method_9_code 44 = .ok (.iload_n 1, 1) := by decide +kernel
theorem d_Model_span_45 : decode prog_7_method_9_code 45 = .ok (.iload_n 2, 1) := by decide +kernel
theorem d_Model_span_46 : decode prog_7_method_9_code 46 = .ok (.iastore, 1) := by decide +kernel
theorem d_Model_span_47 : decode prog_7_method_9_code 47 = .ok (.aload_n 0, 1) := by decide +kernel
theorem d_Model_span_48 : decode prog_7_method_9_code 48 = .ok (.getfield 20, 3) := by decide +kernel
theorem d_Model_span_51 : decode prog_7_method_9_code 51 = .ok (.iload_n 1, 1) := by decide +kernel
theorem d_Model_span_52 : decode prog_7_method_9_code 52 = .ok (.iload_n 3, 1) := by decide +kernel
theorem d_Model_span_53 : decode prog_7_method_9_code 53 = .ok (.iastore, 1) := by decide +kernel
theorem d_Model_span_54 : decode prog_7_method_9_code 54 = .ok (.return_, 1) := by decide +kernel
theorem d_Model_trim_0 : decode prog_7_method_10_code 0 = .ok (.aload_n 0, 1) := by decide +kernel
theorem d_Model_trim_1 : decode prog_7_method_10_code 1 = .ok (.iload_n 1, 1) := by decide +kernel
theorem d_Model_trim_2 : decode prog_7_method_10_code 2 = .ok (.iconst 0, 1) := by decide +kernel
theorem d_Model_trim_3 : decode prog_7_method_10_code 3 = .ok (.sipush 300, 3) := by decide +kernel
theorem d_Model_trim_6 : decode prog_7_method_10_code 6 = .ok (.invokestatic 63, 3) := by decide +kernel
theorem d_Model_trim_9 : decode prog_7_method_10_code 9 = .ok (.ifCond .eq 14, 3) := by decide +kernel
theorem d_Model_trim_12 : decode prog_7_method_10_code 12 = .ok (.iload_n 2, 1) := by decide +kernel
theorem d_Model_trim_13 : decode prog_7_method_10_code 13 = .ok (.iconst 0, 1) := by decide +kernel
theorem d_Model_trim_14 : decode prog_7_method_10_code 14 = .ok (.sipush 300, 3) := by decide +kernel
theorem d_Model_trim_17 : decode prog_7_method_10_code 17 = .ok (.invokestatic 63, 3) := by decide +kernel
theorem d_Model_trim_20 : decode prog_7_method_10_code 20 = .ok (.ifCond .ne 7, 3) := by decide +kernel
theorem d_Model_trim_23 : decode prog_7_method_10_code 23 = .ok (.iconst 1, 1) := by decide +kernel
theorem d_Model_trim_24 : decode prog_7_method_10_code 24 = .ok (.goto 4, 3) := by decide +kernel
theorem d_Model_trim_27 : decode prog_7_method_10_code 27 = .ok (.iconst 0, 1) := by decide +kernel
theorem d_Model_trim_28 : decode prog_7_method_10_code 28 = .ok (.iconst 0, 1) := by decide +kernel
theorem d_Model_trim_29 : decode prog_7_method_10_code 29 = .ok (.invokevirtual 68, 3) := by decide +kernel
theorem d_Model_trim_32 : decode prog_7_method_10_code 32 = .ok (.ifCond .eq 4, 3) := by decide +kernel
theorem d_Model_trim_35 : decode prog_7_method_10_code 35 = .ok (.return_, 1) := by decide +kernel
theorem d_Model_trim_36 : decode prog_7_method_10_code 36 = .ok (.aload_n 0, 1) := by decide +kernel
theorem d_Model_trim_37 : decode prog_7_method_10_code 37 = .ok (.iload_n 1, 1) := by decide +kernel
theorem d_Model_trim_38 : decode prog_7_method_10_code 38 = .ok (.putfield 82, 3) := by decide +kernel
theorem d_Model_trim_41 : decode prog_7_method_10_code 41 = .ok (.aload_n 0, 1) := by decide +kernel
theorem d_Model_trim_42 : decode prog_7_method_10_code 42 = .ok (.iload_n 2, 1) := by decide +kernel
theorem d_Model_trim_43 : decode prog_7_method_10_code 43 = .ok (.putfield 85, 3) := by decide +kernel
theorem d_Model_trim_46 : decode prog_7_method_10_code 46 = .ok (.return_, 1) := by decide +kernel
theorem d_Model_isRow_0 : decode prog_7_method_11_code 0 = .ok (.iload_n 0, 1) := by decide +kernel
theorem d_Model_isRow_1 : decode prog_7_method_11_code 1 = .ok (.iconst 0, 1) := by decide +kernel
theorem d_Model_isRow_2 : decode prog_7_method_11_code 2 = .ok (.sipush 300, 3) := by decide +kernel
theorem d_Model_isRow_5 : decode prog_7_method_11_code 5 = .ok (.invokestatic 63, 3) := by decide +kernel
theorem d_Model_isRow_8 : decode prog_7_method_11_code 8 = .ok (.ifCond .eq 18, 3) := by decide +kernel
theorem d_Model_isRow_11 : decode prog_7_method_11_code 11 = .ok (.iload_n 1, 1) := by decide +kernel
theorem d_Model_isRow_12 : decode prog_7_method_11_code 12 = .ok (.iload_n 0, 1) := by decide +kernel
theorem d_Model_isRow_13 : decode prog_7_method_11_code 13 = .ok (.sipush 300, 3) := by decide +kernel
theorem d_Model_isRow_16 : decode prog_7_method_11_code 16 = .ok (.invokestatic 63, 3) := by decide +kernel
theorem d_Model_isRow_19 : decode prog_7_method_11_code 19 = .ok (.ifCond .eq 7, 3) := by decide +kernel
theorem d_Model_isRow_22 : decode prog_7_method_11_code 22 = .ok (.iconst 1, 1) := by decide +kernel
theorem d_Model_isRow_23 : decode prog_7_method_11_code 23 = .ok (.goto 4, 3) := by decide +kernel
theorem d_Model_isRow_26 : decode prog_7_method_11_code 26 = .ok (.iconst 0, 1) := by decide +kernel
theorem d_Model_isRow_27 : decode prog_7_method_11_code 27 = .ok (.ireturn, 1) := by decide +kernel
theorem d_Model_bad_0 : decode prog_7_method_12_code 0 = .ok (.aload_n 0, 1) := by decide +kernel
theorem d_Model_bad_1 : decode prog_7_method_12_code 1 = .ok (.aload_n 0, 1) := by decide +kernel
theorem d_Model_bad_2 : decode prog_7_method_12_code 2 = .ok (.getfield 88, 3) := by decide +kernel
theorem d_Model_bad_5 : decode prog_7_method_12_code 5 = .ok (.bipush 20, 2) := by decide +kernel
theorem d_Model_bad_7 : decode prog_7_method_12_code 7 = .ok (.if_icmp .ne 7, 3) := by decide +kernel
theorem d_Model_bad_10 : decode prog_7_method_12_code 10 = .ok (.iconst 1, 1) := by decide +kernel
theorem d_Model_bad_11 : decode prog_7_method_12_code 11 = .ok (.goto 4, 3) := by decide +kernel
theorem d_Model_bad_14 : decode prog_7_method_12_code 14 = .ok (.iconst 0, 1) := by decide +kernel
theorem d_Model_bad_15 : decode prog_7_method_12_code 15 = .ok (.iload_n 1, 1) := by decide +kernel
theorem d_Model_bad_16 : decode prog_7_method_12_code 16 = .ok (.iload_n 2, 1) := by decide +kernel
theorem d_Model_bad_17 : decode prog_7_method_12_code 17 = .ok (.invokestatic 91, 3) := by decide +kernel
theorem d_Model_bad_20 : decode prog_7_method_12_code 20 = .ok (.ifCond .ne 7, 3) := by decide +kernel
theorem d_Model_bad_23 : decode prog_7_method_12_code 23 = .ok (.iconst 1, 1) := by decide +kernel
theorem d_Model_bad_24 : decode prog_7_method_12_code 24 = .ok (.goto 4, 3) := by decide +kernel
theorem d_Model_bad_27 : decode prog_7_method_12_code 27 = .ok (.iconst 0, 1) := by decide +kernel
theorem d_Model_bad_28 : decode prog_7_method_12_code 28 = .ok (.invokevirtual 68, 3) := by decide +kernel
theorem d_Model_bad_31 : decode prog_7_method_12_code 31 = .ok (.ifCond .eq 5, 3) := by decide +kernel
theorem d_Model_bad_34 : decode prog_7_method_12_code 34 = .ok (.iconst 0, 1) := by decide +kernel
theorem d_Model_bad_35 : decode prog_7_method_12_code 35 = .ok (.ireturn, 1) := by decide +kernel
theorem d_Model_bad_36 : decode prog_7_method_12_code 36 = .ok (.aload_n 0, 1) := by decide +kernel
theorem d_Model_bad_37 : decode prog_7_method_12_code 37 = .ok (.getfield 23, 3) := by decide +kernel
theorem d_Model_bad_40 : decode prog_7_method_12_code 40 = .ok (.aload_n 0, 1) := by decide +kernel
theorem d_Model_bad_41 : decode prog_7_method_12_code 41 = .ok (.getfield 88, 3) := by decide +kernel
theorem d_Model_bad_44 : decode prog_7_method_12_code 44 = .ok (.iload_n 1, 1) := by decide +kernel
theorem d_Model_bad_45 : decode prog_7_method_12_code 45 = .ok (.iastore, 1) := by decide +kernel
theorem d_Model_bad_46 : decode prog_7_method_12_code 46 = .ok (.aload_n 0, 1) := by decide +kernel
theorem d_Model_bad_47 : decode prog_7_method_12_code 47 = .ok (.getfield 26, 3) := by decide +kernel
theorem d_Model_bad_50 : decode prog_7_method_12_code 50 = .ok (.aload_n 0, 1) := by decide +kernel
theorem d_Model_bad_51 : decode prog_7_method_12_code 51 = .ok (.getfield 88, 3) := by decide +kernel
theorem d_Model_bad_54 : decode prog_7_method_12_code 54 = .ok (.iload_n 2, 1) := by decide +kernel
theorem d_Model_bad_55 : decode prog_7_method_12_code 55 = .ok (.iastore, 1) := by decide +kernel
theorem d_Model_bad_56 : decode prog_7_method_12_code 56 = .ok (.aload_n 0, 1) := by decide +kernel
theorem d_Model_bad_57 : decode prog_7_method_12_code 57 = .ok (.dup, 1) := by decide +kernel
theorem d_Model_bad_58 : decode prog_7_method_12_code 58 = .ok (.getfield 88, 3) := by decide +kernel
theorem d_Model_bad_61 : decode prog_7_method_12_code 61 = .ok (.iconst 1, 1) := by decide +kernel
theorem d_Model_bad_62 : decode prog_7_method_12_code 62 = .ok (.iadd, 1) := by decide +kernel
theorem d_Model_bad_63 : decode prog_7_method_12_code 63 = .ok (.putfield 88, 3) := by decide +kernel
theorem d_Model_bad_66 : decode prog_7_method_12_code 66 = .ok (.aload_n 0, 1) := by decide +kernel
theorem d_Model_bad_67 : decode prog_7_method_12_code 67 = .ok (.getfield 88, 3) := by decide +kernel
theorem d_Model_bad_70 : decode prog_7_method_12_code 70 = .ok (.ireturn, 1) := by decide +kernel
theorem d_Model_bar_0 : decode prog_7_method_13_code 0 = .ok (.aload_n 0, 1) := by decide +kernel
theorem d_Model_bar_1 : decode prog_7_method_13_code 1 = .ok (.aload_n 0, 1) := by decide +kernel
theorem d_Model_bar_2 : decode prog_7_method_13_code 2 = .ok (.getfield 94, 3) := by decide +kernel
theorem d_Model_bar_5 : decode prog_7_method_13_code 5 = .ok (.bipush 20, 2) := by decide +kernel
theorem d_Model_bar_7 : decode prog_7_method_13_code 7 = .ok (.if_icmp .ne 7, 3) := by decide +kernel
theorem d_Model_bar_10 : decode prog_7_method_13_code 10 = .ok (.iconst 1, 1) := by decide +kernel
theorem d_Model_bar_11 : decode prog_7_method_13_code 11 = .ok (.goto 4, 3) := by decide +kernel
theorem d_Model_bar_14 : decode prog_7_method_13_code 14 = .ok (.iconst 0, 1) := by decide +kernel
theorem d_Model_bar_15 : decode prog_7_method_13_code 15 = .ok (.iload_n 1, 1) := by decide +kernel
theorem d_Model_bar_16 : decode prog_7_method_13_code 16 = .ok (.iload_n 2, 1) := by decide +kernel
theorem d_Model_bar_17 : decode prog_7_method_13_code 17 = .ok (.invokestatic 91, 3) := by decide +kernel
theorem d_Model_bar_20 : decode prog_7_method_13_code 20 = .ok (.ifCond .ne 7, 3) := by decide +kernel
theorem d_Model_bar_23 : decode prog_7_method_13_code 23 = .ok (.iconst 1, 1) := by decide +kernel
theorem d_Model_bar_24 : decode prog_7_method_13_code 24 = .ok (.goto 4, 3) := by decide +kernel
theorem d_Model_bar_27 : decode prog_7_method_13_code 27 = .ok (.iconst 0, 1) := by decide +kernel
theorem d_Model_bar_28 : decode prog_7_method_13_code 28 = .ok (.invokevirtual 68, 3) := by decide +kernel
theorem d_Model_bar_31 : decode prog_7_method_13_code 31 = .ok (.ifCond .eq 5, 3) := by decide +kernel
theorem d_Model_bar_34 : decode prog_7_method_13_code 34 = .ok (.iconst 0, 1) := by decide +kernel
theorem d_Model_bar_35 : decode prog_7_method_13_code 35 = .ok (.ireturn, 1) := by decide +kernel
theorem d_Model_bar_36 : decode prog_7_method_13_code 36 = .ok (.aload_n 0, 1) := by decide +kernel
theorem d_Model_bar_37 : decode prog_7_method_13_code 37 = .ok (.getfield 29, 3) := by decide +kernel
theorem d_Model_bar_40 : decode prog_7_method_13_code 40 = .ok (.aload_n 0, 1) := by decide +kernel
theorem d_Model_bar_41 : decode prog_7_method_13_code 41 = .ok (.getfield 94, 3) := by decide +kernel
theorem d_Model_bar_44 : decode prog_7_method_13_code 44 = .ok (.iload_n 1, 1) := by decide +kernel
theorem d_Model_bar_45 : decode prog_7_method_13_code 45 = .ok (.iastore, 1) := by decide +kernel
theorem d_Model_bar_46 : decode prog_7_method_13_code 46 = .ok (.aload_n 0, 1) := by decide +kernel
theorem d_Model_bar_47 : decode prog_7_method_13_code 47 = .ok (.getfield 32, 3) := by decide +kernel
theorem d_Model_bar_50 : decode prog_7_method_13_code 50 = .ok (.aload_n 0, 1) := by decide +kernel
theorem d_Model_bar_51 : decode prog_7_method_13_code 51 = .ok (.getfield 94, 3) := by decide +kernel
theorem d_Model_bar_54 : decode prog_7_method_13_code 54 = .ok (.iload_n 2, 1) := by decide +kernel
theorem d_Model_bar_55 : decode prog_7_method_13_code 55 = .ok (.iastore, 1) := by decide +kernel
theorem d_Model_bar_56 : decode prog_7_method_13_code 56 = .ok (.aload_n 0, 1) := by decide +kernel
theorem d_Model_bar_57 : decode prog_7_method_13_code 57 = .ok (.dup, 1) := by decide +kernel
theorem d_Model_bar_58 : decode prog_7_method_13_code 58 = .ok (.getfield 94, 3) := by decide +kernel
theorem d_Model_bar_61 : decode prog_7_method_13_code 61 = .ok (.iconst 1, 1) := by decide +kernel
theorem d_Model_bar_62 : decode prog_7_method_13_code 62 = .ok (.iadd, 1) := by decide +kernel
theorem d_Model_bar_63 : decode prog_7_method_13_code 63 = .ok (.putfield 94, 3) := by decide +kernel
theorem d_Model_bar_66 : decode prog_7_method_13_code 66 = .ok (.aload_n 0, 1) := by decide +kernel
theorem d_Model_bar_67 : decode prog_7_method_13_code 67 = .ok (.getfield 94, 3) := by decide +kernel
theorem d_Model_bar_70 : decode prog_7_method_13_code 70 = .ok (.ireturn, 1) := by decide +kernel
theorem d_Model_isGood_0 : decode prog_7_method_14_code 0 = .ok (.iload_n 1, 1) := by decide +kernel
theorem d_Model_isGood_1 : decode prog_7_method_14_code 1 = .ok (.aload_n 0, 1) := by decide +kernel
theorem d_Model_isGood_2 : decode prog_7_method_14_code 2 = .ok (.getfield 82, 3) := by decide +kernel
theorem d_Model_isGood_5 : decode prog_7_method_14_code 5 = .ok (.if_icmp .lt 20, 3) := by decide +kernel
theorem d_Model_isGood_8 : decode prog_7_method_14_code 8 = .ok (.iload_n 1, 1) := by decide +kernel
theorem d_Model_isGood_9 : decode prog_7_method_14_code 9 = .ok (.aload_n 0, 1) := by decide +kernel
theorem d_Model_isGood_10 : decode prog_7_method_14_code 10 = .ok (.getfield 72, 3) := by decide +kernel
theorem d_Model_isGood_13 : decode prog_7_method_14_code 13 = .ok (.aload_n 0, 1) := by decide +kernel
theorem d_Model_isGood_14 : decode prog_7_method_14_code 14 = .ok (.getfield 85, 3) := by decide +kernel
theorem d_Model_isGood_17 : decode prog_7_method_14_code 17 = .ok (.isub, 1) := by decide +kernel
theorem d_Model_isGood_18 : decode prog_7_method_14_code 18 = .ok (.if_icmp .ge 7, 3) := by decide +kernel
theorem d_Model_isGood_21 : decode prog_7_method_14_code 21 = .ok (.iconst 1, 1) := by decide +kernel
theorem d_Model_isGood_22 : decode prog_7_method_14_code 22 = .ok (.goto 4, 3) := by decide +kernel
theorem d_Model_isGood_25 : decode prog_7_method_14_code 25 = .ok (.iconst 0, 1) := by decide +kernel
theorem d_Model_isGood_26 : decode prog_7_method_14_code 26 = .ok (.istore_n 2, 1) := by decide +kernel
theorem d_Model_isGood_27 : decode prog_7_method_14_code 27 = .ok (.iconst 0, 1) := by decide +kernel
theorem d_Model_isGood_28 : decode prog_7_method_14_code 28 = .ok (.istore_n 3, 1) := by decide +kernel
theorem d_Model_isGood_29 : decode prog_7_method_14_code 29 = .ok (.iload_n 3, 1) := by decide +kernel
theorem d_Model_isGood_30 : decode prog_7_method_14_code 30 = .ok (.aload_n 0, 1) := by decide +kernel
theorem d_Model_isGood_31 : decode prog_7_method_14_code 31 = .ok (.getfield 88, 3) := by decide +kernel
theorem d_Model_isGood_34 : decode prog_7_method_14_code 34 = .ok (.if_icmp .ge 40, 3) := by decide +kernel
theorem d_Model_isGood_37 : decode prog_7_method_14_code 37 = .ok (.iload_n 2, 1) := by decide +kernel
theorem d_Model_isGood_38 : decode prog_7_method_14_code 38 = .ok (.ifCond .eq 28, 3) := by decide +kernel
theorem d_Model_isGood_41 : decode prog_7_method_14_code 41 = .ok (.iload_n 1, 1) := by decide +kernel
theorem d_Model_isGood_42 : decode prog_7_method_14_code 42 = .ok (.aload_n 0, 1) := by decide +kernel
theorem d_Model_isGood_43 : decode prog_7_method_14_code 43 = .ok (.getfield 23, 3) := by decide +kernel
theorem d_Model_isGood_46 : decode prog_7_method_14_code 46 = .ok (.iload_n 3, 1) := by decide +kernel
theorem d_Model_isGood_47 : decode prog_7_method_14_code 47 = .ok (.iaload, 1) := by decide +kernel
theorem d_Model_isGood_48 : decode prog_7_method_14_code 48 = .ok (.aload_n 0, 1) := by decide +kernel
theorem d_Model_isGood_49 : decode prog_7_method_14_code 49 = .ok (.getfield 26, 3) := by decide +kernel
theorem d_Model_isGood_52 : decode prog_7_method_14_code 52 = .ok (.iload_n 3, 1) := by decide +kernel
theorem d_Model_isGood_53 : decode prog_7_method_14_code 53 = .ok (.iaload, 1) := by decide +kernel
theorem d_Model_isGood_54 : decode prog_7_method_14_code 54 = .ok (.iconst 1, 1) := by decide +kernel
theorem d_Model_isGood_55 : decode prog_7_method_14_code 55 = .ok (.isub, 1) := by decide +kernel
theorem d_Model_isGood_56 : decode prog_7_method_14_code 56 = .ok (.invokestatic 63, 3) := by decide +kernel
theorem d_Model_isGood_59 : decode prog_7_method_14_code 59 = .ok (.ifCond .ne 7, 3) := by decide +kernel
theorem d_Model_isGood_62 : decode prog_7_method_14_code 62 = .ok (.iconst 1, 1) := by decide +kernel
theorem d_Model_isGood_63 : decode prog_7_method_14_code 63 = .ok (.goto 4, 3) := by decide +kernel
theorem d_Model_isGood_66 : decode prog_7_method_14_code 66 = .ok (.iconst 0, 1) := by decide +kernel
theorem d_Model_isGood_67 : decode prog_7_method_14_code 67 = .ok (.istore_n 2, 1) := by decide +kernel
theorem d_Model_isGood_68 : decode prog_7_method_14_code 68 = .ok (.iinc 3 1, 3) := by decide +kernel
theorem d_Model_isGood_71 : decode prog_7_method_14_code 71 = .ok (.goto (-42), 3) := by decide +kernel
theorem d_Model_isGood_74 : decode prog_7_method_14_code 74 = .ok (.iload_n 2, 1) := by decide +kernel
theorem d_Model_isGood_75 : decode prog_7_method_14_code 75 = .ok (.ireturn, 1) := by decide +kernel
theorem d_Model_isBarred_0 : decode prog_7_method_15_code 0 = .ok (.iconst 0, 1) := by decide +kernel
theorem d_Model_isBarred_1 : decode prog_7_method_15_code 1 = .ok (.istore_n 2, 1) := by decide +kernel
theorem d_Model_isBarred_2 : decode prog_7_method_15_code 2 = .ok (.iconst 0, 1) := by decide +kernel
theorem d_Model_isBarred_3 : decode prog_7_method_15_code 3 = .ok (.istore_n 3, 1) := by decide +kernel
theorem d_Model_isBarred_4 : decode prog_7_method_15_code 4 = .ok (.iload_n 3, 1) := by decide +kernel
theorem d_Model_isBarred_5 : decode prog_7_method_15_code 5 = .ok (.aload_n 0, 1) := by decide +kernel
theorem d_Model_isBarred_6 : decode prog_7_method_15_code 6 = .ok (.getfield 94, 3) := by decide +kernel
theorem d_Model_isBarred_9 : decode prog_7_method_15_code 9 = .ok (.if_icmp .ge 38, 3) := by decide +kernel
theorem d_Model_isBarred_12 : decode prog_7_method_15_code 12 = .ok (.iload_n 2, 1) := by decide +kernel
theorem d_Model_isBarred_13 : decode prog_7_method_15_code 13 = .ok (.ifCond .ne 22, 3) := by decide +kernel
theorem d_Model_isBarred_16 : decode prog_7_method_15_code 16 = .ok (.iload_n 1, 1) := by decide +kernel
theorem d_Model_isBarred_17 : decode prog_7_method_15_code 17 = .ok (.aload_n 0, 1) := by decide +kernel
theorem d_Model_isBarred_18 : decode prog_7_method_15_code 18 = .ok (.getfield 29, 3) := by decide +kernel
theorem d_Model_isBarred_21 : decode prog_7_method_15_code 21 = .ok (.iload_n 3, 1) := by decide +kernel
theorem d_Model_isBarred_22 : decode prog_7_method_15_code 22 = .ok (.iaload, 1) := by decide +kernel
theorem d_Model_isBarred_23 : decode prog_7_method_15_code 23 = .ok (.aload_n 0, 1) := by decide +kernel
theorem d_Model_isBarred_24 : decode prog_7_method_15_code 24 = .ok (.getfield 32, 3) := by decide +kernel
theorem d_Model_isBarred_27 : decode prog_7_method_15_code 27 = .ok (.iload_n 3, 1) := by decide +kernel
theorem d_Model_isBarred_28 : decode prog_7_method_15_code 28 = .ok (.iaload, 1) := by decide +kernel
theorem d_Model_isBarred_29 : decode prog_7_method_15_code 29 = .ok (.invokestatic 63, 3) := by decide +kernel
theorem d_Model_isBarred_32 : decode prog_7_method_15_code 32 = .ok (.ifCond .eq 7, 3) := by decide +kernel
theorem d_Model_isBarred_35 : decode prog_7_method_15_code 35 = .ok (.iconst 1, 1) := by decide +kernel
theorem d_Model_isBarred_36 : decode prog_7_method_15_code 36 = .ok (.goto 4, 3) := by decide +kernel
theorem d_Model_isBarred_39 : decode prog_7_method_15_code 39 = .ok (.iconst 0, 1) := by decide +kernel
theorem d_Model_isBarred_40 : decode prog_7_method_15_code 40 = .ok (.istore_n 2, 1) := by decide +kernel
theorem d_Model_isBarred_41 : decode prog_7_method_15_code 41 = .ok (.iinc 3 1, 3) := by decide +kernel
theorem d_Model_isBarred_44 : decode prog_7_method_15_code 44 = .ok (.goto (-40), 3) := by decide +kernel
theorem d_Model_isBarred_47 : decode prog_7_method_15_code 47 = .ok (.iload_n 2, 1) := by decide +kernel
theorem d_Model_isBarred_48 : decode prog_7_method_15_code 48 = .ok (.ireturn, 1) := by decide +kernel
theorem d_Model_look_0 : decode prog_7_method_16_code 0 = .ok (.aload_n 0, 1) := by decide +kernel
theorem d_Model_look_1 : decode prog_7_method_16_code 1 = .ok (.getfield 44, 3) := by decide +kernel
theorem d_Model_look_4 : decode prog_7_method_16_code 4 = .ok (.iload_n 1, 1) := by decide +kernel
theorem d_Model_look_5 : decode prog_7_method_16_code 5 = .ok (.aload_n 0, 1) := by decide +kernel
theorem d_Model_look_6 : decode prog_7_method_16_code 6 = .ok (.getfield 44, 3) := by decide +kernel
theorem d_Model_look_9 : decode prog_7_method_16_code 9 = .ok (.iload_n 1, 1) := by decide +kernel
theorem d_Model_look_10 : decode prog_7_method_16_code 10 = .ok (.iconst 1, 1) := by decide +kernel
theorem d_Model_look_11 : decode prog_7_method_16_code 11 = .ok (.iadd, 1) := by decide +kernel
theorem d_Model_look_12 : decode prog_7_method_16_code 12 = .ok (.iaload, 1) := by decide +kernel
theorem d_Model_look_13 : decode prog_7_method_16_code 13 = .ok (.iconst 1, 1) := by decide +kernel
theorem d_Model_look_14 : decode prog_7_method_16_code 14 = .ok (.iadd, 1) := by decide +kernel
theorem d_Model_look_15 : decode prog_7_method_16_code 15 = .ok (.iastore, 1) := by decide +kernel
theorem d_Model_look_16 : decode prog_7_method_16_code 16 = .ok (.aload_n 0, 1) := by decide +kernel
theorem d_Model_look_17 : decode prog_7_method_16_code 17 = .ok (.getfield 47, 3) := by decide +kernel
theorem d_Model_look_20 : decode prog_7_method_16_code 20 = .ok (.iload_n 1, 1) := by decide +kernel
theorem d_Model_look_21 : decode prog_7_method_16_code 21 = .ok (.iconst (-1), 1) := by decide +kernel
theorem d_Model_look_22 : decode prog_7_method_16_code 22 = .ok (.iastore, 1) := by decide +kernel
theorem d_Model_look_23 : decode prog_7_method_16_code 23 = .ok (.aload_n 0, 1) := by decide +kernel
theorem d_Model_look_24 : decode prog_7_method_16_code 24 = .ok (.getfield 50, 3) := by decide +kernel
theorem d_Model_look_27 : decode prog_7_method_16_code 27 = .ok (.iload_n 1, 1) := by decide +kernel
theorem d_Model_look_28 : decode prog_7_method_16_code 28 = .ok (.iconst 1, 1) := by decide +kernel
theorem d_Model_look_29 : decode prog_7_method_16_code 29 = .ok (.iastore, 1) := by decide +kernel
theorem d_Model_look_30 : decode prog_7_method_16_code 30 = .ok (.iload_n 1, 1) := by decide +kernel
theorem d_Model_look_31 : decode prog_7_method_16_code 31 = .ok (.aload_n 0, 1) := by decide +kernel
theorem d_Model_look_32 : decode prog_7_method_16_code 32 = .ok (.getfield 97, 3) := by decide +kernel
theorem d_Model_look_35 : decode prog_7_method_16_code 35 = .ok (.if_icmp .eq 12, 3) := by decide +kernel
theorem d_Model_look_38 : decode prog_7_method_16_code 38 = .ok (.aload_n 0, 1) := by decide +kernel
theorem d_Model_look_39 : decode prog_7_method_16_code 39 = .ok (.iload_n 1, 1) := by decide +kernel
theorem d_Model_look_40 : decode prog_7_method_16_code 40 = .ok (.invokevirtual 100, 3) := by decide +kernel
theorem d_Model_look_43 : decode prog_7_method_16_code 43 = .ok (.ifCond .eq 4, 3) := by decide +kernel
theorem d_Model_look_46 : decode prog_7_method_16_code 46 = .ok (.return_, 1) := by decide +kernel
theorem d_Model_look_47 : decode prog_7_method_16_code 47 = .ok (.aload_n 0, 1) := by decide +kernel
theorem d_Model_look_48 : decode prog_7_method_16_code 48 = .ok (.getfield 75, 3) := by decide +kernel
theorem d_Model_look_51 : decode prog_7_method_16_code 51 = .ok (.iconst 1, 1) := by decide +kernel
theorem d_Model_look_52 : decode prog_7_method_16_code 52 = .ok (.isub, 1) := by decide +kernel
theorem d_Model_look_53 : decode prog_7_method_16_code 53 = .ok (.istore_n 2, 1) := by decide +kernel
theorem d_Model_look_54 : decode prog_7_method_16_code 54 = .ok (.iload_n 2, 1) := by decide +kernel
theorem d_Model_look_55 : decode prog_7_method_16_code 55 = .ok (.ifCond .lt 120, 3) := by decide +kernel
theorem d_Model_look_58 : decode prog_7_method_16_code 58 = .ok (.aload_n 0, 1) := by decide +kernel
theorem d_Model_look_59 : decode prog_7_method_16_code 59 = .ok (.getfield 16, 3) := by decide +kernel
theorem d_Model_look_62 : decode prog_7_method_16_code 62 = .ok (.iload_n 2, 1) := by decide +kernel
theorem d_Model_look_63 : decode prog_7_method_16_code 63 = .ok (.iaload, 1) := by decide +kernel
theorem d_Model_look_64 : decode prog_7_method_16_code 64 = .ok (.istore_n 3, 1) := by decide +kernel
theorem d_Model_look_65 : decode prog_7_method_16_code 65 = .ok (.iload_n 3, 1) := by decide +kernel
theorem d_Model_look_66 : decode prog_7_method_16_code 66 = .ok (.aload_n 0, 1) := by decide +kernel
theorem d_Model_look_67 : decode prog_7_method_16_code 67 = .ok (.getfield 20, 3) := by decide +kernel
theorem d_Model_look_70 : decode prog_7_method_16_code 70 = .ok (.iload_n 2, 1) := by decide +kernel
theorem d_Model_look_71 : decode prog_7_method_16_code 71 = .ok (.iaload, 1) := by decide +kernel
theorem d_Model_look_72 : decode prog_7_method_16_code 72 = .ok (.if_icmp .gt 97, 3) := by decide +kernel
theorem d_Model_look_75 : decode prog_7_method_16_code 75 = .ok (.iload_n 3, 1) := by decide +kernel
theorem d_Model_look_76 : decode prog_7_method_16_code 76 = .ok (.aload_n 0, 1) := by decide +kernel
theorem d_Model_look_77 : decode prog_7_method_16_code 77 = .ok (.getfield 53, 3) := by decide +kernel
theorem d_Model_look_80 : decode prog_7_method_16_code 80 = .ok (.iload_n 1, 1) := by decide +kernel
theorem d_Model_look_81 : decode prog_7_method_16_code 81 = .ok (.iaload, 1) := by decide +kernel
theorem d_Model_look_82 : decode prog_7_method_16_code 82 = .ok (.if_icmp .gt 87, 3) := by decide +kernel
theorem d_Model_look_85 : decode prog_7_method_16_code 85 = .ok (.iload_n 1, 1) := by decide +kernel
theorem d_Model_look_86 : decode prog_7_method_16_code 86 = .ok (.iload_n 3, 1) := by decide +kernel
theorem d_Model_look_87 : decode prog_7_method_16_code 87 = .ok (.iadd, 1) := by decide +kernel
theorem d_Model_look_88 : decode prog_7_method_16_code 88 = .ok (.istore 4, 2) := by decide +kernel
theorem d_Model_look_90 : decode prog_7_method_16_code 90 = .ok (.aload_n 0, 1) := by decide +kernel
theorem d_Model_look_91 : decode prog_7_method_16_code 91 = .ok (.getfield 44, 3) := by decide +kernel
theorem d_Model_look_94 : decode prog_7_method_16_code 94 = .ok (.iload 4, 2) := by decide +kernel
theorem d_Model_look_96 : decode prog_7_method_16_code 96 = .ok (.iaload, 1) := by decide +kernel
theorem d_Model_look_97 : decode prog_7_method_16_code 97 = .ok (.aload_n 0, 1) := by decide +kernel
theorem d_Model_look_98 : decode prog_7_method_16_code 98 = .ok (.getfield 44, 3) := by decide +kernel
theorem d_Model_look_101 : decode prog_7_method_16_code 101 = .ok (.iload_n 1, 1) := by decide +kernel
theorem d_Model_look_102 : decode prog_7_method_16_code 102 = .ok (.iaload, 1) := by decide +kernel
theorem d_Model_look_103 : decode prog_7_method_16_code 103 = .ok (.if_icmp .gt 25, 3) := by decide +kernel
theorem d_Model_look_106 : decode prog_7_method_16_code 106 = .ok (.iload 4, 2) := by decide +kernel
theorem d_Model_look_108 : decode prog_7_method_16_code 108 = .ok (.aload_n 0, 1) := by decide +kernel
theorem d_Model_look_109 : decode prog_7_method_16_code 109 = .ok (.getfield 72, 3) := by decide +kernel
theorem d_Model_look_112 : decode prog_7_method_16_code 112 = .ok (.if_icmp .eq 12, 3) := by decide +kernel
theorem d_Model_look_115 : decode prog_7_method_16_code 115 = .ok (.aload_n 0, 1) := by decide +kernel
theorem d_Model_look_116 : decode prog_7_method_16_code 116 = .ok (.iload 4, 2) := by decide +kernel
theorem d_Model_look_118 : decode prog_7_method_16_code 118 = .ok (.invokevirtual 100, 3) := by decide +kernel
theorem d_Model_look_121 : decode prog_7_method_16_code 121 = .ok (.ifCond .ne 7, 3) := by decide +kernel
theorem d_Model_look_124 : decode prog_7_method_16_code 124 = .ok (.iconst 1, 1) := by decide +kernel
theorem d_Model_look_125 : decode prog_7_method_16_code 125 = .ok (.goto 4, 3) := by decide +kernel
theorem d_Model_look_128 : decode prog_7_method_16_code 128 = .ok (.iconst 0, 1) := by decide +kernel
theorem d_Model_look_129 : decode prog_7_method_16_code 129 = .ok (.istore 5, 2) := by decide +kernel
theorem d_Model_look_131 : decode prog_7_method_16_code 131 = .ok (.iload 5, 2) := by decide +kernel
theorem d_Model_look_133 : decode prog_7_method_16_code 133 = .ok (.ifCond .eq 30, 3) := by decide +kernel
theorem d_Model_look_136 : decode prog_7_method_16_code 136 = .ok (.aload_n 0, 1) := by decide +kernel
theorem d_Model_look_137 : decode prog_7_method_16_code 137 = .ok (.getfield 44, 3) := by decide +kernel
theorem d_Model_look_140 : decode prog_7_method_16_code 140 = .ok (.iload_n 1, 1) := by decide +kernel
theorem d_Model_look_141 : decode prog_7_method_16_code 141 = .ok (.aload_n 0, 1) := by decide +kernel
theorem d_Model_look_142 : decode prog_7_method_16_code 142 = .ok (.getfield 44, 3) := by decide +kernel
theorem d_Model_look_145 : decode prog_7_method_16_code 145 = .ok (.iload 4, 2) := by decide +kernel
theorem d_Model_look_147 : decode prog_7_method_16_code 147 = .ok (.iaload, 1) := by decide +kernel
theorem d_Model_look_148 : decode prog_7_method_16_code 148 = .ok (.iastore, 1) := by decide +kernel
theorem d_Model_look_149 : decode prog_7_method_16_code 149 = .ok (.aload_n 0, 1) := by decide +kernel
theorem d_Model_look_150 : decode prog_7_method_16_code 150 = .ok (.getfield 47, 3) := by decide +kernel
theorem d_Model_look_153 : decode prog_7_method_16_code 153 = .ok (.iload_n 1, 1) := by decide +kernel
theorem d_Model_look_154 : decode prog_7_method_16_code 154 = .ok (.iload_n 2, 1) := by decide +kernel
theorem d_Model_look_155 : decode prog_7_method_16_code 155 = .ok (.iastore, 1) := by decide +kernel
theorem d_Model_look_156 : decode prog_7_method_16_code 156 = .ok (.aload_n 0, 1) := by decide +kernel
theorem d_Model_look_157 : decode prog_7_method_16_code 157 = .ok (.getfield 50, 3) := by decide +kernel
theorem d_Model_look_160 : decode prog_7_method_16_code 160 = .ok (.iload_n 1, 1) := by decide +kernel
theorem d_Model_look_161 : decode prog_7_method_16_code 161 = .ok (.iload_n 3, 1) := by decide +kernel
theorem d_Model_look_162 : decode prog_7_method_16_code 162 = .ok (.iastore, 1) := by decide +kernel
theorem d_Model_look_163 : decode prog_7_method_16_code 163 = .ok (.iinc 3 1, 3) := by decide +kernel
theorem d_Model_look_166 : decode prog_7_method_16_code 166 = .ok (.goto (-101), 3) := by decide +kernel
theorem d_Model_look_169 : decode prog_7_method_16_code 169 = .ok (.iinc 2 (-1), 3) := by decide +kernel
theorem d_Model_look_172 : decode prog_7_method_16_code 172 = .ok (.goto (-118), 3) := by decide +kernel
theorem d_Model_look_175 : decode prog_7_method_16_code 175 = .ok (.return_, 1) := by decide +kernel
theorem d_Model_plan_0 : decode prog_7_method_17_code 0 = .ok (.aload_n 0, 1) := by decide +kernel
theorem d_Model_plan_1 : decode prog_7_method_17_code 1 = .ok (.getfield 44, 3) := by decide +kernel
theorem d_Model_plan_4 : decode prog_7_method_17_code 4 = .ok (.aload_n 0, 1) := by decide +kernel
theorem d_Model_plan_5 : decode prog_7_method_17_code 5 = .ok (.getfield 72, 3) := by decide +kernel
theorem d_Model_plan_8 : decode prog_7_method_17_code 8 = .ok (.iconst 0, 1) := by decide +kernel
theorem d_Model_plan_9 : decode prog_7_method_17_code 9 = .ok (.iastore, 1) := by decide +kernel
theorem d_Model_plan_10 : decode prog_7_method_17_code 10 = .ok (.aload_n 0, 1) := by decide +kernel
theorem d_Model_plan_11 : decode prog_7_method_17_code 11 = .ok (.getfield 53, 3) := by decide +kernel
theorem d_Model_plan_14 : decode prog_7_method_17_code 14 = .ok (.aload_n 0, 1) := by decide +kernel
theorem d_Model_plan_15 : decode prog_7_method_17_code 15 = .ok (.getfield 72, 3) := by decide +kernel
theorem d_Model_plan_18 : decode prog_7_method_17_code 18 = .ok (.iconst 0, 1) := by decide +kernel
theorem d_Model_plan_19 : decode prog_7_method_17_code 19 = .ok (.iastore, 1) := by decide +kernel
theorem d_Model_plan_20 : decode prog_7_method_17_code 20 = .ok (.aload_n 0, 1) := by decide +kernel
theorem d_Model_plan_21 : decode prog_7_method_17_code 21 = .ok (.getfield 72, 3) := by decide +kernel
theorem d_Model_plan_24 : decode prog_7_method_17_code 24 = .ok (.iconst 1, 1) := by decide +kernel
theorem d_Model_plan_25 : decode prog_7_method_17_code 25 = .ok (.isub, 1) := by decide +kernel
theorem d_Model_plan_26 : decode prog_7_method_17_code 26 = .ok (.istore_n 1, 1) := by decide +kernel
theorem d_Model_plan_27 : decode prog_7_method_17_code 27 = .ok (.iload_n 1, 1) := by decide +kernel
theorem d_Model_plan_28 : decode prog_7_method_17_code 28 = .ok (.aload_n 0, 1) := by decide +kernel
theorem d_Model_plan_29 : decode prog_7_method_17_code 29 = .ok (.getfield 97, 3) := by decide +kernel
theorem d_Model_plan_32 : decode prog_7_method_17_code 32 = .ok (.if_icmp .lt 42, 3) := by decide +kernel
theorem d_Model_plan_35 : decode prog_7_method_17_code 35 = .ok (.aload_n 0, 1) := by decide +kernel
theorem d_Model_plan_36 : decode prog_7_method_17_code 36 = .ok (.getfield 53, 3) := by decide +kernel
theorem d_Model_plan_39 : decode prog_7_method_17_code 39 = .ok (.iload_n 1, 1) := by decide +kernel
theorem d_Model_plan_40 : decode prog_7_method_17_code 40 = .ok (.aload_n 0, 1) := by decide +kernel
theorem d_Model_plan_41 : decode prog_7_method_17_code 41 = .ok (.iload_n 1, 1) := by decide +kernel
theorem d_Model_plan_42 : decode prog_7_method_17_code 42 = .ok (.invokevirtual 104, 3) := by decide +kernel
theorem d_Model_plan_45 : decode prog_7_method_17_code 45 = .ok (.ifCond .eq 16, 3) := by decide +kernel
theorem d_Model_plan_48 : decode prog_7_method_17_code 48 = .ok (.aload_n 0, 1) := by decide +kernel
theorem d_Model_plan_49 : decode prog_7_method_17_code 49 = .ok (.getfield 53, 3) := by decide +kernel
theorem d_Model_plan_52 : decode prog_7_method_17_code 52 = .ok (.iload_n 1, 1) := by decide +kernel
theorem d_Model_plan_53 : decode prog_7_method_17_code 53 = .ok (.iconst 1, 1) := by decide +kernel
theorem d_Model_plan_54 : decode prog_7_method_17_code 54 = .ok (.iadd, 1) := by decide +kernel
theorem d_Model_plan_55 : decode prog_7_method_17_code 55 = .ok (.iaload, 1) := by decide +kernel
theorem d_Model_plan_56 : decode prog_7_method_17_code 56 = .ok (.iconst 1, 1) := by decide +kernel
theorem d_Model_plan_57 : decode prog_7_method_17_code 57 = .ok (.iadd, 1) := by decide +kernel
theorem d_Model_plan_58 : decode prog_7_method_17_code 58 = .ok (.goto 4, 3) := by decide +kernel
theorem d_Model_plan_61 : decode prog_7_method_17_code 61 = .ok (.iconst 0, 1) := by decide +kernel
theorem d_Model_plan_62 : decode prog_7_method_17_code 62 = .ok (.iastore, 1) := by decide +kernel
theorem d_Model_plan_63 : decode prog_7_method_17_code 63 = .ok (.aload_n 0, 1) := by decide +kernel
theorem d_Model_plan_64 : decode prog_7_method_17_code 64 = .ok (.iload_n 1, 1) := by decide +kernel
theorem d_Model_plan_65 : decode prog_7_method_17_code 65 = .ok (.invokevirtual 107, 3) := by decide +kernel
theorem d_Model_plan_68 : decode prog_7_method_17_code 68 = .ok (.iinc 1 (-1), 3) := by decide +kernel
theorem d_Model_plan_71 : decode prog_7_method_17_code 71 = .ok (.goto (-44), 3) := by decide +kernel
theorem d_Model_plan_74 : decode prog_7_method_17_code 74 = .ok (.return_, 1) := by decide +kernel
theorem d_Model_loss_0 : decode prog_7_method_18_code 0 = .ok (.aload_n 0, 1) := by decide +kernel
theorem d_Model_loss_1 : decode prog_7_method_18_code 1 = .ok (.iconst 0, 1) := by decide +kernel
theorem d_Model_loss_2 : decode prog_7_method_18_code 2 = .ok (.putfield 56, 3) := by decide +kernel
theorem d_Model_loss_5 : decode prog_7_method_18_code 5 = .ok (.aload_n 0, 1) := by decide +kernel
theorem d_Model_loss_6 : decode prog_7_method_18_code 6 = .ok (.invokevirtual 111, 3) := by decide +kernel
theorem d_Model_loss_9 : decode prog_7_method_18_code 9 = .ok (.aload_n 0, 1) := by decide +kernel
theorem d_Model_loss_10 : decode prog_7_method_18_code 10 = .ok (.getfield 44, 3) := by decide +kernel
theorem d_Model_loss_13 : decode prog_7_method_18_code 13 = .ok (.aload_n 0, 1) := by decide +kernel
theorem d_Model_loss_14 : decode prog_7_method_18_code 14 = .ok (.getfield 97, 3) := by decide +kernel
theorem d_Model_loss_17 : decode prog_7_method_18_code 17 = .ok (.iaload, 1) := by decide +kernel
theorem d_Model_loss_18 : decode prog_7_method_18_code 18 = .ok (.ireturn, 1) := by decide +kernel
theorem d_Model_endOf_0 : decode prog_7_method_19_code 0 = .ok (.aload_n 0, 1) := by decide +kernel
theorem d_Model_endOf_1 : decode prog_7_method_19_code 1 = .ok (.getfield 47, 3) := by decide +kernel
theorem d_Model_endOf_4 : decode prog_7_method_19_code 4 = .ok (.iload_n 1, 1) := by decide +kernel
theorem d_Model_endOf_5 : decode prog_7_method_19_code 5 = .ok (.iaload, 1) := by decide +kernel
theorem d_Model_endOf_6 : decode prog_7_method_19_code 6 = .ok (.iconst (-1), 1) := by decide +kernel
theorem d_Model_endOf_7 : decode prog_7_method_19_code 7 = .ok (.if_icmp .eq 12, 3) := by decide +kernel
theorem d_Model_endOf_10 : decode prog_7_method_19_code 10 = .ok (.iload_n 1, 1) := by decide +kernel
theorem d_Model_endOf_11 : decode prog_7_method_19_code 11 = .ok (.aload_n 0, 1) := by decide +kernel
theorem d_Model_endOf_12 : decode prog_7_method_19_code 12 = .ok (.getfield 50, 3) := by decide +kernel
theorem d_Model_endOf_15 : decode prog_7_method_19_code 15 = .ok (.iload_n 1, 1) := by decide +kernel
theorem d_Model_endOf_16 : decode prog_7_method_19_code 16 = .ok (.iaload, 1) := by decide +kernel
theorem d_Model_endOf_17 : decode prog_7_method_19_code 17 = .ok (.iadd, 1) := by decide +kernel
theorem d_Model_endOf_18 : decode prog_7_method_19_code 18 = .ok (.ireturn, 1) := by decide +kernel
theorem d_Model_endOf_19 : decode prog_7_method_19_code 19 = .ok (.iload_n 1, 1) := by decide +kernel
theorem d_Model_endOf_20 : decode prog_7_method_19_code 20 = .ok (.istore_n 2, 1) := by decide +kernel
theorem d_Model_endOf_21 : decode prog_7_method_19_code 21 = .ok (.iload_n 2, 1) := by decide +kernel
theorem d_Model_endOf_22 : decode prog_7_method_19_code 22 = .ok (.aload_n 0, 1) := by decide +kernel
theorem d_Model_endOf_23 : decode prog_7_method_19_code 23 = .ok (.getfield 72, 3) := by decide +kernel
theorem d_Model_endOf_26 : decode prog_7_method_19_code 26 = .ok (.if_icmp .ge 19, 3) := by decide +kernel
theorem d_Model_endOf_29 : decode prog_7_method_19_code 29 = .ok (.aload_n 0, 1) := by decide +kernel
theorem d_Model_endOf_30 : decode prog_7_method_19_code 30 = .ok (.getfield 47, 3) := by decide +kernel
theorem d_Model_endOf_33 : decode prog_7_method_19_code 33 = .ok (.iload_n 2, 1) := by decide +kernel
theorem d_Model_endOf_34 : decode prog_7_method_19_code 34 = .ok (.iaload, 1) := by decide +kernel
theorem d_Model_endOf_35 : decode prog_7_method_19_code 35 = .ok (.iconst (-1), 1) := by decide +kernel
theorem d_Model_endOf_36 : decode prog_7_method_19_code 36 = .ok (.if_icmp .ne 9, 3) := by decide +kernel
theorem d_Model_endOf_39 : decode prog_7_method_19_code 39 = .ok (.iinc 2 1, 3) := by decide +kernel
theorem d_Model_endOf_42 : decode prog_7_method_19_code 42 = .ok (.goto (-21), 3) := by decide +kernel
theorem d_Model_endOf_45 : decode prog_7_method_19_code 45 = .ok (.iload_n 2, 1) := by decide +kernel
theorem d_Model_endOf_46 : decode prog_7_method_19_code 46 = .ok (.ireturn, 1) := by decide +kernel
theorem d_Model_part_0 : decode prog_7_method_20_code 0 = .ok (.aload_n 0, 1) := by decide +kernel
theorem d_Model_part_1 : decode prog_7_method_20_code 1 = .ok (.iload_n 1, 1) := by decide +kernel
theorem d_Model_part_2 : decode prog_7_method_20_code 2 = .ok (.ifCond .lt 12, 3) := by decide +kernel
theorem d_Model_part_5 : decode prog_7_method_20_code 5 = .ok (.iload_n 2, 1) := by decide +kernel
theorem d_Model_part_6 : decode prog_7_method_20_code 6 = .ok (.iconst 0, 1) := by decide +kernel
theorem d_Model_part_7 : decode prog_7_method_20_code 7 = .ok (.iconst 2, 1) := by decide +kernel
theorem d_Model_part_8 : decode prog_7_method_20_code 8 = .ok (.invokestatic 63, 3) := by decide +kernel
theorem d_Model_part_11 : decode prog_7_method_20_code 11 = .ok (.ifCond .ne 7, 3) := by decide +kernel
theorem d_Model_part_14 : decode prog_7_method_20_code 14 = .ok (.iconst 1, 1) := by decide +kernel
theorem d_Model_part_15 : decode prog_7_method_20_code 15 = .ok (.goto 4, 3) := by decide +kernel
theorem d_Model_part_18 : decode prog_7_method_20_code 18 = .ok (.iconst 0, 1) := by decide +kernel
theorem d_Model_part_19 : decode prog_7_method_20_code 19 = .ok (.iconst 0, 1) := by decide +kernel
theorem d_Model_part_20 : decode prog_7_method_20_code 20 = .ok (.invokevirtual 68, 3) := by decide +kernel
theorem d_Model_part_23 : decode prog_7_method_20_code 23 = .ok (.ifCond .eq 5, 3) := by decide +kernel
theorem d_Model_part_26 : decode prog_7_method_20_code 26 = .ok (.iconst 0, 1) := by decide +kernel
theorem d_Model_part_27 : decode prog_7_method_20_code 27 = .ok (.ireturn, 1) := by decide +kernel
theorem d_Model_part_28 : decode prog_7_method_20_code 28 = .ok (.aload_n 0, 1) := by decide +kernel
theorem d_Model_part_29 : decode prog_7_method_20_code 29 = .ok (.invokevirtual 111, 3) := by decide +kernel
theorem d_Model_part_32 : decode prog_7_method_20_code 32 = .ok (.aload_n 0, 1) := by decide +kernel
theorem d_Model_part_33 : decode prog_7_method_20_code 33 = .ok (.getfield 97, 3) := by decide +kernel
theorem d_Model_part_36 : decode prog_7_method_20_code 36 = .ok (.istore_n 3, 1) := by decide +kernel
theorem d_Model_part_37 : decode prog_7_method_20_code 37 = .ok (.iconst 0, 1) := by decide +kernel
theorem d_Model_part_38 : decode prog_7_method_20_code 38 = .ok (.istore 4, 2) := by decide +kernel
theorem d_Model_part_40 : decode prog_7_method_20_code 40 = .ok (.iload 4, 2) := by decide +kernel
theorem d_Model_part_42 : decode prog_7_method_20_code 42 = .ok (.iload_n 1, 1) := by decide +kernel
theorem d_Model_part_43 : decode prog_7_method_20_code 43 = .ok (.if_icmp .ge 23, 3) := by decide +kernel
theorem d_Model_part_46 : decode prog_7_method_20_code 46 = .ok (.iload_n 3, 1) := by decide +kernel
theorem d_Model_part_47 : decode prog_7_method_20_code 47 = .ok (.aload_n 0, 1) := by decide +kernel
theorem d_Model_part_48 : decode prog_7_method_20_code 48 = .ok (.getfield 72, 3) := by decide +kernel
theorem d_Model_part_51 : decode prog_7_method_20_code 51 = .ok (.if_icmp .ge 15, 3) := by decide +kernel
theorem d_Model_part_54 : decode prog_7_method_20_code 54 = .ok (.aload_n 0, 1) := by decide +kernel
theorem d_Model_part_55 : decode prog_7_method_20_code 55 = .ok (.iload_n 3, 1) := by decide +kernel
theorem d_Model_part_56 : decode prog_7_method_20_code 56 = .ok (.invokevirtual 114, 3) := by decide +kernel
theorem d_Model_part_59 : decode prog_7_method_20_code 59 = .ok (.istore_n 3, 1) := by decide +kernel
theorem d_Model_part_60 : decode prog_7_method_20_code 60 = .ok (.iinc 4 1, 3) := by decide +kernel
theorem d_Model_part_63 : decode prog_7_method_20_code 63 = .ok (.goto (-23), 3) := by decide +kernel
theorem d_Model_part_66 : decode prog_7_method_20_code 66 = .ok (.iload_n 3, 1) := by decide +kernel
theorem d_Model_part_67 : decode prog_7_method_20_code 67 = .ok (.aload_n 0, 1) := by decide +kernel
theorem d_Model_part_68 : decode prog_7_method_20_code 68 = .ok (.getfield 72, 3) := by decide +kernel
theorem d_Model_part_71 : decode prog_7_method_20_code 71 = .ok (.if_icmp .ne 6, 3) := by decide +kernel
theorem d_Model_part_74 : decode prog_7_method_20_code 74 = .ok (.bipush (-2), 2) := by decide +kernel
theorem d_Model_part_76 : decode prog_7_method_20_code 76 = .ok (.ireturn, 1) := by decide +kernel
theorem d_Model_part_77 : decode prog_7_method_20_code 77 = .ok (.iload_n 2, 1) := by decide +kernel
theorem d_Model_part_78 : decode prog_7_method_20_code 78 = .ok (.ifCond .ne 12, 3) := by decide +kernel
theorem d_Model_part_81 : decode prog_7_method_20_code 81 = .ok (.aload_n 0, 1) := by decide +kernel
theorem d_Model_part_82 : decode prog_7_method_20_code 82 = .ok (.getfield 47, 3) := by decide +kernel
theorem d_Model_part_85 : decode prog_7_method_20_code 85 = .ok (.iload_n 3, 1) := by decide +kernel
theorem d_Model_part_86 : decode prog_7_method_20_code 86 = .ok (.iaload, 1) := by decide +kernel
theorem d_Model_part_87 : decode prog_7_method_20_code 87 = .ok (.goto 19, 3) := by decide +kernel
theorem d_Model_part_90 : decode prog_7_method_20_code 90 = .ok (.iload_n 2, 1) := by decide +kernel
theorem d_Model_part_91 : decode prog_7_method_20_code 91 = .ok (.iconst 1, 1) := by decide +kernel
theorem d_Model_part_92 : decode prog_7_method_20_code 92 = .ok (.if_icmp .ne 7, 3) := by decide +kernel
theorem d_Model_part_95 : decode prog_7_method_20_code 95 = .ok (.iload_n 3, 1) := by decide +kernel
theorem d_Model_part_96 : decode prog_7_method_20_code 96 = .ok (.goto 10, 3) := by decide +kernel
theorem d_Model_part_99 : decode prog_7_method_20_code 99 = .ok (.aload_n 0, 1) := by decide +kernel
theorem d_Model_part_100 : decode prog_7_method_20_code 100 = .ok (.iload_n 3, 1) := by decide +kernel
theorem d_Model_part_101 : decode prog_7_method_20_code 101 = .ok (.invokevirtual 114, 3) := by decide +kernel
theorem d_Model_part_104 : decode prog_7_method_20_code 104 = .ok (.iload_n 3, 1) := by decide +kernel
theorem d_Model_part_105 : decode prog_7_method_20_code 105 = .ok (.isub, 1) := by decide +kernel
theorem d_Model_part_106 : decode prog_7_method_20_code 106 = .ok (.ireturn, 1) := by decide +kernel
theorem d_Model_cut_0 : decode prog_7_method_21_code 0 = .ok (.aload_n 0, 1) := by decide +kernel
theorem d_Model_cut_1 : decode prog_7_method_21_code 1 = .ok (.aload_n 0, 1) := by decide +kernel
theorem d_Model_cut_2 : decode prog_7_method_21_code 2 = .ok (.getfield 97, 3) := by decide +kernel
theorem d_Model_cut_5 : decode prog_7_method_21_code 5 = .ok (.aload_n 0, 1) := by decide +kernel
theorem d_Model_cut_6 : decode prog_7_method_21_code 6 = .ok (.getfield 72, 3) := by decide +kernel
theorem d_Model_cut_9 : decode prog_7_method_21_code 9 = .ok (.if_icmp .ne 7, 3) := by decide +kernel
theorem d_Model_cut_12 : decode prog_7_method_21_code 12 = .ok (.iconst 1, 1) := by decide +kernel
theorem d_Model_cut_13 : decode prog_7_method_21_code 13 = .ok (.goto 4, 3) := by decide +kernel
theorem d_Model_cut_16 : decode prog_7_method_21_code 16 = .ok (.iconst 0, 1) := by decide +kernel
theorem d_Model_cut_17 : decode prog_7_method_21_code 17 = .ok (.aload_n 0, 1) := by decide +kernel
theorem d_Model_cut_18 : decode prog_7_method_21_code 18 = .ok (.getfield 59, 3) := by decide +kernel
theorem d_Model_cut_21 : decode prog_7_method_21_code 21 = .ok (.bipush 100, 2) := by decide +kernel
theorem d_Model_cut_23 : decode prog_7_method_21_code 23 = .ok (.if_icmp .ne 7, 3) := by decide +kernel
theorem d_Model_cut_26 : decode prog_7_method_21_code 26 = .ok (.iconst 1, 1) := by decide +kernel
theorem d_Model_cut_27 : decode prog_7_method_21_code 27 = .ok (.goto 4, 3) := by decide +kernel
theorem d_Model_cut_30 : decode prog_7_method_21_code 30 = .ok (.iconst 0, 1) := by decide +kernel
theorem d_Model_cut_31 : decode prog_7_method_21_code 31 = .ok (.invokevirtual 68, 3) := by decide +kernel
theorem d_Model_cut_34 : decode prog_7_method_21_code 34 = .ok (.ifCond .eq 5, 3) := by decide +kernel
theorem d_Model_cut_37 : decode prog_7_method_21_code 37 = .ok (.iconst 0, 1) := by decide +kernel
theorem d_Model_cut_38 : decode prog_7_method_21_code 38 = .ok (.ireturn, 1) := by decide +kernel
theorem d_Model_cut_39 : decode prog_7_method_21_code 39 = .ok (.aload_n 0, 1) := by decide +kernel
theorem d_Model_cut_40 : decode prog_7_method_21_code 40 = .ok (.invokevirtual 111, 3) := by decide +kernel
theorem d_Model_cut_43 : decode prog_7_method_21_code 43 = .ok (.aload_n 0, 1) := by decide +kernel
theorem d_Model_cut_44 : decode prog_7_method_21_code 44 = .ok (.getfield 35, 3) := by decide +kernel
theorem d_Model_cut_47 : decode prog_7_method_21_code 47 = .ok (.aload_n 0, 1) := by decide +kernel
theorem d_Model_cut_48 : decode prog_7_method_21_code 48 = .ok (.getfield 59, 3) := by decide +kernel
theorem d_Model_cut_51 : decode prog_7_method_21_code 51 = .ok (.aload_n 0, 1) := by decide +kernel
theorem d_Model_cut_52 : decode prog_7_method_21_code 52 = .ok (.getfield 47, 3) := by decide +kernel
theorem d_Model_cut_55 : decode prog_7_method_21_code 55 = .ok (.aload_n 0, 1) := by decide +kernel
theorem d_Model_cut_56 : decode prog_7_method_21_code 56 = .ok (.getfield 97, 3) := by decide +kernel
theorem d_Model_cut_59 : decode prog_7_method_21_code 59 = .ok (.iaload, 1) := by decide +kernel
theorem d_Model_cut_60 : decode prog_7_method_21_code 60 = .ok (.iastore, 1) := by decide +kernel
theorem d_Model_cut_61 : decode prog_7_method_21_code 61 = .ok (.aload_n 0, 1) := by decide +kernel
theorem d_Model_cut_62 : decode prog_7_method_21_code 62 = .ok (.getfield 38, 3) := by decide +kernel
theorem d_Model_cut_65 : decode prog_7_method_21_code 65 = .ok (.aload_n 0, 1) := by decide +kernel
theorem d_Model_cut_66 : decode prog_7_method_21_code 66 = .ok (.getfield 59, 3) := by decide +kernel
theorem d_Model_cut_69 : decode prog_7_method_21_code 69 = .ok (.aload_n 0, 1) := by decide +kernel
theorem d_Model_cut_70 : decode prog_7_method_21_code 70 = .ok (.getfield 97, 3) := by decide +kernel
theorem d_Model_cut_73 : decode prog_7_method_21_code 73 = .ok (.iastore, 1) := by decide +kernel
theorem d_Model_cut_74 : decode prog_7_method_21_code 74 = .ok (.aload_n 0, 1) := by decide +kernel
theorem d_Model_cut_75 : decode prog_7_method_21_code 75 = .ok (.getfield 41, 3) := by decide +kernel
theorem d_Model_cut_78 : decode prog_7_method_21_code 78 = .ok (.aload_n 0, 1) := by decide +kernel
theorem d_Model_cut_79 : decode prog_7_method_21_code 79 = .ok (.getfield 59, 3) := by decide +kernel
theorem d_Model_cut_82 : decode prog_7_method_21_code 82 = .ok (.aload_n 0, 1) := by decide +kernel
theorem d_Model_cut_83 : decode prog_7_method_21_code 83 = .ok (.aload_n 0, 1) := by decide +kernel
theorem d_Model_cut_84 : decode prog_7_method_21_code 84 = .ok (.getfield 97, 3) := by decide +kernel
theorem d_Model_cut_87 : decode prog_7_method_21_code 87 = .ok (.invokevirtual 114, 3) := by decide +kernel
theorem d_Model_cut_90 : decode prog_7_method_21_code 90 = .ok (.aload_n 0, 1) := by decide +kernel
theorem d_Model_cut_91 : decode prog_7_method_21_code 91 = .ok (.getfield 97, 3) := by decide +kernel
theorem d_Model_cut_94 : decode prog_7_method_21_code 94 = .ok (.isub, 1) := by decide +kernel
theorem d_Model_cut_95 : decode prog_7_method_21_code 95 = .ok (.iastore, 1) := by decide +kernel
theorem d_Model_cut_96 : decode prog_7_method_21_code 96 = .ok (.aload_n 0, 1) := by decide +kernel
theorem d_Model_cut_97 : decode prog_7_method_21_code 97 = .ok (.aload_n 0, 1) := by decide +kernel
theorem d_Model_cut_98 : decode prog_7_method_21_code 98 = .ok (.aload_n 0, 1) := by decide +kernel
theorem d_Model_cut_99 : decode prog_7_method_21_code 99 = .ok (.getfield 97, 3) := by decide +kernel
theorem d_Model_cut_102 : decode prog_7_method_21_code 102 = .ok (.invokevirtual 114, 3) := by decide +kernel
theorem d_Model_cut_105 : decode prog_7_method_21_code 105 = .ok (.putfield 97, 3) := by decide +kernel
theorem d_Model_cut_108 : decode prog_7_method_21_code 108 = .ok (.aload_n 0, 1) := by decide +kernel
theorem d_Model_cut_109 : decode prog_7_method_21_code 109 = .ok (.dup, 1) := by decide +kernel
theorem d_Model_cut_110 : decode prog_7_method_21_code 110 = .ok (.getfield 59, 3) := by decide +kernel
theorem d_Model_cut_113 : decode prog_7_method_21_code 113 = .ok (.iconst 1, 1) := by decide +kernel
theorem d_Model_cut_114 : decode prog_7_method_21_code 114 = .ok (.iadd, 1) := by decide +kernel
theorem d_Model_cut_115 : decode prog_7_method_21_code 115 = .ok (.putfield 59, 3) := by decide +kernel
theorem d_Model_cut_118 : decode prog_7_method_21_code 118 = .ok (.aload_n 0, 1) := by decide +kernel
theorem d_Model_cut_119 : decode prog_7_method_21_code 119 = .ok (.getfield 59, 3) := by decide +kernel
theorem d_Model_cut_122 : decode prog_7_method_21_code 122 = .ok (.iconst 1, 1) := by decide +kernel
theorem d_Model_cut_123 : decode prog_7_method_21_code 123 = .ok (.isub, 1) := by decide +kernel
theorem d_Model_cut_124 : decode prog_7_method_21_code 124 = .ok (.ireturn, 1) := by decide +kernel
theorem d_Model_slab_0 : decode prog_7_method_22_code 0 = .ok (.aload_n 0, 1) := by decide +kernel
theorem d_Model_slab_1 : decode prog_7_method_22_code 1 = .ok (.iload_n 1, 1) := by decide +kernel
theorem d_Model_slab_2 : decode prog_7_method_22_code 2 = .ok (.iconst 0, 1) := by decide +kernel
theorem d_Model_slab_3 : decode prog_7_method_22_code 3 = .ok (.aload_n 0, 1) := by decide +kernel
theorem d_Model_slab_4 : decode prog_7_method_22_code 4 = .ok (.getfield 59, 3) := by decide +kernel
theorem d_Model_slab_7 : decode prog_7_method_22_code 7 = .ok (.iconst 1, 1) := by decide +kernel
theorem d_Model_slab_8 : decode prog_7_method_22_code 8 = .ok (.isub, 1) := by decide +kernel
theorem d_Model_slab_9 : decode prog_7_method_22_code 9 = .ok (.invokestatic 63, 3) := by decide +kernel
theorem d_Model_slab_12 : decode prog_7_method_22_code 12 = .ok (.ifCond .eq 12, 3) := by decide +kernel
theorem d_Model_slab_15 : decode prog_7_method_22_code 15 = .ok (.iload_n 2, 1) := by decide +kernel
theorem d_Model_slab_16 : decode prog_7_method_22_code 16 = .ok (.iconst 0, 1) := by decide +kernel
theorem d_Model_slab_17 : decode prog_7_method_22_code 17 = .ok (.iconst 2, 1) := by decide +kernel
theorem d_Model_slab_18 : decode prog_7_method_22_code 18 = .ok (.invokestatic 63, 3) := by decide +kernel
theorem d_Model_slab_21 : decode prog_7_method_22_code 21 = .ok (.ifCond .ne 7, 3) := by decide +kernel
theorem d_Model_slab_24 : decode prog_7_method_22_code 24 = .ok (.iconst 1, 1) := by decide +kernel
theorem d_Model_slab_25 : decode prog_7_method_22_code 25 = .ok (.goto 4, 3) := by decide +kernel
theorem d_Model_slab_28 : decode prog_7_method_22_code 28 = .ok (.iconst 0, 1) := by decide +kernel
theorem d_Model_slab_29 : decode prog_7_method_22_code 29 = .ok (.iconst 0, 1) := by decide +kernel
theorem d_Model_slab_30 : decode prog_7_method_22_code 30 = .ok (.invokevirtual 68, 3) := by decide +kernel
theorem d_Model_slab_33 : decode prog_7_method_22_code 33 = .ok (.ifCond .eq 5, 3) := by decide +kernel
theorem d_Model_slab_36 : decode prog_7_method_22_code 36 = .ok (.iconst 0, 1) := by decide +kernel
theorem d_Model_slab_37 : decode prog_7_method_22_code 37 = .ok (.ireturn, 1) := by decide +kernel
theorem d_Model_slab_38 : decode prog_7_method_22_code 38 = .ok (.iload_n 2, 1) := by decide +kernel
theorem d_Model_slab_39 : decode prog_7_method_22_code 39 = .ok (.ifCond .ne 12, 3) := by decide +kernel
theorem d_Model_slab_42 : decode prog_7_method_22_code 42 = .ok (.aload_n 0, 1) := by decide +kernel
theorem d_Model_slab_43 : decode prog_7_method_22_code 43 = .ok (.getfield 35, 3) := by decide +kernel
theorem d_Model_slab_46 : decode prog_7_method_22_code 46 = .ok (.iload_n 1, 1) := by decide +kernel
theorem d_Model_slab_47 : decode prog_7_method_22_code 47 = .ok (.iaload, 1) := by decide +kernel
theorem d_Model_slab_48 : decode prog_7_method_22_code 48 = .ok (.goto 23, 3) := by decide +kernel
theorem d_Model_slab_51 : decode prog_7_method_22_code 51 = .ok (.iload_n 2, 1) := by decide +kernel
theorem d_Model_slab_52 : decode prog_7_method_22_code 52 = .ok (.iconst 1, 1) := by decide +kernel
theorem d_Model_slab_53 : decode prog_7_method_22_code 53 = .ok (.if_icmp .ne 12, 3) := by decide +kernel
theorem d_Model_slab_56 : decode prog_7_method_22_code 56 = .ok (.aload_n 0, 1) := by decide +kernel
theorem d_Model_slab_57 : decode prog_7_method_22_code 57 = .ok (.getfield 38, 3) := by decide +kernel
theorem d_Model_slab_60 : decode prog_7_method_22_code 60 = .ok (.iload_n 1, 1) := by decide +kernel
theorem d_Model_slab_61 : decode prog_7_method_22_code 61 = .ok (.iaload, 1) := by decide +kernel
theorem d_Model_slab_62 : decode prog_7_method_22_code 62 = .ok (.goto 9, 3) := by decide +kernel
theorem d_Model_slab_65 : decode prog_7_method_22_code 65 = .ok (.aload_n 0, 1) := by decide +kernel
theorem d_Model_slab_66 : decode prog_7_method_22_code 66 = .ok (.getfield 41, 3) := by decide +kernel
theorem d_Model_slab_69 : decode prog_7_method_22_code 69 = .ok (.iload_n 1, 1) := by decide +kernel
theorem d_Model_slab_70 : decode prog_7_method_22_code 70 = .ok (.iaload, 1) := by decide +kernel
theorem d_Model_slab_71 : decode prog_7_method_22_code 71 = .ok (.ireturn, 1) := by decide +kernel
theorem d_Model_weight_0 : decode prog_7_method_23_code 0 = .ok (.aload_n 0, 1) := by decide +kernel
theorem d_Model_weight_1 : decode prog_7_method_23_code 1 = .ok (.iload_n 1, 1) := by decide +kernel
theorem d_Model_weight_2 : decode prog_7_method_23_code 2 = .ok (.iconst 0, 1) := by decide +kernel
theorem d_Model_weight_3 : decode prog_7_method_23_code 3 = .ok (.aload_n 0, 1) := by decide +kernel
theorem d_Model_weight_4 : decode prog_7_method_23_code 4 = .ok (.getfield 59, 3) := by decide +kernel
theorem d_Model_weight_7 : decode prog_7_method_23_code 7 = .ok (.iconst 1, 1) := by decide +kernel
theorem d_Model_weight_8 : decode prog_7_method_23_code 8 = .ok (.isub, 1) := by decide +kernel
theorem d_Model_weight_9 : decode prog_7_method_23_code 9 = .ok (.invokestatic 63, 3) := by decide +kernel
theorem d_Model_weight_12 : decode prog_7_method_23_code 12 = .ok (.ifCond .ne 7, 3) := by decide +kernel
theorem d_Model_weight_15 : decode prog_7_method_23_code 15 = .ok (.iconst 1, 1) := by decide +kernel
theorem d_Model_weight_16 : decode prog_7_method_23_code 16 = .ok (.goto 4, 3) := by decide +kernel
theorem d_Model_weight_19 : decode prog_7_method_23_code 19 = .ok (.iconst 0, 1) := by decide +kernel
theorem d_Model_weight_20 : decode prog_7_method_23_code 20 = .ok (.iconst 0, 1) := by decide +kernel
theorem d_Model_weight_21 : decode prog_7_method_23_code 21 = .ok (.invokevirtual 68, 3) := by decide +kernel
theorem d_Model_weight_24 : decode prog_7_method_23_code 24 = .ok (.ifCond .eq 5, 3) := by decide +kernel
theorem d_Model_weight_27 : decode prog_7_method_23_code 27 = .ok (.lconst 0, 1) := by decide +kernel
theorem d_Model_weight_28 : decode prog_7_method_23_code 28 = .ok (.lreturn, 1) := by decide +kernel
theorem d_Model_weight_29 : decode prog_7_method_23_code 29 = .ok (.aload_n 0, 1) := by decide +kernel
theorem d_Model_weight_30 : decode prog_7_method_23_code 30 = .ok (.getfield 41, 3) := by decide +kernel
theorem d_Model_weight_33 : decode prog_7_method_23_code 33 = .ok (.iload_n 1, 1) := by decide +kernel
theorem d_Model_weight_34 : decode prog_7_method_23_code 34 = .ok (.iaload, 1) := by decide +kernel
theorem d_Model_weight_35 : decode prog_7_method_23_code 35 = .ok (.i2l, 1) := by decide +kernel
theorem d_Model_weight_36 : decode prog_7_method_23_code 36 = .ok (.aload_n 0, 1) := by decide +kernel
theorem d_Model_weight_37 : decode prog_7_method_23_code 37 = .ok (.getfield 7, 3) := by decide +kernel
theorem d_Model_weight_40 : decode prog_7_method_23_code 40 = .ok (.i2l, 1) := by decide +kernel
theorem d_Model_weight_41 : decode prog_7_method_23_code 41 = .ok (.lmul, 1) := by decide +kernel
theorem d_Model_weight_42 : decode prog_7_method_23_code 42 = .ok (.aload_n 0, 1) := by decide +kernel
theorem d_Model_weight_43 : decode prog_7_method_23_code 43 = .ok (.getfield 13, 3) := by decide +kernel
theorem d_Model_weight_46 : decode prog_7_method_23_code 46 = .ok (.i2l, 1) := by decide +kernel
theorem d_Model_weight_47 : decode prog_7_method_23_code 47 = .ok (.lmul, 1) := by decide +kernel
theorem d_Model_weight_48 : decode prog_7_method_23_code 48 = .ok (.ldc2_w 118, 3) := by decide +kernel
theorem d_Model_weight_51 : decode prog_7_method_23_code 51 = .ok (.ldiv, 1) := by decide +kernel
theorem d_Model_weight_52 : decode prog_7_method_23_code 52 = .ok (.lreturn, 1) := by decide +kernel
theorem d_Model_count_0 : decode prog_7_method_24_code 0 = .ok (.aload_n 0, 1) := by decide +kernel
theorem d_Model_count_1 : decode prog_7_method_24_code 1 = .ok (.iload_n 1, 1) := by decide +kernel
theorem d_Model_count_2 : decode prog_7_method_24_code 2 = .ok (.iconst (-1), 1) := by decide +kernel
theorem d_Model_count_3 : decode prog_7_method_24_code 3 = .ok (.aload_n 0, 1) := by decide +kernel
theorem d_Model_count_4 : decode prog_7_method_24_code 4 = .ok (.getfield 75, 3) := by decide +kernel
theorem d_Model_count_7 : decode prog_7_method_24_code 7 = .ok (.iconst 1, 1) := by decide +kernel
theorem d_Model_count_8 : decode prog_7_method_24_code 8 = .ok (.isub, 1) := by decide +kernel
theorem d_Model_count_9 : decode prog_7_method_24_code 9 = .ok (.invokestatic 63, 3) := by decide +kernel
theorem d_Model_count_12 : decode prog_7_method_24_code 12 = .ok (.ifCond .ne 7, 3) := by decide +kernel
theorem d_Model_count_15 : decode prog_7_method_24_code 15 = .ok (.iconst 1, 1) := by decide +kernel
theorem d_Model_count_16 : decode prog_7_method_24_code 16 = .ok (.goto 4, 3) := by decide +kernel
theorem d_Model_count_19 : decode prog_7_method_24_code 19 = .ok (.iconst 0, 1) := by decide +kernel
theorem d_Model_count_20 : decode prog_7_method_24_code 20 = .ok (.iconst 0, 1) := by decide +kernel
theorem d_Model_count_21 : decode prog_7_method_24_code 21 = .ok (.invokevirtual 68, 3) := by decide +kernel
theorem d_Model_count_24 : decode prog_7_method_24_code 24 = .ok (.ifCond .eq 5, 3) := by decide +kernel
theorem d_Model_count_27 : decode prog_7_method_24_code 27 = .ok (.iconst 0, 1) := by decide +kernel
theorem d_Model_count_28 : decode prog_7_method_24_code 28 = .ok (.ireturn, 1) := by decide +kernel
theorem d_Model_count_29 : decode prog_7_method_24_code 29 = .ok (.iconst 0, 1) := by decide +kernel
theorem d_Model_count_30 : decode prog_7_method_24_code 30 = .ok (.istore_n 2, 1) := by decide +kernel
theorem d_Model_count_31 : decode prog_7_method_24_code 31 = .ok (.iconst 0, 1) := by decide +kernel
theorem d_Model_count_32 : decode prog_7_method_24_code 32 = .ok (.istore_n 3, 1) := by decide +kernel
theorem d_Model_count_33 : decode prog_7_method_24_code 33 = .ok (.iload_n 3, 1) := by decide +kernel
theorem d_Model_count_34 : decode prog_7_method_24_code 34 = .ok (.aload_n 0, 1) := by decide +kernel
theorem d_Model_count_35 : decode prog_7_method_24_code 35 = .ok (.getfield 59, 3) := by decide +kernel
theorem d_Model_count_38 : decode prog_7_method_24_code 38 = .ok (.if_icmp .ge 27, 3) := by decide +kernel
theorem d_Model_count_41 : decode prog_7_method_24_code 41 = .ok (.iload_n 2, 1) := by decide +kernel
theorem d_Model_count_42 : decode prog_7_method_24_code 42 = .ok (.aload_n 0, 1) := by decide +kernel
theorem d_Model_count_43 : decode prog_7_method_24_code 43 = .ok (.getfield 35, 3) := by decide +kernel
theorem d_Model_count_46 : decode prog_7_method_24_code 46 = .ok (.iload_n 3, 1) := by decide +kernel
theorem d_Model_count_47 : decode prog_7_method_24_code 47 = .ok (.iaload, 1) := by decide +kernel
theorem d_Model_count_48 : decode prog_7_method_24_code 48 = .ok (.iload_n 1, 1) := by decide +kernel
theorem d_Model_count_49 : decode prog_7_method_24_code 49 = .ok (.if_icmp .ne 7, 3) := by decide +kernel
theorem d_Model_count_52 : decode prog_7_method_24_code 52 = .ok (.iconst 1, 1) := by decide +kernel
theorem d_Model_count_53 : decode prog_7_method_24_code 53 = .ok (.goto 4, 3) := by decide +kernel
theorem d_Model_count_56 : decode prog_7_method_24_code 56 = .ok (.iconst 0, 1) := by decide +kernel
theorem d_Model_count_57 : decode prog_7_method_24_code 57 = .ok (.iadd, 1) := by decide +kernel
theorem d_Model_count_58 : decode prog_7_method_24_code 58 = .ok (.istore_n 2, 1) := by decide +kernel
theorem d_Model_count_59 : decode prog_7_method_24_code 59 = .ok (.iinc 3 1, 3) := by decide +kernel
theorem d_Model_count_62 : decode prog_7_method_24_code 62 = .ok (.goto (-29), 3) := by decide +kernel
theorem d_Model_count_65 : decode prog_7_method_24_code 65 = .ok (.iload_n 2, 1) := by decide +kernel
theorem d_Model_count_66 : decode prog_7_method_24_code 66 = .ok (.ireturn, 1) := by decide +kernel
theorem d_Model_torch_0 : decode prog_7_method_25_code 0 = .ok (.aload_n 0, 1) := by decide +kernel
theorem d_Model_torch_1 : decode prog_7_method_25_code 1 = .ok (.iconst 0, 1) := by decide +kernel
theorem d_Model_torch_2 : decode prog_7_method_25_code 2 = .ok (.putfield 56, 3) := by decide +kernel
theorem d_Model_torch_5 : decode prog_7_method_25_code 5 = .ok (.aload_n 0, 1) := by decide +kernel
theorem d_Model_torch_6 : decode prog_7_method_25_code 6 = .ok (.getfield 97, 3) := by decide +kernel
theorem d_Model_torch_9 : decode prog_7_method_25_code 9 = .ok (.ireturn, 1) := by decide +kernel
