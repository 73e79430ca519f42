/-! decode rows, by program -/
theorem d_M_init_0 : decode c_M_init 0 = .ok (.aload_n 0, 1) := by decide +kernel
theorem d_M_init_1 : decode c_M_init 1 = .ok (.invokespecial 1, 3) := by decide +kernel
theorem d_M_init_4 : decode c_M_init 4 = .ok (.aload_n 0, 1) := by decide +kernel
theorem d_M_init_5 : decode c_M_init 5 = .ok (.iconst (-1), 1) := by decide +kernel
theorem d_M_init_6 : decode c_M_init 6 = .ok (.putfield 7, 3) := by decide +kernel
theorem d_M_init_9 : decode c_M_init 9 = .ok (.aload_n 0, 1) := by decide +kernel
theorem d_M_init_10 : decode c_M_init 10 = .ok (.sipush 1024, 3) := by decide +kernel
theorem d_M_init_13 : decode c_M_init 13 = .ok (.newarray .boolean, 2) := by decide +kernel
theorem d_M_init_15 : decode c_M_init 15 = .ok (.putfield 13, 3) := by decide +kernel
theorem d_M_init_18 : decode c_M_init 18 = .ok (.return_, 1) := by decide +kernel
theorem d_M_thrown_0 : decode c_M_thrown 0 = .ok (.aload_n 0, 1) := by decide +kernel
theorem d_M_thrown_1 : decode c_M_thrown 1 = .ok (.getfield 17, 3) := by decide +kernel
theorem d_M_thrown_4 : decode c_M_thrown 4 = .ok (.ireturn, 1) := by decide +kernel
theorem d_M_no_0 : decode c_M_no 0 = .ok (.aload_n 0, 1) := by decide +kernel
theorem d_M_no_1 : decode c_M_no 1 = .ok (.iload_n 1, 1) := by decide +kernel
theorem d_M_no_2 : decode c_M_no 2 = .ok (.putfield 17, 3) := by decide +kernel
theorem d_M_no_5 : decode c_M_no 5 = .ok (.iconst 0, 1) := by decide +kernel
theorem d_M_no_6 : decode c_M_no 6 = .ok (.ireturn, 1) := by decide +kernel
theorem d_M_isLiteral_0 : decode c_M_isLiteral 0 = .ok (.iload_n 1, 1) := by decide +kernel
theorem d_M_isLiteral_1 : decode c_M_isLiteral 1 = .ok (.ifCond .eq 24, 3) := by decide +kernel
theorem d_M_isLiteral_4 : decode c_M_isLiteral 4 = .ok (.iload_n 1, 1) := by decide +kernel
theorem d_M_isLiteral_5 : decode c_M_isLiteral 5 = .ok (.aload_n 0, 1) := by decide +kernel
theorem d_M_isLiteral_6 : decode c_M_isLiteral 6 = .ok (.getfield 20, 3) := by decide +kernel
theorem d_M_isLiteral_9 : decode c_M_isLiteral 9 = .ok (.ineg, 1) := by decide +kernel
theorem d_M_isLiteral_10 : decode c_M_isLiteral 10 = .ok (.if_icmp .lt 15, 3) := by decide +kernel
theorem d_M_isLiteral_13 : decode c_M_isLiteral 13 = .ok (.iload_n 1, 1) := by decide +kernel
theorem d_M_isLiteral_14 : decode c_M_isLiteral 14 = .ok (.aload_n 0, 1) := by decide +kernel
theorem d_M_isLiteral_15 : decode c_M_isLiteral 15 = .ok (.getfield 20, 3) := by decide +kernel
theorem d_M_isLiteral_18 : decode c_M_isLiteral 18 = .ok (.if_icmp .gt 7, 3) := by decide +kernel
theorem d_M_isLiteral_21 : decode c_M_isLiteral 21 = .ok (.iconst 1, 1) := by decide +kernel
theorem d_M_isLiteral_22 : decode c_M_isLiteral 22 = .ok (.goto 4, 3) := by decide +kernel
theorem d_M_isLiteral_25 : decode c_M_isLiteral 25 = .ok (.iconst 0, 1) := by decide +kernel
theorem d_M_isLiteral_26 : decode c_M_isLiteral 26 = .ok (.ireturn, 1) := by decide +kernel
theorem d_M_variable_0 : decode c_M_variable 0 = .ok (.aload_n 0, 1) := by decide +kernel
theorem d_M_variable_1 : decode c_M_variable 1 = .ok (.getfield 20, 3) := by decide +kernel
theorem d_M_variable_4 : decode c_M_variable 4 = .ok (.bipush 10, 2) := by decide +kernel
theorem d_M_variable_6 : decode c_M_variable 6 = .ok (.if_icmp .ne 9, 3) := by decide +kernel
theorem d_M_variable_9 : decode c_M_variable 9 = .ok (.aload_n 0, 1) := by decide +kernel
theorem d_M_variable_10 : decode c_M_variable 10 = .ok (.iconst 1, 1) := by decide +kernel
theorem d_M_variable_11 : decode c_M_variable 11 = .ok (.invokevirtual 23, 3) := by decide +kernel
theorem d_M_variable_14 : decode c_M_variable 14 = .ok (.ireturn, 1) := by decide +kernel
theorem d_M_variable_15 : decode c_M_variable 15 = .ok (.aload_n 0, 1) := by decide +kernel
theorem d_M_variable_16 : decode c_M_variable 16 = .ok (.iconst 0, 1) := by decide +kernel
theorem d_M_variable_17 : decode c_M_variable 17 = .ok (.putfield 17, 3) := by decide +kernel
theorem d_M_variable_20 : decode c_M_variable 20 = .ok (.aload_n 0, 1) := by decide +kernel
theorem d_M_variable_21 : decode c_M_variable 21 = .ok (.dup, 1) := by decide +kernel
theorem d_M_variable_22 : decode c_M_variable 22 = .ok (.getfield 20, 3) := by decide +kernel
theorem d_M_variable_25 : decode c_M_variable 25 = .ok (.iconst 1, 1) := by decide +kernel
theorem d_M_variable_26 : decode c_M_variable 26 = .ok (.iadd, 1) := by decide +kernel
theorem d_M_variable_27 : decode c_M_variable 27 = .ok (.putfield 20, 3) := by decide +kernel
theorem d_M_variable_30 : decode c_M_variable 30 = .ok (.aload_n 0, 1) := by decide +kernel
theorem d_M_variable_31 : decode c_M_variable 31 = .ok (.getfield 20, 3) := by decide +kernel
theorem d_M_variable_34 : decode c_M_variable 34 = .ok (.ireturn, 1) := by decide +kernel
theorem d_M_literal_0 : decode c_M_literal 0 = .ok (.aload_n 0, 1) := by decide +kernel
theorem d_M_literal_1 : decode c_M_literal 1 = .ok (.aload_n 0, 1) := by decide +kernel
theorem d_M_literal_2 : decode c_M_literal 2 = .ok (.iload_n 1, 1) := by decide +kernel
theorem d_M_literal_3 : decode c_M_literal 3 = .ok (.invokevirtual 27, 3) := by decide +kernel
theorem d_M_literal_6 : decode c_M_literal 6 = .ok (.ifCond .ne 7, 3) := by decide +kernel
theorem d_M_literal_9 : decode c_M_literal 9 = .ok (.iconst 1, 1) := by decide +kernel
theorem d_M_literal_10 : decode c_M_literal 10 = .ok (.goto 17, 3) := by decide +kernel
theorem d_M_literal_13 : decode c_M_literal 13 = .ok (.aload_n 0, 1) := by decide +kernel
theorem d_M_literal_14 : decode c_M_literal 14 = .ok (.getfield 31, 3) := by decide +kernel
theorem d_M_literal_17 : decode c_M_literal 17 = .ok (.bipush 12, 2) := by decide +kernel
theorem d_M_literal_19 : decode c_M_literal 19 = .ok (.if_icmp .ne 7, 3) := by decide +kernel
theorem d_M_literal_22 : decode c_M_literal 22 = .ok (.iconst 2, 1) := by decide +kernel
theorem d_M_literal_23 : decode c_M_literal 23 = .ok (.goto 4, 3) := by decide +kernel
theorem d_M_literal_26 : decode c_M_literal 26 = .ok (.iconst 0, 1) := by decide +kernel
theorem d_M_literal_27 : decode c_M_literal 27 = .ok (.putfield 17, 3) := by decide +kernel
theorem d_M_literal_30 : decode c_M_literal 30 = .ok (.aload_n 0, 1) := by decide +kernel
theorem d_M_literal_31 : decode c_M_literal 31 = .ok (.getfield 17, 3) := by decide +kernel
theorem d_M_literal_34 : decode c_M_literal 34 = .ok (.ifCond .eq 4, 3) := by decide +kernel
theorem d_M_literal_37 : decode c_M_literal 37 = .ok (.return_, 1) := by decide +kernel
theorem d_M_literal_38 : decode c_M_literal 38 = .ok (.iload_n 1, 1) := by decide +kernel
theorem d_M_literal_39 : decode c_M_literal 39 = .ok (.ifCond .le 20, 3) := by decide +kernel
theorem d_M_literal_42 : decode c_M_literal 42 = .ok (.aload_n 0, 1) := by decide +kernel
theorem d_M_literal_43 : decode c_M_literal 43 = .ok (.dup, 1) := by decide +kernel
theorem d_M_literal_44 : decode c_M_literal 44 = .ok (.getfield 34, 3) := by decide +kernel
theorem d_M_literal_47 : decode c_M_literal 47 = .ok (.iconst 1, 1) := by decide +kernel
theorem d_M_literal_48 : decode c_M_literal 48 = .ok (.iload_n 1, 1) := by decide +kernel
theorem d_M_literal_49 : decode c_M_literal 49 = .ok (.iconst 1, 1) := by decide +kernel
theorem d_M_literal_50 : decode c_M_literal 50 = .ok (.isub, 1) := by decide +kernel
theorem d_M_literal_51 : decode c_M_literal 51 = .ok (.ishl, 1) := by decide +kernel
theorem d_M_literal_52 : decode c_M_literal 52 = .ok (.ior, 1) := by decide +kernel
theorem d_M_literal_53 : decode c_M_literal 53 = .ok (.putfield 34, 3) := by decide +kernel
theorem d_M_literal_56 : decode c_M_literal 56 = .ok (.goto 18, 3) := by decide +kernel
theorem d_M_literal_59 : decode c_M_literal 59 = .ok (.aload_n 0, 1) := by decide +kernel
theorem d_M_literal_60 : decode c_M_literal 60 = .ok (.dup, 1) := by decide +kernel
theorem d_M_literal_61 : decode c_M_literal 61 = .ok (.getfield 37, 3) := by decide +kernel
theorem d_M_literal_64 : decode c_M_literal 64 = .ok (.iconst 1, 1) := by decide +kernel
theorem d_M_literal_65 : decode c_M_literal 65 = .ok (.iload_n 1, 1) := by decide +kernel
theorem d_M_literal_66 : decode c_M_literal 66 = .ok (.ineg, 1) := by decide +kernel
theorem d_M_literal_67 : decode c_M_literal 67 = .ok (.iconst 1, 1) := by decide +kernel
theorem d_M_literal_68 : decode c_M_literal 68 = .ok (.isub, 1) := by decide +kernel
theorem d_M_literal_69 : decode c_M_literal 69 = .ok (.ishl, 1) := by decide +kernel
theorem d_M_literal_70 : decode c_M_literal 70 = .ok (.ior, 1) := by decide +kernel
theorem d_M_literal_71 : decode c_M_literal 71 = .ok (.putfield 37, 3) := by decide +kernel
theorem d_M_literal_74 : decode c_M_literal 74 = .ok (.aload_n 0, 1) := by decide +kernel
theorem d_M_literal_75 : decode c_M_literal 75 = .ok (.dup, 1) := by decide +kernel
theorem d_M_literal_76 : decode c_M_literal 76 = .ok (.getfield 31, 3) := by decide +kernel
theorem d_M_literal_79 : decode c_M_literal 79 = .ok (.iconst 1, 1) := by decide +kernel
theorem d_M_literal_80 : decode c_M_literal 80 = .ok (.iadd, 1) := by decide +kernel
theorem d_M_literal_81 : decode c_M_literal 81 = .ok (.putfield 31, 3) := by decide +kernel
theorem d_M_literal_84 : decode c_M_literal 84 = .ok (.return_, 1) := by decide +kernel
theorem d_M_close_0 : decode c_M_close 0 = .ok (.aload_n 0, 1) := by decide +kernel
theorem d_M_close_1 : decode c_M_close 1 = .ok (.getfield 40, 3) := by decide +kernel
theorem d_M_close_4 : decode c_M_close 4 = .ok (.sipush 500, 3) := by decide +kernel
theorem d_M_close_7 : decode c_M_close 7 = .ok (.if_icmp .ne 9, 3) := by decide +kernel
theorem d_M_close_10 : decode c_M_close 10 = .ok (.aload_n 0, 1) := by decide +kernel
theorem d_M_close_11 : decode c_M_close 11 = .ok (.iconst 1, 1) := by decide +kernel
theorem d_M_close_12 : decode c_M_close 12 = .ok (.invokevirtual 23, 3) := by decide +kernel
theorem d_M_close_15 : decode c_M_close 15 = .ok (.ireturn, 1) := by decide +kernel
theorem d_M_close_16 : decode c_M_close 16 = .ok (.aload_n 0, 1) := by decide +kernel
theorem d_M_close_17 : decode c_M_close 17 = .ok (.iconst 0, 1) := by decide +kernel
theorem d_M_close_18 : decode c_M_close 18 = .ok (.putfield 17, 3) := by decide +kernel
theorem d_M_close_21 : decode c_M_close 21 = .ok (.iconst 0, 1) := by decide +kernel
theorem d_M_close_22 : decode c_M_close 22 = .ok (.istore_n 1, 1) := by decide +kernel
theorem d_M_close_23 : decode c_M_close 23 = .ok (.iload_n 1, 1) := by decide +kernel
theorem d_M_close_24 : decode c_M_close 24 = .ok (.aload_n 0, 1) := by decide +kernel
theorem d_M_close_25 : decode c_M_close 25 = .ok (.getfield 13, 3) := by decide +kernel
theorem d_M_close_28 : decode c_M_close 28 = .ok (.arraylength, 1) := by decide +kernel
theorem d_M_close_29 : decode c_M_close 29 = .ok (.if_icmp .ge 36, 3) := by decide +kernel
theorem d_M_close_32 : decode c_M_close 32 = .ok (.iload_n 1, 1) := by decide +kernel
theorem d_M_close_33 : decode c_M_close 33 = .ok (.aload_n 0, 1) := by decide +kernel
theorem d_M_close_34 : decode c_M_close 34 = .ok (.getfield 34, 3) := by decide +kernel
theorem d_M_close_37 : decode c_M_close 37 = .ok (.iand, 1) := by decide +kernel
theorem d_M_close_38 : decode c_M_close 38 = .ok (.ifCond .ne 21, 3) := by decide +kernel
theorem d_M_close_41 : decode c_M_close 41 = .ok (.iload_n 1, 1) := by decide +kernel
theorem d_M_close_42 : decode c_M_close 42 = .ok (.iconst (-1), 1) := by decide +kernel
theorem d_M_close_43 : decode c_M_close 43 = .ok (.ixor, 1) := by decide +kernel
theorem d_M_close_44 : decode c_M_close 44 = .ok (.aload_n 0, 1) := by decide +kernel
theorem d_M_close_45 : decode c_M_close 45 = .ok (.getfield 37, 3) := by decide +kernel
theorem d_M_close_48 : decode c_M_close 48 = .ok (.iand, 1) := by decide +kernel
theorem d_M_close_49 : decode c_M_close 49 = .ok (.ifCond .ne 10, 3) := by decide +kernel
theorem d_M_close_52 : decode c_M_close 52 = .ok (.aload_n 0, 1) := by decide +kernel
theorem d_M_close_53 : decode c_M_close 53 = .ok (.getfield 13, 3) := by decide +kernel
theorem d_M_close_56 : decode c_M_close 56 = .ok (.iload_n 1, 1) := by decide +kernel
theorem d_M_close_57 : decode c_M_close 57 = .ok (.iconst 1, 1) := by decide +kernel
theorem d_M_close_58 : decode c_M_close 58 = .ok (.bastore, 1) := by decide +kernel
theorem d_M_close_59 : decode c_M_close 59 = .ok (.iinc 1 1, 3) := by decide +kernel
theorem d_M_close_62 : decode c_M_close 62 = .ok (.goto (-39), 3) := by decide +kernel
theorem d_M_close_65 : decode c_M_close 65 = .ok (.aload_n 0, 1) := by decide +kernel
theorem d_M_close_66 : decode c_M_close 66 = .ok (.iconst 0, 1) := by decide +kernel
theorem d_M_close_67 : decode c_M_close 67 = .ok (.putfield 34, 3) := by decide +kernel
theorem d_M_close_70 : decode c_M_close 70 = .ok (.aload_n 0, 1) := by decide +kernel
theorem d_M_close_71 : decode c_M_close 71 = .ok (.iconst 0, 1) := by decide +kernel
theorem d_M_close_72 : decode c_M_close 72 = .ok (.putfield 37, 3) := by decide +kernel
theorem d_M_close_75 : decode c_M_close 75 = .ok (.aload_n 0, 1) := by decide +kernel
theorem d_M_close_76 : decode c_M_close 76 = .ok (.iconst 0, 1) := by decide +kernel
theorem d_M_close_77 : decode c_M_close 77 = .ok (.putfield 31, 3) := by decide +kernel
theorem d_M_close_80 : decode c_M_close 80 = .ok (.aload_n 0, 1) := by decide +kernel
theorem d_M_close_81 : decode c_M_close 81 = .ok (.dup, 1) := by decide +kernel
theorem d_M_close_82 : decode c_M_close 82 = .ok (.getfield 40, 3) := by decide +kernel
theorem d_M_close_85 : decode c_M_close 85 = .ok (.iconst 1, 1) := by decide +kernel
theorem d_M_close_86 : decode c_M_close 86 = .ok (.iadd, 1) := by decide +kernel
theorem d_M_close_87 : decode c_M_close 87 = .ok (.putfield 40, 3) := by decide +kernel
theorem d_M_close_90 : decode c_M_close 90 = .ok (.aload_n 0, 1) := by decide +kernel
theorem d_M_close_91 : decode c_M_close 91 = .ok (.getfield 40, 3) := by decide +kernel
theorem d_M_close_94 : decode c_M_close 94 = .ok (.iconst 1, 1) := by decide +kernel
theorem d_M_close_95 : decode c_M_close 95 = .ok (.isub, 1) := by decide +kernel
theorem d_M_close_96 : decode c_M_close 96 = .ok (.ireturn, 1) := by decide +kernel
theorem d_M_assume_0 : decode c_M_assume 0 = .ok (.aload_n 0, 1) := by decide +kernel
theorem d_M_assume_1 : decode c_M_assume 1 = .ok (.aload_n 0, 1) := by decide +kernel
theorem d_M_assume_2 : decode c_M_assume 2 = .ok (.iload_n 1, 1) := by decide +kernel
theorem d_M_assume_3 : decode c_M_assume 3 = .ok (.invokevirtual 27, 3) := by decide +kernel
theorem d_M_assume_6 : decode c_M_assume 6 = .ok (.ifCond .ne 7, 3) := by decide +kernel
theorem d_M_assume_9 : decode c_M_assume 9 = .ok (.iconst 1, 1) := by decide +kernel
theorem d_M_assume_10 : decode c_M_assume 10 = .ok (.goto 17, 3) := by decide +kernel
theorem d_M_assume_13 : decode c_M_assume 13 = .ok (.aload_n 0, 1) := by decide +kernel
theorem d_M_assume_14 : decode c_M_assume 14 = .ok (.getfield 43, 3) := by decide +kernel
theorem d_M_assume_17 : decode c_M_assume 17 = .ok (.bipush 10, 2) := by decide +kernel
theorem d_M_assume_19 : decode c_M_assume 19 = .ok (.if_icmp .ne 7, 3) := by decide +kernel
theorem d_M_assume_22 : decode c_M_assume 22 = .ok (.iconst 2, 1) := by decide +kernel
theorem d_M_assume_23 : decode c_M_assume 23 = .ok (.goto 4, 3) := by decide +kernel
theorem d_M_assume_26 : decode c_M_assume 26 = .ok (.iconst 0, 1) := by decide +kernel
theorem d_M_assume_27 : decode c_M_assume 27 = .ok (.putfield 17, 3) := by decide +kernel
theorem d_M_assume_30 : decode c_M_assume 30 = .ok (.aload_n 0, 1) := by decide +kernel
theorem d_M_assume_31 : decode c_M_assume 31 = .ok (.getfield 17, 3) := by decide +kernel
theorem d_M_assume_34 : decode c_M_assume 34 = .ok (.ifCond .eq 4, 3) := by decide +kernel
theorem d_M_assume_37 : decode c_M_assume 37 = .ok (.return_, 1) := by decide +kernel
theorem d_M_assume_38 : decode c_M_assume 38 = .ok (.iload_n 1, 1) := by decide +kernel
theorem d_M_assume_39 : decode c_M_assume 39 = .ok (.ifCond .le 20, 3) := by decide +kernel
theorem d_M_assume_42 : decode c_M_assume 42 = .ok (.aload_n 0, 1) := by decide +kernel
theorem d_M_assume_43 : decode c_M_assume 43 = .ok (.dup, 1) := by decide +kernel
theorem d_M_assume_44 : decode c_M_assume 44 = .ok (.getfield 46, 3) := by decide +kernel
theorem d_M_assume_47 : decode c_M_assume 47 = .ok (.iconst 1, 1) := by decide +kernel
theorem d_M_assume_48 : decode c_M_assume 48 = .ok (.iload_n 1, 1) := by decide +kernel
theorem d_M_assume_49 : decode c_M_assume 49 = .ok (.iconst 1, 1) := by decide +kernel
theorem d_M_assume_50 : decode c_M_assume 50 = .ok (.isub, 1) := by decide +kernel
theorem d_M_assume_51 : decode c_M_assume 51 = .ok (.ishl, 1) := by decide +kernel
theorem d_M_assume_52 : decode c_M_assume 52 = .ok (.ior, 1) := by decide +kernel
theorem d_M_assume_53 : decode c_M_assume 53 = .ok (.putfield 46, 3) := by decide +kernel
theorem d_M_assume_56 : decode c_M_assume 56 = .ok (.goto 18, 3) := by decide +kernel
theorem d_M_assume_59 : decode c_M_assume 59 = .ok (.aload_n 0, 1) := by decide +kernel
theorem d_M_assume_60 : decode c_M_assume 60 = .ok (.dup, 1) := by decide +kernel
theorem d_M_assume_61 : decode c_M_assume 61 = .ok (.getfield 49, 3) := by decide +kernel
theorem d_M_assume_64 : decode c_M_assume 64 = .ok (.iconst 1, 1) := by decide +kernel
theorem d_M_assume_65 : decode c_M_assume 65 = .ok (.iload_n 1, 1) := by decide +kernel
theorem d_M_assume_66 : decode c_M_assume 66 = .ok (.ineg, 1) := by decide +kernel
theorem d_M_assume_67 : decode c_M_assume 67 = .ok (.iconst 1, 1) := by decide +kernel
theorem d_M_assume_68 : decode c_M_assume 68 = .ok (.isub, 1) := by decide +kernel
theorem d_M_assume_69 : decode c_M_assume 69 = .ok (.ishl, 1) := by decide +kernel
theorem d_M_assume_70 : decode c_M_assume 70 = .ok (.ior, 1) := by decide +kernel
theorem d_M_assume_71 : decode c_M_assume 71 = .ok (.putfield 49, 3) := by decide +kernel
theorem d_M_assume_74 : decode c_M_assume 74 = .ok (.aload_n 0, 1) := by decide +kernel
theorem d_M_assume_75 : decode c_M_assume 75 = .ok (.dup, 1) := by decide +kernel
theorem d_M_assume_76 : decode c_M_assume 76 = .ok (.getfield 43, 3) := by decide +kernel
theorem d_M_assume_79 : decode c_M_assume 79 = .ok (.iconst 1, 1) := by decide +kernel
theorem d_M_assume_80 : decode c_M_assume 80 = .ok (.iadd, 1) := by decide +kernel
theorem d_M_assume_81 : decode c_M_assume 81 = .ok (.putfield 43, 3) := by decide +kernel
theorem d_M_assume_84 : decode c_M_assume 84 = .ok (.return_, 1) := by decide +kernel
theorem d_M_values_0 : decode c_M_values 0 = .ok (.iconst 0, 1) := by decide +kernel
theorem d_M_values_1 : decode c_M_values 1 = .ok (.istore_n 2, 1) := by decide +kernel
theorem d_M_values_2 : decode c_M_values 2 = .ok (.iconst 0, 1) := by decide +kernel
theorem d_M_values_3 : decode c_M_values 3 = .ok (.istore_n 3, 1) := by decide +kernel
theorem d_M_values_4 : decode c_M_values 4 = .ok (.iload_n 3, 1) := by decide +kernel
theorem d_M_values_5 : decode c_M_values 5 = .ok (.aload_n 0, 1) := by decide +kernel
theorem d_M_values_6 : decode c_M_values 6 = .ok (.getfield 20, 3) := by decide +kernel
theorem d_M_values_9 : decode c_M_values 9 = .ok (.if_icmp .ge 19, 3) := by decide +kernel
theorem d_M_values_12 : decode c_M_values 12 = .ok (.iload_n 2, 1) := by decide +kernel
theorem d_M_values_13 : decode c_M_values 13 = .ok (.iconst 1, 1) := by decide +kernel
theorem d_M_values_14 : decode c_M_values 14 = .ok (.ishl, 1) := by decide +kernel
theorem d_M_values_15 : decode c_M_values 15 = .ok (.iload_n 1, 1) := by decide +kernel
theorem d_M_values_16 : decode c_M_values 16 = .ok (.iload_n 3, 1) := by decide +kernel
theorem d_M_values_17 : decode c_M_values 17 = .ok (.ishr, 1) := by decide +kernel
theorem d_M_values_18 : decode c_M_values 18 = .ok (.iconst 1, 1) := by decide +kernel
theorem d_M_values_19 : decode c_M_values 19 = .ok (.iand, 1) := by decide +kernel
theorem d_M_values_20 : decode c_M_values 20 = .ok (.ior, 1) := by decide +kernel
theorem d_M_values_21 : decode c_M_values 21 = .ok (.istore_n 2, 1) := by decide +kernel
theorem d_M_values_22 : decode c_M_values 22 = .ok (.iinc 3 1, 3) := by decide +kernel
theorem d_M_values_25 : decode c_M_values 25 = .ok (.goto (-21), 3) := by decide +kernel
theorem d_M_values_28 : decode c_M_values 28 = .ok (.iload_n 2, 1) := by decide +kernel
theorem d_M_values_29 : decode c_M_values 29 = .ok (.ireturn, 1) := by decide +kernel
theorem d_M_isTrue_0 : decode c_M_isTrue 0 = .ok (.aload_n 0, 1) := by decide +kernel
theorem d_M_isTrue_1 : decode c_M_isTrue 1 = .ok (.iload_n 2, 1) := by decide +kernel
theorem d_M_isTrue_2 : decode c_M_isTrue 2 = .ok (.invokevirtual 52, 3) := by decide +kernel
theorem d_M_isTrue_5 : decode c_M_isTrue 5 = .ok (.iload_n 1, 1) := by decide +kernel
theorem d_M_isTrue_6 : decode c_M_isTrue 6 = .ok (.ifCond .ge 8, 3) := by decide +kernel
theorem d_M_isTrue_9 : decode c_M_isTrue 9 = .ok (.iload_n 1, 1) := by decide +kernel
theorem d_M_isTrue_10 : decode c_M_isTrue 10 = .ok (.ineg, 1) := by decide +kernel
theorem d_M_isTrue_11 : decode c_M_isTrue 11 = .ok (.goto 4, 3) := by decide +kernel
theorem d_M_isTrue_14 : decode c_M_isTrue 14 = .ok (.iload_n 1, 1) := by decide +kernel
theorem d_M_isTrue_15 : decode c_M_isTrue 15 = .ok (.iconst 1, 1) := by decide +kernel
theorem d_M_isTrue_16 : decode c_M_isTrue 16 = .ok (.isub, 1) := by decide +kernel
theorem d_M_isTrue_17 : decode c_M_isTrue 17 = .ok (.ishr, 1) := by decide +kernel
theorem d_M_isTrue_18 : decode c_M_isTrue 18 = .ok (.iconst 1, 1) := by decide +kernel
theorem d_M_isTrue_19 : decode c_M_isTrue 19 = .ok (.iand, 1) := by decide +kernel
theorem d_M_isTrue_20 : decode c_M_isTrue 20 = .ok (.ifCond .eq 7, 3) := by decide +kernel
theorem d_M_isTrue_23 : decode c_M_isTrue 23 = .ok (.iconst 1, 1) := by decide +kernel
theorem d_M_isTrue_24 : decode c_M_isTrue 24 = .ok (.goto 4, 3) := by decide +kernel
theorem d_M_isTrue_27 : decode c_M_isTrue 27 = .ok (.iconst 0, 1) := by decide +kernel
theorem d_M_isTrue_28 : decode c_M_isTrue 28 = .ok (.iload_n 1, 1) := by decide +kernel
theorem d_M_isTrue_29 : decode c_M_isTrue 29 = .ok (.ifCond .le 7, 3) := by decide +kernel
theorem d_M_isTrue_32 : decode c_M_isTrue 32 = .ok (.iconst 1, 1) := by decide +kernel
theorem d_M_isTrue_33 : decode c_M_isTrue 33 = .ok (.goto 4, 3) := by decide +kernel
theorem d_M_isTrue_36 : decode c_M_isTrue 36 = .ok (.iconst 0, 1) := by decide +kernel
theorem d_M_isTrue_37 : decode c_M_isTrue 37 = .ok (.if_icmp .ne 7, 3) := by decide +kernel
theorem d_M_isTrue_40 : decode c_M_isTrue 40 = .ok (.iconst 1, 1) := by decide +kernel
theorem d_M_isTrue_41 : decode c_M_isTrue 41 = .ok (.goto 4, 3) := by decide +kernel
theorem d_M_isTrue_44 : decode c_M_isTrue 44 = .ok (.iconst 0, 1) := by decide +kernel
theorem d_M_isTrue_45 : decode c_M_isTrue 45 = .ok (.ireturn, 1) := by decide +kernel
theorem d_M_isModel_0 : decode c_M_isModel 0 = .ok (.aload_n 0, 1) := by decide +kernel
theorem d_M_isModel_1 : decode c_M_isModel 1 = .ok (.iload_n 1, 1) := by decide +kernel
theorem d_M_isModel_2 : decode c_M_isModel 2 = .ok (.invokevirtual 52, 3) := by decide +kernel
theorem d_M_isModel_5 : decode c_M_isModel 5 = .ok (.istore_n 2, 1) := by decide +kernel
theorem d_M_isModel_6 : decode c_M_isModel 6 = .ok (.aload_n 0, 1) := by decide +kernel
theorem d_M_isModel_7 : decode c_M_isModel 7 = .ok (.getfield 13, 3) := by decide +kernel
theorem d_M_isModel_10 : decode c_M_isModel 10 = .ok (.iload_n 2, 1) := by decide +kernel
theorem d_M_isModel_11 : decode c_M_isModel 11 = .ok (.baload, 1) := by decide +kernel
theorem d_M_isModel_12 : decode c_M_isModel 12 = .ok (.ifCond .ne 29, 3) := by decide +kernel
theorem d_M_isModel_15 : decode c_M_isModel 15 = .ok (.iload_n 2, 1) := by decide +kernel
theorem d_M_isModel_16 : decode c_M_isModel 16 = .ok (.aload_n 0, 1) := by decide +kernel
theorem d_M_isModel_17 : decode c_M_isModel 17 = .ok (.getfield 46, 3) := by decide +kernel
theorem d_M_isModel_20 : decode c_M_isModel 20 = .ok (.iand, 1) := by decide +kernel
theorem d_M_isModel_21 : decode c_M_isModel 21 = .ok (.aload_n 0, 1) := by decide +kernel
theorem d_M_isModel_22 : decode c_M_isModel 22 = .ok (.getfield 46, 3) := by decide +kernel
theorem d_M_isModel_25 : decode c_M_isModel 25 = .ok (.if_icmp .ne 16, 3) := by decide +kernel
theorem d_M_isModel_28 : decode c_M_isModel 28 = .ok (.iload_n 2, 1) := by decide +kernel
theorem d_M_isModel_29 : decode c_M_isModel 29 = .ok (.aload_n 0, 1) := by decide +kernel
theorem d_M_isModel_30 : decode c_M_isModel 30 = .ok (.getfield 49, 3) := by decide +kernel
theorem d_M_isModel_33 : decode c_M_isModel 33 = .ok (.iand, 1) := by decide +kernel
theorem d_M_isModel_34 : decode c_M_isModel 34 = .ok (.ifCond .ne 7, 3) := by decide +kernel
theorem d_M_isModel_37 : decode c_M_isModel 37 = .ok (.iconst 1, 1) := by decide +kernel
theorem d_M_isModel_38 : decode c_M_isModel 38 = .ok (.goto 4, 3) := by decide +kernel
theorem d_M_isModel_41 : decode c_M_isModel 41 = .ok (.iconst 0, 1) := by decide +kernel
theorem d_M_isModel_42 : decode c_M_isModel 42 = .ok (.ireturn, 1) := by decide +kernel
theorem d_M_forget_0 : decode c_M_forget 0 = .ok (.aload_n 0, 1) := by decide +kernel
theorem d_M_forget_1 : decode c_M_forget 1 = .ok (.iconst 0, 1) := by decide +kernel
theorem d_M_forget_2 : decode c_M_forget 2 = .ok (.putfield 43, 3) := by decide +kernel
theorem d_M_forget_5 : decode c_M_forget 5 = .ok (.aload_n 0, 1) := by decide +kernel
theorem d_M_forget_6 : decode c_M_forget 6 = .ok (.iconst 0, 1) := by decide +kernel
theorem d_M_forget_7 : decode c_M_forget 7 = .ok (.putfield 46, 3) := by decide +kernel
theorem d_M_forget_10 : decode c_M_forget 10 = .ok (.aload_n 0, 1) := by decide +kernel
theorem d_M_forget_11 : decode c_M_forget 11 = .ok (.iconst 0, 1) := by decide +kernel
theorem d_M_forget_12 : decode c_M_forget 12 = .ok (.putfield 49, 3) := by decide +kernel
theorem d_M_forget_15 : decode c_M_forget 15 = .ok (.return_, 1) := by decide +kernel
theorem d_M_solve_0 : decode c_M_solve 0 = .ok (.aload_n 0, 1) := by decide +kernel
theorem d_M_solve_1 : decode c_M_solve 1 = .ok (.iconst 0, 1) := by decide +kernel
theorem d_M_solve_2 : decode c_M_solve 2 = .ok (.putfield 17, 3) := by decide +kernel
theorem d_M_solve_5 : decode c_M_solve 5 = .ok (.aload_n 0, 1) := by decide +kernel
theorem d_M_solve_6 : decode c_M_solve 6 = .ok (.iconst (-1), 1) := by decide +kernel
theorem d_M_solve_7 : decode c_M_solve 7 = .ok (.putfield 7, 3) := by decide +kernel
theorem d_M_solve_10 : decode c_M_solve 10 = .ok (.aload_n 0, 1) := by decide +kernel
theorem d_M_solve_11 : decode c_M_solve 11 = .ok (.aload_n 0, 1) := by decide +kernel
theorem d_M_solve_12 : decode c_M_solve 12 = .ok (.getfield 20, 3) := by decide +kernel
theorem d_M_solve_15 : decode c_M_solve 15 = .ok (.putfield 55, 3) := by decide +kernel
theorem d_M_solve_18 : decode c_M_solve 18 = .ok (.iconst 0, 1) := by decide +kernel
theorem d_M_solve_19 : decode c_M_solve 19 = .ok (.istore_n 1, 1) := by decide +kernel
theorem d_M_solve_20 : decode c_M_solve 20 = .ok (.iload_n 1, 1) := by decide +kernel
theorem d_M_solve_21 : decode c_M_solve 21 = .ok (.iconst 1, 1) := by decide +kernel
theorem d_M_solve_22 : decode c_M_solve 22 = .ok (.aload_n 0, 1) := by decide +kernel
theorem d_M_solve_23 : decode c_M_solve 23 = .ok (.getfield 20, 3) := by decide +kernel
theorem d_M_solve_26 : decode c_M_solve 26 = .ok (.ishl, 1) := by decide +kernel
theorem d_M_solve_27 : decode c_M_solve 27 = .ok (.if_icmp .ge 29, 3) := by decide +kernel
theorem d_M_solve_30 : decode c_M_solve 30 = .ok (.aload_n 0, 1) := by decide +kernel
theorem d_M_solve_31 : decode c_M_solve 31 = .ok (.getfield 7, 3) := by decide +kernel
theorem d_M_solve_34 : decode c_M_solve 34 = .ok (.ifCond .ge 22, 3) := by decide +kernel
theorem d_M_solve_37 : decode c_M_solve 37 = .ok (.aload_n 0, 1) := by decide +kernel
theorem d_M_solve_38 : decode c_M_solve 38 = .ok (.iload_n 1, 1) := by decide +kernel
theorem d_M_solve_39 : decode c_M_solve 39 = .ok (.invokevirtual 58, 3) := by decide +kernel
theorem d_M_solve_42 : decode c_M_solve 42 = .ok (.ifCond .eq 8, 3) := by decide +kernel
theorem d_M_solve_45 : decode c_M_solve 45 = .ok (.aload_n 0, 1) := by decide +kernel
theorem d_M_solve_46 : decode c_M_solve 46 = .ok (.iload_n 1, 1) := by decide +kernel
theorem d_M_solve_47 : decode c_M_solve 47 = .ok (.putfield 7, 3) := by decide +kernel
theorem d_M_solve_50 : decode c_M_solve 50 = .ok (.iinc 1 1, 3) := by decide +kernel
theorem d_M_solve_53 : decode c_M_solve 53 = .ok (.goto (-33), 3) := by decide +kernel
theorem d_M_solve_56 : decode c_M_solve 56 = .ok (.aload_n 0, 1) := by decide +kernel
theorem d_M_solve_57 : decode c_M_solve 57 = .ok (.invokevirtual 61, 3) := by decide +kernel
theorem d_M_solve_60 : decode c_M_solve 60 = .ok (.aload_n 0, 1) := by decide +kernel
theorem d_M_solve_61 : decode c_M_solve 61 = .ok (.getfield 7, 3) := by decide +kernel
theorem d_M_solve_64 : decode c_M_solve 64 = .ok (.ifCond .lt 7, 3) := by decide +kernel
theorem d_M_solve_67 : decode c_M_solve 67 = .ok (.iconst 1, 1) := by decide +kernel
theorem d_M_solve_68 : decode c_M_solve 68 = .ok (.goto 4, 3) := by decide +kernel
theorem d_M_solve_71 : decode c_M_solve 71 = .ok (.iconst 0, 1) := by decide +kernel
theorem d_M_solve_72 : decode c_M_solve 72 = .ok (.ireturn, 1) := by decide +kernel
theorem d_M_follows_0 : decode c_M_follows 0 = .ok (.aload_n 0, 1) := by decide +kernel
theorem d_M_follows_1 : decode c_M_follows 1 = .ok (.iload_n 1, 1) := by decide +kernel
theorem d_M_follows_2 : decode c_M_follows 2 = .ok (.invokevirtual 27, 3) := by decide +kernel
theorem d_M_follows_5 : decode c_M_follows 5 = .ok (.ifCond .ne 10, 3) := by decide +kernel
theorem d_M_follows_8 : decode c_M_follows 8 = .ok (.aload_n 0, 1) := by decide +kernel
theorem d_M_follows_9 : decode c_M_follows 9 = .ok (.iconst 1, 1) := by decide +kernel
theorem d_M_follows_10 : decode c_M_follows 10 = .ok (.putfield 17, 3) := by decide +kernel
theorem d_M_follows_13 : decode c_M_follows 13 = .ok (.iconst 0, 1) := by decide +kernel
theorem d_M_follows_14 : decode c_M_follows 14 = .ok (.ireturn, 1) := by decide +kernel
theorem d_M_follows_15 : decode c_M_follows 15 = .ok (.aload_n 0, 1) := by decide +kernel
theorem d_M_follows_16 : decode c_M_follows 16 = .ok (.iconst 0, 1) := by decide +kernel
theorem d_M_follows_17 : decode c_M_follows 17 = .ok (.putfield 17, 3) := by decide +kernel
theorem d_M_follows_20 : decode c_M_follows 20 = .ok (.iconst 1, 1) := by decide +kernel
theorem d_M_follows_21 : decode c_M_follows 21 = .ok (.istore_n 2, 1) := by decide +kernel
theorem d_M_follows_22 : decode c_M_follows 22 = .ok (.iconst 0, 1) := by decide +kernel
theorem d_M_follows_23 : decode c_M_follows 23 = .ok (.istore_n 3, 1) := by decide +kernel
theorem d_M_follows_24 : decode c_M_follows 24 = .ok (.iload_n 3, 1) := by decide +kernel
theorem d_M_follows_25 : decode c_M_follows 25 = .ok (.iconst 1, 1) := by decide +kernel
theorem d_M_follows_26 : decode c_M_follows 26 = .ok (.aload_n 0, 1) := by decide +kernel
theorem d_M_follows_27 : decode c_M_follows 27 = .ok (.getfield 20, 3) := by decide +kernel
theorem d_M_follows_30 : decode c_M_follows 30 = .ok (.ishl, 1) := by decide +kernel
theorem d_M_follows_31 : decode c_M_follows 31 = .ok (.if_icmp .ge 28, 3) := by decide +kernel
theorem d_M_follows_34 : decode c_M_follows 34 = .ok (.aload_n 0, 1) := by decide +kernel
theorem d_M_follows_35 : decode c_M_follows 35 = .ok (.iload_n 3, 1) := by decide +kernel
theorem d_M_follows_36 : decode c_M_follows 36 = .ok (.invokevirtual 58, 3) := by decide +kernel
theorem d_M_follows_39 : decode c_M_follows 39 = .ok (.ifCond .eq 14, 3) := by decide +kernel
theorem d_M_follows_42 : decode c_M_follows 42 = .ok (.aload_n 0, 1) := by decide +kernel
theorem d_M_follows_43 : decode c_M_follows 43 = .ok (.iload_n 1, 1) := by decide +kernel
theorem d_M_follows_44 : decode c_M_follows 44 = .ok (.iload_n 3, 1) := by decide +kernel
theorem d_M_follows_45 : decode c_M_follows 45 = .ok (.invokevirtual 64, 3) := by decide +kernel
theorem d_M_follows_48 : decode c_M_follows 48 = .ok (.ifCond .ne 5, 3) := by decide +kernel
theorem d_M_follows_51 : decode c_M_follows 51 = .ok (.iconst 0, 1) := by decide +kernel
theorem d_M_follows_52 : decode c_M_follows 52 = .ok (.istore_n 2, 1) := by decide +kernel
theorem d_M_follows_53 : decode c_M_follows 53 = .ok (.iinc 3 1, 3) := by decide +kernel
theorem d_M_follows_56 : decode c_M_follows 56 = .ok (.goto (-32), 3) := by decide +kernel
theorem d_M_follows_59 : decode c_M_follows 59 = .ok (.aload_n 0, 1) := by decide +kernel
theorem d_M_follows_60 : decode c_M_follows 60 = .ok (.invokevirtual 61, 3) := by decide +kernel
theorem d_M_follows_63 : decode c_M_follows 63 = .ok (.aload_n 0, 1) := by decide +kernel
theorem d_M_follows_64 : decode c_M_follows 64 = .ok (.iconst (-1), 1) := by decide +kernel
theorem d_M_follows_65 : decode c_M_follows 65 = .ok (.putfield 7, 3) := by decide +kernel
theorem d_M_follows_68 : decode c_M_follows 68 = .ok (.iload_n 2, 1) := by decide +kernel
theorem d_M_follows_69 : decode c_M_follows 69 = .ok (.ireturn, 1) := by decide +kernel
theorem d_M_models_0 : decode c_M_models 0 = .ok (.aload_n 0, 1) := by decide +kernel
theorem d_M_models_1 : decode c_M_models 1 = .ok (.iconst 0, 1) := by decide +kernel
theorem d_M_models_2 : decode c_M_models 2 = .ok (.putfield 17, 3) := by decide +kernel
theorem d_M_models_5 : decode c_M_models 5 = .ok (.iconst 0, 1) := by decide +kernel
theorem d_M_models_6 : decode c_M_models 6 = .ok (.istore_n 1, 1) := by decide +kernel
theorem d_M_models_7 : decode c_M_models 7 = .ok (.iconst 0, 1) := by decide +kernel
theorem d_M_models_8 : decode c_M_models 8 = .ok (.istore_n 2, 1) := by decide +kernel
theorem d_M_models_9 : decode c_M_models 9 = .ok (.iload_n 2, 1) := by decide +kernel
theorem d_M_models_10 : decode c_M_models 10 = .ok (.iconst 1, 1) := by decide +kernel
theorem d_M_models_11 : decode c_M_models 11 = .ok (.aload_n 0, 1) := by decide +kernel
theorem d_M_models_12 : decode c_M_models 12 = .ok (.getfield 20, 3) := by decide +kernel
theorem d_M_models_15 : decode c_M_models 15 = .ok (.ishl, 1) := by decide +kernel
theorem d_M_models_16 : decode c_M_models 16 = .ok (.if_icmp .ge 26, 3) := by decide +kernel
theorem d_M_models_19 : decode c_M_models 19 = .ok (.iload_n 1, 1) := by decide +kernel
theorem d_M_models_20 : decode c_M_models 20 = .ok (.bipush 40, 2) := by decide +kernel
theorem d_M_models_22 : decode c_M_models 22 = .ok (.if_icmp .ge 20, 3) := by decide +kernel
theorem d_M_models_25 : decode c_M_models 25 = .ok (.aload_n 0, 1) := by decide +kernel
theorem d_M_models_26 : decode c_M_models 26 = .ok (.iload_n 2, 1) := by decide +kernel
theorem d_M_models_27 : decode c_M_models 27 = .ok (.invokevirtual 58, 3) := by decide +kernel
theorem d_M_models_30 : decode c_M_models 30 = .ok (.ifCond .eq 6, 3) := by decide +kernel
theorem d_M_models_33 : decode c_M_models 33 = .ok (.iinc 1 1, 3) := by decide +kernel
theorem d_M_models_36 : decode c_M_models 36 = .ok (.iinc 2 1, 3) := by decide +kernel
theorem d_M_models_39 : decode c_M_models 39 = .ok (.goto (-30), 3) := by decide +kernel
theorem d_M_models_42 : decode c_M_models 42 = .ok (.aload_n 0, 1) := by decide +kernel
theorem d_M_models_43 : decode c_M_models 43 = .ok (.invokevirtual 61, 3) := by decide +kernel
theorem d_M_models_46 : decode c_M_models 46 = .ok (.aload_n 0, 1) := by decide +kernel
theorem d_M_models_47 : decode c_M_models 47 = .ok (.iconst (-1), 1) := by decide +kernel
theorem d_M_models_48 : decode c_M_models 48 = .ok (.putfield 7, 3) := by decide +kernel
theorem d_M_models_51 : decode c_M_models 51 = .ok (.iload_n 1, 1) := by decide +kernel
theorem d_M_models_52 : decode c_M_models 52 = .ok (.ireturn, 1) := by decide +kernel
theorem d_M_value_0 : decode c_M_value 0 = .ok (.aload_n 0, 1) := by decide +kernel
theorem d_M_value_1 : decode c_M_value 1 = .ok (.iload_n 1, 1) := by decide +kernel
theorem d_M_value_2 : decode c_M_value 2 = .ok (.iconst 1, 1) := by decide +kernel
theorem d_M_value_3 : decode c_M_value 3 = .ok (.if_icmp .lt 11, 3) := by decide +kernel
theorem d_M_value_6 : decode c_M_value 6 = .ok (.iload_n 1, 1) := by decide +kernel
theorem d_M_value_7 : decode c_M_value 7 = .ok (.aload_n 0, 1) := by decide +kernel
theorem d_M_value_8 : decode c_M_value 8 = .ok (.getfield 20, 3) := by decide +kernel
theorem d_M_value_11 : decode c_M_value 11 = .ok (.if_icmp .le 7, 3) := by decide +kernel
theorem d_M_value_14 : decode c_M_value 14 = .ok (.iconst 1, 1) := by decide +kernel
theorem d_M_value_15 : decode c_M_value 15 = .ok (.goto 15, 3) := by decide +kernel
theorem d_M_value_18 : decode c_M_value 18 = .ok (.aload_n 0, 1) := by decide +kernel
theorem d_M_value_19 : decode c_M_value 19 = .ok (.getfield 7, 3) := by decide +kernel
theorem d_M_value_22 : decode c_M_value 22 = .ok (.ifCond .ge 7, 3) := by decide +kernel
theorem d_M_value_25 : decode c_M_value 25 = .ok (.iconst 2, 1) := by decide +kernel
theorem d_M_value_26 : decode c_M_value 26 = .ok (.goto 4, 3) := by decide +kernel
theorem d_M_value_29 : decode c_M_value 29 = .ok (.iconst 0, 1) := by decide +kernel
theorem d_M_value_30 : decode c_M_value 30 = .ok (.putfield 17, 3) := by decide +kernel
theorem d_M_value_33 : decode c_M_value 33 = .ok (.aload_n 0, 1) := by decide +kernel
theorem d_M_value_34 : decode c_M_value 34 = .ok (.getfield 17, 3) := by decide +kernel
theorem d_M_value_37 : decode c_M_value 37 = .ok (.ifCond .ne 31, 3) := by decide +kernel
theorem d_M_value_40 : decode c_M_value 40 = .ok (.iload_n 1, 1) := by decide +kernel
theorem d_M_value_41 : decode c_M_value 41 = .ok (.aload_n 0, 1) := by decide +kernel
theorem d_M_value_42 : decode c_M_value 42 = .ok (.getfield 55, 3) := by decide +kernel
theorem d_M_value_45 : decode c_M_value 45 = .ok (.if_icmp .gt 23, 3) := by decide +kernel
theorem d_M_value_48 : decode c_M_value 48 = .ok (.aload_n 0, 1) := by decide +kernel
theorem d_M_value_49 : decode c_M_value 49 = .ok (.getfield 7, 3) := by decide +kernel
theorem d_M_value_52 : decode c_M_value 52 = .ok (.aload_n 0, 1) := by decide +kernel
theorem d_M_value_53 : decode c_M_value 53 = .ok (.getfield 55, 3) := by decide +kernel
theorem d_M_value_56 : decode c_M_value 56 = .ok (.iload_n 1, 1) := by decide +kernel
theorem d_M_value_57 : decode c_M_value 57 = .ok (.isub, 1) := by decide +kernel
theorem d_M_value_58 : decode c_M_value 58 = .ok (.ishr, 1) := by decide +kernel
theorem d_M_value_59 : decode c_M_value 59 = .ok (.iconst 1, 1) := by decide +kernel
theorem d_M_value_60 : decode c_M_value 60 = .ok (.iand, 1) := by decide +kernel
theorem d_M_value_61 : decode c_M_value 61 = .ok (.ifCond .eq 7, 3) := by decide +kernel
theorem d_M_value_64 : decode c_M_value 64 = .ok (.iconst 1, 1) := by decide +kernel
theorem d_M_value_65 : decode c_M_value 65 = .ok (.goto 4, 3) := by decide +kernel
theorem d_M_value_68 : decode c_M_value 68 = .ok (.iconst 0, 1) := by decide +kernel
theorem d_M_value_69 : decode c_M_value 69 = .ok (.ireturn, 1) := by decide +kernel
theorem d_M_count_0 : decode c_M_count 0 = .ok (.aload_n 0, 1) := by decide +kernel
theorem d_M_count_1 : decode c_M_count 1 = .ok (.iconst 0, 1) := by decide +kernel
theorem d_M_count_2 : decode c_M_count 2 = .ok (.putfield 17, 3) := by decide +kernel
theorem d_M_count_5 : decode c_M_count 5 = .ok (.iload_n 1, 1) := by decide +kernel
theorem d_M_count_6 : decode c_M_count 6 = .ok (.tableswitch 73 0 5 #[38, 43, 48, 53, 58, 71], 38) := by decide +kernel
theorem d_M_count_44 : decode c_M_count 44 = .ok (.aload_n 0, 1) := by decide +kernel
theorem d_M_count_45 : decode c_M_count 45 = .ok (.getfield 20, 3) := by decide +kernel
theorem d_M_count_48 : decode c_M_count 48 = .ok (.ireturn, 1) := by decide +kernel
theorem d_M_count_49 : decode c_M_count 49 = .ok (.aload_n 0, 1) := by decide +kernel
theorem d_M_count_50 : decode c_M_count 50 = .ok (.getfield 40, 3) := by decide +kernel
theorem d_M_count_53 : decode c_M_count 53 = .ok (.ireturn, 1) := by decide +kernel
theorem d_M_count_54 : decode c_M_count 54 = .ok (.aload_n 0, 1) := by decide +kernel
theorem d_M_count_55 : decode c_M_count 55 = .ok (.getfield 31, 3) := by decide +kernel
theorem d_M_count_58 : decode c_M_count 58 = .ok (.ireturn, 1) := by decide +kernel
theorem d_M_count_59 : decode c_M_count 59 = .ok (.aload_n 0, 1) := by decide +kernel
theorem d_M_count_60 : decode c_M_count 60 = .ok (.getfield 43, 3) := by decide +kernel
theorem d_M_count_63 : decode c_M_count 63 = .ok (.ireturn, 1) := by decide +kernel
theorem d_M_count_64 : decode c_M_count 64 = .ok (.aload_n 0, 1) := by decide +kernel
theorem d_M_count_65 : decode c_M_count 65 = .ok (.getfield 7, 3) := by decide +kernel
theorem d_M_count_68 : decode c_M_count 68 = .ok (.ifCond .lt 7, 3) := by decide +kernel
theorem d_M_count_71 : decode c_M_count 71 = .ok (.iconst 1, 1) := by decide +kernel
theorem d_M_count_72 : decode c_M_count 72 = .ok (.goto 4, 3) := by decide +kernel
theorem d_M_count_75 : decode c_M_count 75 = .ok (.iconst 0, 1) := by decide +kernel
theorem d_M_count_76 : decode c_M_count 76 = .ok (.ireturn, 1) := by decide +kernel
theorem d_M_count_77 : decode c_M_count 77 = .ok (.iconst 0, 1) := by decide +kernel
theorem d_M_count_78 : decode c_M_count 78 = .ok (.ireturn, 1) := by decide +kernel
theorem d_M_count_79 : decode c_M_count 79 = .ok (.iconst (-1), 1) := by decide +kernel
theorem d_M_count_80 : decode c_M_count 80 = .ok (.ireturn, 1) := by decide +kernel
