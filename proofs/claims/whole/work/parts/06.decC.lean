/-! decode rows, by program -/
theorem d_C_init_0 : decode c_C_init 0 = .ok (.aload_n 0, 1) := by decide +kernel
theorem d_C_init_1 : decode c_C_init 1 = .ok (.invokespecial 1, 3) := by decide +kernel
theorem d_C_init_4 : decode c_C_init 4 = .ok (.aload_n 0, 1) := by decide +kernel
theorem d_C_init_5 : decode c_C_init 5 = .ok (.new 7, 3) := by decide +kernel
theorem d_C_init_8 : decode c_C_init 8 = .ok (.dup, 1) := by decide +kernel
theorem d_C_init_9 : decode c_C_init 9 = .ok (.invokespecial 9, 3) := by decide +kernel
theorem d_C_init_12 : decode c_C_init 12 = .ok (.putfield 10, 3) := by decide +kernel
theorem d_C_init_15 : decode c_C_init 15 = .ok (.aload_n 0, 1) := by decide +kernel
theorem d_C_init_16 : decode c_C_init 16 = .ok (.new 16, 3) := by decide +kernel
theorem d_C_init_19 : decode c_C_init 19 = .ok (.dup, 1) := by decide +kernel
theorem d_C_init_20 : decode c_C_init 20 = .ok (.invokespecial 18, 3) := by decide +kernel
theorem d_C_init_23 : decode c_C_init 23 = .ok (.putfield 19, 3) := by decide +kernel
theorem d_C_init_26 : decode c_C_init 26 = .ok (.aload_n 0, 1) := by decide +kernel
theorem d_C_init_27 : decode c_C_init 27 = .ok (.new 23, 3) := by decide +kernel
theorem d_C_init_30 : decode c_C_init 30 = .ok (.dup, 1) := by decide +kernel
theorem d_C_init_31 : decode c_C_init 31 = .ok (.invokespecial 25, 3) := by decide +kernel
theorem d_C_init_34 : decode c_C_init 34 = .ok (.putfield 26, 3) := by decide +kernel
theorem d_C_init_37 : decode c_C_init 37 = .ok (.aload_n 0, 1) := by decide +kernel
theorem d_C_init_38 : decode c_C_init 38 = .ok (.bipush 10, 2) := by decide +kernel
theorem d_C_init_40 : decode c_C_init 40 = .ok (.newarray .int, 2) := by decide +kernel
theorem d_C_init_42 : decode c_C_init 42 = .ok (.putfield 30, 3) := by decide +kernel
theorem d_C_init_45 : decode c_C_init 45 = .ok (.return_, 1) := by decide +kernel
theorem d_C_variable_0 : decode c_C_variable 0 = .ok (.aload_n 0, 1) := by decide +kernel
theorem d_C_variable_1 : decode c_C_variable 1 = .ok (.getfield 34, 3) := by decide +kernel
theorem d_C_variable_4 : decode c_C_variable 4 = .ok (.bipush 10, 2) := by decide +kernel
theorem d_C_variable_6 : decode c_C_variable 6 = .ok (.if_icmp .lt 13, 3) := by decide +kernel
theorem d_C_variable_9 : decode c_C_variable 9 = .ok (.new 38, 3) := by decide +kernel
theorem d_C_variable_12 : decode c_C_variable 12 = .ok (.dup, 1) := by decide +kernel
theorem d_C_variable_13 : decode c_C_variable 13 = .ok (.ldc 40, 2) := by decide +kernel
theorem d_C_variable_15 : decode c_C_variable 15 = .ok (.invokespecial 42, 3) := by decide +kernel
theorem d_C_variable_18 : decode c_C_variable 18 = .ok (.athrow, 1) := by decide +kernel
theorem d_C_variable_19 : decode c_C_variable 19 = .ok (.aload_n 0, 1) := by decide +kernel
theorem d_C_variable_20 : decode c_C_variable 20 = .ok (.dup, 1) := by decide +kernel
theorem d_C_variable_21 : decode c_C_variable 21 = .ok (.getfield 34, 3) := by decide +kernel
theorem d_C_variable_24 : decode c_C_variable 24 = .ok (.iconst 1, 1) := by decide +kernel
theorem d_C_variable_25 : decode c_C_variable 25 = .ok (.iadd, 1) := by decide +kernel
theorem d_C_variable_26 : decode c_C_variable 26 = .ok (.putfield 34, 3) := by decide +kernel
theorem d_C_variable_29 : decode c_C_variable 29 = .ok (.aload_n 0, 1) := by decide +kernel
theorem d_C_variable_30 : decode c_C_variable 30 = .ok (.getfield 34, 3) := by decide +kernel
theorem d_C_variable_33 : decode c_C_variable 33 = .ok (.ireturn, 1) := by decide +kernel
theorem d_C_literal_0 : decode c_C_literal 0 = .ok (.aload_n 0, 1) := by decide +kernel
theorem d_C_literal_1 : decode c_C_literal 1 = .ok (.iload_n 1, 1) := by decide +kernel
theorem d_C_literal_2 : decode c_C_literal 2 = .ok (.invokevirtual 45, 3) := by decide +kernel
theorem d_C_literal_5 : decode c_C_literal 5 = .ok (.aload_n 0, 1) := by decide +kernel
theorem d_C_literal_6 : decode c_C_literal 6 = .ok (.getfield 49, 3) := by decide +kernel
theorem d_C_literal_9 : decode c_C_literal 9 = .ok (.bipush 12, 2) := by decide +kernel
theorem d_C_literal_11 : decode c_C_literal 11 = .ok (.if_icmp .lt 13, 3) := by decide +kernel
theorem d_C_literal_14 : decode c_C_literal 14 = .ok (.new 38, 3) := by decide +kernel
theorem d_C_literal_17 : decode c_C_literal 17 = .ok (.dup, 1) := by decide +kernel
theorem d_C_literal_18 : decode c_C_literal 18 = .ok (.ldc 52, 2) := by decide +kernel
theorem d_C_literal_20 : decode c_C_literal 20 = .ok (.invokespecial 42, 3) := by decide +kernel
theorem d_C_literal_23 : decode c_C_literal 23 = .ok (.athrow, 1) := by decide +kernel
theorem d_C_literal_24 : decode c_C_literal 24 = .ok (.aload_n 0, 1) := by decide +kernel
theorem d_C_literal_25 : decode c_C_literal 25 = .ok (.dup, 1) := by decide +kernel
theorem d_C_literal_26 : decode c_C_literal 26 = .ok (.getfield 54, 3) := by decide +kernel
theorem d_C_literal_29 : decode c_C_literal 29 = .ok (.iload_n 1, 1) := by decide +kernel
theorem d_C_literal_30 : decode c_C_literal 30 = .ok (.invokestatic 57, 3) := by decide +kernel
theorem d_C_literal_33 : decode c_C_literal 33 = .ok (.ior, 1) := by decide +kernel
theorem d_C_literal_34 : decode c_C_literal 34 = .ok (.putfield 54, 3) := by decide +kernel
theorem d_C_literal_37 : decode c_C_literal 37 = .ok (.aload_n 0, 1) := by decide +kernel
theorem d_C_literal_38 : decode c_C_literal 38 = .ok (.dup, 1) := by decide +kernel
theorem d_C_literal_39 : decode c_C_literal 39 = .ok (.getfield 49, 3) := by decide +kernel
theorem d_C_literal_42 : decode c_C_literal 42 = .ok (.iconst 1, 1) := by decide +kernel
theorem d_C_literal_43 : decode c_C_literal 43 = .ok (.iadd, 1) := by decide +kernel
theorem d_C_literal_44 : decode c_C_literal 44 = .ok (.putfield 49, 3) := by decide +kernel
theorem d_C_literal_47 : decode c_C_literal 47 = .ok (.return_, 1) := by decide +kernel
theorem d_C_close_0 : decode c_C_close 0 = .ok (.aload_n 0, 1) := by decide +kernel
theorem d_C_close_1 : decode c_C_close 1 = .ok (.getfield 63, 3) := by decide +kernel
theorem d_C_close_4 : decode c_C_close 4 = .ok (.sipush 500, 3) := by decide +kernel
theorem d_C_close_7 : decode c_C_close 7 = .ok (.if_icmp .lt 13, 3) := by decide +kernel
theorem d_C_close_10 : decode c_C_close 10 = .ok (.new 38, 3) := by decide +kernel
theorem d_C_close_13 : decode c_C_close 13 = .ok (.dup, 1) := by decide +kernel
theorem d_C_close_14 : decode c_C_close 14 = .ok (.ldc 66, 2) := by decide +kernel
theorem d_C_close_16 : decode c_C_close 16 = .ok (.invokespecial 42, 3) := by decide +kernel
theorem d_C_close_19 : decode c_C_close 19 = .ok (.athrow, 1) := by decide +kernel
theorem d_C_close_20 : decode c_C_close 20 = .ok (.aload_n 0, 1) := by decide +kernel
theorem d_C_close_21 : decode c_C_close 21 = .ok (.getfield 10, 3) := by decide +kernel
theorem d_C_close_24 : decode c_C_close 24 = .ok (.aload_n 0, 1) := by decide +kernel
theorem d_C_close_25 : decode c_C_close 25 = .ok (.getfield 54, 3) := by decide +kernel
theorem d_C_close_28 : decode c_C_close 28 = .ok (.invokevirtual 68, 3) := by decide +kernel
theorem d_C_close_31 : decode c_C_close 31 = .ok (.aload_n 0, 1) := by decide +kernel
theorem d_C_close_32 : decode c_C_close 32 = .ok (.iconst 0, 1) := by decide +kernel
theorem d_C_close_33 : decode c_C_close 33 = .ok (.putfield 54, 3) := by decide +kernel
theorem d_C_close_36 : decode c_C_close 36 = .ok (.aload_n 0, 1) := by decide +kernel
theorem d_C_close_37 : decode c_C_close 37 = .ok (.iconst 0, 1) := by decide +kernel
theorem d_C_close_38 : decode c_C_close 38 = .ok (.putfield 49, 3) := by decide +kernel
theorem d_C_close_41 : decode c_C_close 41 = .ok (.aload_n 0, 1) := by decide +kernel
theorem d_C_close_42 : decode c_C_close 42 = .ok (.dup, 1) := by decide +kernel
theorem d_C_close_43 : decode c_C_close 43 = .ok (.getfield 63, 3) := by decide +kernel
theorem d_C_close_46 : decode c_C_close 46 = .ok (.iconst 1, 1) := by decide +kernel
theorem d_C_close_47 : decode c_C_close 47 = .ok (.iadd, 1) := by decide +kernel
theorem d_C_close_48 : decode c_C_close 48 = .ok (.putfield 63, 3) := by decide +kernel
theorem d_C_close_51 : decode c_C_close 51 = .ok (.aload_n 0, 1) := by decide +kernel
theorem d_C_close_52 : decode c_C_close 52 = .ok (.getfield 63, 3) := by decide +kernel
theorem d_C_close_55 : decode c_C_close 55 = .ok (.iconst 1, 1) := by decide +kernel
theorem d_C_close_56 : decode c_C_close 56 = .ok (.isub, 1) := by decide +kernel
theorem d_C_close_57 : decode c_C_close 57 = .ok (.ireturn, 1) := by decide +kernel
theorem d_C_assume_0 : decode c_C_assume 0 = .ok (.aload_n 0, 1) := by decide +kernel
theorem d_C_assume_1 : decode c_C_assume 1 = .ok (.iload_n 1, 1) := by decide +kernel
theorem d_C_assume_2 : decode c_C_assume 2 = .ok (.invokevirtual 45, 3) := by decide +kernel
theorem d_C_assume_5 : decode c_C_assume 5 = .ok (.aload_n 0, 1) := by decide +kernel
theorem d_C_assume_6 : decode c_C_assume 6 = .ok (.getfield 71, 3) := by decide +kernel
theorem d_C_assume_9 : decode c_C_assume 9 = .ok (.bipush 10, 2) := by decide +kernel
theorem d_C_assume_11 : decode c_C_assume 11 = .ok (.if_icmp .lt 13, 3) := by decide +kernel
theorem d_C_assume_14 : decode c_C_assume 14 = .ok (.new 38, 3) := by decide +kernel
theorem d_C_assume_17 : decode c_C_assume 17 = .ok (.dup, 1) := by decide +kernel
theorem d_C_assume_18 : decode c_C_assume 18 = .ok (.ldc 74, 2) := by decide +kernel
theorem d_C_assume_20 : decode c_C_assume 20 = .ok (.invokespecial 42, 3) := by decide +kernel
theorem d_C_assume_23 : decode c_C_assume 23 = .ok (.athrow, 1) := by decide +kernel
theorem d_C_assume_24 : decode c_C_assume 24 = .ok (.aload_n 0, 1) := by decide +kernel
theorem d_C_assume_25 : decode c_C_assume 25 = .ok (.getfield 30, 3) := by decide +kernel
theorem d_C_assume_28 : decode c_C_assume 28 = .ok (.aload_n 0, 1) := by decide +kernel
theorem d_C_assume_29 : decode c_C_assume 29 = .ok (.getfield 71, 3) := by decide +kernel
theorem d_C_assume_32 : decode c_C_assume 32 = .ok (.iload_n 1, 1) := by decide +kernel
theorem d_C_assume_33 : decode c_C_assume 33 = .ok (.invokestatic 57, 3) := by decide +kernel
theorem d_C_assume_36 : decode c_C_assume 36 = .ok (.iastore, 1) := by decide +kernel
theorem d_C_assume_37 : decode c_C_assume 37 = .ok (.aload_n 0, 1) := by decide +kernel
theorem d_C_assume_38 : decode c_C_assume 38 = .ok (.dup, 1) := by decide +kernel
theorem d_C_assume_39 : decode c_C_assume 39 = .ok (.getfield 71, 3) := by decide +kernel
theorem d_C_assume_42 : decode c_C_assume 42 = .ok (.iconst 1, 1) := by decide +kernel
theorem d_C_assume_43 : decode c_C_assume 43 = .ok (.iadd, 1) := by decide +kernel
theorem d_C_assume_44 : decode c_C_assume 44 = .ok (.putfield 71, 3) := by decide +kernel
theorem d_C_assume_47 : decode c_C_assume 47 = .ok (.return_, 1) := by decide +kernel
theorem d_C_solve_0 : decode c_C_solve 0 = .ok (.aload_n 0, 1) := by decide +kernel
theorem d_C_solve_1 : decode c_C_solve 1 = .ok (.invokevirtual 76, 3) := by decide +kernel
theorem d_C_solve_4 : decode c_C_solve 4 = .ok (.aload_n 0, 1) := by decide +kernel
theorem d_C_solve_5 : decode c_C_solve 5 = .ok (.aload_n 0, 1) := by decide +kernel
theorem d_C_solve_6 : decode c_C_solve 6 = .ok (.invokevirtual 79, 3) := by decide +kernel
theorem d_C_solve_9 : decode c_C_solve 9 = .ok (.putfield 83, 3) := by decide +kernel
theorem d_C_solve_12 : decode c_C_solve 12 = .ok (.aload_n 0, 1) := by decide +kernel
theorem d_C_solve_13 : decode c_C_solve 13 = .ok (.aload_n 0, 1) := by decide +kernel
theorem d_C_solve_14 : decode c_C_solve 14 = .ok (.getfield 83, 3) := by decide +kernel
theorem d_C_solve_17 : decode c_C_solve 17 = .ok (.ifCond .eq 13, 3) := by decide +kernel
theorem d_C_solve_20 : decode c_C_solve 20 = .ok (.aload_n 0, 1) := by decide +kernel
theorem d_C_solve_21 : decode c_C_solve 21 = .ok (.getfield 19, 3) := by decide +kernel
theorem d_C_solve_24 : decode c_C_solve 24 = .ok (.invokevirtual 87, 3) := by decide +kernel
theorem d_C_solve_27 : decode c_C_solve 27 = .ok (.goto 4, 3) := by decide +kernel
theorem d_C_solve_30 : decode c_C_solve 30 = .ok (.iconst 0, 1) := by decide +kernel
theorem d_C_solve_31 : decode c_C_solve 31 = .ok (.putfield 91, 3) := by decide +kernel
theorem d_C_solve_34 : decode c_C_solve 34 = .ok (.aload_n 0, 1) := by decide +kernel
theorem d_C_solve_35 : decode c_C_solve 35 = .ok (.invokevirtual 94, 3) := by decide +kernel
theorem d_C_solve_38 : decode c_C_solve 38 = .ok (.aload_n 0, 1) := by decide +kernel
theorem d_C_solve_39 : decode c_C_solve 39 = .ok (.getfield 83, 3) := by decide +kernel
theorem d_C_solve_42 : decode c_C_solve 42 = .ok (.ireturn, 1) := by decide +kernel
theorem d_C_follows_0 : decode c_C_follows 0 = .ok (.aload_n 0, 1) := by decide +kernel
theorem d_C_follows_1 : decode c_C_follows 1 = .ok (.iload_n 1, 1) := by decide +kernel
theorem d_C_follows_2 : decode c_C_follows 2 = .ok (.invokevirtual 45, 3) := by decide +kernel
theorem d_C_follows_5 : decode c_C_follows 5 = .ok (.aload_n 0, 1) := by decide +kernel
theorem d_C_follows_6 : decode c_C_follows 6 = .ok (.invokevirtual 76, 3) := by decide +kernel
theorem d_C_follows_9 : decode c_C_follows 9 = .ok (.aload_n 0, 1) := by decide +kernel
theorem d_C_follows_10 : decode c_C_follows 10 = .ok (.getfield 10, 3) := by decide +kernel
theorem d_C_follows_13 : decode c_C_follows 13 = .ok (.iload_n 1, 1) := by decide +kernel
theorem d_C_follows_14 : decode c_C_follows 14 = .ok (.ineg, 1) := by decide +kernel
theorem d_C_follows_15 : decode c_C_follows 15 = .ok (.invokestatic 57, 3) := by decide +kernel
theorem d_C_follows_18 : decode c_C_follows 18 = .ok (.invokevirtual 68, 3) := by decide +kernel
theorem d_C_follows_21 : decode c_C_follows 21 = .ok (.aload_n 0, 1) := by decide +kernel
theorem d_C_follows_22 : decode c_C_follows 22 = .ok (.invokevirtual 79, 3) := by decide +kernel
theorem d_C_follows_25 : decode c_C_follows 25 = .ok (.istore_n 2, 1) := by decide +kernel
theorem d_C_follows_26 : decode c_C_follows 26 = .ok (.aload_n 0, 1) := by decide +kernel
theorem d_C_follows_27 : decode c_C_follows 27 = .ok (.invokevirtual 94, 3) := by decide +kernel
theorem d_C_follows_30 : decode c_C_follows 30 = .ok (.iload_n 2, 1) := by decide +kernel
theorem d_C_follows_31 : decode c_C_follows 31 = .ok (.ifCond .ne 7, 3) := by decide +kernel
theorem d_C_follows_34 : decode c_C_follows 34 = .ok (.iconst 1, 1) := by decide +kernel
theorem d_C_follows_35 : decode c_C_follows 35 = .ok (.goto 4, 3) := by decide +kernel
theorem d_C_follows_38 : decode c_C_follows 38 = .ok (.iconst 0, 1) := by decide +kernel
theorem d_C_follows_39 : decode c_C_follows 39 = .ok (.ireturn, 1) := by decide +kernel
theorem d_C_models_0 : decode c_C_models 0 = .ok (.aload_n 0, 1) := by decide +kernel
theorem d_C_models_1 : decode c_C_models 1 = .ok (.invokevirtual 76, 3) := by decide +kernel
theorem d_C_models_4 : decode c_C_models 4 = .ok (.iconst 0, 1) := by decide +kernel
theorem d_C_models_5 : decode c_C_models 5 = .ok (.istore_n 1, 1) := by decide +kernel
theorem d_C_models_6 : decode c_C_models 6 = .ok (.iload_n 1, 1) := by decide +kernel
theorem d_C_models_7 : decode c_C_models 7 = .ok (.bipush 40, 2) := by decide +kernel
theorem d_C_models_9 : decode c_C_models 9 = .ok (.if_icmp .ge 33, 3) := by decide +kernel
theorem d_C_models_12 : decode c_C_models 12 = .ok (.aload_n 0, 1) := by decide +kernel
theorem d_C_models_13 : decode c_C_models 13 = .ok (.invokevirtual 79, 3) := by decide +kernel
theorem d_C_models_16 : decode c_C_models 16 = .ok (.ifCond .eq 26, 3) := by decide +kernel
theorem d_C_models_19 : decode c_C_models 19 = .ok (.iinc 1 1, 3) := by decide +kernel
theorem d_C_models_22 : decode c_C_models 22 = .ok (.aload_n 0, 1) := by decide +kernel
theorem d_C_models_23 : decode c_C_models 23 = .ok (.getfield 10, 3) := by decide +kernel
theorem d_C_models_26 : decode c_C_models 26 = .ok (.aload_n 0, 1) := by decide +kernel
theorem d_C_models_27 : decode c_C_models 27 = .ok (.getfield 19, 3) := by decide +kernel
theorem d_C_models_30 : decode c_C_models 30 = .ok (.invokevirtual 87, 3) := by decide +kernel
theorem d_C_models_33 : decode c_C_models 33 = .ok (.invokestatic 97, 3) := by decide +kernel
theorem d_C_models_36 : decode c_C_models 36 = .ok (.invokevirtual 68, 3) := by decide +kernel
theorem d_C_models_39 : decode c_C_models 39 = .ok (.goto (-33), 3) := by decide +kernel
theorem d_C_models_42 : decode c_C_models 42 = .ok (.aload_n 0, 1) := by decide +kernel
theorem d_C_models_43 : decode c_C_models 43 = .ok (.invokevirtual 94, 3) := by decide +kernel
theorem d_C_models_46 : decode c_C_models 46 = .ok (.iload_n 1, 1) := by decide +kernel
theorem d_C_models_47 : decode c_C_models 47 = .ok (.ireturn, 1) := by decide +kernel
theorem d_C_value_0 : decode c_C_value 0 = .ok (.iload_n 1, 1) := by decide +kernel
theorem d_C_value_1 : decode c_C_value 1 = .ok (.iconst 1, 1) := by decide +kernel
theorem d_C_value_2 : decode c_C_value 2 = .ok (.if_icmp .lt 11, 3) := by decide +kernel
theorem d_C_value_5 : decode c_C_value 5 = .ok (.iload_n 1, 1) := by decide +kernel
theorem d_C_value_6 : decode c_C_value 6 = .ok (.aload_n 0, 1) := by decide +kernel
theorem d_C_value_7 : decode c_C_value 7 = .ok (.getfield 34, 3) := by decide +kernel
theorem d_C_value_10 : decode c_C_value 10 = .ok (.if_icmp .le 13, 3) := by decide +kernel
theorem d_C_value_13 : decode c_C_value 13 = .ok (.new 100, 3) := by decide +kernel
theorem d_C_value_16 : decode c_C_value 16 = .ok (.dup, 1) := by decide +kernel
theorem d_C_value_17 : decode c_C_value 17 = .ok (.ldc 102, 2) := by decide +kernel
theorem d_C_value_19 : decode c_C_value 19 = .ok (.invokespecial 104, 3) := by decide +kernel
theorem d_C_value_22 : decode c_C_value 22 = .ok (.athrow, 1) := by decide +kernel
theorem d_C_value_23 : decode c_C_value 23 = .ok (.aload_n 0, 1) := by decide +kernel
theorem d_C_value_24 : decode c_C_value 24 = .ok (.getfield 83, 3) := by decide +kernel
theorem d_C_value_27 : decode c_C_value 27 = .ok (.ifCond .ne 13, 3) := by decide +kernel
theorem d_C_value_30 : decode c_C_value 30 = .ok (.new 105, 3) := by decide +kernel
theorem d_C_value_33 : decode c_C_value 33 = .ok (.dup, 1) := by decide +kernel
theorem d_C_value_34 : decode c_C_value 34 = .ok (.ldc 107, 2) := by decide +kernel
theorem d_C_value_36 : decode c_C_value 36 = .ok (.invokespecial 109, 3) := by decide +kernel
theorem d_C_value_39 : decode c_C_value 39 = .ok (.athrow, 1) := by decide +kernel
theorem d_C_value_40 : decode c_C_value 40 = .ok (.aload_n 0, 1) := by decide +kernel
theorem d_C_value_41 : decode c_C_value 41 = .ok (.getfield 91, 3) := by decide +kernel
theorem d_C_value_44 : decode c_C_value 44 = .ok (.iload_n 1, 1) := by decide +kernel
theorem d_C_value_45 : decode c_C_value 45 = .ok (.invokestatic 57, 3) := by decide +kernel
theorem d_C_value_48 : decode c_C_value 48 = .ok (.iand, 1) := by decide +kernel
theorem d_C_value_49 : decode c_C_value 49 = .ok (.ifCond .eq 7, 3) := by decide +kernel
theorem d_C_value_52 : decode c_C_value 52 = .ok (.iconst 1, 1) := by decide +kernel
theorem d_C_value_53 : decode c_C_value 53 = .ok (.goto 4, 3) := by decide +kernel
theorem d_C_value_56 : decode c_C_value 56 = .ok (.iconst 0, 1) := by decide +kernel
theorem d_C_value_57 : decode c_C_value 57 = .ok (.ireturn, 1) := by decide +kernel
theorem d_C_count_0 : decode c_C_count 0 = .ok (.iload_n 1, 1) := by decide +kernel
theorem d_C_count_1 : decode c_C_count 1 = .ok (.tableswitch 80 0 5 #[39, 44, 49, 54, 59, 72], 39) := by decide +kernel
theorem d_C_count_40 : decode c_C_count 40 = .ok (.aload_n 0, 1) := by decide +kernel
theorem d_C_count_41 : decode c_C_count 41 = .ok (.getfield 34, 3) := by decide +kernel
theorem d_C_count_44 : decode c_C_count 44 = .ok (.ireturn, 1) := by decide +kernel
theorem d_C_count_45 : decode c_C_count 45 = .ok (.aload_n 0, 1) := by decide +kernel
theorem d_C_count_46 : decode c_C_count 46 = .ok (.getfield 63, 3) := by decide +kernel
theorem d_C_count_49 : decode c_C_count 49 = .ok (.ireturn, 1) := by decide +kernel
theorem d_C_count_50 : decode c_C_count 50 = .ok (.aload_n 0, 1) := by decide +kernel
theorem d_C_count_51 : decode c_C_count 51 = .ok (.getfield 49, 3) := by decide +kernel
theorem d_C_count_54 : decode c_C_count 54 = .ok (.ireturn, 1) := by decide +kernel
theorem d_C_count_55 : decode c_C_count 55 = .ok (.aload_n 0, 1) := by decide +kernel
theorem d_C_count_56 : decode c_C_count 56 = .ok (.getfield 71, 3) := by decide +kernel
theorem d_C_count_59 : decode c_C_count 59 = .ok (.ireturn, 1) := by decide +kernel
theorem d_C_count_60 : decode c_C_count 60 = .ok (.aload_n 0, 1) := by decide +kernel
theorem d_C_count_61 : decode c_C_count 61 = .ok (.getfield 83, 3) := by decide +kernel
theorem d_C_count_64 : decode c_C_count 64 = .ok (.ifCond .eq 7, 3) := by decide +kernel
theorem d_C_count_67 : decode c_C_count 67 = .ok (.iconst 1, 1) := by decide +kernel
theorem d_C_count_68 : decode c_C_count 68 = .ok (.goto 4, 3) := by decide +kernel
theorem d_C_count_71 : decode c_C_count 71 = .ok (.iconst 0, 1) := by decide +kernel
theorem d_C_count_72 : decode c_C_count 72 = .ok (.ireturn, 1) := by decide +kernel
theorem d_C_count_73 : decode c_C_count 73 = .ok (.aload_n 0, 1) := by decide +kernel
theorem d_C_count_74 : decode c_C_count 74 = .ok (.getfield 26, 3) := by decide +kernel
theorem d_C_count_77 : decode c_C_count 77 = .ok (.invokevirtual 110, 3) := by decide +kernel
theorem d_C_count_80 : decode c_C_count 80 = .ok (.ireturn, 1) := by decide +kernel
theorem d_C_count_81 : decode c_C_count 81 = .ok (.iconst (-1), 1) := by decide +kernel
theorem d_C_count_82 : decode c_C_count 82 = .ok (.ireturn, 1) := by decide +kernel
theorem d_C_needLiteral_0 : decode c_C_needLiteral 0 = .ok (.iload_n 1, 1) := by decide +kernel
theorem d_C_needLiteral_1 : decode c_C_needLiteral 1 = .ok (.ifCond .eq 20, 3) := by decide +kernel
theorem d_C_needLiteral_4 : decode c_C_needLiteral 4 = .ok (.iload_n 1, 1) := by decide +kernel
theorem d_C_needLiteral_5 : decode c_C_needLiteral 5 = .ok (.aload_n 0, 1) := by decide +kernel
theorem d_C_needLiteral_6 : decode c_C_needLiteral 6 = .ok (.getfield 34, 3) := by decide +kernel
theorem d_C_needLiteral_9 : decode c_C_needLiteral 9 = .ok (.if_icmp .gt 12, 3) := by decide +kernel
theorem d_C_needLiteral_12 : decode c_C_needLiteral 12 = .ok (.iload_n 1, 1) := by decide +kernel
theorem d_C_needLiteral_13 : decode c_C_needLiteral 13 = .ok (.aload_n 0, 1) := by decide +kernel
theorem d_C_needLiteral_14 : decode c_C_needLiteral 14 = .ok (.getfield 34, 3) := by decide +kernel
theorem d_C_needLiteral_17 : decode c_C_needLiteral 17 = .ok (.ineg, 1) := by decide +kernel
theorem d_C_needLiteral_18 : decode c_C_needLiteral 18 = .ok (.if_icmp .ge 13, 3) := by decide +kernel
theorem d_C_needLiteral_21 : decode c_C_needLiteral 21 = .ok (.new 100, 3) := by decide +kernel
theorem d_C_needLiteral_24 : decode c_C_needLiteral 24 = .ok (.dup, 1) := by decide +kernel
theorem d_C_needLiteral_25 : decode c_C_needLiteral 25 = .ok (.ldc 113, 2) := by decide +kernel
theorem d_C_needLiteral_27 : decode c_C_needLiteral 27 = .ok (.invokespecial 104, 3) := by decide +kernel
theorem d_C_needLiteral_30 : decode c_C_needLiteral 30 = .ok (.athrow, 1) := by decide +kernel
theorem d_C_needLiteral_31 : decode c_C_needLiteral 31 = .ok (.return_, 1) := by decide +kernel
theorem d_C_openQuestion_0 : decode c_C_openQuestion 0 = .ok (.aload_n 0, 1) := by decide +kernel
theorem d_C_openQuestion_1 : decode c_C_openQuestion 1 = .ok (.iconst 0, 1) := by decide +kernel
theorem d_C_openQuestion_2 : decode c_C_openQuestion 2 = .ok (.putfield 83, 3) := by decide +kernel
theorem d_C_openQuestion_5 : decode c_C_openQuestion 5 = .ok (.aload_n 0, 1) := by decide +kernel
theorem d_C_openQuestion_6 : decode c_C_openQuestion 6 = .ok (.iconst 0, 1) := by decide +kernel
theorem d_C_openQuestion_7 : decode c_C_openQuestion 7 = .ok (.putfield 91, 3) := by decide +kernel
theorem d_C_openQuestion_10 : decode c_C_openQuestion 10 = .ok (.iconst 0, 1) := by decide +kernel
theorem d_C_openQuestion_11 : decode c_C_openQuestion 11 = .ok (.istore_n 1, 1) := by decide +kernel
theorem d_C_openQuestion_12 : decode c_C_openQuestion 12 = .ok (.iload_n 1, 1) := by decide +kernel
theorem d_C_openQuestion_13 : decode c_C_openQuestion 13 = .ok (.aload_n 0, 1) := by decide +kernel
theorem d_C_openQuestion_14 : decode c_C_openQuestion 14 = .ok (.getfield 71, 3) := by decide +kernel
theorem d_C_openQuestion_17 : decode c_C_openQuestion 17 = .ok (.if_icmp .ge 22, 3) := by decide +kernel
theorem d_C_openQuestion_20 : decode c_C_openQuestion 20 = .ok (.aload_n 0, 1) := by decide +kernel
theorem d_C_openQuestion_21 : decode c_C_openQuestion 21 = .ok (.getfield 10, 3) := by decide +kernel
theorem d_C_openQuestion_24 : decode c_C_openQuestion 24 = .ok (.aload_n 0, 1) := by decide +kernel
theorem d_C_openQuestion_25 : decode c_C_openQuestion 25 = .ok (.getfield 30, 3) := by decide +kernel
theorem d_C_openQuestion_28 : decode c_C_openQuestion 28 = .ok (.iload_n 1, 1) := by decide +kernel
theorem d_C_openQuestion_29 : decode c_C_openQuestion 29 = .ok (.iaload, 1) := by decide +kernel
theorem d_C_openQuestion_30 : decode c_C_openQuestion 30 = .ok (.invokevirtual 68, 3) := by decide +kernel
theorem d_C_openQuestion_33 : decode c_C_openQuestion 33 = .ok (.iinc 1 1, 3) := by decide +kernel
theorem d_C_openQuestion_36 : decode c_C_openQuestion 36 = .ok (.goto (-24), 3) := by decide +kernel
theorem d_C_openQuestion_39 : decode c_C_openQuestion 39 = .ok (.aload_n 0, 1) := by decide +kernel
theorem d_C_openQuestion_40 : decode c_C_openQuestion 40 = .ok (.iconst 0, 1) := by decide +kernel
theorem d_C_openQuestion_41 : decode c_C_openQuestion 41 = .ok (.putfield 71, 3) := by decide +kernel
theorem d_C_openQuestion_44 : decode c_C_openQuestion 44 = .ok (.aload_n 0, 1) := by decide +kernel
theorem d_C_openQuestion_45 : decode c_C_openQuestion 45 = .ok (.getfield 19, 3) := by decide +kernel
theorem d_C_openQuestion_48 : decode c_C_openQuestion 48 = .ok (.invokevirtual 115, 3) := by decide +kernel
theorem d_C_openQuestion_51 : decode c_C_openQuestion 51 = .ok (.return_, 1) := by decide +kernel
theorem d_C_nextModel_0 : decode c_C_nextModel 0 = .ok (.aload_n 0, 1) := by decide +kernel
theorem d_C_nextModel_1 : decode c_C_nextModel 1 = .ok (.getfield 19, 3) := by decide +kernel
theorem d_C_nextModel_4 : decode c_C_nextModel 4 = .ok (.aload_n 0, 1) := by decide +kernel
theorem d_C_nextModel_5 : decode c_C_nextModel 5 = .ok (.getfield 10, 3) := by decide +kernel
theorem d_C_nextModel_8 : decode c_C_nextModel 8 = .ok (.aload_n 0, 1) := by decide +kernel
theorem d_C_nextModel_9 : decode c_C_nextModel 9 = .ok (.getfield 34, 3) := by decide +kernel
theorem d_C_nextModel_12 : decode c_C_nextModel 12 = .ok (.invokevirtual 118, 3) := by decide +kernel
theorem d_C_nextModel_15 : decode c_C_nextModel 15 = .ok (.istore_n 1, 1) := by decide +kernel
theorem d_C_nextModel_16 : decode c_C_nextModel 16 = .ok (.iload_n 1, 1) := by decide +kernel
theorem d_C_nextModel_17 : decode c_C_nextModel 17 = .ok (.ifCond .eq 28, 3) := by decide +kernel
theorem d_C_nextModel_20 : decode c_C_nextModel 20 = .ok (.aload_n 0, 1) := by decide +kernel
theorem d_C_nextModel_21 : decode c_C_nextModel 21 = .ok (.getfield 26, 3) := by decide +kernel
theorem d_C_nextModel_24 : decode c_C_nextModel 24 = .ok (.aload_n 0, 1) := by decide +kernel
theorem d_C_nextModel_25 : decode c_C_nextModel 25 = .ok (.getfield 10, 3) := by decide +kernel
theorem d_C_nextModel_28 : decode c_C_nextModel 28 = .ok (.aload_n 0, 1) := by decide +kernel
theorem d_C_nextModel_29 : decode c_C_nextModel 29 = .ok (.getfield 19, 3) := by decide +kernel
theorem d_C_nextModel_32 : decode c_C_nextModel 32 = .ok (.invokevirtual 87, 3) := by decide +kernel
theorem d_C_nextModel_35 : decode c_C_nextModel 35 = .ok (.aload_n 0, 1) := by decide +kernel
theorem d_C_nextModel_36 : decode c_C_nextModel 36 = .ok (.getfield 34, 3) := by decide +kernel
theorem d_C_nextModel_39 : decode c_C_nextModel 39 = .ok (.invokevirtual 122, 3) := by decide +kernel
theorem d_C_nextModel_42 : decode c_C_nextModel 42 = .ok (.goto 14, 3) := by decide +kernel
theorem d_C_nextModel_45 : decode c_C_nextModel 45 = .ok (.aload_n 0, 1) := by decide +kernel
theorem d_C_nextModel_46 : decode c_C_nextModel 46 = .ok (.getfield 26, 3) := by decide +kernel
theorem d_C_nextModel_49 : decode c_C_nextModel 49 = .ok (.aload_n 0, 1) := by decide +kernel
theorem d_C_nextModel_50 : decode c_C_nextModel 50 = .ok (.getfield 10, 3) := by decide +kernel
theorem d_C_nextModel_53 : decode c_C_nextModel 53 = .ok (.invokevirtual 126, 3) := by decide +kernel
theorem d_C_nextModel_56 : decode c_C_nextModel 56 = .ok (.iload_n 1, 1) := by decide +kernel
theorem d_C_nextModel_57 : decode c_C_nextModel 57 = .ok (.ireturn, 1) := by decide +kernel
theorem d_C_endQuestion_0 : decode c_C_endQuestion 0 = .ok (.aload_n 0, 1) := by decide +kernel
theorem d_C_endQuestion_1 : decode c_C_endQuestion 1 = .ok (.getfield 10, 3) := by decide +kernel
theorem d_C_endQuestion_4 : decode c_C_endQuestion 4 = .ok (.aload_n 0, 1) := by decide +kernel
theorem d_C_endQuestion_5 : decode c_C_endQuestion 5 = .ok (.getfield 63, 3) := by decide +kernel
theorem d_C_endQuestion_8 : decode c_C_endQuestion 8 = .ok (.invokevirtual 130, 3) := by decide +kernel
theorem d_C_endQuestion_11 : decode c_C_endQuestion 11 = .ok (.return_, 1) := by decide +kernel
