/-! decode rows, by program -/
theorem d_H_init_0 : decode c_H_init 0 = .ok (.aload_n 0, 1) := by decide +kernel
theorem d_H_init_1 : decode c_H_init 1 = .ok (.invokespecial 3, 3) := by decide +kernel
theorem d_H_init_4 : decode c_H_init 4 = .ok (.return_, 1) := by decide +kernel
theorem d_H_faults_0 : decode c_H_faults 0 = .ok (.aload_n 0, 1) := by decide +kernel
theorem d_H_faults_1 : decode c_H_faults 1 = .ok (.getfield 9, 3) := by decide +kernel
theorem d_H_faults_4 : decode c_H_faults 4 = .ok (.ireturn, 1) := by decide +kernel
theorem d_H_checkModel_0 : decode c_H_checkModel 0 = .ok (.aload_n 1, 1) := by decide +kernel
theorem d_H_checkModel_1 : decode c_H_checkModel 1 = .ok (.iload_n 2, 1) := by decide +kernel
theorem d_H_checkModel_2 : decode c_H_checkModel 2 = .ok (.iload_n 3, 1) := by decide +kernel
theorem d_H_checkModel_3 : decode c_H_checkModel 3 = .ok (.invokestatic 15, 3) := by decide +kernel
theorem d_H_checkModel_6 : decode c_H_checkModel 6 = .ok (.ifCond .ne 13, 3) := by decide +kernel
theorem d_H_checkModel_9 : decode c_H_checkModel 9 = .ok (.aload_n 0, 1) := by decide +kernel
theorem d_H_checkModel_10 : decode c_H_checkModel 10 = .ok (.dup, 1) := by decide +kernel
theorem d_H_checkModel_11 : decode c_H_checkModel 11 = .ok (.getfield 9, 3) := by decide +kernel
theorem d_H_checkModel_14 : decode c_H_checkModel 14 = .ok (.iconst 1, 1) := by decide +kernel
theorem d_H_checkModel_15 : decode c_H_checkModel 15 = .ok (.iadd, 1) := by decide +kernel
theorem d_H_checkModel_16 : decode c_H_checkModel 16 = .ok (.putfield 9, 3) := by decide +kernel
theorem d_H_checkModel_19 : decode c_H_checkModel 19 = .ok (.return_, 1) := by decide +kernel
theorem d_H_isModel_0 : decode c_H_isModel 0 = .ok (.iload_n 1, 1) := by decide +kernel
theorem d_H_isModel_1 : decode c_H_isModel 1 = .ok (.invokestatic 19, 3) := by decide +kernel
theorem d_H_isModel_4 : decode c_H_isModel 4 = .ok (.istore_n 3, 1) := by decide +kernel
theorem d_H_isModel_5 : decode c_H_isModel 5 = .ok (.iload_n 2, 1) := by decide +kernel
theorem d_H_isModel_6 : decode c_H_isModel 6 = .ok (.invokestatic 25, 3) := by decide +kernel
theorem d_H_isModel_9 : decode c_H_isModel 9 = .ok (.istore 4, 2) := by decide +kernel
theorem d_H_isModel_11 : decode c_H_isModel 11 = .ok (.iload_n 1, 1) := by decide +kernel
theorem d_H_isModel_12 : decode c_H_isModel 12 = .ok (.iload_n 3, 1) := by decide +kernel
theorem d_H_isModel_13 : decode c_H_isModel 13 = .ok (.iand, 1) := by decide +kernel
theorem d_H_isModel_14 : decode c_H_isModel 14 = .ok (.ifCond .ne 17, 3) := by decide +kernel
theorem d_H_isModel_17 : decode c_H_isModel 17 = .ok (.iload_n 1, 1) := by decide +kernel
theorem d_H_isModel_18 : decode c_H_isModel 18 = .ok (.iload_n 3, 1) := by decide +kernel
theorem d_H_isModel_19 : decode c_H_isModel 19 = .ok (.ior, 1) := by decide +kernel
theorem d_H_isModel_20 : decode c_H_isModel 20 = .ok (.iload 4, 2) := by decide +kernel
theorem d_H_isModel_22 : decode c_H_isModel 22 = .ok (.iload 4, 2) := by decide +kernel
theorem d_H_isModel_24 : decode c_H_isModel 24 = .ok (.invokestatic 19, 3) := by decide +kernel
theorem d_H_isModel_27 : decode c_H_isModel 27 = .ok (.ior, 1) := by decide +kernel
theorem d_H_isModel_28 : decode c_H_isModel 28 = .ok (.if_icmp .eq 5, 3) := by decide +kernel
theorem d_H_isModel_31 : decode c_H_isModel 31 = .ok (.iconst 0, 1) := by decide +kernel
theorem d_H_isModel_32 : decode c_H_isModel 32 = .ok (.ireturn, 1) := by decide +kernel
theorem d_H_isModel_33 : decode c_H_isModel 33 = .ok (.iconst 0, 1) := by decide +kernel
theorem d_H_isModel_34 : decode c_H_isModel 34 = .ok (.istore 5, 2) := by decide +kernel
theorem d_H_isModel_36 : decode c_H_isModel 36 = .ok (.iload 5, 2) := by decide +kernel
theorem d_H_isModel_38 : decode c_H_isModel 38 = .ok (.aload_n 0, 1) := by decide +kernel
theorem d_H_isModel_39 : decode c_H_isModel 39 = .ok (.invokevirtual 28, 3) := by decide +kernel
theorem d_H_isModel_42 : decode c_H_isModel 42 = .ok (.if_icmp .ge 31, 3) := by decide +kernel
theorem d_H_isModel_45 : decode c_H_isModel 45 = .ok (.aload_n 0, 1) := by decide +kernel
theorem d_H_isModel_46 : decode c_H_isModel 46 = .ok (.iload 5, 2) := by decide +kernel
theorem d_H_isModel_48 : decode c_H_isModel 48 = .ok (.invokevirtual 34, 3) := by decide +kernel
theorem d_H_isModel_51 : decode c_H_isModel 51 = .ok (.ifCond .ne 16, 3) := by decide +kernel
theorem d_H_isModel_54 : decode c_H_isModel 54 = .ok (.aload_n 0, 1) := by decide +kernel
theorem d_H_isModel_55 : decode c_H_isModel 55 = .ok (.iload 5, 2) := by decide +kernel
theorem d_H_isModel_57 : decode c_H_isModel 57 = .ok (.invokevirtual 38, 3) := by decide +kernel
theorem d_H_isModel_60 : decode c_H_isModel 60 = .ok (.iload_n 1, 1) := by decide +kernel
theorem d_H_isModel_61 : decode c_H_isModel 61 = .ok (.iand, 1) := by decide +kernel
theorem d_H_isModel_62 : decode c_H_isModel 62 = .ok (.ifCond .ne 5, 3) := by decide +kernel
theorem d_H_isModel_65 : decode c_H_isModel 65 = .ok (.iconst 0, 1) := by decide +kernel
theorem d_H_isModel_66 : decode c_H_isModel 66 = .ok (.ireturn, 1) := by decide +kernel
theorem d_H_isModel_67 : decode c_H_isModel 67 = .ok (.iinc 5 1, 3) := by decide +kernel
theorem d_H_isModel_70 : decode c_H_isModel 70 = .ok (.goto (-34), 3) := by decide +kernel
theorem d_H_isModel_73 : decode c_H_isModel 73 = .ok (.iconst 1, 1) := by decide +kernel
theorem d_H_isModel_74 : decode c_H_isModel 74 = .ok (.ireturn, 1) := by decide +kernel
theorem d_H_checkProof_0 : decode c_H_checkProof 0 = .ok (.iconst 0, 1) := by decide +kernel
theorem d_H_checkProof_1 : decode c_H_checkProof 1 = .ok (.istore_n 2, 1) := by decide +kernel
theorem d_H_checkProof_2 : decode c_H_checkProof 2 = .ok (.iload_n 2, 1) := by decide +kernel
theorem d_H_checkProof_3 : decode c_H_checkProof 3 = .ok (.aload_n 1, 1) := by decide +kernel
theorem d_H_checkProof_4 : decode c_H_checkProof 4 = .ok (.invokevirtual 28, 3) := by decide +kernel
theorem d_H_checkProof_7 : decode c_H_checkProof 7 = .ok (.if_icmp .ge 23, 3) := by decide +kernel
theorem d_H_checkProof_10 : decode c_H_checkProof 10 = .ok (.aload_n 1, 1) := by decide +kernel
theorem d_H_checkProof_11 : decode c_H_checkProof 11 = .ok (.iload_n 2, 1) := by decide +kernel
theorem d_H_checkProof_12 : decode c_H_checkProof 12 = .ok (.invokevirtual 34, 3) := by decide +kernel
theorem d_H_checkProof_15 : decode c_H_checkProof 15 = .ok (.ifCond .eq 9, 3) := by decide +kernel
theorem d_H_checkProof_18 : decode c_H_checkProof 18 = .ok (.aload_n 0, 1) := by decide +kernel
theorem d_H_checkProof_19 : decode c_H_checkProof 19 = .ok (.aload_n 1, 1) := by decide +kernel
theorem d_H_checkProof_20 : decode c_H_checkProof 20 = .ok (.iload_n 2, 1) := by decide +kernel
theorem d_H_checkProof_21 : decode c_H_checkProof 21 = .ok (.invokevirtual 41, 3) := by decide +kernel
theorem d_H_checkProof_24 : decode c_H_checkProof 24 = .ok (.iinc 2 1, 3) := by decide +kernel
theorem d_H_checkProof_27 : decode c_H_checkProof 27 = .ok (.goto (-25), 3) := by decide +kernel
theorem d_H_checkProof_30 : decode c_H_checkProof 30 = .ok (.aload_n 1, 1) := by decide +kernel
theorem d_H_checkProof_31 : decode c_H_checkProof 31 = .ok (.invokevirtual 28, 3) := by decide +kernel
theorem d_H_checkProof_34 : decode c_H_checkProof 34 = .ok (.iconst 1, 1) := by decide +kernel
theorem d_H_checkProof_35 : decode c_H_checkProof 35 = .ok (.isub, 1) := by decide +kernel
theorem d_H_checkProof_36 : decode c_H_checkProof 36 = .ok (.istore_n 2, 1) := by decide +kernel
theorem d_H_checkProof_37 : decode c_H_checkProof 37 = .ok (.aload_n 1, 1) := by decide +kernel
theorem d_H_checkProof_38 : decode c_H_checkProof 38 = .ok (.iload_n 2, 1) := by decide +kernel
theorem d_H_checkProof_39 : decode c_H_checkProof 39 = .ok (.invokevirtual 34, 3) := by decide +kernel
theorem d_H_checkProof_42 : decode c_H_checkProof 42 = .ok (.ifCond .eq 11, 3) := by decide +kernel
theorem d_H_checkProof_45 : decode c_H_checkProof 45 = .ok (.aload_n 1, 1) := by decide +kernel
theorem d_H_checkProof_46 : decode c_H_checkProof 46 = .ok (.iload_n 2, 1) := by decide +kernel
theorem d_H_checkProof_47 : decode c_H_checkProof 47 = .ok (.invokevirtual 38, 3) := by decide +kernel
theorem d_H_checkProof_50 : decode c_H_checkProof 50 = .ok (.ifCond .eq 13, 3) := by decide +kernel
theorem d_H_checkProof_53 : decode c_H_checkProof 53 = .ok (.aload_n 0, 1) := by decide +kernel
theorem d_H_checkProof_54 : decode c_H_checkProof 54 = .ok (.dup, 1) := by decide +kernel
theorem d_H_checkProof_55 : decode c_H_checkProof 55 = .ok (.getfield 9, 3) := by decide +kernel
theorem d_H_checkProof_58 : decode c_H_checkProof 58 = .ok (.iconst 1, 1) := by decide +kernel
theorem d_H_checkProof_59 : decode c_H_checkProof 59 = .ok (.iadd, 1) := by decide +kernel
theorem d_H_checkProof_60 : decode c_H_checkProof 60 = .ok (.putfield 9, 3) := by decide +kernel
theorem d_H_checkProof_63 : decode c_H_checkProof 63 = .ok (.return_, 1) := by decide +kernel
theorem d_H_checkDerivation_0 : decode c_H_checkDerivation 0 = .ok (.aload_n 1, 1) := by decide +kernel
theorem d_H_checkDerivation_1 : decode c_H_checkDerivation 1 = .ok (.iload_n 2, 1) := by decide +kernel
theorem d_H_checkDerivation_2 : decode c_H_checkDerivation 2 = .ok (.invokevirtual 45, 3) := by decide +kernel
theorem d_H_checkDerivation_5 : decode c_H_checkDerivation 5 = .ok (.istore_n 3, 1) := by decide +kernel
theorem d_H_checkDerivation_6 : decode c_H_checkDerivation 6 = .ok (.aload_n 0, 1) := by decide +kernel
theorem d_H_checkDerivation_7 : decode c_H_checkDerivation 7 = .ok (.aload_n 1, 1) := by decide +kernel
theorem d_H_checkDerivation_8 : decode c_H_checkDerivation 8 = .ok (.iload_n 3, 1) := by decide +kernel
theorem d_H_checkDerivation_9 : decode c_H_checkDerivation 9 = .ok (.iload_n 2, 1) := by decide +kernel
theorem d_H_checkDerivation_10 : decode c_H_checkDerivation 10 = .ok (.invokevirtual 48, 3) := by decide +kernel
theorem d_H_checkDerivation_13 : decode c_H_checkDerivation 13 = .ok (.istore 4, 2) := by decide +kernel
theorem d_H_checkDerivation_15 : decode c_H_checkDerivation 15 = .ok (.iload_n 3, 1) := by decide +kernel
theorem d_H_checkDerivation_16 : decode c_H_checkDerivation 16 = .ok (.iconst 1, 1) := by decide +kernel
theorem d_H_checkDerivation_17 : decode c_H_checkDerivation 17 = .ok (.iadd, 1) := by decide +kernel
theorem d_H_checkDerivation_18 : decode c_H_checkDerivation 18 = .ok (.istore 5, 2) := by decide +kernel
theorem d_H_checkDerivation_20 : decode c_H_checkDerivation 20 = .ok (.iload 5, 2) := by decide +kernel
theorem d_H_checkDerivation_22 : decode c_H_checkDerivation 22 = .ok (.aload_n 1, 1) := by decide +kernel
theorem d_H_checkDerivation_23 : decode c_H_checkDerivation 23 = .ok (.iload_n 2, 1) := by decide +kernel
theorem d_H_checkDerivation_24 : decode c_H_checkDerivation 24 = .ok (.invokevirtual 52, 3) := by decide +kernel
theorem d_H_checkDerivation_27 : decode c_H_checkDerivation 27 = .ok (.if_icmp .ge 67, 3) := by decide +kernel
theorem d_H_checkDerivation_30 : decode c_H_checkDerivation 30 = .ok (.aload_n 0, 1) := by decide +kernel
theorem d_H_checkDerivation_31 : decode c_H_checkDerivation 31 = .ok (.aload_n 1, 1) := by decide +kernel
theorem d_H_checkDerivation_32 : decode c_H_checkDerivation 32 = .ok (.iload 5, 2) := by decide +kernel
theorem d_H_checkDerivation_34 : decode c_H_checkDerivation 34 = .ok (.iload_n 2, 1) := by decide +kernel
theorem d_H_checkDerivation_35 : decode c_H_checkDerivation 35 = .ok (.invokevirtual 48, 3) := by decide +kernel
theorem d_H_checkDerivation_38 : decode c_H_checkDerivation 38 = .ok (.istore 6, 2) := by decide +kernel
theorem d_H_checkDerivation_40 : decode c_H_checkDerivation 40 = .ok (.iload 4, 2) := by decide +kernel
theorem d_H_checkDerivation_42 : decode c_H_checkDerivation 42 = .ok (.iload 6, 2) := by decide +kernel
theorem d_H_checkDerivation_44 : decode c_H_checkDerivation 44 = .ok (.invokestatic 19, 3) := by decide +kernel
theorem d_H_checkDerivation_47 : decode c_H_checkDerivation 47 = .ok (.iand, 1) := by decide +kernel
theorem d_H_checkDerivation_48 : decode c_H_checkDerivation 48 = .ok (.istore 7, 2) := by decide +kernel
theorem d_H_checkDerivation_50 : decode c_H_checkDerivation 50 = .ok (.iload 7, 2) := by decide +kernel
theorem d_H_checkDerivation_52 : decode c_H_checkDerivation 52 = .ok (.invokestatic 55, 3) := by decide +kernel
theorem d_H_checkDerivation_55 : decode c_H_checkDerivation 55 = .ok (.ifCond .ne 13, 3) := by decide +kernel
theorem d_H_checkDerivation_58 : decode c_H_checkDerivation 58 = .ok (.aload_n 0, 1) := by decide +kernel
theorem d_H_checkDerivation_59 : decode c_H_checkDerivation 59 = .ok (.dup, 1) := by decide +kernel
theorem d_H_checkDerivation_60 : decode c_H_checkDerivation 60 = .ok (.getfield 9, 3) := by decide +kernel
theorem d_H_checkDerivation_63 : decode c_H_checkDerivation 63 = .ok (.iconst 1, 1) := by decide +kernel
theorem d_H_checkDerivation_64 : decode c_H_checkDerivation 64 = .ok (.iadd, 1) := by decide +kernel
theorem d_H_checkDerivation_65 : decode c_H_checkDerivation 65 = .ok (.putfield 9, 3) := by decide +kernel
theorem d_H_checkDerivation_68 : decode c_H_checkDerivation 68 = .ok (.iload 4, 2) := by decide +kernel
theorem d_H_checkDerivation_70 : decode c_H_checkDerivation 70 = .ok (.iload 7, 2) := by decide +kernel
theorem d_H_checkDerivation_72 : decode c_H_checkDerivation 72 = .ok (.iconst (-1), 1) := by decide +kernel
theorem d_H_checkDerivation_73 : decode c_H_checkDerivation 73 = .ok (.ixor, 1) := by decide +kernel
theorem d_H_checkDerivation_74 : decode c_H_checkDerivation 74 = .ok (.iand, 1) := by decide +kernel
theorem d_H_checkDerivation_75 : decode c_H_checkDerivation 75 = .ok (.iload 6, 2) := by decide +kernel
theorem d_H_checkDerivation_77 : decode c_H_checkDerivation 77 = .ok (.iload 7, 2) := by decide +kernel
theorem d_H_checkDerivation_79 : decode c_H_checkDerivation 79 = .ok (.invokestatic 19, 3) := by decide +kernel
theorem d_H_checkDerivation_82 : decode c_H_checkDerivation 82 = .ok (.iconst (-1), 1) := by decide +kernel
theorem d_H_checkDerivation_83 : decode c_H_checkDerivation 83 = .ok (.ixor, 1) := by decide +kernel
theorem d_H_checkDerivation_84 : decode c_H_checkDerivation 84 = .ok (.iand, 1) := by decide +kernel
theorem d_H_checkDerivation_85 : decode c_H_checkDerivation 85 = .ok (.ior, 1) := by decide +kernel
theorem d_H_checkDerivation_86 : decode c_H_checkDerivation 86 = .ok (.istore 4, 2) := by decide +kernel
theorem d_H_checkDerivation_88 : decode c_H_checkDerivation 88 = .ok (.iinc 5 1, 3) := by decide +kernel
theorem d_H_checkDerivation_91 : decode c_H_checkDerivation 91 = .ok (.goto (-71), 3) := by decide +kernel
theorem d_H_checkDerivation_94 : decode c_H_checkDerivation 94 = .ok (.iload 4, 2) := by decide +kernel
theorem d_H_checkDerivation_96 : decode c_H_checkDerivation 96 = .ok (.aload_n 1, 1) := by decide +kernel
theorem d_H_checkDerivation_97 : decode c_H_checkDerivation 97 = .ok (.iload_n 2, 1) := by decide +kernel
theorem d_H_checkDerivation_98 : decode c_H_checkDerivation 98 = .ok (.invokevirtual 38, 3) := by decide +kernel
theorem d_H_checkDerivation_101 : decode c_H_checkDerivation 101 = .ok (.if_icmp .eq 13, 3) := by decide +kernel
theorem d_H_checkDerivation_104 : decode c_H_checkDerivation 104 = .ok (.aload_n 0, 1) := by decide +kernel
theorem d_H_checkDerivation_105 : decode c_H_checkDerivation 105 = .ok (.dup, 1) := by decide +kernel
theorem d_H_checkDerivation_106 : decode c_H_checkDerivation 106 = .ok (.getfield 9, 3) := by decide +kernel
theorem d_H_checkDerivation_109 : decode c_H_checkDerivation 109 = .ok (.iconst 1, 1) := by decide +kernel
theorem d_H_checkDerivation_110 : decode c_H_checkDerivation 110 = .ok (.iadd, 1) := by decide +kernel
theorem d_H_checkDerivation_111 : decode c_H_checkDerivation 111 = .ok (.putfield 9, 3) := by decide +kernel
theorem d_H_checkDerivation_114 : decode c_H_checkDerivation 114 = .ok (.return_, 1) := by decide +kernel
theorem d_H_linkedClause_0 : decode c_H_linkedClause 0 = .ok (.iload_n 2, 1) := by decide +kernel
theorem d_H_linkedClause_1 : decode c_H_linkedClause 1 = .ok (.aload_n 1, 1) := by decide +kernel
theorem d_H_linkedClause_2 : decode c_H_linkedClause 2 = .ok (.iload_n 3, 1) := by decide +kernel
theorem d_H_linkedClause_3 : decode c_H_linkedClause 3 = .ok (.invokevirtual 52, 3) := by decide +kernel
theorem d_H_linkedClause_6 : decode c_H_linkedClause 6 = .ok (.if_icmp .ge 11, 3) := by decide +kernel
theorem d_H_linkedClause_9 : decode c_H_linkedClause 9 = .ok (.aload_n 1, 1) := by decide +kernel
theorem d_H_linkedClause_10 : decode c_H_linkedClause 10 = .ok (.iload_n 2, 1) := by decide +kernel
theorem d_H_linkedClause_11 : decode c_H_linkedClause 11 = .ok (.invokevirtual 58, 3) := by decide +kernel
theorem d_H_linkedClause_14 : decode c_H_linkedClause 14 = .ok (.goto 4, 3) := by decide +kernel
theorem d_H_linkedClause_17 : decode c_H_linkedClause 17 = .ok (.iconst (-1), 1) := by decide +kernel
theorem d_H_linkedClause_18 : decode c_H_linkedClause 18 = .ok (.istore 4, 2) := by decide +kernel
theorem d_H_linkedClause_20 : decode c_H_linkedClause 20 = .ok (.iload 4, 2) := by decide +kernel
theorem d_H_linkedClause_22 : decode c_H_linkedClause 22 = .ok (.ifCond .lt 9, 3) := by decide +kernel
theorem d_H_linkedClause_25 : decode c_H_linkedClause 25 = .ok (.iload 4, 2) := by decide +kernel
theorem d_H_linkedClause_27 : decode c_H_linkedClause 27 = .ok (.iload_n 3, 1) := by decide +kernel
theorem d_H_linkedClause_28 : decode c_H_linkedClause 28 = .ok (.if_icmp .lt 15, 3) := by decide +kernel
theorem d_H_linkedClause_31 : decode c_H_linkedClause 31 = .ok (.aload_n 0, 1) := by decide +kernel
theorem d_H_linkedClause_32 : decode c_H_linkedClause 32 = .ok (.dup, 1) := by decide +kernel
theorem d_H_linkedClause_33 : decode c_H_linkedClause 33 = .ok (.getfield 9, 3) := by decide +kernel
theorem d_H_linkedClause_36 : decode c_H_linkedClause 36 = .ok (.iconst 1, 1) := by decide +kernel
theorem d_H_linkedClause_37 : decode c_H_linkedClause 37 = .ok (.iadd, 1) := by decide +kernel
theorem d_H_linkedClause_38 : decode c_H_linkedClause 38 = .ok (.putfield 9, 3) := by decide +kernel
theorem d_H_linkedClause_41 : decode c_H_linkedClause 41 = .ok (.iconst 0, 1) := by decide +kernel
theorem d_H_linkedClause_42 : decode c_H_linkedClause 42 = .ok (.ireturn, 1) := by decide +kernel
theorem d_H_linkedClause_43 : decode c_H_linkedClause 43 = .ok (.aload_n 1, 1) := by decide +kernel
theorem d_H_linkedClause_44 : decode c_H_linkedClause 44 = .ok (.iload 4, 2) := by decide +kernel
theorem d_H_linkedClause_46 : decode c_H_linkedClause 46 = .ok (.invokevirtual 38, 3) := by decide +kernel
theorem d_H_linkedClause_49 : decode c_H_linkedClause 49 = .ok (.ireturn, 1) := by decide +kernel
theorem d_S_init_0 : decode c_S_init 0 = .ok (.aload_n 0, 1) := by decide +kernel
theorem d_S_init_1 : decode c_S_init 1 = .ok (.invokespecial 3, 3) := by decide +kernel
theorem d_S_init_4 : decode c_S_init 4 = .ok (.aload_n 0, 1) := by decide +kernel
theorem d_S_init_5 : decode c_S_init 5 = .ok (.bipush 10, 2) := by decide +kernel
theorem d_S_init_7 : decode c_S_init 7 = .ok (.newarray .int, 2) := by decide +kernel
theorem d_S_init_9 : decode c_S_init 9 = .ok (.putfield 9, 3) := by decide +kernel
theorem d_S_init_12 : decode c_S_init 12 = .ok (.aload_n 0, 1) := by decide +kernel
theorem d_S_init_13 : decode c_S_init 13 = .ok (.bipush 10, 2) := by decide +kernel
theorem d_S_init_15 : decode c_S_init 15 = .ok (.newarray .int, 2) := by decide +kernel
theorem d_S_init_17 : decode c_S_init 17 = .ok (.putfield 15, 3) := by decide +kernel
theorem d_S_init_20 : decode c_S_init 20 = .ok (.return_, 1) := by decide +kernel
theorem d_S_begin_0 : decode c_S_begin 0 = .ok (.aload_n 0, 1) := by decide +kernel
theorem d_S_begin_1 : decode c_S_begin 1 = .ok (.iconst 0, 1) := by decide +kernel
theorem d_S_begin_2 : decode c_S_begin 2 = .ok (.putfield 18, 3) := by decide +kernel
theorem d_S_begin_5 : decode c_S_begin 5 = .ok (.aload_n 0, 1) := by decide +kernel
theorem d_S_begin_6 : decode c_S_begin 6 = .ok (.iconst 0, 1) := by decide +kernel
theorem d_S_begin_7 : decode c_S_begin 7 = .ok (.putfield 22, 3) := by decide +kernel
theorem d_S_begin_10 : decode c_S_begin 10 = .ok (.return_, 1) := by decide +kernel
theorem d_S_held_0 : decode c_S_held 0 = .ok (.aload_n 0, 1) := by decide +kernel
theorem d_S_held_1 : decode c_S_held 1 = .ok (.getfield 22, 3) := by decide +kernel
theorem d_S_held_4 : decode c_S_held 4 = .ok (.ireturn, 1) := by decide +kernel
theorem d_S_findModel_0 : decode c_S_findModel 0 = .ok (.iconst 0, 1) := by decide +kernel
theorem d_S_findModel_1 : decode c_S_findModel 1 = .ok (.istore_n 3, 1) := by decide +kernel
theorem d_S_findModel_2 : decode c_S_findModel 2 = .ok (.iload_n 3, 1) := by decide +kernel
theorem d_S_findModel_3 : decode c_S_findModel 3 = .ok (.ldc 25, 2) := by decide +kernel
theorem d_S_findModel_5 : decode c_S_findModel 5 = .ok (.if_icmp .ge 52, 3) := by decide +kernel
theorem d_S_findModel_8 : decode c_S_findModel 8 = .ok (.aload_n 0, 1) := by decide +kernel
theorem d_S_findModel_9 : decode c_S_findModel 9 = .ok (.aload_n 1, 1) := by decide +kernel
theorem d_S_findModel_10 : decode c_S_findModel 10 = .ok (.invokevirtual 26, 3) := by decide +kernel
theorem d_S_findModel_13 : decode c_S_findModel 13 = .ok (.istore 4, 2) := by decide +kernel
theorem d_S_findModel_15 : decode c_S_findModel 15 = .ok (.iload 4, 2) := by decide +kernel
theorem d_S_findModel_17 : decode c_S_findModel 17 = .ok (.iconst (-1), 1) := by decide +kernel
theorem d_S_findModel_18 : decode c_S_findModel 18 = .ok (.if_icmp .ne 21, 3) := by decide +kernel
theorem d_S_findModel_21 : decode c_S_findModel 21 = .ok (.aload_n 0, 1) := by decide +kernel
theorem d_S_findModel_22 : decode c_S_findModel 22 = .ok (.getfield 18, 3) := by decide +kernel
theorem d_S_findModel_25 : decode c_S_findModel 25 = .ok (.iload_n 2, 1) := by decide +kernel
theorem d_S_findModel_26 : decode c_S_findModel 26 = .ok (.if_icmp .lt 5, 3) := by decide +kernel
theorem d_S_findModel_29 : decode c_S_findModel 29 = .ok (.iconst 1, 1) := by decide +kernel
theorem d_S_findModel_30 : decode c_S_findModel 30 = .ok (.ireturn, 1) := by decide +kernel
theorem d_S_findModel_31 : decode c_S_findModel 31 = .ok (.aload_n 0, 1) := by decide +kernel
theorem d_S_findModel_32 : decode c_S_findModel 32 = .ok (.iload_n 2, 1) := by decide +kernel
theorem d_S_findModel_33 : decode c_S_findModel 33 = .ok (.invokevirtual 30, 3) := by decide +kernel
theorem d_S_findModel_36 : decode c_S_findModel 36 = .ok (.goto 15, 3) := by decide +kernel
theorem d_S_findModel_39 : decode c_S_findModel 39 = .ok (.aload_n 0, 1) := by decide +kernel
theorem d_S_findModel_40 : decode c_S_findModel 40 = .ok (.aload_n 1, 1) := by decide +kernel
theorem d_S_findModel_41 : decode c_S_findModel 41 = .ok (.iload 4, 2) := by decide +kernel
theorem d_S_findModel_43 : decode c_S_findModel 43 = .ok (.invokevirtual 34, 3) := by decide +kernel
theorem d_S_findModel_46 : decode c_S_findModel 46 = .ok (.ifCond .ne 5, 3) := by decide +kernel
theorem d_S_findModel_49 : decode c_S_findModel 49 = .ok (.iconst 0, 1) := by decide +kernel
theorem d_S_findModel_50 : decode c_S_findModel 50 = .ok (.ireturn, 1) := by decide +kernel
theorem d_S_findModel_51 : decode c_S_findModel 51 = .ok (.iinc 3 1, 3) := by decide +kernel
theorem d_S_findModel_54 : decode c_S_findModel 54 = .ok (.goto (-52), 3) := by decide +kernel
theorem d_S_findModel_57 : decode c_S_findModel 57 = .ok (.iconst 0, 1) := by decide +kernel
theorem d_S_findModel_58 : decode c_S_findModel 58 = .ok (.ireturn, 1) := by decide +kernel
theorem d_S_propagate_0 : decode c_S_propagate 0 = .ok (.iconst 1, 1) := by decide +kernel
theorem d_S_propagate_1 : decode c_S_propagate 1 = .ok (.istore_n 2, 1) := by decide +kernel
theorem d_S_propagate_2 : decode c_S_propagate 2 = .ok (.iconst 0, 1) := by decide +kernel
theorem d_S_propagate_3 : decode c_S_propagate 3 = .ok (.istore_n 3, 1) := by decide +kernel
theorem d_S_propagate_4 : decode c_S_propagate 4 = .ok (.iload_n 2, 1) := by decide +kernel
theorem d_S_propagate_5 : decode c_S_propagate 5 = .ok (.ifCond .eq 52, 3) := by decide +kernel
theorem d_S_propagate_8 : decode c_S_propagate 8 = .ok (.iload_n 3, 1) := by decide +kernel
theorem d_S_propagate_9 : decode c_S_propagate 9 = .ok (.bipush 10, 2) := by decide +kernel
theorem d_S_propagate_11 : decode c_S_propagate 11 = .ok (.if_icmp .gt 46, 3) := by decide +kernel
theorem d_S_propagate_14 : decode c_S_propagate 14 = .ok (.aload_n 0, 1) := by decide +kernel
theorem d_S_propagate_15 : decode c_S_propagate 15 = .ok (.getfield 18, 3) := by decide +kernel
theorem d_S_propagate_18 : decode c_S_propagate 18 = .ok (.istore 4, 2) := by decide +kernel
theorem d_S_propagate_20 : decode c_S_propagate 20 = .ok (.aload_n 0, 1) := by decide +kernel
theorem d_S_propagate_21 : decode c_S_propagate 21 = .ok (.aload_n 1, 1) := by decide +kernel
theorem d_S_propagate_22 : decode c_S_propagate 22 = .ok (.invokevirtual 38, 3) := by decide +kernel
theorem d_S_propagate_25 : decode c_S_propagate 25 = .ok (.istore 5, 2) := by decide +kernel
theorem d_S_propagate_27 : decode c_S_propagate 27 = .ok (.iload 5, 2) := by decide +kernel
theorem d_S_propagate_29 : decode c_S_propagate 29 = .ok (.iconst (-1), 1) := by decide +kernel
theorem d_S_propagate_30 : decode c_S_propagate 30 = .ok (.if_icmp .eq 6, 3) := by decide +kernel
theorem d_S_propagate_33 : decode c_S_propagate 33 = .ok (.iload 5, 2) := by decide +kernel
theorem d_S_propagate_35 : decode c_S_propagate 35 = .ok (.ireturn, 1) := by decide +kernel
theorem d_S_propagate_36 : decode c_S_propagate 36 = .ok (.aload_n 0, 1) := by decide +kernel
theorem d_S_propagate_37 : decode c_S_propagate 37 = .ok (.getfield 18, 3) := by decide +kernel
theorem d_S_propagate_40 : decode c_S_propagate 40 = .ok (.iload 4, 2) := by decide +kernel
theorem d_S_propagate_42 : decode c_S_propagate 42 = .ok (.if_icmp .le 7, 3) := by decide +kernel
theorem d_S_propagate_45 : decode c_S_propagate 45 = .ok (.iconst 1, 1) := by decide +kernel
theorem d_S_propagate_46 : decode c_S_propagate 46 = .ok (.goto 4, 3) := by decide +kernel
theorem d_S_propagate_49 : decode c_S_propagate 49 = .ok (.iconst 0, 1) := by decide +kernel
theorem d_S_propagate_50 : decode c_S_propagate 50 = .ok (.istore_n 2, 1) := by decide +kernel
theorem d_S_propagate_51 : decode c_S_propagate 51 = .ok (.iinc 3 1, 3) := by decide +kernel
theorem d_S_propagate_54 : decode c_S_propagate 54 = .ok (.goto (-50), 3) := by decide +kernel
theorem d_S_propagate_57 : decode c_S_propagate 57 = .ok (.iconst (-1), 1) := by decide +kernel
theorem d_S_propagate_58 : decode c_S_propagate 58 = .ok (.ireturn, 1) := by decide +kernel
theorem d_S_sweep_0 : decode c_S_sweep 0 = .ok (.aload_n 1, 1) := by decide +kernel
theorem d_S_sweep_1 : decode c_S_sweep 1 = .ok (.invokevirtual 41, 3) := by decide +kernel
theorem d_S_sweep_4 : decode c_S_sweep 4 = .ok (.istore_n 2, 1) := by decide +kernel
theorem d_S_sweep_5 : decode c_S_sweep 5 = .ok (.iconst 0, 1) := by decide +kernel
theorem d_S_sweep_6 : decode c_S_sweep 6 = .ok (.istore_n 3, 1) := by decide +kernel
theorem d_S_sweep_7 : decode c_S_sweep 7 = .ok (.iload_n 3, 1) := by decide +kernel
theorem d_S_sweep_8 : decode c_S_sweep 8 = .ok (.iload_n 2, 1) := by decide +kernel
theorem d_S_sweep_9 : decode c_S_sweep 9 = .ok (.if_icmp .ge 62, 3) := by decide +kernel
theorem d_S_sweep_12 : decode c_S_sweep 12 = .ok (.aload_n 1, 1) := by decide +kernel
theorem d_S_sweep_13 : decode c_S_sweep 13 = .ok (.iload_n 3, 1) := by decide +kernel
theorem d_S_sweep_14 : decode c_S_sweep 14 = .ok (.invokevirtual 47, 3) := by decide +kernel
theorem d_S_sweep_17 : decode c_S_sweep 17 = .ok (.istore 4, 2) := by decide +kernel
theorem d_S_sweep_19 : decode c_S_sweep 19 = .ok (.iload 4, 2) := by decide +kernel
theorem d_S_sweep_21 : decode c_S_sweep 21 = .ok (.aload_n 0, 1) := by decide +kernel
theorem d_S_sweep_22 : decode c_S_sweep 22 = .ok (.getfield 22, 3) := by decide +kernel
theorem d_S_sweep_25 : decode c_S_sweep 25 = .ok (.iand, 1) := by decide +kernel
theorem d_S_sweep_26 : decode c_S_sweep 26 = .ok (.ifCond .ne 39, 3) := by decide +kernel
theorem d_S_sweep_29 : decode c_S_sweep 29 = .ok (.iload 4, 2) := by decide +kernel
theorem d_S_sweep_31 : decode c_S_sweep 31 = .ok (.aload_n 0, 1) := by decide +kernel
theorem d_S_sweep_32 : decode c_S_sweep 32 = .ok (.getfield 22, 3) := by decide +kernel
theorem d_S_sweep_35 : decode c_S_sweep 35 = .ok (.invokestatic 51, 3) := by decide +kernel
theorem d_S_sweep_38 : decode c_S_sweep 38 = .ok (.iconst (-1), 1) := by decide +kernel
theorem d_S_sweep_39 : decode c_S_sweep 39 = .ok (.ixor, 1) := by decide +kernel
theorem d_S_sweep_40 : decode c_S_sweep 40 = .ok (.iand, 1) := by decide +kernel
theorem d_S_sweep_41 : decode c_S_sweep 41 = .ok (.istore 5, 2) := by decide +kernel
theorem d_S_sweep_43 : decode c_S_sweep 43 = .ok (.iload 5, 2) := by decide +kernel
theorem d_S_sweep_45 : decode c_S_sweep 45 = .ok (.ifCond .ne 5, 3) := by decide +kernel
theorem d_S_sweep_48 : decode c_S_sweep 48 = .ok (.iload_n 3, 1) := by decide +kernel
theorem d_S_sweep_49 : decode c_S_sweep 49 = .ok (.ireturn, 1) := by decide +kernel
theorem d_S_sweep_50 : decode c_S_sweep 50 = .ok (.iload 5, 2) := by decide +kernel
theorem d_S_sweep_52 : decode c_S_sweep 52 = .ok (.invokestatic 56, 3) := by decide +kernel
theorem d_S_sweep_55 : decode c_S_sweep 55 = .ok (.ifCond .eq 10, 3) := by decide +kernel
theorem d_S_sweep_58 : decode c_S_sweep 58 = .ok (.aload_n 0, 1) := by decide +kernel
theorem d_S_sweep_59 : decode c_S_sweep 59 = .ok (.iload 5, 2) := by decide +kernel
theorem d_S_sweep_61 : decode c_S_sweep 61 = .ok (.iload_n 3, 1) := by decide +kernel
theorem d_S_sweep_62 : decode c_S_sweep 62 = .ok (.invokevirtual 60, 3) := by decide +kernel
theorem d_S_sweep_65 : decode c_S_sweep 65 = .ok (.iinc 3 1, 3) := by decide +kernel
theorem d_S_sweep_68 : decode c_S_sweep 68 = .ok (.goto (-61), 3) := by decide +kernel
theorem d_S_sweep_71 : decode c_S_sweep 71 = .ok (.iconst (-1), 1) := by decide +kernel
theorem d_S_sweep_72 : decode c_S_sweep 72 = .ok (.ireturn, 1) := by decide +kernel
theorem d_S_decide_0 : decode c_S_decide 0 = .ok (.iload_n 1, 1) := by decide +kernel
theorem d_S_decide_1 : decode c_S_decide 1 = .ok (.invokestatic 64, 3) := by decide +kernel
theorem d_S_decide_4 : decode c_S_decide 4 = .ok (.aload_n 0, 1) := by decide +kernel
theorem d_S_decide_5 : decode c_S_decide 5 = .ok (.getfield 22, 3) := by decide +kernel
theorem d_S_decide_8 : decode c_S_decide 8 = .ok (.aload_n 0, 1) := by decide +kernel
theorem d_S_decide_9 : decode c_S_decide 9 = .ok (.getfield 22, 3) := by decide +kernel
theorem d_S_decide_12 : decode c_S_decide 12 = .ok (.invokestatic 51, 3) := by decide +kernel
theorem d_S_decide_15 : decode c_S_decide 15 = .ok (.ior, 1) := by decide +kernel
theorem d_S_decide_16 : decode c_S_decide 16 = .ok (.iconst (-1), 1) := by decide +kernel
theorem d_S_decide_17 : decode c_S_decide 17 = .ok (.ixor, 1) := by decide +kernel
theorem d_S_decide_18 : decode c_S_decide 18 = .ok (.iand, 1) := by decide +kernel
theorem d_S_decide_19 : decode c_S_decide 19 = .ok (.istore_n 2, 1) := by decide +kernel
theorem d_S_decide_20 : decode c_S_decide 20 = .ok (.aload_n 0, 1) := by decide +kernel
theorem d_S_decide_21 : decode c_S_decide 21 = .ok (.iload_n 2, 1) := by decide +kernel
theorem d_S_decide_22 : decode c_S_decide 22 = .ok (.iload_n 2, 1) := by decide +kernel
theorem d_S_decide_23 : decode c_S_decide 23 = .ok (.ineg, 1) := by decide +kernel
theorem d_S_decide_24 : decode c_S_decide 24 = .ok (.iand, 1) := by decide +kernel
theorem d_S_decide_25 : decode c_S_decide 25 = .ok (.invokestatic 51, 3) := by decide +kernel
theorem d_S_decide_28 : decode c_S_decide 28 = .ok (.iconst (-1), 1) := by decide +kernel
theorem d_S_decide_29 : decode c_S_decide 29 = .ok (.invokevirtual 60, 3) := by decide +kernel
theorem d_S_decide_32 : decode c_S_decide 32 = .ok (.return_, 1) := by decide +kernel
theorem d_S_hold_0 : decode c_S_hold 0 = .ok (.aload_n 0, 1) := by decide +kernel
theorem d_S_hold_1 : decode c_S_hold 1 = .ok (.getfield 18, 3) := by decide +kernel
theorem d_S_hold_4 : decode c_S_hold 4 = .ok (.aload_n 0, 1) := by decide +kernel
theorem d_S_hold_5 : decode c_S_hold 5 = .ok (.getfield 9, 3) := by decide +kernel
theorem d_S_hold_8 : decode c_S_hold 8 = .ok (.arraylength, 1) := by decide +kernel
theorem d_S_hold_9 : decode c_S_hold 9 = .ok (.if_icmp .ge 43, 3) := by decide +kernel
theorem d_S_hold_12 : decode c_S_hold 12 = .ok (.aload_n 0, 1) := by decide +kernel
theorem d_S_hold_13 : decode c_S_hold 13 = .ok (.getfield 9, 3) := by decide +kernel
theorem d_S_hold_16 : decode c_S_hold 16 = .ok (.aload_n 0, 1) := by decide +kernel
theorem d_S_hold_17 : decode c_S_hold 17 = .ok (.getfield 18, 3) := by decide +kernel
theorem d_S_hold_20 : decode c_S_hold 20 = .ok (.iload_n 1, 1) := by decide +kernel
theorem d_S_hold_21 : decode c_S_hold 21 = .ok (.iastore, 1) := by decide +kernel
theorem d_S_hold_22 : decode c_S_hold 22 = .ok (.aload_n 0, 1) := by decide +kernel
theorem d_S_hold_23 : decode c_S_hold 23 = .ok (.getfield 15, 3) := by decide +kernel
theorem d_S_hold_26 : decode c_S_hold 26 = .ok (.aload_n 0, 1) := by decide +kernel
theorem d_S_hold_27 : decode c_S_hold 27 = .ok (.getfield 18, 3) := by decide +kernel
theorem d_S_hold_30 : decode c_S_hold 30 = .ok (.iload_n 2, 1) := by decide +kernel
theorem d_S_hold_31 : decode c_S_hold 31 = .ok (.iastore, 1) := by decide +kernel
theorem d_S_hold_32 : decode c_S_hold 32 = .ok (.aload_n 0, 1) := by decide +kernel
theorem d_S_hold_33 : decode c_S_hold 33 = .ok (.dup, 1) := by decide +kernel
theorem d_S_hold_34 : decode c_S_hold 34 = .ok (.getfield 18, 3) := by decide +kernel
theorem d_S_hold_37 : decode c_S_hold 37 = .ok (.iconst 1, 1) := by decide +kernel
theorem d_S_hold_38 : decode c_S_hold 38 = .ok (.iadd, 1) := by decide +kernel
theorem d_S_hold_39 : decode c_S_hold 39 = .ok (.putfield 18, 3) := by decide +kernel
theorem d_S_hold_42 : decode c_S_hold 42 = .ok (.aload_n 0, 1) := by decide +kernel
theorem d_S_hold_43 : decode c_S_hold 43 = .ok (.dup, 1) := by decide +kernel
theorem d_S_hold_44 : decode c_S_hold 44 = .ok (.getfield 22, 3) := by decide +kernel
theorem d_S_hold_47 : decode c_S_hold 47 = .ok (.iload_n 1, 1) := by decide +kernel
theorem d_S_hold_48 : decode c_S_hold 48 = .ok (.ior, 1) := by decide +kernel
theorem d_S_hold_49 : decode c_S_hold 49 = .ok (.putfield 22, 3) := by decide +kernel
theorem d_S_hold_52 : decode c_S_hold 52 = .ok (.return_, 1) := by decide +kernel
theorem d_S_learn_0 : decode c_S_learn 0 = .ok (.aload_n 0, 1) := by decide +kernel
theorem d_S_learn_1 : decode c_S_learn 1 = .ok (.invokevirtual 67, 3) := by decide +kernel
theorem d_S_learn_4 : decode c_S_learn 4 = .ok (.istore_n 3, 1) := by decide +kernel
theorem d_S_learn_5 : decode c_S_learn 5 = .ok (.aload_n 0, 1) := by decide +kernel
theorem d_S_learn_6 : decode c_S_learn 6 = .ok (.iload_n 3, 1) := by decide +kernel
theorem d_S_learn_7 : decode c_S_learn 7 = .ok (.invokevirtual 70, 3) := by decide +kernel
theorem d_S_learn_10 : decode c_S_learn 10 = .ok (.istore 4, 2) := by decide +kernel
theorem d_S_learn_12 : decode c_S_learn 12 = .ok (.aload_n 1, 1) := by decide +kernel
theorem d_S_learn_13 : decode c_S_learn 13 = .ok (.iload_n 2, 1) := by decide +kernel
theorem d_S_learn_14 : decode c_S_learn 14 = .ok (.invokevirtual 47, 3) := by decide +kernel
theorem d_S_learn_17 : decode c_S_learn 17 = .ok (.istore 5, 2) := by decide +kernel
theorem d_S_learn_19 : decode c_S_learn 19 = .ok (.aload_n 1, 1) := by decide +kernel
theorem d_S_learn_20 : decode c_S_learn 20 = .ok (.iload_n 2, 1) := by decide +kernel
theorem d_S_learn_21 : decode c_S_learn 21 = .ok (.invokevirtual 73, 3) := by decide +kernel
theorem d_S_learn_24 : decode c_S_learn 24 = .ok (.aload_n 0, 1) := by decide +kernel
theorem d_S_learn_25 : decode c_S_learn 25 = .ok (.getfield 18, 3) := by decide +kernel
theorem d_S_learn_28 : decode c_S_learn 28 = .ok (.iconst 1, 1) := by decide +kernel
theorem d_S_learn_29 : decode c_S_learn 29 = .ok (.isub, 1) := by decide +kernel
theorem d_S_learn_30 : decode c_S_learn 30 = .ok (.istore 6, 2) := by decide +kernel
theorem d_S_learn_32 : decode c_S_learn 32 = .ok (.iload 6, 2) := by decide +kernel
theorem d_S_learn_34 : decode c_S_learn 34 = .ok (.iload_n 3, 1) := by decide +kernel
theorem d_S_learn_35 : decode c_S_learn 35 = .ok (.if_icmp .le 90, 3) := by decide +kernel
theorem d_S_learn_38 : decode c_S_learn 38 = .ok (.iload_n 3, 1) := by decide +kernel
theorem d_S_learn_39 : decode c_S_learn 39 = .ok (.iconst (-1), 1) := by decide +kernel
theorem d_S_learn_40 : decode c_S_learn 40 = .ok (.if_icmp .eq 17, 3) := by decide +kernel
theorem d_S_learn_43 : decode c_S_learn 43 = .ok (.iload 5, 2) := by decide +kernel
theorem d_S_learn_45 : decode c_S_learn 45 = .ok (.iload 4, 2) := by decide +kernel
theorem d_S_learn_47 : decode c_S_learn 47 = .ok (.iand, 1) := by decide +kernel
theorem d_S_learn_48 : decode c_S_learn 48 = .ok (.invokestatic 56, 3) := by decide +kernel
theorem d_S_learn_51 : decode c_S_learn 51 = .ok (.ifCond .eq 6, 3) := by decide +kernel
theorem d_S_learn_54 : decode c_S_learn 54 = .ok (.goto 71, 3) := by decide +kernel
theorem d_S_learn_57 : decode c_S_learn 57 = .ok (.aload_n 0, 1) := by decide +kernel
theorem d_S_learn_58 : decode c_S_learn 58 = .ok (.getfield 9, 3) := by decide +kernel
theorem d_S_learn_61 : decode c_S_learn 61 = .ok (.iload 6, 2) := by decide +kernel
theorem d_S_learn_63 : decode c_S_learn 63 = .ok (.iaload, 1) := by decide +kernel
theorem d_S_learn_64 : decode c_S_learn 64 = .ok (.invokestatic 51, 3) := by decide +kernel
theorem d_S_learn_67 : decode c_S_learn 67 = .ok (.istore 7, 2) := by decide +kernel
theorem d_S_learn_69 : decode c_S_learn 69 = .ok (.iload 5, 2) := by decide +kernel
theorem d_S_learn_71 : decode c_S_learn 71 = .ok (.iload 7, 2) := by decide +kernel
theorem d_S_learn_73 : decode c_S_learn 73 = .ok (.iand, 1) := by decide +kernel
theorem d_S_learn_74 : decode c_S_learn 74 = .ok (.ifCond .eq 45, 3) := by decide +kernel
theorem d_S_learn_77 : decode c_S_learn 77 = .ok (.iload 5, 2) := by decide +kernel
theorem d_S_learn_79 : decode c_S_learn 79 = .ok (.iload 7, 2) := by decide +kernel
theorem d_S_learn_81 : decode c_S_learn 81 = .ok (.iconst (-1), 1) := by decide +kernel
theorem d_S_learn_82 : decode c_S_learn 82 = .ok (.ixor, 1) := by decide +kernel
theorem d_S_learn_83 : decode c_S_learn 83 = .ok (.iand, 1) := by decide +kernel
theorem d_S_learn_84 : decode c_S_learn 84 = .ok (.aload_n 1, 1) := by decide +kernel
theorem d_S_learn_85 : decode c_S_learn 85 = .ok (.aload_n 0, 1) := by decide +kernel
theorem d_S_learn_86 : decode c_S_learn 86 = .ok (.getfield 15, 3) := by decide +kernel
theorem d_S_learn_89 : decode c_S_learn 89 = .ok (.iload 6, 2) := by decide +kernel
theorem d_S_learn_91 : decode c_S_learn 91 = .ok (.iaload, 1) := by decide +kernel
theorem d_S_learn_92 : decode c_S_learn 92 = .ok (.invokevirtual 47, 3) := by decide +kernel
theorem d_S_learn_95 : decode c_S_learn 95 = .ok (.aload_n 0, 1) := by decide +kernel
theorem d_S_learn_96 : decode c_S_learn 96 = .ok (.getfield 9, 3) := by decide +kernel
theorem d_S_learn_99 : decode c_S_learn 99 = .ok (.iload 6, 2) := by decide +kernel
theorem d_S_learn_101 : decode c_S_learn 101 = .ok (.iaload, 1) := by decide +kernel
theorem d_S_learn_102 : decode c_S_learn 102 = .ok (.iconst (-1), 1) := by decide +kernel
theorem d_S_learn_103 : decode c_S_learn 103 = .ok (.ixor, 1) := by decide +kernel
theorem d_S_learn_104 : decode c_S_learn 104 = .ok (.iand, 1) := by decide +kernel
theorem d_S_learn_105 : decode c_S_learn 105 = .ok (.ior, 1) := by decide +kernel
theorem d_S_learn_106 : decode c_S_learn 106 = .ok (.istore 5, 2) := by decide +kernel
theorem d_S_learn_108 : decode c_S_learn 108 = .ok (.aload_n 1, 1) := by decide +kernel
theorem d_S_learn_109 : decode c_S_learn 109 = .ok (.aload_n 0, 1) := by decide +kernel
theorem d_S_learn_110 : decode c_S_learn 110 = .ok (.getfield 15, 3) := by decide +kernel
theorem d_S_learn_113 : decode c_S_learn 113 = .ok (.iload 6, 2) := by decide +kernel
theorem d_S_learn_115 : decode c_S_learn 115 = .ok (.iaload, 1) := by decide +kernel
theorem d_S_learn_116 : decode c_S_learn 116 = .ok (.invokevirtual 73, 3) := by decide +kernel
theorem d_S_learn_119 : decode c_S_learn 119 = .ok (.iinc 6 (-1), 3) := by decide +kernel
theorem d_S_learn_122 : decode c_S_learn 122 = .ok (.goto (-90), 3) := by decide +kernel
theorem d_S_learn_125 : decode c_S_learn 125 = .ok (.aload_n 1, 1) := by decide +kernel
theorem d_S_learn_126 : decode c_S_learn 126 = .ok (.iload 5, 2) := by decide +kernel
theorem d_S_learn_128 : decode c_S_learn 128 = .ok (.invokevirtual 76, 3) := by decide +kernel
theorem d_S_learn_131 : decode c_S_learn 131 = .ok (.aload_n 0, 1) := by decide +kernel
theorem d_S_learn_132 : decode c_S_learn 132 = .ok (.aload_n 0, 1) := by decide +kernel
theorem d_S_learn_133 : decode c_S_learn 133 = .ok (.iload 5, 2) := by decide +kernel
theorem d_S_learn_135 : decode c_S_learn 135 = .ok (.iload_n 3, 1) := by decide +kernel
theorem d_S_learn_136 : decode c_S_learn 136 = .ok (.invokevirtual 79, 3) := by decide +kernel
theorem d_S_learn_139 : decode c_S_learn 139 = .ok (.invokevirtual 83, 3) := by decide +kernel
theorem d_S_learn_142 : decode c_S_learn 142 = .ok (.iload 5, 2) := by decide +kernel
theorem d_S_learn_144 : decode c_S_learn 144 = .ok (.ireturn, 1) := by decide +kernel
theorem d_S_latestDecision_0 : decode c_S_latestDecision 0 = .ok (.aload_n 0, 1) := by decide +kernel
theorem d_S_latestDecision_1 : decode c_S_latestDecision 1 = .ok (.getfield 18, 3) := by decide +kernel
theorem d_S_latestDecision_4 : decode c_S_latestDecision 4 = .ok (.iconst 1, 1) := by decide +kernel
theorem d_S_latestDecision_5 : decode c_S_latestDecision 5 = .ok (.isub, 1) := by decide +kernel
theorem d_S_latestDecision_6 : decode c_S_latestDecision 6 = .ok (.istore_n 1, 1) := by decide +kernel
theorem d_S_latestDecision_7 : decode c_S_latestDecision 7 = .ok (.iload_n 1, 1) := by decide +kernel
theorem d_S_latestDecision_8 : decode c_S_latestDecision 8 = .ok (.ifCond .lt 19, 3) := by decide +kernel
theorem d_S_latestDecision_11 : decode c_S_latestDecision 11 = .ok (.aload_n 0, 1) := by decide +kernel
theorem d_S_latestDecision_12 : decode c_S_latestDecision 12 = .ok (.getfield 15, 3) := by decide +kernel
theorem d_S_latestDecision_15 : decode c_S_latestDecision 15 = .ok (.iload_n 1, 1) := by decide +kernel
theorem d_S_latestDecision_16 : decode c_S_latestDecision 16 = .ok (.iaload, 1) := by decide +kernel
theorem d_S_latestDecision_17 : decode c_S_latestDecision 17 = .ok (.iconst (-1), 1) := by decide +kernel
theorem d_S_latestDecision_18 : decode c_S_latestDecision 18 = .ok (.if_icmp .eq 9, 3) := by decide +kernel
theorem d_S_latestDecision_21 : decode c_S_latestDecision 21 = .ok (.iinc 1 (-1), 3) := by decide +kernel
theorem d_S_latestDecision_24 : decode c_S_latestDecision 24 = .ok (.goto (-17), 3) := by decide +kernel
theorem d_S_latestDecision_27 : decode c_S_latestDecision 27 = .ok (.iload_n 1, 1) := by decide +kernel
theorem d_S_latestDecision_28 : decode c_S_latestDecision 28 = .ok (.ireturn, 1) := by decide +kernel
theorem d_S_deniedFrom_0 : decode c_S_deniedFrom 0 = .ok (.iconst 0, 1) := by decide +kernel
theorem d_S_deniedFrom_1 : decode c_S_deniedFrom 1 = .ok (.istore_n 2, 1) := by decide +kernel
theorem d_S_deniedFrom_2 : decode c_S_deniedFrom 2 = .ok (.iload_n 1, 1) := by decide +kernel
theorem d_S_deniedFrom_3 : decode c_S_deniedFrom 3 = .ok (.iconst 0, 1) := by decide +kernel
theorem d_S_deniedFrom_4 : decode c_S_deniedFrom 4 = .ok (.invokestatic 86, 3) := by decide +kernel
theorem d_S_deniedFrom_7 : decode c_S_deniedFrom 7 = .ok (.istore_n 3, 1) := by decide +kernel
theorem d_S_deniedFrom_8 : decode c_S_deniedFrom 8 = .ok (.iload_n 3, 1) := by decide +kernel
theorem d_S_deniedFrom_9 : decode c_S_deniedFrom 9 = .ok (.aload_n 0, 1) := by decide +kernel
theorem d_S_deniedFrom_10 : decode c_S_deniedFrom 10 = .ok (.getfield 18, 3) := by decide +kernel
theorem d_S_deniedFrom_13 : decode c_S_deniedFrom 13 = .ok (.if_icmp .ge 18, 3) := by decide +kernel
theorem d_S_deniedFrom_16 : decode c_S_deniedFrom 16 = .ok (.iload_n 2, 1) := by decide +kernel
theorem d_S_deniedFrom_17 : decode c_S_deniedFrom 17 = .ok (.aload_n 0, 1) := by decide +kernel
theorem d_S_deniedFrom_18 : decode c_S_deniedFrom 18 = .ok (.getfield 9, 3) := by decide +kernel
theorem d_S_deniedFrom_21 : decode c_S_deniedFrom 21 = .ok (.iload_n 3, 1) := by decide +kernel
theorem d_S_deniedFrom_22 : decode c_S_deniedFrom 22 = .ok (.iaload, 1) := by decide +kernel
theorem d_S_deniedFrom_23 : decode c_S_deniedFrom 23 = .ok (.ior, 1) := by decide +kernel
theorem d_S_deniedFrom_24 : decode c_S_deniedFrom 24 = .ok (.istore_n 2, 1) := by decide +kernel
theorem d_S_deniedFrom_25 : decode c_S_deniedFrom 25 = .ok (.iinc 3 1, 3) := by decide +kernel
theorem d_S_deniedFrom_28 : decode c_S_deniedFrom 28 = .ok (.goto (-20), 3) := by decide +kernel
theorem d_S_deniedFrom_31 : decode c_S_deniedFrom 31 = .ok (.iload_n 2, 1) := by decide +kernel
theorem d_S_deniedFrom_32 : decode c_S_deniedFrom 32 = .ok (.invokestatic 51, 3) := by decide +kernel
theorem d_S_deniedFrom_35 : decode c_S_deniedFrom 35 = .ok (.ireturn, 1) := by decide +kernel
theorem d_S_jumpTarget_0 : decode c_S_jumpTarget 0 = .ok (.iload_n 2, 1) := by decide +kernel
theorem d_S_jumpTarget_1 : decode c_S_jumpTarget 1 = .ok (.iconst 0, 1) := by decide +kernel
theorem d_S_jumpTarget_2 : decode c_S_jumpTarget 2 = .ok (.invokestatic 86, 3) := by decide +kernel
theorem d_S_jumpTarget_5 : decode c_S_jumpTarget 5 = .ok (.istore_n 3, 1) := by decide +kernel
theorem d_S_jumpTarget_6 : decode c_S_jumpTarget 6 = .ok (.iload_n 3, 1) := by decide +kernel
theorem d_S_jumpTarget_7 : decode c_S_jumpTarget 7 = .ok (.iconst 1, 1) := by decide +kernel
theorem d_S_jumpTarget_8 : decode c_S_jumpTarget 8 = .ok (.isub, 1) := by decide +kernel
theorem d_S_jumpTarget_9 : decode c_S_jumpTarget 9 = .ok (.istore 4, 2) := by decide +kernel
theorem d_S_jumpTarget_11 : decode c_S_jumpTarget 11 = .ok (.iload 4, 2) := by decide +kernel
theorem d_S_jumpTarget_13 : decode c_S_jumpTarget 13 = .ok (.ifCond .lt 41, 3) := by decide +kernel
theorem d_S_jumpTarget_16 : decode c_S_jumpTarget 16 = .ok (.iload_n 1, 1) := by decide +kernel
theorem d_S_jumpTarget_17 : decode c_S_jumpTarget 17 = .ok (.aload_n 0, 1) := by decide +kernel
theorem d_S_jumpTarget_18 : decode c_S_jumpTarget 18 = .ok (.getfield 9, 3) := by decide +kernel
theorem d_S_jumpTarget_21 : decode c_S_jumpTarget 21 = .ok (.iload 4, 2) := by decide +kernel
theorem d_S_jumpTarget_23 : decode c_S_jumpTarget 23 = .ok (.iaload, 1) := by decide +kernel
theorem d_S_jumpTarget_24 : decode c_S_jumpTarget 24 = .ok (.invokestatic 51, 3) := by decide +kernel
theorem d_S_jumpTarget_27 : decode c_S_jumpTarget 27 = .ok (.iand, 1) := by decide +kernel
theorem d_S_jumpTarget_28 : decode c_S_jumpTarget 28 = .ok (.ifCond .eq 6, 3) := by decide +kernel
theorem d_S_jumpTarget_31 : decode c_S_jumpTarget 31 = .ok (.goto 23, 3) := by decide +kernel
theorem d_S_jumpTarget_34 : decode c_S_jumpTarget 34 = .ok (.aload_n 0, 1) := by decide +kernel
theorem d_S_jumpTarget_35 : decode c_S_jumpTarget 35 = .ok (.getfield 15, 3) := by decide +kernel
theorem d_S_jumpTarget_38 : decode c_S_jumpTarget 38 = .ok (.iload 4, 2) := by decide +kernel
theorem d_S_jumpTarget_40 : decode c_S_jumpTarget 40 = .ok (.iaload, 1) := by decide +kernel
theorem d_S_jumpTarget_41 : decode c_S_jumpTarget 41 = .ok (.iconst (-1), 1) := by decide +kernel
theorem d_S_jumpTarget_42 : decode c_S_jumpTarget 42 = .ok (.if_icmp .ne 6, 3) := by decide +kernel
theorem d_S_jumpTarget_45 : decode c_S_jumpTarget 45 = .ok (.iload 4, 2) := by decide +kernel
theorem d_S_jumpTarget_47 : decode c_S_jumpTarget 47 = .ok (.istore_n 3, 1) := by decide +kernel
theorem d_S_jumpTarget_48 : decode c_S_jumpTarget 48 = .ok (.iinc 4 (-1), 3) := by decide +kernel
theorem d_S_jumpTarget_51 : decode c_S_jumpTarget 51 = .ok (.goto (-40), 3) := by decide +kernel
theorem d_S_jumpTarget_54 : decode c_S_jumpTarget 54 = .ok (.iload_n 3, 1) := by decide +kernel
theorem d_S_jumpTarget_55 : decode c_S_jumpTarget 55 = .ok (.ireturn, 1) := by decide +kernel
theorem d_S_cut_0 : decode c_S_cut 0 = .ok (.aload_n 0, 1) := by decide +kernel
theorem d_S_cut_1 : decode c_S_cut 1 = .ok (.getfield 18, 3) := by decide +kernel
theorem d_S_cut_4 : decode c_S_cut 4 = .ok (.iconst 1, 1) := by decide +kernel
theorem d_S_cut_5 : decode c_S_cut 5 = .ok (.isub, 1) := by decide +kernel
theorem d_S_cut_6 : decode c_S_cut 6 = .ok (.istore_n 2, 1) := by decide +kernel
theorem d_S_cut_7 : decode c_S_cut 7 = .ok (.iload_n 2, 1) := by decide +kernel
theorem d_S_cut_8 : decode c_S_cut 8 = .ok (.iload_n 1, 1) := by decide +kernel
theorem d_S_cut_9 : decode c_S_cut 9 = .ok (.if_icmp .lt 30, 3) := by decide +kernel
theorem d_S_cut_12 : decode c_S_cut 12 = .ok (.iload_n 2, 1) := by decide +kernel
theorem d_S_cut_13 : decode c_S_cut 13 = .ok (.ifCond .lt 26, 3) := by decide +kernel
theorem d_S_cut_16 : decode c_S_cut 16 = .ok (.aload_n 0, 1) := by decide +kernel
theorem d_S_cut_17 : decode c_S_cut 17 = .ok (.dup, 1) := by decide +kernel
theorem d_S_cut_18 : decode c_S_cut 18 = .ok (.getfield 22, 3) := by decide +kernel
theorem d_S_cut_21 : decode c_S_cut 21 = .ok (.aload_n 0, 1) := by decide +kernel
theorem d_S_cut_22 : decode c_S_cut 22 = .ok (.getfield 9, 3) := by decide +kernel
theorem d_S_cut_25 : decode c_S_cut 25 = .ok (.iload_n 2, 1) := by decide +kernel
theorem d_S_cut_26 : decode c_S_cut 26 = .ok (.iaload, 1) := by decide +kernel
theorem d_S_cut_27 : decode c_S_cut 27 = .ok (.iconst (-1), 1) := by decide +kernel
theorem d_S_cut_28 : decode c_S_cut 28 = .ok (.ixor, 1) := by decide +kernel
theorem d_S_cut_29 : decode c_S_cut 29 = .ok (.iand, 1) := by decide +kernel
theorem d_S_cut_30 : decode c_S_cut 30 = .ok (.putfield 22, 3) := by decide +kernel
theorem d_S_cut_33 : decode c_S_cut 33 = .ok (.iinc 2 (-1), 3) := by decide +kernel
theorem d_S_cut_36 : decode c_S_cut 36 = .ok (.goto (-29), 3) := by decide +kernel
theorem d_S_cut_39 : decode c_S_cut 39 = .ok (.aload_n 0, 1) := by decide +kernel
theorem d_S_cut_40 : decode c_S_cut 40 = .ok (.aload_n 0, 1) := by decide +kernel
theorem d_S_cut_41 : decode c_S_cut 41 = .ok (.getfield 18, 3) := by decide +kernel
theorem d_S_cut_44 : decode c_S_cut 44 = .ok (.iload_n 1, 1) := by decide +kernel
theorem d_S_cut_45 : decode c_S_cut 45 = .ok (.invokestatic 91, 3) := by decide +kernel
theorem d_S_cut_48 : decode c_S_cut 48 = .ok (.putfield 18, 3) := by decide +kernel
theorem d_S_cut_51 : decode c_S_cut 51 = .ok (.return_, 1) := by decide +kernel
