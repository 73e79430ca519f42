/-! decode rows, by program -/
theorem d_D_init_0 : decode c_D_init 0 = .ok (.aload_n 0, 1) := by decide +kernel
theorem d_D_init_1 : decode c_D_init 1 = .ok (.invokespecial 5, 3) := by decide +kernel
theorem d_D_init_4 : decode c_D_init 4 = .ok (.aload_n 0, 1) := by decide +kernel
theorem d_D_init_5 : decode c_D_init 5 = .ok (.sipush 1575, 3) := by decide +kernel
theorem d_D_init_8 : decode c_D_init 8 = .ok (.newarray .int, 2) := by decide +kernel
theorem d_D_init_10 : decode c_D_init 10 = .ok (.putfield 11, 3) := by decide +kernel
theorem d_D_init_13 : decode c_D_init 13 = .ok (.aload_n 0, 1) := by decide +kernel
theorem d_D_init_14 : decode c_D_init 14 = .ok (.sipush 1575, 3) := by decide +kernel
theorem d_D_init_17 : decode c_D_init 17 = .ok (.newarray .int, 2) := by decide +kernel
theorem d_D_init_19 : decode c_D_init 19 = .ok (.putfield 15, 3) := by decide +kernel
theorem d_D_init_22 : decode c_D_init 22 = .ok (.aload_n 0, 1) := by decide +kernel
theorem d_D_init_23 : decode c_D_init 23 = .ok (.sipush 1575, 3) := by decide +kernel
theorem d_D_init_26 : decode c_D_init 26 = .ok (.newarray .int, 2) := by decide +kernel
theorem d_D_init_28 : decode c_D_init 28 = .ok (.putfield 18, 3) := by decide +kernel
theorem d_D_init_31 : decode c_D_init 31 = .ok (.aload_n 0, 1) := by decide +kernel
theorem d_D_init_32 : decode c_D_init 32 = .ok (.sipush 3060, 3) := by decide +kernel
theorem d_D_init_35 : decode c_D_init 35 = .ok (.newarray .int, 2) := by decide +kernel
theorem d_D_init_37 : decode c_D_init 37 = .ok (.putfield 21, 3) := by decide +kernel
theorem d_D_init_40 : decode c_D_init 40 = .ok (.return_, 1) := by decide +kernel
theorem d_D_give_0 : decode c_D_give 0 = .ok (.aload_n 0, 1) := by decide +kernel
theorem d_D_give_1 : decode c_D_give 1 = .ok (.iload_n 1, 1) := by decide +kernel
theorem d_D_give_2 : decode c_D_give 2 = .ok (.iconst (-1), 1) := by decide +kernel
theorem d_D_give_3 : decode c_D_give 3 = .ok (.iconst (-1), 1) := by decide +kernel
theorem d_D_give_4 : decode c_D_give 4 = .ok (.invokevirtual 24, 3) := by decide +kernel
theorem d_D_give_7 : decode c_D_give 7 = .ok (.return_, 1) := by decide +kernel
theorem d_D_link_0 : decode c_D_link 0 = .ok (.aload_n 0, 1) := by decide +kernel
theorem d_D_link_1 : decode c_D_link 1 = .ok (.getfield 28, 3) := by decide +kernel
theorem d_D_link_4 : decode c_D_link 4 = .ok (.aload_n 0, 1) := by decide +kernel
theorem d_D_link_5 : decode c_D_link 5 = .ok (.getfield 21, 3) := by decide +kernel
theorem d_D_link_8 : decode c_D_link 8 = .ok (.arraylength, 1) := by decide +kernel
theorem d_D_link_9 : decode c_D_link 9 = .ok (.if_icmp .ge 23, 3) := by decide +kernel
theorem d_D_link_12 : decode c_D_link 12 = .ok (.aload_n 0, 1) := by decide +kernel
theorem d_D_link_13 : decode c_D_link 13 = .ok (.getfield 21, 3) := by decide +kernel
theorem d_D_link_16 : decode c_D_link 16 = .ok (.aload_n 0, 1) := by decide +kernel
theorem d_D_link_17 : decode c_D_link 17 = .ok (.getfield 28, 3) := by decide +kernel
theorem d_D_link_20 : decode c_D_link 20 = .ok (.iload_n 1, 1) := by decide +kernel
theorem d_D_link_21 : decode c_D_link 21 = .ok (.iastore, 1) := by decide +kernel
theorem d_D_link_22 : decode c_D_link 22 = .ok (.aload_n 0, 1) := by decide +kernel
theorem d_D_link_23 : decode c_D_link 23 = .ok (.dup, 1) := by decide +kernel
theorem d_D_link_24 : decode c_D_link 24 = .ok (.getfield 28, 3) := by decide +kernel
theorem d_D_link_27 : decode c_D_link 27 = .ok (.iconst 1, 1) := by decide +kernel
theorem d_D_link_28 : decode c_D_link 28 = .ok (.iadd, 1) := by decide +kernel
theorem d_D_link_29 : decode c_D_link 29 = .ok (.putfield 28, 3) := by decide +kernel
theorem d_D_link_32 : decode c_D_link 32 = .ok (.return_, 1) := by decide +kernel
theorem d_D_derive_0 : decode c_D_derive 0 = .ok (.aload_n 0, 1) := by decide +kernel
theorem d_D_derive_1 : decode c_D_derive 1 = .ok (.iload_n 1, 1) := by decide +kernel
theorem d_D_derive_2 : decode c_D_derive 2 = .ok (.aload_n 0, 1) := by decide +kernel
theorem d_D_derive_3 : decode c_D_derive 3 = .ok (.getfield 32, 3) := by decide +kernel
theorem d_D_derive_6 : decode c_D_derive 6 = .ok (.aload_n 0, 1) := by decide +kernel
theorem d_D_derive_7 : decode c_D_derive 7 = .ok (.getfield 28, 3) := by decide +kernel
theorem d_D_derive_10 : decode c_D_derive 10 = .ok (.invokevirtual 24, 3) := by decide +kernel
theorem d_D_derive_13 : decode c_D_derive 13 = .ok (.aload_n 0, 1) := by decide +kernel
theorem d_D_derive_14 : decode c_D_derive 14 = .ok (.aload_n 0, 1) := by decide +kernel
theorem d_D_derive_15 : decode c_D_derive 15 = .ok (.getfield 28, 3) := by decide +kernel
theorem d_D_derive_18 : decode c_D_derive 18 = .ok (.putfield 32, 3) := by decide +kernel
theorem d_D_derive_21 : decode c_D_derive 21 = .ok (.return_, 1) := by decide +kernel
theorem d_D_append_0 : decode c_D_append 0 = .ok (.aload_n 0, 1) := by decide +kernel
theorem d_D_append_1 : decode c_D_append 1 = .ok (.getfield 35, 3) := by decide +kernel
theorem d_D_append_4 : decode c_D_append 4 = .ok (.aload_n 0, 1) := by decide +kernel
theorem d_D_append_5 : decode c_D_append 5 = .ok (.getfield 11, 3) := by decide +kernel
theorem d_D_append_8 : decode c_D_append 8 = .ok (.arraylength, 1) := by decide +kernel
theorem d_D_append_9 : decode c_D_append 9 = .ok (.if_icmp .ge 43, 3) := by decide +kernel
theorem d_D_append_12 : decode c_D_append 12 = .ok (.aload_n 0, 1) := by decide +kernel
theorem d_D_append_13 : decode c_D_append 13 = .ok (.getfield 11, 3) := by decide +kernel
theorem d_D_append_16 : decode c_D_append 16 = .ok (.aload_n 0, 1) := by decide +kernel
theorem d_D_append_17 : decode c_D_append 17 = .ok (.getfield 35, 3) := by decide +kernel
theorem d_D_append_20 : decode c_D_append 20 = .ok (.iload_n 1, 1) := by decide +kernel
theorem d_D_append_21 : decode c_D_append 21 = .ok (.iastore, 1) := by decide +kernel
theorem d_D_append_22 : decode c_D_append 22 = .ok (.aload_n 0, 1) := by decide +kernel
theorem d_D_append_23 : decode c_D_append 23 = .ok (.getfield 15, 3) := by decide +kernel
theorem d_D_append_26 : decode c_D_append 26 = .ok (.aload_n 0, 1) := by decide +kernel
theorem d_D_append_27 : decode c_D_append 27 = .ok (.getfield 35, 3) := by decide +kernel
theorem d_D_append_30 : decode c_D_append 30 = .ok (.iload_n 2, 1) := by decide +kernel
theorem d_D_append_31 : decode c_D_append 31 = .ok (.iastore, 1) := by decide +kernel
theorem d_D_append_32 : decode c_D_append 32 = .ok (.aload_n 0, 1) := by decide +kernel
theorem d_D_append_33 : decode c_D_append 33 = .ok (.getfield 18, 3) := by decide +kernel
theorem d_D_append_36 : decode c_D_append 36 = .ok (.aload_n 0, 1) := by decide +kernel
theorem d_D_append_37 : decode c_D_append 37 = .ok (.getfield 35, 3) := by decide +kernel
theorem d_D_append_40 : decode c_D_append 40 = .ok (.iload_n 3, 1) := by decide +kernel
theorem d_D_append_41 : decode c_D_append 41 = .ok (.iastore, 1) := by decide +kernel
theorem d_D_append_42 : decode c_D_append 42 = .ok (.aload_n 0, 1) := by decide +kernel
theorem d_D_append_43 : decode c_D_append 43 = .ok (.dup, 1) := by decide +kernel
theorem d_D_append_44 : decode c_D_append 44 = .ok (.getfield 35, 3) := by decide +kernel
theorem d_D_append_47 : decode c_D_append 47 = .ok (.iconst 1, 1) := by decide +kernel
theorem d_D_append_48 : decode c_D_append 48 = .ok (.iadd, 1) := by decide +kernel
theorem d_D_append_49 : decode c_D_append 49 = .ok (.putfield 35, 3) := by decide +kernel
theorem d_D_append_52 : decode c_D_append 52 = .ok (.return_, 1) := by decide +kernel
theorem d_D_keep_0 : decode c_D_keep 0 = .ok (.aload_n 0, 1) := by decide +kernel
theorem d_D_keep_1 : decode c_D_keep 1 = .ok (.aload_n 0, 1) := by decide +kernel
theorem d_D_keep_2 : decode c_D_keep 2 = .ok (.getfield 35, 3) := by decide +kernel
theorem d_D_keep_5 : decode c_D_keep 5 = .ok (.iload_n 1, 1) := by decide +kernel
theorem d_D_keep_6 : decode c_D_keep 6 = .ok (.iconst 0, 1) := by decide +kernel
theorem d_D_keep_7 : decode c_D_keep 7 = .ok (.invokestatic 38, 3) := by decide +kernel
theorem d_D_keep_10 : decode c_D_keep 10 = .ok (.invokestatic 44, 3) := by decide +kernel
theorem d_D_keep_13 : decode c_D_keep 13 = .ok (.putfield 35, 3) := by decide +kernel
theorem d_D_keep_16 : decode c_D_keep 16 = .ok (.aload_n 0, 1) := by decide +kernel
theorem d_D_keep_17 : decode c_D_keep 17 = .ok (.iconst 0, 1) := by decide +kernel
theorem d_D_keep_18 : decode c_D_keep 18 = .ok (.putfield 28, 3) := by decide +kernel
theorem d_D_keep_21 : decode c_D_keep 21 = .ok (.aload_n 0, 1) := by decide +kernel
theorem d_D_keep_22 : decode c_D_keep 22 = .ok (.iconst 0, 1) := by decide +kernel
theorem d_D_keep_23 : decode c_D_keep 23 = .ok (.putfield 32, 3) := by decide +kernel
theorem d_D_keep_26 : decode c_D_keep 26 = .ok (.return_, 1) := by decide +kernel
theorem d_D_size_0 : decode c_D_size 0 = .ok (.aload_n 0, 1) := by decide +kernel
theorem d_D_size_1 : decode c_D_size 1 = .ok (.getfield 35, 3) := by decide +kernel
theorem d_D_size_4 : decode c_D_size 4 = .ok (.ireturn, 1) := by decide +kernel
theorem d_D_has_0 : decode c_D_has 0 = .ok (.iload_n 1, 1) := by decide +kernel
theorem d_D_has_1 : decode c_D_has 1 = .ok (.ifCond .lt 15, 3) := by decide +kernel
theorem d_D_has_4 : decode c_D_has 4 = .ok (.iload_n 1, 1) := by decide +kernel
theorem d_D_has_5 : decode c_D_has 5 = .ok (.aload_n 0, 1) := by decide +kernel
theorem d_D_has_6 : decode c_D_has 6 = .ok (.getfield 35, 3) := by decide +kernel
theorem d_D_has_9 : decode c_D_has 9 = .ok (.if_icmp .ge 7, 3) := by decide +kernel
theorem d_D_has_12 : decode c_D_has 12 = .ok (.iconst 1, 1) := by decide +kernel
theorem d_D_has_13 : decode c_D_has 13 = .ok (.goto 4, 3) := by decide +kernel
theorem d_D_has_16 : decode c_D_has 16 = .ok (.iconst 0, 1) := by decide +kernel
theorem d_D_has_17 : decode c_D_has 17 = .ok (.ireturn, 1) := by decide +kernel
theorem d_D_clause_0 : decode c_D_clause 0 = .ok (.aload_n 0, 1) := by decide +kernel
theorem d_D_clause_1 : decode c_D_clause 1 = .ok (.iload_n 1, 1) := by decide +kernel
theorem d_D_clause_2 : decode c_D_clause 2 = .ok (.invokevirtual 47, 3) := by decide +kernel
theorem d_D_clause_5 : decode c_D_clause 5 = .ok (.ifCond .eq 12, 3) := by decide +kernel
theorem d_D_clause_8 : decode c_D_clause 8 = .ok (.aload_n 0, 1) := by decide +kernel
theorem d_D_clause_9 : decode c_D_clause 9 = .ok (.getfield 11, 3) := by decide +kernel
theorem d_D_clause_12 : decode c_D_clause 12 = .ok (.iload_n 1, 1) := by decide +kernel
theorem d_D_clause_13 : decode c_D_clause 13 = .ok (.iaload, 1) := by decide +kernel
theorem d_D_clause_14 : decode c_D_clause 14 = .ok (.goto 4, 3) := by decide +kernel
theorem d_D_clause_17 : decode c_D_clause 17 = .ok (.iconst 0, 1) := by decide +kernel
theorem d_D_clause_18 : decode c_D_clause 18 = .ok (.ireturn, 1) := by decide +kernel
theorem d_D_isDerived_0 : decode c_D_isDerived 0 = .ok (.aload_n 0, 1) := by decide +kernel
theorem d_D_isDerived_1 : decode c_D_isDerived 1 = .ok (.iload_n 1, 1) := by decide +kernel
theorem d_D_isDerived_2 : decode c_D_isDerived 2 = .ok (.invokevirtual 51, 3) := by decide +kernel
theorem d_D_isDerived_5 : decode c_D_isDerived 5 = .ok (.iconst (-1), 1) := by decide +kernel
theorem d_D_isDerived_6 : decode c_D_isDerived 6 = .ok (.if_icmp .eq 7, 3) := by decide +kernel
theorem d_D_isDerived_9 : decode c_D_isDerived 9 = .ok (.iconst 1, 1) := by decide +kernel
theorem d_D_isDerived_10 : decode c_D_isDerived 10 = .ok (.goto 4, 3) := by decide +kernel
theorem d_D_isDerived_13 : decode c_D_isDerived 13 = .ok (.iconst 0, 1) := by decide +kernel
theorem d_D_isDerived_14 : decode c_D_isDerived 14 = .ok (.ireturn, 1) := by decide +kernel
theorem d_D_linksFrom_0 : decode c_D_linksFrom 0 = .ok (.aload_n 0, 1) := by decide +kernel
theorem d_D_linksFrom_1 : decode c_D_linksFrom 1 = .ok (.iload_n 1, 1) := by decide +kernel
theorem d_D_linksFrom_2 : decode c_D_linksFrom 2 = .ok (.invokevirtual 47, 3) := by decide +kernel
theorem d_D_linksFrom_5 : decode c_D_linksFrom 5 = .ok (.ifCond .eq 12, 3) := by decide +kernel
theorem d_D_linksFrom_8 : decode c_D_linksFrom 8 = .ok (.aload_n 0, 1) := by decide +kernel
theorem d_D_linksFrom_9 : decode c_D_linksFrom 9 = .ok (.getfield 15, 3) := by decide +kernel
theorem d_D_linksFrom_12 : decode c_D_linksFrom 12 = .ok (.iload_n 1, 1) := by decide +kernel
theorem d_D_linksFrom_13 : decode c_D_linksFrom 13 = .ok (.iaload, 1) := by decide +kernel
theorem d_D_linksFrom_14 : decode c_D_linksFrom 14 = .ok (.goto 4, 3) := by decide +kernel
theorem d_D_linksFrom_17 : decode c_D_linksFrom 17 = .ok (.iconst (-1), 1) := by decide +kernel
theorem d_D_linksFrom_18 : decode c_D_linksFrom 18 = .ok (.ireturn, 1) := by decide +kernel
theorem d_D_linksTo_0 : decode c_D_linksTo 0 = .ok (.aload_n 0, 1) := by decide +kernel
theorem d_D_linksTo_1 : decode c_D_linksTo 1 = .ok (.iload_n 1, 1) := by decide +kernel
theorem d_D_linksTo_2 : decode c_D_linksTo 2 = .ok (.invokevirtual 47, 3) := by decide +kernel
theorem d_D_linksTo_5 : decode c_D_linksTo 5 = .ok (.ifCond .eq 12, 3) := by decide +kernel
theorem d_D_linksTo_8 : decode c_D_linksTo 8 = .ok (.aload_n 0, 1) := by decide +kernel
theorem d_D_linksTo_9 : decode c_D_linksTo 9 = .ok (.getfield 18, 3) := by decide +kernel
theorem d_D_linksTo_12 : decode c_D_linksTo 12 = .ok (.iload_n 1, 1) := by decide +kernel
theorem d_D_linksTo_13 : decode c_D_linksTo 13 = .ok (.iaload, 1) := by decide +kernel
theorem d_D_linksTo_14 : decode c_D_linksTo 14 = .ok (.goto 4, 3) := by decide +kernel
theorem d_D_linksTo_17 : decode c_D_linksTo 17 = .ok (.iconst (-1), 1) := by decide +kernel
theorem d_D_linksTo_18 : decode c_D_linksTo 18 = .ok (.ireturn, 1) := by decide +kernel
theorem d_D_linkAt_0 : decode c_D_linkAt 0 = .ok (.iload_n 1, 1) := by decide +kernel
theorem d_D_linkAt_1 : decode c_D_linkAt 1 = .ok (.ifCond .lt 20, 3) := by decide +kernel
theorem d_D_linkAt_4 : decode c_D_linkAt 4 = .ok (.iload_n 1, 1) := by decide +kernel
theorem d_D_linkAt_5 : decode c_D_linkAt 5 = .ok (.aload_n 0, 1) := by decide +kernel
theorem d_D_linkAt_6 : decode c_D_linkAt 6 = .ok (.getfield 28, 3) := by decide +kernel
theorem d_D_linkAt_9 : decode c_D_linkAt 9 = .ok (.if_icmp .ge 12, 3) := by decide +kernel
theorem d_D_linkAt_12 : decode c_D_linkAt 12 = .ok (.aload_n 0, 1) := by decide +kernel
theorem d_D_linkAt_13 : decode c_D_linkAt 13 = .ok (.getfield 21, 3) := by decide +kernel
theorem d_D_linkAt_16 : decode c_D_linkAt 16 = .ok (.iload_n 1, 1) := by decide +kernel
theorem d_D_linkAt_17 : decode c_D_linkAt 17 = .ok (.iaload, 1) := by decide +kernel
theorem d_D_linkAt_18 : decode c_D_linkAt 18 = .ok (.goto 4, 3) := by decide +kernel
theorem d_D_linkAt_21 : decode c_D_linkAt 21 = .ok (.iconst (-1), 1) := by decide +kernel
theorem d_D_linkAt_22 : decode c_D_linkAt 22 = .ok (.ireturn, 1) := by decide +kernel
theorem d_L_of_0 : decode c_L_of 0 = .ok (.iload_n 0, 1) := by decide +kernel
theorem d_L_of_1 : decode c_L_of 1 = .ok (.ifCond .le 11, 3) := by decide +kernel
theorem d_L_of_4 : decode c_L_of 4 = .ok (.iconst 1, 1) := by decide +kernel
theorem d_L_of_5 : decode c_L_of 5 = .ok (.iload_n 0, 1) := by decide +kernel
theorem d_L_of_6 : decode c_L_of 6 = .ok (.iconst 1, 1) := by decide +kernel
theorem d_L_of_7 : decode c_L_of 7 = .ok (.isub, 1) := by decide +kernel
theorem d_L_of_8 : decode c_L_of 8 = .ok (.ishl, 1) := by decide +kernel
theorem d_L_of_9 : decode c_L_of 9 = .ok (.goto 11, 3) := by decide +kernel
theorem d_L_of_12 : decode c_L_of 12 = .ok (.iconst 1, 1) := by decide +kernel
theorem d_L_of_13 : decode c_L_of 13 = .ok (.bipush 10, 2) := by decide +kernel
theorem d_L_of_15 : decode c_L_of 15 = .ok (.iload_n 0, 1) := by decide +kernel
theorem d_L_of_16 : decode c_L_of 16 = .ok (.isub, 1) := by decide +kernel
theorem d_L_of_17 : decode c_L_of 17 = .ok (.iconst 1, 1) := by decide +kernel
theorem d_L_of_18 : decode c_L_of 18 = .ok (.isub, 1) := by decide +kernel
theorem d_L_of_19 : decode c_L_of 19 = .ok (.ishl, 1) := by decide +kernel
theorem d_L_of_20 : decode c_L_of 20 = .ok (.ireturn, 1) := by decide +kernel
theorem d_L_opposite_0 : decode c_L_opposite 0 = .ok (.iload_n 0, 1) := by decide +kernel
theorem d_L_opposite_1 : decode c_L_opposite 1 = .ok (.sipush 1023, 3) := by decide +kernel
theorem d_L_opposite_4 : decode c_L_opposite 4 = .ok (.iand, 1) := by decide +kernel
theorem d_L_opposite_5 : decode c_L_opposite 5 = .ok (.istore_n 1, 1) := by decide +kernel
theorem d_L_opposite_6 : decode c_L_opposite 6 = .ok (.iload_n 0, 1) := by decide +kernel
theorem d_L_opposite_7 : decode c_L_opposite 7 = .ok (.bipush 10, 2) := by decide +kernel
theorem d_L_opposite_9 : decode c_L_opposite 9 = .ok (.iushr, 1) := by decide +kernel
theorem d_L_opposite_10 : decode c_L_opposite 10 = .ok (.sipush 1023, 3) := by decide +kernel
theorem d_L_opposite_13 : decode c_L_opposite 13 = .ok (.iand, 1) := by decide +kernel
theorem d_L_opposite_14 : decode c_L_opposite 14 = .ok (.istore_n 2, 1) := by decide +kernel
theorem d_L_opposite_15 : decode c_L_opposite 15 = .ok (.iload_n 1, 1) := by decide +kernel
theorem d_L_opposite_16 : decode c_L_opposite 16 = .ok (.bipush 10, 2) := by decide +kernel
theorem d_L_opposite_18 : decode c_L_opposite 18 = .ok (.ishl, 1) := by decide +kernel
theorem d_L_opposite_19 : decode c_L_opposite 19 = .ok (.iload_n 2, 1) := by decide +kernel
theorem d_L_opposite_20 : decode c_L_opposite 20 = .ok (.ior, 1) := by decide +kernel
theorem d_L_opposite_21 : decode c_L_opposite 21 = .ok (.ireturn, 1) := by decide +kernel
theorem d_L_isSingle_0 : decode c_L_isSingle 0 = .ok (.iload_n 0, 1) := by decide +kernel
theorem d_L_isSingle_1 : decode c_L_isSingle 1 = .ok (.ifCond .eq 15, 3) := by decide +kernel
theorem d_L_isSingle_4 : decode c_L_isSingle 4 = .ok (.iload_n 0, 1) := by decide +kernel
theorem d_L_isSingle_5 : decode c_L_isSingle 5 = .ok (.iload_n 0, 1) := by decide +kernel
theorem d_L_isSingle_6 : decode c_L_isSingle 6 = .ok (.iconst 1, 1) := by decide +kernel
theorem d_L_isSingle_7 : decode c_L_isSingle 7 = .ok (.isub, 1) := by decide +kernel
theorem d_L_isSingle_8 : decode c_L_isSingle 8 = .ok (.iand, 1) := by decide +kernel
theorem d_L_isSingle_9 : decode c_L_isSingle 9 = .ok (.ifCond .ne 7, 3) := by decide +kernel
theorem d_L_isSingle_12 : decode c_L_isSingle 12 = .ok (.iconst 1, 1) := by decide +kernel
theorem d_L_isSingle_13 : decode c_L_isSingle 13 = .ok (.goto 4, 3) := by decide +kernel
theorem d_L_isSingle_16 : decode c_L_isSingle 16 = .ok (.iconst 0, 1) := by decide +kernel
theorem d_L_isSingle_17 : decode c_L_isSingle 17 = .ok (.ireturn, 1) := by decide +kernel
theorem d_L_positivesUpTo_0 : decode c_L_positivesUpTo 0 = .ok (.iconst 1, 1) := by decide +kernel
theorem d_L_positivesUpTo_1 : decode c_L_positivesUpTo 1 = .ok (.iload_n 0, 1) := by decide +kernel
theorem d_L_positivesUpTo_2 : decode c_L_positivesUpTo 2 = .ok (.ishl, 1) := by decide +kernel
theorem d_L_positivesUpTo_3 : decode c_L_positivesUpTo 3 = .ok (.iconst 1, 1) := by decide +kernel
theorem d_L_positivesUpTo_4 : decode c_L_positivesUpTo 4 = .ok (.isub, 1) := by decide +kernel
theorem d_L_positivesUpTo_5 : decode c_L_positivesUpTo 5 = .ok (.ireturn, 1) := by decide +kernel
