theorem d_R_thrown_0 : decode b_R_thrown 0 = .ok (.aload_n 0, 1) := by decide +kernel
theorem d_R_thrown_1 : decode b_R_thrown 1 = .ok (.getfield 70, 3) := by decide +kernel
theorem d_R_thrown_4 : decode b_R_thrown 4 = .ok (.ireturn, 1) := by decide +kernel
theorem d_R_fails_0 : decode b_R_fails 0 = .ok (.aload_n 0, 1) := by decide +kernel
theorem d_R_fails_1 : decode b_R_fails 1 = .ok (.iload_n 1, 1) := by decide +kernel
theorem d_R_fails_2 : decode b_R_fails 2 = .ok (.putfield 70, 3) := by decide +kernel
theorem d_R_fails_5 : decode b_R_fails 5 = .ok (.iconst (0), 1) := by decide +kernel
theorem d_R_fails_6 : decode b_R_fails 6 = .ok (.ireturn, 1) := by decide +kernel
theorem d_R_within_0 : decode b_R_within 0 = .ok (.iload_n 0, 1) := by decide +kernel
theorem d_R_within_1 : decode b_R_within 1 = .ok (.iload_n 1, 1) := by decide +kernel
theorem d_R_within_2 : decode b_R_within 2 = .ok (.if_icmp .lt (12), 3) := by decide +kernel
theorem d_R_within_5 : decode b_R_within 5 = .ok (.iload_n 0, 1) := by decide +kernel
theorem d_R_within_6 : decode b_R_within 6 = .ok (.iload_n 2, 1) := by decide +kernel
theorem d_R_within_7 : decode b_R_within 7 = .ok (.if_icmp .gt (7), 3) := by decide +kernel
theorem d_R_within_10 : decode b_R_within 10 = .ok (.iconst (1), 1) := by decide +kernel
theorem d_R_within_11 : decode b_R_within 11 = .ok (.goto (4), 3) := by decide +kernel
theorem d_R_within_14 : decode b_R_within 14 = .ok (.iconst (0), 1) := by decide +kernel
theorem d_R_within_15 : decode b_R_within 15 = .ok (.ireturn, 1) := by decide +kernel
theorem d_R_isObject_0 : decode b_R_isObject 0 = .ok (.iload_n 0, 1) := by decide +kernel
theorem d_R_isObject_1 : decode b_R_isObject 1 = .ok (.iconst (0), 1) := by decide +kernel
theorem d_R_isObject_2 : decode b_R_isObject 2 = .ok (.bipush (11), 2) := by decide +kernel
theorem d_R_isObject_4 : decode b_R_isObject 4 = .ok (.invokestatic 73, 3) := by decide +kernel
theorem d_R_isObject_7 : decode b_R_isObject 7 = .ok (.ireturn, 1) := by decide +kernel
theorem d_R_isNode_0 : decode b_R_isNode 0 = .ok (.iload_n 0, 1) := by decide +kernel
theorem d_R_isNode_1 : decode b_R_isNode 1 = .ok (.iconst (0), 1) := by decide +kernel
theorem d_R_isNode_2 : decode b_R_isNode 2 = .ok (.bipush (11), 2) := by decide +kernel
theorem d_R_isNode_4 : decode b_R_isNode 4 = .ok (.invokestatic 73, 3) := by decide +kernel
theorem d_R_isNode_7 : decode b_R_isNode 7 = .ok (.ireturn, 1) := by decide +kernel
theorem d_R_at_0 : decode b_R_at 0 = .ok (.bipush (12), 2) := by decide +kernel
theorem d_R_at_2 : decode b_R_at 2 = .ok (.iload_n 0, 1) := by decide +kernel
theorem d_R_at_3 : decode b_R_at 3 = .ok (.imul, 1) := by decide +kernel
theorem d_R_at_4 : decode b_R_at 4 = .ok (.iload_n 1, 1) := by decide +kernel
theorem d_R_at_5 : decode b_R_at 5 = .ok (.iadd, 1) := by decide +kernel
theorem d_R_at_6 : decode b_R_at 6 = .ok (.ireturn, 1) := by decide +kernel
theorem d_R_times_0 : decode b_R_times 0 = .ok (.iconst (0), 1) := by decide +kernel
theorem d_R_times_1 : decode b_R_times 1 = .ok (.istore_n 2, 1) := by decide +kernel
theorem d_R_times_2 : decode b_R_times 2 = .ok (.bipush (7), 2) := by decide +kernel
theorem d_R_times_4 : decode b_R_times 4 = .ok (.istore_n 3, 1) := by decide +kernel
theorem d_R_times_5 : decode b_R_times 5 = .ok (.iload_n 3, 1) := by decide +kernel
theorem d_R_times_6 : decode b_R_times 6 = .ok (.ifCond .lt (39), 3) := by decide +kernel
theorem d_R_times_9 : decode b_R_times 9 = .ok (.iload_n 2, 1) := by decide +kernel
theorem d_R_times_10 : decode b_R_times 10 = .ok (.iconst (1), 1) := by decide +kernel
theorem d_R_times_11 : decode b_R_times 11 = .ok (.ishl, 1) := by decide +kernel
theorem d_R_times_12 : decode b_R_times 12 = .ok (.istore_n 2, 1) := by decide +kernel
theorem d_R_times_13 : decode b_R_times 13 = .ok (.iload_n 2, 1) := by decide +kernel
theorem d_R_times_14 : decode b_R_times 14 = .ok (.sipush (255), 3) := by decide +kernel
theorem d_R_times_17 : decode b_R_times 17 = .ok (.if_icmp .le (9), 3) := by decide +kernel
theorem d_R_times_20 : decode b_R_times 20 = .ok (.iload_n 2, 1) := by decide +kernel
theorem d_R_times_21 : decode b_R_times 21 = .ok (.sipush (285), 3) := by decide +kernel
theorem d_R_times_24 : decode b_R_times 24 = .ok (.ixor, 1) := by decide +kernel
theorem d_R_times_25 : decode b_R_times 25 = .ok (.istore_n 2, 1) := by decide +kernel
theorem d_R_times_26 : decode b_R_times 26 = .ok (.iload_n 1, 1) := by decide +kernel
theorem d_R_times_27 : decode b_R_times 27 = .ok (.iload_n 3, 1) := by decide +kernel
theorem d_R_times_28 : decode b_R_times 28 = .ok (.ishr, 1) := by decide +kernel
theorem d_R_times_29 : decode b_R_times 29 = .ok (.iconst (1), 1) := by decide +kernel
theorem d_R_times_30 : decode b_R_times 30 = .ok (.iand, 1) := by decide +kernel
theorem d_R_times_31 : decode b_R_times 31 = .ok (.iconst (1), 1) := by decide +kernel
theorem d_R_times_32 : decode b_R_times 32 = .ok (.if_icmp .ne (7), 3) := by decide +kernel
theorem d_R_times_35 : decode b_R_times 35 = .ok (.iload_n 2, 1) := by decide +kernel
theorem d_R_times_36 : decode b_R_times 36 = .ok (.iload_n 0, 1) := by decide +kernel
theorem d_R_times_37 : decode b_R_times 37 = .ok (.ixor, 1) := by decide +kernel
theorem d_R_times_38 : decode b_R_times 38 = .ok (.istore_n 2, 1) := by decide +kernel
theorem d_R_times_39 : decode b_R_times 39 = .ok (.iinc 3 (-1), 3) := by decide +kernel
theorem d_R_times_42 : decode b_R_times 42 = .ok (.goto (-37), 3) := by decide +kernel
theorem d_R_times_45 : decode b_R_times 45 = .ok (.iload_n 2, 1) := by decide +kernel
theorem d_R_times_46 : decode b_R_times 46 = .ok (.ireturn, 1) := by decide +kernel
theorem d_R_power_0 : decode b_R_power 0 = .ok (.iconst (1), 1) := by decide +kernel
theorem d_R_power_1 : decode b_R_power 1 = .ok (.istore_n 2, 1) := by decide +kernel
theorem d_R_power_2 : decode b_R_power 2 = .ok (.iconst (0), 1) := by decide +kernel
theorem d_R_power_3 : decode b_R_power 3 = .ok (.istore_n 3, 1) := by decide +kernel
theorem d_R_power_4 : decode b_R_power 4 = .ok (.iload_n 3, 1) := by decide +kernel
theorem d_R_power_5 : decode b_R_power 5 = .ok (.iload_n 1, 1) := by decide +kernel
theorem d_R_power_6 : decode b_R_power 6 = .ok (.if_icmp .ge (15), 3) := by decide +kernel
theorem d_R_power_9 : decode b_R_power 9 = .ok (.iload_n 2, 1) := by decide +kernel
theorem d_R_power_10 : decode b_R_power 10 = .ok (.iload_n 0, 1) := by decide +kernel
theorem d_R_power_11 : decode b_R_power 11 = .ok (.invokestatic 77, 3) := by decide +kernel
theorem d_R_power_14 : decode b_R_power 14 = .ok (.istore_n 2, 1) := by decide +kernel
theorem d_R_power_15 : decode b_R_power 15 = .ok (.iinc 3 (1), 3) := by decide +kernel
theorem d_R_power_18 : decode b_R_power 18 = .ok (.goto (-14), 3) := by decide +kernel
theorem d_R_power_21 : decode b_R_power 21 = .ok (.iload_n 2, 1) := by decide +kernel
theorem d_R_power_22 : decode b_R_power 22 = .ok (.ireturn, 1) := by decide +kernel
theorem d_R_field_0 : decode b_R_field 0 = .ok (.aload_n 0, 1) := by decide +kernel
theorem d_R_field_1 : decode b_R_field 1 = .ok (.iconst (0), 1) := by decide +kernel
theorem d_R_field_2 : decode b_R_field 2 = .ok (.putfield 70, 3) := by decide +kernel
theorem d_R_field_5 : decode b_R_field 5 = .ok (.iload_n 3, 1) := by decide +kernel
theorem d_R_field_6 : decode b_R_field 6 = .ok (.iconst (0), 1) := by decide +kernel
theorem d_R_field_7 : decode b_R_field 7 = .ok (.iconst (1), 1) := by decide +kernel
theorem d_R_field_8 : decode b_R_field 8 = .ok (.invokestatic 73, 3) := by decide +kernel
theorem d_R_field_11 : decode b_R_field 11 = .ok (.ifCond .ne (9), 3) := by decide +kernel
theorem d_R_field_14 : decode b_R_field 14 = .ok (.aload_n 0, 1) := by decide +kernel
theorem d_R_field_15 : decode b_R_field 15 = .ok (.iconst (1), 1) := by decide +kernel
theorem d_R_field_16 : decode b_R_field 16 = .ok (.invokevirtual 81, 3) := by decide +kernel
theorem d_R_field_19 : decode b_R_field 19 = .ok (.ireturn, 1) := by decide +kernel
theorem d_R_field_20 : decode b_R_field 20 = .ok (.iload_n 1, 1) := by decide +kernel
theorem d_R_field_21 : decode b_R_field 21 = .ok (.iconst (0), 1) := by decide +kernel
theorem d_R_field_22 : decode b_R_field 22 = .ok (.sipush (255), 3) := by decide +kernel
theorem d_R_field_25 : decode b_R_field 25 = .ok (.invokestatic 73, 3) := by decide +kernel
theorem d_R_field_28 : decode b_R_field 28 = .ok (.ifCond .eq (23), 3) := by decide +kernel
theorem d_R_field_31 : decode b_R_field 31 = .ok (.iload_n 2, 1) := by decide +kernel
theorem d_R_field_32 : decode b_R_field 32 = .ok (.iconst (0), 1) := by decide +kernel
theorem d_R_field_33 : decode b_R_field 33 = .ok (.sipush (255), 3) := by decide +kernel
theorem d_R_field_36 : decode b_R_field 36 = .ok (.invokestatic 73, 3) := by decide +kernel
theorem d_R_field_39 : decode b_R_field 39 = .ok (.ifCond .eq (12), 3) := by decide +kernel
theorem d_R_field_42 : decode b_R_field 42 = .ok (.iload_n 3, 1) := by decide +kernel
theorem d_R_field_43 : decode b_R_field 43 = .ok (.iconst (1), 1) := by decide +kernel
theorem d_R_field_44 : decode b_R_field 44 = .ok (.if_icmp .ne (13), 3) := by decide +kernel
theorem d_R_field_47 : decode b_R_field 47 = .ok (.iload_n 1, 1) := by decide +kernel
theorem d_R_field_48 : decode b_R_field 48 = .ok (.ifCond .ne (9), 3) := by decide +kernel
theorem d_R_field_51 : decode b_R_field 51 = .ok (.aload_n 0, 1) := by decide +kernel
theorem d_R_field_52 : decode b_R_field 52 = .ok (.iconst (2), 1) := by decide +kernel
theorem d_R_field_53 : decode b_R_field 53 = .ok (.invokevirtual 81, 3) := by decide +kernel
theorem d_R_field_56 : decode b_R_field 56 = .ok (.ireturn, 1) := by decide +kernel
theorem d_R_field_57 : decode b_R_field 57 = .ok (.iload_n 3, 1) := by decide +kernel
theorem d_R_field_58 : decode b_R_field 58 = .ok (.ifCond .ne (9), 3) := by decide +kernel
theorem d_R_field_61 : decode b_R_field 61 = .ok (.iload_n 1, 1) := by decide +kernel
theorem d_R_field_62 : decode b_R_field 62 = .ok (.iload_n 2, 1) := by decide +kernel
theorem d_R_field_63 : decode b_R_field 63 = .ok (.invokestatic 77, 3) := by decide +kernel
theorem d_R_field_66 : decode b_R_field 66 = .ok (.ireturn, 1) := by decide +kernel
theorem d_R_field_67 : decode b_R_field 67 = .ok (.iconst (0), 1) := by decide +kernel
theorem d_R_field_68 : decode b_R_field 68 = .ok (.istore 4, 2) := by decide +kernel
theorem d_R_field_70 : decode b_R_field 70 = .ok (.iload_n 1, 1) := by decide +kernel
theorem d_R_field_71 : decode b_R_field 71 = .ok (.iload 4, 2) := by decide +kernel
theorem d_R_field_73 : decode b_R_field 73 = .ok (.invokestatic 77, 3) := by decide +kernel
theorem d_R_field_76 : decode b_R_field 76 = .ok (.iload_n 2, 1) := by decide +kernel
theorem d_R_field_77 : decode b_R_field 77 = .ok (.if_icmp .eq (9), 3) := by decide +kernel
theorem d_R_field_80 : decode b_R_field 80 = .ok (.iinc 4 (1), 3) := by decide +kernel
theorem d_R_field_83 : decode b_R_field 83 = .ok (.goto (-13), 3) := by decide +kernel
theorem d_R_field_86 : decode b_R_field 86 = .ok (.iload 4, 2) := by decide +kernel
theorem d_R_field_88 : decode b_R_field 88 = .ok (.ireturn, 1) := by decide +kernel
theorem d_R_load_0 : decode b_R_load 0 = .ok (.aload_n 0, 1) := by decide +kernel
theorem d_R_load_1 : decode b_R_load 1 = .ok (.iload_n 1, 1) := by decide +kernel
theorem d_R_load_2 : decode b_R_load 2 = .ok (.iconst (0), 1) := by decide +kernel
theorem d_R_load_3 : decode b_R_load 3 = .ok (.bipush (59), 2) := by decide +kernel
theorem d_R_load_5 : decode b_R_load 5 = .ok (.invokestatic 73, 3) := by decide +kernel
theorem d_R_load_8 : decode b_R_load 8 = .ok (.ifCond .eq (7), 3) := by decide +kernel
theorem d_R_load_11 : decode b_R_load 11 = .ok (.iconst (0), 1) := by decide +kernel
theorem d_R_load_12 : decode b_R_load 12 = .ok (.goto (4), 3) := by decide +kernel
theorem d_R_load_15 : decode b_R_load 15 = .ok (.iconst (1), 1) := by decide +kernel
theorem d_R_load_16 : decode b_R_load 16 = .ok (.putfield 70, 3) := by decide +kernel
theorem d_R_load_19 : decode b_R_load 19 = .ok (.iconst (0), 1) := by decide +kernel
theorem d_R_load_20 : decode b_R_load 20 = .ok (.istore_n 3, 1) := by decide +kernel
theorem d_R_load_21 : decode b_R_load 21 = .ok (.iload_n 3, 1) := by decide +kernel
theorem d_R_load_22 : decode b_R_load 22 = .ok (.iconst (4), 1) := by decide +kernel
theorem d_R_load_23 : decode b_R_load 23 = .ok (.if_icmp .ge (39), 3) := by decide +kernel
theorem d_R_load_26 : decode b_R_load 26 = .ok (.aload_n 0, 1) := by decide +kernel
theorem d_R_load_27 : decode b_R_load 27 = .ok (.getfield 70, 3) := by decide +kernel
theorem d_R_load_30 : decode b_R_load 30 = .ok (.ifCond .ne (32), 3) := by decide +kernel
theorem d_R_load_33 : decode b_R_load 33 = .ok (.aload_n 0, 1) := by decide +kernel
theorem d_R_load_34 : decode b_R_load 34 = .ok (.getfield 7, 3) := by decide +kernel
theorem d_R_load_37 : decode b_R_load 37 = .ok (.iconst (4), 1) := by decide +kernel
theorem d_R_load_38 : decode b_R_load 38 = .ok (.iload_n 1, 1) := by decide +kernel
theorem d_R_load_39 : decode b_R_load 39 = .ok (.imul, 1) := by decide +kernel
theorem d_R_load_40 : decode b_R_load 40 = .ok (.iload_n 3, 1) := by decide +kernel
theorem d_R_load_41 : decode b_R_load 41 = .ok (.iadd, 1) := by decide +kernel
theorem d_R_load_42 : decode b_R_load 42 = .ok (.iload_n 2, 1) := by decide +kernel
theorem d_R_load_43 : decode b_R_load 43 = .ok (.bipush (24), 2) := by decide +kernel
theorem d_R_load_45 : decode b_R_load 45 = .ok (.bipush (8), 2) := by decide +kernel
theorem d_R_load_47 : decode b_R_load 47 = .ok (.iload_n 3, 1) := by decide +kernel
theorem d_R_load_48 : decode b_R_load 48 = .ok (.imul, 1) := by decide +kernel
theorem d_R_load_49 : decode b_R_load 49 = .ok (.isub, 1) := by decide +kernel
theorem d_R_load_50 : decode b_R_load 50 = .ok (.ishr, 1) := by decide +kernel
theorem d_R_load_51 : decode b_R_load 51 = .ok (.sipush (255), 3) := by decide +kernel
theorem d_R_load_54 : decode b_R_load 54 = .ok (.iand, 1) := by decide +kernel
theorem d_R_load_55 : decode b_R_load 55 = .ok (.iastore, 1) := by decide +kernel
theorem d_R_load_56 : decode b_R_load 56 = .ok (.iinc 3 (1), 3) := by decide +kernel
theorem d_R_load_59 : decode b_R_load 59 = .ok (.goto (-38), 3) := by decide +kernel
theorem d_R_load_62 : decode b_R_load 62 = .ok (.return_, 1) := by decide +kernel
theorem d_R_live_0 : decode b_R_live 0 = .ok (.iconst (0), 1) := by decide +kernel
theorem d_R_live_1 : decode b_R_live 1 = .ok (.istore_n 1, 1) := by decide +kernel
theorem d_R_live_2 : decode b_R_live 2 = .ok (.iconst (0), 1) := by decide +kernel
theorem d_R_live_3 : decode b_R_live 3 = .ok (.istore_n 2, 1) := by decide +kernel
theorem d_R_live_4 : decode b_R_live 4 = .ok (.iload_n 2, 1) := by decide +kernel
theorem d_R_live_5 : decode b_R_live 5 = .ok (.bipush (12), 2) := by decide +kernel
theorem d_R_live_7 : decode b_R_live 7 = .ok (.if_icmp .ge (26), 3) := by decide +kernel
theorem d_R_live_10 : decode b_R_live 10 = .ok (.iload_n 1, 1) := by decide +kernel
theorem d_R_live_11 : decode b_R_live 11 = .ok (.aload_n 0, 1) := by decide +kernel
theorem d_R_live_12 : decode b_R_live 12 = .ok (.getfield 36, 3) := by decide +kernel
theorem d_R_live_15 : decode b_R_live 15 = .ok (.iload_n 2, 1) := by decide +kernel
theorem d_R_live_16 : decode b_R_live 16 = .ok (.baload, 1) := by decide +kernel
theorem d_R_live_17 : decode b_R_live 17 = .ok (.ifCond .eq (7), 3) := by decide +kernel
theorem d_R_live_20 : decode b_R_live 20 = .ok (.iconst (0), 1) := by decide +kernel
theorem d_R_live_21 : decode b_R_live 21 = .ok (.goto (4), 3) := by decide +kernel
theorem d_R_live_24 : decode b_R_live 24 = .ok (.iconst (1), 1) := by decide +kernel
theorem d_R_live_25 : decode b_R_live 25 = .ok (.iadd, 1) := by decide +kernel
theorem d_R_live_26 : decode b_R_live 26 = .ok (.istore_n 1, 1) := by decide +kernel
theorem d_R_live_27 : decode b_R_live 27 = .ok (.iinc 2 (1), 3) := by decide +kernel
theorem d_R_live_30 : decode b_R_live 30 = .ok (.goto (-26), 3) := by decide +kernel
theorem d_R_live_33 : decode b_R_live 33 = .ok (.iload_n 1, 1) := by decide +kernel
theorem d_R_live_34 : decode b_R_live 34 = .ok (.ireturn, 1) := by decide +kernel
theorem d_R_cast_0 : decode b_R_cast 0 = .ok (.iload_n 1, 1) := by decide +kernel
theorem d_R_cast_1 : decode b_R_cast 1 = .ok (.iload_n 2, 1) := by decide +kernel
theorem d_R_cast_2 : decode b_R_cast 2 = .ok (.invokestatic 85, 3) := by decide +kernel
theorem d_R_cast_5 : decode b_R_cast 5 = .ok (.istore 4, 2) := by decide +kernel
theorem d_R_cast_7 : decode b_R_cast 7 = .ok (.aload_n 0, 1) := by decide +kernel
theorem d_R_cast_8 : decode b_R_cast 8 = .ok (.getfield 52, 3) := by decide +kernel
theorem d_R_cast_11 : decode b_R_cast 11 = .ok (.iload 4, 2) := by decide +kernel
theorem d_R_cast_13 : decode b_R_cast 13 = .ok (.aload_n 0, 1) := by decide +kernel
theorem d_R_cast_14 : decode b_R_cast 14 = .ok (.getfield 26, 3) := by decide +kernel
theorem d_R_cast_17 : decode b_R_cast 17 = .ok (.iload_n 2, 1) := by decide +kernel
theorem d_R_cast_18 : decode b_R_cast 18 = .ok (.iaload, 1) := by decide +kernel
theorem d_R_cast_19 : decode b_R_cast 19 = .ok (.iastore, 1) := by decide +kernel
theorem d_R_cast_20 : decode b_R_cast 20 = .ok (.aload_n 0, 1) := by decide +kernel
theorem d_R_cast_21 : decode b_R_cast 21 = .ok (.getfield 55, 3) := by decide +kernel
theorem d_R_cast_24 : decode b_R_cast 24 = .ok (.iload 4, 2) := by decide +kernel
theorem d_R_cast_26 : decode b_R_cast 26 = .ok (.iload_n 3, 1) := by decide +kernel
theorem d_R_cast_27 : decode b_R_cast 27 = .ok (.iastore, 1) := by decide +kernel
theorem d_R_cast_28 : decode b_R_cast 28 = .ok (.iconst (0), 1) := by decide +kernel
theorem d_R_cast_29 : decode b_R_cast 29 = .ok (.istore 5, 2) := by decide +kernel
theorem d_R_cast_31 : decode b_R_cast 31 = .ok (.iload 5, 2) := by decide +kernel
theorem d_R_cast_33 : decode b_R_cast 33 = .ok (.sipush (240), 3) := by decide +kernel
theorem d_R_cast_36 : decode b_R_cast 36 = .ok (.if_icmp .ge (40), 3) := by decide +kernel
theorem d_R_cast_39 : decode b_R_cast 39 = .ok (.aload_n 0, 1) := by decide +kernel
theorem d_R_cast_40 : decode b_R_cast 40 = .ok (.getfield 58, 3) := by decide +kernel
theorem d_R_cast_43 : decode b_R_cast 43 = .ok (.sipush (240), 3) := by decide +kernel
theorem d_R_cast_46 : decode b_R_cast 46 = .ok (.iload 4, 2) := by decide +kernel
theorem d_R_cast_48 : decode b_R_cast 48 = .ok (.imul, 1) := by decide +kernel
theorem d_R_cast_49 : decode b_R_cast 49 = .ok (.iload 5, 2) := by decide +kernel
theorem d_R_cast_51 : decode b_R_cast 51 = .ok (.iadd, 1) := by decide +kernel
theorem d_R_cast_52 : decode b_R_cast 52 = .ok (.iload 5, 2) := by decide +kernel
theorem d_R_cast_54 : decode b_R_cast 54 = .ok (.iload_n 3, 1) := by decide +kernel
theorem d_R_cast_55 : decode b_R_cast 55 = .ok (.if_icmp .ge (13), 3) := by decide +kernel
theorem d_R_cast_58 : decode b_R_cast 58 = .ok (.aload_n 0, 1) := by decide +kernel
theorem d_R_cast_59 : decode b_R_cast 59 = .ok (.getfield 7, 3) := by decide +kernel
theorem d_R_cast_62 : decode b_R_cast 62 = .ok (.iload 5, 2) := by decide +kernel
theorem d_R_cast_64 : decode b_R_cast 64 = .ok (.iaload, 1) := by decide +kernel
theorem d_R_cast_65 : decode b_R_cast 65 = .ok (.goto (4), 3) := by decide +kernel
theorem d_R_cast_68 : decode b_R_cast 68 = .ok (.iconst (0), 1) := by decide +kernel
theorem d_R_cast_69 : decode b_R_cast 69 = .ok (.iastore, 1) := by decide +kernel
theorem d_R_cast_70 : decode b_R_cast 70 = .ok (.iinc 5 (1), 3) := by decide +kernel
theorem d_R_cast_73 : decode b_R_cast 73 = .ok (.goto (-42), 3) := by decide +kernel
theorem d_R_cast_76 : decode b_R_cast 76 = .ok (.return_, 1) := by decide +kernel
theorem d_R_settleNode_0 : decode b_R_settleNode 0 = .ok (.iload_n 1, 1) := by decide +kernel
theorem d_R_settleNode_1 : decode b_R_settleNode 1 = .ok (.iload_n 2, 1) := by decide +kernel
theorem d_R_settleNode_2 : decode b_R_settleNode 2 = .ok (.invokestatic 85, 3) := by decide +kernel
theorem d_R_settleNode_5 : decode b_R_settleNode 5 = .ok (.istore_n 3, 1) := by decide +kernel
theorem d_R_settleNode_6 : decode b_R_settleNode 6 = .ok (.aload_n 0, 1) := by decide +kernel
theorem d_R_settleNode_7 : decode b_R_settleNode 7 = .ok (.getfield 42, 3) := by decide +kernel
theorem d_R_settleNode_10 : decode b_R_settleNode 10 = .ok (.iload_n 3, 1) := by decide +kernel
theorem d_R_settleNode_11 : decode b_R_settleNode 11 = .ok (.aload_n 0, 1) := by decide +kernel
theorem d_R_settleNode_12 : decode b_R_settleNode 12 = .ok (.getfield 52, 3) := by decide +kernel
theorem d_R_settleNode_15 : decode b_R_settleNode 15 = .ok (.iload_n 3, 1) := by decide +kernel
theorem d_R_settleNode_16 : decode b_R_settleNode 16 = .ok (.iaload, 1) := by decide +kernel
theorem d_R_settleNode_17 : decode b_R_settleNode 17 = .ok (.iastore, 1) := by decide +kernel
theorem d_R_settleNode_18 : decode b_R_settleNode 18 = .ok (.aload_n 0, 1) := by decide +kernel
theorem d_R_settleNode_19 : decode b_R_settleNode 19 = .ok (.getfield 45, 3) := by decide +kernel
theorem d_R_settleNode_22 : decode b_R_settleNode 22 = .ok (.iload_n 3, 1) := by decide +kernel
theorem d_R_settleNode_23 : decode b_R_settleNode 23 = .ok (.aload_n 0, 1) := by decide +kernel
theorem d_R_settleNode_24 : decode b_R_settleNode 24 = .ok (.getfield 55, 3) := by decide +kernel
theorem d_R_settleNode_27 : decode b_R_settleNode 27 = .ok (.iload_n 3, 1) := by decide +kernel
theorem d_R_settleNode_28 : decode b_R_settleNode 28 = .ok (.iaload, 1) := by decide +kernel
theorem d_R_settleNode_29 : decode b_R_settleNode 29 = .ok (.iastore, 1) := by decide +kernel
theorem d_R_settleNode_30 : decode b_R_settleNode 30 = .ok (.iconst (0), 1) := by decide +kernel
theorem d_R_settleNode_31 : decode b_R_settleNode 31 = .ok (.istore 4, 2) := by decide +kernel
theorem d_R_settleNode_33 : decode b_R_settleNode 33 = .ok (.iload 4, 2) := by decide +kernel
theorem d_R_settleNode_35 : decode b_R_settleNode 35 = .ok (.sipush (240), 3) := by decide +kernel
theorem d_R_settleNode_38 : decode b_R_settleNode 38 = .ok (.if_icmp .ge (35), 3) := by decide +kernel
theorem d_R_settleNode_41 : decode b_R_settleNode 41 = .ok (.aload_n 0, 1) := by decide +kernel
theorem d_R_settleNode_42 : decode b_R_settleNode 42 = .ok (.getfield 49, 3) := by decide +kernel
theorem d_R_settleNode_45 : decode b_R_settleNode 45 = .ok (.sipush (240), 3) := by decide +kernel
theorem d_R_settleNode_48 : decode b_R_settleNode 48 = .ok (.iload_n 3, 1) := by decide +kernel
theorem d_R_settleNode_49 : decode b_R_settleNode 49 = .ok (.imul, 1) := by decide +kernel
theorem d_R_settleNode_50 : decode b_R_settleNode 50 = .ok (.iload 4, 2) := by decide +kernel
theorem d_R_settleNode_52 : decode b_R_settleNode 52 = .ok (.iadd, 1) := by decide +kernel
theorem d_R_settleNode_53 : decode b_R_settleNode 53 = .ok (.aload_n 0, 1) := by decide +kernel
theorem d_R_settleNode_54 : decode b_R_settleNode 54 = .ok (.getfield 58, 3) := by decide +kernel
theorem d_R_settleNode_57 : decode b_R_settleNode 57 = .ok (.sipush (240), 3) := by decide +kernel
theorem d_R_settleNode_60 : decode b_R_settleNode 60 = .ok (.iload_n 3, 1) := by decide +kernel
theorem d_R_settleNode_61 : decode b_R_settleNode 61 = .ok (.imul, 1) := by decide +kernel
theorem d_R_settleNode_62 : decode b_R_settleNode 62 = .ok (.iload 4, 2) := by decide +kernel
theorem d_R_settleNode_64 : decode b_R_settleNode 64 = .ok (.iadd, 1) := by decide +kernel
theorem d_R_settleNode_65 : decode b_R_settleNode 65 = .ok (.iaload, 1) := by decide +kernel
theorem d_R_settleNode_66 : decode b_R_settleNode 66 = .ok (.iastore, 1) := by decide +kernel
theorem d_R_settleNode_67 : decode b_R_settleNode 67 = .ok (.iinc 4 (1), 3) := by decide +kernel
theorem d_R_settleNode_70 : decode b_R_settleNode 70 = .ok (.goto (-37), 3) := by decide +kernel
theorem d_R_settleNode_73 : decode b_R_settleNode 73 = .ok (.aload_n 0, 1) := by decide +kernel
theorem d_R_settleNode_74 : decode b_R_settleNode 74 = .ok (.getfield 52, 3) := by decide +kernel
theorem d_R_settleNode_77 : decode b_R_settleNode 77 = .ok (.iload_n 3, 1) := by decide +kernel
theorem d_R_settleNode_78 : decode b_R_settleNode 78 = .ok (.iconst (0), 1) := by decide +kernel
theorem d_R_settleNode_79 : decode b_R_settleNode 79 = .ok (.iastore, 1) := by decide +kernel
theorem d_R_settleNode_80 : decode b_R_settleNode 80 = .ok (.return_, 1) := by decide +kernel
theorem d_R_put_0 : decode b_R_put 0 = .ok (.aload_n 0, 1) := by decide +kernel
theorem d_R_put_1 : decode b_R_put 1 = .ok (.iconst (0), 1) := by decide +kernel
theorem d_R_put_2 : decode b_R_put 2 = .ok (.putfield 70, 3) := by decide +kernel
theorem d_R_put_5 : decode b_R_put 5 = .ok (.iload_n 1, 1) := by decide +kernel
theorem d_R_put_6 : decode b_R_put 6 = .ok (.invokestatic 88, 3) := by decide +kernel
theorem d_R_put_9 : decode b_R_put 9 = .ok (.ifCond .ne (9), 3) := by decide +kernel
theorem d_R_put_12 : decode b_R_put 12 = .ok (.aload_n 0, 1) := by decide +kernel
theorem d_R_put_13 : decode b_R_put 13 = .ok (.iconst (1), 1) := by decide +kernel
theorem d_R_put_14 : decode b_R_put 14 = .ok (.invokevirtual 81, 3) := by decide +kernel
theorem d_R_put_17 : decode b_R_put 17 = .ok (.ireturn, 1) := by decide +kernel
theorem d_R_put_18 : decode b_R_put 18 = .ok (.iload_n 2, 1) := by decide +kernel
theorem d_R_put_19 : decode b_R_put 19 = .ok (.iconst (0), 1) := by decide +kernel
theorem d_R_put_20 : decode b_R_put 20 = .ok (.sipush (240), 3) := by decide +kernel
theorem d_R_put_23 : decode b_R_put 23 = .ok (.invokestatic 73, 3) := by decide +kernel
theorem d_R_put_26 : decode b_R_put 26 = .ok (.ifCond .ne (9), 3) := by decide +kernel
theorem d_R_put_29 : decode b_R_put 29 = .ok (.aload_n 0, 1) := by decide +kernel
theorem d_R_put_30 : decode b_R_put 30 = .ok (.iconst (2), 1) := by decide +kernel
theorem d_R_put_31 : decode b_R_put 31 = .ok (.invokevirtual 81, 3) := by decide +kernel
theorem d_R_put_34 : decode b_R_put 34 = .ok (.ireturn, 1) := by decide +kernel
theorem d_R_put_35 : decode b_R_put 35 = .ok (.aload_n 0, 1) := by decide +kernel
theorem d_R_put_36 : decode b_R_put 36 = .ok (.getfield 32, 3) := by decide +kernel
theorem d_R_put_39 : decode b_R_put 39 = .ok (.iload_n 1, 1) := by decide +kernel
theorem d_R_put_40 : decode b_R_put 40 = .ok (.baload, 1) := by decide +kernel
theorem d_R_put_41 : decode b_R_put 41 = .ok (.ifCond .eq (9), 3) := by decide +kernel
theorem d_R_put_44 : decode b_R_put 44 = .ok (.aload_n 0, 1) := by decide +kernel
theorem d_R_put_45 : decode b_R_put 45 = .ok (.iconst (3), 1) := by decide +kernel
theorem d_R_put_46 : decode b_R_put 46 = .ok (.invokevirtual 81, 3) := by decide +kernel
theorem d_R_put_49 : decode b_R_put 49 = .ok (.ireturn, 1) := by decide +kernel
theorem d_R_put_50 : decode b_R_put 50 = .ok (.aload_n 0, 1) := by decide +kernel
theorem d_R_put_51 : decode b_R_put 51 = .ok (.invokevirtual 92, 3) := by decide +kernel
theorem d_R_put_54 : decode b_R_put 54 = .ok (.bipush (9), 2) := by decide +kernel
theorem d_R_put_56 : decode b_R_put 56 = .ok (.if_icmp .ge (9), 3) := by decide +kernel
theorem d_R_put_59 : decode b_R_put 59 = .ok (.aload_n 0, 1) := by decide +kernel
theorem d_R_put_60 : decode b_R_put 60 = .ok (.iconst (4), 1) := by decide +kernel
theorem d_R_put_61 : decode b_R_put 61 = .ok (.invokevirtual 81, 3) := by decide +kernel
theorem d_R_put_64 : decode b_R_put 64 = .ok (.ireturn, 1) := by decide +kernel
theorem d_R_put_65 : decode b_R_put 65 = .ok (.aload_n 0, 1) := by decide +kernel
theorem d_R_put_66 : decode b_R_put 66 = .ok (.getfield 26, 3) := by decide +kernel
theorem d_R_put_69 : decode b_R_put 69 = .ok (.iload_n 1, 1) := by decide +kernel
theorem d_R_put_70 : decode b_R_put 70 = .ok (.dup2, 1) := by decide +kernel
theorem d_R_put_71 : decode b_R_put 71 = .ok (.iaload, 1) := by decide +kernel
theorem d_R_put_72 : decode b_R_put 72 = .ok (.iconst (1), 1) := by decide +kernel
theorem d_R_put_73 : decode b_R_put 73 = .ok (.iadd, 1) := by decide +kernel
theorem d_R_put_74 : decode b_R_put 74 = .ok (.iastore, 1) := by decide +kernel
theorem d_R_put_75 : decode b_R_put 75 = .ok (.aload_n 0, 1) := by decide +kernel
theorem d_R_put_76 : decode b_R_put 76 = .ok (.getfield 29, 3) := by decide +kernel
theorem d_R_put_79 : decode b_R_put 79 = .ok (.iload_n 1, 1) := by decide +kernel
theorem d_R_put_80 : decode b_R_put 80 = .ok (.iload_n 2, 1) := by decide +kernel
theorem d_R_put_81 : decode b_R_put 81 = .ok (.iastore, 1) := by decide +kernel
theorem d_R_put_82 : decode b_R_put 82 = .ok (.iconst (2), 1) := by decide +kernel
theorem d_R_put_83 : decode b_R_put 83 = .ok (.aload_n 0, 1) := by decide +kernel
theorem d_R_put_84 : decode b_R_put 84 = .ok (.invokevirtual 92, 3) := by decide +kernel
theorem d_R_put_87 : decode b_R_put 87 = .ok (.imul, 1) := by decide +kernel
theorem d_R_put_88 : decode b_R_put 88 = .ok (.istore_n 3, 1) := by decide +kernel
theorem d_R_put_89 : decode b_R_put 89 = .ok (.aload_n 0, 1) := by decide +kernel
theorem d_R_put_90 : decode b_R_put 90 = .ok (.getfield 16, 3) := by decide +kernel
theorem d_R_put_93 : decode b_R_put 93 = .ok (.ifCond .lt (11), 3) := by decide +kernel
theorem d_R_put_96 : decode b_R_put 96 = .ok (.aload_n 0, 1) := by decide +kernel
theorem d_R_put_97 : decode b_R_put 97 = .ok (.getfield 16, 3) := by decide +kernel
theorem d_R_put_100 : decode b_R_put 100 = .ok (.iload_n 3, 1) := by decide +kernel
theorem d_R_put_101 : decode b_R_put 101 = .ok (.if_icmp .lt (7), 3) := by decide +kernel
theorem d_R_put_104 : decode b_R_put 104 = .ok (.iload_n 3, 1) := by decide +kernel
theorem d_R_put_105 : decode b_R_put 105 = .ok (.goto (7), 3) := by decide +kernel
theorem d_R_put_108 : decode b_R_put 108 = .ok (.aload_n 0, 1) := by decide +kernel
theorem d_R_put_109 : decode b_R_put 109 = .ok (.getfield 16, 3) := by decide +kernel
theorem d_R_put_112 : decode b_R_put 112 = .ok (.istore 4, 2) := by decide +kernel
theorem d_R_put_114 : decode b_R_put 114 = .ok (.aload_n 0, 1) := by decide +kernel
theorem d_R_put_115 : decode b_R_put 115 = .ok (.iconst (-1), 1) := by decide +kernel
theorem d_R_put_116 : decode b_R_put 116 = .ok (.putfield 16, 3) := by decide +kernel
theorem d_R_put_119 : decode b_R_put 119 = .ok (.iconst (0), 1) := by decide +kernel
theorem d_R_put_120 : decode b_R_put 120 = .ok (.istore 5, 2) := by decide +kernel
theorem d_R_put_122 : decode b_R_put 122 = .ok (.iconst (0), 1) := by decide +kernel
theorem d_R_put_123 : decode b_R_put 123 = .ok (.istore 6, 2) := by decide +kernel
theorem d_R_put_125 : decode b_R_put 125 = .ok (.iload 6, 2) := by decide +kernel
theorem d_R_put_127 : decode b_R_put 127 = .ok (.bipush (12), 2) := by decide +kernel
theorem d_R_put_129 : decode b_R_put 129 = .ok (.if_icmp .ge (37), 3) := by decide +kernel
theorem d_R_put_132 : decode b_R_put 132 = .ok (.aload_n 0, 1) := by decide +kernel
theorem d_R_put_133 : decode b_R_put 133 = .ok (.getfield 36, 3) := by decide +kernel
theorem d_R_put_136 : decode b_R_put 136 = .ok (.iload 6, 2) := by decide +kernel
theorem d_R_put_138 : decode b_R_put 138 = .ok (.baload, 1) := by decide +kernel
theorem d_R_put_139 : decode b_R_put 139 = .ok (.ifCond .ne (21), 3) := by decide +kernel
theorem d_R_put_142 : decode b_R_put 142 = .ok (.iload 5, 2) := by decide +kernel
theorem d_R_put_144 : decode b_R_put 144 = .ok (.iload 4, 2) := by decide +kernel
theorem d_R_put_146 : decode b_R_put 146 = .ok (.if_icmp .ge (14), 3) := by decide +kernel
theorem d_R_put_149 : decode b_R_put 149 = .ok (.aload_n 0, 1) := by decide +kernel
theorem d_R_put_150 : decode b_R_put 150 = .ok (.iload 6, 2) := by decide +kernel
theorem d_R_put_152 : decode b_R_put 152 = .ok (.iload_n 1, 1) := by decide +kernel
theorem d_R_put_153 : decode b_R_put 153 = .ok (.iload_n 2, 1) := by decide +kernel
theorem d_R_put_154 : decode b_R_put 154 = .ok (.invokevirtual 96, 3) := by decide +kernel
theorem d_R_put_157 : decode b_R_put 157 = .ok (.iinc 5 (1), 3) := by decide +kernel
theorem d_R_put_160 : decode b_R_put 160 = .ok (.iinc 6 (1), 3) := by decide +kernel
theorem d_R_put_163 : decode b_R_put 163 = .ok (.goto (-38), 3) := by decide +kernel
theorem d_R_put_166 : decode b_R_put 166 = .ok (.iconst (0), 1) := by decide +kernel
theorem d_R_put_167 : decode b_R_put 167 = .ok (.istore 6, 2) := by decide +kernel
theorem d_R_put_169 : decode b_R_put 169 = .ok (.iload 6, 2) := by decide +kernel
theorem d_R_put_171 : decode b_R_put 171 = .ok (.bipush (12), 2) := by decide +kernel
theorem d_R_put_173 : decode b_R_put 173 = .ok (.if_icmp .ge (36), 3) := by decide +kernel
theorem d_R_put_176 : decode b_R_put 176 = .ok (.aload_n 0, 1) := by decide +kernel
theorem d_R_put_177 : decode b_R_put 177 = .ok (.getfield 36, 3) := by decide +kernel
theorem d_R_put_180 : decode b_R_put 180 = .ok (.iload 6, 2) := by decide +kernel
theorem d_R_put_182 : decode b_R_put 182 = .ok (.baload, 1) := by decide +kernel
theorem d_R_put_183 : decode b_R_put 183 = .ok (.ifCond .ne (20), 3) := by decide +kernel
theorem d_R_put_186 : decode b_R_put 186 = .ok (.iload 5, 2) := by decide +kernel
theorem d_R_put_188 : decode b_R_put 188 = .ok (.iload 4, 2) := by decide +kernel
theorem d_R_put_190 : decode b_R_put 190 = .ok (.if_icmp .ge (13), 3) := by decide +kernel
theorem d_R_put_193 : decode b_R_put 193 = .ok (.aload_n 0, 1) := by decide +kernel
theorem d_R_put_194 : decode b_R_put 194 = .ok (.iload 6, 2) := by decide +kernel
theorem d_R_put_196 : decode b_R_put 196 = .ok (.iload_n 1, 1) := by decide +kernel
theorem d_R_put_197 : decode b_R_put 197 = .ok (.invokevirtual 100, 3) := by decide +kernel
theorem d_R_put_200 : decode b_R_put 200 = .ok (.iinc 5 (1), 3) := by decide +kernel
theorem d_R_put_203 : decode b_R_put 203 = .ok (.iinc 6 (1), 3) := by decide +kernel
theorem d_R_put_206 : decode b_R_put 206 = .ok (.goto (-37), 3) := by decide +kernel
theorem d_R_put_209 : decode b_R_put 209 = .ok (.aload_n 0, 1) := by decide +kernel
theorem d_R_put_210 : decode b_R_put 210 = .ok (.getfield 32, 3) := by decide +kernel
theorem d_R_put_213 : decode b_R_put 213 = .ok (.iload_n 1, 1) := by decide +kernel
theorem d_R_put_214 : decode b_R_put 214 = .ok (.iload 4, 2) := by decide +kernel
theorem d_R_put_216 : decode b_R_put 216 = .ok (.iload_n 3, 1) := by decide +kernel
theorem d_R_put_217 : decode b_R_put 217 = .ok (.if_icmp .ge (7), 3) := by decide +kernel
theorem d_R_put_220 : decode b_R_put 220 = .ok (.iconst (1), 1) := by decide +kernel
theorem d_R_put_221 : decode b_R_put 221 = .ok (.goto (4), 3) := by decide +kernel
theorem d_R_put_224 : decode b_R_put 224 = .ok (.iconst (0), 1) := by decide +kernel
theorem d_R_put_225 : decode b_R_put 225 = .ok (.bastore, 1) := by decide +kernel
theorem d_R_put_226 : decode b_R_put 226 = .ok (.iload 4, 2) := by decide +kernel
theorem d_R_put_228 : decode b_R_put 228 = .ok (.iload_n 3, 1) := by decide +kernel
theorem d_R_put_229 : decode b_R_put 229 = .ok (.if_icmp .ne (22), 3) := by decide +kernel
theorem d_R_put_232 : decode b_R_put 232 = .ok (.aload_n 0, 1) := by decide +kernel
theorem d_R_put_233 : decode b_R_put 233 = .ok (.getfield 20, 3) := by decide +kernel
theorem d_R_put_236 : decode b_R_put 236 = .ok (.iload_n 1, 1) := by decide +kernel
theorem d_R_put_237 : decode b_R_put 237 = .ok (.aload_n 0, 1) := by decide +kernel
theorem d_R_put_238 : decode b_R_put 238 = .ok (.getfield 26, 3) := by decide +kernel
theorem d_R_put_241 : decode b_R_put 241 = .ok (.iload_n 1, 1) := by decide +kernel
theorem d_R_put_242 : decode b_R_put 242 = .ok (.iaload, 1) := by decide +kernel
theorem d_R_put_243 : decode b_R_put 243 = .ok (.iastore, 1) := by decide +kernel
theorem d_R_put_244 : decode b_R_put 244 = .ok (.aload_n 0, 1) := by decide +kernel
theorem d_R_put_245 : decode b_R_put 245 = .ok (.getfield 23, 3) := by decide +kernel
theorem d_R_put_248 : decode b_R_put 248 = .ok (.iload_n 1, 1) := by decide +kernel
theorem d_R_put_249 : decode b_R_put 249 = .ok (.iload_n 2, 1) := by decide +kernel
theorem d_R_put_250 : decode b_R_put 250 = .ok (.iastore, 1) := by decide +kernel
theorem d_R_put_251 : decode b_R_put 251 = .ok (.aload_n 0, 1) := by decide +kernel
theorem d_R_put_252 : decode b_R_put 252 = .ok (.getfield 26, 3) := by decide +kernel
theorem d_R_put_255 : decode b_R_put 255 = .ok (.iload_n 1, 1) := by decide +kernel
theorem d_R_put_256 : decode b_R_put 256 = .ok (.iaload, 1) := by decide +kernel
theorem d_R_put_257 : decode b_R_put 257 = .ok (.ireturn, 1) := by decide +kernel
theorem d_R_cut_0 : decode b_R_cut 0 = .ok (.aload_n 0, 1) := by decide +kernel
theorem d_R_cut_1 : decode b_R_cut 1 = .ok (.iload_n 1, 1) := by decide +kernel
theorem d_R_cut_2 : decode b_R_cut 2 = .ok (.iconst (0), 1) := by decide +kernel
theorem d_R_cut_3 : decode b_R_cut 3 = .ok (.bipush (23), 2) := by decide +kernel
theorem d_R_cut_5 : decode b_R_cut 5 = .ok (.invokestatic 73, 3) := by decide +kernel
theorem d_R_cut_8 : decode b_R_cut 8 = .ok (.ifCond .eq (7), 3) := by decide +kernel
theorem d_R_cut_11 : decode b_R_cut 11 = .ok (.iconst (0), 1) := by decide +kernel
theorem d_R_cut_12 : decode b_R_cut 12 = .ok (.goto (4), 3) := by decide +kernel
theorem d_R_cut_15 : decode b_R_cut 15 = .ok (.iconst (1), 1) := by decide +kernel
theorem d_R_cut_16 : decode b_R_cut 16 = .ok (.putfield 70, 3) := by decide +kernel
theorem d_R_cut_19 : decode b_R_cut 19 = .ok (.aload_n 0, 1) := by decide +kernel
theorem d_R_cut_20 : decode b_R_cut 20 = .ok (.getfield 70, 3) := by decide +kernel
theorem d_R_cut_23 : decode b_R_cut 23 = .ok (.ifCond .ne (8), 3) := by decide +kernel
theorem d_R_cut_26 : decode b_R_cut 26 = .ok (.aload_n 0, 1) := by decide +kernel
theorem d_R_cut_27 : decode b_R_cut 27 = .ok (.iload_n 1, 1) := by decide +kernel
theorem d_R_cut_28 : decode b_R_cut 28 = .ok (.putfield 16, 3) := by decide +kernel
theorem d_R_cut_31 : decode b_R_cut 31 = .ok (.return_, 1) := by decide +kernel
theorem d_R_settle_0 : decode b_R_settle 0 = .ok (.aload_n 0, 1) := by decide +kernel
theorem d_R_settle_1 : decode b_R_settle 1 = .ok (.iconst (0), 1) := by decide +kernel
theorem d_R_settle_2 : decode b_R_settle 2 = .ok (.putfield 70, 3) := by decide +kernel
theorem d_R_settle_5 : decode b_R_settle 5 = .ok (.iload_n 1, 1) := by decide +kernel
theorem d_R_settle_6 : decode b_R_settle 6 = .ok (.invokestatic 88, 3) := by decide +kernel
theorem d_R_settle_9 : decode b_R_settle 9 = .ok (.ifCond .ne (17), 3) := by decide +kernel
theorem d_R_settle_12 : decode b_R_settle 12 = .ok (.aload_n 0, 1) := by decide +kernel
theorem d_R_settle_13 : decode b_R_settle 13 = .ok (.iconst (1), 1) := by decide +kernel
theorem d_R_settle_14 : decode b_R_settle 14 = .ok (.invokevirtual 81, 3) := by decide +kernel
theorem d_R_settle_17 : decode b_R_settle 17 = .ok (.ifCond .le (7), 3) := by decide +kernel
theorem d_R_settle_20 : decode b_R_settle 20 = .ok (.iconst (1), 1) := by decide +kernel
theorem d_R_settle_21 : decode b_R_settle 21 = .ok (.goto (4), 3) := by decide +kernel
theorem d_R_settle_24 : decode b_R_settle 24 = .ok (.iconst (0), 1) := by decide +kernel
theorem d_R_settle_25 : decode b_R_settle 25 = .ok (.ireturn, 1) := by decide +kernel
theorem d_R_settle_26 : decode b_R_settle 26 = .ok (.aload_n 0, 1) := by decide +kernel
theorem d_R_settle_27 : decode b_R_settle 27 = .ok (.getfield 32, 3) := by decide +kernel
theorem d_R_settle_30 : decode b_R_settle 30 = .ok (.iload_n 1, 1) := by decide +kernel
theorem d_R_settle_31 : decode b_R_settle 31 = .ok (.baload, 1) := by decide +kernel
theorem d_R_settle_32 : decode b_R_settle 32 = .ok (.ifCond .ne (17), 3) := by decide +kernel
theorem d_R_settle_35 : decode b_R_settle 35 = .ok (.aload_n 0, 1) := by decide +kernel
theorem d_R_settle_36 : decode b_R_settle 36 = .ok (.iconst (2), 1) := by decide +kernel
theorem d_R_settle_37 : decode b_R_settle 37 = .ok (.invokevirtual 81, 3) := by decide +kernel
theorem d_R_settle_40 : decode b_R_settle 40 = .ok (.ifCond .le (7), 3) := by decide +kernel
theorem d_R_settle_43 : decode b_R_settle 43 = .ok (.iconst (1), 1) := by decide +kernel
theorem d_R_settle_44 : decode b_R_settle 44 = .ok (.goto (4), 3) := by decide +kernel
theorem d_R_settle_47 : decode b_R_settle 47 = .ok (.iconst (0), 1) := by decide +kernel
theorem d_R_settle_48 : decode b_R_settle 48 = .ok (.ireturn, 1) := by decide +kernel
theorem d_R_settle_49 : decode b_R_settle 49 = .ok (.iconst (0), 1) := by decide +kernel
theorem d_R_settle_50 : decode b_R_settle 50 = .ok (.istore_n 2, 1) := by decide +kernel
theorem d_R_settle_51 : decode b_R_settle 51 = .ok (.iconst (0), 1) := by decide +kernel
theorem d_R_settle_52 : decode b_R_settle 52 = .ok (.istore_n 3, 1) := by decide +kernel
theorem d_R_settle_53 : decode b_R_settle 53 = .ok (.iload_n 3, 1) := by decide +kernel
theorem d_R_settle_54 : decode b_R_settle 54 = .ok (.bipush (12), 2) := by decide +kernel
theorem d_R_settle_56 : decode b_R_settle 56 = .ok (.if_icmp .ge (38), 3) := by decide +kernel
theorem d_R_settle_59 : decode b_R_settle 59 = .ok (.iload_n 2, 1) := by decide +kernel
theorem d_R_settle_60 : decode b_R_settle 60 = .ok (.ifCond .ne (22), 3) := by decide +kernel
theorem d_R_settle_63 : decode b_R_settle 63 = .ok (.aload_n 0, 1) := by decide +kernel
theorem d_R_settle_64 : decode b_R_settle 64 = .ok (.getfield 42, 3) := by decide +kernel
theorem d_R_settle_67 : decode b_R_settle 67 = .ok (.iload_n 3, 1) := by decide +kernel
theorem d_R_settle_68 : decode b_R_settle 68 = .ok (.iload_n 1, 1) := by decide +kernel
theorem d_R_settle_69 : decode b_R_settle 69 = .ok (.invokestatic 85, 3) := by decide +kernel
theorem d_R_settle_72 : decode b_R_settle 72 = .ok (.iaload, 1) := by decide +kernel
theorem d_R_settle_73 : decode b_R_settle 73 = .ok (.aload_n 0, 1) := by decide +kernel
theorem d_R_settle_74 : decode b_R_settle 74 = .ok (.getfield 26, 3) := by decide +kernel
theorem d_R_settle_77 : decode b_R_settle 77 = .ok (.iload_n 1, 1) := by decide +kernel
theorem d_R_settle_78 : decode b_R_settle 78 = .ok (.iaload, 1) := by decide +kernel
theorem d_R_settle_79 : decode b_R_settle 79 = .ok (.if_icmp .ne (7), 3) := by decide +kernel
theorem d_R_settle_82 : decode b_R_settle 82 = .ok (.iconst (1), 1) := by decide +kernel
theorem d_R_settle_83 : decode b_R_settle 83 = .ok (.goto (4), 3) := by decide +kernel
theorem d_R_settle_86 : decode b_R_settle 86 = .ok (.iconst (0), 1) := by decide +kernel
theorem d_R_settle_87 : decode b_R_settle 87 = .ok (.istore_n 2, 1) := by decide +kernel
theorem d_R_settle_88 : decode b_R_settle 88 = .ok (.iinc 3 (1), 3) := by decide +kernel
theorem d_R_settle_91 : decode b_R_settle 91 = .ok (.goto (-38), 3) := by decide +kernel
theorem d_R_settle_94 : decode b_R_settle 94 = .ok (.iconst (0), 1) := by decide +kernel
theorem d_R_settle_95 : decode b_R_settle 95 = .ok (.istore_n 3, 1) := by decide +kernel
theorem d_R_settle_96 : decode b_R_settle 96 = .ok (.iload_n 3, 1) := by decide +kernel
theorem d_R_settle_97 : decode b_R_settle 97 = .ok (.bipush (12), 2) := by decide +kernel
theorem d_R_settle_99 : decode b_R_settle 99 = .ok (.if_icmp .ge (58), 3) := by decide +kernel
theorem d_R_settle_102 : decode b_R_settle 102 = .ok (.aload_n 0, 1) := by decide +kernel
theorem d_R_settle_103 : decode b_R_settle 103 = .ok (.getfield 36, 3) := by decide +kernel
theorem d_R_settle_106 : decode b_R_settle 106 = .ok (.iload_n 3, 1) := by decide +kernel
theorem d_R_settle_107 : decode b_R_settle 107 = .ok (.baload, 1) := by decide +kernel
theorem d_R_settle_108 : decode b_R_settle 108 = .ok (.ifCond .ne (43), 3) := by decide +kernel
theorem d_R_settle_111 : decode b_R_settle 111 = .ok (.iload_n 2, 1) := by decide +kernel
theorem d_R_settle_112 : decode b_R_settle 112 = .ok (.ifCond .eq (28), 3) := by decide +kernel
theorem d_R_settle_115 : decode b_R_settle 115 = .ok (.aload_n 0, 1) := by decide +kernel
theorem d_R_settle_116 : decode b_R_settle 116 = .ok (.getfield 52, 3) := by decide +kernel
theorem d_R_settle_119 : decode b_R_settle 119 = .ok (.iload_n 3, 1) := by decide +kernel
theorem d_R_settle_120 : decode b_R_settle 120 = .ok (.iload_n 1, 1) := by decide +kernel
theorem d_R_settle_121 : decode b_R_settle 121 = .ok (.invokestatic 85, 3) := by decide +kernel
theorem d_R_settle_124 : decode b_R_settle 124 = .ok (.iaload, 1) := by decide +kernel
theorem d_R_settle_125 : decode b_R_settle 125 = .ok (.aload_n 0, 1) := by decide +kernel
theorem d_R_settle_126 : decode b_R_settle 126 = .ok (.getfield 26, 3) := by decide +kernel
theorem d_R_settle_129 : decode b_R_settle 129 = .ok (.iload_n 1, 1) := by decide +kernel
theorem d_R_settle_130 : decode b_R_settle 130 = .ok (.iaload, 1) := by decide +kernel
theorem d_R_settle_131 : decode b_R_settle 131 = .ok (.if_icmp .ne (9), 3) := by decide +kernel
theorem d_R_settle_134 : decode b_R_settle 134 = .ok (.aload_n 0, 1) := by decide +kernel
theorem d_R_settle_135 : decode b_R_settle 135 = .ok (.iload_n 3, 1) := by decide +kernel
theorem d_R_settle_136 : decode b_R_settle 136 = .ok (.iload_n 1, 1) := by decide +kernel
theorem d_R_settle_137 : decode b_R_settle 137 = .ok (.invokevirtual 100, 3) := by decide +kernel
theorem d_R_settle_140 : decode b_R_settle 140 = .ok (.aload_n 0, 1) := by decide +kernel
theorem d_R_settle_141 : decode b_R_settle 141 = .ok (.getfield 52, 3) := by decide +kernel
theorem d_R_settle_144 : decode b_R_settle 144 = .ok (.iload_n 3, 1) := by decide +kernel
theorem d_R_settle_145 : decode b_R_settle 145 = .ok (.iload_n 1, 1) := by decide +kernel
theorem d_R_settle_146 : decode b_R_settle 146 = .ok (.invokestatic 85, 3) := by decide +kernel
theorem d_R_settle_149 : decode b_R_settle 149 = .ok (.iconst (0), 1) := by decide +kernel
theorem d_R_settle_150 : decode b_R_settle 150 = .ok (.iastore, 1) := by decide +kernel
theorem d_R_settle_151 : decode b_R_settle 151 = .ok (.iinc 3 (1), 3) := by decide +kernel
theorem d_R_settle_154 : decode b_R_settle 154 = .ok (.goto (-58), 3) := by decide +kernel
theorem d_R_settle_157 : decode b_R_settle 157 = .ok (.aload_n 0, 1) := by decide +kernel
theorem d_R_settle_158 : decode b_R_settle 158 = .ok (.getfield 32, 3) := by decide +kernel
theorem d_R_settle_161 : decode b_R_settle 161 = .ok (.iload_n 1, 1) := by decide +kernel
theorem d_R_settle_162 : decode b_R_settle 162 = .ok (.iconst (0), 1) := by decide +kernel
theorem d_R_settle_163 : decode b_R_settle 163 = .ok (.bastore, 1) := by decide +kernel
theorem d_R_settle_164 : decode b_R_settle 164 = .ok (.iload_n 2, 1) := by decide +kernel
theorem d_R_settle_165 : decode b_R_settle 165 = .ok (.ifCond .eq (27), 3) := by decide +kernel
theorem d_R_settle_168 : decode b_R_settle 168 = .ok (.aload_n 0, 1) := by decide +kernel
theorem d_R_settle_169 : decode b_R_settle 169 = .ok (.getfield 20, 3) := by decide +kernel
theorem d_R_settle_172 : decode b_R_settle 172 = .ok (.iload_n 1, 1) := by decide +kernel
theorem d_R_settle_173 : decode b_R_settle 173 = .ok (.aload_n 0, 1) := by decide +kernel
theorem d_R_settle_174 : decode b_R_settle 174 = .ok (.getfield 26, 3) := by decide +kernel
theorem d_R_settle_177 : decode b_R_settle 177 = .ok (.iload_n 1, 1) := by decide +kernel
theorem d_R_settle_178 : decode b_R_settle 178 = .ok (.iaload, 1) := by decide +kernel
theorem d_R_settle_179 : decode b_R_settle 179 = .ok (.iastore, 1) := by decide +kernel
theorem d_R_settle_180 : decode b_R_settle 180 = .ok (.aload_n 0, 1) := by decide +kernel
theorem d_R_settle_181 : decode b_R_settle 181 = .ok (.getfield 23, 3) := by decide +kernel
theorem d_R_settle_184 : decode b_R_settle 184 = .ok (.iload_n 1, 1) := by decide +kernel
theorem d_R_settle_185 : decode b_R_settle 185 = .ok (.aload_n 0, 1) := by decide +kernel
theorem d_R_settle_186 : decode b_R_settle 186 = .ok (.getfield 29, 3) := by decide +kernel
theorem d_R_settle_189 : decode b_R_settle 189 = .ok (.iload_n 1, 1) := by decide +kernel
theorem d_R_settle_190 : decode b_R_settle 190 = .ok (.iaload, 1) := by decide +kernel
theorem d_R_settle_191 : decode b_R_settle 191 = .ok (.iastore, 1) := by decide +kernel
theorem d_R_settle_192 : decode b_R_settle 192 = .ok (.iload_n 2, 1) := by decide +kernel
theorem d_R_settle_193 : decode b_R_settle 193 = .ok (.ireturn, 1) := by decide +kernel
theorem d_R_isFresh_0 : decode b_R_isFresh 0 = .ok (.aload_n 0, 1) := by decide +kernel
theorem d_R_isFresh_1 : decode b_R_isFresh 1 = .ok (.getfield 42, 3) := by decide +kernel
theorem d_R_isFresh_4 : decode b_R_isFresh 4 = .ok (.iload_n 1, 1) := by decide +kernel
theorem d_R_isFresh_5 : decode b_R_isFresh 5 = .ok (.iload_n 2, 1) := by decide +kernel
theorem d_R_isFresh_6 : decode b_R_isFresh 6 = .ok (.invokestatic 85, 3) := by decide +kernel
theorem d_R_isFresh_9 : decode b_R_isFresh 9 = .ok (.iaload, 1) := by decide +kernel
theorem d_R_isFresh_10 : decode b_R_isFresh 10 = .ok (.aload_n 0, 1) := by decide +kernel
theorem d_R_isFresh_11 : decode b_R_isFresh 11 = .ok (.getfield 20, 3) := by decide +kernel
theorem d_R_isFresh_14 : decode b_R_isFresh 14 = .ok (.iload_n 2, 1) := by decide +kernel
theorem d_R_isFresh_15 : decode b_R_isFresh 15 = .ok (.iaload, 1) := by decide +kernel
theorem d_R_isFresh_16 : decode b_R_isFresh 16 = .ok (.if_icmp .ne (7), 3) := by decide +kernel
theorem d_R_isFresh_19 : decode b_R_isFresh 19 = .ok (.iconst (1), 1) := by decide +kernel
theorem d_R_isFresh_20 : decode b_R_isFresh 20 = .ok (.goto (4), 3) := by decide +kernel
theorem d_R_isFresh_23 : decode b_R_isFresh 23 = .ok (.iconst (0), 1) := by decide +kernel
theorem d_R_isFresh_24 : decode b_R_isFresh 24 = .ok (.ireturn, 1) := by decide +kernel
theorem d_R_isOffered_0 : decode b_R_isOffered 0 = .ok (.iload_n 0, 1) := by decide +kernel
theorem d_R_isOffered_1 : decode b_R_isOffered 1 = .ok (.iload_n 1, 1) := by decide +kernel
theorem d_R_isOffered_2 : decode b_R_isOffered 2 = .ok (.ishr, 1) := by decide +kernel
theorem d_R_isOffered_3 : decode b_R_isOffered 3 = .ok (.iconst (1), 1) := by decide +kernel
theorem d_R_isOffered_4 : decode b_R_isOffered 4 = .ok (.iand, 1) := by decide +kernel
theorem d_R_isOffered_5 : decode b_R_isOffered 5 = .ok (.iconst (1), 1) := by decide +kernel
theorem d_R_isOffered_6 : decode b_R_isOffered 6 = .ok (.if_icmp .ne (7), 3) := by decide +kernel
theorem d_R_isOffered_9 : decode b_R_isOffered 9 = .ok (.iconst (1), 1) := by decide +kernel
theorem d_R_isOffered_10 : decode b_R_isOffered 10 = .ok (.goto (4), 3) := by decide +kernel
theorem d_R_isOffered_13 : decode b_R_isOffered 13 = .ok (.iconst (0), 1) := by decide +kernel
theorem d_R_isOffered_14 : decode b_R_isOffered 14 = .ok (.ireturn, 1) := by decide +kernel
theorem d_R_get_0 : decode b_R_get 0 = .ok (.aload_n 0, 1) := by decide +kernel
theorem d_R_get_1 : decode b_R_get 1 = .ok (.iconst (0), 1) := by decide +kernel
theorem d_R_get_2 : decode b_R_get 2 = .ok (.putfield 70, 3) := by decide +kernel
theorem d_R_get_5 : decode b_R_get 5 = .ok (.iload_n 1, 1) := by decide +kernel
theorem d_R_get_6 : decode b_R_get 6 = .ok (.invokestatic 88, 3) := by decide +kernel
theorem d_R_get_9 : decode b_R_get 9 = .ok (.ifCond .ne (9), 3) := by decide +kernel
theorem d_R_get_12 : decode b_R_get 12 = .ok (.aload_n 0, 1) := by decide +kernel
theorem d_R_get_13 : decode b_R_get 13 = .ok (.iconst (1), 1) := by decide +kernel
theorem d_R_get_14 : decode b_R_get 14 = .ok (.invokevirtual 81, 3) := by decide +kernel
theorem d_R_get_17 : decode b_R_get 17 = .ok (.ireturn, 1) := by decide +kernel
theorem d_R_get_18 : decode b_R_get 18 = .ok (.iload_n 2, 1) := by decide +kernel
theorem d_R_get_19 : decode b_R_get 19 = .ok (.sipush (-4096), 3) := by decide +kernel
theorem d_R_get_22 : decode b_R_get 22 = .ok (.iand, 1) := by decide +kernel
theorem d_R_get_23 : decode b_R_get 23 = .ok (.ifCond .eq (9), 3) := by decide +kernel
theorem d_R_get_26 : decode b_R_get 26 = .ok (.aload_n 0, 1) := by decide +kernel
theorem d_R_get_27 : decode b_R_get 27 = .ok (.iconst (2), 1) := by decide +kernel
theorem d_R_get_28 : decode b_R_get 28 = .ok (.invokevirtual 81, 3) := by decide +kernel
theorem d_R_get_31 : decode b_R_get 31 = .ok (.ireturn, 1) := by decide +kernel
theorem d_R_get_32 : decode b_R_get 32 = .ok (.aload_n 0, 1) := by decide +kernel
theorem d_R_get_33 : decode b_R_get 33 = .ok (.getfield 32, 3) := by decide +kernel
theorem d_R_get_36 : decode b_R_get 36 = .ok (.iload_n 1, 1) := by decide +kernel
theorem d_R_get_37 : decode b_R_get 37 = .ok (.baload, 1) := by decide +kernel
theorem d_R_get_38 : decode b_R_get 38 = .ok (.ifCond .eq (9), 3) := by decide +kernel
theorem d_R_get_41 : decode b_R_get 41 = .ok (.aload_n 0, 1) := by decide +kernel
theorem d_R_get_42 : decode b_R_get 42 = .ok (.iconst (3), 1) := by decide +kernel
theorem d_R_get_43 : decode b_R_get 43 = .ok (.invokevirtual 81, 3) := by decide +kernel
theorem d_R_get_46 : decode b_R_get 46 = .ok (.ireturn, 1) := by decide +kernel
theorem d_R_get_47 : decode b_R_get 47 = .ok (.aload_n 0, 1) := by decide +kernel
theorem d_R_get_48 : decode b_R_get 48 = .ok (.getfield 23, 3) := by decide +kernel
theorem d_R_get_51 : decode b_R_get 51 = .ok (.iload_n 1, 1) := by decide +kernel
theorem d_R_get_52 : decode b_R_get 52 = .ok (.iaload, 1) := by decide +kernel
theorem d_R_get_53 : decode b_R_get 53 = .ok (.ifCond .ne (9), 3) := by decide +kernel
theorem d_R_get_56 : decode b_R_get 56 = .ok (.aload_n 0, 1) := by decide +kernel
theorem d_R_get_57 : decode b_R_get 57 = .ok (.iconst (4), 1) := by decide +kernel
theorem d_R_get_58 : decode b_R_get 58 = .ok (.invokevirtual 81, 3) := by decide +kernel
theorem d_R_get_61 : decode b_R_get 61 = .ok (.ireturn, 1) := by decide +kernel
theorem d_R_get_62 : decode b_R_get 62 = .ok (.iconst (0), 1) := by decide +kernel
theorem d_R_get_63 : decode b_R_get 63 = .ok (.istore_n 3, 1) := by decide +kernel
theorem d_R_get_64 : decode b_R_get 64 = .ok (.iconst (0), 1) := by decide +kernel
theorem d_R_get_65 : decode b_R_get 65 = .ok (.istore 4, 2) := by decide +kernel
theorem d_R_get_67 : decode b_R_get 67 = .ok (.bipush (11), 2) := by decide +kernel
theorem d_R_get_69 : decode b_R_get 69 = .ok (.istore 5, 2) := by decide +kernel
theorem d_R_get_71 : decode b_R_get 71 = .ok (.iload 5, 2) := by decide +kernel
theorem d_R_get_73 : decode b_R_get 73 = .ok (.ifCond .lt (45), 3) := by decide +kernel
theorem d_R_get_76 : decode b_R_get 76 = .ok (.iload_n 2, 1) := by decide +kernel
theorem d_R_get_77 : decode b_R_get 77 = .ok (.iload 5, 2) := by decide +kernel
theorem d_R_get_79 : decode b_R_get 79 = .ok (.invokestatic 104, 3) := by decide +kernel
theorem d_R_get_82 : decode b_R_get 82 = .ok (.ifCond .eq (30), 3) := by decide +kernel
theorem d_R_get_85 : decode b_R_get 85 = .ok (.aload_n 0, 1) := by decide +kernel
theorem d_R_get_86 : decode b_R_get 86 = .ok (.getfield 36, 3) := by decide +kernel
theorem d_R_get_89 : decode b_R_get 89 = .ok (.iload 5, 2) := by decide +kernel
theorem d_R_get_91 : decode b_R_get 91 = .ok (.baload, 1) := by decide +kernel
theorem d_R_get_92 : decode b_R_get 92 = .ok (.ifCond .ne (20), 3) := by decide +kernel
theorem d_R_get_95 : decode b_R_get 95 = .ok (.aload_n 0, 1) := by decide +kernel
theorem d_R_get_96 : decode b_R_get 96 = .ok (.iload 5, 2) := by decide +kernel
theorem d_R_get_98 : decode b_R_get 98 = .ok (.iload_n 1, 1) := by decide +kernel
theorem d_R_get_99 : decode b_R_get 99 = .ok (.invokevirtual 108, 3) := by decide +kernel
theorem d_R_get_102 : decode b_R_get 102 = .ok (.ifCond .eq (10), 3) := by decide +kernel
theorem d_R_get_105 : decode b_R_get 105 = .ok (.iinc 3 (1), 3) := by decide +kernel
theorem d_R_get_108 : decode b_R_get 108 = .ok (.iload 5, 2) := by decide +kernel
theorem d_R_get_110 : decode b_R_get 110 = .ok (.istore 4, 2) := by decide +kernel
theorem d_R_get_112 : decode b_R_get 112 = .ok (.iinc 5 (-1), 3) := by decide +kernel
theorem d_R_get_115 : decode b_R_get 115 = .ok (.goto (-44), 3) := by decide +kernel
theorem d_R_get_118 : decode b_R_get 118 = .ok (.iload_n 3, 1) := by decide +kernel
theorem d_R_get_119 : decode b_R_get 119 = .ok (.iconst (5), 1) := by decide +kernel
theorem d_R_get_120 : decode b_R_get 120 = .ok (.if_icmp .ge (9), 3) := by decide +kernel
theorem d_R_get_123 : decode b_R_get 123 = .ok (.aload_n 0, 1) := by decide +kernel
theorem d_R_get_124 : decode b_R_get 124 = .ok (.iconst (5), 1) := by decide +kernel
theorem d_R_get_125 : decode b_R_get 125 = .ok (.invokevirtual 81, 3) := by decide +kernel
theorem d_R_get_128 : decode b_R_get 128 = .ok (.ireturn, 1) := by decide +kernel
theorem d_R_get_129 : decode b_R_get 129 = .ok (.aload_n 0, 1) := by decide +kernel
theorem d_R_get_130 : decode b_R_get 130 = .ok (.aload_n 0, 1) := by decide +kernel
theorem d_R_get_131 : decode b_R_get 131 = .ok (.getfield 23, 3) := by decide +kernel
theorem d_R_get_134 : decode b_R_get 134 = .ok (.iload_n 1, 1) := by decide +kernel
theorem d_R_get_135 : decode b_R_get 135 = .ok (.iaload, 1) := by decide +kernel
theorem d_R_get_136 : decode b_R_get 136 = .ok (.putfield 111, 3) := by decide +kernel
theorem d_R_get_139 : decode b_R_get 139 = .ok (.iconst (0), 1) := by decide +kernel
theorem d_R_get_140 : decode b_R_get 140 = .ok (.istore 5, 2) := by decide +kernel
theorem d_R_get_142 : decode b_R_get 142 = .ok (.iload 5, 2) := by decide +kernel
theorem d_R_get_144 : decode b_R_get 144 = .ok (.aload_n 0, 1) := by decide +kernel
theorem d_R_get_145 : decode b_R_get 145 = .ok (.getfield 111, 3) := by decide +kernel
theorem d_R_get_148 : decode b_R_get 148 = .ok (.if_icmp .ge (34), 3) := by decide +kernel
theorem d_R_get_151 : decode b_R_get 151 = .ok (.aload_n 0, 1) := by decide +kernel
theorem d_R_get_152 : decode b_R_get 152 = .ok (.getfield 13, 3) := by decide +kernel
theorem d_R_get_155 : decode b_R_get 155 = .ok (.iload 5, 2) := by decide +kernel
theorem d_R_get_157 : decode b_R_get 157 = .ok (.aload_n 0, 1) := by decide +kernel
theorem d_R_get_158 : decode b_R_get 158 = .ok (.getfield 49, 3) := by decide +kernel
theorem d_R_get_161 : decode b_R_get 161 = .ok (.sipush (240), 3) := by decide +kernel
theorem d_R_get_164 : decode b_R_get 164 = .ok (.iload 4, 2) := by decide +kernel
theorem d_R_get_166 : decode b_R_get 166 = .ok (.iload_n 1, 1) := by decide +kernel
theorem d_R_get_167 : decode b_R_get 167 = .ok (.invokestatic 85, 3) := by decide +kernel
theorem d_R_get_170 : decode b_R_get 170 = .ok (.imul, 1) := by decide +kernel
theorem d_R_get_171 : decode b_R_get 171 = .ok (.iload 5, 2) := by decide +kernel
theorem d_R_get_173 : decode b_R_get 173 = .ok (.iadd, 1) := by decide +kernel
theorem d_R_get_174 : decode b_R_get 174 = .ok (.iaload, 1) := by decide +kernel
theorem d_R_get_175 : decode b_R_get 175 = .ok (.iastore, 1) := by decide +kernel
theorem d_R_get_176 : decode b_R_get 176 = .ok (.iinc 5 (1), 3) := by decide +kernel
theorem d_R_get_179 : decode b_R_get 179 = .ok (.goto (-37), 3) := by decide +kernel
theorem d_R_get_182 : decode b_R_get 182 = .ok (.aload_n 0, 1) := by decide +kernel
theorem d_R_get_183 : decode b_R_get 183 = .ok (.getfield 111, 3) := by decide +kernel
theorem d_R_get_186 : decode b_R_get 186 = .ok (.ireturn, 1) := by decide +kernel
theorem d_R_out_0 : decode b_R_out 0 = .ok (.aload_n 0, 1) := by decide +kernel
theorem d_R_out_1 : decode b_R_out 1 = .ok (.iconst (0), 1) := by decide +kernel
theorem d_R_out_2 : decode b_R_out 2 = .ok (.putfield 70, 3) := by decide +kernel
theorem d_R_out_5 : decode b_R_out 5 = .ok (.iload_n 1, 1) := by decide +kernel
theorem d_R_out_6 : decode b_R_out 6 = .ok (.iconst (0), 1) := by decide +kernel
theorem d_R_out_7 : decode b_R_out 7 = .ok (.aload_n 0, 1) := by decide +kernel
theorem d_R_out_8 : decode b_R_out 8 = .ok (.getfield 111, 3) := by decide +kernel
theorem d_R_out_11 : decode b_R_out 11 = .ok (.iconst (1), 1) := by decide +kernel
theorem d_R_out_12 : decode b_R_out 12 = .ok (.isub, 1) := by decide +kernel
theorem d_R_out_13 : decode b_R_out 13 = .ok (.invokestatic 73, 3) := by decide +kernel
theorem d_R_out_16 : decode b_R_out 16 = .ok (.ifCond .eq (12), 3) := by decide +kernel
theorem d_R_out_19 : decode b_R_out 19 = .ok (.aload_n 0, 1) := by decide +kernel
theorem d_R_out_20 : decode b_R_out 20 = .ok (.getfield 13, 3) := by decide +kernel
theorem d_R_out_23 : decode b_R_out 23 = .ok (.iload_n 1, 1) := by decide +kernel
theorem d_R_out_24 : decode b_R_out 24 = .ok (.iaload, 1) := by decide +kernel
theorem d_R_out_25 : decode b_R_out 25 = .ok (.goto (8), 3) := by decide +kernel
theorem d_R_out_28 : decode b_R_out 28 = .ok (.aload_n 0, 1) := by decide +kernel
theorem d_R_out_29 : decode b_R_out 29 = .ok (.iconst (1), 1) := by decide +kernel
theorem d_R_out_30 : decode b_R_out 30 = .ok (.invokevirtual 81, 3) := by decide +kernel
theorem d_R_out_33 : decode b_R_out 33 = .ok (.ireturn, 1) := by decide +kernel
theorem d_R_object_0 : decode b_R_object 0 = .ok (.aload_n 0, 1) := by decide +kernel
theorem d_R_object_1 : decode b_R_object 1 = .ok (.iconst (0), 1) := by decide +kernel
theorem d_R_object_2 : decode b_R_object 2 = .ok (.putfield 70, 3) := by decide +kernel
theorem d_R_object_5 : decode b_R_object 5 = .ok (.iload_n 1, 1) := by decide +kernel
theorem d_R_object_6 : decode b_R_object 6 = .ok (.invokestatic 88, 3) := by decide +kernel
theorem d_R_object_9 : decode b_R_object 9 = .ok (.ifCond .eq (12), 3) := by decide +kernel
theorem d_R_object_12 : decode b_R_object 12 = .ok (.iload_n 2, 1) := by decide +kernel
theorem d_R_object_13 : decode b_R_object 13 = .ok (.iconst (0), 1) := by decide +kernel
theorem d_R_object_14 : decode b_R_object 14 = .ok (.iconst (2), 1) := by decide +kernel
theorem d_R_object_15 : decode b_R_object 15 = .ok (.invokestatic 73, 3) := by decide +kernel
theorem d_R_object_18 : decode b_R_object 18 = .ok (.ifCond .ne (9), 3) := by decide +kernel
theorem d_R_object_21 : decode b_R_object 21 = .ok (.aload_n 0, 1) := by decide +kernel
theorem d_R_object_22 : decode b_R_object 22 = .ok (.iconst (1), 1) := by decide +kernel
theorem d_R_object_23 : decode b_R_object 23 = .ok (.invokevirtual 81, 3) := by decide +kernel
theorem d_R_object_26 : decode b_R_object 26 = .ok (.ireturn, 1) := by decide +kernel
theorem d_R_object_27 : decode b_R_object 27 = .ok (.iload_n 2, 1) := by decide +kernel
theorem d_R_object_28 : decode b_R_object 28 = .ok (.ifCond .ne (12), 3) := by decide +kernel
theorem d_R_object_31 : decode b_R_object 31 = .ok (.aload_n 0, 1) := by decide +kernel
theorem d_R_object_32 : decode b_R_object 32 = .ok (.getfield 20, 3) := by decide +kernel
theorem d_R_object_35 : decode b_R_object 35 = .ok (.iload_n 1, 1) := by decide +kernel
theorem d_R_object_36 : decode b_R_object 36 = .ok (.iaload, 1) := by decide +kernel
theorem d_R_object_37 : decode b_R_object 37 = .ok (.goto (31), 3) := by decide +kernel
theorem d_R_object_40 : decode b_R_object 40 = .ok (.iload_n 2, 1) := by decide +kernel
theorem d_R_object_41 : decode b_R_object 41 = .ok (.iconst (1), 1) := by decide +kernel
theorem d_R_object_42 : decode b_R_object 42 = .ok (.if_icmp .ne (12), 3) := by decide +kernel
theorem d_R_object_45 : decode b_R_object 45 = .ok (.aload_n 0, 1) := by decide +kernel
theorem d_R_object_46 : decode b_R_object 46 = .ok (.getfield 23, 3) := by decide +kernel
theorem d_R_object_49 : decode b_R_object 49 = .ok (.iload_n 1, 1) := by decide +kernel
theorem d_R_object_50 : decode b_R_object 50 = .ok (.iaload, 1) := by decide +kernel
theorem d_R_object_51 : decode b_R_object 51 = .ok (.goto (17), 3) := by decide +kernel
theorem d_R_object_54 : decode b_R_object 54 = .ok (.aload_n 0, 1) := by decide +kernel
theorem d_R_object_55 : decode b_R_object 55 = .ok (.getfield 32, 3) := by decide +kernel
theorem d_R_object_58 : decode b_R_object 58 = .ok (.iload_n 1, 1) := by decide +kernel
theorem d_R_object_59 : decode b_R_object 59 = .ok (.baload, 1) := by decide +kernel
theorem d_R_object_60 : decode b_R_object 60 = .ok (.ifCond .eq (7), 3) := by decide +kernel
theorem d_R_object_63 : decode b_R_object 63 = .ok (.iconst (1), 1) := by decide +kernel
theorem d_R_object_64 : decode b_R_object 64 = .ok (.goto (4), 3) := by decide +kernel
theorem d_R_object_67 : decode b_R_object 67 = .ok (.iconst (0), 1) := by decide +kernel
theorem d_R_object_68 : decode b_R_object 68 = .ok (.ireturn, 1) := by decide +kernel
theorem d_R_fail_0 : decode b_R_fail 0 = .ok (.aload_n 0, 1) := by decide +kernel
theorem d_R_fail_1 : decode b_R_fail 1 = .ok (.iload_n 1, 1) := by decide +kernel
theorem d_R_fail_2 : decode b_R_fail 2 = .ok (.invokestatic 114, 3) := by decide +kernel
theorem d_R_fail_5 : decode b_R_fail 5 = .ok (.ifCond .ne (7), 3) := by decide +kernel
theorem d_R_fail_8 : decode b_R_fail 8 = .ok (.iconst (1), 1) := by decide +kernel
theorem d_R_fail_9 : decode b_R_fail 9 = .ok (.goto (17), 3) := by decide +kernel
theorem d_R_fail_12 : decode b_R_fail 12 = .ok (.aload_n 0, 1) := by decide +kernel
theorem d_R_fail_13 : decode b_R_fail 13 = .ok (.getfield 36, 3) := by decide +kernel
theorem d_R_fail_16 : decode b_R_fail 16 = .ok (.iload_n 1, 1) := by decide +kernel
theorem d_R_fail_17 : decode b_R_fail 17 = .ok (.baload, 1) := by decide +kernel
theorem d_R_fail_18 : decode b_R_fail 18 = .ok (.ifCond .eq (7), 3) := by decide +kernel
theorem d_R_fail_21 : decode b_R_fail 21 = .ok (.iconst (2), 1) := by decide +kernel
theorem d_R_fail_22 : decode b_R_fail 22 = .ok (.goto (4), 3) := by decide +kernel
theorem d_R_fail_25 : decode b_R_fail 25 = .ok (.iconst (0), 1) := by decide +kernel
theorem d_R_fail_26 : decode b_R_fail 26 = .ok (.putfield 70, 3) := by decide +kernel
theorem d_R_fail_29 : decode b_R_fail 29 = .ok (.aload_n 0, 1) := by decide +kernel
theorem d_R_fail_30 : decode b_R_fail 30 = .ok (.getfield 70, 3) := by decide +kernel
theorem d_R_fail_33 : decode b_R_fail 33 = .ok (.ifCond .ne (10), 3) := by decide +kernel
theorem d_R_fail_36 : decode b_R_fail 36 = .ok (.aload_n 0, 1) := by decide +kernel
theorem d_R_fail_37 : decode b_R_fail 37 = .ok (.getfield 36, 3) := by decide +kernel
theorem d_R_fail_40 : decode b_R_fail 40 = .ok (.iload_n 1, 1) := by decide +kernel
theorem d_R_fail_41 : decode b_R_fail 41 = .ok (.iconst (1), 1) := by decide +kernel
theorem d_R_fail_42 : decode b_R_fail 42 = .ok (.bastore, 1) := by decide +kernel
theorem d_R_fail_43 : decode b_R_fail 43 = .ok (.return_, 1) := by decide +kernel
theorem d_R_back_0 : decode b_R_back 0 = .ok (.aload_n 0, 1) := by decide +kernel
theorem d_R_back_1 : decode b_R_back 1 = .ok (.iload_n 1, 1) := by decide +kernel
theorem d_R_back_2 : decode b_R_back 2 = .ok (.invokestatic 114, 3) := by decide +kernel
theorem d_R_back_5 : decode b_R_back 5 = .ok (.ifCond .ne (7), 3) := by decide +kernel
theorem d_R_back_8 : decode b_R_back 8 = .ok (.iconst (1), 1) := by decide +kernel
theorem d_R_back_9 : decode b_R_back 9 = .ok (.goto (17), 3) := by decide +kernel
theorem d_R_back_12 : decode b_R_back 12 = .ok (.aload_n 0, 1) := by decide +kernel
theorem d_R_back_13 : decode b_R_back 13 = .ok (.getfield 36, 3) := by decide +kernel
theorem d_R_back_16 : decode b_R_back 16 = .ok (.iload_n 1, 1) := by decide +kernel
theorem d_R_back_17 : decode b_R_back 17 = .ok (.baload, 1) := by decide +kernel
theorem d_R_back_18 : decode b_R_back 18 = .ok (.ifCond .ne (7), 3) := by decide +kernel
theorem d_R_back_21 : decode b_R_back 21 = .ok (.iconst (2), 1) := by decide +kernel
theorem d_R_back_22 : decode b_R_back 22 = .ok (.goto (4), 3) := by decide +kernel
theorem d_R_back_25 : decode b_R_back 25 = .ok (.iconst (0), 1) := by decide +kernel
theorem d_R_back_26 : decode b_R_back 26 = .ok (.putfield 70, 3) := by decide +kernel
theorem d_R_back_29 : decode b_R_back 29 = .ok (.aload_n 0, 1) := by decide +kernel
theorem d_R_back_30 : decode b_R_back 30 = .ok (.getfield 70, 3) := by decide +kernel
theorem d_R_back_33 : decode b_R_back 33 = .ok (.ifCond .le (4), 3) := by decide +kernel
theorem d_R_back_36 : decode b_R_back 36 = .ok (.return_, 1) := by decide +kernel
theorem d_R_back_37 : decode b_R_back 37 = .ok (.aload_n 0, 1) := by decide +kernel
theorem d_R_back_38 : decode b_R_back 38 = .ok (.getfield 36, 3) := by decide +kernel
theorem d_R_back_41 : decode b_R_back 41 = .ok (.iload_n 1, 1) := by decide +kernel
theorem d_R_back_42 : decode b_R_back 42 = .ok (.iconst (0), 1) := by decide +kernel
theorem d_R_back_43 : decode b_R_back 43 = .ok (.bastore, 1) := by decide +kernel
theorem d_R_back_44 : decode b_R_back 44 = .ok (.iconst (0), 1) := by decide +kernel
theorem d_R_back_45 : decode b_R_back 45 = .ok (.istore_n 3, 1) := by decide +kernel
theorem d_R_back_46 : decode b_R_back 46 = .ok (.iload_n 3, 1) := by decide +kernel
theorem d_R_back_47 : decode b_R_back 47 = .ok (.bipush (12), 2) := by decide +kernel
theorem d_R_back_49 : decode b_R_back 49 = .ok (.if_icmp .ge (46), 3) := by decide +kernel
theorem d_R_back_52 : decode b_R_back 52 = .ok (.aload_n 0, 1) := by decide +kernel
theorem d_R_back_53 : decode b_R_back 53 = .ok (.getfield 52, 3) := by decide +kernel
theorem d_R_back_56 : decode b_R_back 56 = .ok (.iload_n 1, 1) := by decide +kernel
theorem d_R_back_57 : decode b_R_back 57 = .ok (.iload_n 3, 1) := by decide +kernel
theorem d_R_back_58 : decode b_R_back 58 = .ok (.invokestatic 85, 3) := by decide +kernel
theorem d_R_back_61 : decode b_R_back 61 = .ok (.iconst (0), 1) := by decide +kernel
theorem d_R_back_62 : decode b_R_back 62 = .ok (.iastore, 1) := by decide +kernel
theorem d_R_back_63 : decode b_R_back 63 = .ok (.iload_n 2, 1) := by decide +kernel
theorem d_R_back_64 : decode b_R_back 64 = .ok (.ifCond .eq (25), 3) := by decide +kernel
theorem d_R_back_67 : decode b_R_back 67 = .ok (.aload_n 0, 1) := by decide +kernel
theorem d_R_back_68 : decode b_R_back 68 = .ok (.getfield 42, 3) := by decide +kernel
theorem d_R_back_71 : decode b_R_back 71 = .ok (.iload_n 1, 1) := by decide +kernel
theorem d_R_back_72 : decode b_R_back 72 = .ok (.iload_n 3, 1) := by decide +kernel
theorem d_R_back_73 : decode b_R_back 73 = .ok (.invokestatic 85, 3) := by decide +kernel
theorem d_R_back_76 : decode b_R_back 76 = .ok (.iconst (0), 1) := by decide +kernel
theorem d_R_back_77 : decode b_R_back 77 = .ok (.iastore, 1) := by decide +kernel
theorem d_R_back_78 : decode b_R_back 78 = .ok (.aload_n 0, 1) := by decide +kernel
theorem d_R_back_79 : decode b_R_back 79 = .ok (.getfield 45, 3) := by decide +kernel
theorem d_R_back_82 : decode b_R_back 82 = .ok (.iload_n 1, 1) := by decide +kernel
theorem d_R_back_83 : decode b_R_back 83 = .ok (.iload_n 3, 1) := by decide +kernel
theorem d_R_back_84 : decode b_R_back 84 = .ok (.invokestatic 85, 3) := by decide +kernel
theorem d_R_back_87 : decode b_R_back 87 = .ok (.iconst (0), 1) := by decide +kernel
theorem d_R_back_88 : decode b_R_back 88 = .ok (.iastore, 1) := by decide +kernel
theorem d_R_back_89 : decode b_R_back 89 = .ok (.iinc 3 (1), 3) := by decide +kernel
theorem d_R_back_92 : decode b_R_back 92 = .ok (.goto (-46), 3) := by decide +kernel
theorem d_R_back_95 : decode b_R_back 95 = .ok (.return_, 1) := by decide +kernel
theorem d_R_stripes_0 : decode b_R_stripes 0 = .ok (.iload_n 0, 1) := by decide +kernel
theorem d_R_stripes_1 : decode b_R_stripes 1 = .ok (.bipush (30), 2) := by decide +kernel
theorem d_R_stripes_3 : decode b_R_stripes 3 = .ok (.iadd, 1) := by decide +kernel
theorem d_R_stripes_4 : decode b_R_stripes 4 = .ok (.iconst (1), 1) := by decide +kernel
theorem d_R_stripes_5 : decode b_R_stripes 5 = .ok (.isub, 1) := by decide +kernel
theorem d_R_stripes_6 : decode b_R_stripes 6 = .ok (.bipush (30), 2) := by decide +kernel
theorem d_R_stripes_8 : decode b_R_stripes 8 = .ok (.idiv, 1) := by decide +kernel
theorem d_R_stripes_9 : decode b_R_stripes 9 = .ok (.ireturn, 1) := by decide +kernel
theorem d_R_canHelp_0 : decode b_R_canHelp 0 = .ok (.iload_n 1, 1) := by decide +kernel
theorem d_R_canHelp_1 : decode b_R_canHelp 1 = .ok (.iload_n 2, 1) := by decide +kernel
theorem d_R_canHelp_2 : decode b_R_canHelp 2 = .ok (.if_icmp .eq (34), 3) := by decide +kernel
theorem d_R_canHelp_5 : decode b_R_canHelp 5 = .ok (.iload 4, 2) := by decide +kernel
theorem d_R_canHelp_7 : decode b_R_canHelp 7 = .ok (.iload_n 1, 1) := by decide +kernel
theorem d_R_canHelp_8 : decode b_R_canHelp 8 = .ok (.invokestatic 104, 3) := by decide +kernel
theorem d_R_canHelp_11 : decode b_R_canHelp 11 = .ok (.ifCond .eq (25), 3) := by decide +kernel
theorem d_R_canHelp_14 : decode b_R_canHelp 14 = .ok (.aload_n 0, 1) := by decide +kernel
theorem d_R_canHelp_15 : decode b_R_canHelp 15 = .ok (.getfield 36, 3) := by decide +kernel
theorem d_R_canHelp_18 : decode b_R_canHelp 18 = .ok (.iload_n 1, 1) := by decide +kernel
theorem d_R_canHelp_19 : decode b_R_canHelp 19 = .ok (.baload, 1) := by decide +kernel
theorem d_R_canHelp_20 : decode b_R_canHelp 20 = .ok (.ifCond .ne (16), 3) := by decide +kernel
theorem d_R_canHelp_23 : decode b_R_canHelp 23 = .ok (.aload_n 0, 1) := by decide +kernel
theorem d_R_canHelp_24 : decode b_R_canHelp 24 = .ok (.iload_n 1, 1) := by decide +kernel
theorem d_R_canHelp_25 : decode b_R_canHelp 25 = .ok (.iload_n 3, 1) := by decide +kernel
theorem d_R_canHelp_26 : decode b_R_canHelp 26 = .ok (.invokevirtual 108, 3) := by decide +kernel
theorem d_R_canHelp_29 : decode b_R_canHelp 29 = .ok (.ifCond .eq (7), 3) := by decide +kernel
theorem d_R_canHelp_32 : decode b_R_canHelp 32 = .ok (.iconst (1), 1) := by decide +kernel
theorem d_R_canHelp_33 : decode b_R_canHelp 33 = .ok (.goto (4), 3) := by decide +kernel
theorem d_R_canHelp_36 : decode b_R_canHelp 36 = .ok (.iconst (0), 1) := by decide +kernel
theorem d_R_canHelp_37 : decode b_R_canHelp 37 = .ok (.ireturn, 1) := by decide +kernel
theorem d_R_isWanted_0 : decode b_R_isWanted 0 = .ok (.aload_n 0, 1) := by decide +kernel
theorem d_R_isWanted_1 : decode b_R_isWanted 1 = .ok (.getfield 32, 3) := by decide +kernel
theorem d_R_isWanted_4 : decode b_R_isWanted 4 = .ok (.iload_n 2, 1) := by decide +kernel
theorem d_R_isWanted_5 : decode b_R_isWanted 5 = .ok (.baload, 1) := by decide +kernel
theorem d_R_isWanted_6 : decode b_R_isWanted 6 = .ok (.ifCond .ne (16), 3) := by decide +kernel
theorem d_R_isWanted_9 : decode b_R_isWanted 9 = .ok (.aload_n 0, 1) := by decide +kernel
theorem d_R_isWanted_10 : decode b_R_isWanted 10 = .ok (.iload_n 1, 1) := by decide +kernel
theorem d_R_isWanted_11 : decode b_R_isWanted 11 = .ok (.iload_n 2, 1) := by decide +kernel
theorem d_R_isWanted_12 : decode b_R_isWanted 12 = .ok (.invokevirtual 108, 3) := by decide +kernel
theorem d_R_isWanted_15 : decode b_R_isWanted 15 = .ok (.ifCond .ne (7), 3) := by decide +kernel
theorem d_R_isWanted_18 : decode b_R_isWanted 18 = .ok (.iconst (1), 1) := by decide +kernel
theorem d_R_isWanted_19 : decode b_R_isWanted 19 = .ok (.goto (4), 3) := by decide +kernel
theorem d_R_isWanted_22 : decode b_R_isWanted 22 = .ok (.iconst (0), 1) := by decide +kernel
theorem d_R_isWanted_23 : decode b_R_isWanted 23 = .ok (.ireturn, 1) := by decide +kernel
theorem d_R_hasHelpers_0 : decode b_R_hasHelpers 0 = .ok (.iconst (0), 1) := by decide +kernel
theorem d_R_hasHelpers_1 : decode b_R_hasHelpers 1 = .ok (.istore 4, 2) := by decide +kernel
theorem d_R_hasHelpers_3 : decode b_R_hasHelpers 3 = .ok (.iconst (0), 1) := by decide +kernel
theorem d_R_hasHelpers_4 : decode b_R_hasHelpers 4 = .ok (.istore 5, 2) := by decide +kernel
theorem d_R_hasHelpers_6 : decode b_R_hasHelpers 6 = .ok (.iload 5, 2) := by decide +kernel
theorem d_R_hasHelpers_8 : decode b_R_hasHelpers 8 = .ok (.bipush (12), 2) := by decide +kernel
theorem d_R_hasHelpers_10 : decode b_R_hasHelpers 10 = .ok (.if_icmp .ge (31), 3) := by decide +kernel
theorem d_R_hasHelpers_13 : decode b_R_hasHelpers 13 = .ok (.iload 4, 2) := by decide +kernel
theorem d_R_hasHelpers_15 : decode b_R_hasHelpers 15 = .ok (.aload_n 0, 1) := by decide +kernel
theorem d_R_hasHelpers_16 : decode b_R_hasHelpers 16 = .ok (.iload 5, 2) := by decide +kernel
theorem d_R_hasHelpers_18 : decode b_R_hasHelpers 18 = .ok (.iload_n 1, 1) := by decide +kernel
theorem d_R_hasHelpers_19 : decode b_R_hasHelpers 19 = .ok (.iload_n 2, 1) := by decide +kernel
theorem d_R_hasHelpers_20 : decode b_R_hasHelpers 20 = .ok (.iload_n 3, 1) := by decide +kernel
theorem d_R_hasHelpers_21 : decode b_R_hasHelpers 21 = .ok (.invokevirtual 117, 3) := by decide +kernel
theorem d_R_hasHelpers_24 : decode b_R_hasHelpers 24 = .ok (.ifCond .eq (7), 3) := by decide +kernel
theorem d_R_hasHelpers_27 : decode b_R_hasHelpers 27 = .ok (.iconst (1), 1) := by decide +kernel
theorem d_R_hasHelpers_28 : decode b_R_hasHelpers 28 = .ok (.goto (4), 3) := by decide +kernel
theorem d_R_hasHelpers_31 : decode b_R_hasHelpers 31 = .ok (.iconst (0), 1) := by decide +kernel
theorem d_R_hasHelpers_32 : decode b_R_hasHelpers 32 = .ok (.iadd, 1) := by decide +kernel
theorem d_R_hasHelpers_33 : decode b_R_hasHelpers 33 = .ok (.istore 4, 2) := by decide +kernel
theorem d_R_hasHelpers_35 : decode b_R_hasHelpers 35 = .ok (.iinc 5 (1), 3) := by decide +kernel
theorem d_R_hasHelpers_38 : decode b_R_hasHelpers 38 = .ok (.goto (-32), 3) := by decide +kernel
theorem d_R_hasHelpers_41 : decode b_R_hasHelpers 41 = .ok (.iload 4, 2) := by decide +kernel
theorem d_R_hasHelpers_43 : decode b_R_hasHelpers 43 = .ok (.bipush (8), 2) := by decide +kernel
theorem d_R_hasHelpers_45 : decode b_R_hasHelpers 45 = .ok (.if_icmp .lt (7), 3) := by decide +kernel
theorem d_R_hasHelpers_48 : decode b_R_hasHelpers 48 = .ok (.iconst (1), 1) := by decide +kernel
theorem d_R_hasHelpers_49 : decode b_R_hasHelpers 49 = .ok (.goto (4), 3) := by decide +kernel
theorem d_R_hasHelpers_52 : decode b_R_hasHelpers 52 = .ok (.iconst (0), 1) := by decide +kernel
theorem d_R_hasHelpers_53 : decode b_R_hasHelpers 53 = .ok (.ireturn, 1) := by decide +kernel
theorem d_R_sendAll_0 : decode b_R_sendAll 0 = .ok (.iconst (-1), 1) := by decide +kernel
theorem d_R_sendAll_1 : decode b_R_sendAll 1 = .ok (.istore 5, 2) := by decide +kernel
theorem d_R_sendAll_3 : decode b_R_sendAll 3 = .ok (.iconst (0), 1) := by decide +kernel
theorem d_R_sendAll_4 : decode b_R_sendAll 4 = .ok (.istore 6, 2) := by decide +kernel
theorem d_R_sendAll_6 : decode b_R_sendAll 6 = .ok (.iload 6, 2) := by decide +kernel
theorem d_R_sendAll_8 : decode b_R_sendAll 8 = .ok (.bipush (12), 2) := by decide +kernel
theorem d_R_sendAll_10 : decode b_R_sendAll 10 = .ok (.if_icmp .ge (31), 3) := by decide +kernel
theorem d_R_sendAll_13 : decode b_R_sendAll 13 = .ok (.aload_n 0, 1) := by decide +kernel
theorem d_R_sendAll_14 : decode b_R_sendAll 14 = .ok (.getfield 64, 3) := by decide +kernel
theorem d_R_sendAll_17 : decode b_R_sendAll 17 = .ok (.iload 6, 2) := by decide +kernel
theorem d_R_sendAll_19 : decode b_R_sendAll 19 = .ok (.aload_n 0, 1) := by decide +kernel
theorem d_R_sendAll_20 : decode b_R_sendAll 20 = .ok (.getfield 39, 3) := by decide +kernel
theorem d_R_sendAll_23 : decode b_R_sendAll 23 = .ok (.iload 6, 2) := by decide +kernel
theorem d_R_sendAll_25 : decode b_R_sendAll 25 = .ok (.iaload, 1) := by decide +kernel
theorem d_R_sendAll_26 : decode b_R_sendAll 26 = .ok (.iastore, 1) := by decide +kernel
theorem d_R_sendAll_27 : decode b_R_sendAll 27 = .ok (.aload_n 0, 1) := by decide +kernel
theorem d_R_sendAll_28 : decode b_R_sendAll 28 = .ok (.getfield 67, 3) := by decide +kernel
theorem d_R_sendAll_31 : decode b_R_sendAll 31 = .ok (.iload 6, 2) := by decide +kernel
theorem d_R_sendAll_33 : decode b_R_sendAll 33 = .ok (.iconst (0), 1) := by decide +kernel
theorem d_R_sendAll_34 : decode b_R_sendAll 34 = .ok (.bastore, 1) := by decide +kernel
theorem d_R_sendAll_35 : decode b_R_sendAll 35 = .ok (.iinc 6 (1), 3) := by decide +kernel
theorem d_R_sendAll_38 : decode b_R_sendAll 38 = .ok (.goto (-32), 3) := by decide +kernel
theorem d_R_sendAll_41 : decode b_R_sendAll 41 = .ok (.iconst (0), 1) := by decide +kernel
theorem d_R_sendAll_42 : decode b_R_sendAll 42 = .ok (.istore 6, 2) := by decide +kernel
theorem d_R_sendAll_44 : decode b_R_sendAll 44 = .ok (.iload 6, 2) := by decide +kernel
theorem d_R_sendAll_46 : decode b_R_sendAll 46 = .ok (.bipush (8), 2) := by decide +kernel
theorem d_R_sendAll_48 : decode b_R_sendAll 48 = .ok (.if_icmp .ge (96), 3) := by decide +kernel
theorem d_R_sendAll_51 : decode b_R_sendAll 51 = .ok (.iconst (-1), 1) := by decide +kernel
theorem d_R_sendAll_52 : decode b_R_sendAll 52 = .ok (.istore 5, 2) := by decide +kernel
theorem d_R_sendAll_54 : decode b_R_sendAll 54 = .ok (.iconst (0), 1) := by decide +kernel
theorem d_R_sendAll_55 : decode b_R_sendAll 55 = .ok (.istore 7, 2) := by decide +kernel
theorem d_R_sendAll_57 : decode b_R_sendAll 57 = .ok (.iload 7, 2) := by decide +kernel
theorem d_R_sendAll_59 : decode b_R_sendAll 59 = .ok (.bipush (12), 2) := by decide +kernel
theorem d_R_sendAll_61 : decode b_R_sendAll 61 = .ok (.if_icmp .ge (57), 3) := by decide +kernel
theorem d_R_sendAll_64 : decode b_R_sendAll 64 = .ok (.aload_n 0, 1) := by decide +kernel
theorem d_R_sendAll_65 : decode b_R_sendAll 65 = .ok (.getfield 67, 3) := by decide +kernel
theorem d_R_sendAll_68 : decode b_R_sendAll 68 = .ok (.iload 7, 2) := by decide +kernel
theorem d_R_sendAll_70 : decode b_R_sendAll 70 = .ok (.baload, 1) := by decide +kernel
theorem d_R_sendAll_71 : decode b_R_sendAll 71 = .ok (.ifCond .ne (41), 3) := by decide +kernel
theorem d_R_sendAll_74 : decode b_R_sendAll 74 = .ok (.aload_n 0, 1) := by decide +kernel
theorem d_R_sendAll_75 : decode b_R_sendAll 75 = .ok (.iload 7, 2) := by decide +kernel
theorem d_R_sendAll_77 : decode b_R_sendAll 77 = .ok (.iload_n 1, 1) := by decide +kernel
theorem d_R_sendAll_78 : decode b_R_sendAll 78 = .ok (.iload_n 2, 1) := by decide +kernel
theorem d_R_sendAll_79 : decode b_R_sendAll 79 = .ok (.iload_n 3, 1) := by decide +kernel
theorem d_R_sendAll_80 : decode b_R_sendAll 80 = .ok (.invokevirtual 117, 3) := by decide +kernel
theorem d_R_sendAll_83 : decode b_R_sendAll 83 = .ok (.ifCond .eq (29), 3) := by decide +kernel
theorem d_R_sendAll_86 : decode b_R_sendAll 86 = .ok (.iload 5, 2) := by decide +kernel
theorem d_R_sendAll_88 : decode b_R_sendAll 88 = .ok (.ifCond .lt (20), 3) := by decide +kernel
theorem d_R_sendAll_91 : decode b_R_sendAll 91 = .ok (.aload_n 0, 1) := by decide +kernel
theorem d_R_sendAll_92 : decode b_R_sendAll 92 = .ok (.getfield 64, 3) := by decide +kernel
theorem d_R_sendAll_95 : decode b_R_sendAll 95 = .ok (.iload 7, 2) := by decide +kernel
theorem d_R_sendAll_97 : decode b_R_sendAll 97 = .ok (.iaload, 1) := by decide +kernel
theorem d_R_sendAll_98 : decode b_R_sendAll 98 = .ok (.aload_n 0, 1) := by decide +kernel
theorem d_R_sendAll_99 : decode b_R_sendAll 99 = .ok (.getfield 64, 3) := by decide +kernel
theorem d_R_sendAll_102 : decode b_R_sendAll 102 = .ok (.iload 5, 2) := by decide +kernel
theorem d_R_sendAll_104 : decode b_R_sendAll 104 = .ok (.iaload, 1) := by decide +kernel
theorem d_R_sendAll_105 : decode b_R_sendAll 105 = .ok (.if_icmp .ge (7), 3) := by decide +kernel
theorem d_R_sendAll_108 : decode b_R_sendAll 108 = .ok (.iload 7, 2) := by decide +kernel
theorem d_R_sendAll_110 : decode b_R_sendAll 110 = .ok (.istore 5, 2) := by decide +kernel
theorem d_R_sendAll_112 : decode b_R_sendAll 112 = .ok (.iinc 7 (1), 3) := by decide +kernel
theorem d_R_sendAll_115 : decode b_R_sendAll 115 = .ok (.goto (-58), 3) := by decide +kernel
theorem d_R_sendAll_118 : decode b_R_sendAll 118 = .ok (.aload_n 0, 1) := by decide +kernel
theorem d_R_sendAll_119 : decode b_R_sendAll 119 = .ok (.getfield 67, 3) := by decide +kernel
theorem d_R_sendAll_122 : decode b_R_sendAll 122 = .ok (.iload 5, 2) := by decide +kernel
theorem d_R_sendAll_124 : decode b_R_sendAll 124 = .ok (.iconst (1), 1) := by decide +kernel
theorem d_R_sendAll_125 : decode b_R_sendAll 125 = .ok (.bastore, 1) := by decide +kernel
theorem d_R_sendAll_126 : decode b_R_sendAll 126 = .ok (.aload_n 0, 1) := by decide +kernel
theorem d_R_sendAll_127 : decode b_R_sendAll 127 = .ok (.getfield 39, 3) := by decide +kernel
theorem d_R_sendAll_130 : decode b_R_sendAll 130 = .ok (.iload 5, 2) := by decide +kernel
theorem d_R_sendAll_132 : decode b_R_sendAll 132 = .ok (.dup2, 1) := by decide +kernel
theorem d_R_sendAll_133 : decode b_R_sendAll 133 = .ok (.iaload, 1) := by decide +kernel
theorem d_R_sendAll_134 : decode b_R_sendAll 134 = .ok (.iload 4, 2) := by decide +kernel
theorem d_R_sendAll_136 : decode b_R_sendAll 136 = .ok (.iadd, 1) := by decide +kernel
theorem d_R_sendAll_137 : decode b_R_sendAll 137 = .ok (.iastore, 1) := by decide +kernel
theorem d_R_sendAll_138 : decode b_R_sendAll 138 = .ok (.iinc 6 (1), 3) := by decide +kernel
theorem d_R_sendAll_141 : decode b_R_sendAll 141 = .ok (.goto (-97), 3) := by decide +kernel
theorem d_R_sendAll_144 : decode b_R_sendAll 144 = .ok (.iload 5, 2) := by decide +kernel
theorem d_R_sendAll_146 : decode b_R_sendAll 146 = .ok (.ireturn, 1) := by decide +kernel
theorem d_R_rebuild_0 : decode b_R_rebuild 0 = .ok (.aload_n 0, 1) := by decide +kernel
theorem d_R_rebuild_1 : decode b_R_rebuild 1 = .ok (.iconst (0), 1) := by decide +kernel
theorem d_R_rebuild_2 : decode b_R_rebuild 2 = .ok (.putfield 70, 3) := by decide +kernel
theorem d_R_rebuild_5 : decode b_R_rebuild 5 = .ok (.iload_n 1, 1) := by decide +kernel
theorem d_R_rebuild_6 : decode b_R_rebuild 6 = .ok (.invokestatic 114, 3) := by decide +kernel
theorem d_R_rebuild_9 : decode b_R_rebuild 9 = .ok (.ifCond .ne (9), 3) := by decide +kernel
theorem d_R_rebuild_12 : decode b_R_rebuild 12 = .ok (.aload_n 0, 1) := by decide +kernel
theorem d_R_rebuild_13 : decode b_R_rebuild 13 = .ok (.iconst (1), 1) := by decide +kernel
theorem d_R_rebuild_14 : decode b_R_rebuild 14 = .ok (.invokevirtual 81, 3) := by decide +kernel
theorem d_R_rebuild_17 : decode b_R_rebuild 17 = .ok (.ireturn, 1) := by decide +kernel
theorem d_R_rebuild_18 : decode b_R_rebuild 18 = .ok (.iload_n 2, 1) := by decide +kernel
theorem d_R_rebuild_19 : decode b_R_rebuild 19 = .ok (.sipush (-4096), 3) := by decide +kernel
theorem d_R_rebuild_22 : decode b_R_rebuild 22 = .ok (.iand, 1) := by decide +kernel
theorem d_R_rebuild_23 : decode b_R_rebuild 23 = .ok (.ifCond .eq (9), 3) := by decide +kernel
theorem d_R_rebuild_26 : decode b_R_rebuild 26 = .ok (.aload_n 0, 1) := by decide +kernel
theorem d_R_rebuild_27 : decode b_R_rebuild 27 = .ok (.iconst (2), 1) := by decide +kernel
theorem d_R_rebuild_28 : decode b_R_rebuild 28 = .ok (.invokevirtual 81, 3) := by decide +kernel
theorem d_R_rebuild_31 : decode b_R_rebuild 31 = .ok (.ireturn, 1) := by decide +kernel
theorem d_R_rebuild_32 : decode b_R_rebuild 32 = .ok (.aload_n 0, 1) := by decide +kernel
theorem d_R_rebuild_33 : decode b_R_rebuild 33 = .ok (.getfield 36, 3) := by decide +kernel
theorem d_R_rebuild_36 : decode b_R_rebuild 36 = .ok (.iload_n 1, 1) := by decide +kernel
theorem d_R_rebuild_37 : decode b_R_rebuild 37 = .ok (.baload, 1) := by decide +kernel
theorem d_R_rebuild_38 : decode b_R_rebuild 38 = .ok (.ifCond .eq (9), 3) := by decide +kernel
theorem d_R_rebuild_41 : decode b_R_rebuild 41 = .ok (.aload_n 0, 1) := by decide +kernel
theorem d_R_rebuild_42 : decode b_R_rebuild 42 = .ok (.iconst (3), 1) := by decide +kernel
theorem d_R_rebuild_43 : decode b_R_rebuild 43 = .ok (.invokevirtual 81, 3) := by decide +kernel
theorem d_R_rebuild_46 : decode b_R_rebuild 46 = .ok (.ireturn, 1) := by decide +kernel
theorem d_R_rebuild_47 : decode b_R_rebuild 47 = .ok (.iconst (0), 1) := by decide +kernel
theorem d_R_rebuild_48 : decode b_R_rebuild 48 = .ok (.istore_n 3, 1) := by decide +kernel
theorem d_R_rebuild_49 : decode b_R_rebuild 49 = .ok (.iload_n 3, 1) := by decide +kernel
theorem d_R_rebuild_50 : decode b_R_rebuild 50 = .ok (.bipush (12), 2) := by decide +kernel
theorem d_R_rebuild_52 : decode b_R_rebuild 52 = .ok (.if_icmp .ge (43), 3) := by decide +kernel
theorem d_R_rebuild_55 : decode b_R_rebuild 55 = .ok (.aload_n 0, 1) := by decide +kernel
theorem d_R_rebuild_56 : decode b_R_rebuild 56 = .ok (.iload_n 1, 1) := by decide +kernel
theorem d_R_rebuild_57 : decode b_R_rebuild 57 = .ok (.iload_n 3, 1) := by decide +kernel
theorem d_R_rebuild_58 : decode b_R_rebuild 58 = .ok (.invokevirtual 121, 3) := by decide +kernel
theorem d_R_rebuild_61 : decode b_R_rebuild 61 = .ok (.ifCond .eq (28), 3) := by decide +kernel
theorem d_R_rebuild_64 : decode b_R_rebuild 64 = .ok (.aload_n 0, 1) := by decide +kernel
theorem d_R_rebuild_65 : decode b_R_rebuild 65 = .ok (.getfield 23, 3) := by decide +kernel
theorem d_R_rebuild_68 : decode b_R_rebuild 68 = .ok (.iload_n 3, 1) := by decide +kernel
theorem d_R_rebuild_69 : decode b_R_rebuild 69 = .ok (.iaload, 1) := by decide +kernel
theorem d_R_rebuild_70 : decode b_R_rebuild 70 = .ok (.ifCond .le (19), 3) := by decide +kernel
theorem d_R_rebuild_73 : decode b_R_rebuild 73 = .ok (.aload_n 0, 1) := by decide +kernel
theorem d_R_rebuild_74 : decode b_R_rebuild 74 = .ok (.iload_n 1, 1) := by decide +kernel
theorem d_R_rebuild_75 : decode b_R_rebuild 75 = .ok (.iload_n 3, 1) := by decide +kernel
theorem d_R_rebuild_76 : decode b_R_rebuild 76 = .ok (.iload_n 2, 1) := by decide +kernel
theorem d_R_rebuild_77 : decode b_R_rebuild 77 = .ok (.invokevirtual 124, 3) := by decide +kernel
theorem d_R_rebuild_80 : decode b_R_rebuild 80 = .ok (.ifCond .ne (9), 3) := by decide +kernel
theorem d_R_rebuild_83 : decode b_R_rebuild 83 = .ok (.aload_n 0, 1) := by decide +kernel
theorem d_R_rebuild_84 : decode b_R_rebuild 84 = .ok (.iconst (4), 1) := by decide +kernel
theorem d_R_rebuild_85 : decode b_R_rebuild 85 = .ok (.invokevirtual 81, 3) := by decide +kernel
theorem d_R_rebuild_88 : decode b_R_rebuild 88 = .ok (.ireturn, 1) := by decide +kernel
theorem d_R_rebuild_89 : decode b_R_rebuild 89 = .ok (.iinc 3 (1), 3) := by decide +kernel
theorem d_R_rebuild_92 : decode b_R_rebuild 92 = .ok (.goto (-43), 3) := by decide +kernel
theorem d_R_rebuild_95 : decode b_R_rebuild 95 = .ok (.iconst (0), 1) := by decide +kernel
theorem d_R_rebuild_96 : decode b_R_rebuild 96 = .ok (.istore_n 3, 1) := by decide +kernel
theorem d_R_rebuild_97 : decode b_R_rebuild 97 = .ok (.iconst (0), 1) := by decide +kernel
theorem d_R_rebuild_98 : decode b_R_rebuild 98 = .ok (.istore 4, 2) := by decide +kernel
theorem d_R_rebuild_100 : decode b_R_rebuild 100 = .ok (.iload 4, 2) := by decide +kernel
theorem d_R_rebuild_102 : decode b_R_rebuild 102 = .ok (.bipush (12), 2) := by decide +kernel
theorem d_R_rebuild_104 : decode b_R_rebuild 104 = .ok (.if_icmp .ge (146), 3) := by decide +kernel
theorem d_R_rebuild_107 : decode b_R_rebuild 107 = .ok (.aload_n 0, 1) := by decide +kernel
theorem d_R_rebuild_108 : decode b_R_rebuild 108 = .ok (.iload_n 1, 1) := by decide +kernel
theorem d_R_rebuild_109 : decode b_R_rebuild 109 = .ok (.iload 4, 2) := by decide +kernel
theorem d_R_rebuild_111 : decode b_R_rebuild 111 = .ok (.invokevirtual 121, 3) := by decide +kernel
theorem d_R_rebuild_114 : decode b_R_rebuild 114 = .ok (.ifCond .eq (130), 3) := by decide +kernel
theorem d_R_rebuild_117 : decode b_R_rebuild 117 = .ok (.aload_n 0, 1) := by decide +kernel
theorem d_R_rebuild_118 : decode b_R_rebuild 118 = .ok (.getfield 23, 3) := by decide +kernel
theorem d_R_rebuild_121 : decode b_R_rebuild 121 = .ok (.iload 4, 2) := by decide +kernel
theorem d_R_rebuild_123 : decode b_R_rebuild 123 = .ok (.iaload, 1) := by decide +kernel
theorem d_R_rebuild_124 : decode b_R_rebuild 124 = .ok (.invokestatic 127, 3) := by decide +kernel
theorem d_R_rebuild_127 : decode b_R_rebuild 127 = .ok (.istore 5, 2) := by decide +kernel
theorem d_R_rebuild_129 : decode b_R_rebuild 129 = .ok (.iload 5, 2) := by decide +kernel
theorem d_R_rebuild_131 : decode b_R_rebuild 131 = .ok (.ifCond .le (77), 3) := by decide +kernel
theorem d_R_rebuild_134 : decode b_R_rebuild 134 = .ok (.aload_n 0, 1) := by decide +kernel
theorem d_R_rebuild_135 : decode b_R_rebuild 135 = .ok (.iload_n 1, 1) := by decide +kernel
theorem d_R_rebuild_136 : decode b_R_rebuild 136 = .ok (.iload 4, 2) := by decide +kernel
theorem d_R_rebuild_138 : decode b_R_rebuild 138 = .ok (.iload_n 2, 1) := by decide +kernel
theorem d_R_rebuild_139 : decode b_R_rebuild 139 = .ok (.iload 5, 2) := by decide +kernel
theorem d_R_rebuild_141 : decode b_R_rebuild 141 = .ok (.invokevirtual 130, 3) := by decide +kernel
theorem d_R_rebuild_144 : decode b_R_rebuild 144 = .ok (.istore 6, 2) := by decide +kernel
theorem d_R_rebuild_146 : decode b_R_rebuild 146 = .ok (.iconst (0), 1) := by decide +kernel
theorem d_R_rebuild_147 : decode b_R_rebuild 147 = .ok (.istore 7, 2) := by decide +kernel
theorem d_R_rebuild_149 : decode b_R_rebuild 149 = .ok (.iload 7, 2) := by decide +kernel
theorem d_R_rebuild_151 : decode b_R_rebuild 151 = .ok (.sipush (240), 3) := by decide +kernel
theorem d_R_rebuild_154 : decode b_R_rebuild 154 = .ok (.if_icmp .ge (46), 3) := by decide +kernel
theorem d_R_rebuild_157 : decode b_R_rebuild 157 = .ok (.aload_n 0, 1) := by decide +kernel
theorem d_R_rebuild_158 : decode b_R_rebuild 158 = .ok (.getfield 49, 3) := by decide +kernel
theorem d_R_rebuild_161 : decode b_R_rebuild 161 = .ok (.sipush (240), 3) := by decide +kernel
theorem d_R_rebuild_164 : decode b_R_rebuild 164 = .ok (.iload_n 1, 1) := by decide +kernel
theorem d_R_rebuild_165 : decode b_R_rebuild 165 = .ok (.iload 4, 2) := by decide +kernel
theorem d_R_rebuild_167 : decode b_R_rebuild 167 = .ok (.invokestatic 85, 3) := by decide +kernel
theorem d_R_rebuild_170 : decode b_R_rebuild 170 = .ok (.imul, 1) := by decide +kernel
theorem d_R_rebuild_171 : decode b_R_rebuild 171 = .ok (.iload 7, 2) := by decide +kernel
theorem d_R_rebuild_173 : decode b_R_rebuild 173 = .ok (.iadd, 1) := by decide +kernel
theorem d_R_rebuild_174 : decode b_R_rebuild 174 = .ok (.aload_n 0, 1) := by decide +kernel
theorem d_R_rebuild_175 : decode b_R_rebuild 175 = .ok (.getfield 49, 3) := by decide +kernel
theorem d_R_rebuild_178 : decode b_R_rebuild 178 = .ok (.sipush (240), 3) := by decide +kernel
theorem d_R_rebuild_181 : decode b_R_rebuild 181 = .ok (.iload 6, 2) := by decide +kernel
theorem d_R_rebuild_183 : decode b_R_rebuild 183 = .ok (.iload 4, 2) := by decide +kernel
theorem d_R_rebuild_185 : decode b_R_rebuild 185 = .ok (.invokestatic 85, 3) := by decide +kernel
theorem d_R_rebuild_188 : decode b_R_rebuild 188 = .ok (.imul, 1) := by decide +kernel
theorem d_R_rebuild_189 : decode b_R_rebuild 189 = .ok (.iload 7, 2) := by decide +kernel
theorem d_R_rebuild_191 : decode b_R_rebuild 191 = .ok (.iadd, 1) := by decide +kernel
theorem d_R_rebuild_192 : decode b_R_rebuild 192 = .ok (.iaload, 1) := by decide +kernel
theorem d_R_rebuild_193 : decode b_R_rebuild 193 = .ok (.iastore, 1) := by decide +kernel
theorem d_R_rebuild_194 : decode b_R_rebuild 194 = .ok (.iinc 7 (1), 3) := by decide +kernel
theorem d_R_rebuild_197 : decode b_R_rebuild 197 = .ok (.goto (-48), 3) := by decide +kernel
theorem d_R_rebuild_200 : decode b_R_rebuild 200 = .ok (.iload_n 3, 1) := by decide +kernel
theorem d_R_rebuild_201 : decode b_R_rebuild 201 = .ok (.bipush (8), 2) := by decide +kernel
theorem d_R_rebuild_203 : decode b_R_rebuild 203 = .ok (.iload 5, 2) := by decide +kernel
theorem d_R_rebuild_205 : decode b_R_rebuild 205 = .ok (.imul, 1) := by decide +kernel
theorem d_R_rebuild_206 : decode b_R_rebuild 206 = .ok (.iadd, 1) := by decide +kernel
theorem d_R_rebuild_207 : decode b_R_rebuild 207 = .ok (.istore_n 3, 1) := by decide +kernel
theorem d_R_rebuild_208 : decode b_R_rebuild 208 = .ok (.aload_n 0, 1) := by decide +kernel
theorem d_R_rebuild_209 : decode b_R_rebuild 209 = .ok (.getfield 42, 3) := by decide +kernel
theorem d_R_rebuild_212 : decode b_R_rebuild 212 = .ok (.iload_n 1, 1) := by decide +kernel
theorem d_R_rebuild_213 : decode b_R_rebuild 213 = .ok (.iload 4, 2) := by decide +kernel
theorem d_R_rebuild_215 : decode b_R_rebuild 215 = .ok (.invokestatic 85, 3) := by decide +kernel
theorem d_R_rebuild_218 : decode b_R_rebuild 218 = .ok (.aload_n 0, 1) := by decide +kernel
theorem d_R_rebuild_219 : decode b_R_rebuild 219 = .ok (.getfield 20, 3) := by decide +kernel
theorem d_R_rebuild_222 : decode b_R_rebuild 222 = .ok (.iload 4, 2) := by decide +kernel
theorem d_R_rebuild_224 : decode b_R_rebuild 224 = .ok (.iaload, 1) := by decide +kernel
theorem d_R_rebuild_225 : decode b_R_rebuild 225 = .ok (.iastore, 1) := by decide +kernel
theorem d_R_rebuild_226 : decode b_R_rebuild 226 = .ok (.aload_n 0, 1) := by decide +kernel
theorem d_R_rebuild_227 : decode b_R_rebuild 227 = .ok (.getfield 45, 3) := by decide +kernel
theorem d_R_rebuild_230 : decode b_R_rebuild 230 = .ok (.iload_n 1, 1) := by decide +kernel
theorem d_R_rebuild_231 : decode b_R_rebuild 231 = .ok (.iload 4, 2) := by decide +kernel
theorem d_R_rebuild_233 : decode b_R_rebuild 233 = .ok (.invokestatic 85, 3) := by decide +kernel
theorem d_R_rebuild_236 : decode b_R_rebuild 236 = .ok (.aload_n 0, 1) := by decide +kernel
theorem d_R_rebuild_237 : decode b_R_rebuild 237 = .ok (.getfield 23, 3) := by decide +kernel
theorem d_R_rebuild_240 : decode b_R_rebuild 240 = .ok (.iload 4, 2) := by decide +kernel
theorem d_R_rebuild_242 : decode b_R_rebuild 242 = .ok (.iaload, 1) := by decide +kernel
theorem d_R_rebuild_243 : decode b_R_rebuild 243 = .ok (.iastore, 1) := by decide +kernel
theorem d_R_rebuild_244 : decode b_R_rebuild 244 = .ok (.iinc 4 (1), 3) := by decide +kernel
theorem d_R_rebuild_247 : decode b_R_rebuild 247 = .ok (.goto (-147), 3) := by decide +kernel
theorem d_R_rebuild_250 : decode b_R_rebuild 250 = .ok (.iload_n 3, 1) := by decide +kernel
theorem d_R_rebuild_251 : decode b_R_rebuild 251 = .ok (.ireturn, 1) := by decide +kernel
theorem d_R_node_0 : decode b_R_node 0 = .ok (.aload_n 0, 1) := by decide +kernel
theorem d_R_node_1 : decode b_R_node 1 = .ok (.iconst (0), 1) := by decide +kernel
theorem d_R_node_2 : decode b_R_node 2 = .ok (.putfield 70, 3) := by decide +kernel
theorem d_R_node_5 : decode b_R_node 5 = .ok (.iload_n 1, 1) := by decide +kernel
theorem d_R_node_6 : decode b_R_node 6 = .ok (.invokestatic 114, 3) := by decide +kernel
theorem d_R_node_9 : decode b_R_node 9 = .ok (.ifCond .eq (12), 3) := by decide +kernel
theorem d_R_node_12 : decode b_R_node 12 = .ok (.iload_n 2, 1) := by decide +kernel
theorem d_R_node_13 : decode b_R_node 13 = .ok (.iconst (0), 1) := by decide +kernel
theorem d_R_node_14 : decode b_R_node 14 = .ok (.iconst (3), 1) := by decide +kernel
theorem d_R_node_15 : decode b_R_node 15 = .ok (.invokestatic 73, 3) := by decide +kernel
theorem d_R_node_18 : decode b_R_node 18 = .ok (.ifCond .ne (9), 3) := by decide +kernel
theorem d_R_node_21 : decode b_R_node 21 = .ok (.aload_n 0, 1) := by decide +kernel
theorem d_R_node_22 : decode b_R_node 22 = .ok (.iconst (1), 1) := by decide +kernel
theorem d_R_node_23 : decode b_R_node 23 = .ok (.invokevirtual 81, 3) := by decide +kernel
theorem d_R_node_26 : decode b_R_node 26 = .ok (.ireturn, 1) := by decide +kernel
theorem d_R_node_27 : decode b_R_node 27 = .ok (.iload_n 2, 1) := by decide +kernel
theorem d_R_node_28 : decode b_R_node 28 = .ok (.iconst (2), 1) := by decide +kernel
theorem d_R_node_29 : decode b_R_node 29 = .ok (.if_icmp .ge (32), 3) := by decide +kernel
theorem d_R_node_32 : decode b_R_node 32 = .ok (.iload_n 2, 1) := by decide +kernel
theorem d_R_node_33 : decode b_R_node 33 = .ok (.iconst (1), 1) := by decide +kernel
theorem d_R_node_34 : decode b_R_node 34 = .ok (.if_icmp .ne (12), 3) := by decide +kernel
theorem d_R_node_37 : decode b_R_node 37 = .ok (.aload_n 0, 1) := by decide +kernel
theorem d_R_node_38 : decode b_R_node 38 = .ok (.getfield 39, 3) := by decide +kernel
theorem d_R_node_41 : decode b_R_node 41 = .ok (.iload_n 1, 1) := by decide +kernel
theorem d_R_node_42 : decode b_R_node 42 = .ok (.iaload, 1) := by decide +kernel
theorem d_R_node_43 : decode b_R_node 43 = .ok (.goto (17), 3) := by decide +kernel
theorem d_R_node_46 : decode b_R_node 46 = .ok (.aload_n 0, 1) := by decide +kernel
theorem d_R_node_47 : decode b_R_node 47 = .ok (.getfield 36, 3) := by decide +kernel
theorem d_R_node_50 : decode b_R_node 50 = .ok (.iload_n 1, 1) := by decide +kernel
theorem d_R_node_51 : decode b_R_node 51 = .ok (.baload, 1) := by decide +kernel
theorem d_R_node_52 : decode b_R_node 52 = .ok (.ifCond .eq (7), 3) := by decide +kernel
theorem d_R_node_55 : decode b_R_node 55 = .ok (.iconst (0), 1) := by decide +kernel
theorem d_R_node_56 : decode b_R_node 56 = .ok (.goto (4), 3) := by decide +kernel
theorem d_R_node_59 : decode b_R_node 59 = .ok (.iconst (1), 1) := by decide +kernel
theorem d_R_node_60 : decode b_R_node 60 = .ok (.ireturn, 1) := by decide +kernel
theorem d_R_node_61 : decode b_R_node 61 = .ok (.iconst (0), 1) := by decide +kernel
theorem d_R_node_62 : decode b_R_node 62 = .ok (.istore_n 3, 1) := by decide +kernel
theorem d_R_node_63 : decode b_R_node 63 = .ok (.iconst (0), 1) := by decide +kernel
theorem d_R_node_64 : decode b_R_node 64 = .ok (.istore 4, 2) := by decide +kernel
theorem d_R_node_66 : decode b_R_node 66 = .ok (.iload 4, 2) := by decide +kernel
theorem d_R_node_68 : decode b_R_node 68 = .ok (.bipush (12), 2) := by decide +kernel
theorem d_R_node_70 : decode b_R_node 70 = .ok (.if_icmp .ge (54), 3) := by decide +kernel
theorem d_R_node_73 : decode b_R_node 73 = .ok (.iload_n 3, 1) := by decide +kernel
theorem d_R_node_74 : decode b_R_node 74 = .ok (.iload_n 2, 1) := by decide +kernel
theorem d_R_node_75 : decode b_R_node 75 = .ok (.iconst (2), 1) := by decide +kernel
theorem d_R_node_76 : decode b_R_node 76 = .ok (.if_icmp .ne (21), 3) := by decide +kernel
theorem d_R_node_79 : decode b_R_node 79 = .ok (.aload_n 0, 1) := by decide +kernel
theorem d_R_node_80 : decode b_R_node 80 = .ok (.iload_n 1, 1) := by decide +kernel
theorem d_R_node_81 : decode b_R_node 81 = .ok (.iload 4, 2) := by decide +kernel
theorem d_R_node_83 : decode b_R_node 83 = .ok (.invokevirtual 108, 3) := by decide +kernel
theorem d_R_node_86 : decode b_R_node 86 = .ok (.ifCond .eq (7), 3) := by decide +kernel
theorem d_R_node_89 : decode b_R_node 89 = .ok (.iconst (1), 1) := by decide +kernel
theorem d_R_node_90 : decode b_R_node 90 = .ok (.goto (26), 3) := by decide +kernel
theorem d_R_node_93 : decode b_R_node 93 = .ok (.iconst (0), 1) := by decide +kernel
theorem d_R_node_94 : decode b_R_node 94 = .ok (.goto (22), 3) := by decide +kernel
theorem d_R_node_97 : decode b_R_node 97 = .ok (.aload_n 0, 1) := by decide +kernel
theorem d_R_node_98 : decode b_R_node 98 = .ok (.getfield 52, 3) := by decide +kernel
theorem d_R_node_101 : decode b_R_node 101 = .ok (.iload_n 1, 1) := by decide +kernel
theorem d_R_node_102 : decode b_R_node 102 = .ok (.iload 4, 2) := by decide +kernel
theorem d_R_node_104 : decode b_R_node 104 = .ok (.invokestatic 85, 3) := by decide +kernel
theorem d_R_node_107 : decode b_R_node 107 = .ok (.iaload, 1) := by decide +kernel
theorem d_R_node_108 : decode b_R_node 108 = .ok (.ifCond .le (7), 3) := by decide +kernel
theorem d_R_node_111 : decode b_R_node 111 = .ok (.iconst (1), 1) := by decide +kernel
theorem d_R_node_112 : decode b_R_node 112 = .ok (.goto (4), 3) := by decide +kernel
theorem d_R_node_115 : decode b_R_node 115 = .ok (.iconst (0), 1) := by decide +kernel
theorem d_R_node_116 : decode b_R_node 116 = .ok (.iadd, 1) := by decide +kernel
theorem d_R_node_117 : decode b_R_node 117 = .ok (.istore_n 3, 1) := by decide +kernel
theorem d_R_node_118 : decode b_R_node 118 = .ok (.iinc 4 (1), 3) := by decide +kernel
theorem d_R_node_121 : decode b_R_node 121 = .ok (.goto (-55), 3) := by decide +kernel
theorem d_R_node_124 : decode b_R_node 124 = .ok (.iload_n 3, 1) := by decide +kernel
theorem d_R_node_125 : decode b_R_node 125 = .ok (.ireturn, 1) := by decide +kernel
theorem d_R_share_0 : decode b_R_share 0 = .ok (.aload_n 0, 1) := by decide +kernel
theorem d_R_share_1 : decode b_R_share 1 = .ok (.iconst (0), 1) := by decide +kernel
theorem d_R_share_2 : decode b_R_share 2 = .ok (.putfield 70, 3) := by decide +kernel
theorem d_R_share_5 : decode b_R_share 5 = .ok (.iload_n 1, 1) := by decide +kernel
theorem d_R_share_6 : decode b_R_share 6 = .ok (.invokestatic 114, 3) := by decide +kernel
theorem d_R_share_9 : decode b_R_share 9 = .ok (.ifCond .eq (19), 3) := by decide +kernel
theorem d_R_share_12 : decode b_R_share 12 = .ok (.iload_n 2, 1) := by decide +kernel
theorem d_R_share_13 : decode b_R_share 13 = .ok (.invokestatic 88, 3) := by decide +kernel
theorem d_R_share_16 : decode b_R_share 16 = .ok (.ifCond .eq (12), 3) := by decide +kernel
theorem d_R_share_19 : decode b_R_share 19 = .ok (.iload_n 3, 1) := by decide +kernel
theorem d_R_share_20 : decode b_R_share 20 = .ok (.iconst (0), 1) := by decide +kernel
theorem d_R_share_21 : decode b_R_share 21 = .ok (.iconst (1), 1) := by decide +kernel
theorem d_R_share_22 : decode b_R_share 22 = .ok (.invokestatic 73, 3) := by decide +kernel
theorem d_R_share_25 : decode b_R_share 25 = .ok (.ifCond .ne (9), 3) := by decide +kernel
theorem d_R_share_28 : decode b_R_share 28 = .ok (.aload_n 0, 1) := by decide +kernel
theorem d_R_share_29 : decode b_R_share 29 = .ok (.iconst (1), 1) := by decide +kernel
theorem d_R_share_30 : decode b_R_share 30 = .ok (.invokevirtual 81, 3) := by decide +kernel
theorem d_R_share_33 : decode b_R_share 33 = .ok (.ireturn, 1) := by decide +kernel
theorem d_R_share_34 : decode b_R_share 34 = .ok (.iload_n 3, 1) := by decide +kernel
theorem d_R_share_35 : decode b_R_share 35 = .ok (.ifCond .ne (16), 3) := by decide +kernel
theorem d_R_share_38 : decode b_R_share 38 = .ok (.aload_n 0, 1) := by decide +kernel
theorem d_R_share_39 : decode b_R_share 39 = .ok (.getfield 42, 3) := by decide +kernel
theorem d_R_share_42 : decode b_R_share 42 = .ok (.iload_n 1, 1) := by decide +kernel
theorem d_R_share_43 : decode b_R_share 43 = .ok (.iload_n 2, 1) := by decide +kernel
theorem d_R_share_44 : decode b_R_share 44 = .ok (.invokestatic 85, 3) := by decide +kernel
theorem d_R_share_47 : decode b_R_share 47 = .ok (.iaload, 1) := by decide +kernel
theorem d_R_share_48 : decode b_R_share 48 = .ok (.goto (13), 3) := by decide +kernel
theorem d_R_share_51 : decode b_R_share 51 = .ok (.aload_n 0, 1) := by decide +kernel
theorem d_R_share_52 : decode b_R_share 52 = .ok (.getfield 45, 3) := by decide +kernel
theorem d_R_share_55 : decode b_R_share 55 = .ok (.iload_n 1, 1) := by decide +kernel
theorem d_R_share_56 : decode b_R_share 56 = .ok (.iload_n 2, 1) := by decide +kernel
theorem d_R_share_57 : decode b_R_share 57 = .ok (.invokestatic 85, 3) := by decide +kernel
theorem d_R_share_60 : decode b_R_share 60 = .ok (.iaload, 1) := by decide +kernel
theorem d_R_share_61 : decode b_R_share 61 = .ok (.ireturn, 1) := by decide +kernel
theorem d_R_byteOf_0 : decode b_R_byteOf 0 = .ok (.iload_n 2, 1) := by decide +kernel
theorem d_R_byteOf_1 : decode b_R_byteOf 1 = .ok (.aload_n 0, 1) := by decide +kernel
theorem d_R_byteOf_2 : decode b_R_byteOf 2 = .ok (.getfield 45, 3) := by decide +kernel
theorem d_R_byteOf_5 : decode b_R_byteOf 5 = .ok (.iload_n 1, 1) := by decide +kernel
theorem d_R_byteOf_6 : decode b_R_byteOf 6 = .ok (.iaload, 1) := by decide +kernel
theorem d_R_byteOf_7 : decode b_R_byteOf 7 = .ok (.if_icmp .ge (18), 3) := by decide +kernel
theorem d_R_byteOf_10 : decode b_R_byteOf 10 = .ok (.aload_n 0, 1) := by decide +kernel
theorem d_R_byteOf_11 : decode b_R_byteOf 11 = .ok (.getfield 49, 3) := by decide +kernel
theorem d_R_byteOf_14 : decode b_R_byteOf 14 = .ok (.sipush (240), 3) := by decide +kernel
theorem d_R_byteOf_17 : decode b_R_byteOf 17 = .ok (.iload_n 1, 1) := by decide +kernel
theorem d_R_byteOf_18 : decode b_R_byteOf 18 = .ok (.imul, 1) := by decide +kernel
theorem d_R_byteOf_19 : decode b_R_byteOf 19 = .ok (.iload_n 2, 1) := by decide +kernel
theorem d_R_byteOf_20 : decode b_R_byteOf 20 = .ok (.iadd, 1) := by decide +kernel
theorem d_R_byteOf_21 : decode b_R_byteOf 21 = .ok (.iaload, 1) := by decide +kernel
theorem d_R_byteOf_22 : decode b_R_byteOf 22 = .ok (.goto (4), 3) := by decide +kernel
theorem d_R_byteOf_25 : decode b_R_byteOf 25 = .ok (.iconst (0), 1) := by decide +kernel
theorem d_R_byteOf_26 : decode b_R_byteOf 26 = .ok (.ireturn, 1) := by decide +kernel
theorem d_R_fill_0 : decode b_R_fill 0 = .ok (.iconst (0), 1) := by decide +kernel
theorem d_R_fill_1 : decode b_R_fill 1 = .ok (.istore_n 3, 1) := by decide +kernel
theorem d_R_fill_2 : decode b_R_fill 2 = .ok (.iload_n 3, 1) := by decide +kernel
theorem d_R_fill_3 : decode b_R_fill 3 = .ok (.bipush (64), 2) := by decide +kernel
theorem d_R_fill_5 : decode b_R_fill 5 = .ok (.if_icmp .ge (16), 3) := by decide +kernel
theorem d_R_fill_8 : decode b_R_fill 8 = .ok (.aload_n 0, 1) := by decide +kernel
theorem d_R_fill_9 : decode b_R_fill 9 = .ok (.getfield 61, 3) := by decide +kernel
theorem d_R_fill_12 : decode b_R_fill 12 = .ok (.iload_n 3, 1) := by decide +kernel
theorem d_R_fill_13 : decode b_R_fill 13 = .ok (.iconst (0), 1) := by decide +kernel
theorem d_R_fill_14 : decode b_R_fill 14 = .ok (.iastore, 1) := by decide +kernel
theorem d_R_fill_15 : decode b_R_fill 15 = .ok (.iinc 3 (1), 3) := by decide +kernel
theorem d_R_fill_18 : decode b_R_fill 18 = .ok (.goto (-16), 3) := by decide +kernel
theorem d_R_fill_21 : decode b_R_fill 21 = .ok (.bipush (30), 2) := by decide +kernel
theorem d_R_fill_23 : decode b_R_fill 23 = .ok (.iload_n 2, 1) := by decide +kernel
theorem d_R_fill_24 : decode b_R_fill 24 = .ok (.imul, 1) := by decide +kernel
theorem d_R_fill_25 : decode b_R_fill 25 = .ok (.istore_n 3, 1) := by decide +kernel
theorem d_R_fill_26 : decode b_R_fill 26 = .ok (.iconst (0), 1) := by decide +kernel
theorem d_R_fill_27 : decode b_R_fill 27 = .ok (.istore 4, 2) := by decide +kernel
theorem d_R_fill_29 : decode b_R_fill 29 = .ok (.iload 4, 2) := by decide +kernel
theorem d_R_fill_31 : decode b_R_fill 31 = .ok (.iconst (5), 1) := by decide +kernel
theorem d_R_fill_32 : decode b_R_fill 32 = .ok (.if_icmp .ge (66), 3) := by decide +kernel
theorem d_R_fill_35 : decode b_R_fill 35 = .ok (.iload 4, 2) := by decide +kernel
theorem d_R_fill_37 : decode b_R_fill 37 = .ok (.istore 5, 2) := by decide +kernel
theorem d_R_fill_39 : decode b_R_fill 39 = .ok (.iload 5, 2) := by decide +kernel
theorem d_R_fill_41 : decode b_R_fill 41 = .ok (.iconst (5), 1) := by decide +kernel
theorem d_R_fill_42 : decode b_R_fill 42 = .ok (.if_icmp .ge (50), 3) := by decide +kernel
theorem d_R_fill_45 : decode b_R_fill 45 = .ok (.aload_n 0, 1) := by decide +kernel
theorem d_R_fill_46 : decode b_R_fill 46 = .ok (.getfield 61, 3) := by decide +kernel
theorem d_R_fill_49 : decode b_R_fill 49 = .ok (.bipush (8), 2) := by decide +kernel
theorem d_R_fill_51 : decode b_R_fill 51 = .ok (.iload 4, 2) := by decide +kernel
theorem d_R_fill_53 : decode b_R_fill 53 = .ok (.imul, 1) := by decide +kernel
theorem d_R_fill_54 : decode b_R_fill 54 = .ok (.iload 5, 2) := by decide +kernel
theorem d_R_fill_56 : decode b_R_fill 56 = .ok (.iadd, 1) := by decide +kernel
theorem d_R_fill_57 : decode b_R_fill 57 = .ok (.aload_n 0, 1) := by decide +kernel
theorem d_R_fill_58 : decode b_R_fill 58 = .ok (.iload_n 1, 1) := by decide +kernel
theorem d_R_fill_59 : decode b_R_fill 59 = .ok (.iload_n 3, 1) := by decide +kernel
theorem d_R_fill_60 : decode b_R_fill 60 = .ok (.invokevirtual 134, 3) := by decide +kernel
theorem d_R_fill_63 : decode b_R_fill 63 = .ok (.iastore, 1) := by decide +kernel
theorem d_R_fill_64 : decode b_R_fill 64 = .ok (.aload_n 0, 1) := by decide +kernel
theorem d_R_fill_65 : decode b_R_fill 65 = .ok (.getfield 61, 3) := by decide +kernel
theorem d_R_fill_68 : decode b_R_fill 68 = .ok (.bipush (8), 2) := by decide +kernel
theorem d_R_fill_70 : decode b_R_fill 70 = .ok (.iload 5, 2) := by decide +kernel
theorem d_R_fill_72 : decode b_R_fill 72 = .ok (.imul, 1) := by decide +kernel
theorem d_R_fill_73 : decode b_R_fill 73 = .ok (.iload 4, 2) := by decide +kernel
theorem d_R_fill_75 : decode b_R_fill 75 = .ok (.iadd, 1) := by decide +kernel
theorem d_R_fill_76 : decode b_R_fill 76 = .ok (.aload_n 0, 1) := by decide +kernel
theorem d_R_fill_77 : decode b_R_fill 77 = .ok (.iload_n 1, 1) := by decide +kernel
theorem d_R_fill_78 : decode b_R_fill 78 = .ok (.iload_n 3, 1) := by decide +kernel
theorem d_R_fill_79 : decode b_R_fill 79 = .ok (.invokevirtual 134, 3) := by decide +kernel
theorem d_R_fill_82 : decode b_R_fill 82 = .ok (.iastore, 1) := by decide +kernel
theorem d_R_fill_83 : decode b_R_fill 83 = .ok (.iinc 3 (1), 3) := by decide +kernel
theorem d_R_fill_86 : decode b_R_fill 86 = .ok (.iinc 5 (1), 3) := by decide +kernel
theorem d_R_fill_89 : decode b_R_fill 89 = .ok (.goto (-50), 3) := by decide +kernel
theorem d_R_fill_92 : decode b_R_fill 92 = .ok (.iinc 4 (1), 3) := by decide +kernel
theorem d_R_fill_95 : decode b_R_fill 95 = .ok (.goto (-66), 3) := by decide +kernel
theorem d_R_fill_98 : decode b_R_fill 98 = .ok (.iconst (0), 1) := by decide +kernel
theorem d_R_fill_99 : decode b_R_fill 99 = .ok (.istore 4, 2) := by decide +kernel
theorem d_R_fill_101 : decode b_R_fill 101 = .ok (.iload 4, 2) := by decide +kernel
theorem d_R_fill_103 : decode b_R_fill 103 = .ok (.iconst (5), 1) := by decide +kernel
theorem d_R_fill_104 : decode b_R_fill 104 = .ok (.if_icmp .ge (66), 3) := by decide +kernel
theorem d_R_fill_107 : decode b_R_fill 107 = .ok (.iconst (5), 1) := by decide +kernel
theorem d_R_fill_108 : decode b_R_fill 108 = .ok (.istore 5, 2) := by decide +kernel
theorem d_R_fill_110 : decode b_R_fill 110 = .ok (.iload 5, 2) := by decide +kernel
theorem d_R_fill_112 : decode b_R_fill 112 = .ok (.bipush (8), 2) := by decide +kernel
theorem d_R_fill_114 : decode b_R_fill 114 = .ok (.if_icmp .ge (50), 3) := by decide +kernel
theorem d_R_fill_117 : decode b_R_fill 117 = .ok (.aload_n 0, 1) := by decide +kernel
theorem d_R_fill_118 : decode b_R_fill 118 = .ok (.getfield 61, 3) := by decide +kernel
theorem d_R_fill_121 : decode b_R_fill 121 = .ok (.bipush (8), 2) := by decide +kernel
theorem d_R_fill_123 : decode b_R_fill 123 = .ok (.iload 4, 2) := by decide +kernel
theorem d_R_fill_125 : decode b_R_fill 125 = .ok (.imul, 1) := by decide +kernel
theorem d_R_fill_126 : decode b_R_fill 126 = .ok (.iload 5, 2) := by decide +kernel
theorem d_R_fill_128 : decode b_R_fill 128 = .ok (.iadd, 1) := by decide +kernel
theorem d_R_fill_129 : decode b_R_fill 129 = .ok (.aload_n 0, 1) := by decide +kernel
theorem d_R_fill_130 : decode b_R_fill 130 = .ok (.iload_n 1, 1) := by decide +kernel
theorem d_R_fill_131 : decode b_R_fill 131 = .ok (.iload_n 3, 1) := by decide +kernel
theorem d_R_fill_132 : decode b_R_fill 132 = .ok (.invokevirtual 134, 3) := by decide +kernel
theorem d_R_fill_135 : decode b_R_fill 135 = .ok (.iastore, 1) := by decide +kernel
theorem d_R_fill_136 : decode b_R_fill 136 = .ok (.aload_n 0, 1) := by decide +kernel
theorem d_R_fill_137 : decode b_R_fill 137 = .ok (.getfield 61, 3) := by decide +kernel
theorem d_R_fill_140 : decode b_R_fill 140 = .ok (.bipush (8), 2) := by decide +kernel
theorem d_R_fill_142 : decode b_R_fill 142 = .ok (.iload 5, 2) := by decide +kernel
theorem d_R_fill_144 : decode b_R_fill 144 = .ok (.imul, 1) := by decide +kernel
theorem d_R_fill_145 : decode b_R_fill 145 = .ok (.iload 4, 2) := by decide +kernel
theorem d_R_fill_147 : decode b_R_fill 147 = .ok (.iadd, 1) := by decide +kernel
theorem d_R_fill_148 : decode b_R_fill 148 = .ok (.aload_n 0, 1) := by decide +kernel
theorem d_R_fill_149 : decode b_R_fill 149 = .ok (.iload_n 1, 1) := by decide +kernel
theorem d_R_fill_150 : decode b_R_fill 150 = .ok (.iload_n 3, 1) := by decide +kernel
theorem d_R_fill_151 : decode b_R_fill 151 = .ok (.invokevirtual 134, 3) := by decide +kernel
theorem d_R_fill_154 : decode b_R_fill 154 = .ok (.iastore, 1) := by decide +kernel
theorem d_R_fill_155 : decode b_R_fill 155 = .ok (.iinc 3 (1), 3) := by decide +kernel
theorem d_R_fill_158 : decode b_R_fill 158 = .ok (.iinc 5 (1), 3) := by decide +kernel
theorem d_R_fill_161 : decode b_R_fill 161 = .ok (.goto (-51), 3) := by decide +kernel
theorem d_R_fill_164 : decode b_R_fill 164 = .ok (.iinc 4 (1), 3) := by decide +kernel
theorem d_R_fill_167 : decode b_R_fill 167 = .ok (.goto (-66), 3) := by decide +kernel
theorem d_R_fill_170 : decode b_R_fill 170 = .ok (.return_, 1) := by decide +kernel
theorem d_R_byteAt_0 : decode b_R_byteAt 0 = .ok (.aload_n 0, 1) := by decide +kernel
theorem d_R_byteAt_1 : decode b_R_byteAt 1 = .ok (.iconst (0), 1) := by decide +kernel
theorem d_R_byteAt_2 : decode b_R_byteAt 2 = .ok (.putfield 70, 3) := by decide +kernel
theorem d_R_byteAt_5 : decode b_R_byteAt 5 = .ok (.iload_n 1, 1) := by decide +kernel
theorem d_R_byteAt_6 : decode b_R_byteAt 6 = .ok (.invokestatic 114, 3) := by decide +kernel
theorem d_R_byteAt_9 : decode b_R_byteAt 9 = .ok (.ifCond .eq (36), 3) := by decide +kernel
theorem d_R_byteAt_12 : decode b_R_byteAt 12 = .ok (.iload_n 2, 1) := by decide +kernel
theorem d_R_byteAt_13 : decode b_R_byteAt 13 = .ok (.invokestatic 88, 3) := by decide +kernel
theorem d_R_byteAt_16 : decode b_R_byteAt 16 = .ok (.ifCond .eq (29), 3) := by decide +kernel
theorem d_R_byteAt_19 : decode b_R_byteAt 19 = .ok (.iload_n 3, 1) := by decide +kernel
theorem d_R_byteAt_20 : decode b_R_byteAt 20 = .ok (.iconst (0), 1) := by decide +kernel
theorem d_R_byteAt_21 : decode b_R_byteAt 21 = .ok (.bipush (8), 2) := by decide +kernel
theorem d_R_byteAt_23 : decode b_R_byteAt 23 = .ok (.aload_n 0, 1) := by decide +kernel
theorem d_R_byteAt_24 : decode b_R_byteAt 24 = .ok (.getfield 45, 3) := by decide +kernel
theorem d_R_byteAt_27 : decode b_R_byteAt 27 = .ok (.iload_n 1, 1) := by decide +kernel
theorem d_R_byteAt_28 : decode b_R_byteAt 28 = .ok (.iload_n 2, 1) := by decide +kernel
theorem d_R_byteAt_29 : decode b_R_byteAt 29 = .ok (.invokestatic 85, 3) := by decide +kernel
theorem d_R_byteAt_32 : decode b_R_byteAt 32 = .ok (.iaload, 1) := by decide +kernel
theorem d_R_byteAt_33 : decode b_R_byteAt 33 = .ok (.invokestatic 127, 3) := by decide +kernel
theorem d_R_byteAt_36 : decode b_R_byteAt 36 = .ok (.imul, 1) := by decide +kernel
theorem d_R_byteAt_37 : decode b_R_byteAt 37 = .ok (.iconst (1), 1) := by decide +kernel
theorem d_R_byteAt_38 : decode b_R_byteAt 38 = .ok (.isub, 1) := by decide +kernel
theorem d_R_byteAt_39 : decode b_R_byteAt 39 = .ok (.invokestatic 73, 3) := by decide +kernel
theorem d_R_byteAt_42 : decode b_R_byteAt 42 = .ok (.ifCond .ne (9), 3) := by decide +kernel
theorem d_R_byteAt_45 : decode b_R_byteAt 45 = .ok (.aload_n 0, 1) := by decide +kernel
theorem d_R_byteAt_46 : decode b_R_byteAt 46 = .ok (.iconst (1), 1) := by decide +kernel
theorem d_R_byteAt_47 : decode b_R_byteAt 47 = .ok (.invokevirtual 81, 3) := by decide +kernel
theorem d_R_byteAt_50 : decode b_R_byteAt 50 = .ok (.ireturn, 1) := by decide +kernel
theorem d_R_byteAt_51 : decode b_R_byteAt 51 = .ok (.aload_n 0, 1) := by decide +kernel
theorem d_R_byteAt_52 : decode b_R_byteAt 52 = .ok (.iload_n 1, 1) := by decide +kernel
theorem d_R_byteAt_53 : decode b_R_byteAt 53 = .ok (.iload_n 2, 1) := by decide +kernel
theorem d_R_byteAt_54 : decode b_R_byteAt 54 = .ok (.invokestatic 85, 3) := by decide +kernel
theorem d_R_byteAt_57 : decode b_R_byteAt 57 = .ok (.iload_n 3, 1) := by decide +kernel
theorem d_R_byteAt_58 : decode b_R_byteAt 58 = .ok (.bipush (8), 2) := by decide +kernel
theorem d_R_byteAt_60 : decode b_R_byteAt 60 = .ok (.idiv, 1) := by decide +kernel
theorem d_R_byteAt_61 : decode b_R_byteAt 61 = .ok (.invokevirtual 137, 3) := by decide +kernel
theorem d_R_byteAt_64 : decode b_R_byteAt 64 = .ok (.iconst (0), 1) := by decide +kernel
theorem d_R_byteAt_65 : decode b_R_byteAt 65 = .ok (.istore 4, 2) := by decide +kernel
theorem d_R_byteAt_67 : decode b_R_byteAt 67 = .ok (.iconst (0), 1) := by decide +kernel
theorem d_R_byteAt_68 : decode b_R_byteAt 68 = .ok (.istore 5, 2) := by decide +kernel
theorem d_R_byteAt_70 : decode b_R_byteAt 70 = .ok (.iload 5, 2) := by decide +kernel
theorem d_R_byteAt_72 : decode b_R_byteAt 72 = .ok (.bipush (8), 2) := by decide +kernel
theorem d_R_byteAt_74 : decode b_R_byteAt 74 = .ok (.if_icmp .ge (40), 3) := by decide +kernel
theorem d_R_byteAt_77 : decode b_R_byteAt 77 = .ok (.iload 4, 2) := by decide +kernel
theorem d_R_byteAt_79 : decode b_R_byteAt 79 = .ok (.iload_n 1, 1) := by decide +kernel
theorem d_R_byteAt_80 : decode b_R_byteAt 80 = .ok (.iconst (1), 1) := by decide +kernel
theorem d_R_byteAt_81 : decode b_R_byteAt 81 = .ok (.iadd, 1) := by decide +kernel
theorem d_R_byteAt_82 : decode b_R_byteAt 82 = .ok (.iload 5, 2) := by decide +kernel
theorem d_R_byteAt_84 : decode b_R_byteAt 84 = .ok (.invokestatic 140, 3) := by decide +kernel
theorem d_R_byteAt_87 : decode b_R_byteAt 87 = .ok (.aload_n 0, 1) := by decide +kernel
theorem d_R_byteAt_88 : decode b_R_byteAt 88 = .ok (.getfield 61, 3) := by decide +kernel
theorem d_R_byteAt_91 : decode b_R_byteAt 91 = .ok (.bipush (8), 2) := by decide +kernel
theorem d_R_byteAt_93 : decode b_R_byteAt 93 = .ok (.iload 5, 2) := by decide +kernel
theorem d_R_byteAt_95 : decode b_R_byteAt 95 = .ok (.imul, 1) := by decide +kernel
theorem d_R_byteAt_96 : decode b_R_byteAt 96 = .ok (.iload_n 3, 1) := by decide +kernel
theorem d_R_byteAt_97 : decode b_R_byteAt 97 = .ok (.bipush (8), 2) := by decide +kernel
theorem d_R_byteAt_99 : decode b_R_byteAt 99 = .ok (.irem, 1) := by decide +kernel
theorem d_R_byteAt_100 : decode b_R_byteAt 100 = .ok (.iadd, 1) := by decide +kernel
theorem d_R_byteAt_101 : decode b_R_byteAt 101 = .ok (.iaload, 1) := by decide +kernel
theorem d_R_byteAt_102 : decode b_R_byteAt 102 = .ok (.invokestatic 77, 3) := by decide +kernel
theorem d_R_byteAt_105 : decode b_R_byteAt 105 = .ok (.ixor, 1) := by decide +kernel
theorem d_R_byteAt_106 : decode b_R_byteAt 106 = .ok (.istore 4, 2) := by decide +kernel
theorem d_R_byteAt_108 : decode b_R_byteAt 108 = .ok (.iinc 5 (1), 3) := by decide +kernel
theorem d_R_byteAt_111 : decode b_R_byteAt 111 = .ok (.goto (-41), 3) := by decide +kernel
theorem d_R_byteAt_114 : decode b_R_byteAt 114 = .ok (.iload 4, 2) := by decide +kernel
theorem d_R_byteAt_116 : decode b_R_byteAt 116 = .ok (.ireturn, 1) := by decide +kernel
theorem fw_R_70 : sm_fw RX7 70 7 0 := ⟨_, _, _, rfl, in_X7, by decide, sm_inT 598 (by decide +kernel) (by decide +kernel)⟩
theorem pw_R_70 : sm_pw RX7 70 7 0 .int := ⟨_, _, _, tyX7, rfl, in_X7, by decide, sm_inT 598 (by decide +kernel) (by decide +kernel), tyX7_ok, nmX7, rfl, by decide +kernel⟩
theorem cw_R_73 : sm_cw RX7 73 y_R_within b_R_within 3 (some .boolean) 3 := ⟨sm_inT 673 (by decide +kernel) (by decide +kernel), sm_inT 8 (by decide +kernel) (by decide +kernel), sm_inT 671 (by decide +kernel) (by decide +kernel), ⟨by decide, by decide, by decide +kernel⟩, by decide⟩
theorem sw_R_within : Cond.static y_R_within ∈ sm_ws := sm_inT 672 (by decide +kernel) (by decide +kernel)
theorem cw_R_77 : sm_cw RX7 77 y_R_times b_R_times 4 (some .int) 2 := ⟨sm_inT 680 (by decide +kernel) (by decide +kernel), sm_inT 8 (by decide +kernel) (by decide +kernel), sm_inT 678 (by decide +kernel) (by decide +kernel), ⟨by decide, by decide, by decide +kernel⟩, by decide⟩
theorem sw_R_times : Cond.static y_R_times ∈ sm_ws := sm_inT 679 (by decide +kernel) (by decide +kernel)
theorem cw_R_81 : sm_cw RX7 81 y_R_fails b_R_fails 2 (some .int) 1 := ⟨sm_inT 677 (by decide +kernel) (by decide +kernel), sm_inT 8 (by decide +kernel) (by decide +kernel), sm_inT 674 (by decide +kernel) (by decide +kernel), ⟨by decide, by decide, by decide +kernel⟩, by decide⟩
theorem iw_R_fails : Cond.instanceMethod y_R_fails ∈ sm_ws := sm_inT 676 (by decide +kernel) (by decide +kernel)
theorem se_R_fails : Cond.selects RX7 y_R_fails y_R_fails ∈ sm_ws := sm_inS 21 (by decide +kernel) (by decide +kernel)
theorem fw_R_7 : sm_fw RX7 7 7 1 := ⟨_, _, _, rfl, in_X7, by decide, sm_inT 599 (by decide +kernel) (by decide +kernel)⟩
theorem fw_R_36 : sm_fw RX7 36 7 10 := ⟨_, _, _, rfl, in_X7, by decide, sm_inT 608 (by decide +kernel) (by decide +kernel)⟩
theorem cw_R_85 : sm_cw RX7 85 y_R_at b_R_at 2 (some .int) 2 := ⟨sm_inT 702 (by decide +kernel) (by decide +kernel), sm_inT 8 (by decide +kernel) (by decide +kernel), sm_inT 700 (by decide +kernel) (by decide +kernel), ⟨by decide, by decide, by decide +kernel⟩, by decide⟩
theorem sw_R_at : Cond.static y_R_at ∈ sm_ws := sm_inT 701 (by decide +kernel) (by decide +kernel)
theorem fw_R_52 : sm_fw RX7 52 7 15 := ⟨_, _, _, rfl, in_X7, by decide, sm_inT 613 (by decide +kernel) (by decide +kernel)⟩
theorem fw_R_26 : sm_fw RX7 26 7 7 := ⟨_, _, _, rfl, in_X7, by decide, sm_inT 605 (by decide +kernel) (by decide +kernel)⟩
theorem fw_R_55 : sm_fw RX7 55 7 16 := ⟨_, _, _, rfl, in_X7, by decide, sm_inT 614 (by decide +kernel) (by decide +kernel)⟩
theorem fw_R_58 : sm_fw RX7 58 7 17 := ⟨_, _, _, rfl, in_X7, by decide, sm_inT 615 (by decide +kernel) (by decide +kernel)⟩
theorem fw_R_42 : sm_fw RX7 42 7 12 := ⟨_, _, _, rfl, in_X7, by decide, sm_inT 610 (by decide +kernel) (by decide +kernel)⟩
theorem fw_R_45 : sm_fw RX7 45 7 13 := ⟨_, _, _, rfl, in_X7, by decide, sm_inT 611 (by decide +kernel) (by decide +kernel)⟩
theorem fw_R_49 : sm_fw RX7 49 7 14 := ⟨_, _, _, rfl, in_X7, by decide, sm_inT 612 (by decide +kernel) (by decide +kernel)⟩
theorem cw_R_88 : sm_cw RX7 88 y_R_isObject b_R_isObject 1 (some .boolean) 1 := ⟨sm_inT 691 (by decide +kernel) (by decide +kernel), sm_inT 8 (by decide +kernel) (by decide +kernel), sm_inT 689 (by decide +kernel) (by decide +kernel), ⟨by decide, by decide, by decide +kernel⟩, by decide⟩
theorem sw_R_isObject : Cond.static y_R_isObject ∈ sm_ws := sm_inT 690 (by decide +kernel) (by decide +kernel)
theorem fw_R_32 : sm_fw RX7 32 7 9 := ⟨_, _, _, rfl, in_X7, by decide, sm_inT 607 (by decide +kernel) (by decide +kernel)⟩
theorem cw_R_92 : sm_cw RX7 92 y_R_live b_R_live 3 (some .int) 0 := ⟨sm_inT 695 (by decide +kernel) (by decide +kernel), sm_inT 8 (by decide +kernel) (by decide +kernel), sm_inT 692 (by decide +kernel) (by decide +kernel), ⟨by decide, by decide, by decide +kernel⟩, by decide⟩
theorem iw_R_live : Cond.instanceMethod y_R_live ∈ sm_ws := sm_inT 694 (by decide +kernel) (by decide +kernel)
theorem se_R_live : Cond.selects RX7 y_R_live y_R_live ∈ sm_ws := sm_inS 22 (by decide +kernel) (by decide +kernel)
theorem fw_R_29 : sm_fw RX7 29 7 8 := ⟨_, _, _, rfl, in_X7, by decide, sm_inT 606 (by decide +kernel) (by decide +kernel)⟩
theorem fw_R_16 : sm_fw RX7 16 7 4 := ⟨_, _, _, rfl, in_X7, by decide, sm_inT 602 (by decide +kernel) (by decide +kernel)⟩
theorem pw_R_16 : sm_pw RX7 16 7 4 .int := ⟨_, _, _, tyX7, rfl, in_X7, by decide, sm_inT 602 (by decide +kernel) (by decide +kernel), tyX7_ok, nmX7, rfl, by decide +kernel⟩
theorem cw_R_96 : sm_cw RX7 96 y_R_cast b_R_cast 6 none 3 := ⟨sm_inT 699 (by decide +kernel) (by decide +kernel), sm_inT 8 (by decide +kernel) (by decide +kernel), sm_inT 696 (by decide +kernel) (by decide +kernel), ⟨by decide, by decide, by decide +kernel⟩, by decide⟩
theorem iw_R_cast : Cond.instanceMethod y_R_cast ∈ sm_ws := sm_inT 698 (by decide +kernel) (by decide +kernel)
theorem se_R_cast : Cond.selects RX7 y_R_cast y_R_cast ∈ sm_ws := sm_inS 23 (by decide +kernel) (by decide +kernel)
theorem cw_R_100 : sm_cw RX7 100 y_R_settleNode b_R_settleNode 5 none 2 := ⟨sm_inT 706 (by decide +kernel) (by decide +kernel), sm_inT 8 (by decide +kernel) (by decide +kernel), sm_inT 703 (by decide +kernel) (by decide +kernel), ⟨by decide, by decide, by decide +kernel⟩, by decide⟩
theorem iw_R_settleNode : Cond.instanceMethod y_R_settleNode ∈ sm_ws := sm_inT 705 (by decide +kernel) (by decide +kernel)
theorem se_R_settleNode : Cond.selects RX7 y_R_settleNode y_R_settleNode ∈ sm_ws := sm_inS 24 (by decide +kernel) (by decide +kernel)
theorem fw_R_20 : sm_fw RX7 20 7 5 := ⟨_, _, _, rfl, in_X7, by decide, sm_inT 603 (by decide +kernel) (by decide +kernel)⟩
theorem fw_R_23 : sm_fw RX7 23 7 6 := ⟨_, _, _, rfl, in_X7, by decide, sm_inT 604 (by decide +kernel) (by decide +kernel)⟩
theorem cw_R_104 : sm_cw RX7 104 y_R_isOffered b_R_isOffered 2 (some .boolean) 2 := ⟨sm_inT 721 (by decide +kernel) (by decide +kernel), sm_inT 8 (by decide +kernel) (by decide +kernel), sm_inT 719 (by decide +kernel) (by decide +kernel), ⟨by decide, by decide, by decide +kernel⟩, by decide⟩
theorem sw_R_isOffered : Cond.static y_R_isOffered ∈ sm_ws := sm_inT 720 (by decide +kernel) (by decide +kernel)
theorem cw_R_108 : sm_cw RX7 108 y_R_isFresh b_R_isFresh 3 (some .boolean) 2 := ⟨sm_inT 725 (by decide +kernel) (by decide +kernel), sm_inT 8 (by decide +kernel) (by decide +kernel), sm_inT 722 (by decide +kernel) (by decide +kernel), ⟨by decide, by decide, by decide +kernel⟩, by decide⟩
theorem iw_R_isFresh : Cond.instanceMethod y_R_isFresh ∈ sm_ws := sm_inT 724 (by decide +kernel) (by decide +kernel)
theorem se_R_isFresh : Cond.selects RX7 y_R_isFresh y_R_isFresh ∈ sm_ws := sm_inS 25 (by decide +kernel) (by decide +kernel)
theorem pw_R_111 : sm_pw RX7 111 7 2 .int := ⟨_, _, _, tyX7, rfl, in_X7, by decide, sm_inT 600 (by decide +kernel) (by decide +kernel), tyX7_ok, nmX7, rfl, by decide +kernel⟩
theorem fw_R_111 : sm_fw RX7 111 7 2 := ⟨_, _, _, rfl, in_X7, by decide, sm_inT 600 (by decide +kernel) (by decide +kernel)⟩
theorem fw_R_13 : sm_fw RX7 13 7 3 := ⟨_, _, _, rfl, in_X7, by decide, sm_inT 601 (by decide +kernel) (by decide +kernel)⟩
theorem cw_R_114 : sm_cw RX7 114 y_R_isNode b_R_isNode 1 (some .boolean) 1 := ⟨sm_inT 740 (by decide +kernel) (by decide +kernel), sm_inT 8 (by decide +kernel) (by decide +kernel), sm_inT 738 (by decide +kernel) (by decide +kernel), ⟨by decide, by decide, by decide +kernel⟩, by decide⟩
theorem sw_R_isNode : Cond.static y_R_isNode ∈ sm_ws := sm_inT 739 (by decide +kernel) (by decide +kernel)
theorem cw_R_117 : sm_cw RX7 117 y_R_canHelp b_R_canHelp 5 (some .boolean) 4 := ⟨sm_inT 760 (by decide +kernel) (by decide +kernel), sm_inT 8 (by decide +kernel) (by decide +kernel), sm_inT 757 (by decide +kernel) (by decide +kernel), ⟨by decide, by decide, by decide +kernel⟩, by decide⟩
theorem iw_R_canHelp : Cond.instanceMethod y_R_canHelp ∈ sm_ws := sm_inT 759 (by decide +kernel) (by decide +kernel)
theorem se_R_canHelp : Cond.selects RX7 y_R_canHelp y_R_canHelp ∈ sm_ws := sm_inS 28 (by decide +kernel) (by decide +kernel)
theorem fw_R_64 : sm_fw RX7 64 7 19 := ⟨_, _, _, rfl, in_X7, by decide, sm_inT 617 (by decide +kernel) (by decide +kernel)⟩
theorem fw_R_39 : sm_fw RX7 39 7 11 := ⟨_, _, _, rfl, in_X7, by decide, sm_inT 609 (by decide +kernel) (by decide +kernel)⟩
theorem fw_R_67 : sm_fw RX7 67 7 20 := ⟨_, _, _, rfl, in_X7, by decide, sm_inT 618 (by decide +kernel) (by decide +kernel)⟩
theorem cw_R_121 : sm_cw RX7 121 y_R_isWanted b_R_isWanted 3 (some .boolean) 2 := ⟨sm_inT 752 (by decide +kernel) (by decide +kernel), sm_inT 8 (by decide +kernel) (by decide +kernel), sm_inT 749 (by decide +kernel) (by decide +kernel), ⟨by decide, by decide, by decide +kernel⟩, by decide⟩
theorem iw_R_isWanted : Cond.instanceMethod y_R_isWanted ∈ sm_ws := sm_inT 751 (by decide +kernel) (by decide +kernel)
theorem se_R_isWanted : Cond.selects RX7 y_R_isWanted y_R_isWanted ∈ sm_ws := sm_inS 26 (by decide +kernel) (by decide +kernel)
theorem cw_R_124 : sm_cw RX7 124 y_R_hasHelpers b_R_hasHelpers 6 (some .boolean) 3 := ⟨sm_inT 756 (by decide +kernel) (by decide +kernel), sm_inT 8 (by decide +kernel) (by decide +kernel), sm_inT 753 (by decide +kernel) (by decide +kernel), ⟨by decide, by decide, by decide +kernel⟩, by decide⟩
theorem iw_R_hasHelpers : Cond.instanceMethod y_R_hasHelpers ∈ sm_ws := sm_inT 755 (by decide +kernel) (by decide +kernel)
theorem se_R_hasHelpers : Cond.selects RX7 y_R_hasHelpers y_R_hasHelpers ∈ sm_ws := sm_inS 27 (by decide +kernel) (by decide +kernel)
theorem cw_R_127 : sm_cw RX7 127 y_R_stripes b_R_stripes 1 (some .int) 1 := ⟨sm_inT 763 (by decide +kernel) (by decide +kernel), sm_inT 8 (by decide +kernel) (by decide +kernel), sm_inT 761 (by decide +kernel) (by decide +kernel), ⟨by decide, by decide, by decide +kernel⟩, by decide⟩
theorem sw_R_stripes : Cond.static y_R_stripes ∈ sm_ws := sm_inT 762 (by decide +kernel) (by decide +kernel)
theorem cw_R_130 : sm_cw RX7 130 y_R_sendAll b_R_sendAll 8 (some .int) 4 := ⟨sm_inT 767 (by decide +kernel) (by decide +kernel), sm_inT 8 (by decide +kernel) (by decide +kernel), sm_inT 764 (by decide +kernel) (by decide +kernel), ⟨by decide, by decide, by decide +kernel⟩, by decide⟩
theorem iw_R_sendAll : Cond.instanceMethod y_R_sendAll ∈ sm_ws := sm_inT 766 (by decide +kernel) (by decide +kernel)
theorem se_R_sendAll : Cond.selects RX7 y_R_sendAll y_R_sendAll ∈ sm_ws := sm_inS 29 (by decide +kernel) (by decide +kernel)
theorem fw_R_61 : sm_fw RX7 61 7 18 := ⟨_, _, _, rfl, in_X7, by decide, sm_inT 616 (by decide +kernel) (by decide +kernel)⟩
theorem cw_R_134 : sm_cw RX7 134 y_R_byteOf b_R_byteOf 3 (some .int) 2 := ⟨sm_inT 787 (by decide +kernel) (by decide +kernel), sm_inT 8 (by decide +kernel) (by decide +kernel), sm_inT 784 (by decide +kernel) (by decide +kernel), ⟨by decide, by decide, by decide +kernel⟩, by decide⟩
theorem iw_R_byteOf : Cond.instanceMethod y_R_byteOf ∈ sm_ws := sm_inT 786 (by decide +kernel) (by decide +kernel)
theorem se_R_byteOf : Cond.selects RX7 y_R_byteOf y_R_byteOf ∈ sm_ws := sm_inS 31 (by decide +kernel) (by decide +kernel)
theorem cw_R_137 : sm_cw RX7 137 y_R_fill b_R_fill 6 none 2 := ⟨sm_inT 783 (by decide +kernel) (by decide +kernel), sm_inT 8 (by decide +kernel) (by decide +kernel), sm_inT 780 (by decide +kernel) (by decide +kernel), ⟨by decide, by decide, by decide +kernel⟩, by decide⟩
theorem iw_R_fill : Cond.instanceMethod y_R_fill ∈ sm_ws := sm_inT 782 (by decide +kernel) (by decide +kernel)
theorem se_R_fill : Cond.selects RX7 y_R_fill y_R_fill ∈ sm_ws := sm_inS 30 (by decide +kernel) (by decide +kernel)
theorem cw_R_140 : sm_cw RX7 140 y_R_power b_R_power 4 (some .int) 2 := ⟨sm_inT 790 (by decide +kernel) (by decide +kernel), sm_inT 8 (by decide +kernel) (by decide +kernel), sm_inT 788 (by decide +kernel) (by decide +kernel), ⟨by decide, by decide, by decide +kernel⟩, by decide⟩
theorem sw_R_power : Cond.static y_R_power ∈ sm_ws := sm_inT 789 (by decide +kernel) (by decide +kernel)
