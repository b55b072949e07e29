theorem d_G_times_0 : decode b_G_times 0 = .ok (.iload_n 1, 1) := by decide +kernel
theorem d_G_times_1 : decode b_G_times 1 = .ok (.ifCond .eq (7), 3) := by decide +kernel
theorem d_G_times_4 : decode b_G_times 4 = .ok (.iload_n 2, 1) := by decide +kernel
theorem d_G_times_5 : decode b_G_times 5 = .ok (.ifCond .ne (5), 3) := by decide +kernel
theorem d_G_times_8 : decode b_G_times 8 = .ok (.iconst (0), 1) := by decide +kernel
theorem d_G_times_9 : decode b_G_times 9 = .ok (.ireturn, 1) := by decide +kernel
theorem d_G_times_10 : decode b_G_times 10 = .ok (.aload_n 0, 1) := by decide +kernel
theorem d_G_times_11 : decode b_G_times 11 = .ok (.getfield 11, 3) := by decide +kernel
theorem d_G_times_14 : decode b_G_times 14 = .ok (.aload_n 0, 1) := by decide +kernel
theorem d_G_times_15 : decode b_G_times 15 = .ok (.getfield 15, 3) := by decide +kernel
theorem d_G_times_18 : decode b_G_times 18 = .ok (.iload_n 1, 1) := by decide +kernel
theorem d_G_times_19 : decode b_G_times 19 = .ok (.iaload, 1) := by decide +kernel
theorem d_G_times_20 : decode b_G_times 20 = .ok (.aload_n 0, 1) := by decide +kernel
theorem d_G_times_21 : decode b_G_times 21 = .ok (.getfield 15, 3) := by decide +kernel
theorem d_G_times_24 : decode b_G_times 24 = .ok (.iload_n 2, 1) := by decide +kernel
theorem d_G_times_25 : decode b_G_times 25 = .ok (.iaload, 1) := by decide +kernel
theorem d_G_times_26 : decode b_G_times 26 = .ok (.iadd, 1) := by decide +kernel
theorem d_G_times_27 : decode b_G_times 27 = .ok (.sipush (255), 3) := by decide +kernel
theorem d_G_times_30 : decode b_G_times 30 = .ok (.irem, 1) := by decide +kernel
theorem d_G_times_31 : decode b_G_times 31 = .ok (.iaload, 1) := by decide +kernel
theorem d_G_times_32 : decode b_G_times 32 = .ok (.ireturn, 1) := by decide +kernel
theorem d_G_over_0 : decode b_G_over 0 = .ok (.iload_n 2, 1) := by decide +kernel
theorem d_G_over_1 : decode b_G_over 1 = .ok (.ifCond .eq (7), 3) := by decide +kernel
theorem d_G_over_4 : decode b_G_over 4 = .ok (.iload_n 1, 1) := by decide +kernel
theorem d_G_over_5 : decode b_G_over 5 = .ok (.ifCond .ne (5), 3) := by decide +kernel
theorem d_G_over_8 : decode b_G_over 8 = .ok (.iconst (0), 1) := by decide +kernel
theorem d_G_over_9 : decode b_G_over 9 = .ok (.ireturn, 1) := by decide +kernel
theorem d_G_over_10 : decode b_G_over 10 = .ok (.aload_n 0, 1) := by decide +kernel
theorem d_G_over_11 : decode b_G_over 11 = .ok (.getfield 11, 3) := by decide +kernel
theorem d_G_over_14 : decode b_G_over 14 = .ok (.aload_n 0, 1) := by decide +kernel
theorem d_G_over_15 : decode b_G_over 15 = .ok (.getfield 15, 3) := by decide +kernel
theorem d_G_over_18 : decode b_G_over 18 = .ok (.iload_n 1, 1) := by decide +kernel
theorem d_G_over_19 : decode b_G_over 19 = .ok (.iaload, 1) := by decide +kernel
theorem d_G_over_20 : decode b_G_over 20 = .ok (.aload_n 0, 1) := by decide +kernel
theorem d_G_over_21 : decode b_G_over 21 = .ok (.getfield 15, 3) := by decide +kernel
theorem d_G_over_24 : decode b_G_over 24 = .ok (.iload_n 2, 1) := by decide +kernel
theorem d_G_over_25 : decode b_G_over 25 = .ok (.iaload, 1) := by decide +kernel
theorem d_G_over_26 : decode b_G_over 26 = .ok (.isub, 1) := by decide +kernel
theorem d_G_over_27 : decode b_G_over 27 = .ok (.sipush (255), 3) := by decide +kernel
theorem d_G_over_30 : decode b_G_over 30 = .ok (.iadd, 1) := by decide +kernel
theorem d_G_over_31 : decode b_G_over 31 = .ok (.sipush (255), 3) := by decide +kernel
theorem d_G_over_34 : decode b_G_over 34 = .ok (.irem, 1) := by decide +kernel
theorem d_G_over_35 : decode b_G_over 35 = .ok (.iaload, 1) := by decide +kernel
theorem d_G_over_36 : decode b_G_over 36 = .ok (.ireturn, 1) := by decide +kernel
theorem d_G_valueAt_0 : decode b_G_valueAt 0 = .ok (.iconst (0), 1) := by decide +kernel
theorem d_G_valueAt_1 : decode b_G_valueAt 1 = .ok (.istore 4, 2) := by decide +kernel
theorem d_G_valueAt_3 : decode b_G_valueAt 3 = .ok (.bipush (7), 2) := by decide +kernel
theorem d_G_valueAt_5 : decode b_G_valueAt 5 = .ok (.istore 5, 2) := by decide +kernel
theorem d_G_valueAt_7 : decode b_G_valueAt 7 = .ok (.iload 5, 2) := by decide +kernel
theorem d_G_valueAt_9 : decode b_G_valueAt 9 = .ok (.ifCond .lt (25), 3) := by decide +kernel
theorem d_G_valueAt_12 : decode b_G_valueAt 12 = .ok (.aload_n 0, 1) := by decide +kernel
theorem d_G_valueAt_13 : decode b_G_valueAt 13 = .ok (.iload 4, 2) := by decide +kernel
theorem d_G_valueAt_15 : decode b_G_valueAt 15 = .ok (.iload_n 1, 1) := by decide +kernel
theorem d_G_valueAt_16 : decode b_G_valueAt 16 = .ok (.invokevirtual 18, 3) := by decide +kernel
theorem d_G_valueAt_19 : decode b_G_valueAt 19 = .ok (.aload_n 2, 1) := by decide +kernel
theorem d_G_valueAt_20 : decode b_G_valueAt 20 = .ok (.iload_n 3, 1) := by decide +kernel
theorem d_G_valueAt_21 : decode b_G_valueAt 21 = .ok (.iload 5, 2) := by decide +kernel
theorem d_G_valueAt_23 : decode b_G_valueAt 23 = .ok (.iadd, 1) := by decide +kernel
theorem d_G_valueAt_24 : decode b_G_valueAt 24 = .ok (.iaload, 1) := by decide +kernel
theorem d_G_valueAt_25 : decode b_G_valueAt 25 = .ok (.ixor, 1) := by decide +kernel
theorem d_G_valueAt_26 : decode b_G_valueAt 26 = .ok (.istore 4, 2) := by decide +kernel
theorem d_G_valueAt_28 : decode b_G_valueAt 28 = .ok (.iinc 5 (-1), 3) := by decide +kernel
theorem d_G_valueAt_31 : decode b_G_valueAt 31 = .ok (.goto (-24), 3) := by decide +kernel
theorem d_G_valueAt_34 : decode b_G_valueAt 34 = .ok (.iload 4, 2) := by decide +kernel
theorem d_G_valueAt_36 : decode b_G_valueAt 36 = .ok (.ireturn, 1) := by decide +kernel
theorem d_G_interpolate_0 : decode b_G_interpolate 0 = .ok (.iconst (1), 1) := by decide +kernel
theorem d_G_interpolate_1 : decode b_G_interpolate 1 = .ok (.istore 4, 2) := by decide +kernel
theorem d_G_interpolate_3 : decode b_G_interpolate 3 = .ok (.iload 4, 2) := by decide +kernel
theorem d_G_interpolate_5 : decode b_G_interpolate 5 = .ok (.iload_n 3, 1) := by decide +kernel
theorem d_G_interpolate_6 : decode b_G_interpolate 6 = .ok (.if_icmp .ge (58), 3) := by decide +kernel
theorem d_G_interpolate_9 : decode b_G_interpolate 9 = .ok (.iload_n 3, 1) := by decide +kernel
theorem d_G_interpolate_10 : decode b_G_interpolate 10 = .ok (.iconst (1), 1) := by decide +kernel
theorem d_G_interpolate_11 : decode b_G_interpolate 11 = .ok (.isub, 1) := by decide +kernel
theorem d_G_interpolate_12 : decode b_G_interpolate 12 = .ok (.istore 5, 2) := by decide +kernel
theorem d_G_interpolate_14 : decode b_G_interpolate 14 = .ok (.iload 5, 2) := by decide +kernel
theorem d_G_interpolate_16 : decode b_G_interpolate 16 = .ok (.iload 4, 2) := by decide +kernel
theorem d_G_interpolate_18 : decode b_G_interpolate 18 = .ok (.if_icmp .lt (40), 3) := by decide +kernel
theorem d_G_interpolate_21 : decode b_G_interpolate 21 = .ok (.aload_n 2, 1) := by decide +kernel
theorem d_G_interpolate_22 : decode b_G_interpolate 22 = .ok (.iload 5, 2) := by decide +kernel
theorem d_G_interpolate_24 : decode b_G_interpolate 24 = .ok (.aload_n 0, 1) := by decide +kernel
theorem d_G_interpolate_25 : decode b_G_interpolate 25 = .ok (.aload_n 2, 1) := by decide +kernel
theorem d_G_interpolate_26 : decode b_G_interpolate 26 = .ok (.iload 5, 2) := by decide +kernel
theorem d_G_interpolate_28 : decode b_G_interpolate 28 = .ok (.iaload, 1) := by decide +kernel
theorem d_G_interpolate_29 : decode b_G_interpolate 29 = .ok (.aload_n 2, 1) := by decide +kernel
theorem d_G_interpolate_30 : decode b_G_interpolate 30 = .ok (.iload 5, 2) := by decide +kernel
theorem d_G_interpolate_32 : decode b_G_interpolate 32 = .ok (.iconst (1), 1) := by decide +kernel
theorem d_G_interpolate_33 : decode b_G_interpolate 33 = .ok (.isub, 1) := by decide +kernel
theorem d_G_interpolate_34 : decode b_G_interpolate 34 = .ok (.iaload, 1) := by decide +kernel
theorem d_G_interpolate_35 : decode b_G_interpolate 35 = .ok (.ixor, 1) := by decide +kernel
theorem d_G_interpolate_36 : decode b_G_interpolate 36 = .ok (.aload_n 1, 1) := by decide +kernel
theorem d_G_interpolate_37 : decode b_G_interpolate 37 = .ok (.iload 5, 2) := by decide +kernel
theorem d_G_interpolate_39 : decode b_G_interpolate 39 = .ok (.iaload, 1) := by decide +kernel
theorem d_G_interpolate_40 : decode b_G_interpolate 40 = .ok (.aload_n 1, 1) := by decide +kernel
theorem d_G_interpolate_41 : decode b_G_interpolate 41 = .ok (.iload 5, 2) := by decide +kernel
theorem d_G_interpolate_43 : decode b_G_interpolate 43 = .ok (.iload 4, 2) := by decide +kernel
theorem d_G_interpolate_45 : decode b_G_interpolate 45 = .ok (.isub, 1) := by decide +kernel
theorem d_G_interpolate_46 : decode b_G_interpolate 46 = .ok (.iaload, 1) := by decide +kernel
theorem d_G_interpolate_47 : decode b_G_interpolate 47 = .ok (.ixor, 1) := by decide +kernel
theorem d_G_interpolate_48 : decode b_G_interpolate 48 = .ok (.invokevirtual 22, 3) := by decide +kernel
theorem d_G_interpolate_51 : decode b_G_interpolate 51 = .ok (.iastore, 1) := by decide +kernel
theorem d_G_interpolate_52 : decode b_G_interpolate 52 = .ok (.iinc 5 (-1), 3) := by decide +kernel
theorem d_G_interpolate_55 : decode b_G_interpolate 55 = .ok (.goto (-41), 3) := by decide +kernel
theorem d_G_interpolate_58 : decode b_G_interpolate 58 = .ok (.iinc 4 (1), 3) := by decide +kernel
theorem d_G_interpolate_61 : decode b_G_interpolate 61 = .ok (.goto (-58), 3) := by decide +kernel
theorem d_G_interpolate_64 : decode b_G_interpolate 64 = .ok (.iload_n 3, 1) := by decide +kernel
theorem d_G_interpolate_65 : decode b_G_interpolate 65 = .ok (.iconst (2), 1) := by decide +kernel
theorem d_G_interpolate_66 : decode b_G_interpolate 66 = .ok (.isub, 1) := by decide +kernel
theorem d_G_interpolate_67 : decode b_G_interpolate 67 = .ok (.istore 4, 2) := by decide +kernel
theorem d_G_interpolate_69 : decode b_G_interpolate 69 = .ok (.iload 4, 2) := by decide +kernel
theorem d_G_interpolate_71 : decode b_G_interpolate 71 = .ok (.ifCond .lt (48), 3) := by decide +kernel
theorem d_G_interpolate_74 : decode b_G_interpolate 74 = .ok (.iload 4, 2) := by decide +kernel
theorem d_G_interpolate_76 : decode b_G_interpolate 76 = .ok (.istore 5, 2) := by decide +kernel
theorem d_G_interpolate_78 : decode b_G_interpolate 78 = .ok (.iload 5, 2) := by decide +kernel
theorem d_G_interpolate_80 : decode b_G_interpolate 80 = .ok (.iload_n 3, 1) := by decide +kernel
theorem d_G_interpolate_81 : decode b_G_interpolate 81 = .ok (.iconst (1), 1) := by decide +kernel
theorem d_G_interpolate_82 : decode b_G_interpolate 82 = .ok (.isub, 1) := by decide +kernel
theorem d_G_interpolate_83 : decode b_G_interpolate 83 = .ok (.if_icmp .ge (30), 3) := by decide +kernel
theorem d_G_interpolate_86 : decode b_G_interpolate 86 = .ok (.aload_n 2, 1) := by decide +kernel
theorem d_G_interpolate_87 : decode b_G_interpolate 87 = .ok (.iload 5, 2) := by decide +kernel
theorem d_G_interpolate_89 : decode b_G_interpolate 89 = .ok (.dup2, 1) := by decide +kernel
theorem d_G_interpolate_90 : decode b_G_interpolate 90 = .ok (.iaload, 1) := by decide +kernel
theorem d_G_interpolate_91 : decode b_G_interpolate 91 = .ok (.aload_n 0, 1) := by decide +kernel
theorem d_G_interpolate_92 : decode b_G_interpolate 92 = .ok (.aload_n 2, 1) := by decide +kernel
theorem d_G_interpolate_93 : decode b_G_interpolate 93 = .ok (.iload 5, 2) := by decide +kernel
theorem d_G_interpolate_95 : decode b_G_interpolate 95 = .ok (.iconst (1), 1) := by decide +kernel
theorem d_G_interpolate_96 : decode b_G_interpolate 96 = .ok (.iadd, 1) := by decide +kernel
theorem d_G_interpolate_97 : decode b_G_interpolate 97 = .ok (.iaload, 1) := by decide +kernel
theorem d_G_interpolate_98 : decode b_G_interpolate 98 = .ok (.aload_n 1, 1) := by decide +kernel
theorem d_G_interpolate_99 : decode b_G_interpolate 99 = .ok (.iload 4, 2) := by decide +kernel
theorem d_G_interpolate_101 : decode b_G_interpolate 101 = .ok (.iaload, 1) := by decide +kernel
theorem d_G_interpolate_102 : decode b_G_interpolate 102 = .ok (.invokevirtual 18, 3) := by decide +kernel
theorem d_G_interpolate_105 : decode b_G_interpolate 105 = .ok (.ixor, 1) := by decide +kernel
theorem d_G_interpolate_106 : decode b_G_interpolate 106 = .ok (.iastore, 1) := by decide +kernel
theorem d_G_interpolate_107 : decode b_G_interpolate 107 = .ok (.iinc 5 (1), 3) := by decide +kernel
theorem d_G_interpolate_110 : decode b_G_interpolate 110 = .ok (.goto (-32), 3) := by decide +kernel
theorem d_G_interpolate_113 : decode b_G_interpolate 113 = .ok (.iinc 4 (-1), 3) := by decide +kernel
theorem d_G_interpolate_116 : decode b_G_interpolate 116 = .ok (.goto (-47), 3) := by decide +kernel
theorem d_G_interpolate_119 : decode b_G_interpolate 119 = .ok (.return_, 1) := by decide +kernel
theorem d_I_begin_0 : decode b_I_begin 0 = .ok (.aload_n 0, 1) := by decide +kernel
theorem d_I_begin_1 : decode b_I_begin 1 = .ok (.dup, 1) := by decide +kernel
theorem d_I_begin_2 : decode b_I_begin 2 = .ok (.getfield 16, 3) := by decide +kernel
theorem d_I_begin_5 : decode b_I_begin 5 = .ok (.iconst (1), 1) := by decide +kernel
theorem d_I_begin_6 : decode b_I_begin 6 = .ok (.iadd, 1) := by decide +kernel
theorem d_I_begin_7 : decode b_I_begin 7 = .ok (.putfield 16, 3) := by decide +kernel
theorem d_I_begin_10 : decode b_I_begin 10 = .ok (.aload_n 0, 1) := by decide +kernel
theorem d_I_begin_11 : decode b_I_begin 11 = .ok (.iload_n 1, 1) := by decide +kernel
theorem d_I_begin_12 : decode b_I_begin 12 = .ok (.putfield 19, 3) := by decide +kernel
theorem d_I_begin_15 : decode b_I_begin 15 = .ok (.aload_n 0, 1) := by decide +kernel
theorem d_I_begin_16 : decode b_I_begin 16 = .ok (.iconst (1), 1) := by decide +kernel
theorem d_I_begin_17 : decode b_I_begin 17 = .ok (.putfield 22, 3) := by decide +kernel
theorem d_I_begin_20 : decode b_I_begin 20 = .ok (.return_, 1) := by decide +kernel
theorem d_I_finish_0 : decode b_I_finish 0 = .ok (.iload_n 1, 1) := by decide +kernel
theorem d_I_finish_1 : decode b_I_finish 1 = .ok (.ifCond .eq (19), 3) := by decide +kernel
theorem d_I_finish_4 : decode b_I_finish 4 = .ok (.aload_n 0, 1) := by decide +kernel
theorem d_I_finish_5 : decode b_I_finish 5 = .ok (.aload_n 0, 1) := by decide +kernel
theorem d_I_finish_6 : decode b_I_finish 6 = .ok (.getfield 16, 3) := by decide +kernel
theorem d_I_finish_9 : decode b_I_finish 9 = .ok (.putfield 7, 3) := by decide +kernel
theorem d_I_finish_12 : decode b_I_finish 12 = .ok (.aload_n 0, 1) := by decide +kernel
theorem d_I_finish_13 : decode b_I_finish 13 = .ok (.aload_n 0, 1) := by decide +kernel
theorem d_I_finish_14 : decode b_I_finish 14 = .ok (.getfield 19, 3) := by decide +kernel
theorem d_I_finish_17 : decode b_I_finish 17 = .ok (.putfield 13, 3) := by decide +kernel
theorem d_I_finish_20 : decode b_I_finish 20 = .ok (.aload_n 0, 1) := by decide +kernel
theorem d_I_finish_21 : decode b_I_finish 21 = .ok (.iconst (0), 1) := by decide +kernel
theorem d_I_finish_22 : decode b_I_finish 22 = .ok (.putfield 22, 3) := by decide +kernel
theorem d_I_finish_25 : decode b_I_finish 25 = .ok (.return_, 1) := by decide +kernel
theorem d_H_become_0 : decode b_H_become 0 = .ok (.aload_n 0, 1) := by decide +kernel
theorem d_H_become_1 : decode b_H_become 1 = .ok (.iload_n 1, 1) := by decide +kernel
theorem d_H_become_2 : decode b_H_become 2 = .ok (.putfield 9, 3) := by decide +kernel
theorem d_H_become_5 : decode b_H_become 5 = .ok (.aload_n 0, 1) := by decide +kernel
theorem d_H_become_6 : decode b_H_become 6 = .ok (.iload_n 2, 1) := by decide +kernel
theorem d_H_become_7 : decode b_H_become 7 = .ok (.putfield 15, 3) := by decide +kernel
theorem d_H_become_10 : decode b_H_become 10 = .ok (.return_, 1) := by decide +kernel
theorem d_T_clear_0 : decode b_T_clear 0 = .ok (.aload_n 0, 1) := by decide +kernel
theorem d_T_clear_1 : decode b_T_clear 1 = .ok (.iconst (0), 1) := by decide +kernel
theorem d_T_clear_2 : decode b_T_clear 2 = .ok (.putfield 18, 3) := by decide +kernel
theorem d_T_clear_5 : decode b_T_clear 5 = .ok (.return_, 1) := by decide +kernel
theorem d_T_add_0 : decode b_T_add 0 = .ok (.aload_n 0, 1) := by decide +kernel
theorem d_T_add_1 : decode b_T_add 1 = .ok (.getfield 18, 3) := by decide +kernel
theorem d_T_add_4 : decode b_T_add 4 = .ok (.bipush (8), 2) := by decide +kernel
theorem d_T_add_6 : decode b_T_add 6 = .ok (.if_icmp .ge (35), 3) := by decide +kernel
theorem d_T_add_9 : decode b_T_add 9 = .ok (.aload_n 0, 1) := by decide +kernel
theorem d_T_add_10 : decode b_T_add 10 = .ok (.getfield 9, 3) := by decide +kernel
theorem d_T_add_13 : decode b_T_add 13 = .ok (.aload_n 0, 1) := by decide +kernel
theorem d_T_add_14 : decode b_T_add 14 = .ok (.getfield 18, 3) := by decide +kernel
theorem d_T_add_17 : decode b_T_add 17 = .ok (.iload_n 1, 1) := by decide +kernel
theorem d_T_add_18 : decode b_T_add 18 = .ok (.iastore, 1) := by decide +kernel
theorem d_T_add_19 : decode b_T_add 19 = .ok (.aload_n 0, 1) := by decide +kernel
theorem d_T_add_20 : decode b_T_add 20 = .ok (.getfield 15, 3) := by decide +kernel
theorem d_T_add_23 : decode b_T_add 23 = .ok (.aload_n 0, 1) := by decide +kernel
theorem d_T_add_24 : decode b_T_add 24 = .ok (.getfield 18, 3) := by decide +kernel
theorem d_T_add_27 : decode b_T_add 27 = .ok (.iload_n 1, 1) := by decide +kernel
theorem d_T_add_28 : decode b_T_add 28 = .ok (.iconst (1), 1) := by decide +kernel
theorem d_T_add_29 : decode b_T_add 29 = .ok (.iadd, 1) := by decide +kernel
theorem d_T_add_30 : decode b_T_add 30 = .ok (.iastore, 1) := by decide +kernel
theorem d_T_add_31 : decode b_T_add 31 = .ok (.aload_n 0, 1) := by decide +kernel
theorem d_T_add_32 : decode b_T_add 32 = .ok (.dup, 1) := by decide +kernel
theorem d_T_add_33 : decode b_T_add 33 = .ok (.getfield 18, 3) := by decide +kernel
theorem d_T_add_36 : decode b_T_add 36 = .ok (.iconst (1), 1) := by decide +kernel
theorem d_T_add_37 : decode b_T_add 37 = .ok (.iadd, 1) := by decide +kernel
theorem d_T_add_38 : decode b_T_add 38 = .ok (.putfield 18, 3) := by decide +kernel
theorem d_T_add_41 : decode b_T_add 41 = .ok (.return_, 1) := by decide +kernel
theorem d_N_turnShadow_0 : decode b_N_turnShadow 0 = .ok (.aload_n 0, 1) := by decide +kernel
theorem d_N_turnShadow_1 : decode b_N_turnShadow 1 = .ok (.getfield 11, 3) := by decide +kernel
theorem d_N_turnShadow_4 : decode b_N_turnShadow 4 = .ok (.iload_n 1, 1) := by decide +kernel
theorem d_N_turnShadow_5 : decode b_N_turnShadow 5 = .ok (.aaload, 1) := by decide +kernel
theorem d_N_turnShadow_6 : decode b_N_turnShadow 6 = .ok (.astore_n 2, 1) := by decide +kernel
theorem d_N_turnShadow_7 : decode b_N_turnShadow 7 = .ok (.aload_n 0, 1) := by decide +kernel
theorem d_N_turnShadow_8 : decode b_N_turnShadow 8 = .ok (.getfield 11, 3) := by decide +kernel
theorem d_N_turnShadow_11 : decode b_N_turnShadow 11 = .ok (.iload_n 1, 1) := by decide +kernel
theorem d_N_turnShadow_12 : decode b_N_turnShadow 12 = .ok (.aload_n 0, 1) := by decide +kernel
theorem d_N_turnShadow_13 : decode b_N_turnShadow 13 = .ok (.getfield 17, 3) := by decide +kernel
theorem d_N_turnShadow_16 : decode b_N_turnShadow 16 = .ok (.iload_n 1, 1) := by decide +kernel
theorem d_N_turnShadow_17 : decode b_N_turnShadow 17 = .ok (.aaload, 1) := by decide +kernel
theorem d_N_turnShadow_18 : decode b_N_turnShadow 18 = .ok (.aastore, 1) := by decide +kernel
theorem d_N_turnShadow_19 : decode b_N_turnShadow 19 = .ok (.aload_n 0, 1) := by decide +kernel
theorem d_N_turnShadow_20 : decode b_N_turnShadow 20 = .ok (.getfield 17, 3) := by decide +kernel
theorem d_N_turnShadow_23 : decode b_N_turnShadow 23 = .ok (.iload_n 1, 1) := by decide +kernel
theorem d_N_turnShadow_24 : decode b_N_turnShadow 24 = .ok (.aload_n 2, 1) := by decide +kernel
theorem d_N_turnShadow_25 : decode b_N_turnShadow 25 = .ok (.aastore, 1) := by decide +kernel
theorem d_N_turnShadow_26 : decode b_N_turnShadow 26 = .ok (.aload_n 2, 1) := by decide +kernel
theorem d_N_turnShadow_27 : decode b_N_turnShadow 27 = .ok (.iconst (0), 1) := by decide +kernel
theorem d_N_turnShadow_28 : decode b_N_turnShadow 28 = .ok (.iconst (0), 1) := by decide +kernel
theorem d_N_turnShadow_29 : decode b_N_turnShadow 29 = .ok (.invokevirtual 32, 3) := by decide +kernel
theorem d_N_turnShadow_32 : decode b_N_turnShadow 32 = .ok (.return_, 1) := by decide +kernel
theorem d_N_comeBack_0 : decode b_N_comeBack 0 = .ok (.aload_n 0, 1) := by decide +kernel
theorem d_N_comeBack_1 : decode b_N_comeBack 1 = .ok (.iconst (1), 1) := by decide +kernel
theorem d_N_comeBack_2 : decode b_N_comeBack 2 = .ok (.putfield 20, 3) := by decide +kernel
theorem d_N_comeBack_5 : decode b_N_comeBack 5 = .ok (.iconst (0), 1) := by decide +kernel
theorem d_N_comeBack_6 : decode b_N_comeBack 6 = .ok (.istore_n 2, 1) := by decide +kernel
theorem d_N_comeBack_7 : decode b_N_comeBack 7 = .ok (.iload_n 2, 1) := by decide +kernel
theorem d_N_comeBack_8 : decode b_N_comeBack 8 = .ok (.bipush (12), 2) := by decide +kernel
theorem d_N_comeBack_10 : decode b_N_comeBack 10 = .ok (.if_icmp .ge (35), 3) := by decide +kernel
theorem d_N_comeBack_13 : decode b_N_comeBack 13 = .ok (.aload_n 0, 1) := by decide +kernel
theorem d_N_comeBack_14 : decode b_N_comeBack 14 = .ok (.getfield 17, 3) := by decide +kernel
theorem d_N_comeBack_17 : decode b_N_comeBack 17 = .ok (.iload_n 2, 1) := by decide +kernel
theorem d_N_comeBack_18 : decode b_N_comeBack 18 = .ok (.aaload, 1) := by decide +kernel
theorem d_N_comeBack_19 : decode b_N_comeBack 19 = .ok (.iconst (0), 1) := by decide +kernel
theorem d_N_comeBack_20 : decode b_N_comeBack 20 = .ok (.iconst (0), 1) := by decide +kernel
theorem d_N_comeBack_21 : decode b_N_comeBack 21 = .ok (.invokevirtual 32, 3) := by decide +kernel
theorem d_N_comeBack_24 : decode b_N_comeBack 24 = .ok (.iload_n 1, 1) := by decide +kernel
theorem d_N_comeBack_25 : decode b_N_comeBack 25 = .ok (.ifCond .eq (14), 3) := by decide +kernel
theorem d_N_comeBack_28 : decode b_N_comeBack 28 = .ok (.aload_n 0, 1) := by decide +kernel
theorem d_N_comeBack_29 : decode b_N_comeBack 29 = .ok (.getfield 11, 3) := by decide +kernel
theorem d_N_comeBack_32 : decode b_N_comeBack 32 = .ok (.iload_n 2, 1) := by decide +kernel
theorem d_N_comeBack_33 : decode b_N_comeBack 33 = .ok (.aaload, 1) := by decide +kernel
theorem d_N_comeBack_34 : decode b_N_comeBack 34 = .ok (.iconst (0), 1) := by decide +kernel
theorem d_N_comeBack_35 : decode b_N_comeBack 35 = .ok (.iconst (0), 1) := by decide +kernel
theorem d_N_comeBack_36 : decode b_N_comeBack 36 = .ok (.invokevirtual 32, 3) := by decide +kernel
theorem d_N_comeBack_39 : decode b_N_comeBack 39 = .ok (.iinc 2 (1), 3) := by decide +kernel
theorem d_N_comeBack_42 : decode b_N_comeBack 42 = .ok (.goto (-35), 3) := by decide +kernel
theorem d_N_comeBack_45 : decode b_N_comeBack 45 = .ok (.return_, 1) := by decide +kernel
theorem d_N_countShadows_0 : decode b_N_countShadows 0 = .ok (.iconst (0), 1) := by decide +kernel
theorem d_N_countShadows_1 : decode b_N_countShadows 1 = .ok (.istore_n 1, 1) := by decide +kernel
theorem d_N_countShadows_2 : decode b_N_countShadows 2 = .ok (.iconst (0), 1) := by decide +kernel
theorem d_N_countShadows_3 : decode b_N_countShadows 3 = .ok (.istore_n 2, 1) := by decide +kernel
theorem d_N_countShadows_4 : decode b_N_countShadows 4 = .ok (.iload_n 2, 1) := by decide +kernel
theorem d_N_countShadows_5 : decode b_N_countShadows 5 = .ok (.bipush (12), 2) := by decide +kernel
theorem d_N_countShadows_7 : decode b_N_countShadows 7 = .ok (.if_icmp .ge (24), 3) := by decide +kernel
theorem d_N_countShadows_10 : decode b_N_countShadows 10 = .ok (.aload_n 0, 1) := by decide +kernel
theorem d_N_countShadows_11 : decode b_N_countShadows 11 = .ok (.getfield 17, 3) := by decide +kernel
theorem d_N_countShadows_14 : decode b_N_countShadows 14 = .ok (.iload_n 2, 1) := by decide +kernel
theorem d_N_countShadows_15 : decode b_N_countShadows 15 = .ok (.aaload, 1) := by decide +kernel
theorem d_N_countShadows_16 : decode b_N_countShadows 16 = .ok (.getfield 36, 3) := by decide +kernel
theorem d_N_countShadows_19 : decode b_N_countShadows 19 = .ok (.ifCond .eq (6), 3) := by decide +kernel
theorem d_N_countShadows_22 : decode b_N_countShadows 22 = .ok (.iinc 1 (1), 3) := by decide +kernel
theorem d_N_countShadows_25 : decode b_N_countShadows 25 = .ok (.iinc 2 (1), 3) := by decide +kernel
theorem d_N_countShadows_28 : decode b_N_countShadows 28 = .ok (.goto (-24), 3) := by decide +kernel
theorem d_N_countShadows_31 : decode b_N_countShadows 31 = .ok (.iload_n 1, 1) := by decide +kernel
theorem d_N_countShadows_32 : decode b_N_countShadows 32 = .ok (.ireturn, 1) := by decide +kernel
theorem d_M_fill_0 : decode b_M_fill 0 = .ok (.bipush (30), 2) := by decide +kernel
theorem d_M_fill_2 : decode b_M_fill 2 = .ok (.iload_n 2, 1) := by decide +kernel
theorem d_M_fill_3 : decode b_M_fill 3 = .ok (.invokestatic 20, 3) := by decide +kernel
theorem d_M_fill_6 : decode b_M_fill 6 = .ok (.imul, 1) := by decide +kernel
theorem d_M_fill_7 : decode b_M_fill 7 = .ok (.istore_n 3, 1) := by decide +kernel
theorem d_M_fill_8 : decode b_M_fill 8 = .ok (.iconst (0), 1) := by decide +kernel
theorem d_M_fill_9 : decode b_M_fill 9 = .ok (.istore 4, 2) := by decide +kernel
theorem d_M_fill_11 : decode b_M_fill 11 = .ok (.iload 4, 2) := by decide +kernel
theorem d_M_fill_13 : decode b_M_fill 13 = .ok (.iload_n 3, 1) := by decide +kernel
theorem d_M_fill_14 : decode b_M_fill 14 = .ok (.if_icmp .ge (87), 3) := by decide +kernel
theorem d_M_fill_17 : decode b_M_fill 17 = .ok (.bipush (8), 2) := by decide +kernel
theorem d_M_fill_19 : decode b_M_fill 19 = .ok (.iload 4, 2) := by decide +kernel
theorem d_M_fill_21 : decode b_M_fill 21 = .ok (.bipush (30), 2) := by decide +kernel
theorem d_M_fill_23 : decode b_M_fill 23 = .ok (.idiv, 1) := by decide +kernel
theorem d_M_fill_24 : decode b_M_fill 24 = .ok (.imul, 1) := by decide +kernel
theorem d_M_fill_25 : decode b_M_fill 25 = .ok (.istore 5, 2) := by decide +kernel
theorem d_M_fill_27 : decode b_M_fill 27 = .ok (.getstatic 24, 3) := by decide +kernel
theorem d_M_fill_30 : decode b_M_fill 30 = .ok (.iload 4, 2) := by decide +kernel
theorem d_M_fill_32 : decode b_M_fill 32 = .ok (.bipush (30), 2) := by decide +kernel
theorem d_M_fill_34 : decode b_M_fill 34 = .ok (.irem, 1) := by decide +kernel
theorem d_M_fill_35 : decode b_M_fill 35 = .ok (.iaload, 1) := by decide +kernel
theorem d_M_fill_36 : decode b_M_fill 36 = .ok (.istore 6, 2) := by decide +kernel
theorem d_M_fill_38 : decode b_M_fill 38 = .ok (.getstatic 27, 3) := by decide +kernel
theorem d_M_fill_41 : decode b_M_fill 41 = .ok (.iload 4, 2) := by decide +kernel
theorem d_M_fill_43 : decode b_M_fill 43 = .ok (.bipush (30), 2) := by decide +kernel
theorem d_M_fill_45 : decode b_M_fill 45 = .ok (.irem, 1) := by decide +kernel
theorem d_M_fill_46 : decode b_M_fill 46 = .ok (.iaload, 1) := by decide +kernel
theorem d_M_fill_47 : decode b_M_fill 47 = .ok (.istore 7, 2) := by decide +kernel
theorem d_M_fill_49 : decode b_M_fill 49 = .ok (.iload 4, 2) := by decide +kernel
theorem d_M_fill_51 : decode b_M_fill 51 = .ok (.iload_n 2, 1) := by decide +kernel
theorem d_M_fill_52 : decode b_M_fill 52 = .ok (.if_icmp .ge (10), 3) := by decide +kernel
theorem d_M_fill_55 : decode b_M_fill 55 = .ok (.aload_n 1, 1) := by decide +kernel
theorem d_M_fill_56 : decode b_M_fill 56 = .ok (.iload 4, 2) := by decide +kernel
theorem d_M_fill_58 : decode b_M_fill 58 = .ok (.iaload, 1) := by decide +kernel
theorem d_M_fill_59 : decode b_M_fill 59 = .ok (.goto (4), 3) := by decide +kernel
theorem d_M_fill_62 : decode b_M_fill 62 = .ok (.iconst (0), 1) := by decide +kernel
theorem d_M_fill_63 : decode b_M_fill 63 = .ok (.istore 8, 2) := by decide +kernel
theorem d_M_fill_65 : decode b_M_fill 65 = .ok (.aload_n 0, 1) := by decide +kernel
theorem d_M_fill_66 : decode b_M_fill 66 = .ok (.getfield 11, 3) := by decide +kernel
theorem d_M_fill_69 : decode b_M_fill 69 = .ok (.iload 5, 2) := by decide +kernel
theorem d_M_fill_71 : decode b_M_fill 71 = .ok (.iload 6, 2) := by decide +kernel
theorem d_M_fill_73 : decode b_M_fill 73 = .ok (.iadd, 1) := by decide +kernel
theorem d_M_fill_74 : decode b_M_fill 74 = .ok (.aaload, 1) := by decide +kernel
theorem d_M_fill_75 : decode b_M_fill 75 = .ok (.iload 7, 2) := by decide +kernel
theorem d_M_fill_77 : decode b_M_fill 77 = .ok (.iload 8, 2) := by decide +kernel
theorem d_M_fill_79 : decode b_M_fill 79 = .ok (.iastore, 1) := by decide +kernel
theorem d_M_fill_80 : decode b_M_fill 80 = .ok (.aload_n 0, 1) := by decide +kernel
theorem d_M_fill_81 : decode b_M_fill 81 = .ok (.getfield 11, 3) := by decide +kernel
theorem d_M_fill_84 : decode b_M_fill 84 = .ok (.iload 5, 2) := by decide +kernel
theorem d_M_fill_86 : decode b_M_fill 86 = .ok (.iload 7, 2) := by decide +kernel
theorem d_M_fill_88 : decode b_M_fill 88 = .ok (.iadd, 1) := by decide +kernel
theorem d_M_fill_89 : decode b_M_fill 89 = .ok (.aaload, 1) := by decide +kernel
theorem d_M_fill_90 : decode b_M_fill 90 = .ok (.iload 6, 2) := by decide +kernel
theorem d_M_fill_92 : decode b_M_fill 92 = .ok (.iload 8, 2) := by decide +kernel
theorem d_M_fill_94 : decode b_M_fill 94 = .ok (.iastore, 1) := by decide +kernel
theorem d_M_fill_95 : decode b_M_fill 95 = .ok (.iinc 4 (1), 3) := by decide +kernel
theorem d_M_fill_98 : decode b_M_fill 98 = .ok (.goto (-87), 3) := by decide +kernel
theorem d_M_fill_101 : decode b_M_fill 101 = .ok (.return_, 1) := by decide +kernel
theorem d_M_spill_0 : decode b_M_spill 0 = .ok (.iconst (0), 1) := by decide +kernel
theorem d_M_spill_1 : decode b_M_spill 1 = .ok (.istore_n 3, 1) := by decide +kernel
theorem d_M_spill_2 : decode b_M_spill 2 = .ok (.iload_n 3, 1) := by decide +kernel
theorem d_M_spill_3 : decode b_M_spill 3 = .ok (.iload_n 2, 1) := by decide +kernel
theorem d_M_spill_4 : decode b_M_spill 4 = .ok (.if_icmp .ge (46), 3) := by decide +kernel
theorem d_M_spill_7 : decode b_M_spill 7 = .ok (.bipush (8), 2) := by decide +kernel
theorem d_M_spill_9 : decode b_M_spill 9 = .ok (.iload_n 3, 1) := by decide +kernel
theorem d_M_spill_10 : decode b_M_spill 10 = .ok (.bipush (30), 2) := by decide +kernel
theorem d_M_spill_12 : decode b_M_spill 12 = .ok (.idiv, 1) := by decide +kernel
theorem d_M_spill_13 : decode b_M_spill 13 = .ok (.imul, 1) := by decide +kernel
theorem d_M_spill_14 : decode b_M_spill 14 = .ok (.istore 4, 2) := by decide +kernel
theorem d_M_spill_16 : decode b_M_spill 16 = .ok (.aload_n 1, 1) := by decide +kernel
theorem d_M_spill_17 : decode b_M_spill 17 = .ok (.iload_n 3, 1) := by decide +kernel
theorem d_M_spill_18 : decode b_M_spill 18 = .ok (.aload_n 0, 1) := by decide +kernel
theorem d_M_spill_19 : decode b_M_spill 19 = .ok (.getfield 11, 3) := by decide +kernel
theorem d_M_spill_22 : decode b_M_spill 22 = .ok (.iload 4, 2) := by decide +kernel
theorem d_M_spill_24 : decode b_M_spill 24 = .ok (.getstatic 24, 3) := by decide +kernel
theorem d_M_spill_27 : decode b_M_spill 27 = .ok (.iload_n 3, 1) := by decide +kernel
theorem d_M_spill_28 : decode b_M_spill 28 = .ok (.bipush (30), 2) := by decide +kernel
theorem d_M_spill_30 : decode b_M_spill 30 = .ok (.irem, 1) := by decide +kernel
theorem d_M_spill_31 : decode b_M_spill 31 = .ok (.iaload, 1) := by decide +kernel
theorem d_M_spill_32 : decode b_M_spill 32 = .ok (.iadd, 1) := by decide +kernel
theorem d_M_spill_33 : decode b_M_spill 33 = .ok (.aaload, 1) := by decide +kernel
theorem d_M_spill_34 : decode b_M_spill 34 = .ok (.getstatic 27, 3) := by decide +kernel
theorem d_M_spill_37 : decode b_M_spill 37 = .ok (.iload_n 3, 1) := by decide +kernel
theorem d_M_spill_38 : decode b_M_spill 38 = .ok (.bipush (30), 2) := by decide +kernel
theorem d_M_spill_40 : decode b_M_spill 40 = .ok (.irem, 1) := by decide +kernel
theorem d_M_spill_41 : decode b_M_spill 41 = .ok (.iaload, 1) := by decide +kernel
theorem d_M_spill_42 : decode b_M_spill 42 = .ok (.iaload, 1) := by decide +kernel
theorem d_M_spill_43 : decode b_M_spill 43 = .ok (.iastore, 1) := by decide +kernel
theorem d_M_spill_44 : decode b_M_spill 44 = .ok (.iinc 3 (1), 3) := by decide +kernel
theorem d_M_spill_47 : decode b_M_spill 47 = .ok (.goto (-45), 3) := by decide +kernel
theorem d_M_spill_50 : decode b_M_spill 50 = .ok (.return_, 1) := by decide +kernel
theorem d_M_encode_0 : decode b_M_encode 0 = .ok (.bipush (8), 2) := by decide +kernel
theorem d_M_encode_2 : decode b_M_encode 2 = .ok (.aload_n 3, 1) := by decide +kernel
theorem d_M_encode_3 : decode b_M_encode 3 = .ok (.getfield 30, 3) := by decide +kernel
theorem d_M_encode_6 : decode b_M_encode 6 = .ok (.invokestatic 20, 3) := by decide +kernel
theorem d_M_encode_9 : decode b_M_encode 9 = .ok (.imul, 1) := by decide +kernel
theorem d_M_encode_10 : decode b_M_encode 10 = .ok (.istore 4, 2) := by decide +kernel
theorem d_M_encode_12 : decode b_M_encode 12 = .ok (.iconst (0), 1) := by decide +kernel
theorem d_M_encode_13 : decode b_M_encode 13 = .ok (.istore 5, 2) := by decide +kernel
theorem d_M_encode_15 : decode b_M_encode 15 = .ok (.iload 5, 2) := by decide +kernel
theorem d_M_encode_17 : decode b_M_encode 17 = .ok (.iload 4, 2) := by decide +kernel
theorem d_M_encode_19 : decode b_M_encode 19 = .ok (.if_icmp .ge (29), 3) := by decide +kernel
theorem d_M_encode_22 : decode b_M_encode 22 = .ok (.aload_n 3, 1) := by decide +kernel
theorem d_M_encode_23 : decode b_M_encode 23 = .ok (.getfield 36, 3) := by decide +kernel
theorem d_M_encode_26 : decode b_M_encode 26 = .ok (.iload 5, 2) := by decide +kernel
theorem d_M_encode_28 : decode b_M_encode 28 = .ok (.aload_n 1, 1) := by decide +kernel
theorem d_M_encode_29 : decode b_M_encode 29 = .ok (.iload_n 2, 1) := by decide +kernel
theorem d_M_encode_30 : decode b_M_encode 30 = .ok (.aload_n 0, 1) := by decide +kernel
theorem d_M_encode_31 : decode b_M_encode 31 = .ok (.getfield 11, 3) := by decide +kernel
theorem d_M_encode_34 : decode b_M_encode 34 = .ok (.iload 5, 2) := by decide +kernel
theorem d_M_encode_36 : decode b_M_encode 36 = .ok (.aaload, 1) := by decide +kernel
theorem d_M_encode_37 : decode b_M_encode 37 = .ok (.iconst (0), 1) := by decide +kernel
theorem d_M_encode_38 : decode b_M_encode 38 = .ok (.invokevirtual 39, 3) := by decide +kernel
theorem d_M_encode_41 : decode b_M_encode 41 = .ok (.iastore, 1) := by decide +kernel
theorem d_M_encode_42 : decode b_M_encode 42 = .ok (.iinc 5 (1), 3) := by decide +kernel
theorem d_M_encode_45 : decode b_M_encode 45 = .ok (.goto (-30), 3) := by decide +kernel
theorem d_M_encode_48 : decode b_M_encode 48 = .ok (.return_, 1) := by decide +kernel
theorem d_M_decode_0 : decode b_M_decode 0 = .ok (.bipush (8), 2) := by decide +kernel
theorem d_M_decode_2 : decode b_M_decode 2 = .ok (.iload 5, 2) := by decide +kernel
theorem d_M_decode_4 : decode b_M_decode 4 = .ok (.invokestatic 20, 3) := by decide +kernel
theorem d_M_decode_7 : decode b_M_decode 7 = .ok (.imul, 1) := by decide +kernel
theorem d_M_decode_8 : decode b_M_decode 8 = .ok (.iconst (1), 1) := by decide +kernel
theorem d_M_decode_9 : decode b_M_decode 9 = .ok (.isub, 1) := by decide +kernel
theorem d_M_decode_10 : decode b_M_decode 10 = .ok (.istore 6, 2) := by decide +kernel
theorem d_M_decode_12 : decode b_M_decode 12 = .ok (.iload 6, 2) := by decide +kernel
theorem d_M_decode_14 : decode b_M_decode 14 = .ok (.ifCond .lt (108), 3) := by decide +kernel
theorem d_M_decode_17 : decode b_M_decode 17 = .ok (.aload_n 0, 1) := by decide +kernel
theorem d_M_decode_18 : decode b_M_decode 18 = .ok (.aload_n 0, 1) := by decide +kernel
theorem d_M_decode_19 : decode b_M_decode 19 = .ok (.getfield 11, 3) := by decide +kernel
theorem d_M_decode_22 : decode b_M_decode 22 = .ok (.iload 6, 2) := by decide +kernel
theorem d_M_decode_24 : decode b_M_decode 24 = .ok (.aaload, 1) := by decide +kernel
theorem d_M_decode_25 : decode b_M_decode 25 = .ok (.invokevirtual 45, 3) := by decide +kernel
theorem d_M_decode_28 : decode b_M_decode 28 = .ok (.iconst (0), 1) := by decide +kernel
theorem d_M_decode_29 : decode b_M_decode 29 = .ok (.istore 7, 2) := by decide +kernel
theorem d_M_decode_31 : decode b_M_decode 31 = .ok (.iload 7, 2) := by decide +kernel
theorem d_M_decode_33 : decode b_M_decode 33 = .ok (.iconst (5), 1) := by decide +kernel
theorem d_M_decode_34 : decode b_M_decode 34 = .ok (.if_icmp .ge (62), 3) := by decide +kernel
theorem d_M_decode_37 : decode b_M_decode 37 = .ok (.aload_n 1, 1) := by decide +kernel
theorem d_M_decode_38 : decode b_M_decode 38 = .ok (.aload 4, 2) := by decide +kernel
theorem d_M_decode_40 : decode b_M_decode 40 = .ok (.getfield 49, 3) := by decide +kernel
theorem d_M_decode_43 : decode b_M_decode 43 = .ok (.iload 7, 2) := by decide +kernel
theorem d_M_decode_45 : decode b_M_decode 45 = .ok (.iaload, 1) := by decide +kernel
theorem d_M_decode_46 : decode b_M_decode 46 = .ok (.aload_n 0, 1) := by decide +kernel
theorem d_M_decode_47 : decode b_M_decode 47 = .ok (.getfield 11, 3) := by decide +kernel
theorem d_M_decode_50 : decode b_M_decode 50 = .ok (.iload 6, 2) := by decide +kernel
theorem d_M_decode_52 : decode b_M_decode 52 = .ok (.aaload, 1) := by decide +kernel
theorem d_M_decode_53 : decode b_M_decode 53 = .ok (.iconst (0), 1) := by decide +kernel
theorem d_M_decode_54 : decode b_M_decode 54 = .ok (.invokevirtual 39, 3) := by decide +kernel
theorem d_M_decode_57 : decode b_M_decode 57 = .ok (.istore 8, 2) := by decide +kernel
theorem d_M_decode_59 : decode b_M_decode 59 = .ok (.aload_n 0, 1) := by decide +kernel
theorem d_M_decode_60 : decode b_M_decode 60 = .ok (.getfield 16, 3) := by decide +kernel
theorem d_M_decode_63 : decode b_M_decode 63 = .ok (.iload 7, 2) := by decide +kernel
theorem d_M_decode_65 : decode b_M_decode 65 = .ok (.aload_n 2, 1) := by decide +kernel
theorem d_M_decode_66 : decode b_M_decode 66 = .ok (.aload 4, 2) := by decide +kernel
theorem d_M_decode_68 : decode b_M_decode 68 = .ok (.getfield 54, 3) := by decide +kernel
theorem d_M_decode_71 : decode b_M_decode 71 = .ok (.iload 7, 2) := by decide +kernel
theorem d_M_decode_73 : decode b_M_decode 73 = .ok (.iaload, 1) := by decide +kernel
theorem d_M_decode_74 : decode b_M_decode 74 = .ok (.aaload, 1) := by decide +kernel
theorem d_M_decode_75 : decode b_M_decode 75 = .ok (.getfield 57, 3) := by decide +kernel
theorem d_M_decode_78 : decode b_M_decode 78 = .ok (.iload_n 3, 1) := by decide +kernel
theorem d_M_decode_79 : decode b_M_decode 79 = .ok (.aaload, 1) := by decide +kernel
theorem d_M_decode_80 : decode b_M_decode 80 = .ok (.getfield 36, 3) := by decide +kernel
theorem d_M_decode_83 : decode b_M_decode 83 = .ok (.iload 6, 2) := by decide +kernel
theorem d_M_decode_85 : decode b_M_decode 85 = .ok (.iaload, 1) := by decide +kernel
theorem d_M_decode_86 : decode b_M_decode 86 = .ok (.iload 8, 2) := by decide +kernel
theorem d_M_decode_88 : decode b_M_decode 88 = .ok (.ixor, 1) := by decide +kernel
theorem d_M_decode_89 : decode b_M_decode 89 = .ok (.iastore, 1) := by decide +kernel
theorem d_M_decode_90 : decode b_M_decode 90 = .ok (.iinc 7 (1), 3) := by decide +kernel
theorem d_M_decode_93 : decode b_M_decode 93 = .ok (.goto (-62), 3) := by decide +kernel
theorem d_M_decode_96 : decode b_M_decode 96 = .ok (.aload_n 1, 1) := by decide +kernel
theorem d_M_decode_97 : decode b_M_decode 97 = .ok (.aload 4, 2) := by decide +kernel
theorem d_M_decode_99 : decode b_M_decode 99 = .ok (.getfield 49, 3) := by decide +kernel
theorem d_M_decode_102 : decode b_M_decode 102 = .ok (.aload_n 0, 1) := by decide +kernel
theorem d_M_decode_103 : decode b_M_decode 103 = .ok (.getfield 16, 3) := by decide +kernel
theorem d_M_decode_106 : decode b_M_decode 106 = .ok (.iconst (5), 1) := by decide +kernel
theorem d_M_decode_107 : decode b_M_decode 107 = .ok (.invokevirtual 63, 3) := by decide +kernel
theorem d_M_decode_110 : decode b_M_decode 110 = .ok (.aload_n 0, 1) := by decide +kernel
theorem d_M_decode_111 : decode b_M_decode 111 = .ok (.iload 6, 2) := by decide +kernel
theorem d_M_decode_113 : decode b_M_decode 113 = .ok (.invokevirtual 67, 3) := by decide +kernel
theorem d_M_decode_116 : decode b_M_decode 116 = .ok (.iinc 6 (-1), 3) := by decide +kernel
theorem d_M_decode_119 : decode b_M_decode 119 = .ok (.goto (-107), 3) := by decide +kernel
theorem d_M_decode_122 : decode b_M_decode 122 = .ok (.return_, 1) := by decide +kernel
theorem d_M_forgetFirstFive_0 : decode b_M_forgetFirstFive 0 = .ok (.iconst (0), 1) := by decide +kernel
theorem d_M_forgetFirstFive_1 : decode b_M_forgetFirstFive 1 = .ok (.istore_n 2, 1) := by decide +kernel
theorem d_M_forgetFirstFive_2 : decode b_M_forgetFirstFive 2 = .ok (.iload_n 2, 1) := by decide +kernel
theorem d_M_forgetFirstFive_3 : decode b_M_forgetFirstFive 3 = .ok (.iconst (5), 1) := by decide +kernel
theorem d_M_forgetFirstFive_4 : decode b_M_forgetFirstFive 4 = .ok (.if_icmp .ge (13), 3) := by decide +kernel
theorem d_M_forgetFirstFive_7 : decode b_M_forgetFirstFive 7 = .ok (.aload_n 1, 1) := by decide +kernel
theorem d_M_forgetFirstFive_8 : decode b_M_forgetFirstFive 8 = .ok (.iload_n 2, 1) := by decide +kernel
theorem d_M_forgetFirstFive_9 : decode b_M_forgetFirstFive 9 = .ok (.iconst (0), 1) := by decide +kernel
theorem d_M_forgetFirstFive_10 : decode b_M_forgetFirstFive 10 = .ok (.iastore, 1) := by decide +kernel
theorem d_M_forgetFirstFive_11 : decode b_M_forgetFirstFive 11 = .ok (.iinc 2 (1), 3) := by decide +kernel
theorem d_M_forgetFirstFive_14 : decode b_M_forgetFirstFive 14 = .ok (.goto (-12), 3) := by decide +kernel
theorem d_M_forgetFirstFive_17 : decode b_M_forgetFirstFive 17 = .ok (.return_, 1) := by decide +kernel
theorem d_M_setFirstFive_0 : decode b_M_setFirstFive 0 = .ok (.iload_n 1, 1) := by decide +kernel
theorem d_M_setFirstFive_1 : decode b_M_setFirstFive 1 = .ok (.bipush (8), 2) := by decide +kernel
theorem d_M_setFirstFive_3 : decode b_M_setFirstFive 3 = .ok (.irem, 1) := by decide +kernel
theorem d_M_setFirstFive_4 : decode b_M_setFirstFive 4 = .ok (.istore_n 2, 1) := by decide +kernel
theorem d_M_setFirstFive_5 : decode b_M_setFirstFive 5 = .ok (.iconst (0), 1) := by decide +kernel
theorem d_M_setFirstFive_6 : decode b_M_setFirstFive 6 = .ok (.istore_n 3, 1) := by decide +kernel
theorem d_M_setFirstFive_7 : decode b_M_setFirstFive 7 = .ok (.iload_n 3, 1) := by decide +kernel
theorem d_M_setFirstFive_8 : decode b_M_setFirstFive 8 = .ok (.iconst (5), 1) := by decide +kernel
theorem d_M_setFirstFive_9 : decode b_M_setFirstFive 9 = .ok (.if_icmp .ge (41), 3) := by decide +kernel
theorem d_M_setFirstFive_12 : decode b_M_setFirstFive 12 = .ok (.aload_n 0, 1) := by decide +kernel
theorem d_M_setFirstFive_13 : decode b_M_setFirstFive 13 = .ok (.getfield 11, 3) := by decide +kernel
theorem d_M_setFirstFive_16 : decode b_M_setFirstFive 16 = .ok (.iload_n 1, 1) := by decide +kernel
theorem d_M_setFirstFive_17 : decode b_M_setFirstFive 17 = .ok (.aaload, 1) := by decide +kernel
theorem d_M_setFirstFive_18 : decode b_M_setFirstFive 18 = .ok (.iload_n 3, 1) := by decide +kernel
theorem d_M_setFirstFive_19 : decode b_M_setFirstFive 19 = .ok (.aload_n 0, 1) := by decide +kernel
theorem d_M_setFirstFive_20 : decode b_M_setFirstFive 20 = .ok (.getfield 16, 3) := by decide +kernel
theorem d_M_setFirstFive_23 : decode b_M_setFirstFive 23 = .ok (.iload_n 3, 1) := by decide +kernel
theorem d_M_setFirstFive_24 : decode b_M_setFirstFive 24 = .ok (.iaload, 1) := by decide +kernel
theorem d_M_setFirstFive_25 : decode b_M_setFirstFive 25 = .ok (.iastore, 1) := by decide +kernel
theorem d_M_setFirstFive_26 : decode b_M_setFirstFive 26 = .ok (.aload_n 0, 1) := by decide +kernel
theorem d_M_setFirstFive_27 : decode b_M_setFirstFive 27 = .ok (.getfield 11, 3) := by decide +kernel
theorem d_M_setFirstFive_30 : decode b_M_setFirstFive 30 = .ok (.iload_n 1, 1) := by decide +kernel
theorem d_M_setFirstFive_31 : decode b_M_setFirstFive 31 = .ok (.iload_n 2, 1) := by decide +kernel
theorem d_M_setFirstFive_32 : decode b_M_setFirstFive 32 = .ok (.isub, 1) := by decide +kernel
theorem d_M_setFirstFive_33 : decode b_M_setFirstFive 33 = .ok (.iload_n 3, 1) := by decide +kernel
theorem d_M_setFirstFive_34 : decode b_M_setFirstFive 34 = .ok (.iadd, 1) := by decide +kernel
theorem d_M_setFirstFive_35 : decode b_M_setFirstFive 35 = .ok (.aaload, 1) := by decide +kernel
theorem d_M_setFirstFive_36 : decode b_M_setFirstFive 36 = .ok (.iload_n 2, 1) := by decide +kernel
theorem d_M_setFirstFive_37 : decode b_M_setFirstFive 37 = .ok (.aload_n 0, 1) := by decide +kernel
theorem d_M_setFirstFive_38 : decode b_M_setFirstFive 38 = .ok (.getfield 16, 3) := by decide +kernel
theorem d_M_setFirstFive_41 : decode b_M_setFirstFive 41 = .ok (.iload_n 3, 1) := by decide +kernel
theorem d_M_setFirstFive_42 : decode b_M_setFirstFive 42 = .ok (.iaload, 1) := by decide +kernel
theorem d_M_setFirstFive_43 : decode b_M_setFirstFive 43 = .ok (.iastore, 1) := by decide +kernel
theorem d_M_setFirstFive_44 : decode b_M_setFirstFive 44 = .ok (.iinc 3 (1), 3) := by decide +kernel
theorem d_M_setFirstFive_47 : decode b_M_setFirstFive 47 = .ok (.goto (-40), 3) := by decide +kernel
theorem d_M_setFirstFive_50 : decode b_M_setFirstFive 50 = .ok (.return_, 1) := by decide +kernel
theorem fw_G_11 : sm_fw RX0 11 0 0 := ⟨_, _, _, rfl, in_X0, by decide, sm_inT 33 (by decide +kernel) (by decide +kernel)⟩
theorem fw_G_15 : sm_fw RX0 15 0 1 := ⟨_, _, _, rfl, in_X0, by decide, sm_inT 34 (by decide +kernel) (by decide +kernel)⟩
theorem cw_G_18 : sm_cw RX0 18 y_G_times b_G_times 3 (some .int) 2 := ⟨sm_inT 365 (by decide +kernel) (by decide +kernel), sm_inT 2 (by decide +kernel) (by decide +kernel), sm_inT 362 (by decide +kernel) (by decide +kernel), ⟨by decide, by decide, by decide +kernel⟩, by decide⟩
theorem iw_G_times : Cond.instanceMethod y_G_times ∈ sm_ws := sm_inT 363 (by decide +kernel) (by decide +kernel)
theorem se_G_times : Cond.selects RX0 y_G_times y_G_times ∈ sm_ws := sm_inT 364 (by decide +kernel) (by decide +kernel)
theorem cw_G_22 : sm_cw RX0 22 y_G_over b_G_over 3 (some .int) 2 := ⟨sm_inT 468 (by decide +kernel) (by decide +kernel), sm_inT 2 (by decide +kernel) (by decide +kernel), sm_inT 465 (by decide +kernel) (by decide +kernel), ⟨by decide, by decide, by decide +kernel⟩, by decide⟩
theorem iw_G_over : Cond.instanceMethod y_G_over ∈ sm_ws := sm_inT 466 (by decide +kernel) (by decide +kernel)
theorem se_G_over : Cond.selects RX0 y_G_over y_G_over ∈ sm_ws := sm_inT 467 (by decide +kernel) (by decide +kernel)
theorem fw_I_16 : sm_fw RX1 16 1 2 := ⟨_, _, _, rfl, in_X1, by decide, sm_inT 140 (by decide +kernel) (by decide +kernel)⟩
theorem pw_I_16 : sm_pw RX1 16 1 2 .int := ⟨_, _, _, tyX1, rfl, in_X1, by decide, sm_inT 140 (by decide +kernel) (by decide +kernel), tyX1_ok, nmX1, rfl, by decide +kernel⟩
theorem pw_I_19 : sm_pw RX1 19 1 3 .int := ⟨_, _, _, tyX1, rfl, in_X1, by decide, sm_inT 142 (by decide +kernel) (by decide +kernel), tyX1_ok, nmX1, rfl, by decide +kernel⟩
theorem pw_I_22 : sm_pw RX1 22 1 4 .boolean := ⟨_, _, _, tyX1, rfl, in_X1, by decide, sm_inT 144 (by decide +kernel) (by decide +kernel), tyX1_ok, nmX1, rfl, by decide +kernel⟩
theorem pw_I_7 : sm_pw RX1 7 1 0 .int := ⟨_, _, _, tyX1, rfl, in_X1, by decide, sm_inT 136 (by decide +kernel) (by decide +kernel), tyX1_ok, nmX1, rfl, by decide +kernel⟩
theorem fw_I_19 : sm_fw RX1 19 1 3 := ⟨_, _, _, rfl, in_X1, by decide, sm_inT 142 (by decide +kernel) (by decide +kernel)⟩
theorem pw_I_13 : sm_pw RX1 13 1 1 .int := ⟨_, _, _, tyX1, rfl, in_X1, by decide, sm_inT 138 (by decide +kernel) (by decide +kernel), tyX1_ok, nmX1, rfl, by decide +kernel⟩
theorem pw_H_9 : sm_pw RX4 9 4 0 .int := ⟨_, _, _, tyX4, rfl, in_X4, by decide, sm_inT 93 (by decide +kernel) (by decide +kernel), tyX4_ok, nmX4, rfl, by decide +kernel⟩
theorem pw_H_15 : sm_pw RX4 15 4 1 .int := ⟨_, _, _, tyX4, rfl, in_X4, by decide, sm_inT 96 (by decide +kernel) (by decide +kernel), tyX4_ok, nmX4, rfl, by decide +kernel⟩
theorem pw_T_18 : sm_pw RX5 18 5 2 .int := ⟨_, _, _, tyX5, rfl, in_X5, by decide, sm_inT 72 (by decide +kernel) (by decide +kernel), tyX5_ok, nmX5, rfl, by decide +kernel⟩
theorem fw_T_18 : sm_fw RX5 18 5 2 := ⟨_, _, _, rfl, in_X5, by decide, sm_inT 72 (by decide +kernel) (by decide +kernel)⟩
theorem fw_T_9 : sm_fw RX5 9 5 0 := ⟨_, _, _, rfl, in_X5, by decide, sm_inT 66 (by decide +kernel) (by decide +kernel)⟩
theorem fw_T_15 : sm_fw RX5 15 5 1 := ⟨_, _, _, rfl, in_X5, by decide, sm_inT 69 (by decide +kernel) (by decide +kernel)⟩
theorem fw_N_11 : sm_fw RX3 11 3 1 := ⟨_, _, _, rfl, in_X3, by decide, sm_inT 111 (by decide +kernel) (by decide +kernel)⟩
theorem fw_N_17 : sm_fw RX3 17 3 2 := ⟨_, _, _, rfl, in_X3, by decide, sm_inT 114 (by decide +kernel) (by decide +kernel)⟩
theorem cw_N_32 : sm_cw RX3 32 y_H_become b_H_become 3 none 2 := ⟨sm_inT 353 (by decide +kernel) (by decide +kernel), sm_inT 6 (by decide +kernel) (by decide +kernel), sm_inT 374 (by decide +kernel) (by decide +kernel), ⟨by decide, by decide, by decide +kernel⟩, by decide⟩
theorem iw_H_become : Cond.instanceMethod y_H_become ∈ sm_ws := sm_inT 351 (by decide +kernel) (by decide +kernel)
theorem se_H_become : Cond.selects RX4 y_H_become y_H_become ∈ sm_ws := sm_inT 352 (by decide +kernel) (by decide +kernel)
theorem pw_N_20 : sm_pw RX3 20 3 3 .boolean := ⟨_, _, _, tyX3, rfl, in_X3, by decide, sm_inT 116 (by decide +kernel) (by decide +kernel), tyX3_ok, nmX3, rfl, by decide +kernel⟩
theorem fw_N_36 : sm_fw RX3 36 4 0 := ⟨_, _, _, rfl, in_X4, by decide, sm_inT 94 (by decide +kernel) (by decide +kernel)⟩
theorem sw_S_stripesOf : Cond.static y_S_stripesOf ∈ sm_ws := sm_inT 344 (by decide +kernel) (by decide +kernel)
theorem fw_M_11 : sm_fw RX2 11 2 0 := ⟨_, _, _, rfl, in_X2, by decide, sm_inT 49 (by decide +kernel) (by decide +kernel)⟩
theorem fw_M_30 : sm_fw RX2 30 4 1 := ⟨_, _, _, rfl, in_X4, by decide, sm_inT 97 (by decide +kernel) (by decide +kernel)⟩
theorem fw_M_36 : sm_fw RX2 36 4 2 := ⟨_, _, _, rfl, in_X4, by decide, sm_inT 100 (by decide +kernel) (by decide +kernel)⟩
theorem cw_M_39 : sm_cw RX2 39 y_G_valueAt b_G_valueAt 6 (some .int) 3 := ⟨sm_inT 361 (by decide +kernel) (by decide +kernel), sm_inT 2 (by decide +kernel) (by decide +kernel), sm_inT 358 (by decide +kernel) (by decide +kernel), ⟨by decide, by decide, by decide +kernel⟩, by decide⟩
theorem iw_G_valueAt : Cond.instanceMethod y_G_valueAt ∈ sm_ws := sm_inT 359 (by decide +kernel) (by decide +kernel)
theorem se_G_valueAt : Cond.selects RX0 y_G_valueAt y_G_valueAt ∈ sm_ws := sm_inT 360 (by decide +kernel) (by decide +kernel)
theorem cw_M_45 : sm_cw RX2 45 y_M_forgetFirstFive b_M_forgetFirstFive 3 none 1 := ⟨sm_inT 460 (by decide +kernel) (by decide +kernel), sm_inT 3 (by decide +kernel) (by decide +kernel), sm_inT 457 (by decide +kernel) (by decide +kernel), ⟨by decide, by decide, by decide +kernel⟩, by decide⟩
theorem iw_M_forgetFirstFive : Cond.instanceMethod y_M_forgetFirstFive ∈ sm_ws := sm_inT 459 (by decide +kernel) (by decide +kernel)
theorem se_M_forgetFirstFive : Cond.selects RX2 y_M_forgetFirstFive y_M_forgetFirstFive ∈ sm_ws := sm_inS 11 (by decide +kernel) (by decide +kernel)
theorem fw_M_49 : sm_fw RX2 49 5 1 := ⟨_, _, _, rfl, in_X5, by decide, sm_inT 70 (by decide +kernel) (by decide +kernel)⟩
theorem fw_M_16 : sm_fw RX2 16 2 1 := ⟨_, _, _, rfl, in_X2, by decide, sm_inT 50 (by decide +kernel) (by decide +kernel)⟩
theorem fw_M_54 : sm_fw RX2 54 5 0 := ⟨_, _, _, rfl, in_X5, by decide, sm_inT 67 (by decide +kernel) (by decide +kernel)⟩
theorem fw_M_57 : sm_fw RX2 57 3 1 := ⟨_, _, _, rfl, in_X3, by decide, sm_inT 112 (by decide +kernel) (by decide +kernel)⟩
theorem cw_M_63 : sm_cw RX2 63 y_G_interpolate b_G_interpolate 6 none 3 := ⟨sm_inT 464 (by decide +kernel) (by decide +kernel), sm_inT 2 (by decide +kernel) (by decide +kernel), sm_inT 461 (by decide +kernel) (by decide +kernel), ⟨by decide, by decide, by decide +kernel⟩, by decide⟩
theorem iw_G_interpolate : Cond.instanceMethod y_G_interpolate ∈ sm_ws := sm_inT 462 (by decide +kernel) (by decide +kernel)
theorem se_G_interpolate : Cond.selects RX0 y_G_interpolate y_G_interpolate ∈ sm_ws := sm_inT 463 (by decide +kernel) (by decide +kernel)
theorem cw_M_67 : sm_cw RX2 67 y_M_setFirstFive b_M_setFirstFive 4 none 1 := ⟨sm_inT 472 (by decide +kernel) (by decide +kernel), sm_inT 3 (by decide +kernel) (by decide +kernel), sm_inT 469 (by decide +kernel) (by decide +kernel), ⟨by decide, by decide, by decide +kernel⟩, by decide⟩
theorem iw_M_setFirstFive : Cond.instanceMethod y_M_setFirstFive ∈ sm_ws := sm_inT 471 (by decide +kernel) (by decide +kernel)
theorem se_M_setFirstFive : Cond.selects RX2 y_M_setFirstFive y_M_setFirstFive ∈ sm_ws := sm_inS 12 (by decide +kernel) (by decide +kernel)
