theorem d_S_load_0 : decode b_S_load 0 = .ok (.iload_n 1, 1) := by decide +kernel
theorem d_S_load_1 : decode b_S_load 1 = .ok (.bipush (60), 2) := by decide +kernel
theorem d_S_load_3 : decode b_S_load 3 = .ok (.invokestatic 63, 3) := by decide +kernel
theorem d_S_load_6 : decode b_S_load 6 = .ok (.iconst (0), 1) := by decide +kernel
theorem d_S_load_7 : decode b_S_load 7 = .ok (.istore_n 3, 1) := by decide +kernel
theorem d_S_load_8 : decode b_S_load 8 = .ok (.iload_n 3, 1) := by decide +kernel
theorem d_S_load_9 : decode b_S_load 9 = .ok (.iconst (4), 1) := by decide +kernel
theorem d_S_load_10 : decode b_S_load 10 = .ok (.if_icmp .ge (32), 3) := by decide +kernel
theorem d_S_load_13 : decode b_S_load 13 = .ok (.aload_n 0, 1) := by decide +kernel
theorem d_S_load_14 : decode b_S_load 14 = .ok (.getfield 46, 3) := by decide +kernel
theorem d_S_load_17 : decode b_S_load 17 = .ok (.iconst (4), 1) := by decide +kernel
theorem d_S_load_18 : decode b_S_load 18 = .ok (.iload_n 1, 1) := by decide +kernel
theorem d_S_load_19 : decode b_S_load 19 = .ok (.imul, 1) := by decide +kernel
theorem d_S_load_20 : decode b_S_load 20 = .ok (.iload_n 3, 1) := by decide +kernel
theorem d_S_load_21 : decode b_S_load 21 = .ok (.iadd, 1) := by decide +kernel
theorem d_S_load_22 : decode b_S_load 22 = .ok (.iload_n 2, 1) := by decide +kernel
theorem d_S_load_23 : decode b_S_load 23 = .ok (.bipush (24), 2) := by decide +kernel
theorem d_S_load_25 : decode b_S_load 25 = .ok (.bipush (8), 2) := by decide +kernel
theorem d_S_load_27 : decode b_S_load 27 = .ok (.iload_n 3, 1) := by decide +kernel
theorem d_S_load_28 : decode b_S_load 28 = .ok (.imul, 1) := by decide +kernel
theorem d_S_load_29 : decode b_S_load 29 = .ok (.isub, 1) := by decide +kernel
theorem d_S_load_30 : decode b_S_load 30 = .ok (.iushr, 1) := by decide +kernel
theorem d_S_load_31 : decode b_S_load 31 = .ok (.sipush (255), 3) := by decide +kernel
theorem d_S_load_34 : decode b_S_load 34 = .ok (.iand, 1) := by decide +kernel
theorem d_S_load_35 : decode b_S_load 35 = .ok (.iastore, 1) := by decide +kernel
theorem d_S_load_36 : decode b_S_load 36 = .ok (.iinc 3 (1), 3) := by decide +kernel
theorem d_S_load_39 : decode b_S_load 39 = .ok (.goto (-31), 3) := by decide +kernel
theorem d_S_load_42 : decode b_S_load 42 = .ok (.return_, 1) := by decide +kernel
theorem d_S_put_0 : decode b_S_put 0 = .ok (.iload_n 1, 1) := by decide +kernel
theorem d_S_put_1 : decode b_S_put 1 = .ok (.bipush (12), 2) := by decide +kernel
theorem d_S_put_3 : decode b_S_put 3 = .ok (.invokestatic 63, 3) := by decide +kernel
theorem d_S_put_6 : decode b_S_put 6 = .ok (.iload_n 2, 1) := by decide +kernel
theorem d_S_put_7 : decode b_S_put 7 = .ok (.ifCond .lt (10), 3) := by decide +kernel
theorem d_S_put_10 : decode b_S_put 10 = .ok (.iload_n 2, 1) := by decide +kernel
theorem d_S_put_11 : decode b_S_put 11 = .ok (.sipush (240), 3) := by decide +kernel
theorem d_S_put_14 : decode b_S_put 14 = .ok (.if_icmp .le (11), 3) := by decide +kernel
theorem d_S_put_17 : decode b_S_put 17 = .ok (.new 67, 3) := by decide +kernel
theorem d_S_put_20 : decode b_S_put 20 = .ok (.dup, 1) := by decide +kernel
theorem d_S_put_21 : decode b_S_put 21 = .ok (.invokespecial 69, 3) := by decide +kernel
theorem d_S_put_24 : decode b_S_put 24 = .ok (.athrow, 1) := by decide +kernel
theorem d_S_put_25 : decode b_S_put 25 = .ok (.aload_n 0, 1) := by decide +kernel
theorem d_S_put_26 : decode b_S_put 26 = .ok (.iload_n 1, 1) := by decide +kernel
theorem d_S_put_27 : decode b_S_put 27 = .ok (.invokevirtual 70, 3) := by decide +kernel
theorem d_S_put_30 : decode b_S_put 30 = .ok (.aload_n 0, 1) := by decide +kernel
theorem d_S_put_31 : decode b_S_put 31 = .ok (.invokevirtual 73, 3) := by decide +kernel
theorem d_S_put_34 : decode b_S_put 34 = .ok (.istore_n 3, 1) := by decide +kernel
theorem d_S_put_35 : decode b_S_put 35 = .ok (.iload_n 3, 1) := by decide +kernel
theorem d_S_put_36 : decode b_S_put 36 = .ok (.bipush (9), 2) := by decide +kernel
theorem d_S_put_38 : decode b_S_put 38 = .ok (.if_icmp .ge (11), 3) := by decide +kernel
theorem d_S_put_41 : decode b_S_put 41 = .ok (.new 77, 3) := by decide +kernel
theorem d_S_put_44 : decode b_S_put 44 = .ok (.dup, 1) := by decide +kernel
theorem d_S_put_45 : decode b_S_put 45 = .ok (.invokespecial 79, 3) := by decide +kernel
theorem d_S_put_48 : decode b_S_put 48 = .ok (.athrow, 1) := by decide +kernel
theorem d_S_put_49 : decode b_S_put 49 = .ok (.aload_n 0, 1) := by decide +kernel
theorem d_S_put_50 : decode b_S_put 50 = .ok (.getfield 31, 3) := by decide +kernel
theorem d_S_put_53 : decode b_S_put 53 = .ok (.iload_n 1, 1) := by decide +kernel
theorem d_S_put_54 : decode b_S_put 54 = .ok (.aaload, 1) := by decide +kernel
theorem d_S_put_55 : decode b_S_put 55 = .ok (.astore 4, 2) := by decide +kernel
theorem d_S_put_57 : decode b_S_put 57 = .ok (.aload 4, 2) := by decide +kernel
theorem d_S_put_59 : decode b_S_put 59 = .ok (.iload_n 2, 1) := by decide +kernel
theorem d_S_put_60 : decode b_S_put 60 = .ok (.invokevirtual 80, 3) := by decide +kernel
theorem d_S_put_63 : decode b_S_put 63 = .ok (.aload_n 0, 1) := by decide +kernel
theorem d_S_put_64 : decode b_S_put 64 = .ok (.iconst (2), 1) := by decide +kernel
theorem d_S_put_65 : decode b_S_put 65 = .ok (.iload_n 3, 1) := by decide +kernel
theorem d_S_put_66 : decode b_S_put 66 = .ok (.imul, 1) := by decide +kernel
theorem d_S_put_67 : decode b_S_put 67 = .ok (.invokevirtual 83, 3) := by decide +kernel
theorem d_S_put_70 : decode b_S_put 70 = .ok (.istore 5, 2) := by decide +kernel
theorem d_S_put_72 : decode b_S_put 72 = .ok (.aload_n 0, 1) := by decide +kernel
theorem d_S_put_73 : decode b_S_put 73 = .ok (.iload_n 1, 1) := by decide +kernel
theorem d_S_put_74 : decode b_S_put 74 = .ok (.iload 5, 2) := by decide +kernel
theorem d_S_put_76 : decode b_S_put 76 = .ok (.iload_n 3, 1) := by decide +kernel
theorem d_S_put_77 : decode b_S_put 77 = .ok (.if_icmp .ge (8), 3) := by decide +kernel
theorem d_S_put_80 : decode b_S_put 80 = .ok (.iload 5, 2) := by decide +kernel
theorem d_S_put_82 : decode b_S_put 82 = .ok (.goto (4), 3) := by decide +kernel
theorem d_S_put_85 : decode b_S_put 85 = .ok (.iload_n 3, 1) := by decide +kernel
theorem d_S_put_86 : decode b_S_put 86 = .ok (.invokevirtual 87, 3) := by decide +kernel
theorem d_S_put_89 : decode b_S_put 89 = .ok (.aload_n 0, 1) := by decide +kernel
theorem d_S_put_90 : decode b_S_put 90 = .ok (.iload_n 1, 1) := by decide +kernel
theorem d_S_put_91 : decode b_S_put 91 = .ok (.iload 5, 2) := by decide +kernel
theorem d_S_put_93 : decode b_S_put 93 = .ok (.iload_n 3, 1) := by decide +kernel
theorem d_S_put_94 : decode b_S_put 94 = .ok (.isub, 1) := by decide +kernel
theorem d_S_put_95 : decode b_S_put 95 = .ok (.invokevirtual 90, 3) := by decide +kernel
theorem d_S_put_98 : decode b_S_put 98 = .ok (.iload 5, 2) := by decide +kernel
theorem d_S_put_100 : decode b_S_put 100 = .ok (.iconst (2), 1) := by decide +kernel
theorem d_S_put_101 : decode b_S_put 101 = .ok (.iload_n 3, 1) := by decide +kernel
theorem d_S_put_102 : decode b_S_put 102 = .ok (.imul, 1) := by decide +kernel
theorem d_S_put_103 : decode b_S_put 103 = .ok (.if_icmp .ne (9), 3) := by decide +kernel
theorem d_S_put_106 : decode b_S_put 106 = .ok (.aload 4, 2) := by decide +kernel
theorem d_S_put_108 : decode b_S_put 108 = .ok (.iconst (1), 1) := by decide +kernel
theorem d_S_put_109 : decode b_S_put 109 = .ok (.invokevirtual 93, 3) := by decide +kernel
theorem d_S_put_112 : decode b_S_put 112 = .ok (.aload 4, 2) := by decide +kernel
theorem d_S_put_114 : decode b_S_put 114 = .ok (.getfield 97, 3) := by decide +kernel
theorem d_S_put_117 : decode b_S_put 117 = .ok (.ireturn, 1) := by decide +kernel
theorem d_S_cut_0 : decode b_S_cut 0 = .ok (.iload_n 1, 1) := by decide +kernel
theorem d_S_cut_1 : decode b_S_cut 1 = .ok (.ifCond .lt (9), 3) := by decide +kernel
theorem d_S_cut_4 : decode b_S_cut 4 = .ok (.iload_n 1, 1) := by decide +kernel
theorem d_S_cut_5 : decode b_S_cut 5 = .ok (.bipush (24), 2) := by decide +kernel
theorem d_S_cut_7 : decode b_S_cut 7 = .ok (.if_icmp .lt (11), 3) := by decide +kernel
theorem d_S_cut_10 : decode b_S_cut 10 = .ok (.new 67, 3) := by decide +kernel
theorem d_S_cut_13 : decode b_S_cut 13 = .ok (.dup, 1) := by decide +kernel
theorem d_S_cut_14 : decode b_S_cut 14 = .ok (.invokespecial 69, 3) := by decide +kernel
theorem d_S_cut_17 : decode b_S_cut 17 = .ok (.athrow, 1) := by decide +kernel
theorem d_S_cut_18 : decode b_S_cut 18 = .ok (.aload_n 0, 1) := by decide +kernel
theorem d_S_cut_19 : decode b_S_cut 19 = .ok (.iload_n 1, 1) := by decide +kernel
theorem d_S_cut_20 : decode b_S_cut 20 = .ok (.putfield 56, 3) := by decide +kernel
theorem d_S_cut_23 : decode b_S_cut 23 = .ok (.return_, 1) := by decide +kernel
theorem d_S_settle_0 : decode b_S_settle 0 = .ok (.iload_n 1, 1) := by decide +kernel
theorem d_S_settle_1 : decode b_S_settle 1 = .ok (.bipush (12), 2) := by decide +kernel
theorem d_S_settle_3 : decode b_S_settle 3 = .ok (.invokestatic 63, 3) := by decide +kernel
theorem d_S_settle_6 : decode b_S_settle 6 = .ok (.aload_n 0, 1) := by decide +kernel
theorem d_S_settle_7 : decode b_S_settle 7 = .ok (.getfield 31, 3) := by decide +kernel
theorem d_S_settle_10 : decode b_S_settle 10 = .ok (.iload_n 1, 1) := by decide +kernel
theorem d_S_settle_11 : decode b_S_settle 11 = .ok (.aaload, 1) := by decide +kernel
theorem d_S_settle_12 : decode b_S_settle 12 = .ok (.astore_n 2, 1) := by decide +kernel
theorem d_S_settle_13 : decode b_S_settle 13 = .ok (.aload_n 2, 1) := by decide +kernel
theorem d_S_settle_14 : decode b_S_settle 14 = .ok (.getfield 100, 3) := by decide +kernel
theorem d_S_settle_17 : decode b_S_settle 17 = .ok (.ifCond .ne (11), 3) := by decide +kernel
theorem d_S_settle_20 : decode b_S_settle 20 = .ok (.new 104, 3) := by decide +kernel
theorem d_S_settle_23 : decode b_S_settle 23 = .ok (.dup, 1) := by decide +kernel
theorem d_S_settle_24 : decode b_S_settle 24 = .ok (.invokespecial 106, 3) := by decide +kernel
theorem d_S_settle_27 : decode b_S_settle 27 = .ok (.athrow, 1) := by decide +kernel
theorem d_S_settle_28 : decode b_S_settle 28 = .ok (.aload_n 0, 1) := by decide +kernel
theorem d_S_settle_29 : decode b_S_settle 29 = .ok (.iload_n 1, 1) := by decide +kernel
theorem d_S_settle_30 : decode b_S_settle 30 = .ok (.aload_n 2, 1) := by decide +kernel
theorem d_S_settle_31 : decode b_S_settle 31 = .ok (.getfield 97, 3) := by decide +kernel
theorem d_S_settle_34 : decode b_S_settle 34 = .ok (.invokevirtual 107, 3) := by decide +kernel
theorem d_S_settle_37 : decode b_S_settle 37 = .ok (.istore_n 3, 1) := by decide +kernel
theorem d_S_settle_38 : decode b_S_settle 38 = .ok (.iload_n 3, 1) := by decide +kernel
theorem d_S_settle_39 : decode b_S_settle 39 = .ok (.ifCond .eq (10), 3) := by decide +kernel
theorem d_S_settle_42 : decode b_S_settle 42 = .ok (.aload_n 0, 1) := by decide +kernel
theorem d_S_settle_43 : decode b_S_settle 43 = .ok (.iload_n 1, 1) := by decide +kernel
theorem d_S_settle_44 : decode b_S_settle 44 = .ok (.bipush (12), 2) := by decide +kernel
theorem d_S_settle_46 : decode b_S_settle 46 = .ok (.invokevirtual 90, 3) := by decide +kernel
theorem d_S_settle_49 : decode b_S_settle 49 = .ok (.aload_n 0, 1) := by decide +kernel
theorem d_S_settle_50 : decode b_S_settle 50 = .ok (.iload_n 1, 1) := by decide +kernel
theorem d_S_settle_51 : decode b_S_settle 51 = .ok (.invokevirtual 111, 3) := by decide +kernel
theorem d_S_settle_54 : decode b_S_settle 54 = .ok (.aload_n 2, 1) := by decide +kernel
theorem d_S_settle_55 : decode b_S_settle 55 = .ok (.iload_n 3, 1) := by decide +kernel
theorem d_S_settle_56 : decode b_S_settle 56 = .ok (.invokevirtual 93, 3) := by decide +kernel
theorem d_S_settle_59 : decode b_S_settle 59 = .ok (.iload_n 3, 1) := by decide +kernel
theorem d_S_settle_60 : decode b_S_settle 60 = .ok (.ireturn, 1) := by decide +kernel
theorem d_S_get_0 : decode b_S_get 0 = .ok (.iload_n 1, 1) := by decide +kernel
theorem d_S_get_1 : decode b_S_get 1 = .ok (.bipush (12), 2) := by decide +kernel
theorem d_S_get_3 : decode b_S_get 3 = .ok (.invokestatic 63, 3) := by decide +kernel
theorem d_S_get_6 : decode b_S_get 6 = .ok (.iload_n 2, 1) := by decide +kernel
theorem d_S_get_7 : decode b_S_get 7 = .ok (.invokestatic 114, 3) := by decide +kernel
theorem d_S_get_10 : decode b_S_get 10 = .ok (.aload_n 0, 1) := by decide +kernel
theorem d_S_get_11 : decode b_S_get 11 = .ok (.iload_n 1, 1) := by decide +kernel
theorem d_S_get_12 : decode b_S_get 12 = .ok (.invokevirtual 70, 3) := by decide +kernel
theorem d_S_get_15 : decode b_S_get 15 = .ok (.aload_n 0, 1) := by decide +kernel
theorem d_S_get_16 : decode b_S_get 16 = .ok (.getfield 31, 3) := by decide +kernel
theorem d_S_get_19 : decode b_S_get 19 = .ok (.iload_n 1, 1) := by decide +kernel
theorem d_S_get_20 : decode b_S_get 20 = .ok (.aaload, 1) := by decide +kernel
theorem d_S_get_21 : decode b_S_get 21 = .ok (.getfield 117, 3) := by decide +kernel
theorem d_S_get_24 : decode b_S_get 24 = .ok (.istore_n 3, 1) := by decide +kernel
theorem d_S_get_25 : decode b_S_get 25 = .ok (.iload_n 3, 1) := by decide +kernel
theorem d_S_get_26 : decode b_S_get 26 = .ok (.ifCond .ne (11), 3) := by decide +kernel
theorem d_S_get_29 : decode b_S_get 29 = .ok (.new 120, 3) := by decide +kernel
theorem d_S_get_32 : decode b_S_get 32 = .ok (.dup, 1) := by decide +kernel
theorem d_S_get_33 : decode b_S_get 33 = .ok (.invokespecial 122, 3) := by decide +kernel
theorem d_S_get_36 : decode b_S_get 36 = .ok (.athrow, 1) := by decide +kernel
theorem d_S_get_37 : decode b_S_get 37 = .ok (.aload_n 0, 1) := by decide +kernel
theorem d_S_get_38 : decode b_S_get 38 = .ok (.iload_n 1, 1) := by decide +kernel
theorem d_S_get_39 : decode b_S_get 39 = .ok (.iload_n 2, 1) := by decide +kernel
theorem d_S_get_40 : decode b_S_get 40 = .ok (.invokevirtual 123, 3) := by decide +kernel
theorem d_S_get_43 : decode b_S_get 43 = .ok (.istore 4, 2) := by decide +kernel
theorem d_S_get_45 : decode b_S_get 45 = .ok (.iload 4, 2) := by decide +kernel
theorem d_S_get_47 : decode b_S_get 47 = .ok (.invokestatic 127, 3) := by decide +kernel
theorem d_S_get_50 : decode b_S_get 50 = .ok (.iconst (5), 1) := by decide +kernel
theorem d_S_get_51 : decode b_S_get 51 = .ok (.if_icmp .ge (11), 3) := by decide +kernel
theorem d_S_get_54 : decode b_S_get 54 = .ok (.new 77, 3) := by decide +kernel
theorem d_S_get_57 : decode b_S_get 57 = .ok (.dup, 1) := by decide +kernel
theorem d_S_get_58 : decode b_S_get 58 = .ok (.invokespecial 79, 3) := by decide +kernel
theorem d_S_get_61 : decode b_S_get 61 = .ok (.athrow, 1) := by decide +kernel
theorem d_S_get_62 : decode b_S_get 62 = .ok (.aload_n 0, 1) := by decide +kernel
theorem d_S_get_63 : decode b_S_get 63 = .ok (.iload 4, 2) := by decide +kernel
theorem d_S_get_65 : decode b_S_get 65 = .ok (.invokevirtual 132, 3) := by decide +kernel
theorem d_S_get_68 : decode b_S_get 68 = .ok (.aload_n 0, 1) := by decide +kernel
theorem d_S_get_69 : decode b_S_get 69 = .ok (.getfield 19, 3) := by decide +kernel
theorem d_S_get_72 : decode b_S_get 72 = .ok (.aload_n 0, 1) := by decide +kernel
theorem d_S_get_73 : decode b_S_get 73 = .ok (.getfield 12, 3) := by decide +kernel
theorem d_S_get_76 : decode b_S_get 76 = .ok (.aload_n 0, 1) := by decide +kernel
theorem d_S_get_77 : decode b_S_get 77 = .ok (.getfield 25, 3) := by decide +kernel
theorem d_S_get_80 : decode b_S_get 80 = .ok (.iload_n 1, 1) := by decide +kernel
theorem d_S_get_81 : decode b_S_get 81 = .ok (.aload_n 0, 1) := by decide +kernel
theorem d_S_get_82 : decode b_S_get 82 = .ok (.getfield 38, 3) := by decide +kernel
theorem d_S_get_85 : decode b_S_get 85 = .ok (.iload_n 3, 1) := by decide +kernel
theorem d_S_get_86 : decode b_S_get 86 = .ok (.invokevirtual 135, 3) := by decide +kernel
theorem d_S_get_89 : decode b_S_get 89 = .ok (.aload_n 0, 1) := by decide +kernel
theorem d_S_get_90 : decode b_S_get 90 = .ok (.getfield 19, 3) := by decide +kernel
theorem d_S_get_93 : decode b_S_get 93 = .ok (.aload_n 0, 1) := by decide +kernel
theorem d_S_get_94 : decode b_S_get 94 = .ok (.getfield 49, 3) := by decide +kernel
theorem d_S_get_97 : decode b_S_get 97 = .ok (.iload_n 3, 1) := by decide +kernel
theorem d_S_get_98 : decode b_S_get 98 = .ok (.invokevirtual 139, 3) := by decide +kernel
theorem d_S_get_101 : decode b_S_get 101 = .ok (.aload_n 0, 1) := by decide +kernel
theorem d_S_get_102 : decode b_S_get 102 = .ok (.iload_n 3, 1) := by decide +kernel
theorem d_S_get_103 : decode b_S_get 103 = .ok (.putfield 52, 3) := by decide +kernel
theorem d_S_get_106 : decode b_S_get 106 = .ok (.iload_n 3, 1) := by decide +kernel
theorem d_S_get_107 : decode b_S_get 107 = .ok (.ireturn, 1) := by decide +kernel
theorem d_S_out_0 : decode b_S_out 0 = .ok (.iload_n 1, 1) := by decide +kernel
theorem d_S_out_1 : decode b_S_out 1 = .ok (.aload_n 0, 1) := by decide +kernel
theorem d_S_out_2 : decode b_S_out 2 = .ok (.getfield 52, 3) := by decide +kernel
theorem d_S_out_5 : decode b_S_out 5 = .ok (.invokestatic 63, 3) := by decide +kernel
theorem d_S_out_8 : decode b_S_out 8 = .ok (.aload_n 0, 1) := by decide +kernel
theorem d_S_out_9 : decode b_S_out 9 = .ok (.getfield 49, 3) := by decide +kernel
theorem d_S_out_12 : decode b_S_out 12 = .ok (.iload_n 1, 1) := by decide +kernel
theorem d_S_out_13 : decode b_S_out 13 = .ok (.iaload, 1) := by decide +kernel
theorem d_S_out_14 : decode b_S_out 14 = .ok (.ireturn, 1) := by decide +kernel
theorem d_S_object_0 : decode b_S_object 0 = .ok (.iload_n 1, 1) := by decide +kernel
theorem d_S_object_1 : decode b_S_object 1 = .ok (.bipush (12), 2) := by decide +kernel
theorem d_S_object_3 : decode b_S_object 3 = .ok (.invokestatic 63, 3) := by decide +kernel
theorem d_S_object_6 : decode b_S_object 6 = .ok (.iload_n 2, 1) := by decide +kernel
theorem d_S_object_7 : decode b_S_object 7 = .ok (.iconst (3), 1) := by decide +kernel
theorem d_S_object_8 : decode b_S_object 8 = .ok (.invokestatic 63, 3) := by decide +kernel
theorem d_S_object_11 : decode b_S_object 11 = .ok (.aload_n 0, 1) := by decide +kernel
theorem d_S_object_12 : decode b_S_object 12 = .ok (.getfield 31, 3) := by decide +kernel
theorem d_S_object_15 : decode b_S_object 15 = .ok (.iload_n 1, 1) := by decide +kernel
theorem d_S_object_16 : decode b_S_object 16 = .ok (.aaload, 1) := by decide +kernel
theorem d_S_object_17 : decode b_S_object 17 = .ok (.astore_n 3, 1) := by decide +kernel
theorem d_S_object_18 : decode b_S_object 18 = .ok (.iload_n 2, 1) := by decide +kernel
theorem d_S_object_19 : decode b_S_object 19 = .ok (.ifCond .ne (8), 3) := by decide +kernel
theorem d_S_object_22 : decode b_S_object 22 = .ok (.aload_n 3, 1) := by decide +kernel
theorem d_S_object_23 : decode b_S_object 23 = .ok (.getfield 143, 3) := by decide +kernel
theorem d_S_object_26 : decode b_S_object 26 = .ok (.ireturn, 1) := by decide +kernel
theorem d_S_object_27 : decode b_S_object 27 = .ok (.iload_n 2, 1) := by decide +kernel
theorem d_S_object_28 : decode b_S_object 28 = .ok (.iconst (1), 1) := by decide +kernel
theorem d_S_object_29 : decode b_S_object 29 = .ok (.if_icmp .ne (8), 3) := by decide +kernel
theorem d_S_object_32 : decode b_S_object 32 = .ok (.aload_n 3, 1) := by decide +kernel
theorem d_S_object_33 : decode b_S_object 33 = .ok (.getfield 117, 3) := by decide +kernel
theorem d_S_object_36 : decode b_S_object 36 = .ok (.ireturn, 1) := by decide +kernel
theorem d_S_object_37 : decode b_S_object 37 = .ok (.aload_n 3, 1) := by decide +kernel
theorem d_S_object_38 : decode b_S_object 38 = .ok (.getfield 100, 3) := by decide +kernel
theorem d_S_object_41 : decode b_S_object 41 = .ok (.ifCond .eq (7), 3) := by decide +kernel
theorem d_S_object_44 : decode b_S_object 44 = .ok (.iconst (1), 1) := by decide +kernel
theorem d_S_object_45 : decode b_S_object 45 = .ok (.goto (4), 3) := by decide +kernel
theorem d_S_object_48 : decode b_S_object 48 = .ok (.iconst (0), 1) := by decide +kernel
theorem d_S_object_49 : decode b_S_object 49 = .ok (.ireturn, 1) := by decide +kernel
theorem d_S_fail_0 : decode b_S_fail 0 = .ok (.iload_n 1, 1) := by decide +kernel
theorem d_S_fail_1 : decode b_S_fail 1 = .ok (.bipush (12), 2) := by decide +kernel
theorem d_S_fail_3 : decode b_S_fail 3 = .ok (.invokestatic 63, 3) := by decide +kernel
theorem d_S_fail_6 : decode b_S_fail 6 = .ok (.aload_n 0, 1) := by decide +kernel
theorem d_S_fail_7 : decode b_S_fail 7 = .ok (.iload_n 1, 1) := by decide +kernel
theorem d_S_fail_8 : decode b_S_fail 8 = .ok (.invokevirtual 146, 3) := by decide +kernel
theorem d_S_fail_11 : decode b_S_fail 11 = .ok (.aload_n 0, 1) := by decide +kernel
theorem d_S_fail_12 : decode b_S_fail 12 = .ok (.getfield 25, 3) := by decide +kernel
theorem d_S_fail_15 : decode b_S_fail 15 = .ok (.iload_n 1, 1) := by decide +kernel
theorem d_S_fail_16 : decode b_S_fail 16 = .ok (.aaload, 1) := by decide +kernel
theorem d_S_fail_17 : decode b_S_fail 17 = .ok (.iconst (0), 1) := by decide +kernel
theorem d_S_fail_18 : decode b_S_fail 18 = .ok (.putfield 149, 3) := by decide +kernel
theorem d_S_fail_21 : decode b_S_fail 21 = .ok (.return_, 1) := by decide +kernel
theorem d_S_back_0 : decode b_S_back 0 = .ok (.iload_n 1, 1) := by decide +kernel
theorem d_S_back_1 : decode b_S_back 1 = .ok (.bipush (12), 2) := by decide +kernel
theorem d_S_back_3 : decode b_S_back 3 = .ok (.invokestatic 63, 3) := by decide +kernel
theorem d_S_back_6 : decode b_S_back 6 = .ok (.aload_n 0, 1) := by decide +kernel
theorem d_S_back_7 : decode b_S_back 7 = .ok (.getfield 25, 3) := by decide +kernel
theorem d_S_back_10 : decode b_S_back 10 = .ok (.iload_n 1, 1) := by decide +kernel
theorem d_S_back_11 : decode b_S_back 11 = .ok (.aaload, 1) := by decide +kernel
theorem d_S_back_12 : decode b_S_back 12 = .ok (.getfield 149, 3) := by decide +kernel
theorem d_S_back_15 : decode b_S_back 15 = .ok (.ifCond .eq (11), 3) := by decide +kernel
theorem d_S_back_18 : decode b_S_back 18 = .ok (.new 104, 3) := by decide +kernel
theorem d_S_back_21 : decode b_S_back 21 = .ok (.dup, 1) := by decide +kernel
theorem d_S_back_22 : decode b_S_back 22 = .ok (.invokespecial 106, 3) := by decide +kernel
theorem d_S_back_25 : decode b_S_back 25 = .ok (.athrow, 1) := by decide +kernel
theorem d_S_back_26 : decode b_S_back 26 = .ok (.aload_n 0, 1) := by decide +kernel
theorem d_S_back_27 : decode b_S_back 27 = .ok (.getfield 25, 3) := by decide +kernel
theorem d_S_back_30 : decode b_S_back 30 = .ok (.iload_n 1, 1) := by decide +kernel
theorem d_S_back_31 : decode b_S_back 31 = .ok (.aaload, 1) := by decide +kernel
theorem d_S_back_32 : decode b_S_back 32 = .ok (.iload_n 2, 1) := by decide +kernel
theorem d_S_back_33 : decode b_S_back 33 = .ok (.invokevirtual 152, 3) := by decide +kernel
theorem d_S_back_36 : decode b_S_back 36 = .ok (.return_, 1) := by decide +kernel
theorem d_S_rebuild_0 : decode b_S_rebuild 0 = .ok (.iload_n 1, 1) := by decide +kernel
theorem d_S_rebuild_1 : decode b_S_rebuild 1 = .ok (.bipush (12), 2) := by decide +kernel
theorem d_S_rebuild_3 : decode b_S_rebuild 3 = .ok (.invokestatic 63, 3) := by decide +kernel
theorem d_S_rebuild_6 : decode b_S_rebuild 6 = .ok (.iload_n 2, 1) := by decide +kernel
theorem d_S_rebuild_7 : decode b_S_rebuild 7 = .ok (.invokestatic 114, 3) := by decide +kernel
theorem d_S_rebuild_10 : decode b_S_rebuild 10 = .ok (.aload_n 0, 1) := by decide +kernel
theorem d_S_rebuild_11 : decode b_S_rebuild 11 = .ok (.iload_n 1, 1) := by decide +kernel
theorem d_S_rebuild_12 : decode b_S_rebuild 12 = .ok (.invokevirtual 146, 3) := by decide +kernel
theorem d_S_rebuild_15 : decode b_S_rebuild 15 = .ok (.iload_n 2, 1) := by decide +kernel
theorem d_S_rebuild_16 : decode b_S_rebuild 16 = .ok (.iconst (1), 1) := by decide +kernel
theorem d_S_rebuild_17 : decode b_S_rebuild 17 = .ok (.iload_n 1, 1) := by decide +kernel
theorem d_S_rebuild_18 : decode b_S_rebuild 18 = .ok (.ishl, 1) := by decide +kernel
theorem d_S_rebuild_19 : decode b_S_rebuild 19 = .ok (.iconst (-1), 1) := by decide +kernel
theorem d_S_rebuild_20 : decode b_S_rebuild 20 = .ok (.ixor, 1) := by decide +kernel
theorem d_S_rebuild_21 : decode b_S_rebuild 21 = .ok (.iand, 1) := by decide +kernel
theorem d_S_rebuild_22 : decode b_S_rebuild 22 = .ok (.istore_n 3, 1) := by decide +kernel
theorem d_S_rebuild_23 : decode b_S_rebuild 23 = .ok (.iconst (0), 1) := by decide +kernel
theorem d_S_rebuild_24 : decode b_S_rebuild 24 = .ok (.istore 4, 2) := by decide +kernel
theorem d_S_rebuild_26 : decode b_S_rebuild 26 = .ok (.iload 4, 2) := by decide +kernel
theorem d_S_rebuild_28 : decode b_S_rebuild 28 = .ok (.bipush (12), 2) := by decide +kernel
theorem d_S_rebuild_30 : decode b_S_rebuild 30 = .ok (.if_icmp .ge (37), 3) := by decide +kernel
theorem d_S_rebuild_33 : decode b_S_rebuild 33 = .ok (.aload_n 0, 1) := by decide +kernel
theorem d_S_rebuild_34 : decode b_S_rebuild 34 = .ok (.iload_n 1, 1) := by decide +kernel
theorem d_S_rebuild_35 : decode b_S_rebuild 35 = .ok (.iload 4, 2) := by decide +kernel
theorem d_S_rebuild_37 : decode b_S_rebuild 37 = .ok (.invokevirtual 155, 3) := by decide +kernel
theorem d_S_rebuild_40 : decode b_S_rebuild 40 = .ok (.ifCond .eq (21), 3) := by decide +kernel
theorem d_S_rebuild_43 : decode b_S_rebuild 43 = .ok (.aload_n 0, 1) := by decide +kernel
theorem d_S_rebuild_44 : decode b_S_rebuild 44 = .ok (.iload 4, 2) := by decide +kernel
theorem d_S_rebuild_46 : decode b_S_rebuild 46 = .ok (.iload_n 3, 1) := by decide +kernel
theorem d_S_rebuild_47 : decode b_S_rebuild 47 = .ok (.invokevirtual 158, 3) := by decide +kernel
theorem d_S_rebuild_50 : decode b_S_rebuild 50 = .ok (.ifCond .eq (11), 3) := by decide +kernel
theorem d_S_rebuild_53 : decode b_S_rebuild 53 = .ok (.new 77, 3) := by decide +kernel
theorem d_S_rebuild_56 : decode b_S_rebuild 56 = .ok (.dup, 1) := by decide +kernel
theorem d_S_rebuild_57 : decode b_S_rebuild 57 = .ok (.invokespecial 79, 3) := by decide +kernel
theorem d_S_rebuild_60 : decode b_S_rebuild 60 = .ok (.athrow, 1) := by decide +kernel
theorem d_S_rebuild_61 : decode b_S_rebuild 61 = .ok (.iinc 4 (1), 3) := by decide +kernel
theorem d_S_rebuild_64 : decode b_S_rebuild 64 = .ok (.goto (-38), 3) := by decide +kernel
theorem d_S_rebuild_67 : decode b_S_rebuild 67 = .ok (.iconst (0), 1) := by decide +kernel
theorem d_S_rebuild_68 : decode b_S_rebuild 68 = .ok (.istore 4, 2) := by decide +kernel
theorem d_S_rebuild_70 : decode b_S_rebuild 70 = .ok (.iconst (0), 1) := by decide +kernel
theorem d_S_rebuild_71 : decode b_S_rebuild 71 = .ok (.istore 5, 2) := by decide +kernel
theorem d_S_rebuild_73 : decode b_S_rebuild 73 = .ok (.iload 5, 2) := by decide +kernel
theorem d_S_rebuild_75 : decode b_S_rebuild 75 = .ok (.bipush (12), 2) := by decide +kernel
theorem d_S_rebuild_77 : decode b_S_rebuild 77 = .ok (.if_icmp .ge (37), 3) := by decide +kernel
theorem d_S_rebuild_80 : decode b_S_rebuild 80 = .ok (.aload_n 0, 1) := by decide +kernel
theorem d_S_rebuild_81 : decode b_S_rebuild 81 = .ok (.iload_n 1, 1) := by decide +kernel
theorem d_S_rebuild_82 : decode b_S_rebuild 82 = .ok (.iload 5, 2) := by decide +kernel
theorem d_S_rebuild_84 : decode b_S_rebuild 84 = .ok (.invokevirtual 155, 3) := by decide +kernel
theorem d_S_rebuild_87 : decode b_S_rebuild 87 = .ok (.ifCond .eq (21), 3) := by decide +kernel
theorem d_S_rebuild_90 : decode b_S_rebuild 90 = .ok (.iload 4, 2) := by decide +kernel
theorem d_S_rebuild_92 : decode b_S_rebuild 92 = .ok (.aload_n 0, 1) := by decide +kernel
theorem d_S_rebuild_93 : decode b_S_rebuild 93 = .ok (.aload_n 0, 1) := by decide +kernel
theorem d_S_rebuild_94 : decode b_S_rebuild 94 = .ok (.getfield 25, 3) := by decide +kernel
theorem d_S_rebuild_97 : decode b_S_rebuild 97 = .ok (.iload_n 1, 1) := by decide +kernel
theorem d_S_rebuild_98 : decode b_S_rebuild 98 = .ok (.aaload, 1) := by decide +kernel
theorem d_S_rebuild_99 : decode b_S_rebuild 99 = .ok (.iload 5, 2) := by decide +kernel
theorem d_S_rebuild_101 : decode b_S_rebuild 101 = .ok (.iload_n 3, 1) := by decide +kernel
theorem d_S_rebuild_102 : decode b_S_rebuild 102 = .ok (.invokevirtual 161, 3) := by decide +kernel
theorem d_S_rebuild_105 : decode b_S_rebuild 105 = .ok (.iadd, 1) := by decide +kernel
theorem d_S_rebuild_106 : decode b_S_rebuild 106 = .ok (.istore 4, 2) := by decide +kernel
theorem d_S_rebuild_108 : decode b_S_rebuild 108 = .ok (.iinc 5 (1), 3) := by decide +kernel
theorem d_S_rebuild_111 : decode b_S_rebuild 111 = .ok (.goto (-38), 3) := by decide +kernel
theorem d_S_rebuild_114 : decode b_S_rebuild 114 = .ok (.iload 4, 2) := by decide +kernel
theorem d_S_rebuild_116 : decode b_S_rebuild 116 = .ok (.ireturn, 1) := by decide +kernel
theorem d_S_node_0 : decode b_S_node 0 = .ok (.iload_n 1, 1) := by decide +kernel
theorem d_S_node_1 : decode b_S_node 1 = .ok (.bipush (12), 2) := by decide +kernel
theorem d_S_node_3 : decode b_S_node 3 = .ok (.invokestatic 63, 3) := by decide +kernel
theorem d_S_node_6 : decode b_S_node 6 = .ok (.iload_n 2, 1) := by decide +kernel
theorem d_S_node_7 : decode b_S_node 7 = .ok (.iconst (4), 1) := by decide +kernel
theorem d_S_node_8 : decode b_S_node 8 = .ok (.invokestatic 63, 3) := by decide +kernel
theorem d_S_node_11 : decode b_S_node 11 = .ok (.iload_n 2, 1) := by decide +kernel
theorem d_S_node_12 : decode b_S_node 12 = .ok (.ifCond .ne (21), 3) := by decide +kernel
theorem d_S_node_15 : decode b_S_node 15 = .ok (.aload_n 0, 1) := by decide +kernel
theorem d_S_node_16 : decode b_S_node 16 = .ok (.getfield 25, 3) := by decide +kernel
theorem d_S_node_19 : decode b_S_node 19 = .ok (.iload_n 1, 1) := by decide +kernel
theorem d_S_node_20 : decode b_S_node 20 = .ok (.aaload, 1) := by decide +kernel
theorem d_S_node_21 : decode b_S_node 21 = .ok (.getfield 149, 3) := by decide +kernel
theorem d_S_node_24 : decode b_S_node 24 = .ok (.ifCond .eq (7), 3) := by decide +kernel
theorem d_S_node_27 : decode b_S_node 27 = .ok (.iconst (1), 1) := by decide +kernel
theorem d_S_node_28 : decode b_S_node 28 = .ok (.goto (4), 3) := by decide +kernel
theorem d_S_node_31 : decode b_S_node 31 = .ok (.iconst (0), 1) := by decide +kernel
theorem d_S_node_32 : decode b_S_node 32 = .ok (.ireturn, 1) := by decide +kernel
theorem d_S_node_33 : decode b_S_node 33 = .ok (.iload_n 2, 1) := by decide +kernel
theorem d_S_node_34 : decode b_S_node 34 = .ok (.iconst (1), 1) := by decide +kernel
theorem d_S_node_35 : decode b_S_node 35 = .ok (.if_icmp .ne (13), 3) := by decide +kernel
theorem d_S_node_38 : decode b_S_node 38 = .ok (.aload_n 0, 1) := by decide +kernel
theorem d_S_node_39 : decode b_S_node 39 = .ok (.getfield 25, 3) := by decide +kernel
theorem d_S_node_42 : decode b_S_node 42 = .ok (.iload_n 1, 1) := by decide +kernel
theorem d_S_node_43 : decode b_S_node 43 = .ok (.aaload, 1) := by decide +kernel
theorem d_S_node_44 : decode b_S_node 44 = .ok (.getfield 165, 3) := by decide +kernel
theorem d_S_node_47 : decode b_S_node 47 = .ok (.ireturn, 1) := by decide +kernel
theorem d_S_node_48 : decode b_S_node 48 = .ok (.iload_n 2, 1) := by decide +kernel
theorem d_S_node_49 : decode b_S_node 49 = .ok (.iconst (2), 1) := by decide +kernel
theorem d_S_node_50 : decode b_S_node 50 = .ok (.if_icmp .ne (11), 3) := by decide +kernel
theorem d_S_node_53 : decode b_S_node 53 = .ok (.aload_n 0, 1) := by decide +kernel
theorem d_S_node_54 : decode b_S_node 54 = .ok (.iload_n 1, 1) := by decide +kernel
theorem d_S_node_55 : decode b_S_node 55 = .ok (.invokevirtual 168, 3) := by decide +kernel
theorem d_S_node_58 : decode b_S_node 58 = .ok (.goto (12), 3) := by decide +kernel
theorem d_S_node_61 : decode b_S_node 61 = .ok (.aload_n 0, 1) := by decide +kernel
theorem d_S_node_62 : decode b_S_node 62 = .ok (.getfield 25, 3) := by decide +kernel
theorem d_S_node_65 : decode b_S_node 65 = .ok (.iload_n 1, 1) := by decide +kernel
theorem d_S_node_66 : decode b_S_node 66 = .ok (.aaload, 1) := by decide +kernel
theorem d_S_node_67 : decode b_S_node 67 = .ok (.invokevirtual 171, 3) := by decide +kernel
theorem d_S_node_70 : decode b_S_node 70 = .ok (.ireturn, 1) := by decide +kernel
theorem d_S_share_0 : decode b_S_share 0 = .ok (.iload_n 1, 1) := by decide +kernel
theorem d_S_share_1 : decode b_S_share 1 = .ok (.bipush (12), 2) := by decide +kernel
theorem d_S_share_3 : decode b_S_share 3 = .ok (.invokestatic 63, 3) := by decide +kernel
theorem d_S_share_6 : decode b_S_share 6 = .ok (.iload_n 2, 1) := by decide +kernel
theorem d_S_share_7 : decode b_S_share 7 = .ok (.bipush (12), 2) := by decide +kernel
theorem d_S_share_9 : decode b_S_share 9 = .ok (.invokestatic 63, 3) := by decide +kernel
theorem d_S_share_12 : decode b_S_share 12 = .ok (.iload_n 3, 1) := by decide +kernel
theorem d_S_share_13 : decode b_S_share 13 = .ok (.iconst (2), 1) := by decide +kernel
theorem d_S_share_14 : decode b_S_share 14 = .ok (.invokestatic 63, 3) := by decide +kernel
theorem d_S_share_17 : decode b_S_share 17 = .ok (.aload_n 0, 1) := by decide +kernel
theorem d_S_share_18 : decode b_S_share 18 = .ok (.getfield 25, 3) := by decide +kernel
theorem d_S_share_21 : decode b_S_share 21 = .ok (.iload_n 1, 1) := by decide +kernel
theorem d_S_share_22 : decode b_S_share 22 = .ok (.aaload, 1) := by decide +kernel
theorem d_S_share_23 : decode b_S_share 23 = .ok (.getfield 174, 3) := by decide +kernel
theorem d_S_share_26 : decode b_S_share 26 = .ok (.iload_n 2, 1) := by decide +kernel
theorem d_S_share_27 : decode b_S_share 27 = .ok (.aaload, 1) := by decide +kernel
theorem d_S_share_28 : decode b_S_share 28 = .ok (.astore 4, 2) := by decide +kernel
theorem d_S_share_30 : decode b_S_share 30 = .ok (.iload_n 3, 1) := by decide +kernel
theorem d_S_share_31 : decode b_S_share 31 = .ok (.ifCond .ne (11), 3) := by decide +kernel
theorem d_S_share_34 : decode b_S_share 34 = .ok (.aload 4, 2) := by decide +kernel
theorem d_S_share_36 : decode b_S_share 36 = .ok (.getfield 178, 3) := by decide +kernel
theorem d_S_share_39 : decode b_S_share 39 = .ok (.goto (8), 3) := by decide +kernel
theorem d_S_share_42 : decode b_S_share 42 = .ok (.aload 4, 2) := by decide +kernel
theorem d_S_share_44 : decode b_S_share 44 = .ok (.getfield 183, 3) := by decide +kernel
theorem d_S_share_47 : decode b_S_share 47 = .ok (.ireturn, 1) := by decide +kernel
theorem d_S_byteAt_0 : decode b_S_byteAt 0 = .ok (.iload_n 1, 1) := by decide +kernel
theorem d_S_byteAt_1 : decode b_S_byteAt 1 = .ok (.bipush (12), 2) := by decide +kernel
theorem d_S_byteAt_3 : decode b_S_byteAt 3 = .ok (.invokestatic 63, 3) := by decide +kernel
theorem d_S_byteAt_6 : decode b_S_byteAt 6 = .ok (.iload_n 2, 1) := by decide +kernel
theorem d_S_byteAt_7 : decode b_S_byteAt 7 = .ok (.bipush (12), 2) := by decide +kernel
theorem d_S_byteAt_9 : decode b_S_byteAt 9 = .ok (.invokestatic 63, 3) := by decide +kernel
theorem d_S_byteAt_12 : decode b_S_byteAt 12 = .ok (.aload_n 0, 1) := by decide +kernel
theorem d_S_byteAt_13 : decode b_S_byteAt 13 = .ok (.getfield 25, 3) := by decide +kernel
theorem d_S_byteAt_16 : decode b_S_byteAt 16 = .ok (.iload_n 1, 1) := by decide +kernel
theorem d_S_byteAt_17 : decode b_S_byteAt 17 = .ok (.aaload, 1) := by decide +kernel
theorem d_S_byteAt_18 : decode b_S_byteAt 18 = .ok (.getfield 174, 3) := by decide +kernel
theorem d_S_byteAt_21 : decode b_S_byteAt 21 = .ok (.iload_n 2, 1) := by decide +kernel
theorem d_S_byteAt_22 : decode b_S_byteAt 22 = .ok (.aaload, 1) := by decide +kernel
theorem d_S_byteAt_23 : decode b_S_byteAt 23 = .ok (.astore 4, 2) := by decide +kernel
theorem d_S_byteAt_25 : decode b_S_byteAt 25 = .ok (.iload_n 3, 1) := by decide +kernel
theorem d_S_byteAt_26 : decode b_S_byteAt 26 = .ok (.bipush (8), 2) := by decide +kernel
theorem d_S_byteAt_28 : decode b_S_byteAt 28 = .ok (.aload 4, 2) := by decide +kernel
theorem d_S_byteAt_30 : decode b_S_byteAt 30 = .ok (.getfield 183, 3) := by decide +kernel
theorem d_S_byteAt_33 : decode b_S_byteAt 33 = .ok (.invokestatic 184, 3) := by decide +kernel
theorem d_S_byteAt_36 : decode b_S_byteAt 36 = .ok (.imul, 1) := by decide +kernel
theorem d_S_byteAt_37 : decode b_S_byteAt 37 = .ok (.invokestatic 63, 3) := by decide +kernel
theorem d_S_byteAt_40 : decode b_S_byteAt 40 = .ok (.aload 4, 2) := by decide +kernel
theorem d_S_byteAt_42 : decode b_S_byteAt 42 = .ok (.getfield 187, 3) := by decide +kernel
theorem d_S_byteAt_45 : decode b_S_byteAt 45 = .ok (.iload_n 3, 1) := by decide +kernel
theorem d_S_byteAt_46 : decode b_S_byteAt 46 = .ok (.iaload, 1) := by decide +kernel
theorem d_S_byteAt_47 : decode b_S_byteAt 47 = .ok (.ireturn, 1) := by decide +kernel
theorem d_S_field_0 : decode b_S_field 0 = .ok (.iload_n 3, 1) := by decide +kernel
theorem d_S_field_1 : decode b_S_field 1 = .ok (.iconst (2), 1) := by decide +kernel
theorem d_S_field_2 : decode b_S_field 2 = .ok (.invokestatic 63, 3) := by decide +kernel
theorem d_S_field_5 : decode b_S_field 5 = .ok (.iload_n 1, 1) := by decide +kernel
theorem d_S_field_6 : decode b_S_field 6 = .ok (.invokestatic 190, 3) := by decide +kernel
theorem d_S_field_9 : decode b_S_field 9 = .ok (.ifCond .eq (19), 3) := by decide +kernel
theorem d_S_field_12 : decode b_S_field 12 = .ok (.iload_n 2, 1) := by decide +kernel
theorem d_S_field_13 : decode b_S_field 13 = .ok (.invokestatic 190, 3) := by decide +kernel
theorem d_S_field_16 : decode b_S_field 16 = .ok (.ifCond .eq (12), 3) := by decide +kernel
theorem d_S_field_19 : decode b_S_field 19 = .ok (.iload_n 3, 1) := by decide +kernel
theorem d_S_field_20 : decode b_S_field 20 = .ok (.iconst (1), 1) := by decide +kernel
theorem d_S_field_21 : decode b_S_field 21 = .ok (.if_icmp .ne (15), 3) := by decide +kernel
theorem d_S_field_24 : decode b_S_field 24 = .ok (.iload_n 1, 1) := by decide +kernel
theorem d_S_field_25 : decode b_S_field 25 = .ok (.ifCond .ne (11), 3) := by decide +kernel
theorem d_S_field_28 : decode b_S_field 28 = .ok (.new 67, 3) := by decide +kernel
theorem d_S_field_31 : decode b_S_field 31 = .ok (.dup, 1) := by decide +kernel
theorem d_S_field_32 : decode b_S_field 32 = .ok (.invokespecial 69, 3) := by decide +kernel
theorem d_S_field_35 : decode b_S_field 35 = .ok (.athrow, 1) := by decide +kernel
theorem d_S_field_36 : decode b_S_field 36 = .ok (.iload_n 3, 1) := by decide +kernel
theorem d_S_field_37 : decode b_S_field 37 = .ok (.ifCond .ne (15), 3) := by decide +kernel
theorem d_S_field_40 : decode b_S_field 40 = .ok (.aload_n 0, 1) := by decide +kernel
theorem d_S_field_41 : decode b_S_field 41 = .ok (.getfield 12, 3) := by decide +kernel
theorem d_S_field_44 : decode b_S_field 44 = .ok (.iload_n 1, 1) := by decide +kernel
theorem d_S_field_45 : decode b_S_field 45 = .ok (.iload_n 2, 1) := by decide +kernel
theorem d_S_field_46 : decode b_S_field 46 = .ok (.invokevirtual 194, 3) := by decide +kernel
theorem d_S_field_49 : decode b_S_field 49 = .ok (.goto (12), 3) := by decide +kernel
theorem d_S_field_52 : decode b_S_field 52 = .ok (.aload_n 0, 1) := by decide +kernel
theorem d_S_field_53 : decode b_S_field 53 = .ok (.getfield 12, 3) := by decide +kernel
theorem d_S_field_56 : decode b_S_field 56 = .ok (.iload_n 2, 1) := by decide +kernel
theorem d_S_field_57 : decode b_S_field 57 = .ok (.iload_n 1, 1) := by decide +kernel
theorem d_S_field_58 : decode b_S_field 58 = .ok (.invokevirtual 197, 3) := by decide +kernel
theorem d_S_field_61 : decode b_S_field 61 = .ok (.ireturn, 1) := by decide +kernel
theorem d_S_checkIndex_0 : decode b_S_checkIndex 0 = .ok (.iload_n 0, 1) := by decide +kernel
theorem d_S_checkIndex_1 : decode b_S_checkIndex 1 = .ok (.ifCond .lt (8), 3) := by decide +kernel
theorem d_S_checkIndex_4 : decode b_S_checkIndex 4 = .ok (.iload_n 0, 1) := by decide +kernel
theorem d_S_checkIndex_5 : decode b_S_checkIndex 5 = .ok (.iload_n 1, 1) := by decide +kernel
theorem d_S_checkIndex_6 : decode b_S_checkIndex 6 = .ok (.if_icmp .lt (11), 3) := by decide +kernel
theorem d_S_checkIndex_9 : decode b_S_checkIndex 9 = .ok (.new 200, 3) := by decide +kernel
theorem d_S_checkIndex_12 : decode b_S_checkIndex 12 = .ok (.dup, 1) := by decide +kernel
theorem d_S_checkIndex_13 : decode b_S_checkIndex 13 = .ok (.invokespecial 202, 3) := by decide +kernel
theorem d_S_checkIndex_16 : decode b_S_checkIndex 16 = .ok (.athrow, 1) := by decide +kernel
theorem d_S_checkIndex_17 : decode b_S_checkIndex 17 = .ok (.return_, 1) := by decide +kernel
theorem d_S_checkMask_0 : decode b_S_checkMask 0 = .ok (.iload_n 0, 1) := by decide +kernel
theorem d_S_checkMask_1 : decode b_S_checkMask 1 = .ok (.sipush (-4096), 3) := by decide +kernel
theorem d_S_checkMask_4 : decode b_S_checkMask 4 = .ok (.iand, 1) := by decide +kernel
theorem d_S_checkMask_5 : decode b_S_checkMask 5 = .ok (.ifCond .eq (11), 3) := by decide +kernel
theorem d_S_checkMask_8 : decode b_S_checkMask 8 = .ok (.new 67, 3) := by decide +kernel
theorem d_S_checkMask_11 : decode b_S_checkMask 11 = .ok (.dup, 1) := by decide +kernel
theorem d_S_checkMask_12 : decode b_S_checkMask 12 = .ok (.invokespecial 69, 3) := by decide +kernel
theorem d_S_checkMask_15 : decode b_S_checkMask 15 = .ok (.athrow, 1) := by decide +kernel
theorem d_S_checkMask_16 : decode b_S_checkMask 16 = .ok (.return_, 1) := by decide +kernel
theorem d_S_checkNotStopped_0 : decode b_S_checkNotStopped 0 = .ok (.aload_n 0, 1) := by decide +kernel
theorem d_S_checkNotStopped_1 : decode b_S_checkNotStopped 1 = .ok (.getfield 31, 3) := by decide +kernel
theorem d_S_checkNotStopped_4 : decode b_S_checkNotStopped 4 = .ok (.iload_n 1, 1) := by decide +kernel
theorem d_S_checkNotStopped_5 : decode b_S_checkNotStopped 5 = .ok (.aaload, 1) := by decide +kernel
theorem d_S_checkNotStopped_6 : decode b_S_checkNotStopped 6 = .ok (.getfield 100, 3) := by decide +kernel
theorem d_S_checkNotStopped_9 : decode b_S_checkNotStopped 9 = .ok (.ifCond .eq (11), 3) := by decide +kernel
theorem d_S_checkNotStopped_12 : decode b_S_checkNotStopped 12 = .ok (.new 104, 3) := by decide +kernel
theorem d_S_checkNotStopped_15 : decode b_S_checkNotStopped 15 = .ok (.dup, 1) := by decide +kernel
theorem d_S_checkNotStopped_16 : decode b_S_checkNotStopped 16 = .ok (.invokespecial 106, 3) := by decide +kernel
theorem d_S_checkNotStopped_19 : decode b_S_checkNotStopped 19 = .ok (.athrow, 1) := by decide +kernel
theorem d_S_checkNotStopped_20 : decode b_S_checkNotStopped 20 = .ok (.return_, 1) := by decide +kernel
theorem d_S_checkLive_0 : decode b_S_checkLive 0 = .ok (.aload_n 0, 1) := by decide +kernel
theorem d_S_checkLive_1 : decode b_S_checkLive 1 = .ok (.getfield 25, 3) := by decide +kernel
theorem d_S_checkLive_4 : decode b_S_checkLive 4 = .ok (.iload_n 1, 1) := by decide +kernel
theorem d_S_checkLive_5 : decode b_S_checkLive 5 = .ok (.aaload, 1) := by decide +kernel
theorem d_S_checkLive_6 : decode b_S_checkLive 6 = .ok (.getfield 149, 3) := by decide +kernel
theorem d_S_checkLive_9 : decode b_S_checkLive 9 = .ok (.ifCond .ne (11), 3) := by decide +kernel
theorem d_S_checkLive_12 : decode b_S_checkLive 12 = .ok (.new 104, 3) := by decide +kernel
theorem d_S_checkLive_15 : decode b_S_checkLive 15 = .ok (.dup, 1) := by decide +kernel
theorem d_S_checkLive_16 : decode b_S_checkLive 16 = .ok (.invokespecial 106, 3) := by decide +kernel
theorem d_S_checkLive_19 : decode b_S_checkLive 19 = .ok (.athrow, 1) := by decide +kernel
theorem d_S_checkLive_20 : decode b_S_checkLive 20 = .ok (.return_, 1) := by decide +kernel
theorem d_S_isByte_0 : decode b_S_isByte 0 = .ok (.iload_n 0, 1) := by decide +kernel
theorem d_S_isByte_1 : decode b_S_isByte 1 = .ok (.ifCond .lt (14), 3) := by decide +kernel
theorem d_S_isByte_4 : decode b_S_isByte 4 = .ok (.iload_n 0, 1) := by decide +kernel
theorem d_S_isByte_5 : decode b_S_isByte 5 = .ok (.sipush (255), 3) := by decide +kernel
theorem d_S_isByte_8 : decode b_S_isByte 8 = .ok (.if_icmp .gt (7), 3) := by decide +kernel
theorem d_S_isByte_11 : decode b_S_isByte 11 = .ok (.iconst (1), 1) := by decide +kernel
theorem d_S_isByte_12 : decode b_S_isByte 12 = .ok (.goto (4), 3) := by decide +kernel
theorem d_S_isByte_15 : decode b_S_isByte 15 = .ok (.iconst (0), 1) := by decide +kernel
theorem d_S_isByte_16 : decode b_S_isByte 16 = .ok (.ireturn, 1) := by decide +kernel
theorem d_S_stripesOf_0 : decode b_S_stripesOf 0 = .ok (.iload_n 0, 1) := by decide +kernel
theorem d_S_stripesOf_1 : decode b_S_stripesOf 1 = .ok (.bipush (30), 2) := by decide +kernel
theorem d_S_stripesOf_3 : decode b_S_stripesOf 3 = .ok (.iadd, 1) := by decide +kernel
theorem d_S_stripesOf_4 : decode b_S_stripesOf 4 = .ok (.iconst (1), 1) := by decide +kernel
theorem d_S_stripesOf_5 : decode b_S_stripesOf 5 = .ok (.isub, 1) := by decide +kernel
theorem d_S_stripesOf_6 : decode b_S_stripesOf 6 = .ok (.bipush (30), 2) := by decide +kernel
theorem d_S_stripesOf_8 : decode b_S_stripesOf 8 = .ok (.idiv, 1) := by decide +kernel
theorem d_S_stripesOf_9 : decode b_S_stripesOf 9 = .ok (.ireturn, 1) := by decide +kernel
theorem d_S_countLive_0 : decode b_S_countLive 0 = .ok (.iconst (0), 1) := by decide +kernel
theorem d_S_countLive_1 : decode b_S_countLive 1 = .ok (.istore_n 1, 1) := by decide +kernel
theorem d_S_countLive_2 : decode b_S_countLive 2 = .ok (.iconst (0), 1) := by decide +kernel
theorem d_S_countLive_3 : decode b_S_countLive 3 = .ok (.istore_n 2, 1) := by decide +kernel
theorem d_S_countLive_4 : decode b_S_countLive 4 = .ok (.iload_n 2, 1) := by decide +kernel
theorem d_S_countLive_5 : decode b_S_countLive 5 = .ok (.bipush (12), 2) := by decide +kernel
theorem d_S_countLive_7 : decode b_S_countLive 7 = .ok (.if_icmp .ge (24), 3) := by decide +kernel
theorem d_S_countLive_10 : decode b_S_countLive 10 = .ok (.aload_n 0, 1) := by decide +kernel
theorem d_S_countLive_11 : decode b_S_countLive 11 = .ok (.getfield 25, 3) := by decide +kernel
theorem d_S_countLive_14 : decode b_S_countLive 14 = .ok (.iload_n 2, 1) := by decide +kernel
theorem d_S_countLive_15 : decode b_S_countLive 15 = .ok (.aaload, 1) := by decide +kernel
theorem d_S_countLive_16 : decode b_S_countLive 16 = .ok (.getfield 149, 3) := by decide +kernel
theorem d_S_countLive_19 : decode b_S_countLive 19 = .ok (.ifCond .eq (6), 3) := by decide +kernel
theorem d_S_countLive_22 : decode b_S_countLive 22 = .ok (.iinc 1 (1), 3) := by decide +kernel
theorem d_S_countLive_25 : decode b_S_countLive 25 = .ok (.iinc 2 (1), 3) := by decide +kernel
theorem d_S_countLive_28 : decode b_S_countLive 28 = .ok (.goto (-24), 3) := by decide +kernel
theorem d_S_countLive_31 : decode b_S_countLive 31 = .ok (.iload_n 1, 1) := by decide +kernel
theorem d_S_countLive_32 : decode b_S_countLive 32 = .ok (.ireturn, 1) := by decide +kernel
theorem d_S_isFresh_0 : decode b_S_isFresh 0 = .ok (.aload_n 0, 1) := by decide +kernel
theorem d_S_isFresh_1 : decode b_S_isFresh 1 = .ok (.getfield 25, 3) := by decide +kernel
theorem d_S_isFresh_4 : decode b_S_isFresh 4 = .ok (.iload_n 1, 1) := by decide +kernel
theorem d_S_isFresh_5 : decode b_S_isFresh 5 = .ok (.aaload, 1) := by decide +kernel
theorem d_S_isFresh_6 : decode b_S_isFresh 6 = .ok (.getfield 174, 3) := by decide +kernel
theorem d_S_isFresh_9 : decode b_S_isFresh 9 = .ok (.iload_n 2, 1) := by decide +kernel
theorem d_S_isFresh_10 : decode b_S_isFresh 10 = .ok (.aaload, 1) := by decide +kernel
theorem d_S_isFresh_11 : decode b_S_isFresh 11 = .ok (.getfield 178, 3) := by decide +kernel
theorem d_S_isFresh_14 : decode b_S_isFresh 14 = .ok (.aload_n 0, 1) := by decide +kernel
theorem d_S_isFresh_15 : decode b_S_isFresh 15 = .ok (.getfield 31, 3) := by decide +kernel
theorem d_S_isFresh_18 : decode b_S_isFresh 18 = .ok (.iload_n 2, 1) := by decide +kernel
theorem d_S_isFresh_19 : decode b_S_isFresh 19 = .ok (.aaload, 1) := by decide +kernel
theorem d_S_isFresh_20 : decode b_S_isFresh 20 = .ok (.getfield 143, 3) := by decide +kernel
theorem d_S_isFresh_23 : decode b_S_isFresh 23 = .ok (.if_icmp .ne (7), 3) := by decide +kernel
theorem d_S_isFresh_26 : decode b_S_isFresh 26 = .ok (.iconst (1), 1) := by decide +kernel
theorem d_S_isFresh_27 : decode b_S_isFresh 27 = .ok (.goto (4), 3) := by decide +kernel
theorem d_S_isFresh_30 : decode b_S_isFresh 30 = .ok (.iconst (0), 1) := by decide +kernel
theorem d_S_isFresh_31 : decode b_S_isFresh 31 = .ok (.ireturn, 1) := by decide +kernel
theorem d_S_countFresh_0 : decode b_S_countFresh 0 = .ok (.iconst (0), 1) := by decide +kernel
theorem d_S_countFresh_1 : decode b_S_countFresh 1 = .ok (.istore_n 2, 1) := by decide +kernel
theorem d_S_countFresh_2 : decode b_S_countFresh 2 = .ok (.iconst (0), 1) := by decide +kernel
theorem d_S_countFresh_3 : decode b_S_countFresh 3 = .ok (.istore_n 3, 1) := by decide +kernel
theorem d_S_countFresh_4 : decode b_S_countFresh 4 = .ok (.iload_n 3, 1) := by decide +kernel
theorem d_S_countFresh_5 : decode b_S_countFresh 5 = .ok (.bipush (12), 2) := by decide +kernel
theorem d_S_countFresh_7 : decode b_S_countFresh 7 = .ok (.if_icmp .ge (21), 3) := by decide +kernel
theorem d_S_countFresh_10 : decode b_S_countFresh 10 = .ok (.aload_n 0, 1) := by decide +kernel
theorem d_S_countFresh_11 : decode b_S_countFresh 11 = .ok (.iload_n 1, 1) := by decide +kernel
theorem d_S_countFresh_12 : decode b_S_countFresh 12 = .ok (.iload_n 3, 1) := by decide +kernel
theorem d_S_countFresh_13 : decode b_S_countFresh 13 = .ok (.invokevirtual 203, 3) := by decide +kernel
theorem d_S_countFresh_16 : decode b_S_countFresh 16 = .ok (.ifCond .eq (6), 3) := by decide +kernel
theorem d_S_countFresh_19 : decode b_S_countFresh 19 = .ok (.iinc 2 (1), 3) := by decide +kernel
theorem d_S_countFresh_22 : decode b_S_countFresh 22 = .ok (.iinc 3 (1), 3) := by decide +kernel
theorem d_S_countFresh_25 : decode b_S_countFresh 25 = .ok (.goto (-21), 3) := by decide +kernel
theorem d_S_countFresh_28 : decode b_S_countFresh 28 = .ok (.iload_n 2, 1) := by decide +kernel
theorem d_S_countFresh_29 : decode b_S_countFresh 29 = .ok (.ireturn, 1) := by decide +kernel
theorem d_S_liveAndFresh_0 : decode b_S_liveAndFresh 0 = .ok (.iconst (0), 1) := by decide +kernel
theorem d_S_liveAndFresh_1 : decode b_S_liveAndFresh 1 = .ok (.istore_n 3, 1) := by decide +kernel
theorem d_S_liveAndFresh_2 : decode b_S_liveAndFresh 2 = .ok (.iconst (0), 1) := by decide +kernel
theorem d_S_liveAndFresh_3 : decode b_S_liveAndFresh 3 = .ok (.istore 4, 2) := by decide +kernel
theorem d_S_liveAndFresh_5 : decode b_S_liveAndFresh 5 = .ok (.iload 4, 2) := by decide +kernel
theorem d_S_liveAndFresh_7 : decode b_S_liveAndFresh 7 = .ok (.bipush (12), 2) := by decide +kernel
theorem d_S_liveAndFresh_9 : decode b_S_liveAndFresh 9 = .ok (.if_icmp .ge (49), 3) := by decide +kernel
theorem d_S_liveAndFresh_12 : decode b_S_liveAndFresh 12 = .ok (.iload_n 2, 1) := by decide +kernel
theorem d_S_liveAndFresh_13 : decode b_S_liveAndFresh 13 = .ok (.iload 4, 2) := by decide +kernel
theorem d_S_liveAndFresh_15 : decode b_S_liveAndFresh 15 = .ok (.ishr, 1) := by decide +kernel
theorem d_S_liveAndFresh_16 : decode b_S_liveAndFresh 16 = .ok (.iconst (1), 1) := by decide +kernel
theorem d_S_liveAndFresh_17 : decode b_S_liveAndFresh 17 = .ok (.iand, 1) := by decide +kernel
theorem d_S_liveAndFresh_18 : decode b_S_liveAndFresh 18 = .ok (.iconst (1), 1) := by decide +kernel
theorem d_S_liveAndFresh_19 : decode b_S_liveAndFresh 19 = .ok (.if_icmp .ne (33), 3) := by decide +kernel
theorem d_S_liveAndFresh_22 : decode b_S_liveAndFresh 22 = .ok (.aload_n 0, 1) := by decide +kernel
theorem d_S_liveAndFresh_23 : decode b_S_liveAndFresh 23 = .ok (.getfield 25, 3) := by decide +kernel
theorem d_S_liveAndFresh_26 : decode b_S_liveAndFresh 26 = .ok (.iload 4, 2) := by decide +kernel
theorem d_S_liveAndFresh_28 : decode b_S_liveAndFresh 28 = .ok (.aaload, 1) := by decide +kernel
theorem d_S_liveAndFresh_29 : decode b_S_liveAndFresh 29 = .ok (.getfield 149, 3) := by decide +kernel
theorem d_S_liveAndFresh_32 : decode b_S_liveAndFresh 32 = .ok (.ifCond .eq (20), 3) := by decide +kernel
theorem d_S_liveAndFresh_35 : decode b_S_liveAndFresh 35 = .ok (.aload_n 0, 1) := by decide +kernel
theorem d_S_liveAndFresh_36 : decode b_S_liveAndFresh 36 = .ok (.iload 4, 2) := by decide +kernel
theorem d_S_liveAndFresh_38 : decode b_S_liveAndFresh 38 = .ok (.iload_n 1, 1) := by decide +kernel
theorem d_S_liveAndFresh_39 : decode b_S_liveAndFresh 39 = .ok (.invokevirtual 203, 3) := by decide +kernel
theorem d_S_liveAndFresh_42 : decode b_S_liveAndFresh 42 = .ok (.ifCond .eq (10), 3) := by decide +kernel
theorem d_S_liveAndFresh_45 : decode b_S_liveAndFresh 45 = .ok (.iload_n 3, 1) := by decide +kernel
theorem d_S_liveAndFresh_46 : decode b_S_liveAndFresh 46 = .ok (.iconst (1), 1) := by decide +kernel
theorem d_S_liveAndFresh_47 : decode b_S_liveAndFresh 47 = .ok (.iload 4, 2) := by decide +kernel
theorem d_S_liveAndFresh_49 : decode b_S_liveAndFresh 49 = .ok (.ishl, 1) := by decide +kernel
theorem d_S_liveAndFresh_50 : decode b_S_liveAndFresh 50 = .ok (.ior, 1) := by decide +kernel
theorem d_S_liveAndFresh_51 : decode b_S_liveAndFresh 51 = .ok (.istore_n 3, 1) := by decide +kernel
theorem d_S_liveAndFresh_52 : decode b_S_liveAndFresh 52 = .ok (.iinc 4 (1), 3) := by decide +kernel
theorem d_S_liveAndFresh_55 : decode b_S_liveAndFresh 55 = .ok (.goto (-50), 3) := by decide +kernel
theorem d_S_liveAndFresh_58 : decode b_S_liveAndFresh 58 = .ok (.iload_n 3, 1) := by decide +kernel
theorem d_S_liveAndFresh_59 : decode b_S_liveAndFresh 59 = .ok (.ireturn, 1) := by decide +kernel
theorem d_S_takeMessages_0 : decode b_S_takeMessages 0 = .ok (.aload_n 0, 1) := by decide +kernel
theorem d_S_takeMessages_1 : decode b_S_takeMessages 1 = .ok (.getfield 56, 3) := by decide +kernel
theorem d_S_takeMessages_4 : decode b_S_takeMessages 4 = .ok (.istore_n 2, 1) := by decide +kernel
theorem d_S_takeMessages_5 : decode b_S_takeMessages 5 = .ok (.aload_n 0, 1) := by decide +kernel
theorem d_S_takeMessages_6 : decode b_S_takeMessages 6 = .ok (.iconst (-1), 1) := by decide +kernel
theorem d_S_takeMessages_7 : decode b_S_takeMessages 7 = .ok (.putfield 56, 3) := by decide +kernel
theorem d_S_takeMessages_10 : decode b_S_takeMessages 10 = .ok (.iload_n 2, 1) := by decide +kernel
theorem d_S_takeMessages_11 : decode b_S_takeMessages 11 = .ok (.iconst (-1), 1) := by decide +kernel
theorem d_S_takeMessages_12 : decode b_S_takeMessages 12 = .ok (.if_icmp .eq (8), 3) := by decide +kernel
theorem d_S_takeMessages_15 : decode b_S_takeMessages 15 = .ok (.iload_n 2, 1) := by decide +kernel
theorem d_S_takeMessages_16 : decode b_S_takeMessages 16 = .ok (.iload_n 1, 1) := by decide +kernel
theorem d_S_takeMessages_17 : decode b_S_takeMessages 17 = .ok (.if_icmp .le (7), 3) := by decide +kernel
theorem d_S_takeMessages_20 : decode b_S_takeMessages 20 = .ok (.iload_n 1, 1) := by decide +kernel
theorem d_S_takeMessages_21 : decode b_S_takeMessages 21 = .ok (.goto (4), 3) := by decide +kernel
theorem d_S_takeMessages_24 : decode b_S_takeMessages 24 = .ok (.iload_n 2, 1) := by decide +kernel
theorem d_S_takeMessages_25 : decode b_S_takeMessages 25 = .ok (.ireturn, 1) := by decide +kernel
theorem d_S_sendShadows_0 : decode b_S_sendShadows 0 = .ok (.aload_n 0, 1) := by decide +kernel
theorem d_S_sendShadows_1 : decode b_S_sendShadows 1 = .ok (.getfield 31, 3) := by decide +kernel
theorem d_S_sendShadows_4 : decode b_S_sendShadows 4 = .ok (.iload_n 1, 1) := by decide +kernel
theorem d_S_sendShadows_5 : decode b_S_sendShadows 5 = .ok (.aaload, 1) := by decide +kernel
theorem d_S_sendShadows_6 : decode b_S_sendShadows 6 = .ok (.astore_n 3, 1) := by decide +kernel
theorem d_S_sendShadows_7 : decode b_S_sendShadows 7 = .ok (.aload_n 0, 1) := by decide +kernel
theorem d_S_sendShadows_8 : decode b_S_sendShadows 8 = .ok (.getfield 19, 3) := by decide +kernel
theorem d_S_sendShadows_11 : decode b_S_sendShadows 11 = .ok (.aload_n 0, 1) := by decide +kernel
theorem d_S_sendShadows_12 : decode b_S_sendShadows 12 = .ok (.getfield 46, 3) := by decide +kernel
theorem d_S_sendShadows_15 : decode b_S_sendShadows 15 = .ok (.aload_n 3, 1) := by decide +kernel
theorem d_S_sendShadows_16 : decode b_S_sendShadows 16 = .ok (.getfield 206, 3) := by decide +kernel
theorem d_S_sendShadows_19 : decode b_S_sendShadows 19 = .ok (.invokevirtual 209, 3) := by decide +kernel
theorem d_S_sendShadows_22 : decode b_S_sendShadows 22 = .ok (.iload_n 2, 1) := by decide +kernel
theorem d_S_sendShadows_23 : decode b_S_sendShadows 23 = .ok (.istore 4, 2) := by decide +kernel
theorem d_S_sendShadows_25 : decode b_S_sendShadows 25 = .ok (.iconst (0), 1) := by decide +kernel
theorem d_S_sendShadows_26 : decode b_S_sendShadows 26 = .ok (.istore 5, 2) := by decide +kernel
theorem d_S_sendShadows_28 : decode b_S_sendShadows 28 = .ok (.iload 5, 2) := by decide +kernel
theorem d_S_sendShadows_30 : decode b_S_sendShadows 30 = .ok (.bipush (12), 2) := by decide +kernel
theorem d_S_sendShadows_32 : decode b_S_sendShadows 32 = .ok (.if_icmp .ge (80), 3) := by decide +kernel
theorem d_S_sendShadows_35 : decode b_S_sendShadows 35 = .ok (.iload 4, 2) := by decide +kernel
theorem d_S_sendShadows_37 : decode b_S_sendShadows 37 = .ok (.ifCond .le (75), 3) := by decide +kernel
theorem d_S_sendShadows_40 : decode b_S_sendShadows 40 = .ok (.aload_n 0, 1) := by decide +kernel
theorem d_S_sendShadows_41 : decode b_S_sendShadows 41 = .ok (.getfield 25, 3) := by decide +kernel
theorem d_S_sendShadows_44 : decode b_S_sendShadows 44 = .ok (.iload 5, 2) := by decide +kernel
theorem d_S_sendShadows_46 : decode b_S_sendShadows 46 = .ok (.aaload, 1) := by decide +kernel
theorem d_S_sendShadows_47 : decode b_S_sendShadows 47 = .ok (.getfield 149, 3) := by decide +kernel
theorem d_S_sendShadows_50 : decode b_S_sendShadows 50 = .ok (.ifCond .eq (56), 3) := by decide +kernel
theorem d_S_sendShadows_53 : decode b_S_sendShadows 53 = .ok (.aload_n 0, 1) := by decide +kernel
theorem d_S_sendShadows_54 : decode b_S_sendShadows 54 = .ok (.getfield 25, 3) := by decide +kernel
theorem d_S_sendShadows_57 : decode b_S_sendShadows 57 = .ok (.iload 5, 2) := by decide +kernel
theorem d_S_sendShadows_59 : decode b_S_sendShadows 59 = .ok (.aaload, 1) := by decide +kernel
theorem d_S_sendShadows_60 : decode b_S_sendShadows 60 = .ok (.getfield 212, 3) := by decide +kernel
theorem d_S_sendShadows_63 : decode b_S_sendShadows 63 = .ok (.iload_n 1, 1) := by decide +kernel
theorem d_S_sendShadows_64 : decode b_S_sendShadows 64 = .ok (.aaload, 1) := by decide +kernel
theorem d_S_sendShadows_65 : decode b_S_sendShadows 65 = .ok (.astore 6, 2) := by decide +kernel
theorem d_S_sendShadows_67 : decode b_S_sendShadows 67 = .ok (.aload 6, 2) := by decide +kernel
theorem d_S_sendShadows_69 : decode b_S_sendShadows 69 = .ok (.aload_n 3, 1) := by decide +kernel
theorem d_S_sendShadows_70 : decode b_S_sendShadows 70 = .ok (.getfield 97, 3) := by decide +kernel
theorem d_S_sendShadows_73 : decode b_S_sendShadows 73 = .ok (.aload_n 3, 1) := by decide +kernel
theorem d_S_sendShadows_74 : decode b_S_sendShadows 74 = .ok (.getfield 206, 3) := by decide +kernel
theorem d_S_sendShadows_77 : decode b_S_sendShadows 77 = .ok (.invokevirtual 215, 3) := by decide +kernel
theorem d_S_sendShadows_80 : decode b_S_sendShadows 80 = .ok (.aload_n 0, 1) := by decide +kernel
theorem d_S_sendShadows_81 : decode b_S_sendShadows 81 = .ok (.getfield 19, 3) := by decide +kernel
theorem d_S_sendShadows_84 : decode b_S_sendShadows 84 = .ok (.aload_n 0, 1) := by decide +kernel
theorem d_S_sendShadows_85 : decode b_S_sendShadows 85 = .ok (.getfield 12, 3) := by decide +kernel
theorem d_S_sendShadows_88 : decode b_S_sendShadows 88 = .ok (.aload_n 0, 1) := by decide +kernel
theorem d_S_sendShadows_89 : decode b_S_sendShadows 89 = .ok (.getfield 25, 3) := by decide +kernel
theorem d_S_sendShadows_92 : decode b_S_sendShadows 92 = .ok (.iload 5, 2) := by decide +kernel
theorem d_S_sendShadows_94 : decode b_S_sendShadows 94 = .ok (.aaload, 1) := by decide +kernel
theorem d_S_sendShadows_95 : decode b_S_sendShadows 95 = .ok (.getfield 218, 3) := by decide +kernel
theorem d_S_sendShadows_98 : decode b_S_sendShadows 98 = .ok (.aload 6, 2) := by decide +kernel
theorem d_S_sendShadows_100 : decode b_S_sendShadows 100 = .ok (.invokevirtual 221, 3) := by decide +kernel
theorem d_S_sendShadows_103 : decode b_S_sendShadows 103 = .ok (.iinc 4 (-1), 3) := by decide +kernel
theorem d_S_sendShadows_106 : decode b_S_sendShadows 106 = .ok (.iinc 5 (1), 3) := by decide +kernel
theorem d_S_sendShadows_109 : decode b_S_sendShadows 109 = .ok (.goto (-81), 3) := by decide +kernel
theorem d_S_sendShadows_112 : decode b_S_sendShadows 112 = .ok (.return_, 1) := by decide +kernel
theorem d_S_turnShadows_0 : decode b_S_turnShadows 0 = .ok (.iload_n 2, 1) := by decide +kernel
theorem d_S_turnShadows_1 : decode b_S_turnShadows 1 = .ok (.istore_n 3, 1) := by decide +kernel
theorem d_S_turnShadows_2 : decode b_S_turnShadows 2 = .ok (.iconst (0), 1) := by decide +kernel
theorem d_S_turnShadows_3 : decode b_S_turnShadows 3 = .ok (.istore 4, 2) := by decide +kernel
theorem d_S_turnShadows_5 : decode b_S_turnShadows 5 = .ok (.iload 4, 2) := by decide +kernel
theorem d_S_turnShadows_7 : decode b_S_turnShadows 7 = .ok (.bipush (12), 2) := by decide +kernel
theorem d_S_turnShadows_9 : decode b_S_turnShadows 9 = .ok (.if_icmp .ge (67), 3) := by decide +kernel
theorem d_S_turnShadows_12 : decode b_S_turnShadows 12 = .ok (.iload_n 3, 1) := by decide +kernel
theorem d_S_turnShadows_13 : decode b_S_turnShadows 13 = .ok (.ifCond .le (63), 3) := by decide +kernel
theorem d_S_turnShadows_16 : decode b_S_turnShadows 16 = .ok (.aload_n 0, 1) := by decide +kernel
theorem d_S_turnShadows_17 : decode b_S_turnShadows 17 = .ok (.getfield 25, 3) := by decide +kernel
theorem d_S_turnShadows_20 : decode b_S_turnShadows 20 = .ok (.iload 4, 2) := by decide +kernel
theorem d_S_turnShadows_22 : decode b_S_turnShadows 22 = .ok (.aaload, 1) := by decide +kernel
theorem d_S_turnShadows_23 : decode b_S_turnShadows 23 = .ok (.getfield 149, 3) := by decide +kernel
theorem d_S_turnShadows_26 : decode b_S_turnShadows 26 = .ok (.ifCond .eq (44), 3) := by decide +kernel
theorem d_S_turnShadows_29 : decode b_S_turnShadows 29 = .ok (.aload_n 0, 1) := by decide +kernel
theorem d_S_turnShadows_30 : decode b_S_turnShadows 30 = .ok (.getfield 25, 3) := by decide +kernel
theorem d_S_turnShadows_33 : decode b_S_turnShadows 33 = .ok (.iload 4, 2) := by decide +kernel
theorem d_S_turnShadows_35 : decode b_S_turnShadows 35 = .ok (.aaload, 1) := by decide +kernel
theorem d_S_turnShadows_36 : decode b_S_turnShadows 36 = .ok (.getfield 212, 3) := by decide +kernel
theorem d_S_turnShadows_39 : decode b_S_turnShadows 39 = .ok (.iload_n 1, 1) := by decide +kernel
theorem d_S_turnShadows_40 : decode b_S_turnShadows 40 = .ok (.aaload, 1) := by decide +kernel
theorem d_S_turnShadows_41 : decode b_S_turnShadows 41 = .ok (.getfield 178, 3) := by decide +kernel
theorem d_S_turnShadows_44 : decode b_S_turnShadows 44 = .ok (.aload_n 0, 1) := by decide +kernel
theorem d_S_turnShadows_45 : decode b_S_turnShadows 45 = .ok (.getfield 31, 3) := by decide +kernel
theorem d_S_turnShadows_48 : decode b_S_turnShadows 48 = .ok (.iload_n 1, 1) := by decide +kernel
theorem d_S_turnShadows_49 : decode b_S_turnShadows 49 = .ok (.aaload, 1) := by decide +kernel
theorem d_S_turnShadows_50 : decode b_S_turnShadows 50 = .ok (.getfield 97, 3) := by decide +kernel
theorem d_S_turnShadows_53 : decode b_S_turnShadows 53 = .ok (.if_icmp .ne (17), 3) := by decide +kernel
theorem d_S_turnShadows_56 : decode b_S_turnShadows 56 = .ok (.aload_n 0, 1) := by decide +kernel
theorem d_S_turnShadows_57 : decode b_S_turnShadows 57 = .ok (.getfield 25, 3) := by decide +kernel
theorem d_S_turnShadows_60 : decode b_S_turnShadows 60 = .ok (.iload 4, 2) := by decide +kernel
theorem d_S_turnShadows_62 : decode b_S_turnShadows 62 = .ok (.aaload, 1) := by decide +kernel
theorem d_S_turnShadows_63 : decode b_S_turnShadows 63 = .ok (.iload_n 1, 1) := by decide +kernel
theorem d_S_turnShadows_64 : decode b_S_turnShadows 64 = .ok (.invokevirtual 225, 3) := by decide +kernel
theorem d_S_turnShadows_67 : decode b_S_turnShadows 67 = .ok (.iinc 3 (-1), 3) := by decide +kernel
theorem d_S_turnShadows_70 : decode b_S_turnShadows 70 = .ok (.iinc 4 (1), 3) := by decide +kernel
theorem d_S_turnShadows_73 : decode b_S_turnShadows 73 = .ok (.goto (-68), 3) := by decide +kernel
theorem d_S_turnShadows_76 : decode b_S_turnShadows 76 = .ok (.return_, 1) := by decide +kernel
theorem d_S_dropShadows_0 : decode b_S_dropShadows 0 = .ok (.iconst (0), 1) := by decide +kernel
theorem d_S_dropShadows_1 : decode b_S_dropShadows 1 = .ok (.istore_n 2, 1) := by decide +kernel
theorem d_S_dropShadows_2 : decode b_S_dropShadows 2 = .ok (.iload_n 2, 1) := by decide +kernel
theorem d_S_dropShadows_3 : decode b_S_dropShadows 3 = .ok (.bipush (12), 2) := by decide +kernel
theorem d_S_dropShadows_5 : decode b_S_dropShadows 5 = .ok (.if_icmp .ge (37), 3) := by decide +kernel
theorem d_S_dropShadows_8 : decode b_S_dropShadows 8 = .ok (.aload_n 0, 1) := by decide +kernel
theorem d_S_dropShadows_9 : decode b_S_dropShadows 9 = .ok (.getfield 25, 3) := by decide +kernel
theorem d_S_dropShadows_12 : decode b_S_dropShadows 12 = .ok (.iload_n 2, 1) := by decide +kernel
theorem d_S_dropShadows_13 : decode b_S_dropShadows 13 = .ok (.aaload, 1) := by decide +kernel
theorem d_S_dropShadows_14 : decode b_S_dropShadows 14 = .ok (.getfield 149, 3) := by decide +kernel
theorem d_S_dropShadows_17 : decode b_S_dropShadows 17 = .ok (.ifCond .eq (19), 3) := by decide +kernel
theorem d_S_dropShadows_20 : decode b_S_dropShadows 20 = .ok (.aload_n 0, 1) := by decide +kernel
theorem d_S_dropShadows_21 : decode b_S_dropShadows 21 = .ok (.getfield 25, 3) := by decide +kernel
theorem d_S_dropShadows_24 : decode b_S_dropShadows 24 = .ok (.iload_n 2, 1) := by decide +kernel
theorem d_S_dropShadows_25 : decode b_S_dropShadows 25 = .ok (.aaload, 1) := by decide +kernel
theorem d_S_dropShadows_26 : decode b_S_dropShadows 26 = .ok (.getfield 212, 3) := by decide +kernel
theorem d_S_dropShadows_29 : decode b_S_dropShadows 29 = .ok (.iload_n 1, 1) := by decide +kernel
theorem d_S_dropShadows_30 : decode b_S_dropShadows 30 = .ok (.aaload, 1) := by decide +kernel
theorem d_S_dropShadows_31 : decode b_S_dropShadows 31 = .ok (.iconst (0), 1) := by decide +kernel
theorem d_S_dropShadows_32 : decode b_S_dropShadows 32 = .ok (.iconst (0), 1) := by decide +kernel
theorem d_S_dropShadows_33 : decode b_S_dropShadows 33 = .ok (.invokevirtual 215, 3) := by decide +kernel
theorem d_S_dropShadows_36 : decode b_S_dropShadows 36 = .ok (.iinc 2 (1), 3) := by decide +kernel
theorem d_S_dropShadows_39 : decode b_S_dropShadows 39 = .ok (.goto (-37), 3) := by decide +kernel
theorem d_S_dropShadows_42 : decode b_S_dropShadows 42 = .ok (.return_, 1) := by decide +kernel
theorem d_S_someNodeHasShare_0 : decode b_S_someNodeHasShare 0 = .ok (.iconst (0), 1) := by decide +kernel
theorem d_S_someNodeHasShare_1 : decode b_S_someNodeHasShare 1 = .ok (.istore_n 3, 1) := by decide +kernel
theorem d_S_someNodeHasShare_2 : decode b_S_someNodeHasShare 2 = .ok (.iload_n 3, 1) := by decide +kernel
theorem d_S_someNodeHasShare_3 : decode b_S_someNodeHasShare 3 = .ok (.bipush (12), 2) := by decide +kernel
theorem d_S_someNodeHasShare_5 : decode b_S_someNodeHasShare 5 = .ok (.if_icmp .ge (29), 3) := by decide +kernel
theorem d_S_someNodeHasShare_8 : decode b_S_someNodeHasShare 8 = .ok (.aload_n 0, 1) := by decide +kernel
theorem d_S_someNodeHasShare_9 : decode b_S_someNodeHasShare 9 = .ok (.getfield 25, 3) := by decide +kernel
theorem d_S_someNodeHasShare_12 : decode b_S_someNodeHasShare 12 = .ok (.iload_n 3, 1) := by decide +kernel
theorem d_S_someNodeHasShare_13 : decode b_S_someNodeHasShare 13 = .ok (.aaload, 1) := by decide +kernel
theorem d_S_someNodeHasShare_14 : decode b_S_someNodeHasShare 14 = .ok (.getfield 174, 3) := by decide +kernel
theorem d_S_someNodeHasShare_17 : decode b_S_someNodeHasShare 17 = .ok (.iload_n 1, 1) := by decide +kernel
theorem d_S_someNodeHasShare_18 : decode b_S_someNodeHasShare 18 = .ok (.aaload, 1) := by decide +kernel
theorem d_S_someNodeHasShare_19 : decode b_S_someNodeHasShare 19 = .ok (.getfield 178, 3) := by decide +kernel
theorem d_S_someNodeHasShare_22 : decode b_S_someNodeHasShare 22 = .ok (.iload_n 2, 1) := by decide +kernel
theorem d_S_someNodeHasShare_23 : decode b_S_someNodeHasShare 23 = .ok (.if_icmp .ne (5), 3) := by decide +kernel
theorem d_S_someNodeHasShare_26 : decode b_S_someNodeHasShare 26 = .ok (.iconst (1), 1) := by decide +kernel
theorem d_S_someNodeHasShare_27 : decode b_S_someNodeHasShare 27 = .ok (.ireturn, 1) := by decide +kernel
theorem d_S_someNodeHasShare_28 : decode b_S_someNodeHasShare 28 = .ok (.iinc 3 (1), 3) := by decide +kernel
theorem d_S_someNodeHasShare_31 : decode b_S_someNodeHasShare 31 = .ok (.goto (-29), 3) := by decide +kernel
theorem d_S_someNodeHasShare_34 : decode b_S_someNodeHasShare 34 = .ok (.iconst (0), 1) := by decide +kernel
theorem d_S_someNodeHasShare_35 : decode b_S_someNodeHasShare 35 = .ok (.ireturn, 1) := by decide +kernel
theorem d_S_needsRebuild_0 : decode b_S_needsRebuild 0 = .ok (.aload_n 0, 1) := by decide +kernel
theorem d_S_needsRebuild_1 : decode b_S_needsRebuild 1 = .ok (.getfield 31, 3) := by decide +kernel
theorem d_S_needsRebuild_4 : decode b_S_needsRebuild 4 = .ok (.iload_n 2, 1) := by decide +kernel
theorem d_S_needsRebuild_5 : decode b_S_needsRebuild 5 = .ok (.aaload, 1) := by decide +kernel
theorem d_S_needsRebuild_6 : decode b_S_needsRebuild 6 = .ok (.getfield 100, 3) := by decide +kernel
theorem d_S_needsRebuild_9 : decode b_S_needsRebuild 9 = .ok (.ifCond .ne (16), 3) := by decide +kernel
theorem d_S_needsRebuild_12 : decode b_S_needsRebuild 12 = .ok (.aload_n 0, 1) := by decide +kernel
theorem d_S_needsRebuild_13 : decode b_S_needsRebuild 13 = .ok (.iload_n 1, 1) := by decide +kernel
theorem d_S_needsRebuild_14 : decode b_S_needsRebuild 14 = .ok (.iload_n 2, 1) := by decide +kernel
theorem d_S_needsRebuild_15 : decode b_S_needsRebuild 15 = .ok (.invokevirtual 203, 3) := by decide +kernel
theorem d_S_needsRebuild_18 : decode b_S_needsRebuild 18 = .ok (.ifCond .ne (7), 3) := by decide +kernel
theorem d_S_needsRebuild_21 : decode b_S_needsRebuild 21 = .ok (.iconst (1), 1) := by decide +kernel
theorem d_S_needsRebuild_22 : decode b_S_needsRebuild 22 = .ok (.goto (4), 3) := by decide +kernel
theorem d_S_needsRebuild_25 : decode b_S_needsRebuild 25 = .ok (.iconst (0), 1) := by decide +kernel
theorem d_S_needsRebuild_26 : decode b_S_needsRebuild 26 = .ok (.ireturn, 1) := by decide +kernel
theorem d_S_lacksHelpers_0 : decode b_S_lacksHelpers 0 = .ok (.aload_n 0, 1) := by decide +kernel
theorem d_S_lacksHelpers_1 : decode b_S_lacksHelpers 1 = .ok (.getfield 31, 3) := by decide +kernel
theorem d_S_lacksHelpers_4 : decode b_S_lacksHelpers 4 = .ok (.iload_n 1, 1) := by decide +kernel
theorem d_S_lacksHelpers_5 : decode b_S_lacksHelpers 5 = .ok (.aaload, 1) := by decide +kernel
theorem d_S_lacksHelpers_6 : decode b_S_lacksHelpers 6 = .ok (.getfield 117, 3) := by decide +kernel
theorem d_S_lacksHelpers_9 : decode b_S_lacksHelpers 9 = .ok (.ifCond .le (21), 3) := by decide +kernel
theorem d_S_lacksHelpers_12 : decode b_S_lacksHelpers 12 = .ok (.aload_n 0, 1) := by decide +kernel
theorem d_S_lacksHelpers_13 : decode b_S_lacksHelpers 13 = .ok (.iload_n 1, 1) := by decide +kernel
theorem d_S_lacksHelpers_14 : decode b_S_lacksHelpers 14 = .ok (.iload_n 2, 1) := by decide +kernel
theorem d_S_lacksHelpers_15 : decode b_S_lacksHelpers 15 = .ok (.invokevirtual 123, 3) := by decide +kernel
theorem d_S_lacksHelpers_18 : decode b_S_lacksHelpers 18 = .ok (.invokestatic 127, 3) := by decide +kernel
theorem d_S_lacksHelpers_21 : decode b_S_lacksHelpers 21 = .ok (.bipush (8), 2) := by decide +kernel
theorem d_S_lacksHelpers_23 : decode b_S_lacksHelpers 23 = .ok (.if_icmp .ge (7), 3) := by decide +kernel
theorem d_S_lacksHelpers_26 : decode b_S_lacksHelpers 26 = .ok (.iconst (1), 1) := by decide +kernel
theorem d_S_lacksHelpers_27 : decode b_S_lacksHelpers 27 = .ok (.goto (4), 3) := by decide +kernel
theorem d_S_lacksHelpers_30 : decode b_S_lacksHelpers 30 = .ok (.iconst (0), 1) := by decide +kernel
theorem d_S_lacksHelpers_31 : decode b_S_lacksHelpers 31 = .ok (.ireturn, 1) := by decide +kernel
theorem d_S_rebuildShare_0 : decode b_S_rebuildShare 0 = .ok (.aload_n 0, 1) := by decide +kernel
theorem d_S_rebuildShare_1 : decode b_S_rebuildShare 1 = .ok (.getfield 31, 3) := by decide +kernel
theorem d_S_rebuildShare_4 : decode b_S_rebuildShare 4 = .ok (.iload_n 2, 1) := by decide +kernel
theorem d_S_rebuildShare_5 : decode b_S_rebuildShare 5 = .ok (.aaload, 1) := by decide +kernel
theorem d_S_rebuildShare_6 : decode b_S_rebuildShare 6 = .ok (.astore 4, 2) := by decide +kernel
theorem d_S_rebuildShare_8 : decode b_S_rebuildShare 8 = .ok (.aload_n 1, 1) := by decide +kernel
theorem d_S_rebuildShare_9 : decode b_S_rebuildShare 9 = .ok (.getfield 174, 3) := by decide +kernel
theorem d_S_rebuildShare_12 : decode b_S_rebuildShare 12 = .ok (.iload_n 2, 1) := by decide +kernel
theorem d_S_rebuildShare_13 : decode b_S_rebuildShare 13 = .ok (.aaload, 1) := by decide +kernel
theorem d_S_rebuildShare_14 : decode b_S_rebuildShare 14 = .ok (.astore 5, 2) := by decide +kernel
theorem d_S_rebuildShare_16 : decode b_S_rebuildShare 16 = .ok (.aload 4, 2) := by decide +kernel
theorem d_S_rebuildShare_18 : decode b_S_rebuildShare 18 = .ok (.getfield 117, 3) := by decide +kernel
theorem d_S_rebuildShare_21 : decode b_S_rebuildShare 21 = .ok (.invokestatic 184, 3) := by decide +kernel
theorem d_S_rebuildShare_24 : decode b_S_rebuildShare 24 = .ok (.istore 6, 2) := by decide +kernel
theorem d_S_rebuildShare_26 : decode b_S_rebuildShare 26 = .ok (.iload 6, 2) := by decide +kernel
theorem d_S_rebuildShare_28 : decode b_S_rebuildShare 28 = .ok (.ifCond .le (13), 3) := by decide +kernel
theorem d_S_rebuildShare_31 : decode b_S_rebuildShare 31 = .ok (.aload_n 0, 1) := by decide +kernel
theorem d_S_rebuildShare_32 : decode b_S_rebuildShare 32 = .ok (.aload_n 0, 1) := by decide +kernel
theorem d_S_rebuildShare_33 : decode b_S_rebuildShare 33 = .ok (.iload_n 2, 1) := by decide +kernel
theorem d_S_rebuildShare_34 : decode b_S_rebuildShare 34 = .ok (.iload_n 3, 1) := by decide +kernel
theorem d_S_rebuildShare_35 : decode b_S_rebuildShare 35 = .ok (.invokevirtual 123, 3) := by decide +kernel
theorem d_S_rebuildShare_38 : decode b_S_rebuildShare 38 = .ok (.invokevirtual 228, 3) := by decide +kernel
theorem d_S_rebuildShare_41 : decode b_S_rebuildShare 41 = .ok (.aload 5, 2) := by decide +kernel
theorem d_S_rebuildShare_43 : decode b_S_rebuildShare 43 = .ok (.aload 4, 2) := by decide +kernel
theorem d_S_rebuildShare_45 : decode b_S_rebuildShare 45 = .ok (.getfield 143, 3) := by decide +kernel
theorem d_S_rebuildShare_48 : decode b_S_rebuildShare 48 = .ok (.aload 4, 2) := by decide +kernel
theorem d_S_rebuildShare_50 : decode b_S_rebuildShare 50 = .ok (.getfield 117, 3) := by decide +kernel
theorem d_S_rebuildShare_53 : decode b_S_rebuildShare 53 = .ok (.invokevirtual 215, 3) := by decide +kernel
theorem d_S_rebuildShare_56 : decode b_S_rebuildShare 56 = .ok (.iconst (0), 1) := by decide +kernel
theorem d_S_rebuildShare_57 : decode b_S_rebuildShare 57 = .ok (.istore 7, 2) := by decide +kernel
theorem d_S_rebuildShare_59 : decode b_S_rebuildShare 59 = .ok (.iload 7, 2) := by decide +kernel
theorem d_S_rebuildShare_61 : decode b_S_rebuildShare 61 = .ok (.iload 6, 2) := by decide +kernel
theorem d_S_rebuildShare_63 : decode b_S_rebuildShare 63 = .ok (.if_icmp .ge (63), 3) := by decide +kernel
theorem d_S_rebuildShare_66 : decode b_S_rebuildShare 66 = .ok (.aload_n 0, 1) := by decide +kernel
theorem d_S_rebuildShare_67 : decode b_S_rebuildShare 67 = .ok (.aload_n 1, 1) := by decide +kernel
theorem d_S_rebuildShare_68 : decode b_S_rebuildShare 68 = .ok (.getfield 218, 3) := by decide +kernel
theorem d_S_rebuildShare_71 : decode b_S_rebuildShare 71 = .ok (.iload_n 2, 1) := by decide +kernel
theorem d_S_rebuildShare_72 : decode b_S_rebuildShare 72 = .ok (.bipush (8), 2) := by decide +kernel
theorem d_S_rebuildShare_74 : decode b_S_rebuildShare 74 = .ok (.iload 7, 2) := by decide +kernel
theorem d_S_rebuildShare_76 : decode b_S_rebuildShare 76 = .ok (.imul, 1) := by decide +kernel
theorem d_S_rebuildShare_77 : decode b_S_rebuildShare 77 = .ok (.invokevirtual 231, 3) := by decide +kernel
theorem d_S_rebuildShare_80 : decode b_S_rebuildShare 80 = .ok (.aload_n 0, 1) := by decide +kernel
theorem d_S_rebuildShare_81 : decode b_S_rebuildShare 81 = .ok (.getfield 12, 3) := by decide +kernel
theorem d_S_rebuildShare_84 : decode b_S_rebuildShare 84 = .ok (.aload_n 0, 1) := by decide +kernel
theorem d_S_rebuildShare_85 : decode b_S_rebuildShare 85 = .ok (.getfield 38, 3) := by decide +kernel
theorem d_S_rebuildShare_88 : decode b_S_rebuildShare 88 = .ok (.getfield 235, 3) := by decide +kernel
theorem d_S_rebuildShare_91 : decode b_S_rebuildShare 91 = .ok (.aload_n 0, 1) := by decide +kernel
theorem d_S_rebuildShare_92 : decode b_S_rebuildShare 92 = .ok (.getfield 42, 3) := by decide +kernel
theorem d_S_rebuildShare_95 : decode b_S_rebuildShare 95 = .ok (.bipush (8), 2) := by decide +kernel
theorem d_S_rebuildShare_97 : decode b_S_rebuildShare 97 = .ok (.invokevirtual 238, 3) := by decide +kernel
theorem d_S_rebuildShare_100 : decode b_S_rebuildShare 100 = .ok (.aload_n 0, 1) := by decide +kernel
theorem d_S_rebuildShare_101 : decode b_S_rebuildShare 101 = .ok (.getfield 42, 3) := by decide +kernel
theorem d_S_rebuildShare_104 : decode b_S_rebuildShare 104 = .ok (.iconst (0), 1) := by decide +kernel
theorem d_S_rebuildShare_105 : decode b_S_rebuildShare 105 = .ok (.aload 5, 2) := by decide +kernel
theorem d_S_rebuildShare_107 : decode b_S_rebuildShare 107 = .ok (.getfield 187, 3) := by decide +kernel
theorem d_S_rebuildShare_110 : decode b_S_rebuildShare 110 = .ok (.bipush (8), 2) := by decide +kernel
theorem d_S_rebuildShare_112 : decode b_S_rebuildShare 112 = .ok (.iload 7, 2) := by decide +kernel
theorem d_S_rebuildShare_114 : decode b_S_rebuildShare 114 = .ok (.imul, 1) := by decide +kernel
theorem d_S_rebuildShare_115 : decode b_S_rebuildShare 115 = .ok (.bipush (8), 2) := by decide +kernel
theorem d_S_rebuildShare_117 : decode b_S_rebuildShare 117 = .ok (.invokestatic 242, 3) := by decide +kernel
theorem d_S_rebuildShare_120 : decode b_S_rebuildShare 120 = .ok (.iinc 7 (1), 3) := by decide +kernel
theorem d_S_rebuildShare_123 : decode b_S_rebuildShare 123 = .ok (.goto (-64), 3) := by decide +kernel
theorem d_S_rebuildShare_126 : decode b_S_rebuildShare 126 = .ok (.bipush (8), 2) := by decide +kernel
theorem d_S_rebuildShare_128 : decode b_S_rebuildShare 128 = .ok (.iload 6, 2) := by decide +kernel
theorem d_S_rebuildShare_130 : decode b_S_rebuildShare 130 = .ok (.imul, 1) := by decide +kernel
theorem d_S_rebuildShare_131 : decode b_S_rebuildShare 131 = .ok (.ireturn, 1) := by decide +kernel
theorem d_S_askHelpers_0 : decode b_S_askHelpers 0 = .ok (.iconst (0), 1) := by decide +kernel
theorem d_S_askHelpers_1 : decode b_S_askHelpers 1 = .ok (.istore 4, 2) := by decide +kernel
theorem d_S_askHelpers_3 : decode b_S_askHelpers 3 = .ok (.iload 4, 2) := by decide +kernel
theorem d_S_askHelpers_5 : decode b_S_askHelpers 5 = .ok (.bipush (8), 2) := by decide +kernel
theorem d_S_askHelpers_7 : decode b_S_askHelpers 7 = .ok (.if_icmp .ge (63), 3) := by decide +kernel
theorem d_S_askHelpers_10 : decode b_S_askHelpers 10 = .ok (.aload_n 0, 1) := by decide +kernel
theorem d_S_askHelpers_11 : decode b_S_askHelpers 11 = .ok (.getfield 25, 3) := by decide +kernel
theorem d_S_askHelpers_14 : decode b_S_askHelpers 14 = .ok (.aload_n 0, 1) := by decide +kernel
theorem d_S_askHelpers_15 : decode b_S_askHelpers 15 = .ok (.getfield 38, 3) := by decide +kernel
theorem d_S_askHelpers_18 : decode b_S_askHelpers 18 = .ok (.getfield 248, 3) := by decide +kernel
theorem d_S_askHelpers_21 : decode b_S_askHelpers 21 = .ok (.iload 4, 2) := by decide +kernel
theorem d_S_askHelpers_23 : decode b_S_askHelpers 23 = .ok (.iaload, 1) := by decide +kernel
theorem d_S_askHelpers_24 : decode b_S_askHelpers 24 = .ok (.aaload, 1) := by decide +kernel
theorem d_S_askHelpers_25 : decode b_S_askHelpers 25 = .ok (.astore 5, 2) := by decide +kernel
theorem d_S_askHelpers_27 : decode b_S_askHelpers 27 = .ok (.aload_n 0, 1) := by decide +kernel
theorem d_S_askHelpers_28 : decode b_S_askHelpers 28 = .ok (.getfield 42, 3) := by decide +kernel
theorem d_S_askHelpers_31 : decode b_S_askHelpers 31 = .ok (.iload 4, 2) := by decide +kernel
theorem d_S_askHelpers_33 : decode b_S_askHelpers 33 = .ok (.aload_n 0, 1) := by decide +kernel
theorem d_S_askHelpers_34 : decode b_S_askHelpers 34 = .ok (.getfield 12, 3) := by decide +kernel
theorem d_S_askHelpers_37 : decode b_S_askHelpers 37 = .ok (.iload_n 1, 1) := by decide +kernel
theorem d_S_askHelpers_38 : decode b_S_askHelpers 38 = .ok (.aload 5, 2) := by decide +kernel
theorem d_S_askHelpers_40 : decode b_S_askHelpers 40 = .ok (.getfield 174, 3) := by decide +kernel
theorem d_S_askHelpers_43 : decode b_S_askHelpers 43 = .ok (.iload_n 2, 1) := by decide +kernel
theorem d_S_askHelpers_44 : decode b_S_askHelpers 44 = .ok (.aaload, 1) := by decide +kernel
theorem d_S_askHelpers_45 : decode b_S_askHelpers 45 = .ok (.getfield 187, 3) := by decide +kernel
theorem d_S_askHelpers_48 : decode b_S_askHelpers 48 = .ok (.iload_n 3, 1) := by decide +kernel
theorem d_S_askHelpers_49 : decode b_S_askHelpers 49 = .ok (.invokevirtual 251, 3) := by decide +kernel
theorem d_S_askHelpers_52 : decode b_S_askHelpers 52 = .ok (.iastore, 1) := by decide +kernel
theorem d_S_askHelpers_53 : decode b_S_askHelpers 53 = .ok (.aload 5, 2) := by decide +kernel
theorem d_S_askHelpers_55 : decode b_S_askHelpers 55 = .ok (.dup, 1) := by decide +kernel
theorem d_S_askHelpers_56 : decode b_S_askHelpers 56 = .ok (.getfield 165, 3) := by decide +kernel
theorem d_S_askHelpers_59 : decode b_S_askHelpers 59 = .ok (.iconst (1), 1) := by decide +kernel
theorem d_S_askHelpers_60 : decode b_S_askHelpers 60 = .ok (.iadd, 1) := by decide +kernel
theorem d_S_askHelpers_61 : decode b_S_askHelpers 61 = .ok (.putfield 165, 3) := by decide +kernel
theorem d_S_askHelpers_64 : decode b_S_askHelpers 64 = .ok (.iinc 4 (1), 3) := by decide +kernel
theorem d_S_askHelpers_67 : decode b_S_askHelpers 67 = .ok (.goto (-64), 3) := by decide +kernel
theorem d_S_askHelpers_70 : decode b_S_askHelpers 70 = .ok (.return_, 1) := by decide +kernel
theorem d_S_chooseLowest_0 : decode b_S_chooseLowest 0 = .ok (.aload_n 0, 1) := by decide +kernel
theorem d_S_chooseLowest_1 : decode b_S_chooseLowest 1 = .ok (.getfield 38, 3) := by decide +kernel
theorem d_S_chooseLowest_4 : decode b_S_chooseLowest 4 = .ok (.invokevirtual 255, 3) := by decide +kernel
theorem d_S_chooseLowest_7 : decode b_S_chooseLowest 7 = .ok (.iconst (0), 1) := by decide +kernel
theorem d_S_chooseLowest_8 : decode b_S_chooseLowest 8 = .ok (.istore_n 2, 1) := by decide +kernel
theorem d_S_chooseLowest_9 : decode b_S_chooseLowest 9 = .ok (.iload_n 2, 1) := by decide +kernel
theorem d_S_chooseLowest_10 : decode b_S_chooseLowest 10 = .ok (.bipush (12), 2) := by decide +kernel
theorem d_S_chooseLowest_12 : decode b_S_chooseLowest 12 = .ok (.if_icmp .ge (37), 3) := by decide +kernel
theorem d_S_chooseLowest_15 : decode b_S_chooseLowest 15 = .ok (.aload_n 0, 1) := by decide +kernel
theorem d_S_chooseLowest_16 : decode b_S_chooseLowest 16 = .ok (.getfield 38, 3) := by decide +kernel
theorem d_S_chooseLowest_19 : decode b_S_chooseLowest 19 = .ok (.getfield 258, 3) := by decide +kernel
theorem d_S_chooseLowest_22 : decode b_S_chooseLowest 22 = .ok (.iconst (5), 1) := by decide +kernel
theorem d_S_chooseLowest_23 : decode b_S_chooseLowest 23 = .ok (.if_icmp .ge (26), 3) := by decide +kernel
theorem d_S_chooseLowest_26 : decode b_S_chooseLowest 26 = .ok (.iload_n 1, 1) := by decide +kernel
theorem d_S_chooseLowest_27 : decode b_S_chooseLowest 27 = .ok (.iload_n 2, 1) := by decide +kernel
theorem d_S_chooseLowest_28 : decode b_S_chooseLowest 28 = .ok (.ishr, 1) := by decide +kernel
theorem d_S_chooseLowest_29 : decode b_S_chooseLowest 29 = .ok (.iconst (1), 1) := by decide +kernel
theorem d_S_chooseLowest_30 : decode b_S_chooseLowest 30 = .ok (.iand, 1) := by decide +kernel
theorem d_S_chooseLowest_31 : decode b_S_chooseLowest 31 = .ok (.iconst (1), 1) := by decide +kernel
theorem d_S_chooseLowest_32 : decode b_S_chooseLowest 32 = .ok (.if_icmp .ne (11), 3) := by decide +kernel
theorem d_S_chooseLowest_35 : decode b_S_chooseLowest 35 = .ok (.aload_n 0, 1) := by decide +kernel
theorem d_S_chooseLowest_36 : decode b_S_chooseLowest 36 = .ok (.getfield 38, 3) := by decide +kernel
theorem d_S_chooseLowest_39 : decode b_S_chooseLowest 39 = .ok (.iload_n 2, 1) := by decide +kernel
theorem d_S_chooseLowest_40 : decode b_S_chooseLowest 40 = .ok (.invokevirtual 261, 3) := by decide +kernel
theorem d_S_chooseLowest_43 : decode b_S_chooseLowest 43 = .ok (.iinc 2 (1), 3) := by decide +kernel
theorem d_S_chooseLowest_46 : decode b_S_chooseLowest 46 = .ok (.goto (-37), 3) := by decide +kernel
theorem d_S_chooseLowest_49 : decode b_S_chooseLowest 49 = .ok (.return_, 1) := by decide +kernel
theorem d_S_chooseLeastSent_0 : decode b_S_chooseLeastSent 0 = .ok (.aload_n 0, 1) := by decide +kernel
theorem d_S_chooseLeastSent_1 : decode b_S_chooseLeastSent 1 = .ok (.getfield 38, 3) := by decide +kernel
theorem d_S_chooseLeastSent_4 : decode b_S_chooseLeastSent 4 = .ok (.invokevirtual 255, 3) := by decide +kernel
theorem d_S_chooseLeastSent_7 : decode b_S_chooseLeastSent 7 = .ok (.iload_n 1, 1) := by decide +kernel
theorem d_S_chooseLeastSent_8 : decode b_S_chooseLeastSent 8 = .ok (.istore_n 2, 1) := by decide +kernel
theorem d_S_chooseLeastSent_9 : decode b_S_chooseLeastSent 9 = .ok (.iconst (0), 1) := by decide +kernel
theorem d_S_chooseLeastSent_10 : decode b_S_chooseLeastSent 10 = .ok (.istore_n 3, 1) := by decide +kernel
theorem d_S_chooseLeastSent_11 : decode b_S_chooseLeastSent 11 = .ok (.iload_n 3, 1) := by decide +kernel
theorem d_S_chooseLeastSent_12 : decode b_S_chooseLeastSent 12 = .ok (.bipush (8), 2) := by decide +kernel
theorem d_S_chooseLeastSent_14 : decode b_S_chooseLeastSent 14 = .ok (.if_icmp .ge (44), 3) := by decide +kernel
theorem d_S_chooseLeastSent_17 : decode b_S_chooseLeastSent 17 = .ok (.iload_n 2, 1) := by decide +kernel
theorem d_S_chooseLeastSent_18 : decode b_S_chooseLeastSent 18 = .ok (.ifCond .eq (40), 3) := by decide +kernel
theorem d_S_chooseLeastSent_21 : decode b_S_chooseLeastSent 21 = .ok (.aload_n 0, 1) := by decide +kernel
theorem d_S_chooseLeastSent_22 : decode b_S_chooseLeastSent 22 = .ok (.iload_n 2, 1) := by decide +kernel
theorem d_S_chooseLeastSent_23 : decode b_S_chooseLeastSent 23 = .ok (.invokevirtual 264, 3) := by decide +kernel
theorem d_S_chooseLeastSent_26 : decode b_S_chooseLeastSent 26 = .ok (.istore 4, 2) := by decide +kernel
theorem d_S_chooseLeastSent_28 : decode b_S_chooseLeastSent 28 = .ok (.iload 4, 2) := by decide +kernel
theorem d_S_chooseLeastSent_30 : decode b_S_chooseLeastSent 30 = .ok (.iconst (-1), 1) := by decide +kernel
theorem d_S_chooseLeastSent_31 : decode b_S_chooseLeastSent 31 = .ok (.if_icmp .eq (21), 3) := by decide +kernel
theorem d_S_chooseLeastSent_34 : decode b_S_chooseLeastSent 34 = .ok (.aload_n 0, 1) := by decide +kernel
theorem d_S_chooseLeastSent_35 : decode b_S_chooseLeastSent 35 = .ok (.getfield 38, 3) := by decide +kernel
theorem d_S_chooseLeastSent_38 : decode b_S_chooseLeastSent 38 = .ok (.iload 4, 2) := by decide +kernel
theorem d_S_chooseLeastSent_40 : decode b_S_chooseLeastSent 40 = .ok (.invokevirtual 261, 3) := by decide +kernel
theorem d_S_chooseLeastSent_43 : decode b_S_chooseLeastSent 43 = .ok (.iload_n 2, 1) := by decide +kernel
theorem d_S_chooseLeastSent_44 : decode b_S_chooseLeastSent 44 = .ok (.iconst (1), 1) := by decide +kernel
theorem d_S_chooseLeastSent_45 : decode b_S_chooseLeastSent 45 = .ok (.iload 4, 2) := by decide +kernel
theorem d_S_chooseLeastSent_47 : decode b_S_chooseLeastSent 47 = .ok (.ishl, 1) := by decide +kernel
theorem d_S_chooseLeastSent_48 : decode b_S_chooseLeastSent 48 = .ok (.iconst (-1), 1) := by decide +kernel
theorem d_S_chooseLeastSent_49 : decode b_S_chooseLeastSent 49 = .ok (.ixor, 1) := by decide +kernel
theorem d_S_chooseLeastSent_50 : decode b_S_chooseLeastSent 50 = .ok (.iand, 1) := by decide +kernel
theorem d_S_chooseLeastSent_51 : decode b_S_chooseLeastSent 51 = .ok (.istore_n 2, 1) := by decide +kernel
theorem d_S_chooseLeastSent_52 : decode b_S_chooseLeastSent 52 = .ok (.iinc 3 (1), 3) := by decide +kernel
theorem d_S_chooseLeastSent_55 : decode b_S_chooseLeastSent 55 = .ok (.goto (-44), 3) := by decide +kernel
theorem d_S_chooseLeastSent_58 : decode b_S_chooseLeastSent 58 = .ok (.return_, 1) := by decide +kernel
theorem d_S_leastSent_0 : decode b_S_leastSent 0 = .ok (.iconst (-1), 1) := by decide +kernel
theorem d_S_leastSent_1 : decode b_S_leastSent 1 = .ok (.istore_n 2, 1) := by decide +kernel
theorem d_S_leastSent_2 : decode b_S_leastSent 2 = .ok (.iconst (0), 1) := by decide +kernel
theorem d_S_leastSent_3 : decode b_S_leastSent 3 = .ok (.istore_n 3, 1) := by decide +kernel
theorem d_S_leastSent_4 : decode b_S_leastSent 4 = .ok (.iload_n 3, 1) := by decide +kernel
theorem d_S_leastSent_5 : decode b_S_leastSent 5 = .ok (.bipush (12), 2) := by decide +kernel
theorem d_S_leastSent_7 : decode b_S_leastSent 7 = .ok (.if_icmp .ge (58), 3) := by decide +kernel
theorem d_S_leastSent_10 : decode b_S_leastSent 10 = .ok (.iload_n 1, 1) := by decide +kernel
theorem d_S_leastSent_11 : decode b_S_leastSent 11 = .ok (.iload_n 3, 1) := by decide +kernel
theorem d_S_leastSent_12 : decode b_S_leastSent 12 = .ok (.ishr, 1) := by decide +kernel
theorem d_S_leastSent_13 : decode b_S_leastSent 13 = .ok (.iconst (1), 1) := by decide +kernel
theorem d_S_leastSent_14 : decode b_S_leastSent 14 = .ok (.iand, 1) := by decide +kernel
theorem d_S_leastSent_15 : decode b_S_leastSent 15 = .ok (.iconst (1), 1) := by decide +kernel
theorem d_S_leastSent_16 : decode b_S_leastSent 16 = .ok (.if_icmp .ne (7), 3) := by decide +kernel
theorem d_S_leastSent_19 : decode b_S_leastSent 19 = .ok (.iconst (1), 1) := by decide +kernel
theorem d_S_leastSent_20 : decode b_S_leastSent 20 = .ok (.goto (4), 3) := by decide +kernel
theorem d_S_leastSent_23 : decode b_S_leastSent 23 = .ok (.iconst (0), 1) := by decide +kernel
theorem d_S_leastSent_24 : decode b_S_leastSent 24 = .ok (.istore 4, 2) := by decide +kernel
theorem d_S_leastSent_26 : decode b_S_leastSent 26 = .ok (.iload 4, 2) := by decide +kernel
theorem d_S_leastSent_28 : decode b_S_leastSent 28 = .ok (.ifCond .eq (31), 3) := by decide +kernel
theorem d_S_leastSent_31 : decode b_S_leastSent 31 = .ok (.iload_n 2, 1) := by decide +kernel
theorem d_S_leastSent_32 : decode b_S_leastSent 32 = .ok (.iconst (-1), 1) := by decide +kernel
theorem d_S_leastSent_33 : decode b_S_leastSent 33 = .ok (.if_icmp .eq (24), 3) := by decide +kernel
theorem d_S_leastSent_36 : decode b_S_leastSent 36 = .ok (.aload_n 0, 1) := by decide +kernel
theorem d_S_leastSent_37 : decode b_S_leastSent 37 = .ok (.getfield 25, 3) := by decide +kernel
theorem d_S_leastSent_40 : decode b_S_leastSent 40 = .ok (.iload_n 3, 1) := by decide +kernel
theorem d_S_leastSent_41 : decode b_S_leastSent 41 = .ok (.aaload, 1) := by decide +kernel
theorem d_S_leastSent_42 : decode b_S_leastSent 42 = .ok (.getfield 165, 3) := by decide +kernel
theorem d_S_leastSent_45 : decode b_S_leastSent 45 = .ok (.aload_n 0, 1) := by decide +kernel
theorem d_S_leastSent_46 : decode b_S_leastSent 46 = .ok (.getfield 25, 3) := by decide +kernel
theorem d_S_leastSent_49 : decode b_S_leastSent 49 = .ok (.iload_n 2, 1) := by decide +kernel
theorem d_S_leastSent_50 : decode b_S_leastSent 50 = .ok (.aaload, 1) := by decide +kernel
theorem d_S_leastSent_51 : decode b_S_leastSent 51 = .ok (.getfield 165, 3) := by decide +kernel
theorem d_S_leastSent_54 : decode b_S_leastSent 54 = .ok (.if_icmp .ge (5), 3) := by decide +kernel
theorem d_S_leastSent_57 : decode b_S_leastSent 57 = .ok (.iload_n 3, 1) := by decide +kernel
theorem d_S_leastSent_58 : decode b_S_leastSent 58 = .ok (.istore_n 2, 1) := by decide +kernel
theorem d_S_leastSent_59 : decode b_S_leastSent 59 = .ok (.iinc 3 (1), 3) := by decide +kernel
theorem d_S_leastSent_62 : decode b_S_leastSent 62 = .ok (.goto (-58), 3) := by decide +kernel
theorem d_S_leastSent_65 : decode b_S_leastSent 65 = .ok (.iload_n 2, 1) := by decide +kernel
theorem d_S_leastSent_66 : decode b_S_leastSent 66 = .ok (.ireturn, 1) := by decide +kernel
theorem cw_S_63 : sm_cw RX6 63 y_S_checkIndex b_S_checkIndex 2 none 2 := ⟨sm_inT 198 (by decide +kernel) (by decide +kernel), sm_inT 1 (by decide +kernel) (by decide +kernel), sm_inT 196 (by decide +kernel) (by decide +kernel), ⟨by decide, by decide, by decide +kernel⟩, by decide⟩
theorem sw_S_checkIndex : Cond.static y_S_checkIndex ∈ sm_ws := sm_inT 197 (by decide +kernel) (by decide +kernel)
theorem fw_S_46 : sm_fw RX6 46 6 6 := ⟨_, _, _, rfl, in_X6, by decide, sm_inT 163 (by decide +kernel) (by decide +kernel)⟩
theorem cw_S_70 : sm_cw RX6 70 y_S_checkNotStopped b_S_checkNotStopped 2 none 1 := ⟨sm_inT 292 (by decide +kernel) (by decide +kernel), sm_inT 1 (by decide +kernel) (by decide +kernel), sm_inT 289 (by decide +kernel) (by decide +kernel), ⟨by decide, by decide, by decide +kernel⟩, by decide⟩
theorem iw_S_checkNotStopped : Cond.instanceMethod y_S_checkNotStopped ∈ sm_ws := sm_inT 291 (by decide +kernel) (by decide +kernel)
theorem se_S_checkNotStopped : Cond.selects RX6 y_S_checkNotStopped y_S_checkNotStopped ∈ sm_ws := sm_inS 1 (by decide +kernel) (by decide +kernel)
theorem cw_S_73 : sm_cw RX6 73 y_S_countLive b_S_countLive 3 (some .int) 0 := ⟨sm_inT 311 (by decide +kernel) (by decide +kernel), sm_inT 1 (by decide +kernel) (by decide +kernel), sm_inT 308 (by decide +kernel) (by decide +kernel), ⟨by decide, by decide, by decide +kernel⟩, by decide⟩
theorem iw_S_countLive : Cond.instanceMethod y_S_countLive ∈ sm_ws := sm_inT 310 (by decide +kernel) (by decide +kernel)
theorem se_S_countLive : Cond.selects RX6 y_S_countLive y_S_countLive ∈ sm_ws := sm_inS 2 (by decide +kernel) (by decide +kernel)
theorem fw_S_31 : sm_fw RX6 31 6 3 := ⟨_, _, _, rfl, in_X6, by decide, sm_inT 160 (by decide +kernel) (by decide +kernel)⟩
theorem cw_S_80 : sm_cw RX6 80 y_I_begin b_I_begin 2 none 1 := ⟨sm_inT 330 (by decide +kernel) (by decide +kernel), sm_inT 7 (by decide +kernel) (by decide +kernel), sm_inT 327 (by decide +kernel) (by decide +kernel), ⟨by decide, by decide, by decide +kernel⟩, by decide⟩
theorem iw_I_begin : Cond.instanceMethod y_I_begin ∈ sm_ws := sm_inT 328 (by decide +kernel) (by decide +kernel)
theorem se_I_begin : Cond.selects RX1 y_I_begin y_I_begin ∈ sm_ws := sm_inT 329 (by decide +kernel) (by decide +kernel)
theorem cw_S_83 : sm_cw RX6 83 y_S_takeMessages b_S_takeMessages 3 (some .int) 1 := ⟨sm_inT 334 (by decide +kernel) (by decide +kernel), sm_inT 1 (by decide +kernel) (by decide +kernel), sm_inT 331 (by decide +kernel) (by decide +kernel), ⟨by decide, by decide, by decide +kernel⟩, by decide⟩
theorem iw_S_takeMessages : Cond.instanceMethod y_S_takeMessages ∈ sm_ws := sm_inT 333 (by decide +kernel) (by decide +kernel)
theorem se_S_takeMessages : Cond.selects RX6 y_S_takeMessages y_S_takeMessages ∈ sm_ws := sm_inS 3 (by decide +kernel) (by decide +kernel)
theorem cw_S_87 : sm_cw RX6 87 y_S_sendShadows b_S_sendShadows 7 none 2 := ⟨sm_inT 338 (by decide +kernel) (by decide +kernel), sm_inT 1 (by decide +kernel) (by decide +kernel), sm_inT 335 (by decide +kernel) (by decide +kernel), ⟨by decide, by decide, by decide +kernel⟩, by decide⟩
theorem iw_S_sendShadows : Cond.instanceMethod y_S_sendShadows ∈ sm_ws := sm_inT 337 (by decide +kernel) (by decide +kernel)
theorem se_S_sendShadows : Cond.selects RX6 y_S_sendShadows y_S_sendShadows ∈ sm_ws := sm_inS 4 (by decide +kernel) (by decide +kernel)
theorem cw_S_90 : sm_cw RX6 90 y_S_turnShadows b_S_turnShadows 5 none 2 := ⟨sm_inT 369 (by decide +kernel) (by decide +kernel), sm_inT 1 (by decide +kernel) (by decide +kernel), sm_inT 366 (by decide +kernel) (by decide +kernel), ⟨by decide, by decide, by decide +kernel⟩, by decide⟩
theorem iw_S_turnShadows : Cond.instanceMethod y_S_turnShadows ∈ sm_ws := sm_inT 368 (by decide +kernel) (by decide +kernel)
theorem se_S_turnShadows : Cond.selects RX6 y_S_turnShadows y_S_turnShadows ∈ sm_ws := sm_inS 5 (by decide +kernel) (by decide +kernel)
theorem cw_S_93 : sm_cw RX6 93 y_I_finish b_I_finish 2 none 1 := ⟨sm_inT 378 (by decide +kernel) (by decide +kernel), sm_inT 7 (by decide +kernel) (by decide +kernel), sm_inT 375 (by decide +kernel) (by decide +kernel), ⟨by decide, by decide, by decide +kernel⟩, by decide⟩
theorem iw_I_finish : Cond.instanceMethod y_I_finish ∈ sm_ws := sm_inT 376 (by decide +kernel) (by decide +kernel)
theorem se_I_finish : Cond.selects RX1 y_I_finish y_I_finish ∈ sm_ws := sm_inT 377 (by decide +kernel) (by decide +kernel)
theorem fw_S_97 : sm_fw RX6 97 1 2 := ⟨_, _, _, rfl, in_X1, by decide, sm_inT 141 (by decide +kernel) (by decide +kernel)⟩
theorem pw_S_56 : sm_pw RX6 56 6 9 .int := ⟨_, _, _, tyX6, rfl, in_X6, by decide, sm_inT 166 (by decide +kernel) (by decide +kernel), tyX6_ok, nmX6, rfl, by decide +kernel⟩
theorem fw_S_100 : sm_fw RX6 100 1 4 := ⟨_, _, _, rfl, in_X1, by decide, sm_inT 145 (by decide +kernel) (by decide +kernel)⟩
theorem cw_S_107 : sm_cw RX6 107 y_S_someNodeHasShare b_S_someNodeHasShare 4 (some .boolean) 2 := ⟨sm_inT 396 (by decide +kernel) (by decide +kernel), sm_inT 1 (by decide +kernel) (by decide +kernel), sm_inT 393 (by decide +kernel) (by decide +kernel), ⟨by decide, by decide, by decide +kernel⟩, by decide⟩
theorem iw_S_someNodeHasShare : Cond.instanceMethod y_S_someNodeHasShare ∈ sm_ws := sm_inT 395 (by decide +kernel) (by decide +kernel)
theorem se_S_someNodeHasShare : Cond.selects RX6 y_S_someNodeHasShare y_S_someNodeHasShare ∈ sm_ws := sm_inS 6 (by decide +kernel) (by decide +kernel)
theorem cw_S_111 : sm_cw RX6 111 y_S_dropShadows b_S_dropShadows 3 none 1 := ⟨sm_inT 400 (by decide +kernel) (by decide +kernel), sm_inT 1 (by decide +kernel) (by decide +kernel), sm_inT 397 (by decide +kernel) (by decide +kernel), ⟨by decide, by decide, by decide +kernel⟩, by decide⟩
theorem iw_S_dropShadows : Cond.instanceMethod y_S_dropShadows ∈ sm_ws := sm_inT 399 (by decide +kernel) (by decide +kernel)
theorem se_S_dropShadows : Cond.selects RX6 y_S_dropShadows y_S_dropShadows ∈ sm_ws := sm_inS 7 (by decide +kernel) (by decide +kernel)
theorem cw_S_114 : sm_cw RX6 114 y_S_checkMask b_S_checkMask 1 none 1 := ⟨sm_inT 411 (by decide +kernel) (by decide +kernel), sm_inT 1 (by decide +kernel) (by decide +kernel), sm_inT 409 (by decide +kernel) (by decide +kernel), ⟨by decide, by decide, by decide +kernel⟩, by decide⟩
theorem sw_S_checkMask : Cond.static y_S_checkMask ∈ sm_ws := sm_inT 410 (by decide +kernel) (by decide +kernel)
theorem fw_S_117 : sm_fw RX6 117 1 1 := ⟨_, _, _, rfl, in_X1, by decide, sm_inT 139 (by decide +kernel) (by decide +kernel)⟩
theorem cw_S_123 : sm_cw RX6 123 y_S_liveAndFresh b_S_liveAndFresh 5 (some .int) 2 := ⟨sm_inT 430 (by decide +kernel) (by decide +kernel), sm_inT 1 (by decide +kernel) (by decide +kernel), sm_inT 427 (by decide +kernel) (by decide +kernel), ⟨by decide, by decide, by decide +kernel⟩, by decide⟩
theorem iw_S_liveAndFresh : Cond.instanceMethod y_S_liveAndFresh ∈ sm_ws := sm_inT 429 (by decide +kernel) (by decide +kernel)
theorem se_S_liveAndFresh : Cond.selects RX6 y_S_liveAndFresh y_S_liveAndFresh ∈ sm_ws := sm_inS 8 (by decide +kernel) (by decide +kernel)
theorem cw_S_132 : sm_cw RX6 132 y_S_chooseLowest b_S_chooseLowest 3 none 1 := ⟨sm_inT 444 (by decide +kernel) (by decide +kernel), sm_inT 1 (by decide +kernel) (by decide +kernel), sm_inT 441 (by decide +kernel) (by decide +kernel), ⟨by decide, by decide, by decide +kernel⟩, by decide⟩
theorem iw_S_chooseLowest : Cond.instanceMethod y_S_chooseLowest ∈ sm_ws := sm_inT 443 (by decide +kernel) (by decide +kernel)
theorem se_S_chooseLowest : Cond.selects RX6 y_S_chooseLowest y_S_chooseLowest ∈ sm_ws := sm_inS 10 (by decide +kernel) (by decide +kernel)
theorem fw_S_19 : sm_fw RX6 19 6 1 := ⟨_, _, _, rfl, in_X6, by decide, sm_inT 158 (by decide +kernel) (by decide +kernel)⟩
theorem fw_S_12 : sm_fw RX6 12 6 0 := ⟨_, _, _, rfl, in_X6, by decide, sm_inT 157 (by decide +kernel) (by decide +kernel)⟩
theorem fw_S_25 : sm_fw RX6 25 6 2 := ⟨_, _, _, rfl, in_X6, by decide, sm_inT 159 (by decide +kernel) (by decide +kernel)⟩
theorem fw_S_38 : sm_fw RX6 38 6 4 := ⟨_, _, _, rfl, in_X6, by decide, sm_inT 161 (by decide +kernel) (by decide +kernel)⟩
theorem cw_S_135 : sm_cw RX6 135 y_M_decode b_M_decode 9 none 5 := ⟨sm_inT 456 (by decide +kernel) (by decide +kernel), sm_inT 3 (by decide +kernel) (by decide +kernel), sm_inT 453 (by decide +kernel) (by decide +kernel), ⟨by decide, by decide, by decide +kernel⟩, by decide⟩
theorem iw_M_decode : Cond.instanceMethod y_M_decode ∈ sm_ws := sm_inT 454 (by decide +kernel) (by decide +kernel)
theorem se_M_decode : Cond.selects RX2 y_M_decode y_M_decode ∈ sm_ws := sm_inT 455 (by decide +kernel) (by decide +kernel)
theorem fw_S_49 : sm_fw RX6 49 6 7 := ⟨_, _, _, rfl, in_X6, by decide, sm_inT 164 (by decide +kernel) (by decide +kernel)⟩
theorem cw_S_139 : sm_cw RX6 139 y_M_spill b_M_spill 5 none 2 := ⟨sm_inT 476 (by decide +kernel) (by decide +kernel), sm_inT 3 (by decide +kernel) (by decide +kernel), sm_inT 473 (by decide +kernel) (by decide +kernel), ⟨by decide, by decide, by decide +kernel⟩, by decide⟩
theorem iw_M_spill : Cond.instanceMethod y_M_spill ∈ sm_ws := sm_inT 474 (by decide +kernel) (by decide +kernel)
theorem se_M_spill : Cond.selects RX2 y_M_spill y_M_spill ∈ sm_ws := sm_inT 475 (by decide +kernel) (by decide +kernel)
theorem pw_S_52 : sm_pw RX6 52 6 8 .int := ⟨_, _, _, tyX6, rfl, in_X6, by decide, sm_inT 165 (by decide +kernel) (by decide +kernel), tyX6_ok, nmX6, rfl, by decide +kernel⟩
theorem fw_S_52 : sm_fw RX6 52 6 8 := ⟨_, _, _, rfl, in_X6, by decide, sm_inT 165 (by decide +kernel) (by decide +kernel)⟩
theorem fw_S_143 : sm_fw RX6 143 1 0 := ⟨_, _, _, rfl, in_X1, by decide, sm_inT 137 (by decide +kernel) (by decide +kernel)⟩
theorem cw_S_146 : sm_cw RX6 146 y_S_checkLive b_S_checkLive 2 none 1 := ⟨sm_inT 501 (by decide +kernel) (by decide +kernel), sm_inT 1 (by decide +kernel) (by decide +kernel), sm_inT 498 (by decide +kernel) (by decide +kernel), ⟨by decide, by decide, by decide +kernel⟩, by decide⟩
theorem iw_S_checkLive : Cond.instanceMethod y_S_checkLive ∈ sm_ws := sm_inT 500 (by decide +kernel) (by decide +kernel)
theorem se_S_checkLive : Cond.selects RX6 y_S_checkLive y_S_checkLive ∈ sm_ws := sm_inS 13 (by decide +kernel) (by decide +kernel)
theorem pw_S_149 : sm_pw RX6 149 3 3 .boolean := ⟨_, _, _, tyX3, rfl, in_X3, by decide, sm_inT 117 (by decide +kernel) (by decide +kernel), tyX3_ok, nmX3, rfl, by decide +kernel⟩
theorem fw_S_149 : sm_fw RX6 149 3 3 := ⟨_, _, _, rfl, in_X3, by decide, sm_inT 117 (by decide +kernel) (by decide +kernel)⟩
theorem cw_S_152 : sm_cw RX6 152 y_N_comeBack b_N_comeBack 3 none 1 := ⟨sm_inT 512 (by decide +kernel) (by decide +kernel), sm_inT 5 (by decide +kernel) (by decide +kernel), sm_inT 509 (by decide +kernel) (by decide +kernel), ⟨by decide, by decide, by decide +kernel⟩, by decide⟩
theorem iw_N_comeBack : Cond.instanceMethod y_N_comeBack ∈ sm_ws := sm_inT 510 (by decide +kernel) (by decide +kernel)
theorem se_N_comeBack : Cond.selects RX3 y_N_comeBack y_N_comeBack ∈ sm_ws := sm_inT 511 (by decide +kernel) (by decide +kernel)
theorem cw_S_155 : sm_cw RX6 155 y_S_needsRebuild b_S_needsRebuild 3 (some .boolean) 2 := ⟨sm_inT 523 (by decide +kernel) (by decide +kernel), sm_inT 1 (by decide +kernel) (by decide +kernel), sm_inT 520 (by decide +kernel) (by decide +kernel), ⟨by decide, by decide, by decide +kernel⟩, by decide⟩
theorem iw_S_needsRebuild : Cond.instanceMethod y_S_needsRebuild ∈ sm_ws := sm_inT 522 (by decide +kernel) (by decide +kernel)
theorem se_S_needsRebuild : Cond.selects RX6 y_S_needsRebuild y_S_needsRebuild ∈ sm_ws := sm_inS 14 (by decide +kernel) (by decide +kernel)
theorem cw_S_158 : sm_cw RX6 158 y_S_lacksHelpers b_S_lacksHelpers 3 (some .boolean) 2 := ⟨sm_inT 527 (by decide +kernel) (by decide +kernel), sm_inT 1 (by decide +kernel) (by decide +kernel), sm_inT 524 (by decide +kernel) (by decide +kernel), ⟨by decide, by decide, by decide +kernel⟩, by decide⟩
theorem iw_S_lacksHelpers : Cond.instanceMethod y_S_lacksHelpers ∈ sm_ws := sm_inT 526 (by decide +kernel) (by decide +kernel)
theorem se_S_lacksHelpers : Cond.selects RX6 y_S_lacksHelpers y_S_lacksHelpers ∈ sm_ws := sm_inS 15 (by decide +kernel) (by decide +kernel)
theorem cw_S_161 : sm_cw RX6 161 y_S_rebuildShare b_S_rebuildShare 8 (some .int) 3 := ⟨sm_inT 531 (by decide +kernel) (by decide +kernel), sm_inT 1 (by decide +kernel) (by decide +kernel), sm_inT 528 (by decide +kernel) (by decide +kernel), ⟨by decide, by decide, by decide +kernel⟩, by decide⟩
theorem iw_S_rebuildShare : Cond.instanceMethod y_S_rebuildShare ∈ sm_ws := sm_inT 530 (by decide +kernel) (by decide +kernel)
theorem se_S_rebuildShare : Cond.selects RX6 y_S_rebuildShare y_S_rebuildShare ∈ sm_ws := sm_inS 16 (by decide +kernel) (by decide +kernel)
theorem fw_S_165 : sm_fw RX6 165 3 4 := ⟨_, _, _, rfl, in_X3, by decide, sm_inT 119 (by decide +kernel) (by decide +kernel)⟩
theorem cw_S_168 : sm_cw RX6 168 y_S_countFresh b_S_countFresh 4 (some .int) 1 := ⟨sm_inT 560 (by decide +kernel) (by decide +kernel), sm_inT 1 (by decide +kernel) (by decide +kernel), sm_inT 557 (by decide +kernel) (by decide +kernel), ⟨by decide, by decide, by decide +kernel⟩, by decide⟩
theorem iw_S_countFresh : Cond.instanceMethod y_S_countFresh ∈ sm_ws := sm_inT 559 (by decide +kernel) (by decide +kernel)
theorem se_S_countFresh : Cond.selects RX6 y_S_countFresh y_S_countFresh ∈ sm_ws := sm_inS 20 (by decide +kernel) (by decide +kernel)
theorem cw_S_171 : sm_cw RX6 171 y_N_countShadows b_N_countShadows 3 (some .int) 0 := ⟨sm_inT 564 (by decide +kernel) (by decide +kernel), sm_inT 5 (by decide +kernel) (by decide +kernel), sm_inT 561 (by decide +kernel) (by decide +kernel), ⟨by decide, by decide, by decide +kernel⟩, by decide⟩
theorem iw_N_countShadows : Cond.instanceMethod y_N_countShadows ∈ sm_ws := sm_inT 562 (by decide +kernel) (by decide +kernel)
theorem se_N_countShadows : Cond.selects RX3 y_N_countShadows y_N_countShadows ∈ sm_ws := sm_inT 563 (by decide +kernel) (by decide +kernel)
theorem fw_S_174 : sm_fw RX6 174 3 1 := ⟨_, _, _, rfl, in_X3, by decide, sm_inT 113 (by decide +kernel) (by decide +kernel)⟩
theorem fw_S_178 : sm_fw RX6 178 4 0 := ⟨_, _, _, rfl, in_X4, by decide, sm_inT 95 (by decide +kernel) (by decide +kernel)⟩
theorem fw_S_183 : sm_fw RX6 183 4 1 := ⟨_, _, _, rfl, in_X4, by decide, sm_inT 98 (by decide +kernel) (by decide +kernel)⟩
theorem cw_S_184 : sm_cw RX6 184 y_S_stripesOf b_S_stripesOf 1 (some .int) 1 := ⟨sm_inT 345 (by decide +kernel) (by decide +kernel), sm_inT 1 (by decide +kernel) (by decide +kernel), sm_inT 532 (by decide +kernel) (by decide +kernel), ⟨by decide, by decide, by decide +kernel⟩, by decide⟩
theorem fw_S_187 : sm_fw RX6 187 4 2 := ⟨_, _, _, rfl, in_X4, by decide, sm_inT 101 (by decide +kernel) (by decide +kernel)⟩
theorem cw_S_190 : sm_cw RX6 190 y_S_isByte b_S_isByte 1 (some .boolean) 1 := ⟨sm_inT 588 (by decide +kernel) (by decide +kernel), sm_inT 1 (by decide +kernel) (by decide +kernel), sm_inT 586 (by decide +kernel) (by decide +kernel), ⟨by decide, by decide, by decide +kernel⟩, by decide⟩
theorem sw_S_isByte : Cond.static y_S_isByte ∈ sm_ws := sm_inT 587 (by decide +kernel) (by decide +kernel)
theorem cw_S_194 : sm_cw RX6 194 y_G_times b_G_times 3 (some .int) 2 := ⟨sm_inT 365 (by decide +kernel) (by decide +kernel), sm_inT 2 (by decide +kernel) (by decide +kernel), sm_inT 589 (by decide +kernel) (by decide +kernel), ⟨by decide, by decide, by decide +kernel⟩, by decide⟩
theorem cw_S_197 : sm_cw RX6 197 y_G_over b_G_over 3 (some .int) 2 := ⟨sm_inT 468 (by decide +kernel) (by decide +kernel), sm_inT 2 (by decide +kernel) (by decide +kernel), sm_inT 590 (by decide +kernel) (by decide +kernel), ⟨by decide, by decide, by decide +kernel⟩, by decide⟩
theorem cw_S_203 : sm_cw RX6 203 y_S_isFresh b_S_isFresh 3 (some .boolean) 2 := ⟨sm_inT 434 (by decide +kernel) (by decide +kernel), sm_inT 1 (by decide +kernel) (by decide +kernel), sm_inT 431 (by decide +kernel) (by decide +kernel), ⟨by decide, by decide, by decide +kernel⟩, by decide⟩
theorem iw_S_isFresh : Cond.instanceMethod y_S_isFresh ∈ sm_ws := sm_inT 433 (by decide +kernel) (by decide +kernel)
theorem se_S_isFresh : Cond.selects RX6 y_S_isFresh y_S_isFresh ∈ sm_ws := sm_inS 9 (by decide +kernel) (by decide +kernel)
theorem fw_S_56 : sm_fw RX6 56 6 9 := ⟨_, _, _, rfl, in_X6, by decide, sm_inT 166 (by decide +kernel) (by decide +kernel)⟩
theorem fw_S_206 : sm_fw RX6 206 1 3 := ⟨_, _, _, rfl, in_X1, by decide, sm_inT 143 (by decide +kernel) (by decide +kernel)⟩
theorem cw_S_209 : sm_cw RX6 209 y_M_fill b_M_fill 9 none 2 := ⟨sm_inT 342 (by decide +kernel) (by decide +kernel), sm_inT 3 (by decide +kernel) (by decide +kernel), sm_inT 339 (by decide +kernel) (by decide +kernel), ⟨by decide, by decide, by decide +kernel⟩, by decide⟩
theorem iw_M_fill : Cond.instanceMethod y_M_fill ∈ sm_ws := sm_inT 340 (by decide +kernel) (by decide +kernel)
theorem se_M_fill : Cond.selects RX2 y_M_fill y_M_fill ∈ sm_ws := sm_inT 341 (by decide +kernel) (by decide +kernel)
theorem fw_S_212 : sm_fw RX6 212 3 2 := ⟨_, _, _, rfl, in_X3, by decide, sm_inT 115 (by decide +kernel) (by decide +kernel)⟩
theorem cw_S_215 : sm_cw RX6 215 y_H_become b_H_become 3 none 2 := ⟨sm_inT 353 (by decide +kernel) (by decide +kernel), sm_inT 6 (by decide +kernel) (by decide +kernel), sm_inT 350 (by decide +kernel) (by decide +kernel), ⟨by decide, by decide, by decide +kernel⟩, by decide⟩
theorem fw_S_218 : sm_fw RX6 218 3 0 := ⟨_, _, _, rfl, in_X3, by decide, sm_inT 110 (by decide +kernel) (by decide +kernel)⟩
theorem cw_S_221 : sm_cw RX6 221 y_M_encode b_M_encode 6 none 3 := ⟨sm_inT 357 (by decide +kernel) (by decide +kernel), sm_inT 3 (by decide +kernel) (by decide +kernel), sm_inT 354 (by decide +kernel) (by decide +kernel), ⟨by decide, by decide, by decide +kernel⟩, by decide⟩
theorem iw_M_encode : Cond.instanceMethod y_M_encode ∈ sm_ws := sm_inT 355 (by decide +kernel) (by decide +kernel)
theorem se_M_encode : Cond.selects RX2 y_M_encode y_M_encode ∈ sm_ws := sm_inT 356 (by decide +kernel) (by decide +kernel)
theorem cw_S_225 : sm_cw RX6 225 y_N_turnShadow b_N_turnShadow 3 none 1 := ⟨sm_inT 373 (by decide +kernel) (by decide +kernel), sm_inT 5 (by decide +kernel) (by decide +kernel), sm_inT 370 (by decide +kernel) (by decide +kernel), ⟨by decide, by decide, by decide +kernel⟩, by decide⟩
theorem iw_N_turnShadow : Cond.instanceMethod y_N_turnShadow ∈ sm_ws := sm_inT 371 (by decide +kernel) (by decide +kernel)
theorem se_N_turnShadow : Cond.selects RX3 y_N_turnShadow y_N_turnShadow ∈ sm_ws := sm_inT 372 (by decide +kernel) (by decide +kernel)
theorem cw_S_228 : sm_cw RX6 228 y_S_chooseLeastSent b_S_chooseLeastSent 5 none 1 := ⟨sm_inT 536 (by decide +kernel) (by decide +kernel), sm_inT 1 (by decide +kernel) (by decide +kernel), sm_inT 533 (by decide +kernel) (by decide +kernel), ⟨by decide, by decide, by decide +kernel⟩, by decide⟩
theorem iw_S_chooseLeastSent : Cond.instanceMethod y_S_chooseLeastSent ∈ sm_ws := sm_inT 535 (by decide +kernel) (by decide +kernel)
theorem se_S_chooseLeastSent : Cond.selects RX6 y_S_chooseLeastSent y_S_chooseLeastSent ∈ sm_ws := sm_inS 17 (by decide +kernel) (by decide +kernel)
theorem cw_S_231 : sm_cw RX6 231 y_S_askHelpers b_S_askHelpers 6 none 3 := ⟨sm_inT 544 (by decide +kernel) (by decide +kernel), sm_inT 1 (by decide +kernel) (by decide +kernel), sm_inT 541 (by decide +kernel) (by decide +kernel), ⟨by decide, by decide, by decide +kernel⟩, by decide⟩
theorem iw_S_askHelpers : Cond.instanceMethod y_S_askHelpers ∈ sm_ws := sm_inT 543 (by decide +kernel) (by decide +kernel)
theorem se_S_askHelpers : Cond.selects RX6 y_S_askHelpers y_S_askHelpers ∈ sm_ws := sm_inS 19 (by decide +kernel) (by decide +kernel)
theorem fw_S_235 : sm_fw RX6 235 5 1 := ⟨_, _, _, rfl, in_X5, by decide, sm_inT 71 (by decide +kernel) (by decide +kernel)⟩
theorem fw_S_42 : sm_fw RX6 42 6 5 := ⟨_, _, _, rfl, in_X6, by decide, sm_inT 162 (by decide +kernel) (by decide +kernel)⟩
theorem cw_S_238 : sm_cw RX6 238 y_G_interpolate b_G_interpolate 6 none 3 := ⟨sm_inT 464 (by decide +kernel) (by decide +kernel), sm_inT 2 (by decide +kernel) (by decide +kernel), sm_inT 546 (by decide +kernel) (by decide +kernel), ⟨by decide, by decide, by decide +kernel⟩, by decide⟩
theorem fw_S_248 : sm_fw RX6 248 5 0 := ⟨_, _, _, rfl, in_X5, by decide, sm_inT 68 (by decide +kernel) (by decide +kernel)⟩
theorem cw_S_251 : sm_cw RX6 251 y_G_valueAt b_G_valueAt 6 (some .int) 3 := ⟨sm_inT 361 (by decide +kernel) (by decide +kernel), sm_inT 2 (by decide +kernel) (by decide +kernel), sm_inT 545 (by decide +kernel) (by decide +kernel), ⟨by decide, by decide, by decide +kernel⟩, by decide⟩
theorem pw_S_165 : sm_pw RX6 165 3 4 .int := ⟨_, _, _, tyX3, rfl, in_X3, by decide, sm_inT 119 (by decide +kernel) (by decide +kernel), tyX3_ok, nmX3, rfl, by decide +kernel⟩
theorem cw_S_255 : sm_cw RX6 255 y_T_clear b_T_clear 1 none 0 := ⟨sm_inT 448 (by decide +kernel) (by decide +kernel), sm_inT 4 (by decide +kernel) (by decide +kernel), sm_inT 445 (by decide +kernel) (by decide +kernel), ⟨by decide, by decide, by decide +kernel⟩, by decide⟩
theorem iw_T_clear : Cond.instanceMethod y_T_clear ∈ sm_ws := sm_inT 446 (by decide +kernel) (by decide +kernel)
theorem se_T_clear : Cond.selects RX5 y_T_clear y_T_clear ∈ sm_ws := sm_inT 447 (by decide +kernel) (by decide +kernel)
theorem fw_S_258 : sm_fw RX6 258 5 2 := ⟨_, _, _, rfl, in_X5, by decide, sm_inT 73 (by decide +kernel) (by decide +kernel)⟩
theorem cw_S_261 : sm_cw RX6 261 y_T_add b_T_add 2 none 1 := ⟨sm_inT 452 (by decide +kernel) (by decide +kernel), sm_inT 4 (by decide +kernel) (by decide +kernel), sm_inT 449 (by decide +kernel) (by decide +kernel), ⟨by decide, by decide, by decide +kernel⟩, by decide⟩
theorem iw_T_add : Cond.instanceMethod y_T_add ∈ sm_ws := sm_inT 450 (by decide +kernel) (by decide +kernel)
theorem se_T_add : Cond.selects RX5 y_T_add y_T_add ∈ sm_ws := sm_inT 451 (by decide +kernel) (by decide +kernel)
theorem cw_S_264 : sm_cw RX6 264 y_S_leastSent b_S_leastSent 5 (some .int) 1 := ⟨sm_inT 540 (by decide +kernel) (by decide +kernel), sm_inT 1 (by decide +kernel) (by decide +kernel), sm_inT 537 (by decide +kernel) (by decide +kernel), ⟨by decide, by decide, by decide +kernel⟩, by decide⟩
theorem iw_S_leastSent : Cond.instanceMethod y_S_leastSent ∈ sm_ws := sm_inT 539 (by decide +kernel) (by decide +kernel)
theorem se_S_leastSent : Cond.selects RX6 y_S_leastSent y_S_leastSent ∈ sm_ws := sm_inS 18 (by decide +kernel) (by decide +kernel)
