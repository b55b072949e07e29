/-! The law: what it decodes to, its words -/
theorem d_L_load_0 : decode b_L_load 0 = .ok (.aload_n 0, 1) := by decide +kernel
theorem d_L_load_1 : decode b_L_load 1 = .ok (.iload_n 1, 1) := by decide +kernel
theorem d_L_load_2 : decode b_L_load 2 = .ok (.iload_n 2, 1) := by decide +kernel
theorem d_L_load_3 : decode b_L_load 3 = .ok (.invokevirtual 7, 3) := by decide +kernel
theorem cw_L_7 : sm_cw RL 7 y_S_load b_S_load 4 none 2 := ⟨sm_inT 195 (by decide +kernel) (by decide +kernel), sm_inT 1 (by decide +kernel) (by decide +kernel), sm_inT 192 (by decide +kernel) (by decide +kernel), ⟨by decide, by decide, by decide +kernel⟩, by decide⟩
theorem iw_S_load : Cond.instanceMethod y_S_load ∈ sm_ws := sm_inT 193 (by decide +kernel) (by decide +kernel)
theorem se_S_load : Cond.selects RX6 y_S_load y_S_load ∈ sm_ws := sm_inT 194 (by decide +kernel) (by decide +kernel)
theorem d_L_load_6 : decode b_L_load 6 = .ok (.goto (6), 3) := by decide +kernel
theorem d_L_load_9 : decode b_L_load 9 = .ok (.astore_n 3, 1) := by decide +kernel
theorem d_L_load_10 : decode b_L_load 10 = .ok (.iconst (1), 1) := by decide +kernel
theorem d_L_load_11 : decode b_L_load 11 = .ok (.ireturn, 1) := by decide +kernel
theorem d_L_load_12 : decode b_L_load 12 = .ok (.iconst (0), 1) := by decide +kernel
theorem d_L_load_13 : decode b_L_load 13 = .ok (.ireturn, 1) := by decide +kernel
theorem cl_L_13 : Cond.classLink RL 13 "java/lang/IndexOutOfBoundsException" ∈ sm_ws := sm_inT 191 (by decide +kernel) (by decide +kernel)
theorem d_L_put_0 : decode b_L_put 0 = .ok (.aload_n 3, 1) := by decide +kernel
theorem d_L_put_1 : decode b_L_put 1 = .ok (.iconst (0), 1) := by decide +kernel
theorem d_L_put_2 : decode b_L_put 2 = .ok (.aload_n 0, 1) := by decide +kernel
theorem d_L_put_3 : decode b_L_put 3 = .ok (.iload_n 1, 1) := by decide +kernel
theorem d_L_put_4 : decode b_L_put 4 = .ok (.iload_n 2, 1) := by decide +kernel
theorem d_L_put_5 : decode b_L_put 5 = .ok (.invokevirtual 15, 3) := by decide +kernel
theorem cw_L_15 : sm_cw RL 15 y_S_put b_S_put 6 (some .int) 2 := ⟨sm_inT 273 (by decide +kernel) (by decide +kernel), sm_inT 1 (by decide +kernel) (by decide +kernel), sm_inT 270 (by decide +kernel) (by decide +kernel), ⟨by decide, by decide, by decide +kernel⟩, by decide⟩
theorem iw_S_put : Cond.instanceMethod y_S_put ∈ sm_ws := sm_inT 271 (by decide +kernel) (by decide +kernel)
theorem se_S_put : Cond.selects RX6 y_S_put y_S_put ∈ sm_ws := sm_inT 272 (by decide +kernel) (by decide +kernel)
theorem d_L_put_8 : decode b_L_put 8 = .ok (.i2l, 1) := by decide +kernel
theorem d_L_put_9 : decode b_L_put 9 = .ok (.lastore, 1) := by decide +kernel
theorem d_L_put_10 : decode b_L_put 10 = .ok (.goto (19), 3) := by decide +kernel
theorem d_L_put_13 : decode b_L_put 13 = .ok (.astore 4, 2) := by decide +kernel
theorem d_L_put_15 : decode b_L_put 15 = .ok (.iconst (1), 1) := by decide +kernel
theorem d_L_put_16 : decode b_L_put 16 = .ok (.ireturn, 1) := by decide +kernel
theorem d_L_put_17 : decode b_L_put 17 = .ok (.astore 4, 2) := by decide +kernel
theorem d_L_put_19 : decode b_L_put 19 = .ok (.iconst (2), 1) := by decide +kernel
theorem d_L_put_20 : decode b_L_put 20 = .ok (.ireturn, 1) := by decide +kernel
theorem d_L_put_21 : decode b_L_put 21 = .ok (.astore 4, 2) := by decide +kernel
theorem d_L_put_23 : decode b_L_put 23 = .ok (.iconst (3), 1) := by decide +kernel
theorem d_L_put_24 : decode b_L_put 24 = .ok (.ireturn, 1) := by decide +kernel
theorem d_L_put_25 : decode b_L_put 25 = .ok (.astore 4, 2) := by decide +kernel
theorem d_L_put_27 : decode b_L_put 27 = .ok (.iconst (4), 1) := by decide +kernel
theorem d_L_put_28 : decode b_L_put 28 = .ok (.ireturn, 1) := by decide +kernel
theorem d_L_put_29 : decode b_L_put 29 = .ok (.iconst (0), 1) := by decide +kernel
theorem d_L_put_30 : decode b_L_put 30 = .ok (.ireturn, 1) := by decide +kernel
theorem cl_L_19 : Cond.classLink RL 19 "java/lang/IllegalArgumentException" ∈ sm_ws := sm_inT 267 (by decide +kernel) (by decide +kernel)
theorem cl_L_21 : Cond.classLink RL 21 "java/lang/IllegalStateException" ∈ sm_ws := sm_inT 268 (by decide +kernel) (by decide +kernel)
theorem cl_L_23 : Cond.classLink RL 23 "java/lang/UnsupportedOperationException" ∈ sm_ws := sm_inT 269 (by decide +kernel) (by decide +kernel)
theorem d_L_cut_0 : decode b_L_cut 0 = .ok (.aload_n 0, 1) := by decide +kernel
theorem d_L_cut_1 : decode b_L_cut 1 = .ok (.iload_n 1, 1) := by decide +kernel
theorem d_L_cut_2 : decode b_L_cut 2 = .ok (.invokevirtual 25, 3) := by decide +kernel
theorem cw_L_25 : sm_cw RL 25 y_S_cut b_S_cut 2 none 1 := ⟨sm_inT 385 (by decide +kernel) (by decide +kernel), sm_inT 1 (by decide +kernel) (by decide +kernel), sm_inT 382 (by decide +kernel) (by decide +kernel), ⟨by decide, by decide, by decide +kernel⟩, by decide⟩
theorem iw_S_cut : Cond.instanceMethod y_S_cut ∈ sm_ws := sm_inT 383 (by decide +kernel) (by decide +kernel)
theorem se_S_cut : Cond.selects RX6 y_S_cut y_S_cut ∈ sm_ws := sm_inT 384 (by decide +kernel) (by decide +kernel)
theorem d_L_cut_5 : decode b_L_cut 5 = .ok (.goto (6), 3) := by decide +kernel
theorem d_L_cut_8 : decode b_L_cut 8 = .ok (.astore_n 2, 1) := by decide +kernel
theorem d_L_cut_9 : decode b_L_cut 9 = .ok (.iconst (1), 1) := by decide +kernel
theorem d_L_cut_10 : decode b_L_cut 10 = .ok (.ireturn, 1) := by decide +kernel
theorem d_L_cut_11 : decode b_L_cut 11 = .ok (.iconst (0), 1) := by decide +kernel
theorem d_L_cut_12 : decode b_L_cut 12 = .ok (.ireturn, 1) := by decide +kernel
theorem d_L_settle_0 : decode b_L_settle 0 = .ok (.aload_n 2, 1) := by decide +kernel
theorem d_L_settle_1 : decode b_L_settle 1 = .ok (.iconst (0), 1) := by decide +kernel
theorem d_L_settle_2 : decode b_L_settle 2 = .ok (.aload_n 0, 1) := by decide +kernel
theorem d_L_settle_3 : decode b_L_settle 3 = .ok (.iload_n 1, 1) := by decide +kernel
theorem d_L_settle_4 : decode b_L_settle 4 = .ok (.invokevirtual 29, 3) := by decide +kernel
theorem cw_L_29 : sm_cw RL 29 y_S_settle b_S_settle 4 (some .boolean) 1 := ⟨sm_inT 392 (by decide +kernel) (by decide +kernel), sm_inT 1 (by decide +kernel) (by decide +kernel), sm_inT 389 (by decide +kernel) (by decide +kernel), ⟨by decide, by decide, by decide +kernel⟩, by decide⟩
theorem iw_S_settle : Cond.instanceMethod y_S_settle ∈ sm_ws := sm_inT 390 (by decide +kernel) (by decide +kernel)
theorem se_S_settle : Cond.selects RX6 y_S_settle y_S_settle ∈ sm_ws := sm_inT 391 (by decide +kernel) (by decide +kernel)
theorem d_L_settle_7 : decode b_L_settle 7 = .ok (.ifCond .eq (7), 3) := by decide +kernel
theorem d_L_settle_10 : decode b_L_settle 10 = .ok (.lconst 1, 1) := by decide +kernel
theorem d_L_settle_11 : decode b_L_settle 11 = .ok (.goto (4), 3) := by decide +kernel
theorem d_L_settle_14 : decode b_L_settle 14 = .ok (.lconst 0, 1) := by decide +kernel
theorem d_L_settle_15 : decode b_L_settle 15 = .ok (.lastore, 1) := by decide +kernel
theorem d_L_settle_16 : decode b_L_settle 16 = .ok (.goto (9), 3) := by decide +kernel
theorem d_L_settle_19 : decode b_L_settle 19 = .ok (.astore_n 3, 1) := by decide +kernel
theorem d_L_settle_20 : decode b_L_settle 20 = .ok (.iconst (1), 1) := by decide +kernel
theorem d_L_settle_21 : decode b_L_settle 21 = .ok (.ireturn, 1) := by decide +kernel
theorem d_L_settle_22 : decode b_L_settle 22 = .ok (.astore_n 3, 1) := by decide +kernel
theorem d_L_settle_23 : decode b_L_settle 23 = .ok (.iconst (2), 1) := by decide +kernel
theorem d_L_settle_24 : decode b_L_settle 24 = .ok (.ireturn, 1) := by decide +kernel
theorem d_L_settle_25 : decode b_L_settle 25 = .ok (.iconst (0), 1) := by decide +kernel
theorem d_L_settle_26 : decode b_L_settle 26 = .ok (.ireturn, 1) := by decide +kernel
theorem d_L_get_0 : decode b_L_get 0 = .ok (.aload_n 3, 1) := by decide +kernel
theorem d_L_get_1 : decode b_L_get 1 = .ok (.iconst (0), 1) := by decide +kernel
theorem d_L_get_2 : decode b_L_get 2 = .ok (.aload_n 0, 1) := by decide +kernel
theorem d_L_get_3 : decode b_L_get 3 = .ok (.iload_n 1, 1) := by decide +kernel
theorem d_L_get_4 : decode b_L_get 4 = .ok (.iload_n 2, 1) := by decide +kernel
theorem d_L_get_5 : decode b_L_get 5 = .ok (.invokevirtual 33, 3) := by decide +kernel
theorem cw_L_33 : sm_cw RL 33 y_S_get b_S_get 5 (some .int) 2 := ⟨sm_inT 408 (by decide +kernel) (by decide +kernel), sm_inT 1 (by decide +kernel) (by decide +kernel), sm_inT 405 (by decide +kernel) (by decide +kernel), ⟨by decide, by decide, by decide +kernel⟩, by decide⟩
theorem iw_S_get : Cond.instanceMethod y_S_get ∈ sm_ws := sm_inT 406 (by decide +kernel) (by decide +kernel)
theorem se_S_get : Cond.selects RX6 y_S_get y_S_get ∈ sm_ws := sm_inT 407 (by decide +kernel) (by decide +kernel)
theorem d_L_get_8 : decode b_L_get 8 = .ok (.i2l, 1) := by decide +kernel
theorem d_L_get_9 : decode b_L_get 9 = .ok (.lastore, 1) := by decide +kernel
theorem d_L_get_10 : decode b_L_get 10 = .ok (.goto (23), 3) := by decide +kernel
theorem d_L_get_13 : decode b_L_get 13 = .ok (.astore 4, 2) := by decide +kernel
theorem d_L_get_15 : decode b_L_get 15 = .ok (.iconst (1), 1) := by decide +kernel
theorem d_L_get_16 : decode b_L_get 16 = .ok (.ireturn, 1) := by decide +kernel
theorem d_L_get_17 : decode b_L_get 17 = .ok (.astore 4, 2) := by decide +kernel
theorem d_L_get_19 : decode b_L_get 19 = .ok (.iconst (2), 1) := by decide +kernel
theorem d_L_get_20 : decode b_L_get 20 = .ok (.ireturn, 1) := by decide +kernel
theorem d_L_get_21 : decode b_L_get 21 = .ok (.astore 4, 2) := by decide +kernel
theorem d_L_get_23 : decode b_L_get 23 = .ok (.iconst (3), 1) := by decide +kernel
theorem d_L_get_24 : decode b_L_get 24 = .ok (.ireturn, 1) := by decide +kernel
theorem d_L_get_25 : decode b_L_get 25 = .ok (.astore 4, 2) := by decide +kernel
theorem d_L_get_27 : decode b_L_get 27 = .ok (.iconst (4), 1) := by decide +kernel
theorem d_L_get_28 : decode b_L_get 28 = .ok (.ireturn, 1) := by decide +kernel
theorem d_L_get_29 : decode b_L_get 29 = .ok (.astore 4, 2) := by decide +kernel
theorem d_L_get_31 : decode b_L_get 31 = .ok (.iconst (5), 1) := by decide +kernel
theorem d_L_get_32 : decode b_L_get 32 = .ok (.ireturn, 1) := by decide +kernel
theorem d_L_get_33 : decode b_L_get 33 = .ok (.iconst (0), 1) := by decide +kernel
theorem d_L_get_34 : decode b_L_get 34 = .ok (.ireturn, 1) := by decide +kernel
theorem cl_L_36 : Cond.classLink RL 36 "java/util/NoSuchElementException" ∈ sm_ws := sm_inT 404 (by decide +kernel) (by decide +kernel)
theorem d_L_out_0 : decode b_L_out 0 = .ok (.aload_n 2, 1) := by decide +kernel
theorem d_L_out_1 : decode b_L_out 1 = .ok (.iconst (0), 1) := by decide +kernel
theorem d_L_out_2 : decode b_L_out 2 = .ok (.aload_n 0, 1) := by decide +kernel
theorem d_L_out_3 : decode b_L_out 3 = .ok (.iload_n 1, 1) := by decide +kernel
theorem d_L_out_4 : decode b_L_out 4 = .ok (.invokevirtual 38, 3) := by decide +kernel
theorem cw_L_38 : sm_cw RL 38 y_S_out b_S_out 2 (some .int) 1 := ⟨sm_inT 483 (by decide +kernel) (by decide +kernel), sm_inT 1 (by decide +kernel) (by decide +kernel), sm_inT 480 (by decide +kernel) (by decide +kernel), ⟨by decide, by decide, by decide +kernel⟩, by decide⟩
theorem iw_S_out : Cond.instanceMethod y_S_out ∈ sm_ws := sm_inT 481 (by decide +kernel) (by decide +kernel)
theorem se_S_out : Cond.selects RX6 y_S_out y_S_out ∈ sm_ws := sm_inT 482 (by decide +kernel) (by decide +kernel)
theorem d_L_out_7 : decode b_L_out 7 = .ok (.i2l, 1) := by decide +kernel
theorem d_L_out_8 : decode b_L_out 8 = .ok (.lastore, 1) := by decide +kernel
theorem d_L_out_9 : decode b_L_out 9 = .ok (.goto (6), 3) := by decide +kernel
theorem d_L_out_12 : decode b_L_out 12 = .ok (.astore_n 3, 1) := by decide +kernel
theorem d_L_out_13 : decode b_L_out 13 = .ok (.iconst (1), 1) := by decide +kernel
theorem d_L_out_14 : decode b_L_out 14 = .ok (.ireturn, 1) := by decide +kernel
theorem d_L_out_15 : decode b_L_out 15 = .ok (.iconst (0), 1) := by decide +kernel
theorem d_L_out_16 : decode b_L_out 16 = .ok (.ireturn, 1) := by decide +kernel
theorem d_L_object_0 : decode b_L_object 0 = .ok (.aload_n 3, 1) := by decide +kernel
theorem d_L_object_1 : decode b_L_object 1 = .ok (.iconst (0), 1) := by decide +kernel
theorem d_L_object_2 : decode b_L_object 2 = .ok (.aload_n 0, 1) := by decide +kernel
theorem d_L_object_3 : decode b_L_object 3 = .ok (.iload_n 1, 1) := by decide +kernel
theorem d_L_object_4 : decode b_L_object 4 = .ok (.iload_n 2, 1) := by decide +kernel
theorem d_L_object_5 : decode b_L_object 5 = .ok (.invokevirtual 42, 3) := by decide +kernel
theorem cw_L_42 : sm_cw RL 42 y_S_object b_S_object 4 (some .int) 2 := ⟨sm_inT 490 (by decide +kernel) (by decide +kernel), sm_inT 1 (by decide +kernel) (by decide +kernel), sm_inT 487 (by decide +kernel) (by decide +kernel), ⟨by decide, by decide, by decide +kernel⟩, by decide⟩
theorem iw_S_object : Cond.instanceMethod y_S_object ∈ sm_ws := sm_inT 488 (by decide +kernel) (by decide +kernel)
theorem se_S_object : Cond.selects RX6 y_S_object y_S_object ∈ sm_ws := sm_inT 489 (by decide +kernel) (by decide +kernel)
theorem d_L_object_8 : decode b_L_object 8 = .ok (.i2l, 1) := by decide +kernel
theorem d_L_object_9 : decode b_L_object 9 = .ok (.lastore, 1) := by decide +kernel
theorem d_L_object_10 : decode b_L_object 10 = .ok (.goto (7), 3) := by decide +kernel
theorem d_L_object_13 : decode b_L_object 13 = .ok (.astore 4, 2) := by decide +kernel
theorem d_L_object_15 : decode b_L_object 15 = .ok (.iconst (1), 1) := by decide +kernel
theorem d_L_object_16 : decode b_L_object 16 = .ok (.ireturn, 1) := by decide +kernel
theorem d_L_object_17 : decode b_L_object 17 = .ok (.iconst (0), 1) := by decide +kernel
theorem d_L_object_18 : decode b_L_object 18 = .ok (.ireturn, 1) := by decide +kernel
theorem d_L_fail_0 : decode b_L_fail 0 = .ok (.aload_n 0, 1) := by decide +kernel
theorem d_L_fail_1 : decode b_L_fail 1 = .ok (.iload_n 1, 1) := by decide +kernel
theorem d_L_fail_2 : decode b_L_fail 2 = .ok (.invokevirtual 45, 3) := by decide +kernel
theorem cw_L_45 : sm_cw RL 45 y_S_fail b_S_fail 2 none 1 := ⟨sm_inT 497 (by decide +kernel) (by decide +kernel), sm_inT 1 (by decide +kernel) (by decide +kernel), sm_inT 494 (by decide +kernel) (by decide +kernel), ⟨by decide, by decide, by decide +kernel⟩, by decide⟩
theorem iw_S_fail : Cond.instanceMethod y_S_fail ∈ sm_ws := sm_inT 495 (by decide +kernel) (by decide +kernel)
theorem se_S_fail : Cond.selects RX6 y_S_fail y_S_fail ∈ sm_ws := sm_inT 496 (by decide +kernel) (by decide +kernel)
theorem d_L_fail_5 : decode b_L_fail 5 = .ok (.goto (9), 3) := by decide +kernel
theorem d_L_fail_8 : decode b_L_fail 8 = .ok (.astore_n 2, 1) := by decide +kernel
theorem d_L_fail_9 : decode b_L_fail 9 = .ok (.iconst (1), 1) := by decide +kernel
theorem d_L_fail_10 : decode b_L_fail 10 = .ok (.ireturn, 1) := by decide +kernel
theorem d_L_fail_11 : decode b_L_fail 11 = .ok (.astore_n 2, 1) := by decide +kernel
theorem d_L_fail_12 : decode b_L_fail 12 = .ok (.iconst (2), 1) := by decide +kernel
theorem d_L_fail_13 : decode b_L_fail 13 = .ok (.ireturn, 1) := by decide +kernel
theorem d_L_fail_14 : decode b_L_fail 14 = .ok (.iconst (0), 1) := by decide +kernel
theorem d_L_fail_15 : decode b_L_fail 15 = .ok (.ireturn, 1) := by decide +kernel
theorem d_L_back_0 : decode b_L_back 0 = .ok (.aload_n 0, 1) := by decide +kernel
theorem d_L_back_1 : decode b_L_back 1 = .ok (.iload_n 1, 1) := by decide +kernel
theorem d_L_back_2 : decode b_L_back 2 = .ok (.iload_n 2, 1) := by decide +kernel
theorem d_L_back_3 : decode b_L_back 3 = .ok (.invokevirtual 48, 3) := by decide +kernel
theorem cw_L_48 : sm_cw RL 48 y_S_back b_S_back 3 none 2 := ⟨sm_inT 508 (by decide +kernel) (by decide +kernel), sm_inT 1 (by decide +kernel) (by decide +kernel), sm_inT 505 (by decide +kernel) (by decide +kernel), ⟨by decide, by decide, by decide +kernel⟩, by decide⟩
theorem iw_S_back : Cond.instanceMethod y_S_back ∈ sm_ws := sm_inT 506 (by decide +kernel) (by decide +kernel)
theorem se_S_back : Cond.selects RX6 y_S_back y_S_back ∈ sm_ws := sm_inT 507 (by decide +kernel) (by decide +kernel)
theorem d_L_back_6 : decode b_L_back 6 = .ok (.goto (9), 3) := by decide +kernel
theorem d_L_back_9 : decode b_L_back 9 = .ok (.astore_n 3, 1) := by decide +kernel
theorem d_L_back_10 : decode b_L_back 10 = .ok (.iconst (1), 1) := by decide +kernel
theorem d_L_back_11 : decode b_L_back 11 = .ok (.ireturn, 1) := by decide +kernel
theorem d_L_back_12 : decode b_L_back 12 = .ok (.astore_n 3, 1) := by decide +kernel
theorem d_L_back_13 : decode b_L_back 13 = .ok (.iconst (2), 1) := by decide +kernel
theorem d_L_back_14 : decode b_L_back 14 = .ok (.ireturn, 1) := by decide +kernel
theorem d_L_back_15 : decode b_L_back 15 = .ok (.iconst (0), 1) := by decide +kernel
theorem d_L_back_16 : decode b_L_back 16 = .ok (.ireturn, 1) := by decide +kernel
theorem d_L_rebuild_0 : decode b_L_rebuild 0 = .ok (.aload_n 3, 1) := by decide +kernel
theorem d_L_rebuild_1 : decode b_L_rebuild 1 = .ok (.iconst (0), 1) := by decide +kernel
theorem d_L_rebuild_2 : decode b_L_rebuild 2 = .ok (.aload_n 0, 1) := by decide +kernel
theorem d_L_rebuild_3 : decode b_L_rebuild 3 = .ok (.iload_n 1, 1) := by decide +kernel
theorem d_L_rebuild_4 : decode b_L_rebuild 4 = .ok (.iload_n 2, 1) := by decide +kernel
theorem d_L_rebuild_5 : decode b_L_rebuild 5 = .ok (.invokevirtual 52, 3) := by decide +kernel
theorem cw_L_52 : sm_cw RL 52 y_S_rebuild b_S_rebuild 6 (some .int) 2 := ⟨sm_inT 519 (by decide +kernel) (by decide +kernel), sm_inT 1 (by decide +kernel) (by decide +kernel), sm_inT 516 (by decide +kernel) (by decide +kernel), ⟨by decide, by decide, by decide +kernel⟩, by decide⟩
theorem iw_S_rebuild : Cond.instanceMethod y_S_rebuild ∈ sm_ws := sm_inT 517 (by decide +kernel) (by decide +kernel)
theorem se_S_rebuild : Cond.selects RX6 y_S_rebuild y_S_rebuild ∈ sm_ws := sm_inT 518 (by decide +kernel) (by decide +kernel)
theorem d_L_rebuild_8 : decode b_L_rebuild 8 = .ok (.i2l, 1) := by decide +kernel
theorem d_L_rebuild_9 : decode b_L_rebuild 9 = .ok (.lastore, 1) := by decide +kernel
theorem d_L_rebuild_10 : decode b_L_rebuild 10 = .ok (.goto (19), 3) := by decide +kernel
theorem d_L_rebuild_13 : decode b_L_rebuild 13 = .ok (.astore 4, 2) := by decide +kernel
theorem d_L_rebuild_15 : decode b_L_rebuild 15 = .ok (.iconst (1), 1) := by decide +kernel
theorem d_L_rebuild_16 : decode b_L_rebuild 16 = .ok (.ireturn, 1) := by decide +kernel
theorem d_L_rebuild_17 : decode b_L_rebuild 17 = .ok (.astore 4, 2) := by decide +kernel
theorem d_L_rebuild_19 : decode b_L_rebuild 19 = .ok (.iconst (2), 1) := by decide +kernel
theorem d_L_rebuild_20 : decode b_L_rebuild 20 = .ok (.ireturn, 1) := by decide +kernel
theorem d_L_rebuild_21 : decode b_L_rebuild 21 = .ok (.astore 4, 2) := by decide +kernel
theorem d_L_rebuild_23 : decode b_L_rebuild 23 = .ok (.iconst (3), 1) := by decide +kernel
theorem d_L_rebuild_24 : decode b_L_rebuild 24 = .ok (.ireturn, 1) := by decide +kernel
theorem d_L_rebuild_25 : decode b_L_rebuild 25 = .ok (.astore 4, 2) := by decide +kernel
theorem d_L_rebuild_27 : decode b_L_rebuild 27 = .ok (.iconst (4), 1) := by decide +kernel
theorem d_L_rebuild_28 : decode b_L_rebuild 28 = .ok (.ireturn, 1) := by decide +kernel
theorem d_L_rebuild_29 : decode b_L_rebuild 29 = .ok (.iconst (0), 1) := by decide +kernel
theorem d_L_rebuild_30 : decode b_L_rebuild 30 = .ok (.ireturn, 1) := by decide +kernel
theorem d_L_node_0 : decode b_L_node 0 = .ok (.aload_n 3, 1) := by decide +kernel
theorem d_L_node_1 : decode b_L_node 1 = .ok (.iconst (0), 1) := by decide +kernel
theorem d_L_node_2 : decode b_L_node 2 = .ok (.aload_n 0, 1) := by decide +kernel
theorem d_L_node_3 : decode b_L_node 3 = .ok (.iload_n 1, 1) := by decide +kernel
theorem d_L_node_4 : decode b_L_node 4 = .ok (.iload_n 2, 1) := by decide +kernel
theorem d_L_node_5 : decode b_L_node 5 = .ok (.invokevirtual 55, 3) := by decide +kernel
theorem cw_L_55 : sm_cw RL 55 y_S_node b_S_node 3 (some .int) 2 := ⟨sm_inT 556 (by decide +kernel) (by decide +kernel), sm_inT 1 (by decide +kernel) (by decide +kernel), sm_inT 553 (by decide +kernel) (by decide +kernel), ⟨by decide, by decide, by decide +kernel⟩, by decide⟩
theorem iw_S_node : Cond.instanceMethod y_S_node ∈ sm_ws := sm_inT 554 (by decide +kernel) (by decide +kernel)
theorem se_S_node : Cond.selects RX6 y_S_node y_S_node ∈ sm_ws := sm_inT 555 (by decide +kernel) (by decide +kernel)
theorem d_L_node_8 : decode b_L_node 8 = .ok (.i2l, 1) := by decide +kernel
theorem d_L_node_9 : decode b_L_node 9 = .ok (.lastore, 1) := by decide +kernel
theorem d_L_node_10 : decode b_L_node 10 = .ok (.goto (7), 3) := by decide +kernel
theorem d_L_node_13 : decode b_L_node 13 = .ok (.astore 4, 2) := by decide +kernel
theorem d_L_node_15 : decode b_L_node 15 = .ok (.iconst (1), 1) := by decide +kernel
theorem d_L_node_16 : decode b_L_node 16 = .ok (.ireturn, 1) := by decide +kernel
theorem d_L_node_17 : decode b_L_node 17 = .ok (.iconst (0), 1) := by decide +kernel
theorem d_L_node_18 : decode b_L_node 18 = .ok (.ireturn, 1) := by decide +kernel
theorem d_L_share_0 : decode b_L_share 0 = .ok (.aload 4, 2) := by decide +kernel
theorem d_L_share_2 : decode b_L_share 2 = .ok (.iconst (0), 1) := by decide +kernel
theorem d_L_share_3 : decode b_L_share 3 = .ok (.aload_n 0, 1) := by decide +kernel
theorem d_L_share_4 : decode b_L_share 4 = .ok (.iload_n 1, 1) := by decide +kernel
theorem d_L_share_5 : decode b_L_share 5 = .ok (.iload_n 2, 1) := by decide +kernel
theorem d_L_share_6 : decode b_L_share 6 = .ok (.iload_n 3, 1) := by decide +kernel
theorem d_L_share_7 : decode b_L_share 7 = .ok (.invokevirtual 58, 3) := by decide +kernel
theorem cw_L_58 : sm_cw RL 58 y_S_share b_S_share 5 (some .int) 3 := ⟨sm_inT 571 (by decide +kernel) (by decide +kernel), sm_inT 1 (by decide +kernel) (by decide +kernel), sm_inT 568 (by decide +kernel) (by decide +kernel), ⟨by decide, by decide, by decide +kernel⟩, by decide⟩
theorem iw_S_share : Cond.instanceMethod y_S_share ∈ sm_ws := sm_inT 569 (by decide +kernel) (by decide +kernel)
theorem se_S_share : Cond.selects RX6 y_S_share y_S_share ∈ sm_ws := sm_inT 570 (by decide +kernel) (by decide +kernel)
theorem d_L_share_10 : decode b_L_share 10 = .ok (.i2l, 1) := by decide +kernel
theorem d_L_share_11 : decode b_L_share 11 = .ok (.lastore, 1) := by decide +kernel
theorem d_L_share_12 : decode b_L_share 12 = .ok (.goto (7), 3) := by decide +kernel
theorem d_L_share_15 : decode b_L_share 15 = .ok (.astore 5, 2) := by decide +kernel
theorem d_L_share_17 : decode b_L_share 17 = .ok (.iconst (1), 1) := by decide +kernel
theorem d_L_share_18 : decode b_L_share 18 = .ok (.ireturn, 1) := by decide +kernel
theorem d_L_share_19 : decode b_L_share 19 = .ok (.iconst (0), 1) := by decide +kernel
theorem d_L_share_20 : decode b_L_share 20 = .ok (.ireturn, 1) := by decide +kernel
theorem d_L_byteAt_0 : decode b_L_byteAt 0 = .ok (.aload 4, 2) := by decide +kernel
theorem d_L_byteAt_2 : decode b_L_byteAt 2 = .ok (.iconst (0), 1) := by decide +kernel
theorem d_L_byteAt_3 : decode b_L_byteAt 3 = .ok (.aload_n 0, 1) := by decide +kernel
theorem d_L_byteAt_4 : decode b_L_byteAt 4 = .ok (.iload_n 1, 1) := by decide +kernel
theorem d_L_byteAt_5 : decode b_L_byteAt 5 = .ok (.iload_n 2, 1) := by decide +kernel
theorem d_L_byteAt_6 : decode b_L_byteAt 6 = .ok (.iload_n 3, 1) := by decide +kernel
theorem d_L_byteAt_7 : decode b_L_byteAt 7 = .ok (.invokevirtual 62, 3) := by decide +kernel
theorem cw_L_62 : sm_cw RL 62 y_S_byteAt b_S_byteAt 5 (some .int) 3 := ⟨sm_inT 578 (by decide +kernel) (by decide +kernel), sm_inT 1 (by decide +kernel) (by decide +kernel), sm_inT 575 (by decide +kernel) (by decide +kernel), ⟨by decide, by decide, by decide +kernel⟩, by decide⟩
theorem iw_S_byteAt : Cond.instanceMethod y_S_byteAt ∈ sm_ws := sm_inT 576 (by decide +kernel) (by decide +kernel)
theorem se_S_byteAt : Cond.selects RX6 y_S_byteAt y_S_byteAt ∈ sm_ws := sm_inT 577 (by decide +kernel) (by decide +kernel)
theorem d_L_byteAt_10 : decode b_L_byteAt 10 = .ok (.i2l, 1) := by decide +kernel
theorem d_L_byteAt_11 : decode b_L_byteAt 11 = .ok (.lastore, 1) := by decide +kernel
theorem d_L_byteAt_12 : decode b_L_byteAt 12 = .ok (.goto (7), 3) := by decide +kernel
theorem d_L_byteAt_15 : decode b_L_byteAt 15 = .ok (.astore 5, 2) := by decide +kernel
theorem d_L_byteAt_17 : decode b_L_byteAt 17 = .ok (.iconst (1), 1) := by decide +kernel
theorem d_L_byteAt_18 : decode b_L_byteAt 18 = .ok (.ireturn, 1) := by decide +kernel
theorem d_L_byteAt_19 : decode b_L_byteAt 19 = .ok (.iconst (0), 1) := by decide +kernel
theorem d_L_byteAt_20 : decode b_L_byteAt 20 = .ok (.ireturn, 1) := by decide +kernel
theorem d_L_field_0 : decode b_L_field 0 = .ok (.aload 4, 2) := by decide +kernel
theorem d_L_field_2 : decode b_L_field 2 = .ok (.iconst (0), 1) := by decide +kernel
theorem d_L_field_3 : decode b_L_field 3 = .ok (.aload_n 0, 1) := by decide +kernel
theorem d_L_field_4 : decode b_L_field 4 = .ok (.iload_n 1, 1) := by decide +kernel
theorem d_L_field_5 : decode b_L_field 5 = .ok (.iload_n 2, 1) := by decide +kernel
theorem d_L_field_6 : decode b_L_field 6 = .ok (.iload_n 3, 1) := by decide +kernel
theorem d_L_field_7 : decode b_L_field 7 = .ok (.invokevirtual 65, 3) := by decide +kernel
theorem cw_L_65 : sm_cw RL 65 y_S_field b_S_field 4 (some .int) 3 := ⟨sm_inT 585 (by decide +kernel) (by decide +kernel), sm_inT 1 (by decide +kernel) (by decide +kernel), sm_inT 582 (by decide +kernel) (by decide +kernel), ⟨by decide, by decide, by decide +kernel⟩, by decide⟩
theorem iw_S_field : Cond.instanceMethod y_S_field ∈ sm_ws := sm_inT 583 (by decide +kernel) (by decide +kernel)
theorem se_S_field : Cond.selects RX6 y_S_field y_S_field ∈ sm_ws := sm_inT 584 (by decide +kernel) (by decide +kernel)
theorem d_L_field_10 : decode b_L_field 10 = .ok (.i2l, 1) := by decide +kernel
theorem d_L_field_11 : decode b_L_field 11 = .ok (.lastore, 1) := by decide +kernel
theorem d_L_field_12 : decode b_L_field 12 = .ok (.goto (11), 3) := by decide +kernel
theorem d_L_field_15 : decode b_L_field 15 = .ok (.astore 5, 2) := by decide +kernel
theorem d_L_field_17 : decode b_L_field 17 = .ok (.iconst (1), 1) := by decide +kernel
theorem d_L_field_18 : decode b_L_field 18 = .ok (.ireturn, 1) := by decide +kernel
theorem d_L_field_19 : decode b_L_field 19 = .ok (.astore 5, 2) := by decide +kernel
theorem d_L_field_21 : decode b_L_field 21 = .ok (.iconst (2), 1) := by decide +kernel
theorem d_L_field_22 : decode b_L_field 22 = .ok (.ireturn, 1) := by decide +kernel
theorem d_L_field_23 : decode b_L_field 23 = .ok (.iconst (0), 1) := by decide +kernel
theorem d_L_field_24 : decode b_L_field 24 = .ok (.ireturn, 1) := by decide +kernel
theorem d_L_law_0 : decode code 0 = .ok (.new 8, 3) := by decide +kernel
theorem nw_L_8 : sm_nw RL 8 6 10 [true, true, true, true, true, true, true, true, false, false] := ⟨_, _, tyX6, rfl, rfl, tyX6_ok, by decide +kernel, in_X6, sm_inT 19 (by decide +kernel) (by decide +kernel), sm_inT 20 (by decide +kernel) (by decide +kernel), sm_inT 1 (by decide +kernel) (by decide +kernel)⟩
theorem d_L_law_3 : decode code 3 = .ok (.dup, 1) := by decide +kernel
theorem d_L_law_4 : decode code 4 = .ok (.invokespecial 68, 3) := by decide +kernel
theorem cw_L_68 : sm_cw RL 68 y_S_init b_S_init 2 none 0 := ⟨sm_inT 23 (by decide +kernel) (by decide +kernel), sm_inT 1 (by decide +kernel) (by decide +kernel), sm_inT 21 (by decide +kernel) (by decide +kernel), ⟨by decide, by decide, by decide +kernel⟩, by decide⟩
theorem iw_S_init : Cond.instanceMethod y_S_init ∈ sm_ws := sm_inT 22 (by decide +kernel) (by decide +kernel)
theorem d_L_law_7 : decode code 7 = .ok (.astore_n 1, 1) := by decide +kernel
theorem d_L_law_8 : decode code 8 = .ok (.new 69, 3) := by decide +kernel
theorem nw_L_69 : sm_nw RL 69 7 21 [false, true, false, true, false, true, true, true, true, true, true, true, true, true, true, true, true, true, true, true, true] := ⟨_, _, tyX7, rfl, rfl, tyX7_ok, by decide +kernel, in_X7, sm_inT 591 (by decide +kernel) (by decide +kernel), sm_inT 592 (by decide +kernel) (by decide +kernel), sm_inT 8 (by decide +kernel) (by decide +kernel)⟩
theorem d_L_law_11 : decode code 11 = .ok (.dup, 1) := by decide +kernel
theorem d_L_law_12 : decode code 12 = .ok (.invokespecial 71, 3) := by decide +kernel
theorem cw_L_71 : sm_cw RL 71 y_R_init b_R_init 1 none 0 := ⟨sm_inT 595 (by decide +kernel) (by decide +kernel), sm_inT 8 (by decide +kernel) (by decide +kernel), sm_inT 593 (by decide +kernel) (by decide +kernel), ⟨by decide, by decide, by decide +kernel⟩, by decide⟩
theorem iw_R_init : Cond.instanceMethod y_R_init ∈ sm_ws := sm_inT 594 (by decide +kernel) (by decide +kernel)
theorem d_L_law_15 : decode code 15 = .ok (.astore_n 2, 1) := by decide +kernel
theorem d_L_law_16 : decode code 16 = .ok (.iconst (1), 1) := by decide +kernel
theorem d_L_law_17 : decode code 17 = .ok (.newarray .long, 2) := by decide +kernel
theorem d_L_law_19 : decode code 19 = .ok (.astore_n 3, 1) := by decide +kernel
theorem d_L_law_20 : decode code 20 = .ok (.iconst (0), 1) := by decide +kernel
theorem d_L_law_21 : decode code 21 = .ok (.istore 4, 2) := by decide +kernel
theorem d_L_law_23 : decode code 23 = .ok (.iload 4, 2) := by decide +kernel
theorem d_L_law_25 : decode code 25 = .ok (.aload_n 0, 1) := by decide +kernel
theorem d_L_law_26 : decode code 26 = .ok (.arraylength, 1) := by decide +kernel
theorem d_L_law_27 : decode code 27 = .ok (.iconst (4), 1) := by decide +kernel
theorem d_L_law_28 : decode code 28 = .ok (.isub, 1) := by decide +kernel
theorem d_L_law_29 : decode code 29 = .ok (.if_icmp .gt (968), 3) := by decide +kernel
theorem d_L_law_32 : decode code 32 = .ok (.aload_n 0, 1) := by decide +kernel
theorem d_L_law_33 : decode code 33 = .ok (.iload 4, 2) := by decide +kernel
theorem d_L_law_35 : decode code 35 = .ok (.iaload, 1) := by decide +kernel
theorem d_L_law_36 : decode code 36 = .ok (.bipush (15), 2) := by decide +kernel
theorem d_L_law_38 : decode code 38 = .ok (.iand, 1) := by decide +kernel
theorem d_L_law_39 : decode code 39 = .ok (.tableswitch (952) (0) (13) #[69, 117, 185, 221, 284, 352, 408, 476, 512, 576, 644, 712, 792, 872], 69) := by decide +kernel
theorem d_L_law_108 : decode code 108 = .ok (.aload_n 1, 1) := by decide +kernel
theorem d_L_law_109 : decode code 109 = .ok (.aload_n 0, 1) := by decide +kernel
theorem d_L_law_110 : decode code 110 = .ok (.iload 4, 2) := by decide +kernel
theorem d_L_law_112 : decode code 112 = .ok (.iconst (1), 1) := by decide +kernel
theorem d_L_law_113 : decode code 113 = .ok (.iadd, 1) := by decide +kernel
theorem d_L_law_114 : decode code 114 = .ok (.iaload, 1) := by decide +kernel
theorem d_L_law_115 : decode code 115 = .ok (.aload_n 0, 1) := by decide +kernel
theorem d_L_law_116 : decode code 116 = .ok (.iload 4, 2) := by decide +kernel
theorem d_L_law_118 : decode code 118 = .ok (.iconst (2), 1) := by decide +kernel
theorem d_L_law_119 : decode code 119 = .ok (.iadd, 1) := by decide +kernel
theorem d_L_law_120 : decode code 120 = .ok (.iaload, 1) := by decide +kernel
theorem d_L_law_121 : decode code 121 = .ok (.invokestatic 72, 3) := by decide +kernel
theorem kw_L_load : Cond.codeWith y_L_load b_L_load 4 (some .int) [(0, 6, 9, 13)] ∈ sm_ws := sm_inT 190 (by decide +kernel) (by decide +kernel)
theorem ki_L_load : Cond.initialized (y_L_load).cls ∈ sm_ws := sm_inT 0 (by decide +kernel) (by decide +kernel)
theorem kl_L_72 : Cond.methodLink RL 72 y_L_load ∈ sm_ws := sm_inT 188 (by decide +kernel) (by decide +kernel)
theorem sw_L_load : Cond.static y_L_load ∈ sm_ws := sm_inT 189 (by decide +kernel) (by decide +kernel)
theorem d_L_law_124 : decode code 124 = .ok (.istore 5, 2) := by decide +kernel
theorem d_L_law_126 : decode code 126 = .ok (.aload_n 2, 1) := by decide +kernel
theorem d_L_law_127 : decode code 127 = .ok (.aload_n 0, 1) := by decide +kernel
theorem d_L_law_128 : decode code 128 = .ok (.iload 4, 2) := by decide +kernel
theorem d_L_law_130 : decode code 130 = .ok (.iconst (1), 1) := by decide +kernel
theorem d_L_law_131 : decode code 131 = .ok (.iadd, 1) := by decide +kernel
theorem d_L_law_132 : decode code 132 = .ok (.iaload, 1) := by decide +kernel
theorem d_L_law_133 : decode code 133 = .ok (.aload_n 0, 1) := by decide +kernel
theorem d_L_law_134 : decode code 134 = .ok (.iload 4, 2) := by decide +kernel
theorem d_L_law_136 : decode code 136 = .ok (.iconst (2), 1) := by decide +kernel
theorem d_L_law_137 : decode code 137 = .ok (.iadd, 1) := by decide +kernel
theorem d_L_law_138 : decode code 138 = .ok (.iaload, 1) := by decide +kernel
theorem d_L_law_139 : decode code 139 = .ok (.invokevirtual 77, 3) := by decide +kernel
theorem cw_L_77 : sm_cw RL 77 y_R_load b_R_load 4 none 2 := ⟨sm_inT 684 (by decide +kernel) (by decide +kernel), sm_inT 8 (by decide +kernel) (by decide +kernel), sm_inT 681 (by decide +kernel) (by decide +kernel), ⟨by decide, by decide, by decide +kernel⟩, by decide⟩
theorem iw_R_load : Cond.instanceMethod y_R_load ∈ sm_ws := sm_inT 682 (by decide +kernel) (by decide +kernel)
theorem se_R_load : Cond.selects RX7 y_R_load y_R_load ∈ sm_ws := sm_inT 683 (by decide +kernel) (by decide +kernel)
theorem d_L_law_142 : decode code 142 = .ok (.aload_n 2, 1) := by decide +kernel
theorem d_L_law_143 : decode code 143 = .ok (.invokevirtual 78, 3) := by decide +kernel
theorem cw_L_78 : sm_cw RL 78 y_R_thrown b_R_thrown 1 (some .int) 0 := ⟨sm_inT 666 (by decide +kernel) (by decide +kernel), sm_inT 8 (by decide +kernel) (by decide +kernel), sm_inT 663 (by decide +kernel) (by decide +kernel), ⟨by decide, by decide, by decide +kernel⟩, by decide⟩
theorem iw_R_thrown : Cond.instanceMethod y_R_thrown ∈ sm_ws := sm_inT 664 (by decide +kernel) (by decide +kernel)
theorem se_R_thrown : Cond.selects RX7 y_R_thrown y_R_thrown ∈ sm_ws := sm_inT 665 (by decide +kernel) (by decide +kernel)
theorem d_L_law_146 : decode code 146 = .ok (.iload 5, 2) := by decide +kernel
theorem d_L_law_148 : decode code 148 = .ok (.if_icmp .eq (5), 3) := by decide +kernel
theorem d_L_law_151 : decode code 151 = .ok (.iconst (0), 1) := by decide +kernel
theorem d_L_law_152 : decode code 152 = .ok (.ireturn, 1) := by decide +kernel
theorem d_L_law_153 : decode code 153 = .ok (.goto (838), 3) := by decide +kernel
theorem d_L_law_156 : decode code 156 = .ok (.aload_n 1, 1) := by decide +kernel
theorem d_L_law_157 : decode code 157 = .ok (.aload_n 0, 1) := by decide +kernel
theorem d_L_law_158 : decode code 158 = .ok (.iload 4, 2) := by decide +kernel
theorem d_L_law_160 : decode code 160 = .ok (.iconst (1), 1) := by decide +kernel
theorem d_L_law_161 : decode code 161 = .ok (.iadd, 1) := by decide +kernel
theorem d_L_law_162 : decode code 162 = .ok (.iaload, 1) := by decide +kernel
theorem d_L_law_163 : decode code 163 = .ok (.aload_n 0, 1) := by decide +kernel
theorem d_L_law_164 : decode code 164 = .ok (.iload 4, 2) := by decide +kernel
theorem d_L_law_166 : decode code 166 = .ok (.iconst (2), 1) := by decide +kernel
theorem d_L_law_167 : decode code 167 = .ok (.iadd, 1) := by decide +kernel
theorem d_L_law_168 : decode code 168 = .ok (.iaload, 1) := by decide +kernel
theorem d_L_law_169 : decode code 169 = .ok (.aload_n 3, 1) := by decide +kernel
theorem d_L_law_170 : decode code 170 = .ok (.invokestatic 82, 3) := by decide +kernel
theorem kw_L_put : Cond.codeWith y_L_put b_L_put 5 (some .int) [(0, 10, 13, 13), (0, 10, 17, 19), (0, 10, 21, 21), (0, 10, 25, 23)] ∈ sm_ws := sm_inT 266 (by decide +kernel) (by decide +kernel)
theorem ki_L_put : Cond.initialized (y_L_put).cls ∈ sm_ws := sm_inT 0 (by decide +kernel) (by decide +kernel)
theorem kl_L_82 : Cond.methodLink RL 82 y_L_put ∈ sm_ws := sm_inT 264 (by decide +kernel) (by decide +kernel)
theorem sw_L_put : Cond.static y_L_put ∈ sm_ws := sm_inT 265 (by decide +kernel) (by decide +kernel)
theorem d_L_law_173 : decode code 173 = .ok (.istore 5, 2) := by decide +kernel
theorem d_L_law_175 : decode code 175 = .ok (.aload_n 2, 1) := by decide +kernel
theorem d_L_law_176 : decode code 176 = .ok (.aload_n 0, 1) := by decide +kernel
theorem d_L_law_177 : decode code 177 = .ok (.iload 4, 2) := by decide +kernel
theorem d_L_law_179 : decode code 179 = .ok (.iconst (1), 1) := by decide +kernel
theorem d_L_law_180 : decode code 180 = .ok (.iadd, 1) := by decide +kernel
theorem d_L_law_181 : decode code 181 = .ok (.iaload, 1) := by decide +kernel
theorem d_L_law_182 : decode code 182 = .ok (.aload_n 0, 1) := by decide +kernel
theorem d_L_law_183 : decode code 183 = .ok (.iload 4, 2) := by decide +kernel
theorem d_L_law_185 : decode code 185 = .ok (.iconst (2), 1) := by decide +kernel
theorem d_L_law_186 : decode code 186 = .ok (.iadd, 1) := by decide +kernel
theorem d_L_law_187 : decode code 187 = .ok (.iaload, 1) := by decide +kernel
theorem d_L_law_188 : decode code 188 = .ok (.invokevirtual 85, 3) := by decide +kernel
theorem cw_L_85 : sm_cw RL 85 y_R_put b_R_put 7 (some .int) 2 := ⟨sm_inT 688 (by decide +kernel) (by decide +kernel), sm_inT 8 (by decide +kernel) (by decide +kernel), sm_inT 685 (by decide +kernel) (by decide +kernel), ⟨by decide, by decide, by decide +kernel⟩, by decide⟩
theorem iw_R_put : Cond.instanceMethod y_R_put ∈ sm_ws := sm_inT 686 (by decide +kernel) (by decide +kernel)
theorem se_R_put : Cond.selects RX7 y_R_put y_R_put ∈ sm_ws := sm_inT 687 (by decide +kernel) (by decide +kernel)
theorem d_L_law_191 : decode code 191 = .ok (.istore 6, 2) := by decide +kernel
theorem d_L_law_193 : decode code 193 = .ok (.aload_n 2, 1) := by decide +kernel
theorem d_L_law_194 : decode code 194 = .ok (.invokevirtual 78, 3) := by decide +kernel
theorem d_L_law_197 : decode code 197 = .ok (.iload 5, 2) := by decide +kernel
theorem d_L_law_199 : decode code 199 = .ok (.if_icmp .eq (5), 3) := by decide +kernel
theorem d_L_law_202 : decode code 202 = .ok (.iconst (0), 1) := by decide +kernel
theorem d_L_law_203 : decode code 203 = .ok (.ireturn, 1) := by decide +kernel
theorem d_L_law_204 : decode code 204 = .ok (.iload 5, 2) := by decide +kernel
theorem d_L_law_206 : decode code 206 = .ok (.ifCond .ne (15), 3) := by decide +kernel
theorem d_L_law_209 : decode code 209 = .ok (.aload_n 3, 1) := by decide +kernel
theorem d_L_law_210 : decode code 210 = .ok (.iconst (0), 1) := by decide +kernel
theorem d_L_law_211 : decode code 211 = .ok (.laload, 1) := by decide +kernel
theorem d_L_law_212 : decode code 212 = .ok (.iload 6, 2) := by decide +kernel
theorem d_L_law_214 : decode code 214 = .ok (.i2l, 1) := by decide +kernel
theorem d_L_law_215 : decode code 215 = .ok (.lcmp, 1) := by decide +kernel
theorem d_L_law_216 : decode code 216 = .ok (.ifCond .eq (5), 3) := by decide +kernel
theorem d_L_law_219 : decode code 219 = .ok (.iconst (0), 1) := by decide +kernel
theorem d_L_law_220 : decode code 220 = .ok (.ireturn, 1) := by decide +kernel
theorem d_L_law_221 : decode code 221 = .ok (.goto (770), 3) := by decide +kernel
theorem d_L_law_224 : decode code 224 = .ok (.aload_n 1, 1) := by decide +kernel
theorem d_L_law_225 : decode code 225 = .ok (.aload_n 0, 1) := by decide +kernel
theorem d_L_law_226 : decode code 226 = .ok (.iload 4, 2) := by decide +kernel
theorem d_L_law_228 : decode code 228 = .ok (.iconst (1), 1) := by decide +kernel
theorem d_L_law_229 : decode code 229 = .ok (.iadd, 1) := by decide +kernel
theorem d_L_law_230 : decode code 230 = .ok (.iaload, 1) := by decide +kernel
theorem d_L_law_231 : decode code 231 = .ok (.invokestatic 86, 3) := by decide +kernel
theorem kw_L_cut : Cond.codeWith y_L_cut b_L_cut 3 (some .int) [(0, 5, 8, 19)] ∈ sm_ws := sm_inT 381 (by decide +kernel) (by decide +kernel)
theorem ki_L_cut : Cond.initialized (y_L_cut).cls ∈ sm_ws := sm_inT 0 (by decide +kernel) (by decide +kernel)
theorem kl_L_86 : Cond.methodLink RL 86 y_L_cut ∈ sm_ws := sm_inT 379 (by decide +kernel) (by decide +kernel)
theorem sw_L_cut : Cond.static y_L_cut ∈ sm_ws := sm_inT 380 (by decide +kernel) (by decide +kernel)
theorem d_L_law_234 : decode code 234 = .ok (.istore 5, 2) := by decide +kernel
theorem d_L_law_236 : decode code 236 = .ok (.aload_n 2, 1) := by decide +kernel
theorem d_L_law_237 : decode code 237 = .ok (.aload_n 0, 1) := by decide +kernel
theorem d_L_law_238 : decode code 238 = .ok (.iload 4, 2) := by decide +kernel
theorem d_L_law_240 : decode code 240 = .ok (.iconst (1), 1) := by decide +kernel
theorem d_L_law_241 : decode code 241 = .ok (.iadd, 1) := by decide +kernel
theorem d_L_law_242 : decode code 242 = .ok (.iaload, 1) := by decide +kernel
theorem d_L_law_243 : decode code 243 = .ok (.invokevirtual 89, 3) := by decide +kernel
theorem cw_L_89 : sm_cw RL 89 y_R_cut b_R_cut 2 none 1 := ⟨sm_inT 710 (by decide +kernel) (by decide +kernel), sm_inT 8 (by decide +kernel) (by decide +kernel), sm_inT 707 (by decide +kernel) (by decide +kernel), ⟨by decide, by decide, by decide +kernel⟩, by decide⟩
theorem iw_R_cut : Cond.instanceMethod y_R_cut ∈ sm_ws := sm_inT 708 (by decide +kernel) (by decide +kernel)
theorem se_R_cut : Cond.selects RX7 y_R_cut y_R_cut ∈ sm_ws := sm_inT 709 (by decide +kernel) (by decide +kernel)
theorem d_L_law_246 : decode code 246 = .ok (.aload_n 2, 1) := by decide +kernel
theorem d_L_law_247 : decode code 247 = .ok (.invokevirtual 78, 3) := by decide +kernel
theorem d_L_law_250 : decode code 250 = .ok (.iload 5, 2) := by decide +kernel
theorem d_L_law_252 : decode code 252 = .ok (.if_icmp .eq (5), 3) := by decide +kernel
theorem d_L_law_255 : decode code 255 = .ok (.iconst (0), 1) := by decide +kernel
theorem d_L_law_256 : decode code 256 = .ok (.ireturn, 1) := by decide +kernel
theorem d_L_law_257 : decode code 257 = .ok (.goto (734), 3) := by decide +kernel
theorem d_L_law_260 : decode code 260 = .ok (.aload_n 1, 1) := by decide +kernel
theorem d_L_law_261 : decode code 261 = .ok (.aload_n 0, 1) := by decide +kernel
theorem d_L_law_262 : decode code 262 = .ok (.iload 4, 2) := by decide +kernel
theorem d_L_law_264 : decode code 264 = .ok (.iconst (1), 1) := by decide +kernel
theorem d_L_law_265 : decode code 265 = .ok (.iadd, 1) := by decide +kernel
theorem d_L_law_266 : decode code 266 = .ok (.iaload, 1) := by decide +kernel
theorem d_L_law_267 : decode code 267 = .ok (.aload_n 3, 1) := by decide +kernel
theorem d_L_law_268 : decode code 268 = .ok (.invokestatic 90, 3) := by decide +kernel
theorem kw_L_settle : Cond.codeWith y_L_settle b_L_settle 4 (some .int) [(0, 16, 19, 13), (0, 16, 22, 21)] ∈ sm_ws := sm_inT 388 (by decide +kernel) (by decide +kernel)
theorem ki_L_settle : Cond.initialized (y_L_settle).cls ∈ sm_ws := sm_inT 0 (by decide +kernel) (by decide +kernel)
theorem kl_L_90 : Cond.methodLink RL 90 y_L_settle ∈ sm_ws := sm_inT 386 (by decide +kernel) (by decide +kernel)
theorem sw_L_settle : Cond.static y_L_settle ∈ sm_ws := sm_inT 387 (by decide +kernel) (by decide +kernel)
theorem d_L_law_271 : decode code 271 = .ok (.istore 5, 2) := by decide +kernel
theorem d_L_law_273 : decode code 273 = .ok (.aload_n 2, 1) := by decide +kernel
theorem d_L_law_274 : decode code 274 = .ok (.aload_n 0, 1) := by decide +kernel
theorem d_L_law_275 : decode code 275 = .ok (.iload 4, 2) := by decide +kernel
theorem d_L_law_277 : decode code 277 = .ok (.iconst (1), 1) := by decide +kernel
theorem d_L_law_278 : decode code 278 = .ok (.iadd, 1) := by decide +kernel
theorem d_L_law_279 : decode code 279 = .ok (.iaload, 1) := by decide +kernel
theorem d_L_law_280 : decode code 280 = .ok (.invokevirtual 93, 3) := by decide +kernel
theorem cw_L_93 : sm_cw RL 93 y_R_settle b_R_settle 4 (some .boolean) 1 := ⟨sm_inT 714 (by decide +kernel) (by decide +kernel), sm_inT 8 (by decide +kernel) (by decide +kernel), sm_inT 711 (by decide +kernel) (by decide +kernel), ⟨by decide, by decide, by decide +kernel⟩, by decide⟩
theorem iw_R_settle : Cond.instanceMethod y_R_settle ∈ sm_ws := sm_inT 712 (by decide +kernel) (by decide +kernel)
theorem se_R_settle : Cond.selects RX7 y_R_settle y_R_settle ∈ sm_ws := sm_inT 713 (by decide +kernel) (by decide +kernel)
theorem d_L_law_283 : decode code 283 = .ok (.istore 6, 2) := by decide +kernel
theorem d_L_law_285 : decode code 285 = .ok (.aload_n 2, 1) := by decide +kernel
theorem d_L_law_286 : decode code 286 = .ok (.invokevirtual 78, 3) := by decide +kernel
theorem d_L_law_289 : decode code 289 = .ok (.iload 5, 2) := by decide +kernel
theorem d_L_law_291 : decode code 291 = .ok (.if_icmp .eq (5), 3) := by decide +kernel
theorem d_L_law_294 : decode code 294 = .ok (.iconst (0), 1) := by decide +kernel
theorem d_L_law_295 : decode code 295 = .ok (.ireturn, 1) := by decide +kernel
theorem d_L_law_296 : decode code 296 = .ok (.iload 5, 2) := by decide +kernel
theorem d_L_law_298 : decode code 298 = .ok (.ifCond .ne (22), 3) := by decide +kernel
theorem d_L_law_301 : decode code 301 = .ok (.aload_n 3, 1) := by decide +kernel
theorem d_L_law_302 : decode code 302 = .ok (.iconst (0), 1) := by decide +kernel
theorem d_L_law_303 : decode code 303 = .ok (.laload, 1) := by decide +kernel
theorem d_L_law_304 : decode code 304 = .ok (.iload 6, 2) := by decide +kernel
theorem d_L_law_306 : decode code 306 = .ok (.ifCond .eq (7), 3) := by decide +kernel
theorem d_L_law_309 : decode code 309 = .ok (.lconst 1, 1) := by decide +kernel
theorem d_L_law_310 : decode code 310 = .ok (.goto (4), 3) := by decide +kernel
theorem d_L_law_313 : decode code 313 = .ok (.lconst 0, 1) := by decide +kernel
theorem d_L_law_314 : decode code 314 = .ok (.lcmp, 1) := by decide +kernel
theorem d_L_law_315 : decode code 315 = .ok (.ifCond .eq (5), 3) := by decide +kernel
theorem d_L_law_318 : decode code 318 = .ok (.iconst (0), 1) := by decide +kernel
theorem d_L_law_319 : decode code 319 = .ok (.ireturn, 1) := by decide +kernel
theorem d_L_law_320 : decode code 320 = .ok (.goto (671), 3) := by decide +kernel
theorem d_L_law_323 : decode code 323 = .ok (.aload_n 1, 1) := by decide +kernel
theorem d_L_law_324 : decode code 324 = .ok (.aload_n 0, 1) := by decide +kernel
theorem d_L_law_325 : decode code 325 = .ok (.iload 4, 2) := by decide +kernel
theorem d_L_law_327 : decode code 327 = .ok (.iconst (1), 1) := by decide +kernel
theorem d_L_law_328 : decode code 328 = .ok (.iadd, 1) := by decide +kernel
theorem d_L_law_329 : decode code 329 = .ok (.iaload, 1) := by decide +kernel
theorem d_L_law_330 : decode code 330 = .ok (.aload_n 0, 1) := by decide +kernel
theorem d_L_law_331 : decode code 331 = .ok (.iload 4, 2) := by decide +kernel
theorem d_L_law_333 : decode code 333 = .ok (.iconst (2), 1) := by decide +kernel
theorem d_L_law_334 : decode code 334 = .ok (.iadd, 1) := by decide +kernel
theorem d_L_law_335 : decode code 335 = .ok (.iaload, 1) := by decide +kernel
theorem d_L_law_336 : decode code 336 = .ok (.aload_n 3, 1) := by decide +kernel
theorem d_L_law_337 : decode code 337 = .ok (.invokestatic 94, 3) := by decide +kernel
theorem kw_L_get : Cond.codeWith y_L_get b_L_get 5 (some .int) [(0, 10, 13, 13), (0, 10, 17, 19), (0, 10, 21, 21), (0, 10, 25, 36), (0, 10, 29, 23)] ∈ sm_ws := sm_inT 403 (by decide +kernel) (by decide +kernel)
theorem ki_L_get : Cond.initialized (y_L_get).cls ∈ sm_ws := sm_inT 0 (by decide +kernel) (by decide +kernel)
theorem kl_L_94 : Cond.methodLink RL 94 y_L_get ∈ sm_ws := sm_inT 401 (by decide +kernel) (by decide +kernel)
theorem sw_L_get : Cond.static y_L_get ∈ sm_ws := sm_inT 402 (by decide +kernel) (by decide +kernel)
theorem d_L_law_340 : decode code 340 = .ok (.istore 5, 2) := by decide +kernel
theorem d_L_law_342 : decode code 342 = .ok (.aload_n 2, 1) := by decide +kernel
theorem d_L_law_343 : decode code 343 = .ok (.aload_n 0, 1) := by decide +kernel
theorem d_L_law_344 : decode code 344 = .ok (.iload 4, 2) := by decide +kernel
theorem d_L_law_346 : decode code 346 = .ok (.iconst (1), 1) := by decide +kernel
theorem d_L_law_347 : decode code 347 = .ok (.iadd, 1) := by decide +kernel
theorem d_L_law_348 : decode code 348 = .ok (.iaload, 1) := by decide +kernel
theorem d_L_law_349 : decode code 349 = .ok (.aload_n 0, 1) := by decide +kernel
theorem d_L_law_350 : decode code 350 = .ok (.iload 4, 2) := by decide +kernel
theorem d_L_law_352 : decode code 352 = .ok (.iconst (2), 1) := by decide +kernel
theorem d_L_law_353 : decode code 353 = .ok (.iadd, 1) := by decide +kernel
theorem d_L_law_354 : decode code 354 = .ok (.iaload, 1) := by decide +kernel
theorem d_L_law_355 : decode code 355 = .ok (.invokevirtual 96, 3) := by decide +kernel
theorem cw_L_96 : sm_cw RL 96 y_R_get b_R_get 6 (some .int) 2 := ⟨sm_inT 718 (by decide +kernel) (by decide +kernel), sm_inT 8 (by decide +kernel) (by decide +kernel), sm_inT 715 (by decide +kernel) (by decide +kernel), ⟨by decide, by decide, by decide +kernel⟩, by decide⟩
theorem iw_R_get : Cond.instanceMethod y_R_get ∈ sm_ws := sm_inT 716 (by decide +kernel) (by decide +kernel)
theorem se_R_get : Cond.selects RX7 y_R_get y_R_get ∈ sm_ws := sm_inT 717 (by decide +kernel) (by decide +kernel)
theorem d_L_law_358 : decode code 358 = .ok (.istore 6, 2) := by decide +kernel
theorem d_L_law_360 : decode code 360 = .ok (.aload_n 2, 1) := by decide +kernel
theorem d_L_law_361 : decode code 361 = .ok (.invokevirtual 78, 3) := by decide +kernel
theorem d_L_law_364 : decode code 364 = .ok (.iload 5, 2) := by decide +kernel
theorem d_L_law_366 : decode code 366 = .ok (.if_icmp .eq (5), 3) := by decide +kernel
theorem d_L_law_369 : decode code 369 = .ok (.iconst (0), 1) := by decide +kernel
theorem d_L_law_370 : decode code 370 = .ok (.ireturn, 1) := by decide +kernel
theorem d_L_law_371 : decode code 371 = .ok (.iload 5, 2) := by decide +kernel
theorem d_L_law_373 : decode code 373 = .ok (.ifCond .ne (15), 3) := by decide +kernel
theorem d_L_law_376 : decode code 376 = .ok (.aload_n 3, 1) := by decide +kernel
theorem d_L_law_377 : decode code 377 = .ok (.iconst (0), 1) := by decide +kernel
theorem d_L_law_378 : decode code 378 = .ok (.laload, 1) := by decide +kernel
theorem d_L_law_379 : decode code 379 = .ok (.iload 6, 2) := by decide +kernel
theorem d_L_law_381 : decode code 381 = .ok (.i2l, 1) := by decide +kernel
theorem d_L_law_382 : decode code 382 = .ok (.lcmp, 1) := by decide +kernel
theorem d_L_law_383 : decode code 383 = .ok (.ifCond .eq (5), 3) := by decide +kernel
theorem d_L_law_386 : decode code 386 = .ok (.iconst (0), 1) := by decide +kernel
theorem d_L_law_387 : decode code 387 = .ok (.ireturn, 1) := by decide +kernel
theorem d_L_law_388 : decode code 388 = .ok (.goto (603), 3) := by decide +kernel
theorem d_L_law_391 : decode code 391 = .ok (.aload_n 1, 1) := by decide +kernel
theorem d_L_law_392 : decode code 392 = .ok (.aload_n 0, 1) := by decide +kernel
theorem d_L_law_393 : decode code 393 = .ok (.iload 4, 2) := by decide +kernel
theorem d_L_law_395 : decode code 395 = .ok (.iconst (1), 1) := by decide +kernel
theorem d_L_law_396 : decode code 396 = .ok (.iadd, 1) := by decide +kernel
theorem d_L_law_397 : decode code 397 = .ok (.iaload, 1) := by decide +kernel
theorem d_L_law_398 : decode code 398 = .ok (.aload_n 3, 1) := by decide +kernel
theorem d_L_law_399 : decode code 399 = .ok (.invokestatic 97, 3) := by decide +kernel
theorem kw_L_out : Cond.codeWith y_L_out b_L_out 4 (some .int) [(0, 9, 12, 13)] ∈ sm_ws := sm_inT 479 (by decide +kernel) (by decide +kernel)
theorem ki_L_out : Cond.initialized (y_L_out).cls ∈ sm_ws := sm_inT 0 (by decide +kernel) (by decide +kernel)
theorem kl_L_97 : Cond.methodLink RL 97 y_L_out ∈ sm_ws := sm_inT 477 (by decide +kernel) (by decide +kernel)
theorem sw_L_out : Cond.static y_L_out ∈ sm_ws := sm_inT 478 (by decide +kernel) (by decide +kernel)
theorem d_L_law_402 : decode code 402 = .ok (.istore 5, 2) := by decide +kernel
theorem d_L_law_404 : decode code 404 = .ok (.aload_n 2, 1) := by decide +kernel
theorem d_L_law_405 : decode code 405 = .ok (.aload_n 0, 1) := by decide +kernel
theorem d_L_law_406 : decode code 406 = .ok (.iload 4, 2) := by decide +kernel
theorem d_L_law_408 : decode code 408 = .ok (.iconst (1), 1) := by decide +kernel
theorem d_L_law_409 : decode code 409 = .ok (.iadd, 1) := by decide +kernel
theorem d_L_law_410 : decode code 410 = .ok (.iaload, 1) := by decide +kernel
theorem d_L_law_411 : decode code 411 = .ok (.invokevirtual 99, 3) := by decide +kernel
theorem cw_L_99 : sm_cw RL 99 y_R_out b_R_out 2 (some .int) 1 := ⟨sm_inT 729 (by decide +kernel) (by decide +kernel), sm_inT 8 (by decide +kernel) (by decide +kernel), sm_inT 726 (by decide +kernel) (by decide +kernel), ⟨by decide, by decide, by decide +kernel⟩, by decide⟩
theorem iw_R_out : Cond.instanceMethod y_R_out ∈ sm_ws := sm_inT 727 (by decide +kernel) (by decide +kernel)
theorem se_R_out : Cond.selects RX7 y_R_out y_R_out ∈ sm_ws := sm_inT 728 (by decide +kernel) (by decide +kernel)
theorem d_L_law_414 : decode code 414 = .ok (.istore 6, 2) := by decide +kernel
theorem d_L_law_416 : decode code 416 = .ok (.aload_n 2, 1) := by decide +kernel
theorem d_L_law_417 : decode code 417 = .ok (.invokevirtual 78, 3) := by decide +kernel
theorem d_L_law_420 : decode code 420 = .ok (.iload 5, 2) := by decide +kernel
theorem d_L_law_422 : decode code 422 = .ok (.if_icmp .eq (5), 3) := by decide +kernel
theorem d_L_law_425 : decode code 425 = .ok (.iconst (0), 1) := by decide +kernel
theorem d_L_law_426 : decode code 426 = .ok (.ireturn, 1) := by decide +kernel
theorem d_L_law_427 : decode code 427 = .ok (.iload 5, 2) := by decide +kernel
theorem d_L_law_429 : decode code 429 = .ok (.ifCond .ne (15), 3) := by decide +kernel
theorem d_L_law_432 : decode code 432 = .ok (.aload_n 3, 1) := by decide +kernel
theorem d_L_law_433 : decode code 433 = .ok (.iconst (0), 1) := by decide +kernel
theorem d_L_law_434 : decode code 434 = .ok (.laload, 1) := by decide +kernel
theorem d_L_law_435 : decode code 435 = .ok (.iload 6, 2) := by decide +kernel
theorem d_L_law_437 : decode code 437 = .ok (.i2l, 1) := by decide +kernel
theorem d_L_law_438 : decode code 438 = .ok (.lcmp, 1) := by decide +kernel
theorem d_L_law_439 : decode code 439 = .ok (.ifCond .eq (5), 3) := by decide +kernel
theorem d_L_law_442 : decode code 442 = .ok (.iconst (0), 1) := by decide +kernel
theorem d_L_law_443 : decode code 443 = .ok (.ireturn, 1) := by decide +kernel
theorem d_L_law_444 : decode code 444 = .ok (.goto (547), 3) := by decide +kernel
theorem d_L_law_447 : decode code 447 = .ok (.aload_n 1, 1) := by decide +kernel
theorem d_L_law_448 : decode code 448 = .ok (.aload_n 0, 1) := by decide +kernel
theorem d_L_law_449 : decode code 449 = .ok (.iload 4, 2) := by decide +kernel
theorem d_L_law_451 : decode code 451 = .ok (.iconst (1), 1) := by decide +kernel
theorem d_L_law_452 : decode code 452 = .ok (.iadd, 1) := by decide +kernel
theorem d_L_law_453 : decode code 453 = .ok (.iaload, 1) := by decide +kernel
theorem d_L_law_454 : decode code 454 = .ok (.aload_n 0, 1) := by decide +kernel
theorem d_L_law_455 : decode code 455 = .ok (.iload 4, 2) := by decide +kernel
theorem d_L_law_457 : decode code 457 = .ok (.iconst (2), 1) := by decide +kernel
theorem d_L_law_458 : decode code 458 = .ok (.iadd, 1) := by decide +kernel
theorem d_L_law_459 : decode code 459 = .ok (.iaload, 1) := by decide +kernel
theorem d_L_law_460 : decode code 460 = .ok (.aload_n 3, 1) := by decide +kernel
theorem d_L_law_461 : decode code 461 = .ok (.invokestatic 100, 3) := by decide +kernel
theorem kw_L_object : Cond.codeWith y_L_object b_L_object 5 (some .int) [(0, 10, 13, 13)] ∈ sm_ws := sm_inT 486 (by decide +kernel) (by decide +kernel)
theorem ki_L_object : Cond.initialized (y_L_object).cls ∈ sm_ws := sm_inT 0 (by decide +kernel) (by decide +kernel)
theorem kl_L_100 : Cond.methodLink RL 100 y_L_object ∈ sm_ws := sm_inT 484 (by decide +kernel) (by decide +kernel)
theorem sw_L_object : Cond.static y_L_object ∈ sm_ws := sm_inT 485 (by decide +kernel) (by decide +kernel)
theorem d_L_law_464 : decode code 464 = .ok (.istore 5, 2) := by decide +kernel
theorem d_L_law_466 : decode code 466 = .ok (.aload_n 2, 1) := by decide +kernel
theorem d_L_law_467 : decode code 467 = .ok (.aload_n 0, 1) := by decide +kernel
theorem d_L_law_468 : decode code 468 = .ok (.iload 4, 2) := by decide +kernel
theorem d_L_law_470 : decode code 470 = .ok (.iconst (1), 1) := by decide +kernel
theorem d_L_law_471 : decode code 471 = .ok (.iadd, 1) := by decide +kernel
theorem d_L_law_472 : decode code 472 = .ok (.iaload, 1) := by decide +kernel
theorem d_L_law_473 : decode code 473 = .ok (.aload_n 0, 1) := by decide +kernel
theorem d_L_law_474 : decode code 474 = .ok (.iload 4, 2) := by decide +kernel
theorem d_L_law_476 : decode code 476 = .ok (.iconst (2), 1) := by decide +kernel
theorem d_L_law_477 : decode code 477 = .ok (.iadd, 1) := by decide +kernel
theorem d_L_law_478 : decode code 478 = .ok (.iaload, 1) := by decide +kernel
theorem d_L_law_479 : decode code 479 = .ok (.invokevirtual 102, 3) := by decide +kernel
theorem cw_L_102 : sm_cw RL 102 y_R_object b_R_object 3 (some .int) 2 := ⟨sm_inT 733 (by decide +kernel) (by decide +kernel), sm_inT 8 (by decide +kernel) (by decide +kernel), sm_inT 730 (by decide +kernel) (by decide +kernel), ⟨by decide, by decide, by decide +kernel⟩, by decide⟩
theorem iw_R_object : Cond.instanceMethod y_R_object ∈ sm_ws := sm_inT 731 (by decide +kernel) (by decide +kernel)
theorem se_R_object : Cond.selects RX7 y_R_object y_R_object ∈ sm_ws := sm_inT 732 (by decide +kernel) (by decide +kernel)
theorem d_L_law_482 : decode code 482 = .ok (.istore 6, 2) := by decide +kernel
theorem d_L_law_484 : decode code 484 = .ok (.aload_n 2, 1) := by decide +kernel
theorem d_L_law_485 : decode code 485 = .ok (.invokevirtual 78, 3) := by decide +kernel
theorem d_L_law_488 : decode code 488 = .ok (.iload 5, 2) := by decide +kernel
theorem d_L_law_490 : decode code 490 = .ok (.if_icmp .eq (5), 3) := by decide +kernel
theorem d_L_law_493 : decode code 493 = .ok (.iconst (0), 1) := by decide +kernel
theorem d_L_law_494 : decode code 494 = .ok (.ireturn, 1) := by decide +kernel
theorem d_L_law_495 : decode code 495 = .ok (.iload 5, 2) := by decide +kernel
theorem d_L_law_497 : decode code 497 = .ok (.ifCond .ne (15), 3) := by decide +kernel
theorem d_L_law_500 : decode code 500 = .ok (.aload_n 3, 1) := by decide +kernel
theorem d_L_law_501 : decode code 501 = .ok (.iconst (0), 1) := by decide +kernel
theorem d_L_law_502 : decode code 502 = .ok (.laload, 1) := by decide +kernel
theorem d_L_law_503 : decode code 503 = .ok (.iload 6, 2) := by decide +kernel
theorem d_L_law_505 : decode code 505 = .ok (.i2l, 1) := by decide +kernel
theorem d_L_law_506 : decode code 506 = .ok (.lcmp, 1) := by decide +kernel
theorem d_L_law_507 : decode code 507 = .ok (.ifCond .eq (5), 3) := by decide +kernel
theorem d_L_law_510 : decode code 510 = .ok (.iconst (0), 1) := by decide +kernel
theorem d_L_law_511 : decode code 511 = .ok (.ireturn, 1) := by decide +kernel
theorem d_L_law_512 : decode code 512 = .ok (.goto (479), 3) := by decide +kernel
theorem d_L_law_515 : decode code 515 = .ok (.aload_n 1, 1) := by decide +kernel
theorem d_L_law_516 : decode code 516 = .ok (.aload_n 0, 1) := by decide +kernel
theorem d_L_law_517 : decode code 517 = .ok (.iload 4, 2) := by decide +kernel
theorem d_L_law_519 : decode code 519 = .ok (.iconst (1), 1) := by decide +kernel
theorem d_L_law_520 : decode code 520 = .ok (.iadd, 1) := by decide +kernel
theorem d_L_law_521 : decode code 521 = .ok (.iaload, 1) := by decide +kernel
theorem d_L_law_522 : decode code 522 = .ok (.invokestatic 103, 3) := by decide +kernel
theorem kw_L_fail : Cond.codeWith y_L_fail b_L_fail 3 (some .int) [(0, 5, 8, 13), (0, 5, 11, 21)] ∈ sm_ws := sm_inT 493 (by decide +kernel) (by decide +kernel)
theorem ki_L_fail : Cond.initialized (y_L_fail).cls ∈ sm_ws := sm_inT 0 (by decide +kernel) (by decide +kernel)
theorem kl_L_103 : Cond.methodLink RL 103 y_L_fail ∈ sm_ws := sm_inT 491 (by decide +kernel) (by decide +kernel)
theorem sw_L_fail : Cond.static y_L_fail ∈ sm_ws := sm_inT 492 (by decide +kernel) (by decide +kernel)
theorem d_L_law_525 : decode code 525 = .ok (.istore 5, 2) := by decide +kernel
theorem d_L_law_527 : decode code 527 = .ok (.aload_n 2, 1) := by decide +kernel
theorem d_L_law_528 : decode code 528 = .ok (.aload_n 0, 1) := by decide +kernel
theorem d_L_law_529 : decode code 529 = .ok (.iload 4, 2) := by decide +kernel
theorem d_L_law_531 : decode code 531 = .ok (.iconst (1), 1) := by decide +kernel
theorem d_L_law_532 : decode code 532 = .ok (.iadd, 1) := by decide +kernel
theorem d_L_law_533 : decode code 533 = .ok (.iaload, 1) := by decide +kernel
theorem d_L_law_534 : decode code 534 = .ok (.invokevirtual 105, 3) := by decide +kernel
theorem cw_L_105 : sm_cw RL 105 y_R_fail b_R_fail 2 none 1 := ⟨sm_inT 737 (by decide +kernel) (by decide +kernel), sm_inT 8 (by decide +kernel) (by decide +kernel), sm_inT 734 (by decide +kernel) (by decide +kernel), ⟨by decide, by decide, by decide +kernel⟩, by decide⟩
theorem iw_R_fail : Cond.instanceMethod y_R_fail ∈ sm_ws := sm_inT 735 (by decide +kernel) (by decide +kernel)
theorem se_R_fail : Cond.selects RX7 y_R_fail y_R_fail ∈ sm_ws := sm_inT 736 (by decide +kernel) (by decide +kernel)
theorem d_L_law_537 : decode code 537 = .ok (.aload_n 2, 1) := by decide +kernel
theorem d_L_law_538 : decode code 538 = .ok (.invokevirtual 78, 3) := by decide +kernel
theorem d_L_law_541 : decode code 541 = .ok (.iload 5, 2) := by decide +kernel
theorem d_L_law_543 : decode code 543 = .ok (.if_icmp .eq (5), 3) := by decide +kernel
theorem d_L_law_546 : decode code 546 = .ok (.iconst (0), 1) := by decide +kernel
theorem d_L_law_547 : decode code 547 = .ok (.ireturn, 1) := by decide +kernel
theorem d_L_law_548 : decode code 548 = .ok (.goto (443), 3) := by decide +kernel
theorem d_L_law_551 : decode code 551 = .ok (.aload_n 1, 1) := by decide +kernel
theorem d_L_law_552 : decode code 552 = .ok (.aload_n 0, 1) := by decide +kernel
theorem d_L_law_553 : decode code 553 = .ok (.iload 4, 2) := by decide +kernel
theorem d_L_law_555 : decode code 555 = .ok (.iconst (1), 1) := by decide +kernel
theorem d_L_law_556 : decode code 556 = .ok (.iadd, 1) := by decide +kernel
theorem d_L_law_557 : decode code 557 = .ok (.iaload, 1) := by decide +kernel
theorem d_L_law_558 : decode code 558 = .ok (.aload_n 0, 1) := by decide +kernel
theorem d_L_law_559 : decode code 559 = .ok (.iload 4, 2) := by decide +kernel
theorem d_L_law_561 : decode code 561 = .ok (.iconst (2), 1) := by decide +kernel
theorem d_L_law_562 : decode code 562 = .ok (.iadd, 1) := by decide +kernel
theorem d_L_law_563 : decode code 563 = .ok (.iaload, 1) := by decide +kernel
theorem d_L_law_564 : decode code 564 = .ok (.ifCond .eq (7), 3) := by decide +kernel
theorem d_L_law_567 : decode code 567 = .ok (.iconst (1), 1) := by decide +kernel
theorem d_L_law_568 : decode code 568 = .ok (.goto (4), 3) := by decide +kernel
theorem d_L_law_571 : decode code 571 = .ok (.iconst (0), 1) := by decide +kernel
theorem d_L_law_572 : decode code 572 = .ok (.invokestatic 106, 3) := by decide +kernel
theorem kw_L_back : Cond.codeWith y_L_back b_L_back 4 (some .int) [(0, 6, 9, 13), (0, 6, 12, 21)] ∈ sm_ws := sm_inT 504 (by decide +kernel) (by decide +kernel)
theorem ki_L_back : Cond.initialized (y_L_back).cls ∈ sm_ws := sm_inT 0 (by decide +kernel) (by decide +kernel)
theorem kl_L_106 : Cond.methodLink RL 106 y_L_back ∈ sm_ws := sm_inT 502 (by decide +kernel) (by decide +kernel)
theorem sw_L_back : Cond.static y_L_back ∈ sm_ws := sm_inT 503 (by decide +kernel) (by decide +kernel)
theorem d_L_law_575 : decode code 575 = .ok (.istore 5, 2) := by decide +kernel
theorem d_L_law_577 : decode code 577 = .ok (.aload_n 2, 1) := by decide +kernel
theorem d_L_law_578 : decode code 578 = .ok (.aload_n 0, 1) := by decide +kernel
theorem d_L_law_579 : decode code 579 = .ok (.iload 4, 2) := by decide +kernel
theorem d_L_law_581 : decode code 581 = .ok (.iconst (1), 1) := by decide +kernel
theorem d_L_law_582 : decode code 582 = .ok (.iadd, 1) := by decide +kernel
theorem d_L_law_583 : decode code 583 = .ok (.iaload, 1) := by decide +kernel
theorem d_L_law_584 : decode code 584 = .ok (.aload_n 0, 1) := by decide +kernel
theorem d_L_law_585 : decode code 585 = .ok (.iload 4, 2) := by decide +kernel
theorem d_L_law_587 : decode code 587 = .ok (.iconst (2), 1) := by decide +kernel
theorem d_L_law_588 : decode code 588 = .ok (.iadd, 1) := by decide +kernel
theorem d_L_law_589 : decode code 589 = .ok (.iaload, 1) := by decide +kernel
theorem d_L_law_590 : decode code 590 = .ok (.ifCond .eq (7), 3) := by decide +kernel
theorem d_L_law_593 : decode code 593 = .ok (.iconst (1), 1) := by decide +kernel
theorem d_L_law_594 : decode code 594 = .ok (.goto (4), 3) := by decide +kernel
theorem d_L_law_597 : decode code 597 = .ok (.iconst (0), 1) := by decide +kernel
theorem d_L_law_598 : decode code 598 = .ok (.invokevirtual 109, 3) := by decide +kernel
theorem cw_L_109 : sm_cw RL 109 y_R_back b_R_back 4 none 2 := ⟨sm_inT 744 (by decide +kernel) (by decide +kernel), sm_inT 8 (by decide +kernel) (by decide +kernel), sm_inT 741 (by decide +kernel) (by decide +kernel), ⟨by decide, by decide, by decide +kernel⟩, by decide⟩
theorem iw_R_back : Cond.instanceMethod y_R_back ∈ sm_ws := sm_inT 742 (by decide +kernel) (by decide +kernel)
theorem se_R_back : Cond.selects RX7 y_R_back y_R_back ∈ sm_ws := sm_inT 743 (by decide +kernel) (by decide +kernel)
theorem d_L_law_601 : decode code 601 = .ok (.aload_n 2, 1) := by decide +kernel
theorem d_L_law_602 : decode code 602 = .ok (.invokevirtual 78, 3) := by decide +kernel
theorem d_L_law_605 : decode code 605 = .ok (.iload 5, 2) := by decide +kernel
theorem d_L_law_607 : decode code 607 = .ok (.if_icmp .eq (5), 3) := by decide +kernel
theorem d_L_law_610 : decode code 610 = .ok (.iconst (0), 1) := by decide +kernel
theorem d_L_law_611 : decode code 611 = .ok (.ireturn, 1) := by decide +kernel
theorem d_L_law_612 : decode code 612 = .ok (.goto (379), 3) := by decide +kernel
theorem d_L_law_615 : decode code 615 = .ok (.aload_n 1, 1) := by decide +kernel
theorem d_L_law_616 : decode code 616 = .ok (.aload_n 0, 1) := by decide +kernel
theorem d_L_law_617 : decode code 617 = .ok (.iload 4, 2) := by decide +kernel
theorem d_L_law_619 : decode code 619 = .ok (.iconst (1), 1) := by decide +kernel
theorem d_L_law_620 : decode code 620 = .ok (.iadd, 1) := by decide +kernel
theorem d_L_law_621 : decode code 621 = .ok (.iaload, 1) := by decide +kernel
theorem d_L_law_622 : decode code 622 = .ok (.aload_n 0, 1) := by decide +kernel
theorem d_L_law_623 : decode code 623 = .ok (.iload 4, 2) := by decide +kernel
theorem d_L_law_625 : decode code 625 = .ok (.iconst (2), 1) := by decide +kernel
theorem d_L_law_626 : decode code 626 = .ok (.iadd, 1) := by decide +kernel
theorem d_L_law_627 : decode code 627 = .ok (.iaload, 1) := by decide +kernel
theorem d_L_law_628 : decode code 628 = .ok (.aload_n 3, 1) := by decide +kernel
theorem d_L_law_629 : decode code 629 = .ok (.invokestatic 110, 3) := by decide +kernel
theorem kw_L_rebuild : Cond.codeWith y_L_rebuild b_L_rebuild 5 (some .int) [(0, 10, 13, 13), (0, 10, 17, 19), (0, 10, 21, 21), (0, 10, 25, 23)] ∈ sm_ws := sm_inT 515 (by decide +kernel) (by decide +kernel)
theorem ki_L_rebuild : Cond.initialized (y_L_rebuild).cls ∈ sm_ws := sm_inT 0 (by decide +kernel) (by decide +kernel)
theorem kl_L_110 : Cond.methodLink RL 110 y_L_rebuild ∈ sm_ws := sm_inT 513 (by decide +kernel) (by decide +kernel)
theorem sw_L_rebuild : Cond.static y_L_rebuild ∈ sm_ws := sm_inT 514 (by decide +kernel) (by decide +kernel)
theorem d_L_law_632 : decode code 632 = .ok (.istore 5, 2) := by decide +kernel
theorem d_L_law_634 : decode code 634 = .ok (.aload_n 2, 1) := by decide +kernel
theorem d_L_law_635 : decode code 635 = .ok (.aload_n 0, 1) := by decide +kernel
theorem d_L_law_636 : decode code 636 = .ok (.iload 4, 2) := by decide +kernel
theorem d_L_law_638 : decode code 638 = .ok (.iconst (1), 1) := by decide +kernel
theorem d_L_law_639 : decode code 639 = .ok (.iadd, 1) := by decide +kernel
theorem d_L_law_640 : decode code 640 = .ok (.iaload, 1) := by decide +kernel
theorem d_L_law_641 : decode code 641 = .ok (.aload_n 0, 1) := by decide +kernel
theorem d_L_law_642 : decode code 642 = .ok (.iload 4, 2) := by decide +kernel
theorem d_L_law_644 : decode code 644 = .ok (.iconst (2), 1) := by decide +kernel
theorem d_L_law_645 : decode code 645 = .ok (.iadd, 1) := by decide +kernel
theorem d_L_law_646 : decode code 646 = .ok (.iaload, 1) := by decide +kernel
theorem d_L_law_647 : decode code 647 = .ok (.invokevirtual 112, 3) := by decide +kernel
theorem cw_L_112 : sm_cw RL 112 y_R_rebuild b_R_rebuild 8 (some .int) 2 := ⟨sm_inT 748 (by decide +kernel) (by decide +kernel), sm_inT 8 (by decide +kernel) (by decide +kernel), sm_inT 745 (by decide +kernel) (by decide +kernel), ⟨by decide, by decide, by decide +kernel⟩, by decide⟩
theorem iw_R_rebuild : Cond.instanceMethod y_R_rebuild ∈ sm_ws := sm_inT 746 (by decide +kernel) (by decide +kernel)
theorem se_R_rebuild : Cond.selects RX7 y_R_rebuild y_R_rebuild ∈ sm_ws := sm_inT 747 (by decide +kernel) (by decide +kernel)
theorem d_L_law_650 : decode code 650 = .ok (.istore 6, 2) := by decide +kernel
theorem d_L_law_652 : decode code 652 = .ok (.aload_n 2, 1) := by decide +kernel
theorem d_L_law_653 : decode code 653 = .ok (.invokevirtual 78, 3) := by decide +kernel
theorem d_L_law_656 : decode code 656 = .ok (.iload 5, 2) := by decide +kernel
theorem d_L_law_658 : decode code 658 = .ok (.if_icmp .eq (5), 3) := by decide +kernel
theorem d_L_law_661 : decode code 661 = .ok (.iconst (0), 1) := by decide +kernel
theorem d_L_law_662 : decode code 662 = .ok (.ireturn, 1) := by decide +kernel
theorem d_L_law_663 : decode code 663 = .ok (.iload 5, 2) := by decide +kernel
theorem d_L_law_665 : decode code 665 = .ok (.ifCond .ne (15), 3) := by decide +kernel
theorem d_L_law_668 : decode code 668 = .ok (.aload_n 3, 1) := by decide +kernel
theorem d_L_law_669 : decode code 669 = .ok (.iconst (0), 1) := by decide +kernel
theorem d_L_law_670 : decode code 670 = .ok (.laload, 1) := by decide +kernel
theorem d_L_law_671 : decode code 671 = .ok (.iload 6, 2) := by decide +kernel
theorem d_L_law_673 : decode code 673 = .ok (.i2l, 1) := by decide +kernel
theorem d_L_law_674 : decode code 674 = .ok (.lcmp, 1) := by decide +kernel
theorem d_L_law_675 : decode code 675 = .ok (.ifCond .eq (5), 3) := by decide +kernel
theorem d_L_law_678 : decode code 678 = .ok (.iconst (0), 1) := by decide +kernel
theorem d_L_law_679 : decode code 679 = .ok (.ireturn, 1) := by decide +kernel
theorem d_L_law_680 : decode code 680 = .ok (.goto (311), 3) := by decide +kernel
theorem d_L_law_683 : decode code 683 = .ok (.aload_n 1, 1) := by decide +kernel
theorem d_L_law_684 : decode code 684 = .ok (.aload_n 0, 1) := by decide +kernel
theorem d_L_law_685 : decode code 685 = .ok (.iload 4, 2) := by decide +kernel
theorem d_L_law_687 : decode code 687 = .ok (.iconst (1), 1) := by decide +kernel
theorem d_L_law_688 : decode code 688 = .ok (.iadd, 1) := by decide +kernel
theorem d_L_law_689 : decode code 689 = .ok (.iaload, 1) := by decide +kernel
theorem d_L_law_690 : decode code 690 = .ok (.aload_n 0, 1) := by decide +kernel
theorem d_L_law_691 : decode code 691 = .ok (.iload 4, 2) := by decide +kernel
theorem d_L_law_693 : decode code 693 = .ok (.iconst (2), 1) := by decide +kernel
theorem d_L_law_694 : decode code 694 = .ok (.iadd, 1) := by decide +kernel
theorem d_L_law_695 : decode code 695 = .ok (.iaload, 1) := by decide +kernel
theorem d_L_law_696 : decode code 696 = .ok (.aload_n 3, 1) := by decide +kernel
theorem d_L_law_697 : decode code 697 = .ok (.invokestatic 113, 3) := by decide +kernel
theorem kw_L_node : Cond.codeWith y_L_node b_L_node 5 (some .int) [(0, 10, 13, 13)] ∈ sm_ws := sm_inT 552 (by decide +kernel) (by decide +kernel)
theorem ki_L_node : Cond.initialized (y_L_node).cls ∈ sm_ws := sm_inT 0 (by decide +kernel) (by decide +kernel)
theorem kl_L_113 : Cond.methodLink RL 113 y_L_node ∈ sm_ws := sm_inT 550 (by decide +kernel) (by decide +kernel)
theorem sw_L_node : Cond.static y_L_node ∈ sm_ws := sm_inT 551 (by decide +kernel) (by decide +kernel)
theorem d_L_law_700 : decode code 700 = .ok (.istore 5, 2) := by decide +kernel
theorem d_L_law_702 : decode code 702 = .ok (.aload_n 2, 1) := by decide +kernel
theorem d_L_law_703 : decode code 703 = .ok (.aload_n 0, 1) := by decide +kernel
theorem d_L_law_704 : decode code 704 = .ok (.iload 4, 2) := by decide +kernel
theorem d_L_law_706 : decode code 706 = .ok (.iconst (1), 1) := by decide +kernel
theorem d_L_law_707 : decode code 707 = .ok (.iadd, 1) := by decide +kernel
theorem d_L_law_708 : decode code 708 = .ok (.iaload, 1) := by decide +kernel
theorem d_L_law_709 : decode code 709 = .ok (.aload_n 0, 1) := by decide +kernel
theorem d_L_law_710 : decode code 710 = .ok (.iload 4, 2) := by decide +kernel
theorem d_L_law_712 : decode code 712 = .ok (.iconst (2), 1) := by decide +kernel
theorem d_L_law_713 : decode code 713 = .ok (.iadd, 1) := by decide +kernel
theorem d_L_law_714 : decode code 714 = .ok (.iaload, 1) := by decide +kernel
theorem d_L_law_715 : decode code 715 = .ok (.invokevirtual 115, 3) := by decide +kernel
theorem cw_L_115 : sm_cw RL 115 y_R_node b_R_node 5 (some .int) 2 := ⟨sm_inT 771 (by decide +kernel) (by decide +kernel), sm_inT 8 (by decide +kernel) (by decide +kernel), sm_inT 768 (by decide +kernel) (by decide +kernel), ⟨by decide, by decide, by decide +kernel⟩, by decide⟩
theorem iw_R_node : Cond.instanceMethod y_R_node ∈ sm_ws := sm_inT 769 (by decide +kernel) (by decide +kernel)
theorem se_R_node : Cond.selects RX7 y_R_node y_R_node ∈ sm_ws := sm_inT 770 (by decide +kernel) (by decide +kernel)
theorem d_L_law_718 : decode code 718 = .ok (.istore 6, 2) := by decide +kernel
theorem d_L_law_720 : decode code 720 = .ok (.aload_n 2, 1) := by decide +kernel
theorem d_L_law_721 : decode code 721 = .ok (.invokevirtual 78, 3) := by decide +kernel
theorem d_L_law_724 : decode code 724 = .ok (.iload 5, 2) := by decide +kernel
theorem d_L_law_726 : decode code 726 = .ok (.if_icmp .eq (5), 3) := by decide +kernel
theorem d_L_law_729 : decode code 729 = .ok (.iconst (0), 1) := by decide +kernel
theorem d_L_law_730 : decode code 730 = .ok (.ireturn, 1) := by decide +kernel
theorem d_L_law_731 : decode code 731 = .ok (.iload 5, 2) := by decide +kernel
theorem d_L_law_733 : decode code 733 = .ok (.ifCond .ne (15), 3) := by decide +kernel
theorem d_L_law_736 : decode code 736 = .ok (.aload_n 3, 1) := by decide +kernel
theorem d_L_law_737 : decode code 737 = .ok (.iconst (0), 1) := by decide +kernel
theorem d_L_law_738 : decode code 738 = .ok (.laload, 1) := by decide +kernel
theorem d_L_law_739 : decode code 739 = .ok (.iload 6, 2) := by decide +kernel
theorem d_L_law_741 : decode code 741 = .ok (.i2l, 1) := by decide +kernel
theorem d_L_law_742 : decode code 742 = .ok (.lcmp, 1) := by decide +kernel
theorem d_L_law_743 : decode code 743 = .ok (.ifCond .eq (5), 3) := by decide +kernel
theorem d_L_law_746 : decode code 746 = .ok (.iconst (0), 1) := by decide +kernel
theorem d_L_law_747 : decode code 747 = .ok (.ireturn, 1) := by decide +kernel
theorem d_L_law_748 : decode code 748 = .ok (.goto (243), 3) := by decide +kernel
theorem d_L_law_751 : decode code 751 = .ok (.aload_n 1, 1) := by decide +kernel
theorem d_L_law_752 : decode code 752 = .ok (.aload_n 0, 1) := by decide +kernel
theorem d_L_law_753 : decode code 753 = .ok (.iload 4, 2) := by decide +kernel
theorem d_L_law_755 : decode code 755 = .ok (.iconst (1), 1) := by decide +kernel
theorem d_L_law_756 : decode code 756 = .ok (.iadd, 1) := by decide +kernel
theorem d_L_law_757 : decode code 757 = .ok (.iaload, 1) := by decide +kernel
theorem d_L_law_758 : decode code 758 = .ok (.aload_n 0, 1) := by decide +kernel
theorem d_L_law_759 : decode code 759 = .ok (.iload 4, 2) := by decide +kernel
theorem d_L_law_761 : decode code 761 = .ok (.iconst (2), 1) := by decide +kernel
theorem d_L_law_762 : decode code 762 = .ok (.iadd, 1) := by decide +kernel
theorem d_L_law_763 : decode code 763 = .ok (.iaload, 1) := by decide +kernel
theorem d_L_law_764 : decode code 764 = .ok (.aload_n 0, 1) := by decide +kernel
theorem d_L_law_765 : decode code 765 = .ok (.iload 4, 2) := by decide +kernel
theorem d_L_law_767 : decode code 767 = .ok (.iconst (3), 1) := by decide +kernel
theorem d_L_law_768 : decode code 768 = .ok (.iadd, 1) := by decide +kernel
theorem d_L_law_769 : decode code 769 = .ok (.iaload, 1) := by decide +kernel
theorem d_L_law_770 : decode code 770 = .ok (.aload_n 3, 1) := by decide +kernel
theorem d_L_law_771 : decode code 771 = .ok (.invokestatic 116, 3) := by decide +kernel
theorem kw_L_share : Cond.codeWith y_L_share b_L_share 6 (some .int) [(0, 12, 15, 13)] ∈ sm_ws := sm_inT 567 (by decide +kernel) (by decide +kernel)
theorem ki_L_share : Cond.initialized (y_L_share).cls ∈ sm_ws := sm_inT 0 (by decide +kernel) (by decide +kernel)
theorem kl_L_116 : Cond.methodLink RL 116 y_L_share ∈ sm_ws := sm_inT 565 (by decide +kernel) (by decide +kernel)
theorem sw_L_share : Cond.static y_L_share ∈ sm_ws := sm_inT 566 (by decide +kernel) (by decide +kernel)
theorem d_L_law_774 : decode code 774 = .ok (.istore 5, 2) := by decide +kernel
theorem d_L_law_776 : decode code 776 = .ok (.aload_n 2, 1) := by decide +kernel
theorem d_L_law_777 : decode code 777 = .ok (.aload_n 0, 1) := by decide +kernel
theorem d_L_law_778 : decode code 778 = .ok (.iload 4, 2) := by decide +kernel
theorem d_L_law_780 : decode code 780 = .ok (.iconst (1), 1) := by decide +kernel
theorem d_L_law_781 : decode code 781 = .ok (.iadd, 1) := by decide +kernel
theorem d_L_law_782 : decode code 782 = .ok (.iaload, 1) := by decide +kernel
theorem d_L_law_783 : decode code 783 = .ok (.aload_n 0, 1) := by decide +kernel
theorem d_L_law_784 : decode code 784 = .ok (.iload 4, 2) := by decide +kernel
theorem d_L_law_786 : decode code 786 = .ok (.iconst (2), 1) := by decide +kernel
theorem d_L_law_787 : decode code 787 = .ok (.iadd, 1) := by decide +kernel
theorem d_L_law_788 : decode code 788 = .ok (.iaload, 1) := by decide +kernel
theorem d_L_law_789 : decode code 789 = .ok (.aload_n 0, 1) := by decide +kernel
theorem d_L_law_790 : decode code 790 = .ok (.iload 4, 2) := by decide +kernel
theorem d_L_law_792 : decode code 792 = .ok (.iconst (3), 1) := by decide +kernel
theorem d_L_law_793 : decode code 793 = .ok (.iadd, 1) := by decide +kernel
theorem d_L_law_794 : decode code 794 = .ok (.iaload, 1) := by decide +kernel
theorem d_L_law_795 : decode code 795 = .ok (.invokevirtual 119, 3) := by decide +kernel
theorem cw_L_119 : sm_cw RL 119 y_R_share b_R_share 4 (some .int) 3 := ⟨sm_inT 775 (by decide +kernel) (by decide +kernel), sm_inT 8 (by decide +kernel) (by decide +kernel), sm_inT 772 (by decide +kernel) (by decide +kernel), ⟨by decide, by decide, by decide +kernel⟩, by decide⟩
theorem iw_R_share : Cond.instanceMethod y_R_share ∈ sm_ws := sm_inT 773 (by decide +kernel) (by decide +kernel)
theorem se_R_share : Cond.selects RX7 y_R_share y_R_share ∈ sm_ws := sm_inT 774 (by decide +kernel) (by decide +kernel)
theorem d_L_law_798 : decode code 798 = .ok (.istore 6, 2) := by decide +kernel
theorem d_L_law_800 : decode code 800 = .ok (.aload_n 2, 1) := by decide +kernel
theorem d_L_law_801 : decode code 801 = .ok (.invokevirtual 78, 3) := by decide +kernel
theorem d_L_law_804 : decode code 804 = .ok (.iload 5, 2) := by decide +kernel
theorem d_L_law_806 : decode code 806 = .ok (.if_icmp .eq (5), 3) := by decide +kernel
theorem d_L_law_809 : decode code 809 = .ok (.iconst (0), 1) := by decide +kernel
theorem d_L_law_810 : decode code 810 = .ok (.ireturn, 1) := by decide +kernel
theorem d_L_law_811 : decode code 811 = .ok (.iload 5, 2) := by decide +kernel
theorem d_L_law_813 : decode code 813 = .ok (.ifCond .ne (15), 3) := by decide +kernel
theorem d_L_law_816 : decode code 816 = .ok (.aload_n 3, 1) := by decide +kernel
theorem d_L_law_817 : decode code 817 = .ok (.iconst (0), 1) := by decide +kernel
theorem d_L_law_818 : decode code 818 = .ok (.laload, 1) := by decide +kernel
theorem d_L_law_819 : decode code 819 = .ok (.iload 6, 2) := by decide +kernel
theorem d_L_law_821 : decode code 821 = .ok (.i2l, 1) := by decide +kernel
theorem d_L_law_822 : decode code 822 = .ok (.lcmp, 1) := by decide +kernel
theorem d_L_law_823 : decode code 823 = .ok (.ifCond .eq (5), 3) := by decide +kernel
theorem d_L_law_826 : decode code 826 = .ok (.iconst (0), 1) := by decide +kernel
theorem d_L_law_827 : decode code 827 = .ok (.ireturn, 1) := by decide +kernel
theorem d_L_law_828 : decode code 828 = .ok (.goto (163), 3) := by decide +kernel
theorem d_L_law_831 : decode code 831 = .ok (.aload_n 1, 1) := by decide +kernel
theorem d_L_law_832 : decode code 832 = .ok (.aload_n 0, 1) := by decide +kernel
theorem d_L_law_833 : decode code 833 = .ok (.iload 4, 2) := by decide +kernel
theorem d_L_law_835 : decode code 835 = .ok (.iconst (1), 1) := by decide +kernel
theorem d_L_law_836 : decode code 836 = .ok (.iadd, 1) := by decide +kernel
theorem d_L_law_837 : decode code 837 = .ok (.iaload, 1) := by decide +kernel
theorem d_L_law_838 : decode code 838 = .ok (.aload_n 0, 1) := by decide +kernel
theorem d_L_law_839 : decode code 839 = .ok (.iload 4, 2) := by decide +kernel
theorem d_L_law_841 : decode code 841 = .ok (.iconst (2), 1) := by decide +kernel
theorem d_L_law_842 : decode code 842 = .ok (.iadd, 1) := by decide +kernel
theorem d_L_law_843 : decode code 843 = .ok (.iaload, 1) := by decide +kernel
theorem d_L_law_844 : decode code 844 = .ok (.aload_n 0, 1) := by decide +kernel
theorem d_L_law_845 : decode code 845 = .ok (.iload 4, 2) := by decide +kernel
theorem d_L_law_847 : decode code 847 = .ok (.iconst (3), 1) := by decide +kernel
theorem d_L_law_848 : decode code 848 = .ok (.iadd, 1) := by decide +kernel
theorem d_L_law_849 : decode code 849 = .ok (.iaload, 1) := by decide +kernel
theorem d_L_law_850 : decode code 850 = .ok (.aload_n 3, 1) := by decide +kernel
theorem d_L_law_851 : decode code 851 = .ok (.invokestatic 120, 3) := by decide +kernel
theorem kw_L_byteAt : Cond.codeWith y_L_byteAt b_L_byteAt 6 (some .int) [(0, 12, 15, 13)] ∈ sm_ws := sm_inT 574 (by decide +kernel) (by decide +kernel)
theorem ki_L_byteAt : Cond.initialized (y_L_byteAt).cls ∈ sm_ws := sm_inT 0 (by decide +kernel) (by decide +kernel)
theorem kl_L_120 : Cond.methodLink RL 120 y_L_byteAt ∈ sm_ws := sm_inT 572 (by decide +kernel) (by decide +kernel)
theorem sw_L_byteAt : Cond.static y_L_byteAt ∈ sm_ws := sm_inT 573 (by decide +kernel) (by decide +kernel)
theorem d_L_law_854 : decode code 854 = .ok (.istore 5, 2) := by decide +kernel
theorem d_L_law_856 : decode code 856 = .ok (.aload_n 2, 1) := by decide +kernel
theorem d_L_law_857 : decode code 857 = .ok (.aload_n 0, 1) := by decide +kernel
theorem d_L_law_858 : decode code 858 = .ok (.iload 4, 2) := by decide +kernel
theorem d_L_law_860 : decode code 860 = .ok (.iconst (1), 1) := by decide +kernel
theorem d_L_law_861 : decode code 861 = .ok (.iadd, 1) := by decide +kernel
theorem d_L_law_862 : decode code 862 = .ok (.iaload, 1) := by decide +kernel
theorem d_L_law_863 : decode code 863 = .ok (.aload_n 0, 1) := by decide +kernel
theorem d_L_law_864 : decode code 864 = .ok (.iload 4, 2) := by decide +kernel
theorem d_L_law_866 : decode code 866 = .ok (.iconst (2), 1) := by decide +kernel
theorem d_L_law_867 : decode code 867 = .ok (.iadd, 1) := by decide +kernel
theorem d_L_law_868 : decode code 868 = .ok (.iaload, 1) := by decide +kernel
theorem d_L_law_869 : decode code 869 = .ok (.aload_n 0, 1) := by decide +kernel
theorem d_L_law_870 : decode code 870 = .ok (.iload 4, 2) := by decide +kernel
theorem d_L_law_872 : decode code 872 = .ok (.iconst (3), 1) := by decide +kernel
theorem d_L_law_873 : decode code 873 = .ok (.iadd, 1) := by decide +kernel
theorem d_L_law_874 : decode code 874 = .ok (.iaload, 1) := by decide +kernel
theorem d_L_law_875 : decode code 875 = .ok (.invokevirtual 122, 3) := by decide +kernel
theorem cw_L_122 : sm_cw RL 122 y_R_byteAt b_R_byteAt 6 (some .int) 3 := ⟨sm_inT 779 (by decide +kernel) (by decide +kernel), sm_inT 8 (by decide +kernel) (by decide +kernel), sm_inT 776 (by decide +kernel) (by decide +kernel), ⟨by decide, by decide, by decide +kernel⟩, by decide⟩
theorem iw_R_byteAt : Cond.instanceMethod y_R_byteAt ∈ sm_ws := sm_inT 777 (by decide +kernel) (by decide +kernel)
theorem se_R_byteAt : Cond.selects RX7 y_R_byteAt y_R_byteAt ∈ sm_ws := sm_inT 778 (by decide +kernel) (by decide +kernel)
theorem d_L_law_878 : decode code 878 = .ok (.istore 6, 2) := by decide +kernel
theorem d_L_law_880 : decode code 880 = .ok (.aload_n 2, 1) := by decide +kernel
theorem d_L_law_881 : decode code 881 = .ok (.invokevirtual 78, 3) := by decide +kernel
theorem d_L_law_884 : decode code 884 = .ok (.iload 5, 2) := by decide +kernel
theorem d_L_law_886 : decode code 886 = .ok (.if_icmp .eq (5), 3) := by decide +kernel
theorem d_L_law_889 : decode code 889 = .ok (.iconst (0), 1) := by decide +kernel
theorem d_L_law_890 : decode code 890 = .ok (.ireturn, 1) := by decide +kernel
theorem d_L_law_891 : decode code 891 = .ok (.iload 5, 2) := by decide +kernel
theorem d_L_law_893 : decode code 893 = .ok (.ifCond .ne (15), 3) := by decide +kernel
theorem d_L_law_896 : decode code 896 = .ok (.aload_n 3, 1) := by decide +kernel
theorem d_L_law_897 : decode code 897 = .ok (.iconst (0), 1) := by decide +kernel
theorem d_L_law_898 : decode code 898 = .ok (.laload, 1) := by decide +kernel
theorem d_L_law_899 : decode code 899 = .ok (.iload 6, 2) := by decide +kernel
theorem d_L_law_901 : decode code 901 = .ok (.i2l, 1) := by decide +kernel
theorem d_L_law_902 : decode code 902 = .ok (.lcmp, 1) := by decide +kernel
theorem d_L_law_903 : decode code 903 = .ok (.ifCond .eq (5), 3) := by decide +kernel
theorem d_L_law_906 : decode code 906 = .ok (.iconst (0), 1) := by decide +kernel
theorem d_L_law_907 : decode code 907 = .ok (.ireturn, 1) := by decide +kernel
theorem d_L_law_908 : decode code 908 = .ok (.goto (83), 3) := by decide +kernel
theorem d_L_law_911 : decode code 911 = .ok (.aload_n 1, 1) := by decide +kernel
theorem d_L_law_912 : decode code 912 = .ok (.aload_n 0, 1) := by decide +kernel
theorem d_L_law_913 : decode code 913 = .ok (.iload 4, 2) := by decide +kernel
theorem d_L_law_915 : decode code 915 = .ok (.iconst (1), 1) := by decide +kernel
theorem d_L_law_916 : decode code 916 = .ok (.iadd, 1) := by decide +kernel
theorem d_L_law_917 : decode code 917 = .ok (.iaload, 1) := by decide +kernel
theorem d_L_law_918 : decode code 918 = .ok (.aload_n 0, 1) := by decide +kernel
theorem d_L_law_919 : decode code 919 = .ok (.iload 4, 2) := by decide +kernel
theorem d_L_law_921 : decode code 921 = .ok (.iconst (2), 1) := by decide +kernel
theorem d_L_law_922 : decode code 922 = .ok (.iadd, 1) := by decide +kernel
theorem d_L_law_923 : decode code 923 = .ok (.iaload, 1) := by decide +kernel
theorem d_L_law_924 : decode code 924 = .ok (.aload_n 0, 1) := by decide +kernel
theorem d_L_law_925 : decode code 925 = .ok (.iload 4, 2) := by decide +kernel
theorem d_L_law_927 : decode code 927 = .ok (.iconst (3), 1) := by decide +kernel
theorem d_L_law_928 : decode code 928 = .ok (.iadd, 1) := by decide +kernel
theorem d_L_law_929 : decode code 929 = .ok (.iaload, 1) := by decide +kernel
theorem d_L_law_930 : decode code 930 = .ok (.aload_n 3, 1) := by decide +kernel
theorem d_L_law_931 : decode code 931 = .ok (.invokestatic 123, 3) := by decide +kernel
theorem kw_L_field : Cond.codeWith y_L_field b_L_field 6 (some .int) [(0, 12, 15, 13), (0, 12, 19, 19)] ∈ sm_ws := sm_inT 581 (by decide +kernel) (by decide +kernel)
theorem ki_L_field : Cond.initialized (y_L_field).cls ∈ sm_ws := sm_inT 0 (by decide +kernel) (by decide +kernel)
theorem kl_L_123 : Cond.methodLink RL 123 y_L_field ∈ sm_ws := sm_inT 579 (by decide +kernel) (by decide +kernel)
theorem sw_L_field : Cond.static y_L_field ∈ sm_ws := sm_inT 580 (by decide +kernel) (by decide +kernel)
theorem d_L_law_934 : decode code 934 = .ok (.istore 5, 2) := by decide +kernel
theorem d_L_law_936 : decode code 936 = .ok (.aload_n 2, 1) := by decide +kernel
theorem d_L_law_937 : decode code 937 = .ok (.aload_n 0, 1) := by decide +kernel
theorem d_L_law_938 : decode code 938 = .ok (.iload 4, 2) := by decide +kernel
theorem d_L_law_940 : decode code 940 = .ok (.iconst (1), 1) := by decide +kernel
theorem d_L_law_941 : decode code 941 = .ok (.iadd, 1) := by decide +kernel
theorem d_L_law_942 : decode code 942 = .ok (.iaload, 1) := by decide +kernel
theorem d_L_law_943 : decode code 943 = .ok (.aload_n 0, 1) := by decide +kernel
theorem d_L_law_944 : decode code 944 = .ok (.iload 4, 2) := by decide +kernel
theorem d_L_law_946 : decode code 946 = .ok (.iconst (2), 1) := by decide +kernel
theorem d_L_law_947 : decode code 947 = .ok (.iadd, 1) := by decide +kernel
theorem d_L_law_948 : decode code 948 = .ok (.iaload, 1) := by decide +kernel
theorem d_L_law_949 : decode code 949 = .ok (.aload_n 0, 1) := by decide +kernel
theorem d_L_law_950 : decode code 950 = .ok (.iload 4, 2) := by decide +kernel
theorem d_L_law_952 : decode code 952 = .ok (.iconst (3), 1) := by decide +kernel
theorem d_L_law_953 : decode code 953 = .ok (.iadd, 1) := by decide +kernel
theorem d_L_law_954 : decode code 954 = .ok (.iaload, 1) := by decide +kernel
theorem d_L_law_955 : decode code 955 = .ok (.invokevirtual 125, 3) := by decide +kernel
theorem cw_L_125 : sm_cw RL 125 y_R_field b_R_field 5 (some .int) 3 := ⟨sm_inT 670 (by decide +kernel) (by decide +kernel), sm_inT 8 (by decide +kernel) (by decide +kernel), sm_inT 667 (by decide +kernel) (by decide +kernel), ⟨by decide, by decide, by decide +kernel⟩, by decide⟩
theorem iw_R_field : Cond.instanceMethod y_R_field ∈ sm_ws := sm_inT 668 (by decide +kernel) (by decide +kernel)
theorem se_R_field : Cond.selects RX7 y_R_field y_R_field ∈ sm_ws := sm_inT 669 (by decide +kernel) (by decide +kernel)
theorem d_L_law_958 : decode code 958 = .ok (.istore 6, 2) := by decide +kernel
theorem d_L_law_960 : decode code 960 = .ok (.aload_n 2, 1) := by decide +kernel
theorem d_L_law_961 : decode code 961 = .ok (.invokevirtual 78, 3) := by decide +kernel
theorem d_L_law_964 : decode code 964 = .ok (.iload 5, 2) := by decide +kernel
theorem d_L_law_966 : decode code 966 = .ok (.if_icmp .eq (5), 3) := by decide +kernel
theorem d_L_law_969 : decode code 969 = .ok (.iconst (0), 1) := by decide +kernel
theorem d_L_law_970 : decode code 970 = .ok (.ireturn, 1) := by decide +kernel
theorem d_L_law_971 : decode code 971 = .ok (.iload 5, 2) := by decide +kernel
theorem d_L_law_973 : decode code 973 = .ok (.ifCond .ne (15), 3) := by decide +kernel
theorem d_L_law_976 : decode code 976 = .ok (.aload_n 3, 1) := by decide +kernel
theorem d_L_law_977 : decode code 977 = .ok (.iconst (0), 1) := by decide +kernel
theorem d_L_law_978 : decode code 978 = .ok (.laload, 1) := by decide +kernel
theorem d_L_law_979 : decode code 979 = .ok (.iload 6, 2) := by decide +kernel
theorem d_L_law_981 : decode code 981 = .ok (.i2l, 1) := by decide +kernel
theorem d_L_law_982 : decode code 982 = .ok (.lcmp, 1) := by decide +kernel
theorem d_L_law_983 : decode code 983 = .ok (.ifCond .eq (5), 3) := by decide +kernel
theorem d_L_law_986 : decode code 986 = .ok (.iconst (0), 1) := by decide +kernel
theorem d_L_law_987 : decode code 987 = .ok (.ireturn, 1) := by decide +kernel
theorem d_L_law_988 : decode code 988 = .ok (.goto (3), 3) := by decide +kernel
theorem d_L_law_991 : decode code 991 = .ok (.iinc 4 (4), 3) := by decide +kernel
theorem d_L_law_994 : decode code 994 = .ok (.goto (-971), 3) := by decide +kernel
theorem d_L_law_997 : decode code 997 = .ok (.iconst (1), 1) := by decide +kernel
theorem d_L_law_998 : decode code 998 = .ok (.ireturn, 1) := by decide +kernel
