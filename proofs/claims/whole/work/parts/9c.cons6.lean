/-! Constructors: what they decode to, their words -/
theorem ha_int : Cond.arrayClass .int ∈ sm_ws := sm_inT 40 (by decide +kernel) (by decide +kernel)
theorem ha_bool : Cond.arrayClass .boolean ∈ sm_ws := sm_inT 662 (by decide +kernel) (by decide +kernel)
theorem ha_long : Cond.arrayClass .long ∈ sm_ws := sm_inT 791 (by decide +kernel) (by decide +kernel)
theorem oi_in : Cond.instanceMethod objectInit ∈ sm_ws := sm_inT 25 (by decide +kernel) (by decide +kernel)
theorem oi_code : Cond.code objectInit ⟨#[0xb1]⟩ 1 none ∈ sm_ws := sm_inT 26 (by decide +kernel) (by decide +kernel)
theorem d_S_init_0 : decode b_S_init 0 = .ok (.aload_n 0, 1) := by decide +kernel
theorem d_S_init_1 : decode b_S_init 1 = .ok (.invokespecial 3, 3) := by decide +kernel
theorem d_S_init_4 : decode b_S_init 4 = .ok (.aload_n 0, 1) := by decide +kernel
theorem d_S_init_5 : decode b_S_init 5 = .ok (.new 9, 3) := by decide +kernel
theorem d_S_init_8 : decode b_S_init 8 = .ok (.dup, 1) := by decide +kernel
theorem d_S_init_9 : decode b_S_init 9 = .ok (.invokespecial 11, 3) := by decide +kernel
theorem d_S_init_12 : decode b_S_init 12 = .ok (.putfield 12, 3) := by decide +kernel
theorem d_S_init_15 : decode b_S_init 15 = .ok (.aload_n 0, 1) := by decide +kernel
theorem d_S_init_16 : decode b_S_init 16 = .ok (.new 16, 3) := by decide +kernel
theorem d_S_init_19 : decode b_S_init 19 = .ok (.dup, 1) := by decide +kernel
theorem d_S_init_20 : decode b_S_init 20 = .ok (.invokespecial 18, 3) := by decide +kernel
theorem d_S_init_23 : decode b_S_init 23 = .ok (.putfield 19, 3) := by decide +kernel
theorem d_S_init_26 : decode b_S_init 26 = .ok (.aload_n 0, 1) := by decide +kernel
theorem d_S_init_27 : decode b_S_init 27 = .ok (.bipush (12), 2) := by decide +kernel
theorem d_S_init_29 : decode b_S_init 29 = .ok (.anewarray 23, 3) := by decide +kernel
theorem d_S_init_32 : decode b_S_init 32 = .ok (.putfield 25, 3) := by decide +kernel
theorem d_S_init_35 : decode b_S_init 35 = .ok (.aload_n 0, 1) := by decide +kernel
theorem d_S_init_36 : decode b_S_init 36 = .ok (.bipush (12), 2) := by decide +kernel
theorem d_S_init_38 : decode b_S_init 38 = .ok (.anewarray 29, 3) := by decide +kernel
theorem d_S_init_41 : decode b_S_init 41 = .ok (.putfield 31, 3) := by decide +kernel
theorem d_S_init_44 : decode b_S_init 44 = .ok (.aload_n 0, 1) := by decide +kernel
theorem d_S_init_45 : decode b_S_init 45 = .ok (.new 35, 3) := by decide +kernel
theorem d_S_init_48 : decode b_S_init 48 = .ok (.dup, 1) := by decide +kernel
theorem d_S_init_49 : decode b_S_init 49 = .ok (.invokespecial 37, 3) := by decide +kernel
theorem d_S_init_52 : decode b_S_init 52 = .ok (.putfield 38, 3) := by decide +kernel
theorem d_S_init_55 : decode b_S_init 55 = .ok (.aload_n 0, 1) := by decide +kernel
theorem d_S_init_56 : decode b_S_init 56 = .ok (.bipush (8), 2) := by decide +kernel
theorem d_S_init_58 : decode b_S_init 58 = .ok (.newarray .int, 2) := by decide +kernel
theorem d_S_init_60 : decode b_S_init 60 = .ok (.putfield 42, 3) := by decide +kernel
theorem d_S_init_63 : decode b_S_init 63 = .ok (.aload_n 0, 1) := by decide +kernel
theorem d_S_init_64 : decode b_S_init 64 = .ok (.sipush (240), 3) := by decide +kernel
theorem d_S_init_67 : decode b_S_init 67 = .ok (.newarray .int, 2) := by decide +kernel
theorem d_S_init_69 : decode b_S_init 69 = .ok (.putfield 46, 3) := by decide +kernel
theorem d_S_init_72 : decode b_S_init 72 = .ok (.aload_n 0, 1) := by decide +kernel
theorem d_S_init_73 : decode b_S_init 73 = .ok (.sipush (240), 3) := by decide +kernel
theorem d_S_init_76 : decode b_S_init 76 = .ok (.newarray .int, 2) := by decide +kernel
theorem d_S_init_78 : decode b_S_init 78 = .ok (.putfield 49, 3) := by decide +kernel
theorem d_S_init_81 : decode b_S_init 81 = .ok (.aload_n 0, 1) := by decide +kernel
theorem d_S_init_82 : decode b_S_init 82 = .ok (.iconst (0), 1) := by decide +kernel
theorem d_S_init_83 : decode b_S_init 83 = .ok (.putfield 52, 3) := by decide +kernel
theorem d_S_init_86 : decode b_S_init 86 = .ok (.aload_n 0, 1) := by decide +kernel
theorem d_S_init_87 : decode b_S_init 87 = .ok (.iconst (-1), 1) := by decide +kernel
theorem d_S_init_88 : decode b_S_init 88 = .ok (.putfield 56, 3) := by decide +kernel
theorem d_S_init_91 : decode b_S_init 91 = .ok (.iconst (0), 1) := by decide +kernel
theorem d_S_init_92 : decode b_S_init 92 = .ok (.istore_n 1, 1) := by decide +kernel
theorem d_S_init_93 : decode b_S_init 93 = .ok (.iload_n 1, 1) := by decide +kernel
theorem d_S_init_94 : decode b_S_init 94 = .ok (.bipush (12), 2) := by decide +kernel
theorem d_S_init_96 : decode b_S_init 96 = .ok (.if_icmp .ge (25), 3) := by decide +kernel
theorem d_S_init_99 : decode b_S_init 99 = .ok (.aload_n 0, 1) := by decide +kernel
theorem d_S_init_100 : decode b_S_init 100 = .ok (.getfield 25, 3) := by decide +kernel
theorem d_S_init_103 : decode b_S_init 103 = .ok (.iload_n 1, 1) := by decide +kernel
theorem d_S_init_104 : decode b_S_init 104 = .ok (.new 23, 3) := by decide +kernel
theorem d_S_init_107 : decode b_S_init 107 = .ok (.dup, 1) := by decide +kernel
theorem d_S_init_108 : decode b_S_init 108 = .ok (.iload_n 1, 1) := by decide +kernel
theorem d_S_init_109 : decode b_S_init 109 = .ok (.iconst (1), 1) := by decide +kernel
theorem d_S_init_110 : decode b_S_init 110 = .ok (.iadd, 1) := by decide +kernel
theorem d_S_init_111 : decode b_S_init 111 = .ok (.invokespecial 59, 3) := by decide +kernel
theorem d_S_init_114 : decode b_S_init 114 = .ok (.aastore, 1) := by decide +kernel
theorem d_S_init_115 : decode b_S_init 115 = .ok (.iinc 1 (1), 3) := by decide +kernel
theorem d_S_init_118 : decode b_S_init 118 = .ok (.goto (-25), 3) := by decide +kernel
theorem d_S_init_121 : decode b_S_init 121 = .ok (.iconst (0), 1) := by decide +kernel
theorem d_S_init_122 : decode b_S_init 122 = .ok (.istore_n 1, 1) := by decide +kernel
theorem d_S_init_123 : decode b_S_init 123 = .ok (.iload_n 1, 1) := by decide +kernel
theorem d_S_init_124 : decode b_S_init 124 = .ok (.bipush (12), 2) := by decide +kernel
theorem d_S_init_126 : decode b_S_init 126 = .ok (.if_icmp .ge (22), 3) := by decide +kernel
theorem d_S_init_129 : decode b_S_init 129 = .ok (.aload_n 0, 1) := by decide +kernel
theorem d_S_init_130 : decode b_S_init 130 = .ok (.getfield 31, 3) := by decide +kernel
theorem d_S_init_133 : decode b_S_init 133 = .ok (.iload_n 1, 1) := by decide +kernel
theorem d_S_init_134 : decode b_S_init 134 = .ok (.new 29, 3) := by decide +kernel
theorem d_S_init_137 : decode b_S_init 137 = .ok (.dup, 1) := by decide +kernel
theorem d_S_init_138 : decode b_S_init 138 = .ok (.invokespecial 62, 3) := by decide +kernel
theorem d_S_init_141 : decode b_S_init 141 = .ok (.aastore, 1) := by decide +kernel
theorem d_S_init_142 : decode b_S_init 142 = .ok (.iinc 1 (1), 3) := by decide +kernel
theorem d_S_init_145 : decode b_S_init 145 = .ok (.goto (-22), 3) := by decide +kernel
theorem d_S_init_148 : decode b_S_init 148 = .ok (.return_, 1) := by decide +kernel
theorem ol_S_3 : Cond.methodLink RX6 3 objectInit ∈ sm_ws := sm_inT 24 (by decide +kernel) (by decide +kernel)
theorem nw_S_9 : sm_nw RX6 9 0 2 [true, true] := ⟨_, _, tyX0, rfl, rfl, tyX0_ok, by decide +kernel, in_X0, sm_inT 27 (by decide +kernel) (by decide +kernel), sm_inT 28 (by decide +kernel) (by decide +kernel), sm_inT 2 (by decide +kernel) (by decide +kernel)⟩
theorem cw_S_11 : sm_cw RX6 11 y_G_init b_G_init 3 none 0 := ⟨sm_inT 31 (by decide +kernel) (by decide +kernel), sm_inT 2 (by decide +kernel) (by decide +kernel), sm_inT 29 (by decide +kernel) (by decide +kernel), ⟨by decide, by decide, by decide +kernel⟩, by decide⟩
theorem iw_G_init : Cond.instanceMethod y_G_init ∈ sm_ws := sm_inT 30 (by decide +kernel) (by decide +kernel)
theorem pF_S_12 : sm_pF RX6 12 6 0 (.object "ShareShelf$Galois") := ⟨_, _, _, tyX6, rfl, in_X6, by decide, sm_inT 157 (by decide +kernel) (by decide +kernel), tyX6_ok, nmX6, rfl, rfl, by decide +kernel⟩
theorem nw_S_16 : sm_nw RX6 16 2 2 [true, true] := ⟨_, _, tyX2, rfl, rfl, tyX2_ok, by decide +kernel, in_X2, sm_inT 41 (by decide +kernel) (by decide +kernel), sm_inT 42 (by decide +kernel) (by decide +kernel), sm_inT 3 (by decide +kernel) (by decide +kernel)⟩
theorem kc_M_init : Cond.code y_M_init b_M_init 1 none ∈ sm_ws := sm_inT 45 (by decide +kernel) (by decide +kernel)
theorem ki_M_init : Cond.initialized (y_M_init).cls ∈ sm_ws := sm_inT 3 (by decide +kernel) (by decide +kernel)
theorem iw_M_init : Cond.instanceMethod y_M_init ∈ sm_ws := sm_inT 44 (by decide +kernel) (by decide +kernel)
theorem pF_S_19 : sm_pF RX6 19 6 1 (.object "ShareShelf$Matrices") := ⟨_, _, _, tyX6, rfl, in_X6, by decide, sm_inT 158 (by decide +kernel) (by decide +kernel), tyX6_ok, nmX6, rfl, rfl, by decide +kernel⟩
theorem cl_S_23 : Cond.classLink RX6 23 RX3 ∈ sm_ws := sm_inT 56 (by decide +kernel) (by decide +kernel)
theorem pF_S_25 : sm_pF RX6 25 6 2 (.array (.object "ShareShelf$Node")) := ⟨_, _, _, tyX6, rfl, in_X6, by decide, sm_inT 159 (by decide +kernel) (by decide +kernel), tyX6_ok, nmX6, rfl, rfl, by decide +kernel⟩
theorem cl_S_29 : Cond.classLink RX6 29 RX1 ∈ sm_ws := sm_inT 58 (by decide +kernel) (by decide +kernel)
theorem pF_S_31 : sm_pF RX6 31 6 3 (.array (.object "ShareShelf$Item")) := ⟨_, _, _, tyX6, rfl, in_X6, by decide, sm_inT 160 (by decide +kernel) (by decide +kernel), tyX6_ok, nmX6, rfl, rfl, by decide +kernel⟩
theorem nw_S_35 : sm_nw RX6 35 5 3 [true, true, false] := ⟨_, _, tyX5, rfl, rfl, tyX5_ok, by decide +kernel, in_X5, sm_inT 60 (by decide +kernel) (by decide +kernel), sm_inT 61 (by decide +kernel) (by decide +kernel), sm_inT 4 (by decide +kernel) (by decide +kernel)⟩
theorem kc_T_init : Cond.code y_T_init b_T_init 1 none ∈ sm_ws := sm_inT 64 (by decide +kernel) (by decide +kernel)
theorem ki_T_init : Cond.initialized (y_T_init).cls ∈ sm_ws := sm_inT 4 (by decide +kernel) (by decide +kernel)
theorem iw_T_init : Cond.instanceMethod y_T_init ∈ sm_ws := sm_inT 63 (by decide +kernel) (by decide +kernel)
theorem pF_S_38 : sm_pF RX6 38 6 4 (.object "ShareShelf$Team") := ⟨_, _, _, tyX6, rfl, in_X6, by decide, sm_inT 161 (by decide +kernel) (by decide +kernel), tyX6_ok, nmX6, rfl, rfl, by decide +kernel⟩
theorem pF_S_42 : sm_pF RX6 42 6 5 (.array .int) := ⟨_, _, _, tyX6, rfl, in_X6, by decide, sm_inT 162 (by decide +kernel) (by decide +kernel), tyX6_ok, nmX6, rfl, rfl, by decide +kernel⟩
theorem pF_S_46 : sm_pF RX6 46 6 6 (.array .int) := ⟨_, _, _, tyX6, rfl, in_X6, by decide, sm_inT 163 (by decide +kernel) (by decide +kernel), tyX6_ok, nmX6, rfl, rfl, by decide +kernel⟩
theorem pF_S_49 : sm_pF RX6 49 6 7 (.array .int) := ⟨_, _, _, tyX6, rfl, in_X6, by decide, sm_inT 164 (by decide +kernel) (by decide +kernel), tyX6_ok, nmX6, rfl, rfl, by decide +kernel⟩
theorem nw_S_23 : sm_nw RX6 23 3 5 [false, true, true, false, false] := ⟨_, _, tyX3, rfl, rfl, tyX3_ok, by decide +kernel, in_X3, sm_inT 56 (by decide +kernel) (by decide +kernel), sm_inT 81 (by decide +kernel) (by decide +kernel), sm_inT 5 (by decide +kernel) (by decide +kernel)⟩
theorem cw_S_59 : sm_cw RX6 59 y_N_init b_N_init 3 none 1 := ⟨sm_inT 84 (by decide +kernel) (by decide +kernel), sm_inT 5 (by decide +kernel) (by decide +kernel), sm_inT 82 (by decide +kernel) (by decide +kernel), ⟨by decide, by decide, by decide +kernel⟩, by decide⟩
theorem iw_N_init : Cond.instanceMethod y_N_init ∈ sm_ws := sm_inT 83 (by decide +kernel) (by decide +kernel)
theorem nw_S_29 : sm_nw RX6 29 1 5 [false, false, false, false, false] := ⟨_, _, tyX1, rfl, rfl, tyX1_ok, by decide +kernel, in_X1, sm_inT 58 (by decide +kernel) (by decide +kernel), sm_inT 131 (by decide +kernel) (by decide +kernel), sm_inT 7 (by decide +kernel) (by decide +kernel)⟩
theorem kc_I_init : Cond.code y_I_init b_I_init 1 none ∈ sm_ws := sm_inT 134 (by decide +kernel) (by decide +kernel)
theorem ki_I_init : Cond.initialized (y_I_init).cls ∈ sm_ws := sm_inT 7 (by decide +kernel) (by decide +kernel)
theorem iw_I_init : Cond.instanceMethod y_I_init ∈ sm_ws := sm_inT 133 (by decide +kernel) (by decide +kernel)
theorem d_R_init_0 : decode b_R_init 0 = .ok (.aload_n 0, 1) := by decide +kernel
theorem d_R_init_1 : decode b_R_init 1 = .ok (.invokespecial 1, 3) := by decide +kernel
theorem d_R_init_4 : decode b_R_init 4 = .ok (.aload_n 0, 1) := by decide +kernel
theorem d_R_init_5 : decode b_R_init 5 = .ok (.sipush (240), 3) := by decide +kernel
theorem d_R_init_8 : decode b_R_init 8 = .ok (.newarray .int, 2) := by decide +kernel
theorem d_R_init_10 : decode b_R_init 10 = .ok (.putfield 7, 3) := by decide +kernel
theorem d_R_init_13 : decode b_R_init 13 = .ok (.aload_n 0, 1) := by decide +kernel
theorem d_R_init_14 : decode b_R_init 14 = .ok (.sipush (240), 3) := by decide +kernel
theorem d_R_init_17 : decode b_R_init 17 = .ok (.newarray .int, 2) := by decide +kernel
theorem d_R_init_19 : decode b_R_init 19 = .ok (.putfield 13, 3) := by decide +kernel
theorem d_R_init_22 : decode b_R_init 22 = .ok (.aload_n 0, 1) := by decide +kernel
theorem d_R_init_23 : decode b_R_init 23 = .ok (.iconst (-1), 1) := by decide +kernel
theorem d_R_init_24 : decode b_R_init 24 = .ok (.putfield 16, 3) := by decide +kernel
theorem d_R_init_27 : decode b_R_init 27 = .ok (.aload_n 0, 1) := by decide +kernel
theorem d_R_init_28 : decode b_R_init 28 = .ok (.bipush (12), 2) := by decide +kernel
theorem d_R_init_30 : decode b_R_init 30 = .ok (.newarray .int, 2) := by decide +kernel
theorem d_R_init_32 : decode b_R_init 32 = .ok (.putfield 20, 3) := by decide +kernel
theorem d_R_init_35 : decode b_R_init 35 = .ok (.aload_n 0, 1) := by decide +kernel
theorem d_R_init_36 : decode b_R_init 36 = .ok (.bipush (12), 2) := by decide +kernel
theorem d_R_init_38 : decode b_R_init 38 = .ok (.newarray .int, 2) := by decide +kernel
theorem d_R_init_40 : decode b_R_init 40 = .ok (.putfield 23, 3) := by decide +kernel
theorem d_R_init_43 : decode b_R_init 43 = .ok (.aload_n 0, 1) := by decide +kernel
theorem d_R_init_44 : decode b_R_init 44 = .ok (.bipush (12), 2) := by decide +kernel
theorem d_R_init_46 : decode b_R_init 46 = .ok (.newarray .int, 2) := by decide +kernel
theorem d_R_init_48 : decode b_R_init 48 = .ok (.putfield 26, 3) := by decide +kernel
theorem d_R_init_51 : decode b_R_init 51 = .ok (.aload_n 0, 1) := by decide +kernel
theorem d_R_init_52 : decode b_R_init 52 = .ok (.bipush (12), 2) := by decide +kernel
theorem d_R_init_54 : decode b_R_init 54 = .ok (.newarray .int, 2) := by decide +kernel
theorem d_R_init_56 : decode b_R_init 56 = .ok (.putfield 29, 3) := by decide +kernel
theorem d_R_init_59 : decode b_R_init 59 = .ok (.aload_n 0, 1) := by decide +kernel
theorem d_R_init_60 : decode b_R_init 60 = .ok (.bipush (12), 2) := by decide +kernel
theorem d_R_init_62 : decode b_R_init 62 = .ok (.newarray .boolean, 2) := by decide +kernel
theorem d_R_init_64 : decode b_R_init 64 = .ok (.putfield 32, 3) := by decide +kernel
theorem d_R_init_67 : decode b_R_init 67 = .ok (.aload_n 0, 1) := by decide +kernel
theorem d_R_init_68 : decode b_R_init 68 = .ok (.bipush (12), 2) := by decide +kernel
theorem d_R_init_70 : decode b_R_init 70 = .ok (.newarray .boolean, 2) := by decide +kernel
theorem d_R_init_72 : decode b_R_init 72 = .ok (.putfield 36, 3) := by decide +kernel
theorem d_R_init_75 : decode b_R_init 75 = .ok (.aload_n 0, 1) := by decide +kernel
theorem d_R_init_76 : decode b_R_init 76 = .ok (.bipush (12), 2) := by decide +kernel
theorem d_R_init_78 : decode b_R_init 78 = .ok (.newarray .int, 2) := by decide +kernel
theorem d_R_init_80 : decode b_R_init 80 = .ok (.putfield 39, 3) := by decide +kernel
theorem d_R_init_83 : decode b_R_init 83 = .ok (.aload_n 0, 1) := by decide +kernel
theorem d_R_init_84 : decode b_R_init 84 = .ok (.sipush (144), 3) := by decide +kernel
theorem d_R_init_87 : decode b_R_init 87 = .ok (.newarray .int, 2) := by decide +kernel
theorem d_R_init_89 : decode b_R_init 89 = .ok (.putfield 42, 3) := by decide +kernel
theorem d_R_init_92 : decode b_R_init 92 = .ok (.aload_n 0, 1) := by decide +kernel
theorem d_R_init_93 : decode b_R_init 93 = .ok (.sipush (144), 3) := by decide +kernel
theorem d_R_init_96 : decode b_R_init 96 = .ok (.newarray .int, 2) := by decide +kernel
theorem d_R_init_98 : decode b_R_init 98 = .ok (.putfield 45, 3) := by decide +kernel
theorem d_R_init_101 : decode b_R_init 101 = .ok (.aload_n 0, 1) := by decide +kernel
theorem d_R_init_102 : decode b_R_init 102 = .ok (.ldc 48, 2) := by decide +kernel
theorem d_R_init_104 : decode b_R_init 104 = .ok (.newarray .int, 2) := by decide +kernel
theorem d_R_init_106 : decode b_R_init 106 = .ok (.putfield 49, 3) := by decide +kernel
theorem d_R_init_109 : decode b_R_init 109 = .ok (.aload_n 0, 1) := by decide +kernel
theorem d_R_init_110 : decode b_R_init 110 = .ok (.sipush (144), 3) := by decide +kernel
theorem d_R_init_113 : decode b_R_init 113 = .ok (.newarray .int, 2) := by decide +kernel
theorem d_R_init_115 : decode b_R_init 115 = .ok (.putfield 52, 3) := by decide +kernel
theorem d_R_init_118 : decode b_R_init 118 = .ok (.aload_n 0, 1) := by decide +kernel
theorem d_R_init_119 : decode b_R_init 119 = .ok (.sipush (144), 3) := by decide +kernel
theorem d_R_init_122 : decode b_R_init 122 = .ok (.newarray .int, 2) := by decide +kernel
theorem d_R_init_124 : decode b_R_init 124 = .ok (.putfield 55, 3) := by decide +kernel
theorem d_R_init_127 : decode b_R_init 127 = .ok (.aload_n 0, 1) := by decide +kernel
theorem d_R_init_128 : decode b_R_init 128 = .ok (.ldc 48, 2) := by decide +kernel
theorem d_R_init_130 : decode b_R_init 130 = .ok (.newarray .int, 2) := by decide +kernel
theorem d_R_init_132 : decode b_R_init 132 = .ok (.putfield 58, 3) := by decide +kernel
theorem d_R_init_135 : decode b_R_init 135 = .ok (.aload_n 0, 1) := by decide +kernel
theorem d_R_init_136 : decode b_R_init 136 = .ok (.bipush (64), 2) := by decide +kernel
theorem d_R_init_138 : decode b_R_init 138 = .ok (.newarray .int, 2) := by decide +kernel
theorem d_R_init_140 : decode b_R_init 140 = .ok (.putfield 61, 3) := by decide +kernel
theorem d_R_init_143 : decode b_R_init 143 = .ok (.aload_n 0, 1) := by decide +kernel
theorem d_R_init_144 : decode b_R_init 144 = .ok (.bipush (12), 2) := by decide +kernel
theorem d_R_init_146 : decode b_R_init 146 = .ok (.newarray .int, 2) := by decide +kernel
theorem d_R_init_148 : decode b_R_init 148 = .ok (.putfield 64, 3) := by decide +kernel
theorem d_R_init_151 : decode b_R_init 151 = .ok (.aload_n 0, 1) := by decide +kernel
theorem d_R_init_152 : decode b_R_init 152 = .ok (.bipush (12), 2) := by decide +kernel
theorem d_R_init_154 : decode b_R_init 154 = .ok (.newarray .boolean, 2) := by decide +kernel
theorem d_R_init_156 : decode b_R_init 156 = .ok (.putfield 67, 3) := by decide +kernel
theorem d_R_init_159 : decode b_R_init 159 = .ok (.return_, 1) := by decide +kernel
theorem ol_R_1 : Cond.methodLink RX7 1 objectInit ∈ sm_ws := sm_inT 596 (by decide +kernel) (by decide +kernel)
theorem pF_R_7 : sm_pF RX7 7 7 1 (.array .int) := ⟨_, _, _, tyX7, rfl, in_X7, by decide, sm_inT 599 (by decide +kernel) (by decide +kernel), tyX7_ok, nmX7, rfl, rfl, by decide +kernel⟩
theorem pF_R_13 : sm_pF RX7 13 7 3 (.array .int) := ⟨_, _, _, tyX7, rfl, in_X7, by decide, sm_inT 601 (by decide +kernel) (by decide +kernel), tyX7_ok, nmX7, rfl, rfl, by decide +kernel⟩
theorem pF_R_20 : sm_pF RX7 20 7 5 (.array .int) := ⟨_, _, _, tyX7, rfl, in_X7, by decide, sm_inT 603 (by decide +kernel) (by decide +kernel), tyX7_ok, nmX7, rfl, rfl, by decide +kernel⟩
theorem pF_R_23 : sm_pF RX7 23 7 6 (.array .int) := ⟨_, _, _, tyX7, rfl, in_X7, by decide, sm_inT 604 (by decide +kernel) (by decide +kernel), tyX7_ok, nmX7, rfl, rfl, by decide +kernel⟩
theorem pF_R_26 : sm_pF RX7 26 7 7 (.array .int) := ⟨_, _, _, tyX7, rfl, in_X7, by decide, sm_inT 605 (by decide +kernel) (by decide +kernel), tyX7_ok, nmX7, rfl, rfl, by decide +kernel⟩
theorem pF_R_29 : sm_pF RX7 29 7 8 (.array .int) := ⟨_, _, _, tyX7, rfl, in_X7, by decide, sm_inT 606 (by decide +kernel) (by decide +kernel), tyX7_ok, nmX7, rfl, rfl, by decide +kernel⟩
theorem pF_R_32 : sm_pF RX7 32 7 9 (.array .boolean) := ⟨_, _, _, tyX7, rfl, in_X7, by decide, sm_inT 607 (by decide +kernel) (by decide +kernel), tyX7_ok, nmX7, rfl, rfl, by decide +kernel⟩
theorem pF_R_36 : sm_pF RX7 36 7 10 (.array .boolean) := ⟨_, _, _, tyX7, rfl, in_X7, by decide, sm_inT 608 (by decide +kernel) (by decide +kernel), tyX7_ok, nmX7, rfl, rfl, by decide +kernel⟩
theorem pF_R_39 : sm_pF RX7 39 7 11 (.array .int) := ⟨_, _, _, tyX7, rfl, in_X7, by decide, sm_inT 609 (by decide +kernel) (by decide +kernel), tyX7_ok, nmX7, rfl, rfl, by decide +kernel⟩
theorem pF_R_42 : sm_pF RX7 42 7 12 (.array .int) := ⟨_, _, _, tyX7, rfl, in_X7, by decide, sm_inT 610 (by decide +kernel) (by decide +kernel), tyX7_ok, nmX7, rfl, rfl, by decide +kernel⟩
theorem pF_R_45 : sm_pF RX7 45 7 13 (.array .int) := ⟨_, _, _, tyX7, rfl, in_X7, by decide, sm_inT 611 (by decide +kernel) (by decide +kernel), tyX7_ok, nmX7, rfl, rfl, by decide +kernel⟩
theorem ld_R_48 : Cond.constant RX7 48 (nI 34560) ∈ sm_ws := sm_inT 597 (by decide +kernel) (by decide +kernel)
theorem pF_R_49 : sm_pF RX7 49 7 14 (.array .int) := ⟨_, _, _, tyX7, rfl, in_X7, by decide, sm_inT 612 (by decide +kernel) (by decide +kernel), tyX7_ok, nmX7, rfl, rfl, by decide +kernel⟩
theorem pF_R_52 : sm_pF RX7 52 7 15 (.array .int) := ⟨_, _, _, tyX7, rfl, in_X7, by decide, sm_inT 613 (by decide +kernel) (by decide +kernel), tyX7_ok, nmX7, rfl, rfl, by decide +kernel⟩
theorem pF_R_55 : sm_pF RX7 55 7 16 (.array .int) := ⟨_, _, _, tyX7, rfl, in_X7, by decide, sm_inT 614 (by decide +kernel) (by decide +kernel), tyX7_ok, nmX7, rfl, rfl, by decide +kernel⟩
theorem pF_R_58 : sm_pF RX7 58 7 17 (.array .int) := ⟨_, _, _, tyX7, rfl, in_X7, by decide, sm_inT 615 (by decide +kernel) (by decide +kernel), tyX7_ok, nmX7, rfl, rfl, by decide +kernel⟩
theorem pF_R_61 : sm_pF RX7 61 7 18 (.array .int) := ⟨_, _, _, tyX7, rfl, in_X7, by decide, sm_inT 616 (by decide +kernel) (by decide +kernel), tyX7_ok, nmX7, rfl, rfl, by decide +kernel⟩
theorem pF_R_64 : sm_pF RX7 64 7 19 (.array .int) := ⟨_, _, _, tyX7, rfl, in_X7, by decide, sm_inT 617 (by decide +kernel) (by decide +kernel), tyX7_ok, nmX7, rfl, rfl, by decide +kernel⟩
theorem pF_R_67 : sm_pF RX7 67 7 20 (.array .boolean) := ⟨_, _, _, tyX7, rfl, in_X7, by decide, sm_inT 618 (by decide +kernel) (by decide +kernel), tyX7_ok, nmX7, rfl, rfl, by decide +kernel⟩
theorem d_G_init_0 : decode b_G_init 0 = .ok (.aload_n 0, 1) := by decide +kernel
theorem d_G_init_1 : decode b_G_init 1 = .ok (.invokespecial 3, 3) := by decide +kernel
theorem d_G_init_4 : decode b_G_init 4 = .ok (.aload_n 0, 1) := by decide +kernel
theorem d_G_init_5 : decode b_G_init 5 = .ok (.sipush (255), 3) := by decide +kernel
theorem d_G_init_8 : decode b_G_init 8 = .ok (.newarray .int, 2) := by decide +kernel
theorem d_G_init_10 : decode b_G_init 10 = .ok (.putfield 11, 3) := by decide +kernel
theorem d_G_init_13 : decode b_G_init 13 = .ok (.aload_n 0, 1) := by decide +kernel
theorem d_G_init_14 : decode b_G_init 14 = .ok (.sipush (256), 3) := by decide +kernel
theorem d_G_init_17 : decode b_G_init 17 = .ok (.newarray .int, 2) := by decide +kernel
theorem d_G_init_19 : decode b_G_init 19 = .ok (.putfield 15, 3) := by decide +kernel
theorem d_G_init_22 : decode b_G_init 22 = .ok (.iconst (1), 1) := by decide +kernel
theorem d_G_init_23 : decode b_G_init 23 = .ok (.istore_n 1, 1) := by decide +kernel
theorem d_G_init_24 : decode b_G_init 24 = .ok (.iconst (0), 1) := by decide +kernel
theorem d_G_init_25 : decode b_G_init 25 = .ok (.istore_n 2, 1) := by decide +kernel
theorem d_G_init_26 : decode b_G_init 26 = .ok (.iload_n 2, 1) := by decide +kernel
theorem d_G_init_27 : decode b_G_init 27 = .ok (.sipush (255), 3) := by decide +kernel
theorem d_G_init_30 : decode b_G_init 30 = .ok (.if_icmp .ge (40), 3) := by decide +kernel
theorem d_G_init_33 : decode b_G_init 33 = .ok (.aload_n 0, 1) := by decide +kernel
theorem d_G_init_34 : decode b_G_init 34 = .ok (.getfield 11, 3) := by decide +kernel
theorem d_G_init_37 : decode b_G_init 37 = .ok (.iload_n 2, 1) := by decide +kernel
theorem d_G_init_38 : decode b_G_init 38 = .ok (.iload_n 1, 1) := by decide +kernel
theorem d_G_init_39 : decode b_G_init 39 = .ok (.iastore, 1) := by decide +kernel
theorem d_G_init_40 : decode b_G_init 40 = .ok (.aload_n 0, 1) := by decide +kernel
theorem d_G_init_41 : decode b_G_init 41 = .ok (.getfield 15, 3) := by decide +kernel
theorem d_G_init_44 : decode b_G_init 44 = .ok (.iload_n 1, 1) := by decide +kernel
theorem d_G_init_45 : decode b_G_init 45 = .ok (.iload_n 2, 1) := by decide +kernel
theorem d_G_init_46 : decode b_G_init 46 = .ok (.iastore, 1) := by decide +kernel
theorem d_G_init_47 : decode b_G_init 47 = .ok (.iload_n 1, 1) := by decide +kernel
theorem d_G_init_48 : decode b_G_init 48 = .ok (.iconst (1), 1) := by decide +kernel
theorem d_G_init_49 : decode b_G_init 49 = .ok (.ishl, 1) := by decide +kernel
theorem d_G_init_50 : decode b_G_init 50 = .ok (.istore_n 1, 1) := by decide +kernel
theorem d_G_init_51 : decode b_G_init 51 = .ok (.iload_n 1, 1) := by decide +kernel
theorem d_G_init_52 : decode b_G_init 52 = .ok (.sipush (255), 3) := by decide +kernel
theorem d_G_init_55 : decode b_G_init 55 = .ok (.if_icmp .le (9), 3) := by decide +kernel
theorem d_G_init_58 : decode b_G_init 58 = .ok (.iload_n 1, 1) := by decide +kernel
theorem d_G_init_59 : decode b_G_init 59 = .ok (.sipush (285), 3) := by decide +kernel
theorem d_G_init_62 : decode b_G_init 62 = .ok (.ixor, 1) := by decide +kernel
theorem d_G_init_63 : decode b_G_init 63 = .ok (.istore_n 1, 1) := by decide +kernel
theorem d_G_init_64 : decode b_G_init 64 = .ok (.iinc 2 (1), 3) := by decide +kernel
theorem d_G_init_67 : decode b_G_init 67 = .ok (.goto (-41), 3) := by decide +kernel
theorem d_G_init_70 : decode b_G_init 70 = .ok (.return_, 1) := by decide +kernel
theorem ol_G_3 : Cond.methodLink RX0 3 objectInit ∈ sm_ws := sm_inT 32 (by decide +kernel) (by decide +kernel)
theorem pF_G_11 : sm_pF RX0 11 0 0 (.array .int) := ⟨_, _, _, tyX0, rfl, in_X0, by decide, sm_inT 33 (by decide +kernel) (by decide +kernel), tyX0_ok, nmX0, rfl, rfl, by decide +kernel⟩
theorem pF_G_15 : sm_pF RX0 15 0 1 (.array .int) := ⟨_, _, _, tyX0, rfl, in_X0, by decide, sm_inT 34 (by decide +kernel) (by decide +kernel), tyX0_ok, nmX0, rfl, rfl, by decide +kernel⟩
theorem d_I_init_0 : decode b_I_init 0 = .ok (.aload_n 0, 1) := by decide +kernel
theorem d_I_init_1 : decode b_I_init 1 = .ok (.invokespecial 1, 3) := by decide +kernel
theorem d_I_init_4 : decode b_I_init 4 = .ok (.aload_n 0, 1) := by decide +kernel
theorem d_I_init_5 : decode b_I_init 5 = .ok (.iconst (0), 1) := by decide +kernel
theorem d_I_init_6 : decode b_I_init 6 = .ok (.putfield 7, 3) := by decide +kernel
theorem d_I_init_9 : decode b_I_init 9 = .ok (.aload_n 0, 1) := by decide +kernel
theorem d_I_init_10 : decode b_I_init 10 = .ok (.iconst (0), 1) := by decide +kernel
theorem d_I_init_11 : decode b_I_init 11 = .ok (.putfield 13, 3) := by decide +kernel
theorem d_I_init_14 : decode b_I_init 14 = .ok (.aload_n 0, 1) := by decide +kernel
theorem d_I_init_15 : decode b_I_init 15 = .ok (.iconst (0), 1) := by decide +kernel
theorem d_I_init_16 : decode b_I_init 16 = .ok (.putfield 16, 3) := by decide +kernel
theorem d_I_init_19 : decode b_I_init 19 = .ok (.aload_n 0, 1) := by decide +kernel
theorem d_I_init_20 : decode b_I_init 20 = .ok (.iconst (0), 1) := by decide +kernel
theorem d_I_init_21 : decode b_I_init 21 = .ok (.putfield 19, 3) := by decide +kernel
theorem d_I_init_24 : decode b_I_init 24 = .ok (.aload_n 0, 1) := by decide +kernel
theorem d_I_init_25 : decode b_I_init 25 = .ok (.iconst (0), 1) := by decide +kernel
theorem d_I_init_26 : decode b_I_init 26 = .ok (.putfield 22, 3) := by decide +kernel
theorem d_I_init_29 : decode b_I_init 29 = .ok (.return_, 1) := by decide +kernel
theorem ol_I_1 : Cond.methodLink RX1 1 objectInit ∈ sm_ws := sm_inT 135 (by decide +kernel) (by decide +kernel)
theorem d_M_init_0 : decode b_M_init 0 = .ok (.aload_n 0, 1) := by decide +kernel
theorem d_M_init_1 : decode b_M_init 1 = .ok (.invokespecial 3, 3) := by decide +kernel
theorem d_M_init_4 : decode b_M_init 4 = .ok (.aload_n 0, 1) := by decide +kernel
theorem d_M_init_5 : decode b_M_init 5 = .ok (.bipush (64), 2) := by decide +kernel
theorem d_M_init_7 : decode b_M_init 7 = .ok (.bipush (8), 2) := by decide +kernel
theorem d_M_init_9 : decode b_M_init 9 = .ok (.multianewarray 9 2, 4) := by decide +kernel
theorem d_M_init_13 : decode b_M_init 13 = .ok (.putfield 11, 3) := by decide +kernel
theorem d_M_init_16 : decode b_M_init 16 = .ok (.aload_n 0, 1) := by decide +kernel
theorem d_M_init_17 : decode b_M_init 17 = .ok (.iconst (5), 1) := by decide +kernel
theorem d_M_init_18 : decode b_M_init 18 = .ok (.newarray .int, 2) := by decide +kernel
theorem d_M_init_20 : decode b_M_init 20 = .ok (.putfield 16, 3) := by decide +kernel
theorem d_M_init_23 : decode b_M_init 23 = .ok (.return_, 1) := by decide +kernel
theorem ol_M_3 : Cond.methodLink RX2 3 objectInit ∈ sm_ws := sm_inT 46 (by decide +kernel) (by decide +kernel)
theorem cl_M_9 : Cond.classLink RX2 9 "[[I" ∈ sm_ws := sm_inT 47 (by decide +kernel) (by decide +kernel)
theorem pF_M_11 : sm_pF RX2 11 2 0 (.array (.array .int)) := ⟨_, _, _, tyX2, rfl, in_X2, by decide, sm_inT 49 (by decide +kernel) (by decide +kernel), tyX2_ok, nmX2, rfl, rfl, by decide +kernel⟩
theorem pF_M_16 : sm_pF RX2 16 2 1 (.array .int) := ⟨_, _, _, tyX2, rfl, in_X2, by decide, sm_inT 50 (by decide +kernel) (by decide +kernel), tyX2_ok, nmX2, rfl, rfl, by decide +kernel⟩
theorem d_N_init_0 : decode b_N_init 0 = .ok (.aload_n 0, 1) := by decide +kernel
theorem d_N_init_1 : decode b_N_init 1 = .ok (.invokespecial 3, 3) := by decide +kernel
theorem d_N_init_4 : decode b_N_init 4 = .ok (.aload_n 0, 1) := by decide +kernel
theorem d_N_init_5 : decode b_N_init 5 = .ok (.bipush (12), 2) := by decide +kernel
theorem d_N_init_7 : decode b_N_init 7 = .ok (.anewarray 9, 3) := by decide +kernel
theorem d_N_init_10 : decode b_N_init 10 = .ok (.putfield 11, 3) := by decide +kernel
theorem d_N_init_13 : decode b_N_init 13 = .ok (.aload_n 0, 1) := by decide +kernel
theorem d_N_init_14 : decode b_N_init 14 = .ok (.bipush (12), 2) := by decide +kernel
theorem d_N_init_16 : decode b_N_init 16 = .ok (.anewarray 9, 3) := by decide +kernel
theorem d_N_init_19 : decode b_N_init 19 = .ok (.putfield 17, 3) := by decide +kernel
theorem d_N_init_22 : decode b_N_init 22 = .ok (.aload_n 0, 1) := by decide +kernel
theorem d_N_init_23 : decode b_N_init 23 = .ok (.iconst (1), 1) := by decide +kernel
theorem d_N_init_24 : decode b_N_init 24 = .ok (.putfield 20, 3) := by decide +kernel
theorem d_N_init_27 : decode b_N_init 27 = .ok (.aload_n 0, 1) := by decide +kernel
theorem d_N_init_28 : decode b_N_init 28 = .ok (.iconst (0), 1) := by decide +kernel
theorem d_N_init_29 : decode b_N_init 29 = .ok (.putfield 24, 3) := by decide +kernel
theorem d_N_init_32 : decode b_N_init 32 = .ok (.aload_n 0, 1) := by decide +kernel
theorem d_N_init_33 : decode b_N_init 33 = .ok (.iload_n 1, 1) := by decide +kernel
theorem d_N_init_34 : decode b_N_init 34 = .ok (.putfield 28, 3) := by decide +kernel
theorem d_N_init_37 : decode b_N_init 37 = .ok (.iconst (0), 1) := by decide +kernel
theorem d_N_init_38 : decode b_N_init 38 = .ok (.istore_n 2, 1) := by decide +kernel
theorem d_N_init_39 : decode b_N_init 39 = .ok (.iload_n 2, 1) := by decide +kernel
theorem d_N_init_40 : decode b_N_init 40 = .ok (.bipush (12), 2) := by decide +kernel
theorem d_N_init_42 : decode b_N_init 42 = .ok (.if_icmp .ge (35), 3) := by decide +kernel
theorem d_N_init_45 : decode b_N_init 45 = .ok (.aload_n 0, 1) := by decide +kernel
theorem d_N_init_46 : decode b_N_init 46 = .ok (.getfield 11, 3) := by decide +kernel
theorem d_N_init_49 : decode b_N_init 49 = .ok (.iload_n 2, 1) := by decide +kernel
theorem d_N_init_50 : decode b_N_init 50 = .ok (.new 9, 3) := by decide +kernel
theorem d_N_init_53 : decode b_N_init 53 = .ok (.dup, 1) := by decide +kernel
theorem d_N_init_54 : decode b_N_init 54 = .ok (.invokespecial 31, 3) := by decide +kernel
theorem d_N_init_57 : decode b_N_init 57 = .ok (.aastore, 1) := by decide +kernel
theorem d_N_init_58 : decode b_N_init 58 = .ok (.aload_n 0, 1) := by decide +kernel
theorem d_N_init_59 : decode b_N_init 59 = .ok (.getfield 17, 3) := by decide +kernel
theorem d_N_init_62 : decode b_N_init 62 = .ok (.iload_n 2, 1) := by decide +kernel
theorem d_N_init_63 : decode b_N_init 63 = .ok (.new 9, 3) := by decide +kernel
theorem d_N_init_66 : decode b_N_init 66 = .ok (.dup, 1) := by decide +kernel
theorem d_N_init_67 : decode b_N_init 67 = .ok (.invokespecial 31, 3) := by decide +kernel
theorem d_N_init_70 : decode b_N_init 70 = .ok (.aastore, 1) := by decide +kernel
theorem d_N_init_71 : decode b_N_init 71 = .ok (.iinc 2 (1), 3) := by decide +kernel
theorem d_N_init_74 : decode b_N_init 74 = .ok (.goto (-35), 3) := by decide +kernel
theorem d_N_init_77 : decode b_N_init 77 = .ok (.return_, 1) := by decide +kernel
theorem ol_N_3 : Cond.methodLink RX3 3 objectInit ∈ sm_ws := sm_inT 85 (by decide +kernel) (by decide +kernel)
theorem cl_N_9 : Cond.classLink RX3 9 RX4 ∈ sm_ws := sm_inT 86 (by decide +kernel) (by decide +kernel)
theorem pF_N_11 : sm_pF RX3 11 3 1 (.array (.object "ShareShelf$Share")) := ⟨_, _, _, tyX3, rfl, in_X3, by decide, sm_inT 111 (by decide +kernel) (by decide +kernel), tyX3_ok, nmX3, rfl, rfl, by decide +kernel⟩
theorem pF_N_17 : sm_pF RX3 17 3 2 (.array (.object "ShareShelf$Share")) := ⟨_, _, _, tyX3, rfl, in_X3, by decide, sm_inT 114 (by decide +kernel) (by decide +kernel), tyX3_ok, nmX3, rfl, rfl, by decide +kernel⟩
theorem pw_N_24 : sm_pw RX3 24 3 4 .int := ⟨_, _, _, tyX3, rfl, in_X3, by decide, sm_inT 118 (by decide +kernel) (by decide +kernel), tyX3_ok, nmX3, rfl, by decide +kernel⟩
theorem pF_N_28 : sm_pF RX3 28 3 0 .int := ⟨_, _, _, tyX3, rfl, in_X3, by decide, sm_inT 109 (by decide +kernel) (by decide +kernel), tyX3_ok, nmX3, rfl, rfl, by decide +kernel⟩
theorem nw_N_9 : sm_nw RX3 9 4 3 [false, false, true] := ⟨_, _, tyX4, rfl, rfl, tyX4_ok, by decide +kernel, in_X4, sm_inT 86 (by decide +kernel) (by decide +kernel), sm_inT 88 (by decide +kernel) (by decide +kernel), sm_inT 6 (by decide +kernel) (by decide +kernel)⟩
theorem kc_H_init : Cond.code y_H_init b_H_init 1 none ∈ sm_ws := sm_inT 91 (by decide +kernel) (by decide +kernel)
theorem ki_H_init : Cond.initialized (y_H_init).cls ∈ sm_ws := sm_inT 6 (by decide +kernel) (by decide +kernel)
theorem iw_H_init : Cond.instanceMethod y_H_init ∈ sm_ws := sm_inT 90 (by decide +kernel) (by decide +kernel)
theorem d_H_init_0 : decode b_H_init 0 = .ok (.aload_n 0, 1) := by decide +kernel
theorem d_H_init_1 : decode b_H_init 1 = .ok (.invokespecial 3, 3) := by decide +kernel
theorem d_H_init_4 : decode b_H_init 4 = .ok (.aload_n 0, 1) := by decide +kernel
theorem d_H_init_5 : decode b_H_init 5 = .ok (.iconst (0), 1) := by decide +kernel
theorem d_H_init_6 : decode b_H_init 6 = .ok (.putfield 9, 3) := by decide +kernel
theorem d_H_init_9 : decode b_H_init 9 = .ok (.aload_n 0, 1) := by decide +kernel
theorem d_H_init_10 : decode b_H_init 10 = .ok (.iconst (0), 1) := by decide +kernel
theorem d_H_init_11 : decode b_H_init 11 = .ok (.putfield 15, 3) := by decide +kernel
theorem d_H_init_14 : decode b_H_init 14 = .ok (.aload_n 0, 1) := by decide +kernel
theorem d_H_init_15 : decode b_H_init 15 = .ok (.bipush (64), 2) := by decide +kernel
theorem d_H_init_17 : decode b_H_init 17 = .ok (.newarray .int, 2) := by decide +kernel
theorem d_H_init_19 : decode b_H_init 19 = .ok (.putfield 18, 3) := by decide +kernel
theorem d_H_init_22 : decode b_H_init 22 = .ok (.return_, 1) := by decide +kernel
theorem ol_H_3 : Cond.methodLink RX4 3 objectInit ∈ sm_ws := sm_inT 92 (by decide +kernel) (by decide +kernel)
theorem pF_H_18 : sm_pF RX4 18 4 2 (.array .int) := ⟨_, _, _, tyX4, rfl, in_X4, by decide, sm_inT 99 (by decide +kernel) (by decide +kernel), tyX4_ok, nmX4, rfl, rfl, by decide +kernel⟩
theorem d_T_init_0 : decode b_T_init 0 = .ok (.aload_n 0, 1) := by decide +kernel
theorem d_T_init_1 : decode b_T_init 1 = .ok (.invokespecial 3, 3) := by decide +kernel
theorem d_T_init_4 : decode b_T_init 4 = .ok (.aload_n 0, 1) := by decide +kernel
theorem d_T_init_5 : decode b_T_init 5 = .ok (.bipush (8), 2) := by decide +kernel
theorem d_T_init_7 : decode b_T_init 7 = .ok (.newarray .int, 2) := by decide +kernel
theorem d_T_init_9 : decode b_T_init 9 = .ok (.putfield 9, 3) := by decide +kernel
theorem d_T_init_12 : decode b_T_init 12 = .ok (.aload_n 0, 1) := by decide +kernel
theorem d_T_init_13 : decode b_T_init 13 = .ok (.bipush (8), 2) := by decide +kernel
theorem d_T_init_15 : decode b_T_init 15 = .ok (.newarray .int, 2) := by decide +kernel
theorem d_T_init_17 : decode b_T_init 17 = .ok (.putfield 15, 3) := by decide +kernel
theorem d_T_init_20 : decode b_T_init 20 = .ok (.aload_n 0, 1) := by decide +kernel
theorem d_T_init_21 : decode b_T_init 21 = .ok (.iconst (0), 1) := by decide +kernel
theorem d_T_init_22 : decode b_T_init 22 = .ok (.putfield 18, 3) := by decide +kernel
theorem d_T_init_25 : decode b_T_init 25 = .ok (.return_, 1) := by decide +kernel
theorem ol_T_3 : Cond.methodLink RX5 3 objectInit ∈ sm_ws := sm_inT 65 (by decide +kernel) (by decide +kernel)
theorem pF_T_9 : sm_pF RX5 9 5 0 (.array .int) := ⟨_, _, _, tyX5, rfl, in_X5, by decide, sm_inT 66 (by decide +kernel) (by decide +kernel), tyX5_ok, nmX5, rfl, rfl, by decide +kernel⟩
theorem pF_T_15 : sm_pF RX5 15 5 1 (.array .int) := ⟨_, _, _, tyX5, rfl, in_X5, by decide, sm_inT 69 (by decide +kernel) (by decide +kernel), tyX5_ok, nmX5, rfl, rfl, by decide +kernel⟩
