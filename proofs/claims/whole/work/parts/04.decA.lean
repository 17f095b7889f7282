theorem d_SM_init_0 : decode b_SM_init 0 = .ok (.aload_n 0, 1) := by decide +kernel
theorem d_SM_init_1 : decode b_SM_init 1 = .ok (.invokespecial 1, 3) := by decide +kernel
theorem d_SM_init_4 : decode b_SM_init 4 = .ok (.aload_n 0, 1) := by decide +kernel
theorem d_SM_init_5 : decode b_SM_init 5 = .ok (.bipush 10, 2) := by decide +kernel
theorem d_SM_init_7 : decode b_SM_init 7 = .ok (.anewarray 9, 3) := by decide +kernel
theorem d_SM_init_10 : decode b_SM_init 10 = .ok (.putfield 11, 3) := by decide +kernel
theorem d_SM_init_13 : decode b_SM_init 13 = .ok (.aload_n 0, 1) := by decide +kernel
theorem d_SM_init_14 : decode b_SM_init 14 = .ok (.bipush 40, 2) := by decide +kernel
theorem d_SM_init_16 : decode b_SM_init 16 = .ok (.anewarray 15, 3) := by decide +kernel
theorem d_SM_init_19 : decode b_SM_init 19 = .ok (.putfield 17, 3) := by decide +kernel
theorem d_SM_init_22 : decode b_SM_init 22 = .ok (.aload_n 0, 1) := by decide +kernel
theorem d_SM_init_23 : decode b_SM_init 23 = .ok (.iconst 4, 1) := by decide +kernel
theorem d_SM_init_24 : decode b_SM_init 24 = .ok (.anewarray 21, 3) := by decide +kernel
theorem d_SM_init_27 : decode b_SM_init 27 = .ok (.putfield 23, 3) := by decide +kernel
theorem d_SM_init_30 : decode b_SM_init 30 = .ok (.aload_n 0, 1) := by decide +kernel
theorem d_SM_init_31 : decode b_SM_init 31 = .ok (.iconst 4, 1) := by decide +kernel
theorem d_SM_init_32 : decode b_SM_init 32 = .ok (.newarray .int, 2) := by decide +kernel
theorem d_SM_init_34 : decode b_SM_init 34 = .ok (.putfield 27, 3) := by decide +kernel
theorem d_SM_init_37 : decode b_SM_init 37 = .ok (.aload_n 0, 1) := by decide +kernel
theorem d_SM_init_38 : decode b_SM_init 38 = .ok (.bipush 40, 2) := by decide +kernel
theorem d_SM_init_40 : decode b_SM_init 40 = .ok (.newarray .int, 2) := by decide +kernel
theorem d_SM_init_42 : decode b_SM_init 42 = .ok (.putfield 31, 3) := by decide +kernel
theorem d_SM_init_45 : decode b_SM_init 45 = .ok (.iconst 0, 1) := by decide +kernel
theorem d_SM_init_46 : decode b_SM_init 46 = .ok (.istore_n 3, 1) := by decide +kernel
theorem d_SM_init_47 : decode b_SM_init 47 = .ok (.iload_n 3, 1) := by decide +kernel
theorem d_SM_init_48 : decode b_SM_init 48 = .ok (.bipush 10, 2) := by decide +kernel
theorem d_SM_init_50 : decode b_SM_init 50 = .ok (.if_icmp .ge 22, 3) := by decide +kernel
theorem d_SM_init_53 : decode b_SM_init 53 = .ok (.aload_n 0, 1) := by decide +kernel
theorem d_SM_init_54 : decode b_SM_init 54 = .ok (.getfield 11, 3) := by decide +kernel
theorem d_SM_init_57 : decode b_SM_init 57 = .ok (.iload_n 3, 1) := by decide +kernel
theorem d_SM_init_58 : decode b_SM_init 58 = .ok (.new 9, 3) := by decide +kernel
theorem d_SM_init_61 : decode b_SM_init 61 = .ok (.dup, 1) := by decide +kernel
theorem d_SM_init_62 : decode b_SM_init 62 = .ok (.invokespecial 34, 3) := by decide +kernel
theorem d_SM_init_65 : decode b_SM_init 65 = .ok (.aastore, 1) := by decide +kernel
theorem d_SM_init_66 : decode b_SM_init 66 = .ok (.iinc 3 1, 3) := by decide +kernel
theorem d_SM_init_69 : decode b_SM_init 69 = .ok (.goto (-22), 3) := by decide +kernel
theorem d_SM_init_72 : decode b_SM_init 72 = .ok (.iconst 0, 1) := by decide +kernel
theorem d_SM_init_73 : decode b_SM_init 73 = .ok (.istore_n 3, 1) := by decide +kernel
theorem d_SM_init_74 : decode b_SM_init 74 = .ok (.iload_n 3, 1) := by decide +kernel
theorem d_SM_init_75 : decode b_SM_init 75 = .ok (.bipush 40, 2) := by decide +kernel
theorem d_SM_init_77 : decode b_SM_init 77 = .ok (.if_icmp .ge 22, 3) := by decide +kernel
theorem d_SM_init_80 : decode b_SM_init 80 = .ok (.aload_n 0, 1) := by decide +kernel
theorem d_SM_init_81 : decode b_SM_init 81 = .ok (.getfield 17, 3) := by decide +kernel
theorem d_SM_init_84 : decode b_SM_init 84 = .ok (.iload_n 3, 1) := by decide +kernel
theorem d_SM_init_85 : decode b_SM_init 85 = .ok (.new 15, 3) := by decide +kernel
theorem d_SM_init_88 : decode b_SM_init 88 = .ok (.dup, 1) := by decide +kernel
theorem d_SM_init_89 : decode b_SM_init 89 = .ok (.invokespecial 35, 3) := by decide +kernel
theorem d_SM_init_92 : decode b_SM_init 92 = .ok (.aastore, 1) := by decide +kernel
theorem d_SM_init_93 : decode b_SM_init 93 = .ok (.iinc 3 1, 3) := by decide +kernel
theorem d_SM_init_96 : decode b_SM_init 96 = .ok (.goto (-22), 3) := by decide +kernel
theorem d_SM_init_99 : decode b_SM_init 99 = .ok (.iconst 0, 1) := by decide +kernel
theorem d_SM_init_100 : decode b_SM_init 100 = .ok (.istore_n 3, 1) := by decide +kernel
theorem d_SM_init_101 : decode b_SM_init 101 = .ok (.iload_n 3, 1) := by decide +kernel
theorem d_SM_init_102 : decode b_SM_init 102 = .ok (.iconst 4, 1) := by decide +kernel
theorem d_SM_init_103 : decode b_SM_init 103 = .ok (.if_icmp .ge 22, 3) := by decide +kernel
theorem d_SM_init_106 : decode b_SM_init 106 = .ok (.aload_n 0, 1) := by decide +kernel
theorem d_SM_init_107 : decode b_SM_init 107 = .ok (.getfield 23, 3) := by decide +kernel
theorem d_SM_init_110 : decode b_SM_init 110 = .ok (.iload_n 3, 1) := by decide +kernel
theorem d_SM_init_111 : decode b_SM_init 111 = .ok (.new 21, 3) := by decide +kernel
theorem d_SM_init_114 : decode b_SM_init 114 = .ok (.dup, 1) := by decide +kernel
theorem d_SM_init_115 : decode b_SM_init 115 = .ok (.invokespecial 36, 3) := by decide +kernel
theorem d_SM_init_118 : decode b_SM_init 118 = .ok (.aastore, 1) := by decide +kernel
theorem d_SM_init_119 : decode b_SM_init 119 = .ok (.iinc 3 1, 3) := by decide +kernel
theorem d_SM_init_122 : decode b_SM_init 122 = .ok (.goto (-21), 3) := by decide +kernel
theorem d_SM_init_125 : decode b_SM_init 125 = .ok (.iconst 0, 1) := by decide +kernel
theorem d_SM_init_126 : decode b_SM_init 126 = .ok (.istore_n 3, 1) := by decide +kernel
theorem d_SM_init_127 : decode b_SM_init 127 = .ok (.iload_n 3, 1) := by decide +kernel
theorem d_SM_init_128 : decode b_SM_init 128 = .ok (.iconst 4, 1) := by decide +kernel
theorem d_SM_init_129 : decode b_SM_init 129 = .ok (.if_icmp .ge 16, 3) := by decide +kernel
theorem d_SM_init_132 : decode b_SM_init 132 = .ok (.aload_n 0, 1) := by decide +kernel
theorem d_SM_init_133 : decode b_SM_init 133 = .ok (.getfield 27, 3) := by decide +kernel
theorem d_SM_init_136 : decode b_SM_init 136 = .ok (.iload_n 3, 1) := by decide +kernel
theorem d_SM_init_137 : decode b_SM_init 137 = .ok (.iconst (-1), 1) := by decide +kernel
theorem d_SM_init_138 : decode b_SM_init 138 = .ok (.iastore, 1) := by decide +kernel
theorem d_SM_init_139 : decode b_SM_init 139 = .ok (.iinc 3 1, 3) := by decide +kernel
theorem d_SM_init_142 : decode b_SM_init 142 = .ok (.goto (-15), 3) := by decide +kernel
theorem d_SM_init_145 : decode b_SM_init 145 = .ok (.aload_n 0, 1) := by decide +kernel
theorem d_SM_init_146 : decode b_SM_init 146 = .ok (.getfield 11, 3) := by decide +kernel
theorem d_SM_init_149 : decode b_SM_init 149 = .ok (.iconst 0, 1) := by decide +kernel
theorem d_SM_init_150 : decode b_SM_init 150 = .ok (.aaload, 1) := by decide +kernel
theorem d_SM_init_151 : decode b_SM_init 151 = .ok (.iload_n 1, 1) := by decide +kernel
theorem d_SM_init_152 : decode b_SM_init 152 = .ok (.invokestatic 37, 3) := by decide +kernel
theorem d_SM_init_155 : decode b_SM_init 155 = .ok (.putfield 41, 3) := by decide +kernel
theorem d_SM_init_158 : decode b_SM_init 158 = .ok (.aload_n 0, 1) := by decide +kernel
theorem d_SM_init_159 : decode b_SM_init 159 = .ok (.getfield 11, 3) := by decide +kernel
theorem d_SM_init_162 : decode b_SM_init 162 = .ok (.iconst 1, 1) := by decide +kernel
theorem d_SM_init_163 : decode b_SM_init 163 = .ok (.aaload, 1) := by decide +kernel
theorem d_SM_init_164 : decode b_SM_init 164 = .ok (.iload_n 2, 1) := by decide +kernel
theorem d_SM_init_165 : decode b_SM_init 165 = .ok (.invokestatic 37, 3) := by decide +kernel
theorem d_SM_init_168 : decode b_SM_init 168 = .ok (.putfield 41, 3) := by decide +kernel
theorem d_SM_init_171 : decode b_SM_init 171 = .ok (.aload_n 0, 1) := by decide +kernel
theorem d_SM_init_172 : decode b_SM_init 172 = .ok (.iconst 2, 1) := by decide +kernel
theorem d_SM_init_173 : decode b_SM_init 173 = .ok (.putfield 45, 3) := by decide +kernel
theorem d_SM_init_176 : decode b_SM_init 176 = .ok (.return_, 1) := by decide +kernel
theorem d_SM_scope_0 : decode b_SM_scope 0 = .ok (.iload_n 1, 1) := by decide +kernel
theorem d_SM_scope_1 : decode b_SM_scope 1 = .ok (.iconst 1, 1) := by decide +kernel
theorem d_SM_scope_2 : decode b_SM_scope 2 = .ok (.if_icmp .lt 9, 3) := by decide +kernel
theorem d_SM_scope_5 : decode b_SM_scope 5 = .ok (.iload_n 1, 1) := by decide +kernel
theorem d_SM_scope_6 : decode b_SM_scope 6 = .ok (.bipush 40, 2) := by decide +kernel
theorem d_SM_scope_8 : decode b_SM_scope 8 = .ok (.if_icmp .le 5, 3) := by decide +kernel
theorem d_SM_scope_11 : decode b_SM_scope 11 = .ok (.iconst (-1), 1) := by decide +kernel
theorem d_SM_scope_12 : decode b_SM_scope 12 = .ok (.ireturn, 1) := by decide +kernel
theorem d_SM_scope_13 : decode b_SM_scope 13 = .ok (.aload_n 0, 1) := by decide +kernel
theorem d_SM_scope_14 : decode b_SM_scope 14 = .ok (.getfield 45, 3) := by decide +kernel
theorem d_SM_scope_17 : decode b_SM_scope 17 = .ok (.bipush 10, 2) := by decide +kernel
theorem d_SM_scope_19 : decode b_SM_scope 19 = .ok (.if_icmp .lt 6, 3) := by decide +kernel
theorem d_SM_scope_22 : decode b_SM_scope 22 = .ok (.bipush (-2), 2) := by decide +kernel
theorem d_SM_scope_24 : decode b_SM_scope 24 = .ok (.ireturn, 1) := by decide +kernel
theorem d_SM_scope_25 : decode b_SM_scope 25 = .ok (.aload_n 0, 1) := by decide +kernel
theorem d_SM_scope_26 : decode b_SM_scope 26 = .ok (.getfield 45, 3) := by decide +kernel
theorem d_SM_scope_29 : decode b_SM_scope 29 = .ok (.istore_n 2, 1) := by decide +kernel
theorem d_SM_scope_30 : decode b_SM_scope 30 = .ok (.aload_n 0, 1) := by decide +kernel
theorem d_SM_scope_31 : decode b_SM_scope 31 = .ok (.getfield 11, 3) := by decide +kernel
theorem d_SM_scope_34 : decode b_SM_scope 34 = .ok (.iload_n 2, 1) := by decide +kernel
theorem d_SM_scope_35 : decode b_SM_scope 35 = .ok (.aaload, 1) := by decide +kernel
theorem d_SM_scope_36 : decode b_SM_scope 36 = .ok (.iload_n 1, 1) := by decide +kernel
theorem d_SM_scope_37 : decode b_SM_scope 37 = .ok (.putfield 41, 3) := by decide +kernel
theorem d_SM_scope_40 : decode b_SM_scope 40 = .ok (.aload_n 0, 1) := by decide +kernel
theorem d_SM_scope_41 : decode b_SM_scope 41 = .ok (.dup, 1) := by decide +kernel
theorem d_SM_scope_42 : decode b_SM_scope 42 = .ok (.getfield 45, 3) := by decide +kernel
theorem d_SM_scope_45 : decode b_SM_scope 45 = .ok (.iconst 1, 1) := by decide +kernel
theorem d_SM_scope_46 : decode b_SM_scope 46 = .ok (.iadd, 1) := by decide +kernel
theorem d_SM_scope_47 : decode b_SM_scope 47 = .ok (.putfield 45, 3) := by decide +kernel
theorem d_SM_scope_50 : decode b_SM_scope 50 = .ok (.iload_n 2, 1) := by decide +kernel
theorem d_SM_scope_51 : decode b_SM_scope 51 = .ok (.ireturn, 1) := by decide +kernel
theorem d_SM_begin_0 : decode b_SM_begin 0 = .ok (.iload_n 1, 1) := by decide +kernel
theorem d_SM_begin_1 : decode b_SM_begin 1 = .ok (.invokestatic 48, 3) := by decide +kernel
theorem d_SM_begin_4 : decode b_SM_begin 4 = .ok (.ifCond .eq 11, 3) := by decide +kernel
theorem d_SM_begin_7 : decode b_SM_begin 7 = .ok (.aload_n 0, 1) := by decide +kernel
theorem d_SM_begin_8 : decode b_SM_begin 8 = .ok (.iload_n 1, 1) := by decide +kernel
theorem d_SM_begin_9 : decode b_SM_begin 9 = .ok (.invokevirtual 52, 3) := by decide +kernel
theorem d_SM_begin_12 : decode b_SM_begin 12 = .ok (.ifCond .eq 5, 3) := by decide +kernel
theorem d_SM_begin_15 : decode b_SM_begin 15 = .ok (.iconst (-1), 1) := by decide +kernel
theorem d_SM_begin_16 : decode b_SM_begin 16 = .ok (.ireturn, 1) := by decide +kernel
theorem d_SM_begin_17 : decode b_SM_begin 17 = .ok (.aload_n 0, 1) := by decide +kernel
theorem d_SM_begin_18 : decode b_SM_begin 18 = .ok (.getfield 23, 3) := by decide +kernel
theorem d_SM_begin_21 : decode b_SM_begin 21 = .ok (.iload_n 1, 1) := by decide +kernel
theorem d_SM_begin_22 : decode b_SM_begin 22 = .ok (.aaload, 1) := by decide +kernel
theorem d_SM_begin_23 : decode b_SM_begin 23 = .ok (.iload_n 2, 1) := by decide +kernel
theorem d_SM_begin_24 : decode b_SM_begin 24 = .ok (.putfield 55, 3) := by decide +kernel
theorem d_SM_begin_27 : decode b_SM_begin 27 = .ok (.aload_n 0, 1) := by decide +kernel
theorem d_SM_begin_28 : decode b_SM_begin 28 = .ok (.getfield 23, 3) := by decide +kernel
theorem d_SM_begin_31 : decode b_SM_begin 31 = .ok (.iload_n 1, 1) := by decide +kernel
theorem d_SM_begin_32 : decode b_SM_begin 32 = .ok (.aaload, 1) := by decide +kernel
theorem d_SM_begin_33 : decode b_SM_begin 33 = .ok (.iload_n 2, 1) := by decide +kernel
theorem d_SM_begin_34 : decode b_SM_begin 34 = .ok (.ifCond .eq 7, 3) := by decide +kernel
theorem d_SM_begin_37 : decode b_SM_begin 37 = .ok (.iconst 1, 1) := by decide +kernel
theorem d_SM_begin_38 : decode b_SM_begin 38 = .ok (.goto 4, 3) := by decide +kernel
theorem d_SM_begin_41 : decode b_SM_begin 41 = .ok (.iconst 0, 1) := by decide +kernel
theorem d_SM_begin_42 : decode b_SM_begin 42 = .ok (.iconst (-1), 1) := by decide +kernel
theorem d_SM_begin_43 : decode b_SM_begin 43 = .ok (.iconst 0, 1) := by decide +kernel
theorem d_SM_begin_44 : decode b_SM_begin 44 = .ok (.invokevirtual 59, 3) := by decide +kernel
theorem d_SM_begin_47 : decode b_SM_begin 47 = .ok (.iconst 0, 1) := by decide +kernel
theorem d_SM_begin_48 : decode b_SM_begin 48 = .ok (.ireturn, 1) := by decide +kernel
theorem d_SM_enter_0 : decode b_SM_enter 0 = .ok (.aload_n 0, 1) := by decide +kernel
theorem d_SM_enter_1 : decode b_SM_enter 1 = .ok (.iload_n 1, 1) := by decide +kernel
theorem d_SM_enter_2 : decode b_SM_enter 2 = .ok (.invokevirtual 52, 3) := by decide +kernel
theorem d_SM_enter_5 : decode b_SM_enter 5 = .ok (.ifCond .eq 11, 3) := by decide +kernel
theorem d_SM_enter_8 : decode b_SM_enter 8 = .ok (.aload_n 0, 1) := by decide +kernel
theorem d_SM_enter_9 : decode b_SM_enter 9 = .ok (.iload_n 2, 1) := by decide +kernel
theorem d_SM_enter_10 : decode b_SM_enter 10 = .ok (.invokevirtual 63, 3) := by decide +kernel
theorem d_SM_enter_13 : decode b_SM_enter 13 = .ok (.ifCond .ne 5, 3) := by decide +kernel
theorem d_SM_enter_16 : decode b_SM_enter 16 = .ok (.iconst (-1), 1) := by decide +kernel
theorem d_SM_enter_17 : decode b_SM_enter 17 = .ok (.ireturn, 1) := by decide +kernel
theorem d_SM_enter_18 : decode b_SM_enter 18 = .ok (.aload_n 0, 1) := by decide +kernel
theorem d_SM_enter_19 : decode b_SM_enter 19 = .ok (.getfield 23, 3) := by decide +kernel
theorem d_SM_enter_22 : decode b_SM_enter 22 = .ok (.iload_n 1, 1) := by decide +kernel
theorem d_SM_enter_23 : decode b_SM_enter 23 = .ok (.aaload, 1) := by decide +kernel
theorem d_SM_enter_24 : decode b_SM_enter 24 = .ok (.astore_n 3, 1) := by decide +kernel
theorem d_SM_enter_25 : decode b_SM_enter 25 = .ok (.aload_n 0, 1) := by decide +kernel
theorem d_SM_enter_26 : decode b_SM_enter 26 = .ok (.getfield 11, 3) := by decide +kernel
theorem d_SM_enter_29 : decode b_SM_enter 29 = .ok (.iload_n 2, 1) := by decide +kernel
theorem d_SM_enter_30 : decode b_SM_enter 30 = .ok (.aaload, 1) := by decide +kernel
theorem d_SM_enter_31 : decode b_SM_enter 31 = .ok (.astore 4, 2) := by decide +kernel
theorem d_SM_enter_33 : decode b_SM_enter 33 = .ok (.aload_n 3, 1) := by decide +kernel
theorem d_SM_enter_34 : decode b_SM_enter 34 = .ok (.invokevirtual 66, 3) := by decide +kernel
theorem d_SM_enter_37 : decode b_SM_enter 37 = .ok (.istore 5, 2) := by decide +kernel
theorem d_SM_enter_39 : decode b_SM_enter 39 = .ok (.aload_n 3, 1) := by decide +kernel
theorem d_SM_enter_40 : decode b_SM_enter 40 = .ok (.iload_n 2, 1) := by decide +kernel
theorem d_SM_enter_41 : decode b_SM_enter 41 = .ok (.invokevirtual 70, 3) := by decide +kernel
theorem d_SM_enter_44 : decode b_SM_enter 44 = .ok (.ifCond .ne 21, 3) := by decide +kernel
theorem d_SM_enter_47 : decode b_SM_enter 47 = .ok (.aload 4, 2) := by decide +kernel
theorem d_SM_enter_49 : decode b_SM_enter 49 = .ok (.getfield 73, 3) := by decide +kernel
theorem d_SM_enter_52 : decode b_SM_enter 52 = .ok (.ifCond .le 16, 3) := by decide +kernel
theorem d_SM_enter_55 : decode b_SM_enter 55 = .ok (.aload 4, 2) := by decide +kernel
theorem d_SM_enter_57 : decode b_SM_enter 57 = .ok (.getfield 76, 3) := by decide +kernel
theorem d_SM_enter_60 : decode b_SM_enter 60 = .ok (.iload 5, 2) := by decide +kernel
theorem d_SM_enter_62 : decode b_SM_enter 62 = .ok (.if_icmp .eq 6, 3) := by decide +kernel
theorem d_SM_enter_65 : decode b_SM_enter 65 = .ok (.bipush (-3), 2) := by decide +kernel
theorem d_SM_enter_67 : decode b_SM_enter 67 = .ok (.ireturn, 1) := by decide +kernel
theorem d_SM_enter_68 : decode b_SM_enter 68 = .ok (.aload_n 3, 1) := by decide +kernel
theorem d_SM_enter_69 : decode b_SM_enter 69 = .ok (.invokevirtual 79, 3) := by decide +kernel
theorem d_SM_enter_72 : decode b_SM_enter 72 = .ok (.ifCond .eq 6, 3) := by decide +kernel
theorem d_SM_enter_75 : decode b_SM_enter 75 = .ok (.bipush (-2), 2) := by decide +kernel
theorem d_SM_enter_77 : decode b_SM_enter 77 = .ok (.ireturn, 1) := by decide +kernel
theorem d_SM_enter_78 : decode b_SM_enter 78 = .ok (.aload 4, 2) := by decide +kernel
theorem d_SM_enter_80 : decode b_SM_enter 80 = .ok (.getfield 73, 3) := by decide +kernel
theorem d_SM_enter_83 : decode b_SM_enter 83 = .ok (.ifCond .ne 10, 3) := by decide +kernel
theorem d_SM_enter_86 : decode b_SM_enter 86 = .ok (.aload 4, 2) := by decide +kernel
theorem d_SM_enter_88 : decode b_SM_enter 88 = .ok (.iload 5, 2) := by decide +kernel
theorem d_SM_enter_90 : decode b_SM_enter 90 = .ok (.putfield 76, 3) := by decide +kernel
theorem d_SM_enter_93 : decode b_SM_enter 93 = .ok (.aload 4, 2) := by decide +kernel
theorem d_SM_enter_95 : decode b_SM_enter 95 = .ok (.dup, 1) := by decide +kernel
theorem d_SM_enter_96 : decode b_SM_enter 96 = .ok (.getfield 73, 3) := by decide +kernel
theorem d_SM_enter_99 : decode b_SM_enter 99 = .ok (.iconst 1, 1) := by decide +kernel
theorem d_SM_enter_100 : decode b_SM_enter 100 = .ok (.iadd, 1) := by decide +kernel
theorem d_SM_enter_101 : decode b_SM_enter 101 = .ok (.putfield 73, 3) := by decide +kernel
theorem d_SM_enter_104 : decode b_SM_enter 104 = .ok (.aload_n 3, 1) := by decide +kernel
theorem d_SM_enter_105 : decode b_SM_enter 105 = .ok (.iload_n 2, 1) := by decide +kernel
theorem d_SM_enter_106 : decode b_SM_enter 106 = .ok (.aload_n 3, 1) := by decide +kernel
theorem d_SM_enter_107 : decode b_SM_enter 107 = .ok (.invokevirtual 83, 3) := by decide +kernel
theorem d_SM_enter_110 : decode b_SM_enter 110 = .ok (.iconst 1, 1) := by decide +kernel
theorem d_SM_enter_111 : decode b_SM_enter 111 = .ok (.invokevirtual 59, 3) := by decide +kernel
theorem d_SM_enter_114 : decode b_SM_enter 114 = .ok (.aload 4, 2) := by decide +kernel
theorem d_SM_enter_116 : decode b_SM_enter 116 = .ok (.getfield 73, 3) := by decide +kernel
theorem d_SM_enter_119 : decode b_SM_enter 119 = .ok (.ireturn, 1) := by decide +kernel
theorem d_SM_turn_0 : decode b_SM_turn 0 = .ok (.aload_n 0, 1) := by decide +kernel
theorem d_SM_turn_1 : decode b_SM_turn 1 = .ok (.iload_n 1, 1) := by decide +kernel
theorem d_SM_turn_2 : decode b_SM_turn 2 = .ok (.invokevirtual 52, 3) := by decide +kernel
theorem d_SM_turn_5 : decode b_SM_turn 5 = .ok (.ifCond .eq 11, 3) := by decide +kernel
theorem d_SM_turn_8 : decode b_SM_turn 8 = .ok (.aload_n 0, 1) := by decide +kernel
theorem d_SM_turn_9 : decode b_SM_turn 9 = .ok (.iload_n 2, 1) := by decide +kernel
theorem d_SM_turn_10 : decode b_SM_turn 10 = .ok (.invokevirtual 86, 3) := by decide +kernel
theorem d_SM_turn_13 : decode b_SM_turn 13 = .ok (.ifCond .ne 5, 3) := by decide +kernel
theorem d_SM_turn_16 : decode b_SM_turn 16 = .ok (.iconst (-1), 1) := by decide +kernel
theorem d_SM_turn_17 : decode b_SM_turn 17 = .ok (.ireturn, 1) := by decide +kernel
theorem d_SM_turn_18 : decode b_SM_turn 18 = .ok (.aload_n 0, 1) := by decide +kernel
theorem d_SM_turn_19 : decode b_SM_turn 19 = .ok (.getfield 23, 3) := by decide +kernel
theorem d_SM_turn_22 : decode b_SM_turn 22 = .ok (.iload_n 1, 1) := by decide +kernel
theorem d_SM_turn_23 : decode b_SM_turn 23 = .ok (.aaload, 1) := by decide +kernel
theorem d_SM_turn_24 : decode b_SM_turn 24 = .ok (.astore_n 3, 1) := by decide +kernel
theorem d_SM_turn_25 : decode b_SM_turn 25 = .ok (.iload_n 2, 1) := by decide +kernel
theorem d_SM_turn_26 : decode b_SM_turn 26 = .ok (.ifCond .ne 13, 3) := by decide +kernel
theorem d_SM_turn_29 : decode b_SM_turn 29 = .ok (.aload_n 3, 1) := by decide +kernel
theorem d_SM_turn_30 : decode b_SM_turn 30 = .ok (.getfield 55, 3) := by decide +kernel
theorem d_SM_turn_33 : decode b_SM_turn 33 = .ok (.ifCond .eq 6, 3) := by decide +kernel
theorem d_SM_turn_36 : decode b_SM_turn 36 = .ok (.bipush (-5), 2) := by decide +kernel
theorem d_SM_turn_38 : decode b_SM_turn 38 = .ok (.ireturn, 1) := by decide +kernel
theorem d_SM_turn_39 : decode b_SM_turn 39 = .ok (.aload_n 0, 1) := by decide +kernel
theorem d_SM_turn_40 : decode b_SM_turn 40 = .ok (.iload_n 2, 1) := by decide +kernel
theorem d_SM_turn_41 : decode b_SM_turn 41 = .ok (.invokevirtual 63, 3) := by decide +kernel
theorem d_SM_turn_44 : decode b_SM_turn 44 = .ok (.ifCond .eq 14, 3) := by decide +kernel
theorem d_SM_turn_47 : decode b_SM_turn 47 = .ok (.aload_n 3, 1) := by decide +kernel
theorem d_SM_turn_48 : decode b_SM_turn 48 = .ok (.iload_n 2, 1) := by decide +kernel
theorem d_SM_turn_49 : decode b_SM_turn 49 = .ok (.invokevirtual 70, 3) := by decide +kernel
theorem d_SM_turn_52 : decode b_SM_turn 52 = .ok (.ifCond .ne 6, 3) := by decide +kernel
theorem d_SM_turn_55 : decode b_SM_turn 55 = .ok (.bipush (-4), 2) := by decide +kernel
theorem d_SM_turn_57 : decode b_SM_turn 57 = .ok (.ireturn, 1) := by decide +kernel
theorem d_SM_turn_58 : decode b_SM_turn 58 = .ok (.aload_n 3, 1) := by decide +kernel
theorem d_SM_turn_59 : decode b_SM_turn 59 = .ok (.invokevirtual 79, 3) := by decide +kernel
theorem d_SM_turn_62 : decode b_SM_turn 62 = .ok (.ifCond .eq 6, 3) := by decide +kernel
theorem d_SM_turn_65 : decode b_SM_turn 65 = .ok (.bipush (-2), 2) := by decide +kernel
theorem d_SM_turn_67 : decode b_SM_turn 67 = .ok (.ireturn, 1) := by decide +kernel
theorem d_SM_turn_68 : decode b_SM_turn 68 = .ok (.aload_n 3, 1) := by decide +kernel
theorem d_SM_turn_69 : decode b_SM_turn 69 = .ok (.iload_n 2, 1) := by decide +kernel
theorem d_SM_turn_70 : decode b_SM_turn 70 = .ok (.aload_n 0, 1) := by decide +kernel
theorem d_SM_turn_71 : decode b_SM_turn 71 = .ok (.iload_n 2, 1) := by decide +kernel
theorem d_SM_turn_72 : decode b_SM_turn 72 = .ok (.invokevirtual 63, 3) := by decide +kernel
theorem d_SM_turn_75 : decode b_SM_turn 75 = .ok (.ifCond .eq 11, 3) := by decide +kernel
theorem d_SM_turn_78 : decode b_SM_turn 78 = .ok (.aload_n 3, 1) := by decide +kernel
theorem d_SM_turn_79 : decode b_SM_turn 79 = .ok (.iload_n 2, 1) := by decide +kernel
theorem d_SM_turn_80 : decode b_SM_turn 80 = .ok (.invokevirtual 89, 3) := by decide +kernel
theorem d_SM_turn_83 : decode b_SM_turn 83 = .ok (.goto 4, 3) := by decide +kernel
theorem d_SM_turn_86 : decode b_SM_turn 86 = .ok (.iconst (-1), 1) := by decide +kernel
theorem d_SM_turn_87 : decode b_SM_turn 87 = .ok (.iconst 0, 1) := by decide +kernel
theorem d_SM_turn_88 : decode b_SM_turn 88 = .ok (.invokevirtual 59, 3) := by decide +kernel
theorem d_SM_turn_91 : decode b_SM_turn 91 = .ok (.aload_n 3, 1) := by decide +kernel
theorem d_SM_turn_92 : decode b_SM_turn 92 = .ok (.getfield 92, 3) := by decide +kernel
theorem d_SM_turn_95 : decode b_SM_turn 95 = .ok (.ireturn, 1) := by decide +kernel
theorem d_SM_leave_0 : decode b_SM_leave 0 = .ok (.aload_n 0, 1) := by decide +kernel
theorem d_SM_leave_1 : decode b_SM_leave 1 = .ok (.iload_n 1, 1) := by decide +kernel
theorem d_SM_leave_2 : decode b_SM_leave 2 = .ok (.invokevirtual 52, 3) := by decide +kernel
theorem d_SM_leave_5 : decode b_SM_leave 5 = .ok (.ifCond .ne 5, 3) := by decide +kernel
theorem d_SM_leave_8 : decode b_SM_leave 8 = .ok (.iconst (-1), 1) := by decide +kernel
theorem d_SM_leave_9 : decode b_SM_leave 9 = .ok (.ireturn, 1) := by decide +kernel
theorem d_SM_leave_10 : decode b_SM_leave 10 = .ok (.aload_n 0, 1) := by decide +kernel
theorem d_SM_leave_11 : decode b_SM_leave 11 = .ok (.getfield 23, 3) := by decide +kernel
theorem d_SM_leave_14 : decode b_SM_leave 14 = .ok (.iload_n 1, 1) := by decide +kernel
theorem d_SM_leave_15 : decode b_SM_leave 15 = .ok (.aaload, 1) := by decide +kernel
theorem d_SM_leave_16 : decode b_SM_leave 16 = .ok (.astore_n 2, 1) := by decide +kernel
theorem d_SM_leave_17 : decode b_SM_leave 17 = .ok (.aload_n 2, 1) := by decide +kernel
theorem d_SM_leave_18 : decode b_SM_leave 18 = .ok (.invokevirtual 95, 3) := by decide +kernel
theorem d_SM_leave_21 : decode b_SM_leave 21 = .ok (.istore_n 3, 1) := by decide +kernel
theorem d_SM_leave_22 : decode b_SM_leave 22 = .ok (.aload_n 2, 1) := by decide +kernel
theorem d_SM_leave_23 : decode b_SM_leave 23 = .ok (.invokevirtual 98, 3) := by decide +kernel
theorem d_SM_leave_26 : decode b_SM_leave 26 = .ok (.istore 4, 2) := by decide +kernel
theorem d_SM_leave_28 : decode b_SM_leave 28 = .ok (.aload_n 2, 1) := by decide +kernel
theorem d_SM_leave_29 : decode b_SM_leave 29 = .ok (.invokevirtual 101, 3) := by decide +kernel
theorem d_SM_leave_32 : decode b_SM_leave 32 = .ok (.iload 4, 2) := by decide +kernel
theorem d_SM_leave_34 : decode b_SM_leave 34 = .ok (.ifCond .eq 8, 3) := by decide +kernel
theorem d_SM_leave_37 : decode b_SM_leave 37 = .ok (.aload_n 0, 1) := by decide +kernel
theorem d_SM_leave_38 : decode b_SM_leave 38 = .ok (.iload_n 3, 1) := by decide +kernel
theorem d_SM_leave_39 : decode b_SM_leave 39 = .ok (.invokevirtual 104, 3) := by decide +kernel
theorem d_SM_leave_42 : decode b_SM_leave 42 = .ok (.aload_n 2, 1) := by decide +kernel
theorem d_SM_leave_43 : decode b_SM_leave 43 = .ok (.getfield 92, 3) := by decide +kernel
theorem d_SM_leave_46 : decode b_SM_leave 46 = .ok (.ireturn, 1) := by decide +kernel
theorem d_SM_make_0 : decode b_SM_make 0 = .ok (.aload_n 0, 1) := by decide +kernel
theorem d_SM_make_1 : decode b_SM_make 1 = .ok (.iload_n 1, 1) := by decide +kernel
theorem d_SM_make_2 : decode b_SM_make 2 = .ok (.invokevirtual 52, 3) := by decide +kernel
theorem d_SM_make_5 : decode b_SM_make 5 = .ok (.ifCond .eq 12, 3) := by decide +kernel
theorem d_SM_make_8 : decode b_SM_make 8 = .ok (.iload_n 2, 1) := by decide +kernel
theorem d_SM_make_9 : decode b_SM_make 9 = .ok (.ifCond .lt 8, 3) := by decide +kernel
theorem d_SM_make_12 : decode b_SM_make 12 = .ok (.iload_n 2, 1) := by decide +kernel
theorem d_SM_make_13 : decode b_SM_make 13 = .ok (.iconst 4, 1) := by decide +kernel
theorem d_SM_make_14 : decode b_SM_make 14 = .ok (.if_icmp .le 5, 3) := by decide +kernel
theorem d_SM_make_17 : decode b_SM_make 17 = .ok (.iconst (-1), 1) := by decide +kernel
theorem d_SM_make_18 : decode b_SM_make 18 = .ok (.ireturn, 1) := by decide +kernel
theorem d_SM_make_19 : decode b_SM_make 19 = .ok (.aload_n 0, 1) := by decide +kernel
theorem d_SM_make_20 : decode b_SM_make 20 = .ok (.getfield 23, 3) := by decide +kernel
theorem d_SM_make_23 : decode b_SM_make 23 = .ok (.iload_n 1, 1) := by decide +kernel
theorem d_SM_make_24 : decode b_SM_make 24 = .ok (.aaload, 1) := by decide +kernel
theorem d_SM_make_25 : decode b_SM_make 25 = .ok (.invokevirtual 95, 3) := by decide +kernel
theorem d_SM_make_28 : decode b_SM_make 28 = .ok (.istore_n 3, 1) := by decide +kernel
theorem d_SM_make_29 : decode b_SM_make 29 = .ok (.aload_n 0, 1) := by decide +kernel
theorem d_SM_make_30 : decode b_SM_make 30 = .ok (.invokevirtual 108, 3) := by decide +kernel
theorem d_SM_make_33 : decode b_SM_make 33 = .ok (.istore 4, 2) := by decide +kernel
theorem d_SM_make_35 : decode b_SM_make 35 = .ok (.iload 4, 2) := by decide +kernel
theorem d_SM_make_37 : decode b_SM_make 37 = .ok (.iconst (-1), 1) := by decide +kernel
theorem d_SM_make_38 : decode b_SM_make 38 = .ok (.if_icmp .eq 18, 3) := by decide +kernel
theorem d_SM_make_41 : decode b_SM_make 41 = .ok (.aload_n 0, 1) := by decide +kernel
theorem d_SM_make_42 : decode b_SM_make 42 = .ok (.getfield 11, 3) := by decide +kernel
theorem d_SM_make_45 : decode b_SM_make 45 = .ok (.iload_n 3, 1) := by decide +kernel
theorem d_SM_make_46 : decode b_SM_make 46 = .ok (.aaload, 1) := by decide +kernel
theorem d_SM_make_47 : decode b_SM_make 47 = .ok (.invokevirtual 111, 3) := by decide +kernel
theorem d_SM_make_50 : decode b_SM_make 50 = .ok (.iconst 1, 1) := by decide +kernel
theorem d_SM_make_51 : decode b_SM_make 51 = .ok (.iload_n 2, 1) := by decide +kernel
theorem d_SM_make_52 : decode b_SM_make 52 = .ok (.iadd, 1) := by decide +kernel
theorem d_SM_make_53 : decode b_SM_make 53 = .ok (.if_icmp .ge 6, 3) := by decide +kernel
theorem d_SM_make_56 : decode b_SM_make 56 = .ok (.bipush (-2), 2) := by decide +kernel
theorem d_SM_make_58 : decode b_SM_make 58 = .ok (.ireturn, 1) := by decide +kernel
theorem d_SM_make_59 : decode b_SM_make 59 = .ok (.aload_n 0, 1) := by decide +kernel
theorem d_SM_make_60 : decode b_SM_make 60 = .ok (.getfield 17, 3) := by decide +kernel
theorem d_SM_make_63 : decode b_SM_make 63 = .ok (.iload 4, 2) := by decide +kernel
theorem d_SM_make_65 : decode b_SM_make 65 = .ok (.aaload, 1) := by decide +kernel
theorem d_SM_make_66 : decode b_SM_make 66 = .ok (.iload_n 3, 1) := by decide +kernel
theorem d_SM_make_67 : decode b_SM_make 67 = .ok (.iload_n 2, 1) := by decide +kernel
theorem d_SM_make_68 : decode b_SM_make 68 = .ok (.invokevirtual 114, 3) := by decide +kernel
theorem d_SM_make_71 : decode b_SM_make 71 = .ok (.aload_n 0, 1) := by decide +kernel
theorem d_SM_make_72 : decode b_SM_make 72 = .ok (.getfield 11, 3) := by decide +kernel
theorem d_SM_make_75 : decode b_SM_make 75 = .ok (.iload_n 3, 1) := by decide +kernel
theorem d_SM_make_76 : decode b_SM_make 76 = .ok (.aaload, 1) := by decide +kernel
theorem d_SM_make_77 : decode b_SM_make 77 = .ok (.dup, 1) := by decide +kernel
theorem d_SM_make_78 : decode b_SM_make 78 = .ok (.getfield 118, 3) := by decide +kernel
theorem d_SM_make_81 : decode b_SM_make 81 = .ok (.iconst 1, 1) := by decide +kernel
theorem d_SM_make_82 : decode b_SM_make 82 = .ok (.iload_n 2, 1) := by decide +kernel
theorem d_SM_make_83 : decode b_SM_make 83 = .ok (.iadd, 1) := by decide +kernel
theorem d_SM_make_84 : decode b_SM_make 84 = .ok (.iadd, 1) := by decide +kernel
theorem d_SM_make_85 : decode b_SM_make 85 = .ok (.putfield 118, 3) := by decide +kernel
theorem d_SM_make_88 : decode b_SM_make 88 = .ok (.aload_n 0, 1) := by decide +kernel
theorem d_SM_make_89 : decode b_SM_make 89 = .ok (.dup, 1) := by decide +kernel
theorem d_SM_make_90 : decode b_SM_make 90 = .ok (.getfield 121, 3) := by decide +kernel
theorem d_SM_make_93 : decode b_SM_make 93 = .ok (.iconst 1, 1) := by decide +kernel
theorem d_SM_make_94 : decode b_SM_make 94 = .ok (.iadd, 1) := by decide +kernel
theorem d_SM_make_95 : decode b_SM_make 95 = .ok (.putfield 121, 3) := by decide +kernel
theorem d_SM_make_98 : decode b_SM_make 98 = .ok (.iload 4, 2) := by decide +kernel
theorem d_SM_make_100 : decode b_SM_make 100 = .ok (.ireturn, 1) := by decide +kernel
theorem d_SM_put_0 : decode b_SM_put 0 = .ok (.aload_n 0, 1) := by decide +kernel
theorem d_SM_put_1 : decode b_SM_put 1 = .ok (.iload_n 1, 1) := by decide +kernel
theorem d_SM_put_2 : decode b_SM_put 2 = .ok (.invokevirtual 52, 3) := by decide +kernel
theorem d_SM_put_5 : decode b_SM_put 5 = .ok (.ifCond .eq 21, 3) := by decide +kernel
theorem d_SM_put_8 : decode b_SM_put 8 = .ok (.aload_n 0, 1) := by decide +kernel
theorem d_SM_put_9 : decode b_SM_put 9 = .ok (.iload_n 2, 1) := by decide +kernel
theorem d_SM_put_10 : decode b_SM_put 10 = .ok (.iload_n 3, 1) := by decide +kernel
theorem d_SM_put_11 : decode b_SM_put 11 = .ok (.invokevirtual 124, 3) := by decide +kernel
theorem d_SM_put_14 : decode b_SM_put 14 = .ok (.ifCond .eq 12, 3) := by decide +kernel
theorem d_SM_put_17 : decode b_SM_put 17 = .ok (.aload_n 0, 1) := by decide +kernel
theorem d_SM_put_18 : decode b_SM_put 18 = .ok (.iload 4, 2) := by decide +kernel
theorem d_SM_put_20 : decode b_SM_put 20 = .ok (.invokevirtual 128, 3) := by decide +kernel
theorem d_SM_put_23 : decode b_SM_put 23 = .ok (.ifCond .ne 5, 3) := by decide +kernel
theorem d_SM_put_26 : decode b_SM_put 26 = .ok (.iconst (-1), 1) := by decide +kernel
theorem d_SM_put_27 : decode b_SM_put 27 = .ok (.ireturn, 1) := by decide +kernel
theorem d_SM_put_28 : decode b_SM_put 28 = .ok (.aload_n 0, 1) := by decide +kernel
theorem d_SM_put_29 : decode b_SM_put 29 = .ok (.iload_n 1, 1) := by decide +kernel
theorem d_SM_put_30 : decode b_SM_put 30 = .ok (.iload_n 2, 1) := by decide +kernel
theorem d_SM_put_31 : decode b_SM_put 31 = .ok (.invokevirtual 131, 3) := by decide +kernel
theorem d_SM_put_34 : decode b_SM_put 34 = .ok (.ifCond .eq 13, 3) := by decide +kernel
theorem d_SM_put_37 : decode b_SM_put 37 = .ok (.aload_n 0, 1) := by decide +kernel
theorem d_SM_put_38 : decode b_SM_put 38 = .ok (.iload_n 1, 1) := by decide +kernel
theorem d_SM_put_39 : decode b_SM_put 39 = .ok (.iload 4, 2) := by decide +kernel
theorem d_SM_put_41 : decode b_SM_put 41 = .ok (.invokevirtual 134, 3) := by decide +kernel
theorem d_SM_put_44 : decode b_SM_put 44 = .ok (.ifCond .ne 6, 3) := by decide +kernel
theorem d_SM_put_47 : decode b_SM_put 47 = .ok (.bipush (-4), 2) := by decide +kernel
theorem d_SM_put_49 : decode b_SM_put 49 = .ok (.ireturn, 1) := by decide +kernel
theorem d_SM_put_50 : decode b_SM_put 50 = .ok (.iload 4, 2) := by decide +kernel
theorem d_SM_put_52 : decode b_SM_put 52 = .ok (.iconst (-1), 1) := by decide +kernel
theorem d_SM_put_53 : decode b_SM_put 53 = .ok (.if_icmp .eq 24, 3) := by decide +kernel
theorem d_SM_put_56 : decode b_SM_put 56 = .ok (.aload_n 0, 1) := by decide +kernel
theorem d_SM_put_57 : decode b_SM_put 57 = .ok (.aload_n 0, 1) := by decide +kernel
theorem d_SM_put_58 : decode b_SM_put 58 = .ok (.getfield 17, 3) := by decide +kernel
theorem d_SM_put_61 : decode b_SM_put 61 = .ok (.iload_n 2, 1) := by decide +kernel
theorem d_SM_put_62 : decode b_SM_put 62 = .ok (.aaload, 1) := by decide +kernel
theorem d_SM_put_63 : decode b_SM_put 63 = .ok (.getfield 137, 3) := by decide +kernel
theorem d_SM_put_66 : decode b_SM_put 66 = .ok (.iload 4, 2) := by decide +kernel
theorem d_SM_put_68 : decode b_SM_put 68 = .ok (.invokevirtual 140, 3) := by decide +kernel
theorem d_SM_put_71 : decode b_SM_put 71 = .ok (.ifCond .ne 6, 3) := by decide +kernel
theorem d_SM_put_74 : decode b_SM_put 74 = .ok (.bipush (-5), 2) := by decide +kernel
theorem d_SM_put_76 : decode b_SM_put 76 = .ok (.ireturn, 1) := by decide +kernel
theorem d_SM_put_77 : decode b_SM_put 77 = .ok (.aload_n 0, 1) := by decide +kernel
theorem d_SM_put_78 : decode b_SM_put 78 = .ok (.getfield 17, 3) := by decide +kernel
theorem d_SM_put_81 : decode b_SM_put 81 = .ok (.iload_n 2, 1) := by decide +kernel
theorem d_SM_put_82 : decode b_SM_put 82 = .ok (.aaload, 1) := by decide +kernel
theorem d_SM_put_83 : decode b_SM_put 83 = .ok (.getfield 143, 3) := by decide +kernel
theorem d_SM_put_86 : decode b_SM_put 86 = .ok (.iload_n 3, 1) := by decide +kernel
theorem d_SM_put_87 : decode b_SM_put 87 = .ok (.iload 4, 2) := by decide +kernel
theorem d_SM_put_89 : decode b_SM_put 89 = .ok (.iastore, 1) := by decide +kernel
theorem d_SM_put_90 : decode b_SM_put 90 = .ok (.iconst 0, 1) := by decide +kernel
theorem d_SM_put_91 : decode b_SM_put 91 = .ok (.ireturn, 1) := by decide +kernel
theorem d_SM_get_0 : decode b_SM_get 0 = .ok (.aload_n 0, 1) := by decide +kernel
theorem d_SM_get_1 : decode b_SM_get 1 = .ok (.iload_n 1, 1) := by decide +kernel
theorem d_SM_get_2 : decode b_SM_get 2 = .ok (.invokevirtual 52, 3) := by decide +kernel
theorem d_SM_get_5 : decode b_SM_get 5 = .ok (.ifCond .eq 12, 3) := by decide +kernel
theorem d_SM_get_8 : decode b_SM_get 8 = .ok (.aload_n 0, 1) := by decide +kernel
theorem d_SM_get_9 : decode b_SM_get 9 = .ok (.iload_n 2, 1) := by decide +kernel
theorem d_SM_get_10 : decode b_SM_get 10 = .ok (.iload_n 3, 1) := by decide +kernel
theorem d_SM_get_11 : decode b_SM_get 11 = .ok (.invokevirtual 124, 3) := by decide +kernel
theorem d_SM_get_14 : decode b_SM_get 14 = .ok (.ifCond .ne 5, 3) := by decide +kernel
theorem d_SM_get_17 : decode b_SM_get 17 = .ok (.iconst (-1), 1) := by decide +kernel
theorem d_SM_get_18 : decode b_SM_get 18 = .ok (.ireturn, 1) := by decide +kernel
theorem d_SM_get_19 : decode b_SM_get 19 = .ok (.aload_n 0, 1) := by decide +kernel
theorem d_SM_get_20 : decode b_SM_get 20 = .ok (.iload_n 1, 1) := by decide +kernel
theorem d_SM_get_21 : decode b_SM_get 21 = .ok (.iload_n 2, 1) := by decide +kernel
theorem d_SM_get_22 : decode b_SM_get 22 = .ok (.invokevirtual 131, 3) := by decide +kernel
theorem d_SM_get_25 : decode b_SM_get 25 = .ok (.ifCond .ne 6, 3) := by decide +kernel
theorem d_SM_get_28 : decode b_SM_get 28 = .ok (.bipush (-4), 2) := by decide +kernel
theorem d_SM_get_30 : decode b_SM_get 30 = .ok (.ireturn, 1) := by decide +kernel
theorem d_SM_get_31 : decode b_SM_get 31 = .ok (.aload_n 0, 1) := by decide +kernel
theorem d_SM_get_32 : decode b_SM_get 32 = .ok (.getfield 17, 3) := by decide +kernel
theorem d_SM_get_35 : decode b_SM_get 35 = .ok (.iload_n 2, 1) := by decide +kernel
theorem d_SM_get_36 : decode b_SM_get 36 = .ok (.aaload, 1) := by decide +kernel
theorem d_SM_get_37 : decode b_SM_get 37 = .ok (.getfield 143, 3) := by decide +kernel
theorem d_SM_get_40 : decode b_SM_get 40 = .ok (.iload_n 3, 1) := by decide +kernel
theorem d_SM_get_41 : decode b_SM_get 41 = .ok (.iaload, 1) := by decide +kernel
theorem d_SM_get_42 : decode b_SM_get 42 = .ok (.istore 4, 2) := by decide +kernel
theorem d_SM_get_44 : decode b_SM_get 44 = .ok (.iload 4, 2) := by decide +kernel
theorem d_SM_get_46 : decode b_SM_get 46 = .ok (.iconst (-1), 1) := by decide +kernel
theorem d_SM_get_47 : decode b_SM_get 47 = .ok (.if_icmp .ne 6, 3) := by decide +kernel
theorem d_SM_get_50 : decode b_SM_get 50 = .ok (.bipush (-6), 2) := by decide +kernel
theorem d_SM_get_52 : decode b_SM_get 52 = .ok (.ireturn, 1) := by decide +kernel
theorem d_SM_get_53 : decode b_SM_get 53 = .ok (.aload_n 0, 1) := by decide +kernel
theorem d_SM_get_54 : decode b_SM_get 54 = .ok (.iload_n 1, 1) := by decide +kernel
theorem d_SM_get_55 : decode b_SM_get 55 = .ok (.iload 4, 2) := by decide +kernel
theorem d_SM_get_57 : decode b_SM_get 57 = .ok (.invokevirtual 131, 3) := by decide +kernel
theorem d_SM_get_60 : decode b_SM_get 60 = .ok (.ifCond .eq 8, 3) := by decide +kernel
theorem d_SM_get_63 : decode b_SM_get 63 = .ok (.iload 4, 2) := by decide +kernel
theorem d_SM_get_65 : decode b_SM_get 65 = .ok (.goto 5, 3) := by decide +kernel
theorem d_SM_get_68 : decode b_SM_get 68 = .ok (.bipush (-4), 2) := by decide +kernel
theorem d_SM_get_70 : decode b_SM_get 70 = .ok (.ireturn, 1) := by decide +kernel
theorem d_SM_hang_0 : decode b_SM_hang 0 = .ok (.aload_n 0, 1) := by decide +kernel
theorem d_SM_hang_1 : decode b_SM_hang 1 = .ok (.iload_n 1, 1) := by decide +kernel
theorem d_SM_hang_2 : decode b_SM_hang 2 = .ok (.invokevirtual 52, 3) := by decide +kernel
theorem d_SM_hang_5 : decode b_SM_hang 5 = .ok (.ifCond .eq 19, 3) := by decide +kernel
theorem d_SM_hang_8 : decode b_SM_hang 8 = .ok (.aload_n 0, 1) := by decide +kernel
theorem d_SM_hang_9 : decode b_SM_hang 9 = .ok (.iload_n 2, 1) := by decide +kernel
theorem d_SM_hang_10 : decode b_SM_hang 10 = .ok (.invokevirtual 63, 3) := by decide +kernel
theorem d_SM_hang_13 : decode b_SM_hang 13 = .ok (.ifCond .eq 11, 3) := by decide +kernel
theorem d_SM_hang_16 : decode b_SM_hang 16 = .ok (.aload_n 0, 1) := by decide +kernel
theorem d_SM_hang_17 : decode b_SM_hang 17 = .ok (.iload_n 3, 1) := by decide +kernel
theorem d_SM_hang_18 : decode b_SM_hang 18 = .ok (.invokevirtual 128, 3) := by decide +kernel
theorem d_SM_hang_21 : decode b_SM_hang 21 = .ok (.ifCond .ne 5, 3) := by decide +kernel
theorem d_SM_hang_24 : decode b_SM_hang 24 = .ok (.iconst (-1), 1) := by decide +kernel
theorem d_SM_hang_25 : decode b_SM_hang 25 = .ok (.ireturn, 1) := by decide +kernel
theorem d_SM_hang_26 : decode b_SM_hang 26 = .ok (.aload_n 0, 1) := by decide +kernel
theorem d_SM_hang_27 : decode b_SM_hang 27 = .ok (.getfield 23, 3) := by decide +kernel
theorem d_SM_hang_30 : decode b_SM_hang 30 = .ok (.iload_n 1, 1) := by decide +kernel
theorem d_SM_hang_31 : decode b_SM_hang 31 = .ok (.aaload, 1) := by decide +kernel
theorem d_SM_hang_32 : decode b_SM_hang 32 = .ok (.iload_n 2, 1) := by decide +kernel
theorem d_SM_hang_33 : decode b_SM_hang 33 = .ok (.invokevirtual 70, 3) := by decide +kernel
theorem d_SM_hang_36 : decode b_SM_hang 36 = .ok (.ifCond .eq 12, 3) := by decide +kernel
theorem d_SM_hang_39 : decode b_SM_hang 39 = .ok (.aload_n 0, 1) := by decide +kernel
theorem d_SM_hang_40 : decode b_SM_hang 40 = .ok (.iload_n 1, 1) := by decide +kernel
theorem d_SM_hang_41 : decode b_SM_hang 41 = .ok (.iload_n 3, 1) := by decide +kernel
theorem d_SM_hang_42 : decode b_SM_hang 42 = .ok (.invokevirtual 134, 3) := by decide +kernel
theorem d_SM_hang_45 : decode b_SM_hang 45 = .ok (.ifCond .ne 6, 3) := by decide +kernel
theorem d_SM_hang_48 : decode b_SM_hang 48 = .ok (.bipush (-4), 2) := by decide +kernel
theorem d_SM_hang_50 : decode b_SM_hang 50 = .ok (.ireturn, 1) := by decide +kernel
theorem d_SM_hang_51 : decode b_SM_hang 51 = .ok (.iload_n 3, 1) := by decide +kernel
theorem d_SM_hang_52 : decode b_SM_hang 52 = .ok (.iconst (-1), 1) := by decide +kernel
theorem d_SM_hang_53 : decode b_SM_hang 53 = .ok (.if_icmp .eq 19, 3) := by decide +kernel
theorem d_SM_hang_56 : decode b_SM_hang 56 = .ok (.aload_n 0, 1) := by decide +kernel
theorem d_SM_hang_57 : decode b_SM_hang 57 = .ok (.getfield 17, 3) := by decide +kernel
theorem d_SM_hang_60 : decode b_SM_hang 60 = .ok (.iload_n 3, 1) := by decide +kernel
theorem d_SM_hang_61 : decode b_SM_hang 61 = .ok (.aaload, 1) := by decide +kernel
theorem d_SM_hang_62 : decode b_SM_hang 62 = .ok (.getfield 137, 3) := by decide +kernel
theorem d_SM_hang_65 : decode b_SM_hang 65 = .ok (.iload_n 2, 1) := by decide +kernel
theorem d_SM_hang_66 : decode b_SM_hang 66 = .ok (.if_icmp .eq 6, 3) := by decide +kernel
theorem d_SM_hang_69 : decode b_SM_hang 69 = .ok (.bipush (-5), 2) := by decide +kernel
theorem d_SM_hang_71 : decode b_SM_hang 71 = .ok (.ireturn, 1) := by decide +kernel
theorem d_SM_hang_72 : decode b_SM_hang 72 = .ok (.aload_n 0, 1) := by decide +kernel
theorem d_SM_hang_73 : decode b_SM_hang 73 = .ok (.getfield 11, 3) := by decide +kernel
theorem d_SM_hang_76 : decode b_SM_hang 76 = .ok (.iload_n 2, 1) := by decide +kernel
theorem d_SM_hang_77 : decode b_SM_hang 77 = .ok (.aaload, 1) := by decide +kernel
theorem d_SM_hang_78 : decode b_SM_hang 78 = .ok (.iload_n 3, 1) := by decide +kernel
theorem d_SM_hang_79 : decode b_SM_hang 79 = .ok (.putfield 146, 3) := by decide +kernel
theorem d_SM_hang_82 : decode b_SM_hang 82 = .ok (.iconst 0, 1) := by decide +kernel
theorem d_SM_hang_83 : decode b_SM_hang 83 = .ok (.ireturn, 1) := by decide +kernel
theorem d_SM_portal_0 : decode b_SM_portal 0 = .ok (.aload_n 0, 1) := by decide +kernel
theorem d_SM_portal_1 : decode b_SM_portal 1 = .ok (.iload_n 1, 1) := by decide +kernel
theorem d_SM_portal_2 : decode b_SM_portal 2 = .ok (.invokevirtual 52, 3) := by decide +kernel
theorem d_SM_portal_5 : decode b_SM_portal 5 = .ok (.ifCond .eq 11, 3) := by decide +kernel
theorem d_SM_portal_8 : decode b_SM_portal 8 = .ok (.aload_n 0, 1) := by decide +kernel
theorem d_SM_portal_9 : decode b_SM_portal 9 = .ok (.iload_n 2, 1) := by decide +kernel
theorem d_SM_portal_10 : decode b_SM_portal 10 = .ok (.invokevirtual 63, 3) := by decide +kernel
theorem d_SM_portal_13 : decode b_SM_portal 13 = .ok (.ifCond .ne 5, 3) := by decide +kernel
theorem d_SM_portal_16 : decode b_SM_portal 16 = .ok (.iconst (-1), 1) := by decide +kernel
theorem d_SM_portal_17 : decode b_SM_portal 17 = .ok (.ireturn, 1) := by decide +kernel
theorem d_SM_portal_18 : decode b_SM_portal 18 = .ok (.aload_n 0, 1) := by decide +kernel
theorem d_SM_portal_19 : decode b_SM_portal 19 = .ok (.getfield 23, 3) := by decide +kernel
theorem d_SM_portal_22 : decode b_SM_portal 22 = .ok (.iload_n 1, 1) := by decide +kernel
theorem d_SM_portal_23 : decode b_SM_portal 23 = .ok (.aaload, 1) := by decide +kernel
theorem d_SM_portal_24 : decode b_SM_portal 24 = .ok (.iload_n 2, 1) := by decide +kernel
theorem d_SM_portal_25 : decode b_SM_portal 25 = .ok (.invokevirtual 70, 3) := by decide +kernel
theorem d_SM_portal_28 : decode b_SM_portal 28 = .ok (.ifCond .ne 6, 3) := by decide +kernel
theorem d_SM_portal_31 : decode b_SM_portal 31 = .ok (.bipush (-4), 2) := by decide +kernel
theorem d_SM_portal_33 : decode b_SM_portal 33 = .ok (.ireturn, 1) := by decide +kernel
theorem d_SM_portal_34 : decode b_SM_portal 34 = .ok (.aload_n 0, 1) := by decide +kernel
theorem d_SM_portal_35 : decode b_SM_portal 35 = .ok (.getfield 11, 3) := by decide +kernel
theorem d_SM_portal_38 : decode b_SM_portal 38 = .ok (.iload_n 2, 1) := by decide +kernel
theorem d_SM_portal_39 : decode b_SM_portal 39 = .ok (.aaload, 1) := by decide +kernel
theorem d_SM_portal_40 : decode b_SM_portal 40 = .ok (.getfield 146, 3) := by decide +kernel
theorem d_SM_portal_43 : decode b_SM_portal 43 = .ok (.invokestatic 149, 3) := by decide +kernel
theorem d_SM_portal_46 : decode b_SM_portal 46 = .ok (.ireturn, 1) := by decide +kernel
theorem d_SM_assign_0 : decode b_SM_assign 0 = .ok (.aload_n 0, 1) := by decide +kernel
theorem d_SM_assign_1 : decode b_SM_assign 1 = .ok (.iload_n 1, 1) := by decide +kernel
theorem d_SM_assign_2 : decode b_SM_assign 2 = .ok (.invokevirtual 52, 3) := by decide +kernel
theorem d_SM_assign_5 : decode b_SM_assign 5 = .ok (.ifCond .eq 20, 3) := by decide +kernel
theorem d_SM_assign_8 : decode b_SM_assign 8 = .ok (.iload_n 2, 1) := by decide +kernel
theorem d_SM_assign_9 : decode b_SM_assign 9 = .ok (.ifCond .lt 16, 3) := by decide +kernel
theorem d_SM_assign_12 : decode b_SM_assign 12 = .ok (.iload_n 2, 1) := by decide +kernel
theorem d_SM_assign_13 : decode b_SM_assign 13 = .ok (.iconst 4, 1) := by decide +kernel
theorem d_SM_assign_14 : decode b_SM_assign 14 = .ok (.if_icmp .ge 11, 3) := by decide +kernel
theorem d_SM_assign_17 : decode b_SM_assign 17 = .ok (.aload_n 0, 1) := by decide +kernel
theorem d_SM_assign_18 : decode b_SM_assign 18 = .ok (.iload_n 3, 1) := by decide +kernel
theorem d_SM_assign_19 : decode b_SM_assign 19 = .ok (.invokevirtual 128, 3) := by decide +kernel
theorem d_SM_assign_22 : decode b_SM_assign 22 = .ok (.ifCond .ne 5, 3) := by decide +kernel
theorem d_SM_assign_25 : decode b_SM_assign 25 = .ok (.iconst (-1), 1) := by decide +kernel
theorem d_SM_assign_26 : decode b_SM_assign 26 = .ok (.ireturn, 1) := by decide +kernel
theorem d_SM_assign_27 : decode b_SM_assign 27 = .ok (.aload_n 0, 1) := by decide +kernel
theorem d_SM_assign_28 : decode b_SM_assign 28 = .ok (.iload_n 1, 1) := by decide +kernel
theorem d_SM_assign_29 : decode b_SM_assign 29 = .ok (.iload_n 3, 1) := by decide +kernel
theorem d_SM_assign_30 : decode b_SM_assign 30 = .ok (.invokevirtual 134, 3) := by decide +kernel
theorem d_SM_assign_33 : decode b_SM_assign 33 = .ok (.ifCond .ne 6, 3) := by decide +kernel
theorem d_SM_assign_36 : decode b_SM_assign 36 = .ok (.bipush (-4), 2) := by decide +kernel
theorem d_SM_assign_38 : decode b_SM_assign 38 = .ok (.ireturn, 1) := by decide +kernel
theorem d_SM_assign_39 : decode b_SM_assign 39 = .ok (.iload_n 3, 1) := by decide +kernel
theorem d_SM_assign_40 : decode b_SM_assign 40 = .ok (.iconst (-1), 1) := by decide +kernel
theorem d_SM_assign_41 : decode b_SM_assign 41 = .ok (.if_icmp .eq 22, 3) := by decide +kernel
theorem d_SM_assign_44 : decode b_SM_assign 44 = .ok (.aload_n 0, 1) := by decide +kernel
theorem d_SM_assign_45 : decode b_SM_assign 45 = .ok (.aload_n 0, 1) := by decide +kernel
theorem d_SM_assign_46 : decode b_SM_assign 46 = .ok (.getfield 17, 3) := by decide +kernel
theorem d_SM_assign_49 : decode b_SM_assign 49 = .ok (.iload_n 3, 1) := by decide +kernel
theorem d_SM_assign_50 : decode b_SM_assign 50 = .ok (.aaload, 1) := by decide +kernel
theorem d_SM_assign_51 : decode b_SM_assign 51 = .ok (.getfield 137, 3) := by decide +kernel
theorem d_SM_assign_54 : decode b_SM_assign 54 = .ok (.invokevirtual 63, 3) := by decide +kernel
theorem d_SM_assign_57 : decode b_SM_assign 57 = .ok (.ifCond .eq 6, 3) := by decide +kernel
theorem d_SM_assign_60 : decode b_SM_assign 60 = .ok (.bipush (-5), 2) := by decide +kernel
theorem d_SM_assign_62 : decode b_SM_assign 62 = .ok (.ireturn, 1) := by decide +kernel
theorem d_SM_assign_63 : decode b_SM_assign 63 = .ok (.aload_n 0, 1) := by decide +kernel
theorem d_SM_assign_64 : decode b_SM_assign 64 = .ok (.getfield 27, 3) := by decide +kernel
theorem d_SM_assign_67 : decode b_SM_assign 67 = .ok (.iload_n 2, 1) := by decide +kernel
theorem d_SM_assign_68 : decode b_SM_assign 68 = .ok (.iload_n 3, 1) := by decide +kernel
theorem d_SM_assign_69 : decode b_SM_assign 69 = .ok (.iastore, 1) := by decide +kernel
theorem d_SM_assign_70 : decode b_SM_assign 70 = .ok (.iconst 0, 1) := by decide +kernel
theorem d_SM_assign_71 : decode b_SM_assign 71 = .ok (.ireturn, 1) := by decide +kernel
theorem d_SM_collect_0 : decode b_SM_collect 0 = .ok (.aload_n 0, 1) := by decide +kernel
theorem d_SM_collect_1 : decode b_SM_collect 1 = .ok (.invokevirtual 152, 3) := by decide +kernel
theorem d_SM_collect_4 : decode b_SM_collect 4 = .ok (.aload_n 0, 1) := by decide +kernel
theorem d_SM_collect_5 : decode b_SM_collect 5 = .ok (.getfield 121, 3) := by decide +kernel
theorem d_SM_collect_8 : decode b_SM_collect 8 = .ok (.istore_n 1, 1) := by decide +kernel
theorem d_SM_collect_9 : decode b_SM_collect 9 = .ok (.iconst 0, 1) := by decide +kernel
theorem d_SM_collect_10 : decode b_SM_collect 10 = .ok (.istore_n 2, 1) := by decide +kernel
theorem d_SM_collect_11 : decode b_SM_collect 11 = .ok (.iload_n 2, 1) := by decide +kernel
theorem d_SM_collect_12 : decode b_SM_collect 12 = .ok (.bipush 40, 2) := by decide +kernel
theorem d_SM_collect_14 : decode b_SM_collect 14 = .ok (.if_icmp .ge 38, 3) := by decide +kernel
theorem d_SM_collect_17 : decode b_SM_collect 17 = .ok (.aload_n 0, 1) := by decide +kernel
theorem d_SM_collect_18 : decode b_SM_collect 18 = .ok (.getfield 17, 3) := by decide +kernel
theorem d_SM_collect_21 : decode b_SM_collect 21 = .ok (.iload_n 2, 1) := by decide +kernel
theorem d_SM_collect_22 : decode b_SM_collect 22 = .ok (.aaload, 1) := by decide +kernel
theorem d_SM_collect_23 : decode b_SM_collect 23 = .ok (.getfield 137, 3) := by decide +kernel
theorem d_SM_collect_26 : decode b_SM_collect 26 = .ok (.ifCond .ne 20, 3) := by decide +kernel
theorem d_SM_collect_29 : decode b_SM_collect 29 = .ok (.aload_n 0, 1) := by decide +kernel
theorem d_SM_collect_30 : decode b_SM_collect 30 = .ok (.getfield 17, 3) := by decide +kernel
theorem d_SM_collect_33 : decode b_SM_collect 33 = .ok (.iload_n 2, 1) := by decide +kernel
theorem d_SM_collect_34 : decode b_SM_collect 34 = .ok (.aaload, 1) := by decide +kernel
theorem d_SM_collect_35 : decode b_SM_collect 35 = .ok (.getfield 155, 3) := by decide +kernel
theorem d_SM_collect_38 : decode b_SM_collect 38 = .ok (.ifCond .ne 8, 3) := by decide +kernel
theorem d_SM_collect_41 : decode b_SM_collect 41 = .ok (.aload_n 0, 1) := by decide +kernel
theorem d_SM_collect_42 : decode b_SM_collect 42 = .ok (.iload_n 2, 1) := by decide +kernel
theorem d_SM_collect_43 : decode b_SM_collect 43 = .ok (.invokevirtual 158, 3) := by decide +kernel
theorem d_SM_collect_46 : decode b_SM_collect 46 = .ok (.iinc 2 1, 3) := by decide +kernel
theorem d_SM_collect_49 : decode b_SM_collect 49 = .ok (.goto (-38), 3) := by decide +kernel
theorem d_SM_collect_52 : decode b_SM_collect 52 = .ok (.iload_n 1, 1) := by decide +kernel
theorem d_SM_collect_53 : decode b_SM_collect 53 = .ok (.aload_n 0, 1) := by decide +kernel
theorem d_SM_collect_54 : decode b_SM_collect 54 = .ok (.getfield 121, 3) := by decide +kernel
theorem d_SM_collect_57 : decode b_SM_collect 57 = .ok (.isub, 1) := by decide +kernel
theorem d_SM_collect_58 : decode b_SM_collect 58 = .ok (.ireturn, 1) := by decide +kernel
theorem d_SM_areaOf_0 : decode b_SM_areaOf 0 = .ok (.aload_n 0, 1) := by decide +kernel
theorem d_SM_areaOf_1 : decode b_SM_areaOf 1 = .ok (.iload_n 1, 1) := by decide +kernel
theorem d_SM_areaOf_2 : decode b_SM_areaOf 2 = .ok (.invokevirtual 161, 3) := by decide +kernel
theorem d_SM_areaOf_5 : decode b_SM_areaOf 5 = .ok (.ifCond .eq 15, 3) := by decide +kernel
theorem d_SM_areaOf_8 : decode b_SM_areaOf 8 = .ok (.aload_n 0, 1) := by decide +kernel
theorem d_SM_areaOf_9 : decode b_SM_areaOf 9 = .ok (.getfield 17, 3) := by decide +kernel
theorem d_SM_areaOf_12 : decode b_SM_areaOf 12 = .ok (.iload_n 1, 1) := by decide +kernel
theorem d_SM_areaOf_13 : decode b_SM_areaOf 13 = .ok (.aaload, 1) := by decide +kernel
theorem d_SM_areaOf_14 : decode b_SM_areaOf 14 = .ok (.getfield 137, 3) := by decide +kernel
theorem d_SM_areaOf_17 : decode b_SM_areaOf 17 = .ok (.goto 4, 3) := by decide +kernel
theorem d_SM_areaOf_20 : decode b_SM_areaOf 20 = .ok (.iconst (-1), 1) := by decide +kernel
theorem d_SM_areaOf_21 : decode b_SM_areaOf 21 = .ok (.ireturn, 1) := by decide +kernel
theorem d_SM_room_0 : decode b_SM_room 0 = .ok (.aload_n 0, 1) := by decide +kernel
theorem d_SM_room_1 : decode b_SM_room 1 = .ok (.iload_n 1, 1) := by decide +kernel
theorem d_SM_room_2 : decode b_SM_room 2 = .ok (.invokevirtual 86, 3) := by decide +kernel
theorem d_SM_room_5 : decode b_SM_room 5 = .ok (.ifCond .eq 15, 3) := by decide +kernel
theorem d_SM_room_8 : decode b_SM_room 8 = .ok (.aload_n 0, 1) := by decide +kernel
theorem d_SM_room_9 : decode b_SM_room 9 = .ok (.getfield 11, 3) := by decide +kernel
theorem d_SM_room_12 : decode b_SM_room 12 = .ok (.iload_n 1, 1) := by decide +kernel
theorem d_SM_room_13 : decode b_SM_room 13 = .ok (.aaload, 1) := by decide +kernel
theorem d_SM_room_14 : decode b_SM_room 14 = .ok (.invokevirtual 111, 3) := by decide +kernel
theorem d_SM_room_17 : decode b_SM_room 17 = .ok (.goto 4, 3) := by decide +kernel
theorem d_SM_room_20 : decode b_SM_room 20 = .ok (.iconst (-1), 1) := by decide +kernel
theorem d_SM_room_21 : decode b_SM_room 21 = .ok (.ireturn, 1) := by decide +kernel
theorem d_SM_parent_0 : decode b_SM_parent 0 = .ok (.aload_n 0, 1) := by decide +kernel
theorem d_SM_parent_1 : decode b_SM_parent 1 = .ok (.iload_n 1, 1) := by decide +kernel
theorem d_SM_parent_2 : decode b_SM_parent 2 = .ok (.invokevirtual 63, 3) := by decide +kernel
theorem d_SM_parent_5 : decode b_SM_parent 5 = .ok (.ifCond .ne 5, 3) := by decide +kernel
theorem d_SM_parent_8 : decode b_SM_parent 8 = .ok (.iconst (-1), 1) := by decide +kernel
theorem d_SM_parent_9 : decode b_SM_parent 9 = .ok (.ireturn, 1) := by decide +kernel
theorem d_SM_parent_10 : decode b_SM_parent 10 = .ok (.aload_n 0, 1) := by decide +kernel
theorem d_SM_parent_11 : decode b_SM_parent 11 = .ok (.getfield 11, 3) := by decide +kernel
theorem d_SM_parent_14 : decode b_SM_parent 14 = .ok (.iload_n 1, 1) := by decide +kernel
theorem d_SM_parent_15 : decode b_SM_parent 15 = .ok (.aaload, 1) := by decide +kernel
theorem d_SM_parent_16 : decode b_SM_parent 16 = .ok (.getfield 73, 3) := by decide +kernel
theorem d_SM_parent_19 : decode b_SM_parent 19 = .ok (.ifCond .le 15, 3) := by decide +kernel
theorem d_SM_parent_22 : decode b_SM_parent 22 = .ok (.aload_n 0, 1) := by decide +kernel
theorem d_SM_parent_23 : decode b_SM_parent 23 = .ok (.getfield 11, 3) := by decide +kernel
theorem d_SM_parent_26 : decode b_SM_parent 26 = .ok (.iload_n 1, 1) := by decide +kernel
theorem d_SM_parent_27 : decode b_SM_parent 27 = .ok (.aaload, 1) := by decide +kernel
theorem d_SM_parent_28 : decode b_SM_parent 28 = .ok (.getfield 76, 3) := by decide +kernel
theorem d_SM_parent_31 : decode b_SM_parent 31 = .ok (.goto 5, 3) := by decide +kernel
theorem d_SM_parent_34 : decode b_SM_parent 34 = .ok (.bipush (-6), 2) := by decide +kernel
theorem d_SM_parent_36 : decode b_SM_parent 36 = .ok (.ireturn, 1) := by decide +kernel
theorem d_SM_entries_0 : decode b_SM_entries 0 = .ok (.aload_n 0, 1) := by decide +kernel
theorem d_SM_entries_1 : decode b_SM_entries 1 = .ok (.iload_n 1, 1) := by decide +kernel
theorem d_SM_entries_2 : decode b_SM_entries 2 = .ok (.invokevirtual 63, 3) := by decide +kernel
theorem d_SM_entries_5 : decode b_SM_entries 5 = .ok (.ifCond .eq 15, 3) := by decide +kernel
theorem d_SM_entries_8 : decode b_SM_entries 8 = .ok (.aload_n 0, 1) := by decide +kernel
theorem d_SM_entries_9 : decode b_SM_entries 9 = .ok (.getfield 11, 3) := by decide +kernel
theorem d_SM_entries_12 : decode b_SM_entries 12 = .ok (.iload_n 1, 1) := by decide +kernel
theorem d_SM_entries_13 : decode b_SM_entries 13 = .ok (.aaload, 1) := by decide +kernel
theorem d_SM_entries_14 : decode b_SM_entries 14 = .ok (.getfield 73, 3) := by decide +kernel
theorem d_SM_entries_17 : decode b_SM_entries 17 = .ok (.goto 4, 3) := by decide +kernel
theorem d_SM_entries_20 : decode b_SM_entries 20 = .ok (.iconst (-1), 1) := by decide +kernel
theorem d_SM_entries_21 : decode b_SM_entries 21 = .ok (.ireturn, 1) := by decide +kernel
theorem d_SM_view_0 : decode b_SM_view 0 = .ok (.aload_n 0, 1) := by decide +kernel
theorem d_SM_view_1 : decode b_SM_view 1 = .ok (.iload_n 1, 1) := by decide +kernel
theorem d_SM_view_2 : decode b_SM_view 2 = .ok (.invokevirtual 52, 3) := by decide +kernel
theorem d_SM_view_5 : decode b_SM_view 5 = .ok (.ifCond .eq 7, 3) := by decide +kernel
theorem d_SM_view_8 : decode b_SM_view 8 = .ok (.iload_n 2, 1) := by decide +kernel
theorem d_SM_view_9 : decode b_SM_view 9 = .ok (.ifCond .ge 5, 3) := by decide +kernel
theorem d_SM_view_12 : decode b_SM_view 12 = .ok (.iconst (-1), 1) := by decide +kernel
theorem d_SM_view_13 : decode b_SM_view 13 = .ok (.ireturn, 1) := by decide +kernel
theorem d_SM_view_14 : decode b_SM_view 14 = .ok (.aload_n 0, 1) := by decide +kernel
theorem d_SM_view_15 : decode b_SM_view 15 = .ok (.getfield 23, 3) := by decide +kernel
theorem d_SM_view_18 : decode b_SM_view 18 = .ok (.iload_n 1, 1) := by decide +kernel
theorem d_SM_view_19 : decode b_SM_view 19 = .ok (.aaload, 1) := by decide +kernel
theorem d_SM_view_20 : decode b_SM_view 20 = .ok (.iload_n 2, 1) := by decide +kernel
theorem d_SM_view_21 : decode b_SM_view 21 = .ok (.invokevirtual 164, 3) := by decide +kernel
theorem d_SM_view_24 : decode b_SM_view 24 = .ok (.istore_n 3, 1) := by decide +kernel
theorem d_SM_view_25 : decode b_SM_view 25 = .ok (.iload_n 3, 1) := by decide +kernel
theorem d_SM_view_26 : decode b_SM_view 26 = .ok (.iconst (-1), 1) := by decide +kernel
theorem d_SM_view_27 : decode b_SM_view 27 = .ok (.if_icmp .ne 7, 3) := by decide +kernel
theorem d_SM_view_30 : decode b_SM_view 30 = .ok (.iconst (-1), 1) := by decide +kernel
theorem d_SM_view_31 : decode b_SM_view 31 = .ok (.goto 4, 3) := by decide +kernel
theorem d_SM_view_34 : decode b_SM_view 34 = .ok (.iload_n 3, 1) := by decide +kernel
theorem d_SM_view_35 : decode b_SM_view 35 = .ok (.ireturn, 1) := by decide +kernel
theorem d_SM_count_0 : decode b_SM_count 0 = .ok (.iload_n 1, 1) := by decide +kernel
theorem d_SM_count_1 : decode b_SM_count 1 = .ok (.tableswitch 83 0 7 #[47, 52, 57, 62, 71, 71, 71, 71], 47) := by decide +kernel
theorem d_SM_count_48 : decode b_SM_count 48 = .ok (.aload_n 0, 1) := by decide +kernel
theorem d_SM_count_49 : decode b_SM_count 49 = .ok (.getfield 121, 3) := by decide +kernel
theorem d_SM_count_52 : decode b_SM_count 52 = .ok (.ireturn, 1) := by decide +kernel
theorem d_SM_count_53 : decode b_SM_count 53 = .ok (.aload_n 0, 1) := by decide +kernel
theorem d_SM_count_54 : decode b_SM_count 54 = .ok (.getfield 45, 3) := by decide +kernel
theorem d_SM_count_57 : decode b_SM_count 57 = .ok (.ireturn, 1) := by decide +kernel
theorem d_SM_count_58 : decode b_SM_count 58 = .ok (.aload_n 0, 1) := by decide +kernel
theorem d_SM_count_59 : decode b_SM_count 59 = .ok (.invokevirtual 167, 3) := by decide +kernel
theorem d_SM_count_62 : decode b_SM_count 62 = .ok (.ireturn, 1) := by decide +kernel
theorem d_SM_count_63 : decode b_SM_count 63 = .ok (.aload_n 0, 1) := by decide +kernel
theorem d_SM_count_64 : decode b_SM_count 64 = .ok (.invokevirtual 152, 3) := by decide +kernel
theorem d_SM_count_67 : decode b_SM_count 67 = .ok (.aload_n 0, 1) := by decide +kernel
theorem d_SM_count_68 : decode b_SM_count 68 = .ok (.getfield 170, 3) := by decide +kernel
theorem d_SM_count_71 : decode b_SM_count 71 = .ok (.ireturn, 1) := by decide +kernel
theorem d_SM_count_72 : decode b_SM_count 72 = .ok (.aload_n 0, 1) := by decide +kernel
theorem d_SM_count_73 : decode b_SM_count 73 = .ok (.getfield 27, 3) := by decide +kernel
theorem d_SM_count_76 : decode b_SM_count 76 = .ok (.iload_n 1, 1) := by decide +kernel
theorem d_SM_count_77 : decode b_SM_count 77 = .ok (.iconst 4, 1) := by decide +kernel
theorem d_SM_count_78 : decode b_SM_count 78 = .ok (.isub, 1) := by decide +kernel
theorem d_SM_count_79 : decode b_SM_count 79 = .ok (.iaload, 1) := by decide +kernel
theorem d_SM_count_80 : decode b_SM_count 80 = .ok (.invokestatic 149, 3) := by decide +kernel
theorem d_SM_count_83 : decode b_SM_count 83 = .ok (.ireturn, 1) := by decide +kernel
theorem d_SM_count_84 : decode b_SM_count 84 = .ok (.iconst (-1), 1) := by decide +kernel
theorem d_SM_count_85 : decode b_SM_count 85 = .ok (.ireturn, 1) := by decide +kernel
theorem d_SM_clampBaseSize_0 : decode b_SM_clampBaseSize 0 = .ok (.iconst 4, 1) := by decide +kernel
theorem d_SM_clampBaseSize_1 : decode b_SM_clampBaseSize 1 = .ok (.bipush 60, 2) := by decide +kernel
theorem d_SM_clampBaseSize_3 : decode b_SM_clampBaseSize 3 = .ok (.iload_n 0, 1) := by decide +kernel
theorem d_SM_clampBaseSize_4 : decode b_SM_clampBaseSize 4 = .ok (.invokestatic 173, 3) := by decide +kernel
theorem d_SM_clampBaseSize_7 : decode b_SM_clampBaseSize 7 = .ok (.invokestatic 179, 3) := by decide +kernel
theorem d_SM_clampBaseSize_10 : decode b_SM_clampBaseSize 10 = .ok (.ireturn, 1) := by decide +kernel
theorem d_SM_isThread_0 : decode b_SM_isThread 0 = .ok (.iload_n 0, 1) := by decide +kernel
theorem d_SM_isThread_1 : decode b_SM_isThread 1 = .ok (.ifCond .lt 12, 3) := by decide +kernel
theorem d_SM_isThread_4 : decode b_SM_isThread 4 = .ok (.iload_n 0, 1) := by decide +kernel
theorem d_SM_isThread_5 : decode b_SM_isThread 5 = .ok (.iconst 4, 1) := by decide +kernel
theorem d_SM_isThread_6 : decode b_SM_isThread 6 = .ok (.if_icmp .ge 7, 3) := by decide +kernel
theorem d_SM_isThread_9 : decode b_SM_isThread 9 = .ok (.iconst 1, 1) := by decide +kernel
theorem d_SM_isThread_10 : decode b_SM_isThread 10 = .ok (.goto 4, 3) := by decide +kernel
theorem d_SM_isThread_13 : decode b_SM_isThread 13 = .ok (.iconst 0, 1) := by decide +kernel
theorem d_SM_isThread_14 : decode b_SM_isThread 14 = .ok (.ireturn, 1) := by decide +kernel
theorem d_SM_isBegun_0 : decode b_SM_isBegun 0 = .ok (.iload_n 1, 1) := by decide +kernel
theorem d_SM_isBegun_1 : decode b_SM_isBegun 1 = .ok (.invokestatic 48, 3) := by decide +kernel
theorem d_SM_isBegun_4 : decode b_SM_isBegun 4 = .ok (.ifCond .eq 19, 3) := by decide +kernel
theorem d_SM_isBegun_7 : decode b_SM_isBegun 7 = .ok (.aload_n 0, 1) := by decide +kernel
theorem d_SM_isBegun_8 : decode b_SM_isBegun 8 = .ok (.getfield 23, 3) := by decide +kernel
theorem d_SM_isBegun_11 : decode b_SM_isBegun 11 = .ok (.iload_n 1, 1) := by decide +kernel
theorem d_SM_isBegun_12 : decode b_SM_isBegun 12 = .ok (.aaload, 1) := by decide +kernel
theorem d_SM_isBegun_13 : decode b_SM_isBegun 13 = .ok (.getfield 92, 3) := by decide +kernel
theorem d_SM_isBegun_16 : decode b_SM_isBegun 16 = .ok (.ifCond .le 7, 3) := by decide +kernel
theorem d_SM_isBegun_19 : decode b_SM_isBegun 19 = .ok (.iconst 1, 1) := by decide +kernel
theorem d_SM_isBegun_20 : decode b_SM_isBegun 20 = .ok (.goto 4, 3) := by decide +kernel
theorem d_SM_isBegun_23 : decode b_SM_isBegun 23 = .ok (.iconst 0, 1) := by decide +kernel
theorem d_SM_isBegun_24 : decode b_SM_isBegun 24 = .ok (.ireturn, 1) := by decide +kernel
theorem d_SM_isArea_0 : decode b_SM_isArea 0 = .ok (.iload_n 1, 1) := by decide +kernel
theorem d_SM_isArea_1 : decode b_SM_isArea 1 = .ok (.ifCond .lt 15, 3) := by decide +kernel
theorem d_SM_isArea_4 : decode b_SM_isArea 4 = .ok (.iload_n 1, 1) := by decide +kernel
theorem d_SM_isArea_5 : decode b_SM_isArea 5 = .ok (.aload_n 0, 1) := by decide +kernel
theorem d_SM_isArea_6 : decode b_SM_isArea 6 = .ok (.getfield 45, 3) := by decide +kernel
theorem d_SM_isArea_9 : decode b_SM_isArea 9 = .ok (.if_icmp .ge 7, 3) := by decide +kernel
theorem d_SM_isArea_12 : decode b_SM_isArea 12 = .ok (.iconst 1, 1) := by decide +kernel
theorem d_SM_isArea_13 : decode b_SM_isArea 13 = .ok (.goto 4, 3) := by decide +kernel
theorem d_SM_isArea_16 : decode b_SM_isArea 16 = .ok (.iconst 0, 1) := by decide +kernel
theorem d_SM_isArea_17 : decode b_SM_isArea 17 = .ok (.ireturn, 1) := by decide +kernel
theorem d_SM_isScope_0 : decode b_SM_isScope 0 = .ok (.iload_n 1, 1) := by decide +kernel
theorem d_SM_isScope_1 : decode b_SM_isScope 1 = .ok (.iconst 2, 1) := by decide +kernel
theorem d_SM_isScope_2 : decode b_SM_isScope 2 = .ok (.if_icmp .lt 15, 3) := by decide +kernel
theorem d_SM_isScope_5 : decode b_SM_isScope 5 = .ok (.aload_n 0, 1) := by decide +kernel
theorem d_SM_isScope_6 : decode b_SM_isScope 6 = .ok (.iload_n 1, 1) := by decide +kernel
theorem d_SM_isScope_7 : decode b_SM_isScope 7 = .ok (.invokevirtual 86, 3) := by decide +kernel
theorem d_SM_isScope_10 : decode b_SM_isScope 10 = .ok (.ifCond .eq 7, 3) := by decide +kernel
theorem d_SM_isScope_13 : decode b_SM_isScope 13 = .ok (.iconst 1, 1) := by decide +kernel
theorem d_SM_isScope_14 : decode b_SM_isScope 14 = .ok (.goto 4, 3) := by decide +kernel
theorem d_SM_isScope_17 : decode b_SM_isScope 17 = .ok (.iconst 0, 1) := by decide +kernel
theorem d_SM_isScope_18 : decode b_SM_isScope 18 = .ok (.ireturn, 1) := by decide +kernel
theorem d_SM_isObject_0 : decode b_SM_isObject 0 = .ok (.iload_n 1, 1) := by decide +kernel
theorem d_SM_isObject_1 : decode b_SM_isObject 1 = .ok (.ifCond .lt 26, 3) := by decide +kernel
theorem d_SM_isObject_4 : decode b_SM_isObject 4 = .ok (.iload_n 1, 1) := by decide +kernel
theorem d_SM_isObject_5 : decode b_SM_isObject 5 = .ok (.bipush 40, 2) := by decide +kernel
theorem d_SM_isObject_7 : decode b_SM_isObject 7 = .ok (.if_icmp .ge 20, 3) := by decide +kernel
theorem d_SM_isObject_10 : decode b_SM_isObject 10 = .ok (.aload_n 0, 1) := by decide +kernel
theorem d_SM_isObject_11 : decode b_SM_isObject 11 = .ok (.getfield 17, 3) := by decide +kernel
theorem d_SM_isObject_14 : decode b_SM_isObject 14 = .ok (.iload_n 1, 1) := by decide +kernel
theorem d_SM_isObject_15 : decode b_SM_isObject 15 = .ok (.aaload, 1) := by decide +kernel
theorem d_SM_isObject_16 : decode b_SM_isObject 16 = .ok (.getfield 137, 3) := by decide +kernel
theorem d_SM_isObject_19 : decode b_SM_isObject 19 = .ok (.iconst (-1), 1) := by decide +kernel
theorem d_SM_isObject_20 : decode b_SM_isObject 20 = .ok (.if_icmp .eq 7, 3) := by decide +kernel
theorem d_SM_isObject_23 : decode b_SM_isObject 23 = .ok (.iconst 1, 1) := by decide +kernel
theorem d_SM_isObject_24 : decode b_SM_isObject 24 = .ok (.goto 4, 3) := by decide +kernel
theorem d_SM_isObject_27 : decode b_SM_isObject 27 = .ok (.iconst 0, 1) := by decide +kernel
theorem d_SM_isObject_28 : decode b_SM_isObject 28 = .ok (.ireturn, 1) := by decide +kernel
theorem d_SM_isObjectOrNull_0 : decode b_SM_isObjectOrNull 0 = .ok (.iload_n 1, 1) := by decide +kernel
theorem d_SM_isObjectOrNull_1 : decode b_SM_isObjectOrNull 1 = .ok (.iconst (-1), 1) := by decide +kernel
theorem d_SM_isObjectOrNull_2 : decode b_SM_isObjectOrNull 2 = .ok (.if_icmp .eq 11, 3) := by decide +kernel
theorem d_SM_isObjectOrNull_5 : decode b_SM_isObjectOrNull 5 = .ok (.aload_n 0, 1) := by decide +kernel
theorem d_SM_isObjectOrNull_6 : decode b_SM_isObjectOrNull 6 = .ok (.iload_n 1, 1) := by decide +kernel
theorem d_SM_isObjectOrNull_7 : decode b_SM_isObjectOrNull 7 = .ok (.invokevirtual 161, 3) := by decide +kernel
theorem d_SM_isObjectOrNull_10 : decode b_SM_isObjectOrNull 10 = .ok (.ifCond .eq 7, 3) := by decide +kernel
theorem d_SM_isObjectOrNull_13 : decode b_SM_isObjectOrNull 13 = .ok (.iconst 1, 1) := by decide +kernel
theorem d_SM_isObjectOrNull_14 : decode b_SM_isObjectOrNull 14 = .ok (.goto 4, 3) := by decide +kernel
theorem d_SM_isObjectOrNull_17 : decode b_SM_isObjectOrNull 17 = .ok (.iconst 0, 1) := by decide +kernel
theorem d_SM_isObjectOrNull_18 : decode b_SM_isObjectOrNull 18 = .ok (.ireturn, 1) := by decide +kernel
theorem d_SM_hasField_0 : decode b_SM_hasField 0 = .ok (.aload_n 0, 1) := by decide +kernel
theorem d_SM_hasField_1 : decode b_SM_hasField 1 = .ok (.iload_n 1, 1) := by decide +kernel
theorem d_SM_hasField_2 : decode b_SM_hasField 2 = .ok (.invokevirtual 161, 3) := by decide +kernel
theorem d_SM_hasField_5 : decode b_SM_hasField 5 = .ok (.ifCond .eq 24, 3) := by decide +kernel
theorem d_SM_hasField_8 : decode b_SM_hasField 8 = .ok (.iload_n 2, 1) := by decide +kernel
theorem d_SM_hasField_9 : decode b_SM_hasField 9 = .ok (.ifCond .lt 20, 3) := by decide +kernel
theorem d_SM_hasField_12 : decode b_SM_hasField 12 = .ok (.iload_n 2, 1) := by decide +kernel
theorem d_SM_hasField_13 : decode b_SM_hasField 13 = .ok (.aload_n 0, 1) := by decide +kernel
theorem d_SM_hasField_14 : decode b_SM_hasField 14 = .ok (.getfield 17, 3) := by decide +kernel
theorem d_SM_hasField_17 : decode b_SM_hasField 17 = .ok (.iload_n 1, 1) := by decide +kernel
theorem d_SM_hasField_18 : decode b_SM_hasField 18 = .ok (.aaload, 1) := by decide +kernel
theorem d_SM_hasField_19 : decode b_SM_hasField 19 = .ok (.getfield 182, 3) := by decide +kernel
theorem d_SM_hasField_22 : decode b_SM_hasField 22 = .ok (.if_icmp .ge 7, 3) := by decide +kernel
theorem d_SM_hasField_25 : decode b_SM_hasField 25 = .ok (.iconst 1, 1) := by decide +kernel
theorem d_SM_hasField_26 : decode b_SM_hasField 26 = .ok (.goto 4, 3) := by decide +kernel
theorem d_SM_hasField_29 : decode b_SM_hasField 29 = .ok (.iconst 0, 1) := by decide +kernel
theorem d_SM_hasField_30 : decode b_SM_hasField 30 = .ok (.ireturn, 1) := by decide +kernel
theorem d_SM_objectOrNull_0 : decode b_SM_objectOrNull 0 = .ok (.iload_n 0, 1) := by decide +kernel
theorem d_SM_objectOrNull_1 : decode b_SM_objectOrNull 1 = .ok (.iconst (-1), 1) := by decide +kernel
theorem d_SM_objectOrNull_2 : decode b_SM_objectOrNull 2 = .ok (.if_icmp .ne 8, 3) := by decide +kernel
theorem d_SM_objectOrNull_5 : decode b_SM_objectOrNull 5 = .ok (.bipush (-6), 2) := by decide +kernel
theorem d_SM_objectOrNull_7 : decode b_SM_objectOrNull 7 = .ok (.goto 4, 3) := by decide +kernel
theorem d_SM_objectOrNull_10 : decode b_SM_objectOrNull 10 = .ok (.iload_n 0, 1) := by decide +kernel
theorem d_SM_objectOrNull_11 : decode b_SM_objectOrNull 11 = .ok (.ireturn, 1) := by decide +kernel
theorem d_SM_sees_0 : decode b_SM_sees 0 = .ok (.aload_n 0, 1) := by decide +kernel
theorem d_SM_sees_1 : decode b_SM_sees 1 = .ok (.getfield 17, 3) := by decide +kernel
theorem d_SM_sees_4 : decode b_SM_sees 4 = .ok (.iload_n 2, 1) := by decide +kernel
theorem d_SM_sees_5 : decode b_SM_sees 5 = .ok (.aaload, 1) := by decide +kernel
theorem d_SM_sees_6 : decode b_SM_sees 6 = .ok (.getfield 137, 3) := by decide +kernel
theorem d_SM_sees_9 : decode b_SM_sees 9 = .ok (.istore_n 3, 1) := by decide +kernel
theorem d_SM_sees_10 : decode b_SM_sees 10 = .ok (.iload_n 3, 1) := by decide +kernel
theorem d_SM_sees_11 : decode b_SM_sees 11 = .ok (.ifCond .ne 21, 3) := by decide +kernel
theorem d_SM_sees_14 : decode b_SM_sees 14 = .ok (.aload_n 0, 1) := by decide +kernel
theorem d_SM_sees_15 : decode b_SM_sees 15 = .ok (.getfield 23, 3) := by decide +kernel
theorem d_SM_sees_18 : decode b_SM_sees 18 = .ok (.iload_n 1, 1) := by decide +kernel
theorem d_SM_sees_19 : decode b_SM_sees 19 = .ok (.aaload, 1) := by decide +kernel
theorem d_SM_sees_20 : decode b_SM_sees 20 = .ok (.getfield 55, 3) := by decide +kernel
theorem d_SM_sees_23 : decode b_SM_sees 23 = .ok (.ifCond .ne 7, 3) := by decide +kernel
theorem d_SM_sees_26 : decode b_SM_sees 26 = .ok (.iconst 1, 1) := by decide +kernel
theorem d_SM_sees_27 : decode b_SM_sees 27 = .ok (.goto 4, 3) := by decide +kernel
theorem d_SM_sees_30 : decode b_SM_sees 30 = .ok (.iconst 0, 1) := by decide +kernel
theorem d_SM_sees_31 : decode b_SM_sees 31 = .ok (.ireturn, 1) := by decide +kernel
theorem d_SM_sees_32 : decode b_SM_sees 32 = .ok (.iload_n 3, 1) := by decide +kernel
theorem d_SM_sees_33 : decode b_SM_sees 33 = .ok (.iconst 1, 1) := by decide +kernel
theorem d_SM_sees_34 : decode b_SM_sees 34 = .ok (.if_icmp .eq 16, 3) := by decide +kernel
theorem d_SM_sees_37 : decode b_SM_sees 37 = .ok (.aload_n 0, 1) := by decide +kernel
theorem d_SM_sees_38 : decode b_SM_sees 38 = .ok (.getfield 23, 3) := by decide +kernel
theorem d_SM_sees_41 : decode b_SM_sees 41 = .ok (.iload_n 1, 1) := by decide +kernel
theorem d_SM_sees_42 : decode b_SM_sees 42 = .ok (.aaload, 1) := by decide +kernel
theorem d_SM_sees_43 : decode b_SM_sees 43 = .ok (.iload_n 3, 1) := by decide +kernel
theorem d_SM_sees_44 : decode b_SM_sees 44 = .ok (.invokevirtual 70, 3) := by decide +kernel
theorem d_SM_sees_47 : decode b_SM_sees 47 = .ok (.ifCond .eq 7, 3) := by decide +kernel
theorem d_SM_sees_50 : decode b_SM_sees 50 = .ok (.iconst 1, 1) := by decide +kernel
theorem d_SM_sees_51 : decode b_SM_sees 51 = .ok (.goto 4, 3) := by decide +kernel
theorem d_SM_sees_54 : decode b_SM_sees 54 = .ok (.iconst 0, 1) := by decide +kernel
theorem d_SM_sees_55 : decode b_SM_sees 55 = .ok (.ireturn, 1) := by decide +kernel
theorem d_SM_seesOrNull_0 : decode b_SM_seesOrNull 0 = .ok (.iload_n 2, 1) := by decide +kernel
theorem d_SM_seesOrNull_1 : decode b_SM_seesOrNull 1 = .ok (.iconst (-1), 1) := by decide +kernel
theorem d_SM_seesOrNull_2 : decode b_SM_seesOrNull 2 = .ok (.if_icmp .eq 12, 3) := by decide +kernel
theorem d_SM_seesOrNull_5 : decode b_SM_seesOrNull 5 = .ok (.aload_n 0, 1) := by decide +kernel
theorem d_SM_seesOrNull_6 : decode b_SM_seesOrNull 6 = .ok (.iload_n 1, 1) := by decide +kernel
theorem d_SM_seesOrNull_7 : decode b_SM_seesOrNull 7 = .ok (.iload_n 2, 1) := by decide +kernel
theorem d_SM_seesOrNull_8 : decode b_SM_seesOrNull 8 = .ok (.invokevirtual 131, 3) := by decide +kernel
theorem d_SM_seesOrNull_11 : decode b_SM_seesOrNull 11 = .ok (.ifCond .eq 7, 3) := by decide +kernel
theorem d_SM_seesOrNull_14 : decode b_SM_seesOrNull 14 = .ok (.iconst 1, 1) := by decide +kernel
theorem d_SM_seesOrNull_15 : decode b_SM_seesOrNull 15 = .ok (.goto 4, 3) := by decide +kernel
theorem d_SM_seesOrNull_18 : decode b_SM_seesOrNull 18 = .ok (.iconst 0, 1) := by decide +kernel
theorem d_SM_seesOrNull_19 : decode b_SM_seesOrNull 19 = .ok (.ireturn, 1) := by decide +kernel
theorem d_SM_mayPointTo_0 : decode b_SM_mayPointTo 0 = .ok (.aload_n 0, 1) := by decide +kernel
theorem d_SM_mayPointTo_1 : decode b_SM_mayPointTo 1 = .ok (.getfield 17, 3) := by decide +kernel
theorem d_SM_mayPointTo_4 : decode b_SM_mayPointTo 4 = .ok (.iload_n 2, 1) := by decide +kernel
theorem d_SM_mayPointTo_5 : decode b_SM_mayPointTo 5 = .ok (.aaload, 1) := by decide +kernel
theorem d_SM_mayPointTo_6 : decode b_SM_mayPointTo 6 = .ok (.getfield 137, 3) := by decide +kernel
theorem d_SM_mayPointTo_9 : decode b_SM_mayPointTo 9 = .ok (.istore_n 3, 1) := by decide +kernel
theorem d_SM_mayPointTo_10 : decode b_SM_mayPointTo 10 = .ok (.iload_n 3, 1) := by decide +kernel
theorem d_SM_mayPointTo_11 : decode b_SM_mayPointTo 11 = .ok (.ifCond .eq 17, 3) := by decide +kernel
theorem d_SM_mayPointTo_14 : decode b_SM_mayPointTo 14 = .ok (.iload_n 3, 1) := by decide +kernel
theorem d_SM_mayPointTo_15 : decode b_SM_mayPointTo 15 = .ok (.iconst 1, 1) := by decide +kernel
theorem d_SM_mayPointTo_16 : decode b_SM_mayPointTo 16 = .ok (.if_icmp .eq 12, 3) := by decide +kernel
theorem d_SM_mayPointTo_19 : decode b_SM_mayPointTo 19 = .ok (.aload_n 0, 1) := by decide +kernel
theorem d_SM_mayPointTo_20 : decode b_SM_mayPointTo 20 = .ok (.iload_n 1, 1) := by decide +kernel
theorem d_SM_mayPointTo_21 : decode b_SM_mayPointTo 21 = .ok (.iload_n 3, 1) := by decide +kernel
theorem d_SM_mayPointTo_22 : decode b_SM_mayPointTo 22 = .ok (.invokevirtual 185, 3) := by decide +kernel
theorem d_SM_mayPointTo_25 : decode b_SM_mayPointTo 25 = .ok (.ifCond .eq 7, 3) := by decide +kernel
theorem d_SM_mayPointTo_28 : decode b_SM_mayPointTo 28 = .ok (.iconst 1, 1) := by decide +kernel
theorem d_SM_mayPointTo_29 : decode b_SM_mayPointTo 29 = .ok (.goto 4, 3) := by decide +kernel
theorem d_SM_mayPointTo_32 : decode b_SM_mayPointTo 32 = .ok (.iconst 0, 1) := by decide +kernel
theorem d_SM_mayPointTo_33 : decode b_SM_mayPointTo 33 = .ok (.ireturn, 1) := by decide +kernel
theorem d_SM_liesIn_0 : decode b_SM_liesIn 0 = .ok (.iload_n 1, 1) := by decide +kernel
theorem d_SM_liesIn_1 : decode b_SM_liesIn 1 = .ok (.istore_n 3, 1) := by decide +kernel
theorem d_SM_liesIn_2 : decode b_SM_liesIn 2 = .ok (.iconst 0, 1) := by decide +kernel
theorem d_SM_liesIn_3 : decode b_SM_liesIn 3 = .ok (.istore 4, 2) := by decide +kernel
theorem d_SM_liesIn_5 : decode b_SM_liesIn 5 = .ok (.iload 4, 2) := by decide +kernel
theorem d_SM_liesIn_7 : decode b_SM_liesIn 7 = .ok (.bipush 10, 2) := by decide +kernel
theorem d_SM_liesIn_9 : decode b_SM_liesIn 9 = .ok (.if_icmp .ge 34, 3) := by decide +kernel
theorem d_SM_liesIn_12 : decode b_SM_liesIn 12 = .ok (.aload_n 0, 1) := by decide +kernel
theorem d_SM_liesIn_13 : decode b_SM_liesIn 13 = .ok (.iload_n 3, 1) := by decide +kernel
theorem d_SM_liesIn_14 : decode b_SM_liesIn 14 = .ok (.invokevirtual 63, 3) := by decide +kernel
theorem d_SM_liesIn_17 : decode b_SM_liesIn 17 = .ok (.ifCond .eq 26, 3) := by decide +kernel
theorem d_SM_liesIn_20 : decode b_SM_liesIn 20 = .ok (.iload_n 3, 1) := by decide +kernel
theorem d_SM_liesIn_21 : decode b_SM_liesIn 21 = .ok (.iload_n 2, 1) := by decide +kernel
theorem d_SM_liesIn_22 : decode b_SM_liesIn 22 = .ok (.if_icmp .ne 5, 3) := by decide +kernel
theorem d_SM_liesIn_25 : decode b_SM_liesIn 25 = .ok (.iconst 1, 1) := by decide +kernel
theorem d_SM_liesIn_26 : decode b_SM_liesIn 26 = .ok (.ireturn, 1) := by decide +kernel
theorem d_SM_liesIn_27 : decode b_SM_liesIn 27 = .ok (.aload_n 0, 1) := by decide +kernel
theorem d_SM_liesIn_28 : decode b_SM_liesIn 28 = .ok (.getfield 11, 3) := by decide +kernel
theorem d_SM_liesIn_31 : decode b_SM_liesIn 31 = .ok (.iload_n 3, 1) := by decide +kernel
theorem d_SM_liesIn_32 : decode b_SM_liesIn 32 = .ok (.aaload, 1) := by decide +kernel
theorem d_SM_liesIn_33 : decode b_SM_liesIn 33 = .ok (.getfield 76, 3) := by decide +kernel
theorem d_SM_liesIn_36 : decode b_SM_liesIn 36 = .ok (.istore_n 3, 1) := by decide +kernel
theorem d_SM_liesIn_37 : decode b_SM_liesIn 37 = .ok (.iinc 4 1, 3) := by decide +kernel
theorem d_SM_liesIn_40 : decode b_SM_liesIn 40 = .ok (.goto (-35), 3) := by decide +kernel
theorem d_SM_liesIn_43 : decode b_SM_liesIn 43 = .ok (.iconst 0, 1) := by decide +kernel
theorem d_SM_liesIn_44 : decode b_SM_liesIn 44 = .ok (.ireturn, 1) := by decide +kernel
theorem d_SM_begunThreads_0 : decode b_SM_begunThreads 0 = .ok (.iconst 0, 1) := by decide +kernel
theorem d_SM_begunThreads_1 : decode b_SM_begunThreads 1 = .ok (.istore_n 1, 1) := by decide +kernel
theorem d_SM_begunThreads_2 : decode b_SM_begunThreads 2 = .ok (.iconst 0, 1) := by decide +kernel
theorem d_SM_begunThreads_3 : decode b_SM_begunThreads 3 = .ok (.istore_n 2, 1) := by decide +kernel
theorem d_SM_begunThreads_4 : decode b_SM_begunThreads 4 = .ok (.iload_n 2, 1) := by decide +kernel
theorem d_SM_begunThreads_5 : decode b_SM_begunThreads 5 = .ok (.iconst 4, 1) := by decide +kernel
theorem d_SM_begunThreads_6 : decode b_SM_begunThreads 6 = .ok (.if_icmp .ge 20, 3) := by decide +kernel
theorem d_SM_begunThreads_9 : decode b_SM_begunThreads 9 = .ok (.aload_n 0, 1) := by decide +kernel
theorem d_SM_begunThreads_10 : decode b_SM_begunThreads 10 = .ok (.iload_n 2, 1) := by decide +kernel
theorem d_SM_begunThreads_11 : decode b_SM_begunThreads 11 = .ok (.invokevirtual 52, 3) := by decide +kernel
theorem d_SM_begunThreads_14 : decode b_SM_begunThreads 14 = .ok (.ifCond .eq 6, 3) := by decide +kernel
theorem d_SM_begunThreads_17 : decode b_SM_begunThreads 17 = .ok (.iinc 1 1, 3) := by decide +kernel
theorem d_SM_begunThreads_20 : decode b_SM_begunThreads 20 = .ok (.iinc 2 1, 3) := by decide +kernel
theorem d_SM_begunThreads_23 : decode b_SM_begunThreads 23 = .ok (.goto (-19), 3) := by decide +kernel
theorem d_SM_begunThreads_26 : decode b_SM_begunThreads 26 = .ok (.iload_n 1, 1) := by decide +kernel
theorem d_SM_begunThreads_27 : decode b_SM_begunThreads 27 = .ok (.ireturn, 1) := by decide +kernel
theorem d_SM_leastFreeNumber_0 : decode b_SM_leastFreeNumber 0 = .ok (.iconst 0, 1) := by decide +kernel
theorem d_SM_leastFreeNumber_1 : decode b_SM_leastFreeNumber 1 = .ok (.istore_n 1, 1) := by decide +kernel
theorem d_SM_leastFreeNumber_2 : decode b_SM_leastFreeNumber 2 = .ok (.iload_n 1, 1) := by decide +kernel
theorem d_SM_leastFreeNumber_3 : decode b_SM_leastFreeNumber 3 = .ok (.bipush 40, 2) := by decide +kernel
theorem d_SM_leastFreeNumber_5 : decode b_SM_leastFreeNumber 5 = .ok (.if_icmp .ge 24, 3) := by decide +kernel
theorem d_SM_leastFreeNumber_8 : decode b_SM_leastFreeNumber 8 = .ok (.aload_n 0, 1) := by decide +kernel
theorem d_SM_leastFreeNumber_9 : decode b_SM_leastFreeNumber 9 = .ok (.getfield 17, 3) := by decide +kernel
theorem d_SM_leastFreeNumber_12 : decode b_SM_leastFreeNumber 12 = .ok (.iload_n 1, 1) := by decide +kernel
theorem d_SM_leastFreeNumber_13 : decode b_SM_leastFreeNumber 13 = .ok (.aaload, 1) := by decide +kernel
theorem d_SM_leastFreeNumber_14 : decode b_SM_leastFreeNumber 14 = .ok (.getfield 137, 3) := by decide +kernel
theorem d_SM_leastFreeNumber_17 : decode b_SM_leastFreeNumber 17 = .ok (.iconst (-1), 1) := by decide +kernel
theorem d_SM_leastFreeNumber_18 : decode b_SM_leastFreeNumber 18 = .ok (.if_icmp .ne 5, 3) := by decide +kernel
theorem d_SM_leastFreeNumber_21 : decode b_SM_leastFreeNumber 21 = .ok (.iload_n 1, 1) := by decide +kernel
theorem d_SM_leastFreeNumber_22 : decode b_SM_leastFreeNumber 22 = .ok (.ireturn, 1) := by decide +kernel
theorem d_SM_leastFreeNumber_23 : decode b_SM_leastFreeNumber 23 = .ok (.iinc 1 1, 3) := by decide +kernel
theorem d_SM_leastFreeNumber_26 : decode b_SM_leastFreeNumber 26 = .ok (.goto (-24), 3) := by decide +kernel
theorem d_SM_leastFreeNumber_29 : decode b_SM_leastFreeNumber 29 = .ok (.iconst (-1), 1) := by decide +kernel
theorem d_SM_leastFreeNumber_30 : decode b_SM_leastFreeNumber 30 = .ok (.ireturn, 1) := by decide +kernel
theorem d_SM_drop_0 : decode b_SM_drop 0 = .ok (.aload_n 0, 1) := by decide +kernel
theorem d_SM_drop_1 : decode b_SM_drop 1 = .ok (.getfield 17, 3) := by decide +kernel
theorem d_SM_drop_4 : decode b_SM_drop 4 = .ok (.iload_n 1, 1) := by decide +kernel
theorem d_SM_drop_5 : decode b_SM_drop 5 = .ok (.aaload, 1) := by decide +kernel
theorem d_SM_drop_6 : decode b_SM_drop 6 = .ok (.astore_n 2, 1) := by decide +kernel
theorem d_SM_drop_7 : decode b_SM_drop 7 = .ok (.aload_n 0, 1) := by decide +kernel
theorem d_SM_drop_8 : decode b_SM_drop 8 = .ok (.getfield 11, 3) := by decide +kernel
theorem d_SM_drop_11 : decode b_SM_drop 11 = .ok (.aload_n 2, 1) := by decide +kernel
theorem d_SM_drop_12 : decode b_SM_drop 12 = .ok (.getfield 137, 3) := by decide +kernel
theorem d_SM_drop_15 : decode b_SM_drop 15 = .ok (.aaload, 1) := by decide +kernel
theorem d_SM_drop_16 : decode b_SM_drop 16 = .ok (.dup, 1) := by decide +kernel
theorem d_SM_drop_17 : decode b_SM_drop 17 = .ok (.getfield 118, 3) := by decide +kernel
theorem d_SM_drop_20 : decode b_SM_drop 20 = .ok (.iconst 1, 1) := by decide +kernel
theorem d_SM_drop_21 : decode b_SM_drop 21 = .ok (.aload_n 2, 1) := by decide +kernel
theorem d_SM_drop_22 : decode b_SM_drop 22 = .ok (.getfield 182, 3) := by decide +kernel
theorem d_SM_drop_25 : decode b_SM_drop 25 = .ok (.iadd, 1) := by decide +kernel
theorem d_SM_drop_26 : decode b_SM_drop 26 = .ok (.isub, 1) := by decide +kernel
theorem d_SM_drop_27 : decode b_SM_drop 27 = .ok (.putfield 118, 3) := by decide +kernel
theorem d_SM_drop_30 : decode b_SM_drop 30 = .ok (.aload_n 2, 1) := by decide +kernel
theorem d_SM_drop_31 : decode b_SM_drop 31 = .ok (.iconst (-1), 1) := by decide +kernel
theorem d_SM_drop_32 : decode b_SM_drop 32 = .ok (.putfield 137, 3) := by decide +kernel
theorem d_SM_drop_35 : decode b_SM_drop 35 = .ok (.aload_n 0, 1) := by decide +kernel
theorem d_SM_drop_36 : decode b_SM_drop 36 = .ok (.dup, 1) := by decide +kernel
theorem d_SM_drop_37 : decode b_SM_drop 37 = .ok (.getfield 121, 3) := by decide +kernel
theorem d_SM_drop_40 : decode b_SM_drop 40 = .ok (.iconst 1, 1) := by decide +kernel
theorem d_SM_drop_41 : decode b_SM_drop 41 = .ok (.isub, 1) := by decide +kernel
theorem d_SM_drop_42 : decode b_SM_drop 42 = .ok (.putfield 121, 3) := by decide +kernel
theorem d_SM_drop_45 : decode b_SM_drop 45 = .ok (.return_, 1) := by decide +kernel
theorem d_SM_dropEntry_0 : decode b_SM_dropEntry 0 = .ok (.aload_n 0, 1) := by decide +kernel
theorem d_SM_dropEntry_1 : decode b_SM_dropEntry 1 = .ok (.getfield 11, 3) := by decide +kernel
theorem d_SM_dropEntry_4 : decode b_SM_dropEntry 4 = .ok (.iload_n 1, 1) := by decide +kernel
theorem d_SM_dropEntry_5 : decode b_SM_dropEntry 5 = .ok (.aaload, 1) := by decide +kernel
theorem d_SM_dropEntry_6 : decode b_SM_dropEntry 6 = .ok (.dup, 1) := by decide +kernel
theorem d_SM_dropEntry_7 : decode b_SM_dropEntry 7 = .ok (.getfield 73, 3) := by decide +kernel
theorem d_SM_dropEntry_10 : decode b_SM_dropEntry 10 = .ok (.iconst 1, 1) := by decide +kernel
theorem d_SM_dropEntry_11 : decode b_SM_dropEntry 11 = .ok (.isub, 1) := by decide +kernel
theorem d_SM_dropEntry_12 : decode b_SM_dropEntry 12 = .ok (.putfield 73, 3) := by decide +kernel
theorem d_SM_dropEntry_15 : decode b_SM_dropEntry 15 = .ok (.aload_n 0, 1) := by decide +kernel
theorem d_SM_dropEntry_16 : decode b_SM_dropEntry 16 = .ok (.getfield 11, 3) := by decide +kernel
theorem d_SM_dropEntry_19 : decode b_SM_dropEntry 19 = .ok (.iload_n 1, 1) := by decide +kernel
theorem d_SM_dropEntry_20 : decode b_SM_dropEntry 20 = .ok (.aaload, 1) := by decide +kernel
theorem d_SM_dropEntry_21 : decode b_SM_dropEntry 21 = .ok (.getfield 73, 3) := by decide +kernel
theorem d_SM_dropEntry_24 : decode b_SM_dropEntry 24 = .ok (.ifCond .ne 8, 3) := by decide +kernel
theorem d_SM_dropEntry_27 : decode b_SM_dropEntry 27 = .ok (.aload_n 0, 1) := by decide +kernel
theorem d_SM_dropEntry_28 : decode b_SM_dropEntry 28 = .ok (.iload_n 1, 1) := by decide +kernel
theorem d_SM_dropEntry_29 : decode b_SM_dropEntry 29 = .ok (.invokevirtual 188, 3) := by decide +kernel
theorem d_SM_dropEntry_32 : decode b_SM_dropEntry 32 = .ok (.return_, 1) := by decide +kernel
theorem d_SM_emptyScope_0 : decode b_SM_emptyScope 0 = .ok (.iconst 0, 1) := by decide +kernel
theorem d_SM_emptyScope_1 : decode b_SM_emptyScope 1 = .ok (.istore_n 2, 1) := by decide +kernel
theorem d_SM_emptyScope_2 : decode b_SM_emptyScope 2 = .ok (.iload_n 2, 1) := by decide +kernel
theorem d_SM_emptyScope_3 : decode b_SM_emptyScope 3 = .ok (.bipush 40, 2) := by decide +kernel
theorem d_SM_emptyScope_5 : decode b_SM_emptyScope 5 = .ok (.if_icmp .ge 27, 3) := by decide +kernel
theorem d_SM_emptyScope_8 : decode b_SM_emptyScope 8 = .ok (.aload_n 0, 1) := by decide +kernel
theorem d_SM_emptyScope_9 : decode b_SM_emptyScope 9 = .ok (.getfield 17, 3) := by decide +kernel
theorem d_SM_emptyScope_12 : decode b_SM_emptyScope 12 = .ok (.iload_n 2, 1) := by decide +kernel
theorem d_SM_emptyScope_13 : decode b_SM_emptyScope 13 = .ok (.aaload, 1) := by decide +kernel
theorem d_SM_emptyScope_14 : decode b_SM_emptyScope 14 = .ok (.getfield 137, 3) := by decide +kernel
theorem d_SM_emptyScope_17 : decode b_SM_emptyScope 17 = .ok (.iload_n 1, 1) := by decide +kernel
theorem d_SM_emptyScope_18 : decode b_SM_emptyScope 18 = .ok (.if_icmp .ne 8, 3) := by decide +kernel
theorem d_SM_emptyScope_21 : decode b_SM_emptyScope 21 = .ok (.aload_n 0, 1) := by decide +kernel
theorem d_SM_emptyScope_22 : decode b_SM_emptyScope 22 = .ok (.iload_n 2, 1) := by decide +kernel
theorem d_SM_emptyScope_23 : decode b_SM_emptyScope 23 = .ok (.invokevirtual 158, 3) := by decide +kernel
theorem d_SM_emptyScope_26 : decode b_SM_emptyScope 26 = .ok (.iinc 2 1, 3) := by decide +kernel
theorem d_SM_emptyScope_29 : decode b_SM_emptyScope 29 = .ok (.goto (-27), 3) := by decide +kernel
theorem d_SM_emptyScope_32 : decode b_SM_emptyScope 32 = .ok (.aload_n 0, 1) := by decide +kernel
theorem d_SM_emptyScope_33 : decode b_SM_emptyScope 33 = .ok (.getfield 11, 3) := by decide +kernel
theorem d_SM_emptyScope_36 : decode b_SM_emptyScope 36 = .ok (.iload_n 1, 1) := by decide +kernel
theorem d_SM_emptyScope_37 : decode b_SM_emptyScope 37 = .ok (.aaload, 1) := by decide +kernel
theorem d_SM_emptyScope_38 : decode b_SM_emptyScope 38 = .ok (.iconst 0, 1) := by decide +kernel
theorem d_SM_emptyScope_39 : decode b_SM_emptyScope 39 = .ok (.putfield 76, 3) := by decide +kernel
theorem d_SM_emptyScope_42 : decode b_SM_emptyScope 42 = .ok (.aload_n 0, 1) := by decide +kernel
theorem d_SM_emptyScope_43 : decode b_SM_emptyScope 43 = .ok (.getfield 11, 3) := by decide +kernel
theorem d_SM_emptyScope_46 : decode b_SM_emptyScope 46 = .ok (.iload_n 1, 1) := by decide +kernel
theorem d_SM_emptyScope_47 : decode b_SM_emptyScope 47 = .ok (.aaload, 1) := by decide +kernel
theorem d_SM_emptyScope_48 : decode b_SM_emptyScope 48 = .ok (.iconst (-1), 1) := by decide +kernel
theorem d_SM_emptyScope_49 : decode b_SM_emptyScope 49 = .ok (.putfield 146, 3) := by decide +kernel
theorem d_SM_emptyScope_52 : decode b_SM_emptyScope 52 = .ok (.return_, 1) := by decide +kernel
theorem d_SM_findKept_0 : decode b_SM_findKept 0 = .ok (.aload_n 0, 1) := by decide +kernel
theorem d_SM_findKept_1 : decode b_SM_findKept 1 = .ok (.iconst 0, 1) := by decide +kernel
theorem d_SM_findKept_2 : decode b_SM_findKept 2 = .ok (.putfield 170, 3) := by decide +kernel
theorem d_SM_findKept_5 : decode b_SM_findKept 5 = .ok (.iconst 0, 1) := by decide +kernel
theorem d_SM_findKept_6 : decode b_SM_findKept 6 = .ok (.istore_n 1, 1) := by decide +kernel
theorem d_SM_findKept_7 : decode b_SM_findKept 7 = .ok (.iload_n 1, 1) := by decide +kernel
theorem d_SM_findKept_8 : decode b_SM_findKept 8 = .ok (.bipush 40, 2) := by decide +kernel
theorem d_SM_findKept_10 : decode b_SM_findKept 10 = .ok (.if_icmp .ge 19, 3) := by decide +kernel
theorem d_SM_findKept_13 : decode b_SM_findKept 13 = .ok (.aload_n 0, 1) := by decide +kernel
theorem d_SM_findKept_14 : decode b_SM_findKept 14 = .ok (.getfield 17, 3) := by decide +kernel
theorem d_SM_findKept_17 : decode b_SM_findKept 17 = .ok (.iload_n 1, 1) := by decide +kernel
theorem d_SM_findKept_18 : decode b_SM_findKept 18 = .ok (.aaload, 1) := by decide +kernel
theorem d_SM_findKept_19 : decode b_SM_findKept 19 = .ok (.iconst 0, 1) := by decide +kernel
theorem d_SM_findKept_20 : decode b_SM_findKept 20 = .ok (.putfield 155, 3) := by decide +kernel
theorem d_SM_findKept_23 : decode b_SM_findKept 23 = .ok (.iinc 1 1, 3) := by decide +kernel
theorem d_SM_findKept_26 : decode b_SM_findKept 26 = .ok (.goto (-19), 3) := by decide +kernel
theorem d_SM_findKept_29 : decode b_SM_findKept 29 = .ok (.iconst 0, 1) := by decide +kernel
theorem d_SM_findKept_30 : decode b_SM_findKept 30 = .ok (.istore_n 1, 1) := by decide +kernel
theorem d_SM_findKept_31 : decode b_SM_findKept 31 = .ok (.iload_n 1, 1) := by decide +kernel
theorem d_SM_findKept_32 : decode b_SM_findKept 32 = .ok (.iconst 4, 1) := by decide +kernel
theorem d_SM_findKept_33 : decode b_SM_findKept 33 = .ok (.if_icmp .ge 19, 3) := by decide +kernel
theorem d_SM_findKept_36 : decode b_SM_findKept 36 = .ok (.aload_n 0, 1) := by decide +kernel
theorem d_SM_findKept_37 : decode b_SM_findKept 37 = .ok (.aload_n 0, 1) := by decide +kernel
theorem d_SM_findKept_38 : decode b_SM_findKept 38 = .ok (.getfield 27, 3) := by decide +kernel
theorem d_SM_findKept_41 : decode b_SM_findKept 41 = .ok (.iload_n 1, 1) := by decide +kernel
theorem d_SM_findKept_42 : decode b_SM_findKept 42 = .ok (.iaload, 1) := by decide +kernel
theorem d_SM_findKept_43 : decode b_SM_findKept 43 = .ok (.invokevirtual 191, 3) := by decide +kernel
theorem d_SM_findKept_46 : decode b_SM_findKept 46 = .ok (.iinc 1 1, 3) := by decide +kernel
theorem d_SM_findKept_49 : decode b_SM_findKept 49 = .ok (.goto (-18), 3) := by decide +kernel
theorem d_SM_findKept_52 : decode b_SM_findKept 52 = .ok (.iconst 0, 1) := by decide +kernel
theorem d_SM_findKept_53 : decode b_SM_findKept 53 = .ok (.istore_n 1, 1) := by decide +kernel
theorem d_SM_findKept_54 : decode b_SM_findKept 54 = .ok (.iload_n 1, 1) := by decide +kernel
theorem d_SM_findKept_55 : decode b_SM_findKept 55 = .ok (.bipush 40, 2) := by decide +kernel
theorem d_SM_findKept_57 : decode b_SM_findKept 57 = .ok (.if_icmp .ge 39, 3) := by decide +kernel
theorem d_SM_findKept_60 : decode b_SM_findKept 60 = .ok (.aload_n 0, 1) := by decide +kernel
theorem d_SM_findKept_61 : decode b_SM_findKept 61 = .ok (.getfield 17, 3) := by decide +kernel
theorem d_SM_findKept_64 : decode b_SM_findKept 64 = .ok (.iload_n 1, 1) := by decide +kernel
theorem d_SM_findKept_65 : decode b_SM_findKept 65 = .ok (.aaload, 1) := by decide +kernel
theorem d_SM_findKept_66 : decode b_SM_findKept 66 = .ok (.getfield 137, 3) := by decide +kernel
theorem d_SM_findKept_69 : decode b_SM_findKept 69 = .ok (.iconst (-1), 1) := by decide +kernel
theorem d_SM_findKept_70 : decode b_SM_findKept 70 = .ok (.if_icmp .eq 20, 3) := by decide +kernel
theorem d_SM_findKept_73 : decode b_SM_findKept 73 = .ok (.aload_n 0, 1) := by decide +kernel
theorem d_SM_findKept_74 : decode b_SM_findKept 74 = .ok (.getfield 17, 3) := by decide +kernel
theorem d_SM_findKept_77 : decode b_SM_findKept 77 = .ok (.iload_n 1, 1) := by decide +kernel
theorem d_SM_findKept_78 : decode b_SM_findKept 78 = .ok (.aaload, 1) := by decide +kernel
theorem d_SM_findKept_79 : decode b_SM_findKept 79 = .ok (.getfield 137, 3) := by decide +kernel
theorem d_SM_findKept_82 : decode b_SM_findKept 82 = .ok (.ifCond .eq 8, 3) := by decide +kernel
theorem d_SM_findKept_85 : decode b_SM_findKept 85 = .ok (.aload_n 0, 1) := by decide +kernel
theorem d_SM_findKept_86 : decode b_SM_findKept 86 = .ok (.iload_n 1, 1) := by decide +kernel
theorem d_SM_findKept_87 : decode b_SM_findKept 87 = .ok (.invokevirtual 194, 3) := by decide +kernel
theorem d_SM_findKept_90 : decode b_SM_findKept 90 = .ok (.iinc 1 1, 3) := by decide +kernel
theorem d_SM_findKept_93 : decode b_SM_findKept 93 = .ok (.goto (-39), 3) := by decide +kernel
theorem d_SM_findKept_96 : decode b_SM_findKept 96 = .ok (.iconst 0, 1) := by decide +kernel
theorem d_SM_findKept_97 : decode b_SM_findKept 97 = .ok (.istore_n 1, 1) := by decide +kernel
theorem d_SM_findKept_98 : decode b_SM_findKept 98 = .ok (.iload_n 1, 1) := by decide +kernel
theorem d_SM_findKept_99 : decode b_SM_findKept 99 = .ok (.aload_n 0, 1) := by decide +kernel
theorem d_SM_findKept_100 : decode b_SM_findKept 100 = .ok (.getfield 170, 3) := by decide +kernel
theorem d_SM_findKept_103 : decode b_SM_findKept 103 = .ok (.if_icmp .ge 25, 3) := by decide +kernel
theorem d_SM_findKept_106 : decode b_SM_findKept 106 = .ok (.iload_n 1, 1) := by decide +kernel
theorem d_SM_findKept_107 : decode b_SM_findKept 107 = .ok (.bipush 40, 2) := by decide +kernel
theorem d_SM_findKept_109 : decode b_SM_findKept 109 = .ok (.if_icmp .ge 19, 3) := by decide +kernel
theorem d_SM_findKept_112 : decode b_SM_findKept 112 = .ok (.aload_n 0, 1) := by decide +kernel
theorem d_SM_findKept_113 : decode b_SM_findKept 113 = .ok (.aload_n 0, 1) := by decide +kernel
theorem d_SM_findKept_114 : decode b_SM_findKept 114 = .ok (.getfield 31, 3) := by decide +kernel
theorem d_SM_findKept_117 : decode b_SM_findKept 117 = .ok (.iload_n 1, 1) := by decide +kernel
theorem d_SM_findKept_118 : decode b_SM_findKept 118 = .ok (.iaload, 1) := by decide +kernel
theorem d_SM_findKept_119 : decode b_SM_findKept 119 = .ok (.invokevirtual 194, 3) := by decide +kernel
theorem d_SM_findKept_122 : decode b_SM_findKept 122 = .ok (.iinc 1 1, 3) := by decide +kernel
theorem d_SM_findKept_125 : decode b_SM_findKept 125 = .ok (.goto (-27), 3) := by decide +kernel
theorem d_SM_findKept_128 : decode b_SM_findKept 128 = .ok (.return_, 1) := by decide +kernel
theorem d_SM_keepFieldsOf_0 : decode b_SM_keepFieldsOf 0 = .ok (.aload_n 0, 1) := by decide +kernel
theorem d_SM_keepFieldsOf_1 : decode b_SM_keepFieldsOf 1 = .ok (.getfield 17, 3) := by decide +kernel
theorem d_SM_keepFieldsOf_4 : decode b_SM_keepFieldsOf 4 = .ok (.iload_n 1, 1) := by decide +kernel
theorem d_SM_keepFieldsOf_5 : decode b_SM_keepFieldsOf 5 = .ok (.aaload, 1) := by decide +kernel
theorem d_SM_keepFieldsOf_6 : decode b_SM_keepFieldsOf 6 = .ok (.astore_n 2, 1) := by decide +kernel
theorem d_SM_keepFieldsOf_7 : decode b_SM_keepFieldsOf 7 = .ok (.iconst 0, 1) := by decide +kernel
theorem d_SM_keepFieldsOf_8 : decode b_SM_keepFieldsOf 8 = .ok (.istore_n 3, 1) := by decide +kernel
theorem d_SM_keepFieldsOf_9 : decode b_SM_keepFieldsOf 9 = .ok (.iload_n 3, 1) := by decide +kernel
theorem d_SM_keepFieldsOf_10 : decode b_SM_keepFieldsOf 10 = .ok (.aload_n 2, 1) := by decide +kernel
theorem d_SM_keepFieldsOf_11 : decode b_SM_keepFieldsOf 11 = .ok (.getfield 182, 3) := by decide +kernel
theorem d_SM_keepFieldsOf_14 : decode b_SM_keepFieldsOf 14 = .ok (.if_icmp .ge 24, 3) := by decide +kernel
theorem d_SM_keepFieldsOf_17 : decode b_SM_keepFieldsOf 17 = .ok (.iload_n 3, 1) := by decide +kernel
theorem d_SM_keepFieldsOf_18 : decode b_SM_keepFieldsOf 18 = .ok (.iconst 4, 1) := by decide +kernel
theorem d_SM_keepFieldsOf_19 : decode b_SM_keepFieldsOf 19 = .ok (.if_icmp .ge 19, 3) := by decide +kernel
theorem d_SM_keepFieldsOf_22 : decode b_SM_keepFieldsOf 22 = .ok (.aload_n 0, 1) := by decide +kernel
theorem d_SM_keepFieldsOf_23 : decode b_SM_keepFieldsOf 23 = .ok (.aload_n 2, 1) := by decide +kernel
theorem d_SM_keepFieldsOf_24 : decode b_SM_keepFieldsOf 24 = .ok (.getfield 143, 3) := by decide +kernel
theorem d_SM_keepFieldsOf_27 : decode b_SM_keepFieldsOf 27 = .ok (.iload_n 3, 1) := by decide +kernel
theorem d_SM_keepFieldsOf_28 : decode b_SM_keepFieldsOf 28 = .ok (.iaload, 1) := by decide +kernel
theorem d_SM_keepFieldsOf_29 : decode b_SM_keepFieldsOf 29 = .ok (.invokevirtual 191, 3) := by decide +kernel
theorem d_SM_keepFieldsOf_32 : decode b_SM_keepFieldsOf 32 = .ok (.iinc 3 1, 3) := by decide +kernel
theorem d_SM_keepFieldsOf_35 : decode b_SM_keepFieldsOf 35 = .ok (.goto (-26), 3) := by decide +kernel
theorem d_SM_keepFieldsOf_38 : decode b_SM_keepFieldsOf 38 = .ok (.return_, 1) := by decide +kernel
theorem d_SM_keep_0 : decode b_SM_keep 0 = .ok (.aload_n 0, 1) := by decide +kernel
theorem d_SM_keep_1 : decode b_SM_keep 1 = .ok (.iload_n 1, 1) := by decide +kernel
theorem d_SM_keep_2 : decode b_SM_keep 2 = .ok (.invokevirtual 161, 3) := by decide +kernel
theorem d_SM_keep_5 : decode b_SM_keep 5 = .ok (.ifCond .eq 27, 3) := by decide +kernel
theorem d_SM_keep_8 : decode b_SM_keep 8 = .ok (.aload_n 0, 1) := by decide +kernel
theorem d_SM_keep_9 : decode b_SM_keep 9 = .ok (.getfield 17, 3) := by decide +kernel
theorem d_SM_keep_12 : decode b_SM_keep 12 = .ok (.iload_n 1, 1) := by decide +kernel
theorem d_SM_keep_13 : decode b_SM_keep 13 = .ok (.aaload, 1) := by decide +kernel
theorem d_SM_keep_14 : decode b_SM_keep 14 = .ok (.getfield 137, 3) := by decide +kernel
theorem d_SM_keep_17 : decode b_SM_keep 17 = .ok (.ifCond .ne 15, 3) := by decide +kernel
theorem d_SM_keep_20 : decode b_SM_keep 20 = .ok (.aload_n 0, 1) := by decide +kernel
theorem d_SM_keep_21 : decode b_SM_keep 21 = .ok (.getfield 17, 3) := by decide +kernel
theorem d_SM_keep_24 : decode b_SM_keep 24 = .ok (.iload_n 1, 1) := by decide +kernel
theorem d_SM_keep_25 : decode b_SM_keep 25 = .ok (.aaload, 1) := by decide +kernel
theorem d_SM_keep_26 : decode b_SM_keep 26 = .ok (.getfield 155, 3) := by decide +kernel
theorem d_SM_keep_29 : decode b_SM_keep 29 = .ok (.ifCond .eq 4, 3) := by decide +kernel
theorem d_SM_keep_32 : decode b_SM_keep 32 = .ok (.return_, 1) := by decide +kernel
theorem d_SM_keep_33 : decode b_SM_keep 33 = .ok (.aload_n 0, 1) := by decide +kernel
theorem d_SM_keep_34 : decode b_SM_keep 34 = .ok (.getfield 170, 3) := by decide +kernel
theorem d_SM_keep_37 : decode b_SM_keep 37 = .ok (.bipush 40, 2) := by decide +kernel
theorem d_SM_keep_39 : decode b_SM_keep 39 = .ok (.if_icmp .lt 4, 3) := by decide +kernel
theorem d_SM_keep_42 : decode b_SM_keep 42 = .ok (.return_, 1) := by decide +kernel
theorem d_SM_keep_43 : decode b_SM_keep 43 = .ok (.aload_n 0, 1) := by decide +kernel
theorem d_SM_keep_44 : decode b_SM_keep 44 = .ok (.getfield 17, 3) := by decide +kernel
theorem d_SM_keep_47 : decode b_SM_keep 47 = .ok (.iload_n 1, 1) := by decide +kernel
theorem d_SM_keep_48 : decode b_SM_keep 48 = .ok (.aaload, 1) := by decide +kernel
theorem d_SM_keep_49 : decode b_SM_keep 49 = .ok (.iconst 1, 1) := by decide +kernel
theorem d_SM_keep_50 : decode b_SM_keep 50 = .ok (.putfield 155, 3) := by decide +kernel
theorem d_SM_keep_53 : decode b_SM_keep 53 = .ok (.aload_n 0, 1) := by decide +kernel
theorem d_SM_keep_54 : decode b_SM_keep 54 = .ok (.getfield 31, 3) := by decide +kernel
theorem d_SM_keep_57 : decode b_SM_keep 57 = .ok (.aload_n 0, 1) := by decide +kernel
theorem d_SM_keep_58 : decode b_SM_keep 58 = .ok (.getfield 170, 3) := by decide +kernel
theorem d_SM_keep_61 : decode b_SM_keep 61 = .ok (.iload_n 1, 1) := by decide +kernel
theorem d_SM_keep_62 : decode b_SM_keep 62 = .ok (.iastore, 1) := by decide +kernel
theorem d_SM_keep_63 : decode b_SM_keep 63 = .ok (.aload_n 0, 1) := by decide +kernel
theorem d_SM_keep_64 : decode b_SM_keep 64 = .ok (.dup, 1) := by decide +kernel
theorem d_SM_keep_65 : decode b_SM_keep 65 = .ok (.getfield 170, 3) := by decide +kernel
theorem d_SM_keep_68 : decode b_SM_keep 68 = .ok (.iconst 1, 1) := by decide +kernel
theorem d_SM_keep_69 : decode b_SM_keep 69 = .ok (.iadd, 1) := by decide +kernel
theorem d_SM_keep_70 : decode b_SM_keep 70 = .ok (.putfield 170, 3) := by decide +kernel
theorem d_SM_keep_73 : decode b_SM_keep 73 = .ok (.return_, 1) := by decide +kernel
theorem d_Ar_init_0 : decode b_Ar_init 0 = .ok (.aload_n 0, 1) := by decide +kernel
theorem d_Ar_init_1 : decode b_Ar_init 1 = .ok (.invokespecial 3, 3) := by decide +kernel
theorem d_Ar_init_4 : decode b_Ar_init 4 = .ok (.aload_n 0, 1) := by decide +kernel
theorem d_Ar_init_5 : decode b_Ar_init 5 = .ok (.iconst 0, 1) := by decide +kernel
theorem d_Ar_init_6 : decode b_Ar_init 6 = .ok (.putfield 9, 3) := by decide +kernel
theorem d_Ar_init_9 : decode b_Ar_init 9 = .ok (.aload_n 0, 1) := by decide +kernel
theorem d_Ar_init_10 : decode b_Ar_init 10 = .ok (.iconst (-1), 1) := by decide +kernel
theorem d_Ar_init_11 : decode b_Ar_init 11 = .ok (.putfield 15, 3) := by decide +kernel
theorem d_Ar_init_14 : decode b_Ar_init 14 = .ok (.return_, 1) := by decide +kernel
theorem d_Ar_free_0 : decode b_Ar_free 0 = .ok (.aload_n 0, 1) := by decide +kernel
theorem d_Ar_free_1 : decode b_Ar_free 1 = .ok (.getfield 18, 3) := by decide +kernel
theorem d_Ar_free_4 : decode b_Ar_free 4 = .ok (.aload_n 0, 1) := by decide +kernel
theorem d_Ar_free_5 : decode b_Ar_free 5 = .ok (.getfield 21, 3) := by decide +kernel
theorem d_Ar_free_8 : decode b_Ar_free 8 = .ok (.isub, 1) := by decide +kernel
theorem d_Ar_free_9 : decode b_Ar_free 9 = .ok (.ireturn, 1) := by decide +kernel
theorem d_Ce_init_0 : decode b_Ce_init 0 = .ok (.aload_n 0, 1) := by decide +kernel
theorem d_Ce_init_1 : decode b_Ce_init 1 = .ok (.invokespecial 3, 3) := by decide +kernel
theorem d_Ce_init_4 : decode b_Ce_init 4 = .ok (.aload_n 0, 1) := by decide +kernel
theorem d_Ce_init_5 : decode b_Ce_init 5 = .ok (.iconst 4, 1) := by decide +kernel
theorem d_Ce_init_6 : decode b_Ce_init 6 = .ok (.newarray .int, 2) := by decide +kernel
theorem d_Ce_init_8 : decode b_Ce_init 8 = .ok (.putfield 9, 3) := by decide +kernel
theorem d_Ce_init_11 : decode b_Ce_init 11 = .ok (.aload_n 0, 1) := by decide +kernel
theorem d_Ce_init_12 : decode b_Ce_init 12 = .ok (.iconst (-1), 1) := by decide +kernel
theorem d_Ce_init_13 : decode b_Ce_init 13 = .ok (.putfield 15, 3) := by decide +kernel
theorem d_Ce_init_16 : decode b_Ce_init 16 = .ok (.return_, 1) := by decide +kernel
theorem d_Ce_fill_0 : decode b_Ce_fill 0 = .ok (.aload_n 0, 1) := by decide +kernel
theorem d_Ce_fill_1 : decode b_Ce_fill 1 = .ok (.iload_n 1, 1) := by decide +kernel
theorem d_Ce_fill_2 : decode b_Ce_fill 2 = .ok (.putfield 15, 3) := by decide +kernel
theorem d_Ce_fill_5 : decode b_Ce_fill 5 = .ok (.aload_n 0, 1) := by decide +kernel
theorem d_Ce_fill_6 : decode b_Ce_fill 6 = .ok (.iload_n 2, 1) := by decide +kernel
theorem d_Ce_fill_7 : decode b_Ce_fill 7 = .ok (.putfield 19, 3) := by decide +kernel
theorem d_Ce_fill_10 : decode b_Ce_fill 10 = .ok (.iconst 0, 1) := by decide +kernel
theorem d_Ce_fill_11 : decode b_Ce_fill 11 = .ok (.istore_n 3, 1) := by decide +kernel
theorem d_Ce_fill_12 : decode b_Ce_fill 12 = .ok (.iload_n 3, 1) := by decide +kernel
theorem d_Ce_fill_13 : decode b_Ce_fill 13 = .ok (.iconst 4, 1) := by decide +kernel
theorem d_Ce_fill_14 : decode b_Ce_fill 14 = .ok (.if_icmp .ge 16, 3) := by decide +kernel
theorem d_Ce_fill_17 : decode b_Ce_fill 17 = .ok (.aload_n 0, 1) := by decide +kernel
theorem d_Ce_fill_18 : decode b_Ce_fill 18 = .ok (.getfield 9, 3) := by decide +kernel
theorem d_Ce_fill_21 : decode b_Ce_fill 21 = .ok (.iload_n 3, 1) := by decide +kernel
theorem d_Ce_fill_22 : decode b_Ce_fill 22 = .ok (.iconst (-1), 1) := by decide +kernel
theorem d_Ce_fill_23 : decode b_Ce_fill 23 = .ok (.iastore, 1) := by decide +kernel
theorem d_Ce_fill_24 : decode b_Ce_fill 24 = .ok (.iinc 3 1, 3) := by decide +kernel
theorem d_Ce_fill_27 : decode b_Ce_fill 27 = .ok (.goto (-15), 3) := by decide +kernel
theorem d_Ce_fill_30 : decode b_Ce_fill 30 = .ok (.return_, 1) := by decide +kernel
theorem d_Ro_init_0 : decode b_Ro_init 0 = .ok (.aload_n 0, 1) := by decide +kernel
theorem d_Ro_init_1 : decode b_Ro_init 1 = .ok (.invokespecial 3, 3) := by decide +kernel
theorem d_Ro_init_4 : decode b_Ro_init 4 = .ok (.aload_n 0, 1) := by decide +kernel
theorem d_Ro_init_5 : decode b_Ro_init 5 = .ok (.bipush 12, 2) := by decide +kernel
theorem d_Ro_init_7 : decode b_Ro_init 7 = .ok (.newarray .int, 2) := by decide +kernel
theorem d_Ro_init_9 : decode b_Ro_init 9 = .ok (.putfield 9, 3) := by decide +kernel
theorem d_Ro_init_12 : decode b_Ro_init 12 = .ok (.aload_n 0, 1) := by decide +kernel
theorem d_Ro_init_13 : decode b_Ro_init 13 = .ok (.bipush 12, 2) := by decide +kernel
theorem d_Ro_init_15 : decode b_Ro_init 15 = .ok (.newarray .int, 2) := by decide +kernel
theorem d_Ro_init_17 : decode b_Ro_init 17 = .ok (.putfield 15, 3) := by decide +kernel
theorem d_Ro_init_20 : decode b_Ro_init 20 = .ok (.aload_n 0, 1) := by decide +kernel
theorem d_Ro_init_21 : decode b_Ro_init 21 = .ok (.bipush 12, 2) := by decide +kernel
theorem d_Ro_init_23 : decode b_Ro_init 23 = .ok (.newarray .boolean, 2) := by decide +kernel
theorem d_Ro_init_25 : decode b_Ro_init 25 = .ok (.putfield 18, 3) := by decide +kernel
theorem d_Ro_init_28 : decode b_Ro_init 28 = .ok (.return_, 1) := by decide +kernel
theorem d_Ro_top_0 : decode b_Ro_top 0 = .ok (.aload_n 0, 1) := by decide +kernel
theorem d_Ro_top_1 : decode b_Ro_top 1 = .ok (.getfield 22, 3) := by decide +kernel
theorem d_Ro_top_4 : decode b_Ro_top 4 = .ok (.iconst 1, 1) := by decide +kernel
theorem d_Ro_top_5 : decode b_Ro_top 5 = .ok (.isub, 1) := by decide +kernel
theorem d_Ro_top_6 : decode b_Ro_top 6 = .ok (.ireturn, 1) := by decide +kernel
theorem d_Ro_isFull_0 : decode b_Ro_isFull 0 = .ok (.aload_n 0, 1) := by decide +kernel
theorem d_Ro_isFull_1 : decode b_Ro_isFull 1 = .ok (.getfield 22, 3) := by decide +kernel
theorem d_Ro_isFull_4 : decode b_Ro_isFull 4 = .ok (.bipush 12, 2) := by decide +kernel
theorem d_Ro_isFull_6 : decode b_Ro_isFull 6 = .ok (.if_icmp .lt 7, 3) := by decide +kernel
theorem d_Ro_isFull_9 : decode b_Ro_isFull 9 = .ok (.iconst 1, 1) := by decide +kernel
theorem d_Ro_isFull_10 : decode b_Ro_isFull 10 = .ok (.goto 4, 3) := by decide +kernel
theorem d_Ro_isFull_13 : decode b_Ro_isFull 13 = .ok (.iconst 0, 1) := by decide +kernel
theorem d_Ro_isFull_14 : decode b_Ro_isFull 14 = .ok (.ireturn, 1) := by decide +kernel
theorem d_Ro_currentArea_0 : decode b_Ro_currentArea 0 = .ok (.aload_n 0, 1) := by decide +kernel
theorem d_Ro_currentArea_1 : decode b_Ro_currentArea 1 = .ok (.getfield 9, 3) := by decide +kernel
theorem d_Ro_currentArea_4 : decode b_Ro_currentArea 4 = .ok (.aload_n 0, 1) := by decide +kernel
theorem d_Ro_currentArea_5 : decode b_Ro_currentArea 5 = .ok (.invokevirtual 26, 3) := by decide +kernel
theorem d_Ro_currentArea_8 : decode b_Ro_currentArea 8 = .ok (.iaload, 1) := by decide +kernel
theorem d_Ro_currentArea_9 : decode b_Ro_currentArea 9 = .ok (.ireturn, 1) := by decide +kernel
theorem d_Ro_topWasEntered_0 : decode b_Ro_topWasEntered 0 = .ok (.aload_n 0, 1) := by decide +kernel
theorem d_Ro_topWasEntered_1 : decode b_Ro_topWasEntered 1 = .ok (.getfield 18, 3) := by decide +kernel
theorem d_Ro_topWasEntered_4 : decode b_Ro_topWasEntered 4 = .ok (.aload_n 0, 1) := by decide +kernel
theorem d_Ro_topWasEntered_5 : decode b_Ro_topWasEntered 5 = .ok (.invokevirtual 26, 3) := by decide +kernel
theorem d_Ro_topWasEntered_8 : decode b_Ro_topWasEntered 8 = .ok (.baload, 1) := by decide +kernel
theorem d_Ro_topWasEntered_9 : decode b_Ro_topWasEntered 9 = .ok (.ireturn, 1) := by decide +kernel
theorem d_Ro_push_0 : decode b_Ro_push 0 = .ok (.aload_n 0, 1) := by decide +kernel
theorem d_Ro_push_1 : decode b_Ro_push 1 = .ok (.getfield 9, 3) := by decide +kernel
theorem d_Ro_push_4 : decode b_Ro_push 4 = .ok (.aload_n 0, 1) := by decide +kernel
theorem d_Ro_push_5 : decode b_Ro_push 5 = .ok (.getfield 22, 3) := by decide +kernel
theorem d_Ro_push_8 : decode b_Ro_push 8 = .ok (.iload_n 1, 1) := by decide +kernel
theorem d_Ro_push_9 : decode b_Ro_push 9 = .ok (.iastore, 1) := by decide +kernel
theorem d_Ro_push_10 : decode b_Ro_push 10 = .ok (.aload_n 0, 1) := by decide +kernel
theorem d_Ro_push_11 : decode b_Ro_push 11 = .ok (.getfield 15, 3) := by decide +kernel
theorem d_Ro_push_14 : decode b_Ro_push 14 = .ok (.aload_n 0, 1) := by decide +kernel
theorem d_Ro_push_15 : decode b_Ro_push 15 = .ok (.getfield 22, 3) := by decide +kernel
theorem d_Ro_push_18 : decode b_Ro_push 18 = .ok (.iload_n 2, 1) := by decide +kernel
theorem d_Ro_push_19 : decode b_Ro_push 19 = .ok (.iastore, 1) := by decide +kernel
theorem d_Ro_push_20 : decode b_Ro_push 20 = .ok (.aload_n 0, 1) := by decide +kernel
theorem d_Ro_push_21 : decode b_Ro_push 21 = .ok (.getfield 18, 3) := by decide +kernel
theorem d_Ro_push_24 : decode b_Ro_push 24 = .ok (.aload_n 0, 1) := by decide +kernel
theorem d_Ro_push_25 : decode b_Ro_push 25 = .ok (.getfield 22, 3) := by decide +kernel
theorem d_Ro_push_28 : decode b_Ro_push 28 = .ok (.iload_n 3, 1) := by decide +kernel
theorem d_Ro_push_29 : decode b_Ro_push 29 = .ok (.bastore, 1) := by decide +kernel
theorem d_Ro_push_30 : decode b_Ro_push 30 = .ok (.aload_n 0, 1) := by decide +kernel
theorem d_Ro_push_31 : decode b_Ro_push 31 = .ok (.dup, 1) := by decide +kernel
theorem d_Ro_push_32 : decode b_Ro_push 32 = .ok (.getfield 22, 3) := by decide +kernel
theorem d_Ro_push_35 : decode b_Ro_push 35 = .ok (.iconst 1, 1) := by decide +kernel
theorem d_Ro_push_36 : decode b_Ro_push 36 = .ok (.iadd, 1) := by decide +kernel
theorem d_Ro_push_37 : decode b_Ro_push 37 = .ok (.putfield 22, 3) := by decide +kernel
theorem d_Ro_push_40 : decode b_Ro_push 40 = .ok (.return_, 1) := by decide +kernel
theorem d_Ro_pop_0 : decode b_Ro_pop 0 = .ok (.aload_n 0, 1) := by decide +kernel
theorem d_Ro_pop_1 : decode b_Ro_pop 1 = .ok (.dup, 1) := by decide +kernel
theorem d_Ro_pop_2 : decode b_Ro_pop 2 = .ok (.getfield 22, 3) := by decide +kernel
theorem d_Ro_pop_5 : decode b_Ro_pop 5 = .ok (.iconst 1, 1) := by decide +kernel
theorem d_Ro_pop_6 : decode b_Ro_pop 6 = .ok (.isub, 1) := by decide +kernel
theorem d_Ro_pop_7 : decode b_Ro_pop 7 = .ok (.putfield 22, 3) := by decide +kernel
theorem d_Ro_pop_10 : decode b_Ro_pop 10 = .ok (.return_, 1) := by decide +kernel
theorem d_Ro_firstWith_0 : decode b_Ro_firstWith 0 = .ok (.aload_n 0, 1) := by decide +kernel
theorem d_Ro_firstWith_1 : decode b_Ro_firstWith 1 = .ok (.invokevirtual 26, 3) := by decide +kernel
theorem d_Ro_firstWith_4 : decode b_Ro_firstWith 4 = .ok (.istore_n 2, 1) := by decide +kernel
theorem d_Ro_firstWith_5 : decode b_Ro_firstWith 5 = .ok (.iconst 0, 1) := by decide +kernel
theorem d_Ro_firstWith_6 : decode b_Ro_firstWith 6 = .ok (.istore_n 3, 1) := by decide +kernel
theorem d_Ro_firstWith_7 : decode b_Ro_firstWith 7 = .ok (.iload_n 3, 1) := by decide +kernel
theorem d_Ro_firstWith_8 : decode b_Ro_firstWith 8 = .ok (.bipush 12, 2) := by decide +kernel
theorem d_Ro_firstWith_10 : decode b_Ro_firstWith 10 = .ok (.if_icmp .ge 33, 3) := by decide +kernel
theorem d_Ro_firstWith_13 : decode b_Ro_firstWith 13 = .ok (.iload_n 2, 1) := by decide +kernel
theorem d_Ro_firstWith_14 : decode b_Ro_firstWith 14 = .ok (.iconst (-1), 1) := by decide +kernel
theorem d_Ro_firstWith_15 : decode b_Ro_firstWith 15 = .ok (.if_icmp .eq 28, 3) := by decide +kernel
theorem d_Ro_firstWith_18 : decode b_Ro_firstWith 18 = .ok (.aload_n 0, 1) := by decide +kernel
theorem d_Ro_firstWith_19 : decode b_Ro_firstWith 19 = .ok (.getfield 9, 3) := by decide +kernel
theorem d_Ro_firstWith_22 : decode b_Ro_firstWith 22 = .ok (.iload_n 2, 1) := by decide +kernel
theorem d_Ro_firstWith_23 : decode b_Ro_firstWith 23 = .ok (.iaload, 1) := by decide +kernel
theorem d_Ro_firstWith_24 : decode b_Ro_firstWith 24 = .ok (.iload_n 1, 1) := by decide +kernel
theorem d_Ro_firstWith_25 : decode b_Ro_firstWith 25 = .ok (.if_icmp .ne 5, 3) := by decide +kernel
theorem d_Ro_firstWith_28 : decode b_Ro_firstWith 28 = .ok (.iload_n 2, 1) := by decide +kernel
theorem d_Ro_firstWith_29 : decode b_Ro_firstWith 29 = .ok (.ireturn, 1) := by decide +kernel
theorem d_Ro_firstWith_30 : decode b_Ro_firstWith 30 = .ok (.aload_n 0, 1) := by decide +kernel
theorem d_Ro_firstWith_31 : decode b_Ro_firstWith 31 = .ok (.getfield 15, 3) := by decide +kernel
theorem d_Ro_firstWith_34 : decode b_Ro_firstWith 34 = .ok (.iload_n 2, 1) := by decide +kernel
theorem d_Ro_firstWith_35 : decode b_Ro_firstWith 35 = .ok (.iaload, 1) := by decide +kernel
theorem d_Ro_firstWith_36 : decode b_Ro_firstWith 36 = .ok (.istore_n 2, 1) := by decide +kernel
theorem d_Ro_firstWith_37 : decode b_Ro_firstWith 37 = .ok (.iinc 3 1, 3) := by decide +kernel
theorem d_Ro_firstWith_40 : decode b_Ro_firstWith 40 = .ok (.goto (-33), 3) := by decide +kernel
theorem d_Ro_firstWith_43 : decode b_Ro_firstWith 43 = .ok (.iconst (-1), 1) := by decide +kernel
theorem d_Ro_firstWith_44 : decode b_Ro_firstWith 44 = .ok (.ireturn, 1) := by decide +kernel
theorem d_Ro_hasInView_0 : decode b_Ro_hasInView 0 = .ok (.aload_n 0, 1) := by decide +kernel
theorem d_Ro_hasInView_1 : decode b_Ro_hasInView 1 = .ok (.iload_n 1, 1) := by decide +kernel
theorem d_Ro_hasInView_2 : decode b_Ro_hasInView 2 = .ok (.invokevirtual 30, 3) := by decide +kernel
theorem d_Ro_hasInView_5 : decode b_Ro_hasInView 5 = .ok (.iconst (-1), 1) := by decide +kernel
theorem d_Ro_hasInView_6 : decode b_Ro_hasInView 6 = .ok (.if_icmp .eq 7, 3) := by decide +kernel
theorem d_Ro_hasInView_9 : decode b_Ro_hasInView 9 = .ok (.iconst 1, 1) := by decide +kernel
theorem d_Ro_hasInView_10 : decode b_Ro_hasInView 10 = .ok (.goto 4, 3) := by decide +kernel
theorem d_Ro_hasInView_13 : decode b_Ro_hasInView 13 = .ok (.iconst 0, 1) := by decide +kernel
theorem d_Ro_hasInView_14 : decode b_Ro_hasInView 14 = .ok (.ireturn, 1) := by decide +kernel
theorem d_Ro_underOfFirstWith_0 : decode b_Ro_underOfFirstWith 0 = .ok (.aload_n 0, 1) := by decide +kernel
theorem d_Ro_underOfFirstWith_1 : decode b_Ro_underOfFirstWith 1 = .ok (.iload_n 1, 1) := by decide +kernel
theorem d_Ro_underOfFirstWith_2 : decode b_Ro_underOfFirstWith 2 = .ok (.invokevirtual 30, 3) := by decide +kernel
theorem d_Ro_underOfFirstWith_5 : decode b_Ro_underOfFirstWith 5 = .ok (.istore_n 2, 1) := by decide +kernel
theorem d_Ro_underOfFirstWith_6 : decode b_Ro_underOfFirstWith 6 = .ok (.iload_n 2, 1) := by decide +kernel
theorem d_Ro_underOfFirstWith_7 : decode b_Ro_underOfFirstWith 7 = .ok (.iconst (-1), 1) := by decide +kernel
theorem d_Ro_underOfFirstWith_8 : decode b_Ro_underOfFirstWith 8 = .ok (.if_icmp .ne 7, 3) := by decide +kernel
theorem d_Ro_underOfFirstWith_11 : decode b_Ro_underOfFirstWith 11 = .ok (.iconst (-1), 1) := by decide +kernel
theorem d_Ro_underOfFirstWith_12 : decode b_Ro_underOfFirstWith 12 = .ok (.goto 9, 3) := by decide +kernel
theorem d_Ro_underOfFirstWith_15 : decode b_Ro_underOfFirstWith 15 = .ok (.aload_n 0, 1) := by decide +kernel
theorem d_Ro_underOfFirstWith_16 : decode b_Ro_underOfFirstWith 16 = .ok (.getfield 15, 3) := by decide +kernel
theorem d_Ro_underOfFirstWith_19 : decode b_Ro_underOfFirstWith 19 = .ok (.iload_n 2, 1) := by decide +kernel
theorem d_Ro_underOfFirstWith_20 : decode b_Ro_underOfFirstWith 20 = .ok (.iaload, 1) := by decide +kernel
theorem d_Ro_underOfFirstWith_21 : decode b_Ro_underOfFirstWith 21 = .ok (.ireturn, 1) := by decide +kernel
theorem d_Ro_nearestScope_0 : decode b_Ro_nearestScope 0 = .ok (.aload_n 0, 1) := by decide +kernel
theorem d_Ro_nearestScope_1 : decode b_Ro_nearestScope 1 = .ok (.invokevirtual 26, 3) := by decide +kernel
theorem d_Ro_nearestScope_4 : decode b_Ro_nearestScope 4 = .ok (.istore_n 1, 1) := by decide +kernel
theorem d_Ro_nearestScope_5 : decode b_Ro_nearestScope 5 = .ok (.iconst 0, 1) := by decide +kernel
theorem d_Ro_nearestScope_6 : decode b_Ro_nearestScope 6 = .ok (.istore_n 2, 1) := by decide +kernel
theorem d_Ro_nearestScope_7 : decode b_Ro_nearestScope 7 = .ok (.iload_n 2, 1) := by decide +kernel
theorem d_Ro_nearestScope_8 : decode b_Ro_nearestScope 8 = .ok (.bipush 12, 2) := by decide +kernel
theorem d_Ro_nearestScope_10 : decode b_Ro_nearestScope 10 = .ok (.if_icmp .ge 38, 3) := by decide +kernel
theorem d_Ro_nearestScope_13 : decode b_Ro_nearestScope 13 = .ok (.iload_n 1, 1) := by decide +kernel
theorem d_Ro_nearestScope_14 : decode b_Ro_nearestScope 14 = .ok (.iconst (-1), 1) := by decide +kernel
theorem d_Ro_nearestScope_15 : decode b_Ro_nearestScope 15 = .ok (.if_icmp .eq 33, 3) := by decide +kernel
theorem d_Ro_nearestScope_18 : decode b_Ro_nearestScope 18 = .ok (.aload_n 0, 1) := by decide +kernel
theorem d_Ro_nearestScope_19 : decode b_Ro_nearestScope 19 = .ok (.getfield 9, 3) := by decide +kernel
theorem d_Ro_nearestScope_22 : decode b_Ro_nearestScope 22 = .ok (.iload_n 1, 1) := by decide +kernel
theorem d_Ro_nearestScope_23 : decode b_Ro_nearestScope 23 = .ok (.iaload, 1) := by decide +kernel
theorem d_Ro_nearestScope_24 : decode b_Ro_nearestScope 24 = .ok (.iconst 2, 1) := by decide +kernel
theorem d_Ro_nearestScope_25 : decode b_Ro_nearestScope 25 = .ok (.if_icmp .lt 10, 3) := by decide +kernel
theorem d_Ro_nearestScope_28 : decode b_Ro_nearestScope 28 = .ok (.aload_n 0, 1) := by decide +kernel
theorem d_Ro_nearestScope_29 : decode b_Ro_nearestScope 29 = .ok (.getfield 9, 3) := by decide +kernel
theorem d_Ro_nearestScope_32 : decode b_Ro_nearestScope 32 = .ok (.iload_n 1, 1) := by decide +kernel
theorem d_Ro_nearestScope_33 : decode b_Ro_nearestScope 33 = .ok (.iaload, 1) := by decide +kernel
theorem d_Ro_nearestScope_34 : decode b_Ro_nearestScope 34 = .ok (.ireturn, 1) := by decide +kernel
theorem d_Ro_nearestScope_35 : decode b_Ro_nearestScope 35 = .ok (.aload_n 0, 1) := by decide +kernel
theorem d_Ro_nearestScope_36 : decode b_Ro_nearestScope 36 = .ok (.getfield 15, 3) := by decide +kernel
theorem d_Ro_nearestScope_39 : decode b_Ro_nearestScope 39 = .ok (.iload_n 1, 1) := by decide +kernel
theorem d_Ro_nearestScope_40 : decode b_Ro_nearestScope 40 = .ok (.iaload, 1) := by decide +kernel
theorem d_Ro_nearestScope_41 : decode b_Ro_nearestScope 41 = .ok (.istore_n 1, 1) := by decide +kernel
theorem d_Ro_nearestScope_42 : decode b_Ro_nearestScope 42 = .ok (.iinc 2 1, 3) := by decide +kernel
theorem d_Ro_nearestScope_45 : decode b_Ro_nearestScope 45 = .ok (.goto (-38), 3) := by decide +kernel
theorem d_Ro_nearestScope_48 : decode b_Ro_nearestScope 48 = .ok (.iconst 0, 1) := by decide +kernel
theorem d_Ro_nearestScope_49 : decode b_Ro_nearestScope 49 = .ok (.ireturn, 1) := by decide +kernel
theorem d_Ro_areaInView_0 : decode b_Ro_areaInView 0 = .ok (.aload_n 0, 1) := by decide +kernel
theorem d_Ro_areaInView_1 : decode b_Ro_areaInView 1 = .ok (.invokevirtual 26, 3) := by decide +kernel
theorem d_Ro_areaInView_4 : decode b_Ro_areaInView 4 = .ok (.istore_n 2, 1) := by decide +kernel
theorem d_Ro_areaInView_5 : decode b_Ro_areaInView 5 = .ok (.iconst 0, 1) := by decide +kernel
theorem d_Ro_areaInView_6 : decode b_Ro_areaInView 6 = .ok (.istore_n 3, 1) := by decide +kernel
theorem d_Ro_areaInView_7 : decode b_Ro_areaInView 7 = .ok (.iload_n 3, 1) := by decide +kernel
theorem d_Ro_areaInView_8 : decode b_Ro_areaInView 8 = .ok (.iload_n 1, 1) := by decide +kernel
theorem d_Ro_areaInView_9 : decode b_Ro_areaInView 9 = .ok (.if_icmp .ge 27, 3) := by decide +kernel
theorem d_Ro_areaInView_12 : decode b_Ro_areaInView 12 = .ok (.iload_n 3, 1) := by decide +kernel
theorem d_Ro_areaInView_13 : decode b_Ro_areaInView 13 = .ok (.bipush 12, 2) := by decide +kernel
theorem d_Ro_areaInView_15 : decode b_Ro_areaInView 15 = .ok (.if_icmp .ge 21, 3) := by decide +kernel
theorem d_Ro_areaInView_18 : decode b_Ro_areaInView 18 = .ok (.iload_n 2, 1) := by decide +kernel
theorem d_Ro_areaInView_19 : decode b_Ro_areaInView 19 = .ok (.iconst (-1), 1) := by decide +kernel
theorem d_Ro_areaInView_20 : decode b_Ro_areaInView 20 = .ok (.if_icmp .eq 16, 3) := by decide +kernel
theorem d_Ro_areaInView_23 : decode b_Ro_areaInView 23 = .ok (.aload_n 0, 1) := by decide +kernel
theorem d_Ro_areaInView_24 : decode b_Ro_areaInView 24 = .ok (.getfield 15, 3) := by decide +kernel
theorem d_Ro_areaInView_27 : decode b_Ro_areaInView 27 = .ok (.iload_n 2, 1) := by decide +kernel
theorem d_Ro_areaInView_28 : decode b_Ro_areaInView 28 = .ok (.iaload, 1) := by decide +kernel
theorem d_Ro_areaInView_29 : decode b_Ro_areaInView 29 = .ok (.istore_n 2, 1) := by decide +kernel
theorem d_Ro_areaInView_30 : decode b_Ro_areaInView 30 = .ok (.iinc 3 1, 3) := by decide +kernel
theorem d_Ro_areaInView_33 : decode b_Ro_areaInView 33 = .ok (.goto (-26), 3) := by decide +kernel
theorem d_Ro_areaInView_36 : decode b_Ro_areaInView 36 = .ok (.iload_n 2, 1) := by decide +kernel
theorem d_Ro_areaInView_37 : decode b_Ro_areaInView 37 = .ok (.iconst (-1), 1) := by decide +kernel
theorem d_Ro_areaInView_38 : decode b_Ro_areaInView 38 = .ok (.if_icmp .ne 7, 3) := by decide +kernel
theorem d_Ro_areaInView_41 : decode b_Ro_areaInView 41 = .ok (.iconst (-1), 1) := by decide +kernel
theorem d_Ro_areaInView_42 : decode b_Ro_areaInView 42 = .ok (.goto 9, 3) := by decide +kernel
theorem d_Ro_areaInView_45 : decode b_Ro_areaInView 45 = .ok (.aload_n 0, 1) := by decide +kernel
theorem d_Ro_areaInView_46 : decode b_Ro_areaInView 46 = .ok (.getfield 9, 3) := by decide +kernel
theorem d_Ro_areaInView_49 : decode b_Ro_areaInView 49 = .ok (.iload_n 2, 1) := by decide +kernel
theorem d_Ro_areaInView_50 : decode b_Ro_areaInView 50 = .ok (.iaload, 1) := by decide +kernel
theorem d_Ro_areaInView_51 : decode b_Ro_areaInView 51 = .ok (.ireturn, 1) := by decide +kernel
