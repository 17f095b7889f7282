theorem d_MM_init_0 : decode b_MM_init 0 = .ok (.aload_n 0, 1) := by decide +kernel
theorem d_MM_init_1 : decode b_MM_init 1 = .ok (.invokespecial 1, 3) := by decide +kernel
theorem d_MM_init_4 : decode b_MM_init 4 = .ok (.aload_n 0, 1) := by decide +kernel
theorem d_MM_init_5 : decode b_MM_init 5 = .ok (.iconst 2, 1) := by decide +kernel
theorem d_MM_init_6 : decode b_MM_init 6 = .ok (.putfield 7, 3) := by decide +kernel
theorem d_MM_init_9 : decode b_MM_init 9 = .ok (.aload_n 0, 1) := by decide +kernel
theorem d_MM_init_10 : decode b_MM_init 10 = .ok (.bipush 10, 2) := by decide +kernel
theorem d_MM_init_12 : decode b_MM_init 12 = .ok (.newarray .int, 2) := by decide +kernel
theorem d_MM_init_14 : decode b_MM_init 14 = .ok (.putfield 13, 3) := by decide +kernel
theorem d_MM_init_17 : decode b_MM_init 17 = .ok (.aload_n 0, 1) := by decide +kernel
theorem d_MM_init_18 : decode b_MM_init 18 = .ok (.bipush 10, 2) := by decide +kernel
theorem d_MM_init_20 : decode b_MM_init 20 = .ok (.newarray .int, 2) := by decide +kernel
theorem d_MM_init_22 : decode b_MM_init 22 = .ok (.putfield 17, 3) := by decide +kernel
theorem d_MM_init_25 : decode b_MM_init 25 = .ok (.aload_n 0, 1) := by decide +kernel
theorem d_MM_init_26 : decode b_MM_init 26 = .ok (.bipush 10, 2) := by decide +kernel
theorem d_MM_init_28 : decode b_MM_init 28 = .ok (.newarray .int, 2) := by decide +kernel
theorem d_MM_init_30 : decode b_MM_init 30 = .ok (.putfield 20, 3) := by decide +kernel
theorem d_MM_init_33 : decode b_MM_init 33 = .ok (.aload_n 0, 1) := by decide +kernel
theorem d_MM_init_34 : decode b_MM_init 34 = .ok (.bipush 10, 2) := by decide +kernel
theorem d_MM_init_36 : decode b_MM_init 36 = .ok (.newarray .int, 2) := by decide +kernel
theorem d_MM_init_38 : decode b_MM_init 38 = .ok (.putfield 23, 3) := by decide +kernel
theorem d_MM_init_41 : decode b_MM_init 41 = .ok (.aload_n 0, 1) := by decide +kernel
theorem d_MM_init_42 : decode b_MM_init 42 = .ok (.bipush 40, 2) := by decide +kernel
theorem d_MM_init_44 : decode b_MM_init 44 = .ok (.newarray .int, 2) := by decide +kernel
theorem d_MM_init_46 : decode b_MM_init 46 = .ok (.putfield 26, 3) := by decide +kernel
theorem d_MM_init_49 : decode b_MM_init 49 = .ok (.aload_n 0, 1) := by decide +kernel
theorem d_MM_init_50 : decode b_MM_init 50 = .ok (.bipush 40, 2) := by decide +kernel
theorem d_MM_init_52 : decode b_MM_init 52 = .ok (.newarray .int, 2) := by decide +kernel
theorem d_MM_init_54 : decode b_MM_init 54 = .ok (.putfield 29, 3) := by decide +kernel
theorem d_MM_init_57 : decode b_MM_init 57 = .ok (.aload_n 0, 1) := by decide +kernel
theorem d_MM_init_58 : decode b_MM_init 58 = .ok (.sipush 160, 3) := by decide +kernel
theorem d_MM_init_61 : decode b_MM_init 61 = .ok (.newarray .int, 2) := by decide +kernel
theorem d_MM_init_63 : decode b_MM_init 63 = .ok (.putfield 32, 3) := by decide +kernel
theorem d_MM_init_66 : decode b_MM_init 66 = .ok (.aload_n 0, 1) := by decide +kernel
theorem d_MM_init_67 : decode b_MM_init 67 = .ok (.bipush 40, 2) := by decide +kernel
theorem d_MM_init_69 : decode b_MM_init 69 = .ok (.newarray .boolean, 2) := by decide +kernel
theorem d_MM_init_71 : decode b_MM_init 71 = .ok (.putfield 35, 3) := by decide +kernel
theorem d_MM_init_74 : decode b_MM_init 74 = .ok (.aload_n 0, 1) := by decide +kernel
theorem d_MM_init_75 : decode b_MM_init 75 = .ok (.iconst 4, 1) := by decide +kernel
theorem d_MM_init_76 : decode b_MM_init 76 = .ok (.newarray .boolean, 2) := by decide +kernel
theorem d_MM_init_78 : decode b_MM_init 78 = .ok (.putfield 39, 3) := by decide +kernel
theorem d_MM_init_81 : decode b_MM_init 81 = .ok (.aload_n 0, 1) := by decide +kernel
theorem d_MM_init_82 : decode b_MM_init 82 = .ok (.iconst 4, 1) := by decide +kernel
theorem d_MM_init_83 : decode b_MM_init 83 = .ok (.newarray .boolean, 2) := by decide +kernel
theorem d_MM_init_85 : decode b_MM_init 85 = .ok (.putfield 42, 3) := by decide +kernel
theorem d_MM_init_88 : decode b_MM_init 88 = .ok (.aload_n 0, 1) := by decide +kernel
theorem d_MM_init_89 : decode b_MM_init 89 = .ok (.iconst 4, 1) := by decide +kernel
theorem d_MM_init_90 : decode b_MM_init 90 = .ok (.newarray .int, 2) := by decide +kernel
theorem d_MM_init_92 : decode b_MM_init 92 = .ok (.putfield 45, 3) := by decide +kernel
theorem d_MM_init_95 : decode b_MM_init 95 = .ok (.aload_n 0, 1) := by decide +kernel
theorem d_MM_init_96 : decode b_MM_init 96 = .ok (.bipush 48, 2) := by decide +kernel
theorem d_MM_init_98 : decode b_MM_init 98 = .ok (.newarray .int, 2) := by decide +kernel
theorem d_MM_init_100 : decode b_MM_init 100 = .ok (.putfield 48, 3) := by decide +kernel
theorem d_MM_init_103 : decode b_MM_init 103 = .ok (.aload_n 0, 1) := by decide +kernel
theorem d_MM_init_104 : decode b_MM_init 104 = .ok (.bipush 48, 2) := by decide +kernel
theorem d_MM_init_106 : decode b_MM_init 106 = .ok (.newarray .int, 2) := by decide +kernel
theorem d_MM_init_108 : decode b_MM_init 108 = .ok (.putfield 51, 3) := by decide +kernel
theorem d_MM_init_111 : decode b_MM_init 111 = .ok (.aload_n 0, 1) := by decide +kernel
theorem d_MM_init_112 : decode b_MM_init 112 = .ok (.bipush 48, 2) := by decide +kernel
theorem d_MM_init_114 : decode b_MM_init 114 = .ok (.newarray .boolean, 2) := by decide +kernel
theorem d_MM_init_116 : decode b_MM_init 116 = .ok (.putfield 54, 3) := by decide +kernel
theorem d_MM_init_119 : decode b_MM_init 119 = .ok (.aload_n 0, 1) := by decide +kernel
theorem d_MM_init_120 : decode b_MM_init 120 = .ok (.iconst 4, 1) := by decide +kernel
theorem d_MM_init_121 : decode b_MM_init 121 = .ok (.newarray .int, 2) := by decide +kernel
theorem d_MM_init_123 : decode b_MM_init 123 = .ok (.putfield 57, 3) := by decide +kernel
theorem d_MM_init_126 : decode b_MM_init 126 = .ok (.aload_n 0, 1) := by decide +kernel
theorem d_MM_init_127 : decode b_MM_init 127 = .ok (.getfield 13, 3) := by decide +kernel
theorem d_MM_init_130 : decode b_MM_init 130 = .ok (.iconst 0, 1) := by decide +kernel
theorem d_MM_init_131 : decode b_MM_init 131 = .ok (.aload_n 0, 1) := by decide +kernel
theorem d_MM_init_132 : decode b_MM_init 132 = .ok (.iload_n 1, 1) := by decide +kernel
theorem d_MM_init_133 : decode b_MM_init 133 = .ok (.invokevirtual 60, 3) := by decide +kernel
theorem d_MM_init_136 : decode b_MM_init 136 = .ok (.iastore, 1) := by decide +kernel
theorem d_MM_init_137 : decode b_MM_init 137 = .ok (.aload_n 0, 1) := by decide +kernel
theorem d_MM_init_138 : decode b_MM_init 138 = .ok (.getfield 13, 3) := by decide +kernel
theorem d_MM_init_141 : decode b_MM_init 141 = .ok (.iconst 1, 1) := by decide +kernel
theorem d_MM_init_142 : decode b_MM_init 142 = .ok (.aload_n 0, 1) := by decide +kernel
theorem d_MM_init_143 : decode b_MM_init 143 = .ok (.iload_n 2, 1) := by decide +kernel
theorem d_MM_init_144 : decode b_MM_init 144 = .ok (.invokevirtual 60, 3) := by decide +kernel
theorem d_MM_init_147 : decode b_MM_init 147 = .ok (.iastore, 1) := by decide +kernel
theorem d_MM_init_148 : decode b_MM_init 148 = .ok (.iconst 0, 1) := by decide +kernel
theorem d_MM_init_149 : decode b_MM_init 149 = .ok (.istore_n 3, 1) := by decide +kernel
theorem d_MM_init_150 : decode b_MM_init 150 = .ok (.iload_n 3, 1) := by decide +kernel
theorem d_MM_init_151 : decode b_MM_init 151 = .ok (.bipush 40, 2) := by decide +kernel
theorem d_MM_init_153 : decode b_MM_init 153 = .ok (.if_icmp .ge 16, 3) := by decide +kernel
theorem d_MM_init_156 : decode b_MM_init 156 = .ok (.aload_n 0, 1) := by decide +kernel
theorem d_MM_init_157 : decode b_MM_init 157 = .ok (.getfield 26, 3) := by decide +kernel
theorem d_MM_init_160 : decode b_MM_init 160 = .ok (.iload_n 3, 1) := by decide +kernel
theorem d_MM_init_161 : decode b_MM_init 161 = .ok (.iconst (-1), 1) := by decide +kernel
theorem d_MM_init_162 : decode b_MM_init 162 = .ok (.iastore, 1) := by decide +kernel
theorem d_MM_init_163 : decode b_MM_init 163 = .ok (.iinc 3 1, 3) := by decide +kernel
theorem d_MM_init_166 : decode b_MM_init 166 = .ok (.goto (-16), 3) := by decide +kernel
theorem d_MM_init_169 : decode b_MM_init 169 = .ok (.iconst 0, 1) := by decide +kernel
theorem d_MM_init_170 : decode b_MM_init 170 = .ok (.istore_n 3, 1) := by decide +kernel
theorem d_MM_init_171 : decode b_MM_init 171 = .ok (.iload_n 3, 1) := by decide +kernel
theorem d_MM_init_172 : decode b_MM_init 172 = .ok (.bipush 10, 2) := by decide +kernel
theorem d_MM_init_174 : decode b_MM_init 174 = .ok (.if_icmp .ge 16, 3) := by decide +kernel
theorem d_MM_init_177 : decode b_MM_init 177 = .ok (.aload_n 0, 1) := by decide +kernel
theorem d_MM_init_178 : decode b_MM_init 178 = .ok (.getfield 23, 3) := by decide +kernel
theorem d_MM_init_181 : decode b_MM_init 181 = .ok (.iload_n 3, 1) := by decide +kernel
theorem d_MM_init_182 : decode b_MM_init 182 = .ok (.iconst (-1), 1) := by decide +kernel
theorem d_MM_init_183 : decode b_MM_init 183 = .ok (.iastore, 1) := by decide +kernel
theorem d_MM_init_184 : decode b_MM_init 184 = .ok (.iinc 3 1, 3) := by decide +kernel
theorem d_MM_init_187 : decode b_MM_init 187 = .ok (.goto (-16), 3) := by decide +kernel
theorem d_MM_init_190 : decode b_MM_init 190 = .ok (.iconst 0, 1) := by decide +kernel
theorem d_MM_init_191 : decode b_MM_init 191 = .ok (.istore_n 3, 1) := by decide +kernel
theorem d_MM_init_192 : decode b_MM_init 192 = .ok (.iload_n 3, 1) := by decide +kernel
theorem d_MM_init_193 : decode b_MM_init 193 = .ok (.iconst 4, 1) := by decide +kernel
theorem d_MM_init_194 : decode b_MM_init 194 = .ok (.if_icmp .ge 16, 3) := by decide +kernel
theorem d_MM_init_197 : decode b_MM_init 197 = .ok (.aload_n 0, 1) := by decide +kernel
theorem d_MM_init_198 : decode b_MM_init 198 = .ok (.getfield 57, 3) := by decide +kernel
theorem d_MM_init_201 : decode b_MM_init 201 = .ok (.iload_n 3, 1) := by decide +kernel
theorem d_MM_init_202 : decode b_MM_init 202 = .ok (.iconst (-1), 1) := by decide +kernel
theorem d_MM_init_203 : decode b_MM_init 203 = .ok (.iastore, 1) := by decide +kernel
theorem d_MM_init_204 : decode b_MM_init 204 = .ok (.iinc 3 1, 3) := by decide +kernel
theorem d_MM_init_207 : decode b_MM_init 207 = .ok (.goto (-15), 3) := by decide +kernel
theorem d_MM_init_210 : decode b_MM_init 210 = .ok (.return_, 1) := by decide +kernel
theorem d_MM_clamp_0 : decode b_MM_clamp 0 = .ok (.iload_n 1, 1) := by decide +kernel
theorem d_MM_clamp_1 : decode b_MM_clamp 1 = .ok (.iconst 4, 1) := by decide +kernel
theorem d_MM_clamp_2 : decode b_MM_clamp 2 = .ok (.if_icmp .ge 7, 3) := by decide +kernel
theorem d_MM_clamp_5 : decode b_MM_clamp 5 = .ok (.iconst 4, 1) := by decide +kernel
theorem d_MM_clamp_6 : decode b_MM_clamp 6 = .ok (.goto 15, 3) := by decide +kernel
theorem d_MM_clamp_9 : decode b_MM_clamp 9 = .ok (.iload_n 1, 1) := by decide +kernel
theorem d_MM_clamp_10 : decode b_MM_clamp 10 = .ok (.bipush 60, 2) := by decide +kernel
theorem d_MM_clamp_12 : decode b_MM_clamp 12 = .ok (.if_icmp .le 8, 3) := by decide +kernel
theorem d_MM_clamp_15 : decode b_MM_clamp 15 = .ok (.bipush 60, 2) := by decide +kernel
theorem d_MM_clamp_17 : decode b_MM_clamp 17 = .ok (.goto 4, 3) := by decide +kernel
theorem d_MM_clamp_20 : decode b_MM_clamp 20 = .ok (.iload_n 1, 1) := by decide +kernel
theorem d_MM_clamp_21 : decode b_MM_clamp 21 = .ok (.ireturn, 1) := by decide +kernel
theorem d_MM_idle_0 : decode b_MM_idle 0 = .ok (.iload_n 1, 1) := by decide +kernel
theorem d_MM_idle_1 : decode b_MM_idle 1 = .ok (.ifCond .lt 17, 3) := by decide +kernel
theorem d_MM_idle_4 : decode b_MM_idle 4 = .ok (.iload_n 1, 1) := by decide +kernel
theorem d_MM_idle_5 : decode b_MM_idle 5 = .ok (.iconst 3, 1) := by decide +kernel
theorem d_MM_idle_6 : decode b_MM_idle 6 = .ok (.if_icmp .gt 12, 3) := by decide +kernel
theorem d_MM_idle_9 : decode b_MM_idle 9 = .ok (.aload_n 0, 1) := by decide +kernel
theorem d_MM_idle_10 : decode b_MM_idle 10 = .ok (.getfield 39, 3) := by decide +kernel
theorem d_MM_idle_13 : decode b_MM_idle 13 = .ok (.iload_n 1, 1) := by decide +kernel
theorem d_MM_idle_14 : decode b_MM_idle 14 = .ok (.baload, 1) := by decide +kernel
theorem d_MM_idle_15 : decode b_MM_idle 15 = .ok (.ifCond .ne 7, 3) := by decide +kernel
theorem d_MM_idle_18 : decode b_MM_idle 18 = .ok (.iconst 1, 1) := by decide +kernel
theorem d_MM_idle_19 : decode b_MM_idle 19 = .ok (.goto 4, 3) := by decide +kernel
theorem d_MM_idle_22 : decode b_MM_idle 22 = .ok (.iconst 0, 1) := by decide +kernel
theorem d_MM_idle_23 : decode b_MM_idle 23 = .ok (.ireturn, 1) := by decide +kernel
theorem d_MM_noArea_0 : decode b_MM_noArea 0 = .ok (.iload_n 1, 1) := by decide +kernel
theorem d_MM_noArea_1 : decode b_MM_noArea 1 = .ok (.ifCond .lt 11, 3) := by decide +kernel
theorem d_MM_noArea_4 : decode b_MM_noArea 4 = .ok (.iload_n 1, 1) := by decide +kernel
theorem d_MM_noArea_5 : decode b_MM_noArea 5 = .ok (.aload_n 0, 1) := by decide +kernel
theorem d_MM_noArea_6 : decode b_MM_noArea 6 = .ok (.getfield 7, 3) := by decide +kernel
theorem d_MM_noArea_9 : decode b_MM_noArea 9 = .ok (.if_icmp .lt 7, 3) := by decide +kernel
theorem d_MM_noArea_12 : decode b_MM_noArea 12 = .ok (.iconst 1, 1) := by decide +kernel
theorem d_MM_noArea_13 : decode b_MM_noArea 13 = .ok (.goto 4, 3) := by decide +kernel
theorem d_MM_noArea_16 : decode b_MM_noArea 16 = .ok (.iconst 0, 1) := by decide +kernel
theorem d_MM_noArea_17 : decode b_MM_noArea 17 = .ok (.ireturn, 1) := by decide +kernel
theorem d_MM_noScope_0 : decode b_MM_noScope 0 = .ok (.iload_n 1, 1) := by decide +kernel
theorem d_MM_noScope_1 : decode b_MM_noScope 1 = .ok (.iconst 2, 1) := by decide +kernel
theorem d_MM_noScope_2 : decode b_MM_noScope 2 = .ok (.if_icmp .lt 11, 3) := by decide +kernel
theorem d_MM_noScope_5 : decode b_MM_noScope 5 = .ok (.iload_n 1, 1) := by decide +kernel
theorem d_MM_noScope_6 : decode b_MM_noScope 6 = .ok (.aload_n 0, 1) := by decide +kernel
theorem d_MM_noScope_7 : decode b_MM_noScope 7 = .ok (.getfield 7, 3) := by decide +kernel
theorem d_MM_noScope_10 : decode b_MM_noScope 10 = .ok (.if_icmp .lt 7, 3) := by decide +kernel
theorem d_MM_noScope_13 : decode b_MM_noScope 13 = .ok (.iconst 1, 1) := by decide +kernel
theorem d_MM_noScope_14 : decode b_MM_noScope 14 = .ok (.goto 4, 3) := by decide +kernel
theorem d_MM_noScope_17 : decode b_MM_noScope 17 = .ok (.iconst 0, 1) := by decide +kernel
theorem d_MM_noScope_18 : decode b_MM_noScope 18 = .ok (.ireturn, 1) := by decide +kernel
theorem d_MM_noObject_0 : decode b_MM_noObject 0 = .ok (.iload_n 1, 1) := by decide +kernel
theorem d_MM_noObject_1 : decode b_MM_noObject 1 = .ok (.ifCond .lt 18, 3) := by decide +kernel
theorem d_MM_noObject_4 : decode b_MM_noObject 4 = .ok (.iload_n 1, 1) := by decide +kernel
theorem d_MM_noObject_5 : decode b_MM_noObject 5 = .ok (.bipush 39, 2) := by decide +kernel
theorem d_MM_noObject_7 : decode b_MM_noObject 7 = .ok (.if_icmp .gt 12, 3) := by decide +kernel
theorem d_MM_noObject_10 : decode b_MM_noObject 10 = .ok (.aload_n 0, 1) := by decide +kernel
theorem d_MM_noObject_11 : decode b_MM_noObject 11 = .ok (.getfield 26, 3) := by decide +kernel
theorem d_MM_noObject_14 : decode b_MM_noObject 14 = .ok (.iload_n 1, 1) := by decide +kernel
theorem d_MM_noObject_15 : decode b_MM_noObject 15 = .ok (.iaload, 1) := by decide +kernel
theorem d_MM_noObject_16 : decode b_MM_noObject 16 = .ok (.ifCond .ge 7, 3) := by decide +kernel
theorem d_MM_noObject_19 : decode b_MM_noObject 19 = .ok (.iconst 1, 1) := by decide +kernel
theorem d_MM_noObject_20 : decode b_MM_noObject 20 = .ok (.goto 4, 3) := by decide +kernel
theorem d_MM_noObject_23 : decode b_MM_noObject 23 = .ok (.iconst 0, 1) := by decide +kernel
theorem d_MM_noObject_24 : decode b_MM_noObject 24 = .ok (.ireturn, 1) := by decide +kernel
theorem d_MM_used_0 : decode b_MM_used 0 = .ok (.iconst 0, 1) := by decide +kernel
theorem d_MM_used_1 : decode b_MM_used 1 = .ok (.istore_n 2, 1) := by decide +kernel
theorem d_MM_used_2 : decode b_MM_used 2 = .ok (.iconst 0, 1) := by decide +kernel
theorem d_MM_used_3 : decode b_MM_used 3 = .ok (.istore_n 3, 1) := by decide +kernel
theorem d_MM_used_4 : decode b_MM_used 4 = .ok (.iload_n 3, 1) := by decide +kernel
theorem d_MM_used_5 : decode b_MM_used 5 = .ok (.bipush 40, 2) := by decide +kernel
theorem d_MM_used_7 : decode b_MM_used 7 = .ok (.if_icmp .ge 30, 3) := by decide +kernel
theorem d_MM_used_10 : decode b_MM_used 10 = .ok (.aload_n 0, 1) := by decide +kernel
theorem d_MM_used_11 : decode b_MM_used 11 = .ok (.getfield 26, 3) := by decide +kernel
theorem d_MM_used_14 : decode b_MM_used 14 = .ok (.iload_n 3, 1) := by decide +kernel
theorem d_MM_used_15 : decode b_MM_used 15 = .ok (.iaload, 1) := by decide +kernel
theorem d_MM_used_16 : decode b_MM_used 16 = .ok (.iload_n 1, 1) := by decide +kernel
theorem d_MM_used_17 : decode b_MM_used 17 = .ok (.if_icmp .ne 14, 3) := by decide +kernel
theorem d_MM_used_20 : decode b_MM_used 20 = .ok (.iload_n 2, 1) := by decide +kernel
theorem d_MM_used_21 : decode b_MM_used 21 = .ok (.iconst 1, 1) := by decide +kernel
theorem d_MM_used_22 : decode b_MM_used 22 = .ok (.aload_n 0, 1) := by decide +kernel
theorem d_MM_used_23 : decode b_MM_used 23 = .ok (.getfield 29, 3) := by decide +kernel
theorem d_MM_used_26 : decode b_MM_used 26 = .ok (.iload_n 3, 1) := by decide +kernel
theorem d_MM_used_27 : decode b_MM_used 27 = .ok (.iaload, 1) := by decide +kernel
theorem d_MM_used_28 : decode b_MM_used 28 = .ok (.iadd, 1) := by decide +kernel
theorem d_MM_used_29 : decode b_MM_used 29 = .ok (.iadd, 1) := by decide +kernel
theorem d_MM_used_30 : decode b_MM_used 30 = .ok (.istore_n 2, 1) := by decide +kernel
theorem d_MM_used_31 : decode b_MM_used 31 = .ok (.iinc 3 1, 3) := by decide +kernel
theorem d_MM_used_34 : decode b_MM_used 34 = .ok (.goto (-30), 3) := by decide +kernel
theorem d_MM_used_37 : decode b_MM_used 37 = .ok (.iload_n 2, 1) := by decide +kernel
theorem d_MM_used_38 : decode b_MM_used 38 = .ok (.ireturn, 1) := by decide +kernel
theorem d_MM_scope_0 : decode b_MM_scope 0 = .ok (.iload_n 1, 1) := by decide +kernel
theorem d_MM_scope_1 : decode b_MM_scope 1 = .ok (.iconst 1, 1) := by decide +kernel
theorem d_MM_scope_2 : decode b_MM_scope 2 = .ok (.if_icmp .lt 9, 3) := by decide +kernel
theorem d_MM_scope_5 : decode b_MM_scope 5 = .ok (.iload_n 1, 1) := by decide +kernel
theorem d_MM_scope_6 : decode b_MM_scope 6 = .ok (.bipush 40, 2) := by decide +kernel
theorem d_MM_scope_8 : decode b_MM_scope 8 = .ok (.if_icmp .le 5, 3) := by decide +kernel
theorem d_MM_scope_11 : decode b_MM_scope 11 = .ok (.iconst (-1), 1) := by decide +kernel
theorem d_MM_scope_12 : decode b_MM_scope 12 = .ok (.ireturn, 1) := by decide +kernel
theorem d_MM_scope_13 : decode b_MM_scope 13 = .ok (.aload_n 0, 1) := by decide +kernel
theorem d_MM_scope_14 : decode b_MM_scope 14 = .ok (.getfield 7, 3) := by decide +kernel
theorem d_MM_scope_17 : decode b_MM_scope 17 = .ok (.bipush 10, 2) := by decide +kernel
theorem d_MM_scope_19 : decode b_MM_scope 19 = .ok (.if_icmp .ne 6, 3) := by decide +kernel
theorem d_MM_scope_22 : decode b_MM_scope 22 = .ok (.bipush (-2), 2) := by decide +kernel
theorem d_MM_scope_24 : decode b_MM_scope 24 = .ok (.ireturn, 1) := by decide +kernel
theorem d_MM_scope_25 : decode b_MM_scope 25 = .ok (.aload_n 0, 1) := by decide +kernel
theorem d_MM_scope_26 : decode b_MM_scope 26 = .ok (.getfield 13, 3) := by decide +kernel
theorem d_MM_scope_29 : decode b_MM_scope 29 = .ok (.aload_n 0, 1) := by decide +kernel
theorem d_MM_scope_30 : decode b_MM_scope 30 = .ok (.getfield 7, 3) := by decide +kernel
theorem d_MM_scope_33 : decode b_MM_scope 33 = .ok (.iload_n 1, 1) := by decide +kernel
theorem d_MM_scope_34 : decode b_MM_scope 34 = .ok (.iastore, 1) := by decide +kernel
theorem d_MM_scope_35 : decode b_MM_scope 35 = .ok (.aload_n 0, 1) := by decide +kernel
theorem d_MM_scope_36 : decode b_MM_scope 36 = .ok (.dup, 1) := by decide +kernel
theorem d_MM_scope_37 : decode b_MM_scope 37 = .ok (.getfield 7, 3) := by decide +kernel
theorem d_MM_scope_40 : decode b_MM_scope 40 = .ok (.iconst 1, 1) := by decide +kernel
theorem d_MM_scope_41 : decode b_MM_scope 41 = .ok (.iadd, 1) := by decide +kernel
theorem d_MM_scope_42 : decode b_MM_scope 42 = .ok (.putfield 7, 3) := by decide +kernel
theorem d_MM_scope_45 : decode b_MM_scope 45 = .ok (.aload_n 0, 1) := by decide +kernel
theorem d_MM_scope_46 : decode b_MM_scope 46 = .ok (.getfield 7, 3) := by decide +kernel
theorem d_MM_scope_49 : decode b_MM_scope 49 = .ok (.iconst 1, 1) := by decide +kernel
theorem d_MM_scope_50 : decode b_MM_scope 50 = .ok (.isub, 1) := by decide +kernel
theorem d_MM_scope_51 : decode b_MM_scope 51 = .ok (.ireturn, 1) := by decide +kernel
theorem d_MM_begin_0 : decode b_MM_begin 0 = .ok (.iload_n 1, 1) := by decide +kernel
theorem d_MM_begin_1 : decode b_MM_begin 1 = .ok (.ifCond .lt 17, 3) := by decide +kernel
theorem d_MM_begin_4 : decode b_MM_begin 4 = .ok (.iload_n 1, 1) := by decide +kernel
theorem d_MM_begin_5 : decode b_MM_begin 5 = .ok (.iconst 3, 1) := by decide +kernel
theorem d_MM_begin_6 : decode b_MM_begin 6 = .ok (.if_icmp .gt 12, 3) := by decide +kernel
theorem d_MM_begin_9 : decode b_MM_begin 9 = .ok (.aload_n 0, 1) := by decide +kernel
theorem d_MM_begin_10 : decode b_MM_begin 10 = .ok (.getfield 39, 3) := by decide +kernel
theorem d_MM_begin_13 : decode b_MM_begin 13 = .ok (.iload_n 1, 1) := by decide +kernel
theorem d_MM_begin_14 : decode b_MM_begin 14 = .ok (.baload, 1) := by decide +kernel
theorem d_MM_begin_15 : decode b_MM_begin 15 = .ok (.ifCond .eq 5, 3) := by decide +kernel
theorem d_MM_begin_18 : decode b_MM_begin 18 = .ok (.iconst (-1), 1) := by decide +kernel
theorem d_MM_begin_19 : decode b_MM_begin 19 = .ok (.ireturn, 1) := by decide +kernel
theorem d_MM_begin_20 : decode b_MM_begin 20 = .ok (.aload_n 0, 1) := by decide +kernel
theorem d_MM_begin_21 : decode b_MM_begin 21 = .ok (.getfield 39, 3) := by decide +kernel
theorem d_MM_begin_24 : decode b_MM_begin 24 = .ok (.iload_n 1, 1) := by decide +kernel
theorem d_MM_begin_25 : decode b_MM_begin 25 = .ok (.iconst 1, 1) := by decide +kernel
theorem d_MM_begin_26 : decode b_MM_begin 26 = .ok (.bastore, 1) := by decide +kernel
theorem d_MM_begin_27 : decode b_MM_begin 27 = .ok (.aload_n 0, 1) := by decide +kernel
theorem d_MM_begin_28 : decode b_MM_begin 28 = .ok (.getfield 42, 3) := by decide +kernel
theorem d_MM_begin_31 : decode b_MM_begin 31 = .ok (.iload_n 1, 1) := by decide +kernel
theorem d_MM_begin_32 : decode b_MM_begin 32 = .ok (.iload_n 2, 1) := by decide +kernel
theorem d_MM_begin_33 : decode b_MM_begin 33 = .ok (.bastore, 1) := by decide +kernel
theorem d_MM_begin_34 : decode b_MM_begin 34 = .ok (.aload_n 0, 1) := by decide +kernel
theorem d_MM_begin_35 : decode b_MM_begin 35 = .ok (.getfield 45, 3) := by decide +kernel
theorem d_MM_begin_38 : decode b_MM_begin 38 = .ok (.iload_n 1, 1) := by decide +kernel
theorem d_MM_begin_39 : decode b_MM_begin 39 = .ok (.iconst 0, 1) := by decide +kernel
theorem d_MM_begin_40 : decode b_MM_begin 40 = .ok (.iastore, 1) := by decide +kernel
theorem d_MM_begin_41 : decode b_MM_begin 41 = .ok (.aload_n 0, 1) := by decide +kernel
theorem d_MM_begin_42 : decode b_MM_begin 42 = .ok (.iload_n 1, 1) := by decide +kernel
theorem d_MM_begin_43 : decode b_MM_begin 43 = .ok (.iload_n 2, 1) := by decide +kernel
theorem d_MM_begin_44 : decode b_MM_begin 44 = .ok (.ifCond .eq 7, 3) := by decide +kernel
theorem d_MM_begin_47 : decode b_MM_begin 47 = .ok (.iconst 1, 1) := by decide +kernel
theorem d_MM_begin_48 : decode b_MM_begin 48 = .ok (.goto 4, 3) := by decide +kernel
theorem d_MM_begin_51 : decode b_MM_begin 51 = .ok (.iconst 0, 1) := by decide +kernel
theorem d_MM_begin_52 : decode b_MM_begin 52 = .ok (.iconst (-1), 1) := by decide +kernel
theorem d_MM_begin_53 : decode b_MM_begin 53 = .ok (.iconst 0, 1) := by decide +kernel
theorem d_MM_begin_54 : decode b_MM_begin 54 = .ok (.invokevirtual 64, 3) := by decide +kernel
theorem d_MM_begin_57 : decode b_MM_begin 57 = .ok (.pop, 1) := by decide +kernel
theorem d_MM_begin_58 : decode b_MM_begin 58 = .ok (.iconst 0, 1) := by decide +kernel
theorem d_MM_begin_59 : decode b_MM_begin 59 = .ok (.ireturn, 1) := by decide +kernel
theorem d_MM_step_0 : decode b_MM_step 0 = .ok (.iload_n 1, 1) := by decide +kernel
theorem d_MM_step_1 : decode b_MM_step 1 = .ok (.bipush 12, 2) := by decide +kernel
theorem d_MM_step_3 : decode b_MM_step 3 = .ok (.imul, 1) := by decide +kernel
theorem d_MM_step_4 : decode b_MM_step 4 = .ok (.aload_n 0, 1) := by decide +kernel
theorem d_MM_step_5 : decode b_MM_step 5 = .ok (.getfield 45, 3) := by decide +kernel
theorem d_MM_step_8 : decode b_MM_step 8 = .ok (.iload_n 1, 1) := by decide +kernel
theorem d_MM_step_9 : decode b_MM_step 9 = .ok (.iaload, 1) := by decide +kernel
theorem d_MM_step_10 : decode b_MM_step 10 = .ok (.iadd, 1) := by decide +kernel
theorem d_MM_step_11 : decode b_MM_step 11 = .ok (.istore 5, 2) := by decide +kernel
theorem d_MM_step_13 : decode b_MM_step 13 = .ok (.aload_n 0, 1) := by decide +kernel
theorem d_MM_step_14 : decode b_MM_step 14 = .ok (.getfield 48, 3) := by decide +kernel
theorem d_MM_step_17 : decode b_MM_step 17 = .ok (.iload 5, 2) := by decide +kernel
theorem d_MM_step_19 : decode b_MM_step 19 = .ok (.iload_n 2, 1) := by decide +kernel
theorem d_MM_step_20 : decode b_MM_step 20 = .ok (.iastore, 1) := by decide +kernel
theorem d_MM_step_21 : decode b_MM_step 21 = .ok (.aload_n 0, 1) := by decide +kernel
theorem d_MM_step_22 : decode b_MM_step 22 = .ok (.getfield 51, 3) := by decide +kernel
theorem d_MM_step_25 : decode b_MM_step 25 = .ok (.iload 5, 2) := by decide +kernel
theorem d_MM_step_27 : decode b_MM_step 27 = .ok (.iload_n 3, 1) := by decide +kernel
theorem d_MM_step_28 : decode b_MM_step 28 = .ok (.iastore, 1) := by decide +kernel
theorem d_MM_step_29 : decode b_MM_step 29 = .ok (.aload_n 0, 1) := by decide +kernel
theorem d_MM_step_30 : decode b_MM_step 30 = .ok (.getfield 54, 3) := by decide +kernel
theorem d_MM_step_33 : decode b_MM_step 33 = .ok (.iload 5, 2) := by decide +kernel
theorem d_MM_step_35 : decode b_MM_step 35 = .ok (.iload 4, 2) := by decide +kernel
theorem d_MM_step_37 : decode b_MM_step 37 = .ok (.bastore, 1) := by decide +kernel
theorem d_MM_step_38 : decode b_MM_step 38 = .ok (.aload_n 0, 1) := by decide +kernel
theorem d_MM_step_39 : decode b_MM_step 39 = .ok (.getfield 45, 3) := by decide +kernel
theorem d_MM_step_42 : decode b_MM_step 42 = .ok (.iload_n 1, 1) := by decide +kernel
theorem d_MM_step_43 : decode b_MM_step 43 = .ok (.dup2, 1) := by decide +kernel
theorem d_MM_step_44 : decode b_MM_step 44 = .ok (.iaload, 1) := by decide +kernel
theorem d_MM_step_45 : decode b_MM_step 45 = .ok (.iconst 1, 1) := by decide +kernel
theorem d_MM_step_46 : decode b_MM_step 46 = .ok (.iadd, 1) := by decide +kernel
theorem d_MM_step_47 : decode b_MM_step 47 = .ok (.iastore, 1) := by decide +kernel
theorem d_MM_step_48 : decode b_MM_step 48 = .ok (.aload_n 0, 1) := by decide +kernel
theorem d_MM_step_49 : decode b_MM_step 49 = .ok (.getfield 45, 3) := by decide +kernel
theorem d_MM_step_52 : decode b_MM_step 52 = .ok (.iload_n 1, 1) := by decide +kernel
theorem d_MM_step_53 : decode b_MM_step 53 = .ok (.iaload, 1) := by decide +kernel
theorem d_MM_step_54 : decode b_MM_step 54 = .ok (.ireturn, 1) := by decide +kernel
theorem d_MM_viewed_0 : decode b_MM_viewed 0 = .ok (.aload_n 0, 1) := by decide +kernel
theorem d_MM_viewed_1 : decode b_MM_viewed 1 = .ok (.getfield 45, 3) := by decide +kernel
theorem d_MM_viewed_4 : decode b_MM_viewed 4 = .ok (.iload_n 1, 1) := by decide +kernel
theorem d_MM_viewed_5 : decode b_MM_viewed 5 = .ok (.iaload, 1) := by decide +kernel
theorem d_MM_viewed_6 : decode b_MM_viewed 6 = .ok (.iconst 1, 1) := by decide +kernel
theorem d_MM_viewed_7 : decode b_MM_viewed 7 = .ok (.isub, 1) := by decide +kernel
theorem d_MM_viewed_8 : decode b_MM_viewed 8 = .ok (.istore_n 3, 1) := by decide +kernel
theorem d_MM_viewed_9 : decode b_MM_viewed 9 = .ok (.iconst 0, 1) := by decide +kernel
theorem d_MM_viewed_10 : decode b_MM_viewed 10 = .ok (.istore 4, 2) := by decide +kernel
theorem d_MM_viewed_12 : decode b_MM_viewed 12 = .ok (.iload 4, 2) := by decide +kernel
theorem d_MM_viewed_14 : decode b_MM_viewed 14 = .ok (.iload_n 2, 1) := by decide +kernel
theorem d_MM_viewed_15 : decode b_MM_viewed 15 = .ok (.if_icmp .ge 25, 3) := by decide +kernel
theorem d_MM_viewed_18 : decode b_MM_viewed 18 = .ok (.iload_n 3, 1) := by decide +kernel
theorem d_MM_viewed_19 : decode b_MM_viewed 19 = .ok (.ifCond .lt 21, 3) := by decide +kernel
theorem d_MM_viewed_22 : decode b_MM_viewed 22 = .ok (.aload_n 0, 1) := by decide +kernel
theorem d_MM_viewed_23 : decode b_MM_viewed 23 = .ok (.getfield 51, 3) := by decide +kernel
theorem d_MM_viewed_26 : decode b_MM_viewed 26 = .ok (.iload_n 1, 1) := by decide +kernel
theorem d_MM_viewed_27 : decode b_MM_viewed 27 = .ok (.bipush 12, 2) := by decide +kernel
theorem d_MM_viewed_29 : decode b_MM_viewed 29 = .ok (.imul, 1) := by decide +kernel
theorem d_MM_viewed_30 : decode b_MM_viewed 30 = .ok (.iload_n 3, 1) := by decide +kernel
theorem d_MM_viewed_31 : decode b_MM_viewed 31 = .ok (.iadd, 1) := by decide +kernel
theorem d_MM_viewed_32 : decode b_MM_viewed 32 = .ok (.iaload, 1) := by decide +kernel
theorem d_MM_viewed_33 : decode b_MM_viewed 33 = .ok (.istore_n 3, 1) := by decide +kernel
theorem d_MM_viewed_34 : decode b_MM_viewed 34 = .ok (.iinc 4 1, 3) := by decide +kernel
theorem d_MM_viewed_37 : decode b_MM_viewed 37 = .ok (.goto (-25), 3) := by decide +kernel
theorem d_MM_viewed_40 : decode b_MM_viewed 40 = .ok (.iload_n 3, 1) := by decide +kernel
theorem d_MM_viewed_41 : decode b_MM_viewed 41 = .ok (.ireturn, 1) := by decide +kernel
theorem d_MM_stepWith_0 : decode b_MM_stepWith 0 = .ok (.iconst 0, 1) := by decide +kernel
theorem d_MM_stepWith_1 : decode b_MM_stepWith 1 = .ok (.istore_n 3, 1) := by decide +kernel
theorem d_MM_stepWith_2 : decode b_MM_stepWith 2 = .ok (.iload_n 3, 1) := by decide +kernel
theorem d_MM_stepWith_3 : decode b_MM_stepWith 3 = .ok (.bipush 12, 2) := by decide +kernel
theorem d_MM_stepWith_5 : decode b_MM_stepWith 5 = .ok (.if_icmp .ge 43, 3) := by decide +kernel
theorem d_MM_stepWith_8 : decode b_MM_stepWith 8 = .ok (.aload_n 0, 1) := by decide +kernel
theorem d_MM_stepWith_9 : decode b_MM_stepWith 9 = .ok (.iload_n 1, 1) := by decide +kernel
theorem d_MM_stepWith_10 : decode b_MM_stepWith 10 = .ok (.iload_n 3, 1) := by decide +kernel
theorem d_MM_stepWith_11 : decode b_MM_stepWith 11 = .ok (.invokevirtual 68, 3) := by decide +kernel
theorem d_MM_stepWith_14 : decode b_MM_stepWith 14 = .ok (.istore 4, 2) := by decide +kernel
theorem d_MM_stepWith_16 : decode b_MM_stepWith 16 = .ok (.iload 4, 2) := by decide +kernel
theorem d_MM_stepWith_18 : decode b_MM_stepWith 18 = .ok (.ifCond .ge 5, 3) := by decide +kernel
theorem d_MM_stepWith_21 : decode b_MM_stepWith 21 = .ok (.iconst (-1), 1) := by decide +kernel
theorem d_MM_stepWith_22 : decode b_MM_stepWith 22 = .ok (.ireturn, 1) := by decide +kernel
theorem d_MM_stepWith_23 : decode b_MM_stepWith 23 = .ok (.aload_n 0, 1) := by decide +kernel
theorem d_MM_stepWith_24 : decode b_MM_stepWith 24 = .ok (.getfield 48, 3) := by decide +kernel
theorem d_MM_stepWith_27 : decode b_MM_stepWith 27 = .ok (.iload_n 1, 1) := by decide +kernel
theorem d_MM_stepWith_28 : decode b_MM_stepWith 28 = .ok (.bipush 12, 2) := by decide +kernel
theorem d_MM_stepWith_30 : decode b_MM_stepWith 30 = .ok (.imul, 1) := by decide +kernel
theorem d_MM_stepWith_31 : decode b_MM_stepWith 31 = .ok (.iload 4, 2) := by decide +kernel
theorem d_MM_stepWith_33 : decode b_MM_stepWith 33 = .ok (.iadd, 1) := by decide +kernel
theorem d_MM_stepWith_34 : decode b_MM_stepWith 34 = .ok (.iaload, 1) := by decide +kernel
theorem d_MM_stepWith_35 : decode b_MM_stepWith 35 = .ok (.iload_n 2, 1) := by decide +kernel
theorem d_MM_stepWith_36 : decode b_MM_stepWith 36 = .ok (.if_icmp .ne 6, 3) := by decide +kernel
theorem d_MM_stepWith_39 : decode b_MM_stepWith 39 = .ok (.iload 4, 2) := by decide +kernel
theorem d_MM_stepWith_41 : decode b_MM_stepWith 41 = .ok (.ireturn, 1) := by decide +kernel
theorem d_MM_stepWith_42 : decode b_MM_stepWith 42 = .ok (.iinc 3 1, 3) := by decide +kernel
theorem d_MM_stepWith_45 : decode b_MM_stepWith 45 = .ok (.goto (-43), 3) := by decide +kernel
theorem d_MM_stepWith_48 : decode b_MM_stepWith 48 = .ok (.iconst (-1), 1) := by decide +kernel
theorem d_MM_stepWith_49 : decode b_MM_stepWith 49 = .ok (.ireturn, 1) := by decide +kernel
theorem d_MM_nearest_0 : decode b_MM_nearest 0 = .ok (.iconst 0, 1) := by decide +kernel
theorem d_MM_nearest_1 : decode b_MM_nearest 1 = .ok (.istore_n 2, 1) := by decide +kernel
theorem d_MM_nearest_2 : decode b_MM_nearest 2 = .ok (.iload_n 2, 1) := by decide +kernel
theorem d_MM_nearest_3 : decode b_MM_nearest 3 = .ok (.bipush 12, 2) := by decide +kernel
theorem d_MM_nearest_5 : decode b_MM_nearest 5 = .ok (.if_icmp .ge 49, 3) := by decide +kernel
theorem d_MM_nearest_8 : decode b_MM_nearest 8 = .ok (.aload_n 0, 1) := by decide +kernel
theorem d_MM_nearest_9 : decode b_MM_nearest 9 = .ok (.iload_n 1, 1) := by decide +kernel
theorem d_MM_nearest_10 : decode b_MM_nearest 10 = .ok (.iload_n 2, 1) := by decide +kernel
theorem d_MM_nearest_11 : decode b_MM_nearest 11 = .ok (.invokevirtual 68, 3) := by decide +kernel
theorem d_MM_nearest_14 : decode b_MM_nearest 14 = .ok (.istore_n 3, 1) := by decide +kernel
theorem d_MM_nearest_15 : decode b_MM_nearest 15 = .ok (.iload_n 3, 1) := by decide +kernel
theorem d_MM_nearest_16 : decode b_MM_nearest 16 = .ok (.ifCond .ge 5, 3) := by decide +kernel
theorem d_MM_nearest_19 : decode b_MM_nearest 19 = .ok (.iconst 0, 1) := by decide +kernel
theorem d_MM_nearest_20 : decode b_MM_nearest 20 = .ok (.ireturn, 1) := by decide +kernel
theorem d_MM_nearest_21 : decode b_MM_nearest 21 = .ok (.aload_n 0, 1) := by decide +kernel
theorem d_MM_nearest_22 : decode b_MM_nearest 22 = .ok (.getfield 48, 3) := by decide +kernel
theorem d_MM_nearest_25 : decode b_MM_nearest 25 = .ok (.iload_n 1, 1) := by decide +kernel
theorem d_MM_nearest_26 : decode b_MM_nearest 26 = .ok (.bipush 12, 2) := by decide +kernel
theorem d_MM_nearest_28 : decode b_MM_nearest 28 = .ok (.imul, 1) := by decide +kernel
theorem d_MM_nearest_29 : decode b_MM_nearest 29 = .ok (.iload_n 3, 1) := by decide +kernel
theorem d_MM_nearest_30 : decode b_MM_nearest 30 = .ok (.iadd, 1) := by decide +kernel
theorem d_MM_nearest_31 : decode b_MM_nearest 31 = .ok (.iaload, 1) := by decide +kernel
theorem d_MM_nearest_32 : decode b_MM_nearest 32 = .ok (.iconst 1, 1) := by decide +kernel
theorem d_MM_nearest_33 : decode b_MM_nearest 33 = .ok (.if_icmp .le 15, 3) := by decide +kernel
theorem d_MM_nearest_36 : decode b_MM_nearest 36 = .ok (.aload_n 0, 1) := by decide +kernel
theorem d_MM_nearest_37 : decode b_MM_nearest 37 = .ok (.getfield 48, 3) := by decide +kernel
theorem d_MM_nearest_40 : decode b_MM_nearest 40 = .ok (.iload_n 1, 1) := by decide +kernel
theorem d_MM_nearest_41 : decode b_MM_nearest 41 = .ok (.bipush 12, 2) := by decide +kernel
theorem d_MM_nearest_43 : decode b_MM_nearest 43 = .ok (.imul, 1) := by decide +kernel
theorem d_MM_nearest_44 : decode b_MM_nearest 44 = .ok (.iload_n 3, 1) := by decide +kernel
theorem d_MM_nearest_45 : decode b_MM_nearest 45 = .ok (.iadd, 1) := by decide +kernel
theorem d_MM_nearest_46 : decode b_MM_nearest 46 = .ok (.iaload, 1) := by decide +kernel
theorem d_MM_nearest_47 : decode b_MM_nearest 47 = .ok (.ireturn, 1) := by decide +kernel
theorem d_MM_nearest_48 : decode b_MM_nearest 48 = .ok (.iinc 2 1, 3) := by decide +kernel
theorem d_MM_nearest_51 : decode b_MM_nearest 51 = .ok (.goto (-49), 3) := by decide +kernel
theorem d_MM_nearest_54 : decode b_MM_nearest 54 = .ok (.iconst 0, 1) := by decide +kernel
theorem d_MM_nearest_55 : decode b_MM_nearest 55 = .ok (.ireturn, 1) := by decide +kernel
theorem d_MM_enter_0 : decode b_MM_enter 0 = .ok (.aload_n 0, 1) := by decide +kernel
theorem d_MM_enter_1 : decode b_MM_enter 1 = .ok (.iload_n 1, 1) := by decide +kernel
theorem d_MM_enter_2 : decode b_MM_enter 2 = .ok (.invokevirtual 72, 3) := by decide +kernel
theorem d_MM_enter_5 : decode b_MM_enter 5 = .ok (.ifCond .ne 11, 3) := by decide +kernel
theorem d_MM_enter_8 : decode b_MM_enter 8 = .ok (.aload_n 0, 1) := by decide +kernel
theorem d_MM_enter_9 : decode b_MM_enter 9 = .ok (.iload_n 2, 1) := by decide +kernel
theorem d_MM_enter_10 : decode b_MM_enter 10 = .ok (.invokevirtual 76, 3) := by decide +kernel
theorem d_MM_enter_13 : decode b_MM_enter 13 = .ok (.ifCond .eq 5, 3) := by decide +kernel
theorem d_MM_enter_16 : decode b_MM_enter 16 = .ok (.iconst (-1), 1) := by decide +kernel
theorem d_MM_enter_17 : decode b_MM_enter 17 = .ok (.ireturn, 1) := by decide +kernel
theorem d_MM_enter_18 : decode b_MM_enter 18 = .ok (.aload_n 0, 1) := by decide +kernel
theorem d_MM_enter_19 : decode b_MM_enter 19 = .ok (.iload_n 1, 1) := by decide +kernel
theorem d_MM_enter_20 : decode b_MM_enter 20 = .ok (.iload_n 2, 1) := by decide +kernel
theorem d_MM_enter_21 : decode b_MM_enter 21 = .ok (.invokevirtual 79, 3) := by decide +kernel
theorem d_MM_enter_24 : decode b_MM_enter 24 = .ok (.ifCond .ge 26, 3) := by decide +kernel
theorem d_MM_enter_27 : decode b_MM_enter 27 = .ok (.aload_n 0, 1) := by decide +kernel
theorem d_MM_enter_28 : decode b_MM_enter 28 = .ok (.getfield 17, 3) := by decide +kernel
theorem d_MM_enter_31 : decode b_MM_enter 31 = .ok (.iload_n 2, 1) := by decide +kernel
theorem d_MM_enter_32 : decode b_MM_enter 32 = .ok (.iaload, 1) := by decide +kernel
theorem d_MM_enter_33 : decode b_MM_enter 33 = .ok (.ifCond .le 20, 3) := by decide +kernel
theorem d_MM_enter_36 : decode b_MM_enter 36 = .ok (.aload_n 0, 1) := by decide +kernel
theorem d_MM_enter_37 : decode b_MM_enter 37 = .ok (.getfield 20, 3) := by decide +kernel
theorem d_MM_enter_40 : decode b_MM_enter 40 = .ok (.iload_n 2, 1) := by decide +kernel
theorem d_MM_enter_41 : decode b_MM_enter 41 = .ok (.iaload, 1) := by decide +kernel
theorem d_MM_enter_42 : decode b_MM_enter 42 = .ok (.aload_n 0, 1) := by decide +kernel
theorem d_MM_enter_43 : decode b_MM_enter 43 = .ok (.iload_n 1, 1) := by decide +kernel
theorem d_MM_enter_44 : decode b_MM_enter 44 = .ok (.invokevirtual 82, 3) := by decide +kernel
theorem d_MM_enter_47 : decode b_MM_enter 47 = .ok (.if_icmp .eq 6, 3) := by decide +kernel
theorem d_MM_enter_50 : decode b_MM_enter 50 = .ok (.bipush (-3), 2) := by decide +kernel
theorem d_MM_enter_52 : decode b_MM_enter 52 = .ok (.ireturn, 1) := by decide +kernel
theorem d_MM_enter_53 : decode b_MM_enter 53 = .ok (.aload_n 0, 1) := by decide +kernel
theorem d_MM_enter_54 : decode b_MM_enter 54 = .ok (.getfield 45, 3) := by decide +kernel
theorem d_MM_enter_57 : decode b_MM_enter 57 = .ok (.iload_n 1, 1) := by decide +kernel
theorem d_MM_enter_58 : decode b_MM_enter 58 = .ok (.iaload, 1) := by decide +kernel
theorem d_MM_enter_59 : decode b_MM_enter 59 = .ok (.bipush 12, 2) := by decide +kernel
theorem d_MM_enter_61 : decode b_MM_enter 61 = .ok (.if_icmp .ne 6, 3) := by decide +kernel
theorem d_MM_enter_64 : decode b_MM_enter 64 = .ok (.bipush (-2), 2) := by decide +kernel
theorem d_MM_enter_66 : decode b_MM_enter 66 = .ok (.ireturn, 1) := by decide +kernel
theorem d_MM_enter_67 : decode b_MM_enter 67 = .ok (.aload_n 0, 1) := by decide +kernel
theorem d_MM_enter_68 : decode b_MM_enter 68 = .ok (.getfield 17, 3) := by decide +kernel
theorem d_MM_enter_71 : decode b_MM_enter 71 = .ok (.iload_n 2, 1) := by decide +kernel
theorem d_MM_enter_72 : decode b_MM_enter 72 = .ok (.iaload, 1) := by decide +kernel
theorem d_MM_enter_73 : decode b_MM_enter 73 = .ok (.ifCond .ne 14, 3) := by decide +kernel
theorem d_MM_enter_76 : decode b_MM_enter 76 = .ok (.aload_n 0, 1) := by decide +kernel
theorem d_MM_enter_77 : decode b_MM_enter 77 = .ok (.getfield 20, 3) := by decide +kernel
theorem d_MM_enter_80 : decode b_MM_enter 80 = .ok (.iload_n 2, 1) := by decide +kernel
theorem d_MM_enter_81 : decode b_MM_enter 81 = .ok (.aload_n 0, 1) := by decide +kernel
theorem d_MM_enter_82 : decode b_MM_enter 82 = .ok (.iload_n 1, 1) := by decide +kernel
theorem d_MM_enter_83 : decode b_MM_enter 83 = .ok (.invokevirtual 82, 3) := by decide +kernel
theorem d_MM_enter_86 : decode b_MM_enter 86 = .ok (.iastore, 1) := by decide +kernel
theorem d_MM_enter_87 : decode b_MM_enter 87 = .ok (.aload_n 0, 1) := by decide +kernel
theorem d_MM_enter_88 : decode b_MM_enter 88 = .ok (.iload_n 1, 1) := by decide +kernel
theorem d_MM_enter_89 : decode b_MM_enter 89 = .ok (.iload_n 2, 1) := by decide +kernel
theorem d_MM_enter_90 : decode b_MM_enter 90 = .ok (.aload_n 0, 1) := by decide +kernel
theorem d_MM_enter_91 : decode b_MM_enter 91 = .ok (.getfield 45, 3) := by decide +kernel
theorem d_MM_enter_94 : decode b_MM_enter 94 = .ok (.iload_n 1, 1) := by decide +kernel
theorem d_MM_enter_95 : decode b_MM_enter 95 = .ok (.iaload, 1) := by decide +kernel
theorem d_MM_enter_96 : decode b_MM_enter 96 = .ok (.iconst 1, 1) := by decide +kernel
theorem d_MM_enter_97 : decode b_MM_enter 97 = .ok (.isub, 1) := by decide +kernel
theorem d_MM_enter_98 : decode b_MM_enter 98 = .ok (.iconst 1, 1) := by decide +kernel
theorem d_MM_enter_99 : decode b_MM_enter 99 = .ok (.invokevirtual 64, 3) := by decide +kernel
theorem d_MM_enter_102 : decode b_MM_enter 102 = .ok (.pop, 1) := by decide +kernel
theorem d_MM_enter_103 : decode b_MM_enter 103 = .ok (.aload_n 0, 1) := by decide +kernel
theorem d_MM_enter_104 : decode b_MM_enter 104 = .ok (.getfield 17, 3) := by decide +kernel
theorem d_MM_enter_107 : decode b_MM_enter 107 = .ok (.iload_n 2, 1) := by decide +kernel
theorem d_MM_enter_108 : decode b_MM_enter 108 = .ok (.dup2, 1) := by decide +kernel
theorem d_MM_enter_109 : decode b_MM_enter 109 = .ok (.iaload, 1) := by decide +kernel
theorem d_MM_enter_110 : decode b_MM_enter 110 = .ok (.iconst 1, 1) := by decide +kernel
theorem d_MM_enter_111 : decode b_MM_enter 111 = .ok (.iadd, 1) := by decide +kernel
theorem d_MM_enter_112 : decode b_MM_enter 112 = .ok (.iastore, 1) := by decide +kernel
theorem d_MM_enter_113 : decode b_MM_enter 113 = .ok (.aload_n 0, 1) := by decide +kernel
theorem d_MM_enter_114 : decode b_MM_enter 114 = .ok (.getfield 17, 3) := by decide +kernel
theorem d_MM_enter_117 : decode b_MM_enter 117 = .ok (.iload_n 2, 1) := by decide +kernel
theorem d_MM_enter_118 : decode b_MM_enter 118 = .ok (.iaload, 1) := by decide +kernel
theorem d_MM_enter_119 : decode b_MM_enter 119 = .ok (.ireturn, 1) := by decide +kernel
theorem d_MM_turn_0 : decode b_MM_turn 0 = .ok (.aload_n 0, 1) := by decide +kernel
theorem d_MM_turn_1 : decode b_MM_turn 1 = .ok (.iload_n 1, 1) := by decide +kernel
theorem d_MM_turn_2 : decode b_MM_turn 2 = .ok (.invokevirtual 72, 3) := by decide +kernel
theorem d_MM_turn_5 : decode b_MM_turn 5 = .ok (.ifCond .ne 11, 3) := by decide +kernel
theorem d_MM_turn_8 : decode b_MM_turn 8 = .ok (.aload_n 0, 1) := by decide +kernel
theorem d_MM_turn_9 : decode b_MM_turn 9 = .ok (.iload_n 2, 1) := by decide +kernel
theorem d_MM_turn_10 : decode b_MM_turn 10 = .ok (.invokevirtual 85, 3) := by decide +kernel
theorem d_MM_turn_13 : decode b_MM_turn 13 = .ok (.ifCond .eq 5, 3) := by decide +kernel
theorem d_MM_turn_16 : decode b_MM_turn 16 = .ok (.iconst (-1), 1) := by decide +kernel
theorem d_MM_turn_17 : decode b_MM_turn 17 = .ok (.ireturn, 1) := by decide +kernel
theorem d_MM_turn_18 : decode b_MM_turn 18 = .ok (.iload_n 2, 1) := by decide +kernel
theorem d_MM_turn_19 : decode b_MM_turn 19 = .ok (.ifCond .ne 15, 3) := by decide +kernel
theorem d_MM_turn_22 : decode b_MM_turn 22 = .ok (.aload_n 0, 1) := by decide +kernel
theorem d_MM_turn_23 : decode b_MM_turn 23 = .ok (.getfield 42, 3) := by decide +kernel
theorem d_MM_turn_26 : decode b_MM_turn 26 = .ok (.iload_n 1, 1) := by decide +kernel
theorem d_MM_turn_27 : decode b_MM_turn 27 = .ok (.baload, 1) := by decide +kernel
theorem d_MM_turn_28 : decode b_MM_turn 28 = .ok (.ifCond .eq 6, 3) := by decide +kernel
theorem d_MM_turn_31 : decode b_MM_turn 31 = .ok (.bipush (-5), 2) := by decide +kernel
theorem d_MM_turn_33 : decode b_MM_turn 33 = .ok (.ireturn, 1) := by decide +kernel
theorem d_MM_turn_34 : decode b_MM_turn 34 = .ok (.iload_n 2, 1) := by decide +kernel
theorem d_MM_turn_35 : decode b_MM_turn 35 = .ok (.iconst 2, 1) := by decide +kernel
theorem d_MM_turn_36 : decode b_MM_turn 36 = .ok (.if_icmp .ge 7, 3) := by decide +kernel
theorem d_MM_turn_39 : decode b_MM_turn 39 = .ok (.iconst (-1), 1) := by decide +kernel
theorem d_MM_turn_40 : decode b_MM_turn 40 = .ok (.goto 9, 3) := by decide +kernel
theorem d_MM_turn_43 : decode b_MM_turn 43 = .ok (.aload_n 0, 1) := by decide +kernel
theorem d_MM_turn_44 : decode b_MM_turn 44 = .ok (.iload_n 1, 1) := by decide +kernel
theorem d_MM_turn_45 : decode b_MM_turn 45 = .ok (.iload_n 2, 1) := by decide +kernel
theorem d_MM_turn_46 : decode b_MM_turn 46 = .ok (.invokevirtual 79, 3) := by decide +kernel
theorem d_MM_turn_49 : decode b_MM_turn 49 = .ok (.istore_n 3, 1) := by decide +kernel
theorem d_MM_turn_50 : decode b_MM_turn 50 = .ok (.iload_n 2, 1) := by decide +kernel
theorem d_MM_turn_51 : decode b_MM_turn 51 = .ok (.iconst 1, 1) := by decide +kernel
theorem d_MM_turn_52 : decode b_MM_turn 52 = .ok (.if_icmp .le 10, 3) := by decide +kernel
theorem d_MM_turn_55 : decode b_MM_turn 55 = .ok (.iload_n 3, 1) := by decide +kernel
theorem d_MM_turn_56 : decode b_MM_turn 56 = .ok (.ifCond .ge 6, 3) := by decide +kernel
theorem d_MM_turn_59 : decode b_MM_turn 59 = .ok (.bipush (-4), 2) := by decide +kernel
theorem d_MM_turn_61 : decode b_MM_turn 61 = .ok (.ireturn, 1) := by decide +kernel
theorem d_MM_turn_62 : decode b_MM_turn 62 = .ok (.aload_n 0, 1) := by decide +kernel
theorem d_MM_turn_63 : decode b_MM_turn 63 = .ok (.getfield 45, 3) := by decide +kernel
theorem d_MM_turn_66 : decode b_MM_turn 66 = .ok (.iload_n 1, 1) := by decide +kernel
theorem d_MM_turn_67 : decode b_MM_turn 67 = .ok (.iaload, 1) := by decide +kernel
theorem d_MM_turn_68 : decode b_MM_turn 68 = .ok (.bipush 12, 2) := by decide +kernel
theorem d_MM_turn_70 : decode b_MM_turn 70 = .ok (.if_icmp .ne 6, 3) := by decide +kernel
theorem d_MM_turn_73 : decode b_MM_turn 73 = .ok (.bipush (-2), 2) := by decide +kernel
theorem d_MM_turn_75 : decode b_MM_turn 75 = .ok (.ireturn, 1) := by decide +kernel
theorem d_MM_turn_76 : decode b_MM_turn 76 = .ok (.aload_n 0, 1) := by decide +kernel
theorem d_MM_turn_77 : decode b_MM_turn 77 = .ok (.iload_n 1, 1) := by decide +kernel
theorem d_MM_turn_78 : decode b_MM_turn 78 = .ok (.iload_n 2, 1) := by decide +kernel
theorem d_MM_turn_79 : decode b_MM_turn 79 = .ok (.iload_n 3, 1) := by decide +kernel
theorem d_MM_turn_80 : decode b_MM_turn 80 = .ok (.ifCond .ge 7, 3) := by decide +kernel
theorem d_MM_turn_83 : decode b_MM_turn 83 = .ok (.iconst (-1), 1) := by decide +kernel
theorem d_MM_turn_84 : decode b_MM_turn 84 = .ok (.goto 14, 3) := by decide +kernel
theorem d_MM_turn_87 : decode b_MM_turn 87 = .ok (.aload_n 0, 1) := by decide +kernel
theorem d_MM_turn_88 : decode b_MM_turn 88 = .ok (.getfield 51, 3) := by decide +kernel
theorem d_MM_turn_91 : decode b_MM_turn 91 = .ok (.iload_n 1, 1) := by decide +kernel
theorem d_MM_turn_92 : decode b_MM_turn 92 = .ok (.bipush 12, 2) := by decide +kernel
theorem d_MM_turn_94 : decode b_MM_turn 94 = .ok (.imul, 1) := by decide +kernel
theorem d_MM_turn_95 : decode b_MM_turn 95 = .ok (.iload_n 3, 1) := by decide +kernel
theorem d_MM_turn_96 : decode b_MM_turn 96 = .ok (.iadd, 1) := by decide +kernel
theorem d_MM_turn_97 : decode b_MM_turn 97 = .ok (.iaload, 1) := by decide +kernel
theorem d_MM_turn_98 : decode b_MM_turn 98 = .ok (.iconst 0, 1) := by decide +kernel
theorem d_MM_turn_99 : decode b_MM_turn 99 = .ok (.invokevirtual 64, 3) := by decide +kernel
theorem d_MM_turn_102 : decode b_MM_turn 102 = .ok (.ireturn, 1) := by decide +kernel
theorem d_MM_leave_0 : decode b_MM_leave 0 = .ok (.aload_n 0, 1) := by decide +kernel
theorem d_MM_leave_1 : decode b_MM_leave 1 = .ok (.iload_n 1, 1) := by decide +kernel
theorem d_MM_leave_2 : decode b_MM_leave 2 = .ok (.invokevirtual 72, 3) := by decide +kernel
theorem d_MM_leave_5 : decode b_MM_leave 5 = .ok (.ifCond .eq 5, 3) := by decide +kernel
theorem d_MM_leave_8 : decode b_MM_leave 8 = .ok (.iconst (-1), 1) := by decide +kernel
theorem d_MM_leave_9 : decode b_MM_leave 9 = .ok (.ireturn, 1) := by decide +kernel
theorem d_MM_leave_10 : decode b_MM_leave 10 = .ok (.aload_n 0, 1) := by decide +kernel
theorem d_MM_leave_11 : decode b_MM_leave 11 = .ok (.getfield 45, 3) := by decide +kernel
theorem d_MM_leave_14 : decode b_MM_leave 14 = .ok (.iload_n 1, 1) := by decide +kernel
theorem d_MM_leave_15 : decode b_MM_leave 15 = .ok (.dup2, 1) := by decide +kernel
theorem d_MM_leave_16 : decode b_MM_leave 16 = .ok (.iaload, 1) := by decide +kernel
theorem d_MM_leave_17 : decode b_MM_leave 17 = .ok (.iconst 1, 1) := by decide +kernel
theorem d_MM_leave_18 : decode b_MM_leave 18 = .ok (.isub, 1) := by decide +kernel
theorem d_MM_leave_19 : decode b_MM_leave 19 = .ok (.iastore, 1) := by decide +kernel
theorem d_MM_leave_20 : decode b_MM_leave 20 = .ok (.iload_n 1, 1) := by decide +kernel
theorem d_MM_leave_21 : decode b_MM_leave 21 = .ok (.bipush 12, 2) := by decide +kernel
theorem d_MM_leave_23 : decode b_MM_leave 23 = .ok (.imul, 1) := by decide +kernel
theorem d_MM_leave_24 : decode b_MM_leave 24 = .ok (.aload_n 0, 1) := by decide +kernel
theorem d_MM_leave_25 : decode b_MM_leave 25 = .ok (.getfield 45, 3) := by decide +kernel
theorem d_MM_leave_28 : decode b_MM_leave 28 = .ok (.iload_n 1, 1) := by decide +kernel
theorem d_MM_leave_29 : decode b_MM_leave 29 = .ok (.iaload, 1) := by decide +kernel
theorem d_MM_leave_30 : decode b_MM_leave 30 = .ok (.iadd, 1) := by decide +kernel
theorem d_MM_leave_31 : decode b_MM_leave 31 = .ok (.istore_n 2, 1) := by decide +kernel
theorem d_MM_leave_32 : decode b_MM_leave 32 = .ok (.aload_n 0, 1) := by decide +kernel
theorem d_MM_leave_33 : decode b_MM_leave 33 = .ok (.getfield 45, 3) := by decide +kernel
theorem d_MM_leave_36 : decode b_MM_leave 36 = .ok (.iload_n 1, 1) := by decide +kernel
theorem d_MM_leave_37 : decode b_MM_leave 37 = .ok (.iaload, 1) := by decide +kernel
theorem d_MM_leave_38 : decode b_MM_leave 38 = .ok (.ifCond .ne 10, 3) := by decide +kernel
theorem d_MM_leave_41 : decode b_MM_leave 41 = .ok (.aload_n 0, 1) := by decide +kernel
theorem d_MM_leave_42 : decode b_MM_leave 42 = .ok (.getfield 39, 3) := by decide +kernel
theorem d_MM_leave_45 : decode b_MM_leave 45 = .ok (.iload_n 1, 1) := by decide +kernel
theorem d_MM_leave_46 : decode b_MM_leave 46 = .ok (.iconst 0, 1) := by decide +kernel
theorem d_MM_leave_47 : decode b_MM_leave 47 = .ok (.bastore, 1) := by decide +kernel
theorem d_MM_leave_48 : decode b_MM_leave 48 = .ok (.aload_n 0, 1) := by decide +kernel
theorem d_MM_leave_49 : decode b_MM_leave 49 = .ok (.getfield 54, 3) := by decide +kernel
theorem d_MM_leave_52 : decode b_MM_leave 52 = .ok (.iload_n 2, 1) := by decide +kernel
theorem d_MM_leave_53 : decode b_MM_leave 53 = .ok (.baload, 1) := by decide +kernel
theorem d_MM_leave_54 : decode b_MM_leave 54 = .ok (.ifCond .eq 42, 3) := by decide +kernel
theorem d_MM_leave_57 : decode b_MM_leave 57 = .ok (.aload_n 0, 1) := by decide +kernel
theorem d_MM_leave_58 : decode b_MM_leave 58 = .ok (.getfield 17, 3) := by decide +kernel
theorem d_MM_leave_61 : decode b_MM_leave 61 = .ok (.aload_n 0, 1) := by decide +kernel
theorem d_MM_leave_62 : decode b_MM_leave 62 = .ok (.getfield 48, 3) := by decide +kernel
theorem d_MM_leave_65 : decode b_MM_leave 65 = .ok (.iload_n 2, 1) := by decide +kernel
theorem d_MM_leave_66 : decode b_MM_leave 66 = .ok (.iaload, 1) := by decide +kernel
theorem d_MM_leave_67 : decode b_MM_leave 67 = .ok (.dup2, 1) := by decide +kernel
theorem d_MM_leave_68 : decode b_MM_leave 68 = .ok (.iaload, 1) := by decide +kernel
theorem d_MM_leave_69 : decode b_MM_leave 69 = .ok (.iconst 1, 1) := by decide +kernel
theorem d_MM_leave_70 : decode b_MM_leave 70 = .ok (.isub, 1) := by decide +kernel
theorem d_MM_leave_71 : decode b_MM_leave 71 = .ok (.iastore, 1) := by decide +kernel
theorem d_MM_leave_72 : decode b_MM_leave 72 = .ok (.aload_n 0, 1) := by decide +kernel
theorem d_MM_leave_73 : decode b_MM_leave 73 = .ok (.getfield 17, 3) := by decide +kernel
theorem d_MM_leave_76 : decode b_MM_leave 76 = .ok (.aload_n 0, 1) := by decide +kernel
theorem d_MM_leave_77 : decode b_MM_leave 77 = .ok (.getfield 48, 3) := by decide +kernel
theorem d_MM_leave_80 : decode b_MM_leave 80 = .ok (.iload_n 2, 1) := by decide +kernel
theorem d_MM_leave_81 : decode b_MM_leave 81 = .ok (.iaload, 1) := by decide +kernel
theorem d_MM_leave_82 : decode b_MM_leave 82 = .ok (.iaload, 1) := by decide +kernel
theorem d_MM_leave_83 : decode b_MM_leave 83 = .ok (.ifCond .ne 13, 3) := by decide +kernel
theorem d_MM_leave_86 : decode b_MM_leave 86 = .ok (.aload_n 0, 1) := by decide +kernel
theorem d_MM_leave_87 : decode b_MM_leave 87 = .ok (.aload_n 0, 1) := by decide +kernel
theorem d_MM_leave_88 : decode b_MM_leave 88 = .ok (.getfield 48, 3) := by decide +kernel
theorem d_MM_leave_91 : decode b_MM_leave 91 = .ok (.iload_n 2, 1) := by decide +kernel
theorem d_MM_leave_92 : decode b_MM_leave 92 = .ok (.iaload, 1) := by decide +kernel
theorem d_MM_leave_93 : decode b_MM_leave 93 = .ok (.invokevirtual 88, 3) := by decide +kernel
theorem d_MM_leave_96 : decode b_MM_leave 96 = .ok (.aload_n 0, 1) := by decide +kernel
theorem d_MM_leave_97 : decode b_MM_leave 97 = .ok (.getfield 45, 3) := by decide +kernel
theorem d_MM_leave_100 : decode b_MM_leave 100 = .ok (.iload_n 1, 1) := by decide +kernel
theorem d_MM_leave_101 : decode b_MM_leave 101 = .ok (.iaload, 1) := by decide +kernel
theorem d_MM_leave_102 : decode b_MM_leave 102 = .ok (.ireturn, 1) := by decide +kernel
theorem d_MM_empty_0 : decode b_MM_empty 0 = .ok (.iconst 0, 1) := by decide +kernel
theorem d_MM_empty_1 : decode b_MM_empty 1 = .ok (.istore_n 2, 1) := by decide +kernel
theorem d_MM_empty_2 : decode b_MM_empty 2 = .ok (.iload_n 2, 1) := by decide +kernel
theorem d_MM_empty_3 : decode b_MM_empty 3 = .ok (.bipush 40, 2) := by decide +kernel
theorem d_MM_empty_5 : decode b_MM_empty 5 = .ok (.if_icmp .ge 26, 3) := by decide +kernel
theorem d_MM_empty_8 : decode b_MM_empty 8 = .ok (.aload_n 0, 1) := by decide +kernel
theorem d_MM_empty_9 : decode b_MM_empty 9 = .ok (.getfield 26, 3) := by decide +kernel
theorem d_MM_empty_12 : decode b_MM_empty 12 = .ok (.iload_n 2, 1) := by decide +kernel
theorem d_MM_empty_13 : decode b_MM_empty 13 = .ok (.iaload, 1) := by decide +kernel
theorem d_MM_empty_14 : decode b_MM_empty 14 = .ok (.iload_n 1, 1) := by decide +kernel
theorem d_MM_empty_15 : decode b_MM_empty 15 = .ok (.if_icmp .ne 10, 3) := by decide +kernel
theorem d_MM_empty_18 : decode b_MM_empty 18 = .ok (.aload_n 0, 1) := by decide +kernel
theorem d_MM_empty_19 : decode b_MM_empty 19 = .ok (.getfield 26, 3) := by decide +kernel
theorem d_MM_empty_22 : decode b_MM_empty 22 = .ok (.iload_n 2, 1) := by decide +kernel
theorem d_MM_empty_23 : decode b_MM_empty 23 = .ok (.iconst (-1), 1) := by decide +kernel
theorem d_MM_empty_24 : decode b_MM_empty 24 = .ok (.iastore, 1) := by decide +kernel
theorem d_MM_empty_25 : decode b_MM_empty 25 = .ok (.iinc 2 1, 3) := by decide +kernel
theorem d_MM_empty_28 : decode b_MM_empty 28 = .ok (.goto (-26), 3) := by decide +kernel
theorem d_MM_empty_31 : decode b_MM_empty 31 = .ok (.aload_n 0, 1) := by decide +kernel
theorem d_MM_empty_32 : decode b_MM_empty 32 = .ok (.getfield 23, 3) := by decide +kernel
theorem d_MM_empty_35 : decode b_MM_empty 35 = .ok (.iload_n 1, 1) := by decide +kernel
theorem d_MM_empty_36 : decode b_MM_empty 36 = .ok (.iconst (-1), 1) := by decide +kernel
theorem d_MM_empty_37 : decode b_MM_empty 37 = .ok (.iastore, 1) := by decide +kernel
theorem d_MM_empty_38 : decode b_MM_empty 38 = .ok (.return_, 1) := by decide +kernel
theorem d_MM_current_0 : decode b_MM_current 0 = .ok (.aload_n 0, 1) := by decide +kernel
theorem d_MM_current_1 : decode b_MM_current 1 = .ok (.getfield 48, 3) := by decide +kernel
theorem d_MM_current_4 : decode b_MM_current 4 = .ok (.iload_n 1, 1) := by decide +kernel
theorem d_MM_current_5 : decode b_MM_current 5 = .ok (.bipush 12, 2) := by decide +kernel
theorem d_MM_current_7 : decode b_MM_current 7 = .ok (.imul, 1) := by decide +kernel
theorem d_MM_current_8 : decode b_MM_current 8 = .ok (.aload_n 0, 1) := by decide +kernel
theorem d_MM_current_9 : decode b_MM_current 9 = .ok (.getfield 45, 3) := by decide +kernel
theorem d_MM_current_12 : decode b_MM_current 12 = .ok (.iload_n 1, 1) := by decide +kernel
theorem d_MM_current_13 : decode b_MM_current 13 = .ok (.iaload, 1) := by decide +kernel
theorem d_MM_current_14 : decode b_MM_current 14 = .ok (.iadd, 1) := by decide +kernel
theorem d_MM_current_15 : decode b_MM_current 15 = .ok (.iconst 1, 1) := by decide +kernel
theorem d_MM_current_16 : decode b_MM_current 16 = .ok (.isub, 1) := by decide +kernel
theorem d_MM_current_17 : decode b_MM_current 17 = .ok (.iaload, 1) := by decide +kernel
theorem d_MM_current_18 : decode b_MM_current 18 = .ok (.ireturn, 1) := by decide +kernel
theorem d_MM_make_0 : decode b_MM_make 0 = .ok (.aload_n 0, 1) := by decide +kernel
theorem d_MM_make_1 : decode b_MM_make 1 = .ok (.iload_n 1, 1) := by decide +kernel
theorem d_MM_make_2 : decode b_MM_make 2 = .ok (.invokevirtual 72, 3) := by decide +kernel
theorem d_MM_make_5 : decode b_MM_make 5 = .ok (.ifCond .ne 12, 3) := by decide +kernel
theorem d_MM_make_8 : decode b_MM_make 8 = .ok (.iload_n 2, 1) := by decide +kernel
theorem d_MM_make_9 : decode b_MM_make 9 = .ok (.ifCond .lt 8, 3) := by decide +kernel
theorem d_MM_make_12 : decode b_MM_make 12 = .ok (.iload_n 2, 1) := by decide +kernel
theorem d_MM_make_13 : decode b_MM_make 13 = .ok (.iconst 4, 1) := by decide +kernel
theorem d_MM_make_14 : decode b_MM_make 14 = .ok (.if_icmp .le 5, 3) := by decide +kernel
theorem d_MM_make_17 : decode b_MM_make 17 = .ok (.iconst (-1), 1) := by decide +kernel
theorem d_MM_make_18 : decode b_MM_make 18 = .ok (.ireturn, 1) := by decide +kernel
theorem d_MM_make_19 : decode b_MM_make 19 = .ok (.aload_n 0, 1) := by decide +kernel
theorem d_MM_make_20 : decode b_MM_make 20 = .ok (.iload_n 1, 1) := by decide +kernel
theorem d_MM_make_21 : decode b_MM_make 21 = .ok (.invokevirtual 92, 3) := by decide +kernel
theorem d_MM_make_24 : decode b_MM_make 24 = .ok (.istore_n 3, 1) := by decide +kernel
theorem d_MM_make_25 : decode b_MM_make 25 = .ok (.iconst 0, 1) := by decide +kernel
theorem d_MM_make_26 : decode b_MM_make 26 = .ok (.istore 4, 2) := by decide +kernel
theorem d_MM_make_28 : decode b_MM_make 28 = .ok (.iload 4, 2) := by decide +kernel
theorem d_MM_make_30 : decode b_MM_make 30 = .ok (.bipush 40, 2) := by decide +kernel
theorem d_MM_make_32 : decode b_MM_make 32 = .ok (.if_icmp .ge 19, 3) := by decide +kernel
theorem d_MM_make_35 : decode b_MM_make 35 = .ok (.aload_n 0, 1) := by decide +kernel
theorem d_MM_make_36 : decode b_MM_make 36 = .ok (.getfield 26, 3) := by decide +kernel
theorem d_MM_make_39 : decode b_MM_make 39 = .ok (.iload 4, 2) := by decide +kernel
theorem d_MM_make_41 : decode b_MM_make 41 = .ok (.iaload, 1) := by decide +kernel
theorem d_MM_make_42 : decode b_MM_make 42 = .ok (.ifCond .lt 9, 3) := by decide +kernel
theorem d_MM_make_45 : decode b_MM_make 45 = .ok (.iinc 4 1, 3) := by decide +kernel
theorem d_MM_make_48 : decode b_MM_make 48 = .ok (.goto (-20), 3) := by decide +kernel
theorem d_MM_make_51 : decode b_MM_make 51 = .ok (.iload 4, 2) := by decide +kernel
theorem d_MM_make_53 : decode b_MM_make 53 = .ok (.bipush 40, 2) := by decide +kernel
theorem d_MM_make_55 : decode b_MM_make 55 = .ok (.if_icmp .eq 21, 3) := by decide +kernel
theorem d_MM_make_58 : decode b_MM_make 58 = .ok (.aload_n 0, 1) := by decide +kernel
theorem d_MM_make_59 : decode b_MM_make 59 = .ok (.iload_n 3, 1) := by decide +kernel
theorem d_MM_make_60 : decode b_MM_make 60 = .ok (.invokevirtual 95, 3) := by decide +kernel
theorem d_MM_make_63 : decode b_MM_make 63 = .ok (.iconst 1, 1) := by decide +kernel
theorem d_MM_make_64 : decode b_MM_make 64 = .ok (.iadd, 1) := by decide +kernel
theorem d_MM_make_65 : decode b_MM_make 65 = .ok (.iload_n 2, 1) := by decide +kernel
theorem d_MM_make_66 : decode b_MM_make 66 = .ok (.iadd, 1) := by decide +kernel
theorem d_MM_make_67 : decode b_MM_make 67 = .ok (.aload_n 0, 1) := by decide +kernel
theorem d_MM_make_68 : decode b_MM_make 68 = .ok (.getfield 13, 3) := by decide +kernel
theorem d_MM_make_71 : decode b_MM_make 71 = .ok (.iload_n 3, 1) := by decide +kernel
theorem d_MM_make_72 : decode b_MM_make 72 = .ok (.iaload, 1) := by decide +kernel
theorem d_MM_make_73 : decode b_MM_make 73 = .ok (.if_icmp .le 6, 3) := by decide +kernel
theorem d_MM_make_76 : decode b_MM_make 76 = .ok (.bipush (-2), 2) := by decide +kernel
theorem d_MM_make_78 : decode b_MM_make 78 = .ok (.ireturn, 1) := by decide +kernel
theorem d_MM_make_79 : decode b_MM_make 79 = .ok (.aload_n 0, 1) := by decide +kernel
theorem d_MM_make_80 : decode b_MM_make 80 = .ok (.getfield 26, 3) := by decide +kernel
theorem d_MM_make_83 : decode b_MM_make 83 = .ok (.iload 4, 2) := by decide +kernel
theorem d_MM_make_85 : decode b_MM_make 85 = .ok (.iload_n 3, 1) := by decide +kernel
theorem d_MM_make_86 : decode b_MM_make 86 = .ok (.iastore, 1) := by decide +kernel
theorem d_MM_make_87 : decode b_MM_make 87 = .ok (.aload_n 0, 1) := by decide +kernel
theorem d_MM_make_88 : decode b_MM_make 88 = .ok (.getfield 29, 3) := by decide +kernel
theorem d_MM_make_91 : decode b_MM_make 91 = .ok (.iload 4, 2) := by decide +kernel
theorem d_MM_make_93 : decode b_MM_make 93 = .ok (.iload_n 2, 1) := by decide +kernel
theorem d_MM_make_94 : decode b_MM_make 94 = .ok (.iastore, 1) := by decide +kernel
theorem d_MM_make_95 : decode b_MM_make 95 = .ok (.iconst 0, 1) := by decide +kernel
theorem d_MM_make_96 : decode b_MM_make 96 = .ok (.istore 5, 2) := by decide +kernel
theorem d_MM_make_98 : decode b_MM_make 98 = .ok (.iload 5, 2) := by decide +kernel
theorem d_MM_make_100 : decode b_MM_make 100 = .ok (.iconst 4, 1) := by decide +kernel
theorem d_MM_make_101 : decode b_MM_make 101 = .ok (.if_icmp .ge 22, 3) := by decide +kernel
theorem d_MM_make_104 : decode b_MM_make 104 = .ok (.aload_n 0, 1) := by decide +kernel
theorem d_MM_make_105 : decode b_MM_make 105 = .ok (.getfield 32, 3) := by decide +kernel
theorem d_MM_make_108 : decode b_MM_make 108 = .ok (.iload 4, 2) := by decide +kernel
theorem d_MM_make_110 : decode b_MM_make 110 = .ok (.iconst 4, 1) := by decide +kernel
theorem d_MM_make_111 : decode b_MM_make 111 = .ok (.imul, 1) := by decide +kernel
theorem d_MM_make_112 : decode b_MM_make 112 = .ok (.iload 5, 2) := by decide +kernel
theorem d_MM_make_114 : decode b_MM_make 114 = .ok (.iadd, 1) := by decide +kernel
theorem d_MM_make_115 : decode b_MM_make 115 = .ok (.iconst (-1), 1) := by decide +kernel
theorem d_MM_make_116 : decode b_MM_make 116 = .ok (.iastore, 1) := by decide +kernel
theorem d_MM_make_117 : decode b_MM_make 117 = .ok (.iinc 5 1, 3) := by decide +kernel
theorem d_MM_make_120 : decode b_MM_make 120 = .ok (.goto (-22), 3) := by decide +kernel
theorem d_MM_make_123 : decode b_MM_make 123 = .ok (.iload 4, 2) := by decide +kernel
theorem d_MM_make_125 : decode b_MM_make 125 = .ok (.ireturn, 1) := by decide +kernel
theorem d_MM_sees_0 : decode b_MM_sees 0 = .ok (.aload_n 0, 1) := by decide +kernel
theorem d_MM_sees_1 : decode b_MM_sees 1 = .ok (.getfield 26, 3) := by decide +kernel
theorem d_MM_sees_4 : decode b_MM_sees 4 = .ok (.iload_n 2, 1) := by decide +kernel
theorem d_MM_sees_5 : decode b_MM_sees 5 = .ok (.iaload, 1) := by decide +kernel
theorem d_MM_sees_6 : decode b_MM_sees 6 = .ok (.ifCond .ne 18, 3) := by decide +kernel
theorem d_MM_sees_9 : decode b_MM_sees 9 = .ok (.aload_n 0, 1) := by decide +kernel
theorem d_MM_sees_10 : decode b_MM_sees 10 = .ok (.getfield 42, 3) := by decide +kernel
theorem d_MM_sees_13 : decode b_MM_sees 13 = .ok (.iload_n 1, 1) := by decide +kernel
theorem d_MM_sees_14 : decode b_MM_sees 14 = .ok (.baload, 1) := by decide +kernel
theorem d_MM_sees_15 : decode b_MM_sees 15 = .ok (.ifCond .ne 7, 3) := by decide +kernel
theorem d_MM_sees_18 : decode b_MM_sees 18 = .ok (.iconst 1, 1) := by decide +kernel
theorem d_MM_sees_19 : decode b_MM_sees 19 = .ok (.goto 4, 3) := by decide +kernel
theorem d_MM_sees_22 : decode b_MM_sees 22 = .ok (.iconst 0, 1) := by decide +kernel
theorem d_MM_sees_23 : decode b_MM_sees 23 = .ok (.ireturn, 1) := by decide +kernel
theorem d_MM_sees_24 : decode b_MM_sees 24 = .ok (.aload_n 0, 1) := by decide +kernel
theorem d_MM_sees_25 : decode b_MM_sees 25 = .ok (.getfield 26, 3) := by decide +kernel
theorem d_MM_sees_28 : decode b_MM_sees 28 = .ok (.iload_n 2, 1) := by decide +kernel
theorem d_MM_sees_29 : decode b_MM_sees 29 = .ok (.iaload, 1) := by decide +kernel
theorem d_MM_sees_30 : decode b_MM_sees 30 = .ok (.iconst 1, 1) := by decide +kernel
theorem d_MM_sees_31 : decode b_MM_sees 31 = .ok (.if_icmp .eq 17, 3) := by decide +kernel
theorem d_MM_sees_34 : decode b_MM_sees 34 = .ok (.aload_n 0, 1) := by decide +kernel
theorem d_MM_sees_35 : decode b_MM_sees 35 = .ok (.iload_n 1, 1) := by decide +kernel
theorem d_MM_sees_36 : decode b_MM_sees 36 = .ok (.aload_n 0, 1) := by decide +kernel
theorem d_MM_sees_37 : decode b_MM_sees 37 = .ok (.getfield 26, 3) := by decide +kernel
theorem d_MM_sees_40 : decode b_MM_sees 40 = .ok (.iload_n 2, 1) := by decide +kernel
theorem d_MM_sees_41 : decode b_MM_sees 41 = .ok (.iaload, 1) := by decide +kernel
theorem d_MM_sees_42 : decode b_MM_sees 42 = .ok (.invokevirtual 79, 3) := by decide +kernel
theorem d_MM_sees_45 : decode b_MM_sees 45 = .ok (.ifCond .lt 7, 3) := by decide +kernel
theorem d_MM_sees_48 : decode b_MM_sees 48 = .ok (.iconst 1, 1) := by decide +kernel
theorem d_MM_sees_49 : decode b_MM_sees 49 = .ok (.goto 4, 3) := by decide +kernel
theorem d_MM_sees_52 : decode b_MM_sees 52 = .ok (.iconst 0, 1) := by decide +kernel
theorem d_MM_sees_53 : decode b_MM_sees 53 = .ok (.ireturn, 1) := by decide +kernel
theorem d_MM_liesIn_0 : decode b_MM_liesIn 0 = .ok (.iload_n 1, 1) := by decide +kernel
theorem d_MM_liesIn_1 : decode b_MM_liesIn 1 = .ok (.istore_n 3, 1) := by decide +kernel
theorem d_MM_liesIn_2 : decode b_MM_liesIn 2 = .ok (.iconst 0, 1) := by decide +kernel
theorem d_MM_liesIn_3 : decode b_MM_liesIn 3 = .ok (.istore 4, 2) := by decide +kernel
theorem d_MM_liesIn_5 : decode b_MM_liesIn 5 = .ok (.iload 4, 2) := by decide +kernel
theorem d_MM_liesIn_7 : decode b_MM_liesIn 7 = .ok (.bipush 10, 2) := by decide +kernel
theorem d_MM_liesIn_9 : decode b_MM_liesIn 9 = .ok (.if_icmp .ge 28, 3) := by decide +kernel
theorem d_MM_liesIn_12 : decode b_MM_liesIn 12 = .ok (.iload_n 3, 1) := by decide +kernel
theorem d_MM_liesIn_13 : decode b_MM_liesIn 13 = .ok (.iconst 1, 1) := by decide +kernel
theorem d_MM_liesIn_14 : decode b_MM_liesIn 14 = .ok (.if_icmp .le 23, 3) := by decide +kernel
theorem d_MM_liesIn_17 : decode b_MM_liesIn 17 = .ok (.iload_n 3, 1) := by decide +kernel
theorem d_MM_liesIn_18 : decode b_MM_liesIn 18 = .ok (.iload_n 2, 1) := by decide +kernel
theorem d_MM_liesIn_19 : decode b_MM_liesIn 19 = .ok (.if_icmp .ne 5, 3) := by decide +kernel
theorem d_MM_liesIn_22 : decode b_MM_liesIn 22 = .ok (.iconst 1, 1) := by decide +kernel
theorem d_MM_liesIn_23 : decode b_MM_liesIn 23 = .ok (.ireturn, 1) := by decide +kernel
theorem d_MM_liesIn_24 : decode b_MM_liesIn 24 = .ok (.aload_n 0, 1) := by decide +kernel
theorem d_MM_liesIn_25 : decode b_MM_liesIn 25 = .ok (.getfield 20, 3) := by decide +kernel
theorem d_MM_liesIn_28 : decode b_MM_liesIn 28 = .ok (.iload_n 3, 1) := by decide +kernel
theorem d_MM_liesIn_29 : decode b_MM_liesIn 29 = .ok (.iaload, 1) := by decide +kernel
theorem d_MM_liesIn_30 : decode b_MM_liesIn 30 = .ok (.istore_n 3, 1) := by decide +kernel
theorem d_MM_liesIn_31 : decode b_MM_liesIn 31 = .ok (.iinc 4 1, 3) := by decide +kernel
theorem d_MM_liesIn_34 : decode b_MM_liesIn 34 = .ok (.goto (-29), 3) := by decide +kernel
theorem d_MM_liesIn_37 : decode b_MM_liesIn 37 = .ok (.iconst 0, 1) := by decide +kernel
theorem d_MM_liesIn_38 : decode b_MM_liesIn 38 = .ok (.ireturn, 1) := by decide +kernel
theorem d_MM_mayPoint_0 : decode b_MM_mayPoint 0 = .ok (.aload_n 0, 1) := by decide +kernel
theorem d_MM_mayPoint_1 : decode b_MM_mayPoint 1 = .ok (.getfield 26, 3) := by decide +kernel
theorem d_MM_mayPoint_4 : decode b_MM_mayPoint 4 = .ok (.iload_n 2, 1) := by decide +kernel
theorem d_MM_mayPoint_5 : decode b_MM_mayPoint 5 = .ok (.iaload, 1) := by decide +kernel
theorem d_MM_mayPoint_6 : decode b_MM_mayPoint 6 = .ok (.iconst 2, 1) := by decide +kernel
theorem d_MM_mayPoint_7 : decode b_MM_mayPoint 7 = .ok (.if_icmp .lt 22, 3) := by decide +kernel
theorem d_MM_mayPoint_10 : decode b_MM_mayPoint 10 = .ok (.iload_n 1, 1) := by decide +kernel
theorem d_MM_mayPoint_11 : decode b_MM_mayPoint 11 = .ok (.iconst 1, 1) := by decide +kernel
theorem d_MM_mayPoint_12 : decode b_MM_mayPoint 12 = .ok (.if_icmp .le 21, 3) := by decide +kernel
theorem d_MM_mayPoint_15 : decode b_MM_mayPoint 15 = .ok (.aload_n 0, 1) := by decide +kernel
theorem d_MM_mayPoint_16 : decode b_MM_mayPoint 16 = .ok (.iload_n 1, 1) := by decide +kernel
theorem d_MM_mayPoint_17 : decode b_MM_mayPoint 17 = .ok (.aload_n 0, 1) := by decide +kernel
theorem d_MM_mayPoint_18 : decode b_MM_mayPoint 18 = .ok (.getfield 26, 3) := by decide +kernel
theorem d_MM_mayPoint_21 : decode b_MM_mayPoint 21 = .ok (.iload_n 2, 1) := by decide +kernel
theorem d_MM_mayPoint_22 : decode b_MM_mayPoint 22 = .ok (.iaload, 1) := by decide +kernel
theorem d_MM_mayPoint_23 : decode b_MM_mayPoint 23 = .ok (.invokevirtual 98, 3) := by decide +kernel
theorem d_MM_mayPoint_26 : decode b_MM_mayPoint 26 = .ok (.ifCond .eq 7, 3) := by decide +kernel
theorem d_MM_mayPoint_29 : decode b_MM_mayPoint 29 = .ok (.iconst 1, 1) := by decide +kernel
theorem d_MM_mayPoint_30 : decode b_MM_mayPoint 30 = .ok (.goto 4, 3) := by decide +kernel
theorem d_MM_mayPoint_33 : decode b_MM_mayPoint 33 = .ok (.iconst 0, 1) := by decide +kernel
theorem d_MM_mayPoint_34 : decode b_MM_mayPoint 34 = .ok (.ireturn, 1) := by decide +kernel
theorem d_MM_put_0 : decode b_MM_put 0 = .ok (.aload_n 0, 1) := by decide +kernel
theorem d_MM_put_1 : decode b_MM_put 1 = .ok (.iload_n 1, 1) := by decide +kernel
theorem d_MM_put_2 : decode b_MM_put 2 = .ok (.invokevirtual 72, 3) := by decide +kernel
theorem d_MM_put_5 : decode b_MM_put 5 = .ok (.ifCond .ne 35, 3) := by decide +kernel
theorem d_MM_put_8 : decode b_MM_put 8 = .ok (.aload_n 0, 1) := by decide +kernel
theorem d_MM_put_9 : decode b_MM_put 9 = .ok (.iload_n 2, 1) := by decide +kernel
theorem d_MM_put_10 : decode b_MM_put 10 = .ok (.invokevirtual 102, 3) := by decide +kernel
theorem d_MM_put_13 : decode b_MM_put 13 = .ok (.ifCond .ne 27, 3) := by decide +kernel
theorem d_MM_put_16 : decode b_MM_put 16 = .ok (.iload_n 3, 1) := by decide +kernel
theorem d_MM_put_17 : decode b_MM_put 17 = .ok (.ifCond .lt 23, 3) := by decide +kernel
theorem d_MM_put_20 : decode b_MM_put 20 = .ok (.iload_n 3, 1) := by decide +kernel
theorem d_MM_put_21 : decode b_MM_put 21 = .ok (.iconst 3, 1) := by decide +kernel
theorem d_MM_put_22 : decode b_MM_put 22 = .ok (.if_icmp .gt 18, 3) := by decide +kernel
theorem d_MM_put_25 : decode b_MM_put 25 = .ok (.iload 4, 2) := by decide +kernel
theorem d_MM_put_27 : decode b_MM_put 27 = .ok (.iconst (-1), 1) := by decide +kernel
theorem d_MM_put_28 : decode b_MM_put 28 = .ok (.if_icmp .eq 14, 3) := by decide +kernel
theorem d_MM_put_31 : decode b_MM_put 31 = .ok (.aload_n 0, 1) := by decide +kernel
theorem d_MM_put_32 : decode b_MM_put 32 = .ok (.iload 4, 2) := by decide +kernel
theorem d_MM_put_34 : decode b_MM_put 34 = .ok (.invokevirtual 102, 3) := by decide +kernel
theorem d_MM_put_37 : decode b_MM_put 37 = .ok (.ifCond .eq 5, 3) := by decide +kernel
theorem d_MM_put_40 : decode b_MM_put 40 = .ok (.iconst (-1), 1) := by decide +kernel
theorem d_MM_put_41 : decode b_MM_put 41 = .ok (.ireturn, 1) := by decide +kernel
theorem d_MM_put_42 : decode b_MM_put 42 = .ok (.iload_n 3, 1) := by decide +kernel
theorem d_MM_put_43 : decode b_MM_put 43 = .ok (.aload_n 0, 1) := by decide +kernel
theorem d_MM_put_44 : decode b_MM_put 44 = .ok (.getfield 29, 3) := by decide +kernel
theorem d_MM_put_47 : decode b_MM_put 47 = .ok (.iload_n 2, 1) := by decide +kernel
theorem d_MM_put_48 : decode b_MM_put 48 = .ok (.iaload, 1) := by decide +kernel
theorem d_MM_put_49 : decode b_MM_put 49 = .ok (.if_icmp .lt 5, 3) := by decide +kernel
theorem d_MM_put_52 : decode b_MM_put 52 = .ok (.iconst (-1), 1) := by decide +kernel
theorem d_MM_put_53 : decode b_MM_put 53 = .ok (.ireturn, 1) := by decide +kernel
theorem d_MM_put_54 : decode b_MM_put 54 = .ok (.aload_n 0, 1) := by decide +kernel
theorem d_MM_put_55 : decode b_MM_put 55 = .ok (.iload_n 1, 1) := by decide +kernel
theorem d_MM_put_56 : decode b_MM_put 56 = .ok (.iload_n 2, 1) := by decide +kernel
theorem d_MM_put_57 : decode b_MM_put 57 = .ok (.invokevirtual 105, 3) := by decide +kernel
theorem d_MM_put_60 : decode b_MM_put 60 = .ok (.ifCond .eq 18, 3) := by decide +kernel
theorem d_MM_put_63 : decode b_MM_put 63 = .ok (.iload 4, 2) := by decide +kernel
theorem d_MM_put_65 : decode b_MM_put 65 = .ok (.ifCond .lt 16, 3) := by decide +kernel
theorem d_MM_put_68 : decode b_MM_put 68 = .ok (.aload_n 0, 1) := by decide +kernel
theorem d_MM_put_69 : decode b_MM_put 69 = .ok (.iload_n 1, 1) := by decide +kernel
theorem d_MM_put_70 : decode b_MM_put 70 = .ok (.iload 4, 2) := by decide +kernel
theorem d_MM_put_72 : decode b_MM_put 72 = .ok (.invokevirtual 105, 3) := by decide +kernel
theorem d_MM_put_75 : decode b_MM_put 75 = .ok (.ifCond .ne 6, 3) := by decide +kernel
theorem d_MM_put_78 : decode b_MM_put 78 = .ok (.bipush (-4), 2) := by decide +kernel
theorem d_MM_put_80 : decode b_MM_put 80 = .ok (.ireturn, 1) := by decide +kernel
theorem d_MM_put_81 : decode b_MM_put 81 = .ok (.iload 4, 2) := by decide +kernel
theorem d_MM_put_83 : decode b_MM_put 83 = .ok (.ifCond .lt 21, 3) := by decide +kernel
theorem d_MM_put_86 : decode b_MM_put 86 = .ok (.aload_n 0, 1) := by decide +kernel
theorem d_MM_put_87 : decode b_MM_put 87 = .ok (.aload_n 0, 1) := by decide +kernel
theorem d_MM_put_88 : decode b_MM_put 88 = .ok (.getfield 26, 3) := by decide +kernel
theorem d_MM_put_91 : decode b_MM_put 91 = .ok (.iload_n 2, 1) := by decide +kernel
theorem d_MM_put_92 : decode b_MM_put 92 = .ok (.iaload, 1) := by decide +kernel
theorem d_MM_put_93 : decode b_MM_put 93 = .ok (.iload 4, 2) := by decide +kernel
theorem d_MM_put_95 : decode b_MM_put 95 = .ok (.invokevirtual 108, 3) := by decide +kernel
theorem d_MM_put_98 : decode b_MM_put 98 = .ok (.ifCond .ne 6, 3) := by decide +kernel
theorem d_MM_put_101 : decode b_MM_put 101 = .ok (.bipush (-5), 2) := by decide +kernel
theorem d_MM_put_103 : decode b_MM_put 103 = .ok (.ireturn, 1) := by decide +kernel
theorem d_MM_put_104 : decode b_MM_put 104 = .ok (.aload_n 0, 1) := by decide +kernel
theorem d_MM_put_105 : decode b_MM_put 105 = .ok (.getfield 32, 3) := by decide +kernel
theorem d_MM_put_108 : decode b_MM_put 108 = .ok (.iload_n 2, 1) := by decide +kernel
theorem d_MM_put_109 : decode b_MM_put 109 = .ok (.iconst 4, 1) := by decide +kernel
theorem d_MM_put_110 : decode b_MM_put 110 = .ok (.imul, 1) := by decide +kernel
theorem d_MM_put_111 : decode b_MM_put 111 = .ok (.iload_n 3, 1) := by decide +kernel
theorem d_MM_put_112 : decode b_MM_put 112 = .ok (.iadd, 1) := by decide +kernel
theorem d_MM_put_113 : decode b_MM_put 113 = .ok (.iload 4, 2) := by decide +kernel
theorem d_MM_put_115 : decode b_MM_put 115 = .ok (.iastore, 1) := by decide +kernel
theorem d_MM_put_116 : decode b_MM_put 116 = .ok (.iconst 0, 1) := by decide +kernel
theorem d_MM_put_117 : decode b_MM_put 117 = .ok (.ireturn, 1) := by decide +kernel
theorem d_MM_get_0 : decode b_MM_get 0 = .ok (.aload_n 0, 1) := by decide +kernel
theorem d_MM_get_1 : decode b_MM_get 1 = .ok (.iload_n 1, 1) := by decide +kernel
theorem d_MM_get_2 : decode b_MM_get 2 = .ok (.invokevirtual 72, 3) := by decide +kernel
theorem d_MM_get_5 : decode b_MM_get 5 = .ok (.ifCond .ne 25, 3) := by decide +kernel
theorem d_MM_get_8 : decode b_MM_get 8 = .ok (.aload_n 0, 1) := by decide +kernel
theorem d_MM_get_9 : decode b_MM_get 9 = .ok (.iload_n 2, 1) := by decide +kernel
theorem d_MM_get_10 : decode b_MM_get 10 = .ok (.invokevirtual 102, 3) := by decide +kernel
theorem d_MM_get_13 : decode b_MM_get 13 = .ok (.ifCond .ne 17, 3) := by decide +kernel
theorem d_MM_get_16 : decode b_MM_get 16 = .ok (.iload_n 3, 1) := by decide +kernel
theorem d_MM_get_17 : decode b_MM_get 17 = .ok (.ifCond .lt 13, 3) := by decide +kernel
theorem d_MM_get_20 : decode b_MM_get 20 = .ok (.iload_n 3, 1) := by decide +kernel
theorem d_MM_get_21 : decode b_MM_get 21 = .ok (.aload_n 0, 1) := by decide +kernel
theorem d_MM_get_22 : decode b_MM_get 22 = .ok (.getfield 29, 3) := by decide +kernel
theorem d_MM_get_25 : decode b_MM_get 25 = .ok (.iload_n 2, 1) := by decide +kernel
theorem d_MM_get_26 : decode b_MM_get 26 = .ok (.iaload, 1) := by decide +kernel
theorem d_MM_get_27 : decode b_MM_get 27 = .ok (.if_icmp .lt 5, 3) := by decide +kernel
theorem d_MM_get_30 : decode b_MM_get 30 = .ok (.iconst (-1), 1) := by decide +kernel
theorem d_MM_get_31 : decode b_MM_get 31 = .ok (.ireturn, 1) := by decide +kernel
theorem d_MM_get_32 : decode b_MM_get 32 = .ok (.aload_n 0, 1) := by decide +kernel
theorem d_MM_get_33 : decode b_MM_get 33 = .ok (.iload_n 1, 1) := by decide +kernel
theorem d_MM_get_34 : decode b_MM_get 34 = .ok (.iload_n 2, 1) := by decide +kernel
theorem d_MM_get_35 : decode b_MM_get 35 = .ok (.invokevirtual 105, 3) := by decide +kernel
theorem d_MM_get_38 : decode b_MM_get 38 = .ok (.ifCond .ne 6, 3) := by decide +kernel
theorem d_MM_get_41 : decode b_MM_get 41 = .ok (.bipush (-4), 2) := by decide +kernel
theorem d_MM_get_43 : decode b_MM_get 43 = .ok (.ireturn, 1) := by decide +kernel
theorem d_MM_get_44 : decode b_MM_get 44 = .ok (.aload_n 0, 1) := by decide +kernel
theorem d_MM_get_45 : decode b_MM_get 45 = .ok (.getfield 32, 3) := by decide +kernel
theorem d_MM_get_48 : decode b_MM_get 48 = .ok (.iload_n 2, 1) := by decide +kernel
theorem d_MM_get_49 : decode b_MM_get 49 = .ok (.iconst 4, 1) := by decide +kernel
theorem d_MM_get_50 : decode b_MM_get 50 = .ok (.imul, 1) := by decide +kernel
theorem d_MM_get_51 : decode b_MM_get 51 = .ok (.iload_n 3, 1) := by decide +kernel
theorem d_MM_get_52 : decode b_MM_get 52 = .ok (.iadd, 1) := by decide +kernel
theorem d_MM_get_53 : decode b_MM_get 53 = .ok (.iaload, 1) := by decide +kernel
theorem d_MM_get_54 : decode b_MM_get 54 = .ok (.istore 4, 2) := by decide +kernel
theorem d_MM_get_56 : decode b_MM_get 56 = .ok (.iload 4, 2) := by decide +kernel
theorem d_MM_get_58 : decode b_MM_get 58 = .ok (.ifCond .ge 8, 3) := by decide +kernel
theorem d_MM_get_61 : decode b_MM_get 61 = .ok (.bipush (-6), 2) := by decide +kernel
theorem d_MM_get_63 : decode b_MM_get 63 = .ok (.goto 20, 3) := by decide +kernel
theorem d_MM_get_66 : decode b_MM_get 66 = .ok (.aload_n 0, 1) := by decide +kernel
theorem d_MM_get_67 : decode b_MM_get 67 = .ok (.iload_n 1, 1) := by decide +kernel
theorem d_MM_get_68 : decode b_MM_get 68 = .ok (.iload 4, 2) := by decide +kernel
theorem d_MM_get_70 : decode b_MM_get 70 = .ok (.invokevirtual 105, 3) := by decide +kernel
theorem d_MM_get_73 : decode b_MM_get 73 = .ok (.ifCond .eq 8, 3) := by decide +kernel
theorem d_MM_get_76 : decode b_MM_get 76 = .ok (.iload 4, 2) := by decide +kernel
theorem d_MM_get_78 : decode b_MM_get 78 = .ok (.goto 5, 3) := by decide +kernel
theorem d_MM_get_81 : decode b_MM_get 81 = .ok (.bipush (-4), 2) := by decide +kernel
theorem d_MM_get_83 : decode b_MM_get 83 = .ok (.ireturn, 1) := by decide +kernel
theorem d_MM_hang_0 : decode b_MM_hang 0 = .ok (.aload_n 0, 1) := by decide +kernel
theorem d_MM_hang_1 : decode b_MM_hang 1 = .ok (.iload_n 1, 1) := by decide +kernel
theorem d_MM_hang_2 : decode b_MM_hang 2 = .ok (.invokevirtual 72, 3) := by decide +kernel
theorem d_MM_hang_5 : decode b_MM_hang 5 = .ok (.ifCond .ne 24, 3) := by decide +kernel
theorem d_MM_hang_8 : decode b_MM_hang 8 = .ok (.aload_n 0, 1) := by decide +kernel
theorem d_MM_hang_9 : decode b_MM_hang 9 = .ok (.iload_n 2, 1) := by decide +kernel
theorem d_MM_hang_10 : decode b_MM_hang 10 = .ok (.invokevirtual 76, 3) := by decide +kernel
theorem d_MM_hang_13 : decode b_MM_hang 13 = .ok (.ifCond .ne 16, 3) := by decide +kernel
theorem d_MM_hang_16 : decode b_MM_hang 16 = .ok (.iload_n 3, 1) := by decide +kernel
theorem d_MM_hang_17 : decode b_MM_hang 17 = .ok (.iconst (-1), 1) := by decide +kernel
theorem d_MM_hang_18 : decode b_MM_hang 18 = .ok (.if_icmp .eq 13, 3) := by decide +kernel
theorem d_MM_hang_21 : decode b_MM_hang 21 = .ok (.aload_n 0, 1) := by decide +kernel
theorem d_MM_hang_22 : decode b_MM_hang 22 = .ok (.iload_n 3, 1) := by decide +kernel
theorem d_MM_hang_23 : decode b_MM_hang 23 = .ok (.invokevirtual 102, 3) := by decide +kernel
theorem d_MM_hang_26 : decode b_MM_hang 26 = .ok (.ifCond .eq 5, 3) := by decide +kernel
theorem d_MM_hang_29 : decode b_MM_hang 29 = .ok (.iconst (-1), 1) := by decide +kernel
theorem d_MM_hang_30 : decode b_MM_hang 30 = .ok (.ireturn, 1) := by decide +kernel
theorem d_MM_hang_31 : decode b_MM_hang 31 = .ok (.aload_n 0, 1) := by decide +kernel
theorem d_MM_hang_32 : decode b_MM_hang 32 = .ok (.iload_n 1, 1) := by decide +kernel
theorem d_MM_hang_33 : decode b_MM_hang 33 = .ok (.iload_n 2, 1) := by decide +kernel
theorem d_MM_hang_34 : decode b_MM_hang 34 = .ok (.invokevirtual 79, 3) := by decide +kernel
theorem d_MM_hang_37 : decode b_MM_hang 37 = .ok (.ifCond .lt 16, 3) := by decide +kernel
theorem d_MM_hang_40 : decode b_MM_hang 40 = .ok (.iload_n 3, 1) := by decide +kernel
theorem d_MM_hang_41 : decode b_MM_hang 41 = .ok (.ifCond .lt 15, 3) := by decide +kernel
theorem d_MM_hang_44 : decode b_MM_hang 44 = .ok (.aload_n 0, 1) := by decide +kernel
theorem d_MM_hang_45 : decode b_MM_hang 45 = .ok (.iload_n 1, 1) := by decide +kernel
theorem d_MM_hang_46 : decode b_MM_hang 46 = .ok (.iload_n 3, 1) := by decide +kernel
theorem d_MM_hang_47 : decode b_MM_hang 47 = .ok (.invokevirtual 105, 3) := by decide +kernel
theorem d_MM_hang_50 : decode b_MM_hang 50 = .ok (.ifCond .ne 6, 3) := by decide +kernel
theorem d_MM_hang_53 : decode b_MM_hang 53 = .ok (.bipush (-4), 2) := by decide +kernel
theorem d_MM_hang_55 : decode b_MM_hang 55 = .ok (.ireturn, 1) := by decide +kernel
theorem d_MM_hang_56 : decode b_MM_hang 56 = .ok (.iload_n 3, 1) := by decide +kernel
theorem d_MM_hang_57 : decode b_MM_hang 57 = .ok (.ifCond .lt 16, 3) := by decide +kernel
theorem d_MM_hang_60 : decode b_MM_hang 60 = .ok (.aload_n 0, 1) := by decide +kernel
theorem d_MM_hang_61 : decode b_MM_hang 61 = .ok (.getfield 26, 3) := by decide +kernel
theorem d_MM_hang_64 : decode b_MM_hang 64 = .ok (.iload_n 3, 1) := by decide +kernel
theorem d_MM_hang_65 : decode b_MM_hang 65 = .ok (.iaload, 1) := by decide +kernel
theorem d_MM_hang_66 : decode b_MM_hang 66 = .ok (.iload_n 2, 1) := by decide +kernel
theorem d_MM_hang_67 : decode b_MM_hang 67 = .ok (.if_icmp .eq 6, 3) := by decide +kernel
theorem d_MM_hang_70 : decode b_MM_hang 70 = .ok (.bipush (-5), 2) := by decide +kernel
theorem d_MM_hang_72 : decode b_MM_hang 72 = .ok (.ireturn, 1) := by decide +kernel
theorem d_MM_hang_73 : decode b_MM_hang 73 = .ok (.aload_n 0, 1) := by decide +kernel
theorem d_MM_hang_74 : decode b_MM_hang 74 = .ok (.getfield 23, 3) := by decide +kernel
theorem d_MM_hang_77 : decode b_MM_hang 77 = .ok (.iload_n 2, 1) := by decide +kernel
theorem d_MM_hang_78 : decode b_MM_hang 78 = .ok (.iload_n 3, 1) := by decide +kernel
theorem d_MM_hang_79 : decode b_MM_hang 79 = .ok (.iastore, 1) := by decide +kernel
theorem d_MM_hang_80 : decode b_MM_hang 80 = .ok (.iconst 0, 1) := by decide +kernel
theorem d_MM_hang_81 : decode b_MM_hang 81 = .ok (.ireturn, 1) := by decide +kernel
theorem d_MM_portal_0 : decode b_MM_portal 0 = .ok (.aload_n 0, 1) := by decide +kernel
theorem d_MM_portal_1 : decode b_MM_portal 1 = .ok (.iload_n 1, 1) := by decide +kernel
theorem d_MM_portal_2 : decode b_MM_portal 2 = .ok (.invokevirtual 72, 3) := by decide +kernel
theorem d_MM_portal_5 : decode b_MM_portal 5 = .ok (.ifCond .ne 11, 3) := by decide +kernel
theorem d_MM_portal_8 : decode b_MM_portal 8 = .ok (.aload_n 0, 1) := by decide +kernel
theorem d_MM_portal_9 : decode b_MM_portal 9 = .ok (.iload_n 2, 1) := by decide +kernel
theorem d_MM_portal_10 : decode b_MM_portal 10 = .ok (.invokevirtual 76, 3) := by decide +kernel
theorem d_MM_portal_13 : decode b_MM_portal 13 = .ok (.ifCond .eq 5, 3) := by decide +kernel
theorem d_MM_portal_16 : decode b_MM_portal 16 = .ok (.iconst (-1), 1) := by decide +kernel
theorem d_MM_portal_17 : decode b_MM_portal 17 = .ok (.ireturn, 1) := by decide +kernel
theorem d_MM_portal_18 : decode b_MM_portal 18 = .ok (.aload_n 0, 1) := by decide +kernel
theorem d_MM_portal_19 : decode b_MM_portal 19 = .ok (.iload_n 1, 1) := by decide +kernel
theorem d_MM_portal_20 : decode b_MM_portal 20 = .ok (.iload_n 2, 1) := by decide +kernel
theorem d_MM_portal_21 : decode b_MM_portal 21 = .ok (.invokevirtual 79, 3) := by decide +kernel
theorem d_MM_portal_24 : decode b_MM_portal 24 = .ok (.ifCond .ge 6, 3) := by decide +kernel
theorem d_MM_portal_27 : decode b_MM_portal 27 = .ok (.bipush (-4), 2) := by decide +kernel
theorem d_MM_portal_29 : decode b_MM_portal 29 = .ok (.ireturn, 1) := by decide +kernel
theorem d_MM_portal_30 : decode b_MM_portal 30 = .ok (.aload_n 0, 1) := by decide +kernel
theorem d_MM_portal_31 : decode b_MM_portal 31 = .ok (.getfield 23, 3) := by decide +kernel
theorem d_MM_portal_34 : decode b_MM_portal 34 = .ok (.iload_n 2, 1) := by decide +kernel
theorem d_MM_portal_35 : decode b_MM_portal 35 = .ok (.iaload, 1) := by decide +kernel
theorem d_MM_portal_36 : decode b_MM_portal 36 = .ok (.ifCond .ge 8, 3) := by decide +kernel
theorem d_MM_portal_39 : decode b_MM_portal 39 = .ok (.bipush (-6), 2) := by decide +kernel
theorem d_MM_portal_41 : decode b_MM_portal 41 = .ok (.goto 9, 3) := by decide +kernel
theorem d_MM_portal_44 : decode b_MM_portal 44 = .ok (.aload_n 0, 1) := by decide +kernel
theorem d_MM_portal_45 : decode b_MM_portal 45 = .ok (.getfield 23, 3) := by decide +kernel
theorem d_MM_portal_48 : decode b_MM_portal 48 = .ok (.iload_n 2, 1) := by decide +kernel
theorem d_MM_portal_49 : decode b_MM_portal 49 = .ok (.iaload, 1) := by decide +kernel
theorem d_MM_portal_50 : decode b_MM_portal 50 = .ok (.ireturn, 1) := by decide +kernel
theorem d_MM_assign_0 : decode b_MM_assign 0 = .ok (.aload_n 0, 1) := by decide +kernel
theorem d_MM_assign_1 : decode b_MM_assign 1 = .ok (.iload_n 1, 1) := by decide +kernel
theorem d_MM_assign_2 : decode b_MM_assign 2 = .ok (.invokevirtual 72, 3) := by decide +kernel
theorem d_MM_assign_5 : decode b_MM_assign 5 = .ok (.ifCond .ne 25, 3) := by decide +kernel
theorem d_MM_assign_8 : decode b_MM_assign 8 = .ok (.iload_n 2, 1) := by decide +kernel
theorem d_MM_assign_9 : decode b_MM_assign 9 = .ok (.ifCond .lt 21, 3) := by decide +kernel
theorem d_MM_assign_12 : decode b_MM_assign 12 = .ok (.iload_n 2, 1) := by decide +kernel
theorem d_MM_assign_13 : decode b_MM_assign 13 = .ok (.iconst 3, 1) := by decide +kernel
theorem d_MM_assign_14 : decode b_MM_assign 14 = .ok (.if_icmp .gt 16, 3) := by decide +kernel
theorem d_MM_assign_17 : decode b_MM_assign 17 = .ok (.iload_n 3, 1) := by decide +kernel
theorem d_MM_assign_18 : decode b_MM_assign 18 = .ok (.iconst (-1), 1) := by decide +kernel
theorem d_MM_assign_19 : decode b_MM_assign 19 = .ok (.if_icmp .eq 13, 3) := by decide +kernel
theorem d_MM_assign_22 : decode b_MM_assign 22 = .ok (.aload_n 0, 1) := by decide +kernel
theorem d_MM_assign_23 : decode b_MM_assign 23 = .ok (.iload_n 3, 1) := by decide +kernel
theorem d_MM_assign_24 : decode b_MM_assign 24 = .ok (.invokevirtual 102, 3) := by decide +kernel
theorem d_MM_assign_27 : decode b_MM_assign 27 = .ok (.ifCond .eq 5, 3) := by decide +kernel
theorem d_MM_assign_30 : decode b_MM_assign 30 = .ok (.iconst (-1), 1) := by decide +kernel
theorem d_MM_assign_31 : decode b_MM_assign 31 = .ok (.ireturn, 1) := by decide +kernel
theorem d_MM_assign_32 : decode b_MM_assign 32 = .ok (.iload_n 3, 1) := by decide +kernel
theorem d_MM_assign_33 : decode b_MM_assign 33 = .ok (.ifCond .lt 15, 3) := by decide +kernel
theorem d_MM_assign_36 : decode b_MM_assign 36 = .ok (.aload_n 0, 1) := by decide +kernel
theorem d_MM_assign_37 : decode b_MM_assign 37 = .ok (.iload_n 1, 1) := by decide +kernel
theorem d_MM_assign_38 : decode b_MM_assign 38 = .ok (.iload_n 3, 1) := by decide +kernel
theorem d_MM_assign_39 : decode b_MM_assign 39 = .ok (.invokevirtual 105, 3) := by decide +kernel
theorem d_MM_assign_42 : decode b_MM_assign 42 = .ok (.ifCond .ne 6, 3) := by decide +kernel
theorem d_MM_assign_45 : decode b_MM_assign 45 = .ok (.bipush (-4), 2) := by decide +kernel
theorem d_MM_assign_47 : decode b_MM_assign 47 = .ok (.ireturn, 1) := by decide +kernel
theorem d_MM_assign_48 : decode b_MM_assign 48 = .ok (.iload_n 3, 1) := by decide +kernel
theorem d_MM_assign_49 : decode b_MM_assign 49 = .ok (.ifCond .lt 16, 3) := by decide +kernel
theorem d_MM_assign_52 : decode b_MM_assign 52 = .ok (.aload_n 0, 1) := by decide +kernel
theorem d_MM_assign_53 : decode b_MM_assign 53 = .ok (.getfield 26, 3) := by decide +kernel
theorem d_MM_assign_56 : decode b_MM_assign 56 = .ok (.iload_n 3, 1) := by decide +kernel
theorem d_MM_assign_57 : decode b_MM_assign 57 = .ok (.iaload, 1) := by decide +kernel
theorem d_MM_assign_58 : decode b_MM_assign 58 = .ok (.iconst 1, 1) := by decide +kernel
theorem d_MM_assign_59 : decode b_MM_assign 59 = .ok (.if_icmp .le 6, 3) := by decide +kernel
theorem d_MM_assign_62 : decode b_MM_assign 62 = .ok (.bipush (-5), 2) := by decide +kernel
theorem d_MM_assign_64 : decode b_MM_assign 64 = .ok (.ireturn, 1) := by decide +kernel
theorem d_MM_assign_65 : decode b_MM_assign 65 = .ok (.aload_n 0, 1) := by decide +kernel
theorem d_MM_assign_66 : decode b_MM_assign 66 = .ok (.getfield 57, 3) := by decide +kernel
theorem d_MM_assign_69 : decode b_MM_assign 69 = .ok (.iload_n 2, 1) := by decide +kernel
theorem d_MM_assign_70 : decode b_MM_assign 70 = .ok (.iload_n 3, 1) := by decide +kernel
theorem d_MM_assign_71 : decode b_MM_assign 71 = .ok (.iastore, 1) := by decide +kernel
theorem d_MM_assign_72 : decode b_MM_assign 72 = .ok (.iconst 0, 1) := by decide +kernel
theorem d_MM_assign_73 : decode b_MM_assign 73 = .ok (.ireturn, 1) := by decide +kernel
theorem d_MM_keep_0 : decode b_MM_keep 0 = .ok (.iconst 0, 1) := by decide +kernel
theorem d_MM_keep_1 : decode b_MM_keep 1 = .ok (.istore_n 1, 1) := by decide +kernel
theorem d_MM_keep_2 : decode b_MM_keep 2 = .ok (.iconst 0, 1) := by decide +kernel
theorem d_MM_keep_3 : decode b_MM_keep 3 = .ok (.istore_n 2, 1) := by decide +kernel
theorem d_MM_keep_4 : decode b_MM_keep 4 = .ok (.iload_n 2, 1) := by decide +kernel
theorem d_MM_keep_5 : decode b_MM_keep 5 = .ok (.bipush 40, 2) := by decide +kernel
theorem d_MM_keep_7 : decode b_MM_keep 7 = .ok (.if_icmp .ge 16, 3) := by decide +kernel
theorem d_MM_keep_10 : decode b_MM_keep 10 = .ok (.aload_n 0, 1) := by decide +kernel
theorem d_MM_keep_11 : decode b_MM_keep 11 = .ok (.getfield 35, 3) := by decide +kernel
theorem d_MM_keep_14 : decode b_MM_keep 14 = .ok (.iload_n 2, 1) := by decide +kernel
theorem d_MM_keep_15 : decode b_MM_keep 15 = .ok (.iconst 0, 1) := by decide +kernel
theorem d_MM_keep_16 : decode b_MM_keep 16 = .ok (.bastore, 1) := by decide +kernel
theorem d_MM_keep_17 : decode b_MM_keep 17 = .ok (.iinc 2 1, 3) := by decide +kernel
theorem d_MM_keep_20 : decode b_MM_keep 20 = .ok (.goto (-16), 3) := by decide +kernel
theorem d_MM_keep_23 : decode b_MM_keep 23 = .ok (.iconst 1, 1) := by decide +kernel
theorem d_MM_keep_24 : decode b_MM_keep 24 = .ok (.istore_n 2, 1) := by decide +kernel
theorem d_MM_keep_25 : decode b_MM_keep 25 = .ok (.iconst 0, 1) := by decide +kernel
theorem d_MM_keep_26 : decode b_MM_keep 26 = .ok (.istore_n 3, 1) := by decide +kernel
theorem d_MM_keep_27 : decode b_MM_keep 27 = .ok (.iload_n 3, 1) := by decide +kernel
theorem d_MM_keep_28 : decode b_MM_keep 28 = .ok (.bipush 41, 2) := by decide +kernel
theorem d_MM_keep_30 : decode b_MM_keep 30 = .ok (.if_icmp .ge 141, 3) := by decide +kernel
theorem d_MM_keep_33 : decode b_MM_keep 33 = .ok (.iload_n 2, 1) := by decide +kernel
theorem d_MM_keep_34 : decode b_MM_keep 34 = .ok (.ifCond .eq 137, 3) := by decide +kernel
theorem d_MM_keep_37 : decode b_MM_keep 37 = .ok (.iconst 0, 1) := by decide +kernel
theorem d_MM_keep_38 : decode b_MM_keep 38 = .ok (.istore_n 2, 1) := by decide +kernel
theorem d_MM_keep_39 : decode b_MM_keep 39 = .ok (.iconst 0, 1) := by decide +kernel
theorem d_MM_keep_40 : decode b_MM_keep 40 = .ok (.istore 4, 2) := by decide +kernel
theorem d_MM_keep_42 : decode b_MM_keep 42 = .ok (.iload 4, 2) := by decide +kernel
theorem d_MM_keep_44 : decode b_MM_keep 44 = .ok (.iconst 4, 1) := by decide +kernel
theorem d_MM_keep_45 : decode b_MM_keep 45 = .ok (.if_icmp .ge 25, 3) := by decide +kernel
theorem d_MM_keep_48 : decode b_MM_keep 48 = .ok (.aload_n 0, 1) := by decide +kernel
theorem d_MM_keep_49 : decode b_MM_keep 49 = .ok (.aload_n 0, 1) := by decide +kernel
theorem d_MM_keep_50 : decode b_MM_keep 50 = .ok (.getfield 57, 3) := by decide +kernel
theorem d_MM_keep_53 : decode b_MM_keep 53 = .ok (.iload 4, 2) := by decide +kernel
theorem d_MM_keep_55 : decode b_MM_keep 55 = .ok (.iaload, 1) := by decide +kernel
theorem d_MM_keep_56 : decode b_MM_keep 56 = .ok (.invokevirtual 111, 3) := by decide +kernel
theorem d_MM_keep_59 : decode b_MM_keep 59 = .ok (.ifCond .eq 5, 3) := by decide +kernel
theorem d_MM_keep_62 : decode b_MM_keep 62 = .ok (.iconst 1, 1) := by decide +kernel
theorem d_MM_keep_63 : decode b_MM_keep 63 = .ok (.istore_n 2, 1) := by decide +kernel
theorem d_MM_keep_64 : decode b_MM_keep 64 = .ok (.iinc 4 1, 3) := by decide +kernel
theorem d_MM_keep_67 : decode b_MM_keep 67 = .ok (.goto (-25), 3) := by decide +kernel
theorem d_MM_keep_70 : decode b_MM_keep 70 = .ok (.iconst 0, 1) := by decide +kernel
theorem d_MM_keep_71 : decode b_MM_keep 71 = .ok (.istore 4, 2) := by decide +kernel
theorem d_MM_keep_73 : decode b_MM_keep 73 = .ok (.iload 4, 2) := by decide +kernel
theorem d_MM_keep_75 : decode b_MM_keep 75 = .ok (.sipush 160, 3) := by decide +kernel
theorem d_MM_keep_78 : decode b_MM_keep 78 = .ok (.if_icmp .ge 87, 3) := by decide +kernel
theorem d_MM_keep_81 : decode b_MM_keep 81 = .ok (.iload 4, 2) := by decide +kernel
theorem d_MM_keep_83 : decode b_MM_keep 83 = .ok (.iconst 4, 1) := by decide +kernel
theorem d_MM_keep_84 : decode b_MM_keep 84 = .ok (.idiv, 1) := by decide +kernel
theorem d_MM_keep_85 : decode b_MM_keep 85 = .ok (.istore 5, 2) := by decide +kernel
theorem d_MM_keep_87 : decode b_MM_keep 87 = .ok (.aload_n 0, 1) := by decide +kernel
theorem d_MM_keep_88 : decode b_MM_keep 88 = .ok (.getfield 26, 3) := by decide +kernel
theorem d_MM_keep_91 : decode b_MM_keep 91 = .ok (.iload 5, 2) := by decide +kernel
theorem d_MM_keep_93 : decode b_MM_keep 93 = .ok (.iaload, 1) := by decide +kernel
theorem d_MM_keep_94 : decode b_MM_keep 94 = .ok (.ifCond .gt 23, 3) := by decide +kernel
theorem d_MM_keep_97 : decode b_MM_keep 97 = .ok (.aload_n 0, 1) := by decide +kernel
theorem d_MM_keep_98 : decode b_MM_keep 98 = .ok (.getfield 26, 3) := by decide +kernel
theorem d_MM_keep_101 : decode b_MM_keep 101 = .ok (.iload 5, 2) := by decide +kernel
theorem d_MM_keep_103 : decode b_MM_keep 103 = .ok (.iaload, 1) := by decide +kernel
theorem d_MM_keep_104 : decode b_MM_keep 104 = .ok (.ifCond .ne 17, 3) := by decide +kernel
theorem d_MM_keep_107 : decode b_MM_keep 107 = .ok (.aload_n 0, 1) := by decide +kernel
theorem d_MM_keep_108 : decode b_MM_keep 108 = .ok (.getfield 35, 3) := by decide +kernel
theorem d_MM_keep_111 : decode b_MM_keep 111 = .ok (.iload 5, 2) := by decide +kernel
theorem d_MM_keep_113 : decode b_MM_keep 113 = .ok (.baload, 1) := by decide +kernel
theorem d_MM_keep_114 : decode b_MM_keep 114 = .ok (.ifCond .eq 7, 3) := by decide +kernel
theorem d_MM_keep_117 : decode b_MM_keep 117 = .ok (.iconst 1, 1) := by decide +kernel
theorem d_MM_keep_118 : decode b_MM_keep 118 = .ok (.goto 4, 3) := by decide +kernel
theorem d_MM_keep_121 : decode b_MM_keep 121 = .ok (.iconst 0, 1) := by decide +kernel
theorem d_MM_keep_122 : decode b_MM_keep 122 = .ok (.istore 6, 2) := by decide +kernel
theorem d_MM_keep_124 : decode b_MM_keep 124 = .ok (.iload 6, 2) := by decide +kernel
theorem d_MM_keep_126 : decode b_MM_keep 126 = .ok (.ifCond .eq 33, 3) := by decide +kernel
theorem d_MM_keep_129 : decode b_MM_keep 129 = .ok (.iload 4, 2) := by decide +kernel
theorem d_MM_keep_131 : decode b_MM_keep 131 = .ok (.iconst 4, 1) := by decide +kernel
theorem d_MM_keep_132 : decode b_MM_keep 132 = .ok (.irem, 1) := by decide +kernel
theorem d_MM_keep_133 : decode b_MM_keep 133 = .ok (.aload_n 0, 1) := by decide +kernel
theorem d_MM_keep_134 : decode b_MM_keep 134 = .ok (.getfield 29, 3) := by decide +kernel
theorem d_MM_keep_137 : decode b_MM_keep 137 = .ok (.iload 5, 2) := by decide +kernel
theorem d_MM_keep_139 : decode b_MM_keep 139 = .ok (.iaload, 1) := by decide +kernel
theorem d_MM_keep_140 : decode b_MM_keep 140 = .ok (.if_icmp .ge 19, 3) := by decide +kernel
theorem d_MM_keep_143 : decode b_MM_keep 143 = .ok (.aload_n 0, 1) := by decide +kernel
theorem d_MM_keep_144 : decode b_MM_keep 144 = .ok (.aload_n 0, 1) := by decide +kernel
theorem d_MM_keep_145 : decode b_MM_keep 145 = .ok (.getfield 32, 3) := by decide +kernel
theorem d_MM_keep_148 : decode b_MM_keep 148 = .ok (.iload 4, 2) := by decide +kernel
theorem d_MM_keep_150 : decode b_MM_keep 150 = .ok (.iaload, 1) := by decide +kernel
theorem d_MM_keep_151 : decode b_MM_keep 151 = .ok (.invokevirtual 111, 3) := by decide +kernel
theorem d_MM_keep_154 : decode b_MM_keep 154 = .ok (.ifCond .eq 5, 3) := by decide +kernel
theorem d_MM_keep_157 : decode b_MM_keep 157 = .ok (.iconst 1, 1) := by decide +kernel
theorem d_MM_keep_158 : decode b_MM_keep 158 = .ok (.istore_n 2, 1) := by decide +kernel
theorem d_MM_keep_159 : decode b_MM_keep 159 = .ok (.iinc 4 1, 3) := by decide +kernel
theorem d_MM_keep_162 : decode b_MM_keep 162 = .ok (.goto (-89), 3) := by decide +kernel
theorem d_MM_keep_165 : decode b_MM_keep 165 = .ok (.iinc 3 1, 3) := by decide +kernel
theorem d_MM_keep_168 : decode b_MM_keep 168 = .ok (.goto (-141), 3) := by decide +kernel
theorem d_MM_keep_171 : decode b_MM_keep 171 = .ok (.iconst 0, 1) := by decide +kernel
theorem d_MM_keep_172 : decode b_MM_keep 172 = .ok (.istore_n 3, 1) := by decide +kernel
theorem d_MM_keep_173 : decode b_MM_keep 173 = .ok (.iload_n 3, 1) := by decide +kernel
theorem d_MM_keep_174 : decode b_MM_keep 174 = .ok (.bipush 40, 2) := by decide +kernel
theorem d_MM_keep_176 : decode b_MM_keep 176 = .ok (.if_icmp .ge 21, 3) := by decide +kernel
theorem d_MM_keep_179 : decode b_MM_keep 179 = .ok (.aload_n 0, 1) := by decide +kernel
theorem d_MM_keep_180 : decode b_MM_keep 180 = .ok (.getfield 35, 3) := by decide +kernel
theorem d_MM_keep_183 : decode b_MM_keep 183 = .ok (.iload_n 3, 1) := by decide +kernel
theorem d_MM_keep_184 : decode b_MM_keep 184 = .ok (.baload, 1) := by decide +kernel
theorem d_MM_keep_185 : decode b_MM_keep 185 = .ok (.ifCond .eq 6, 3) := by decide +kernel
theorem d_MM_keep_188 : decode b_MM_keep 188 = .ok (.iinc 1 1, 3) := by decide +kernel
theorem d_MM_keep_191 : decode b_MM_keep 191 = .ok (.iinc 3 1, 3) := by decide +kernel
theorem d_MM_keep_194 : decode b_MM_keep 194 = .ok (.goto (-21), 3) := by decide +kernel
theorem d_MM_keep_197 : decode b_MM_keep 197 = .ok (.iload_n 1, 1) := by decide +kernel
theorem d_MM_keep_198 : decode b_MM_keep 198 = .ok (.ireturn, 1) := by decide +kernel
theorem d_MM_keeps_0 : decode b_MM_keeps 0 = .ok (.iload_n 1, 1) := by decide +kernel
theorem d_MM_keeps_1 : decode b_MM_keeps 1 = .ok (.ifCond .lt 21, 3) := by decide +kernel
theorem d_MM_keeps_4 : decode b_MM_keeps 4 = .ok (.aload_n 0, 1) := by decide +kernel
theorem d_MM_keeps_5 : decode b_MM_keeps 5 = .ok (.getfield 26, 3) := by decide +kernel
theorem d_MM_keeps_8 : decode b_MM_keeps 8 = .ok (.iload_n 1, 1) := by decide +kernel
theorem d_MM_keeps_9 : decode b_MM_keeps 9 = .ok (.iaload, 1) := by decide +kernel
theorem d_MM_keeps_10 : decode b_MM_keeps 10 = .ok (.ifCond .ne 12, 3) := by decide +kernel
theorem d_MM_keeps_13 : decode b_MM_keeps 13 = .ok (.aload_n 0, 1) := by decide +kernel
theorem d_MM_keeps_14 : decode b_MM_keeps 14 = .ok (.getfield 35, 3) := by decide +kernel
theorem d_MM_keeps_17 : decode b_MM_keeps 17 = .ok (.iload_n 1, 1) := by decide +kernel
theorem d_MM_keeps_18 : decode b_MM_keeps 18 = .ok (.baload, 1) := by decide +kernel
theorem d_MM_keeps_19 : decode b_MM_keeps 19 = .ok (.ifCond .eq 5, 3) := by decide +kernel
theorem d_MM_keeps_22 : decode b_MM_keeps 22 = .ok (.iconst 0, 1) := by decide +kernel
theorem d_MM_keeps_23 : decode b_MM_keeps 23 = .ok (.ireturn, 1) := by decide +kernel
theorem d_MM_keeps_24 : decode b_MM_keeps 24 = .ok (.aload_n 0, 1) := by decide +kernel
theorem d_MM_keeps_25 : decode b_MM_keeps 25 = .ok (.getfield 35, 3) := by decide +kernel
theorem d_MM_keeps_28 : decode b_MM_keeps 28 = .ok (.iload_n 1, 1) := by decide +kernel
theorem d_MM_keeps_29 : decode b_MM_keeps 29 = .ok (.iconst 1, 1) := by decide +kernel
theorem d_MM_keeps_30 : decode b_MM_keeps 30 = .ok (.bastore, 1) := by decide +kernel
theorem d_MM_keeps_31 : decode b_MM_keeps 31 = .ok (.iconst 1, 1) := by decide +kernel
theorem d_MM_keeps_32 : decode b_MM_keeps 32 = .ok (.ireturn, 1) := by decide +kernel
theorem d_MM_collect_0 : decode b_MM_collect 0 = .ok (.iconst 0, 1) := by decide +kernel
theorem d_MM_collect_1 : decode b_MM_collect 1 = .ok (.istore_n 1, 1) := by decide +kernel
theorem d_MM_collect_2 : decode b_MM_collect 2 = .ok (.aload_n 0, 1) := by decide +kernel
theorem d_MM_collect_3 : decode b_MM_collect 3 = .ok (.invokevirtual 114, 3) := by decide +kernel
theorem d_MM_collect_6 : decode b_MM_collect 6 = .ok (.pop, 1) := by decide +kernel
theorem d_MM_collect_7 : decode b_MM_collect 7 = .ok (.iconst 0, 1) := by decide +kernel
theorem d_MM_collect_8 : decode b_MM_collect 8 = .ok (.istore_n 2, 1) := by decide +kernel
theorem d_MM_collect_9 : decode b_MM_collect 9 = .ok (.iload_n 2, 1) := by decide +kernel
theorem d_MM_collect_10 : decode b_MM_collect 10 = .ok (.bipush 40, 2) := by decide +kernel
theorem d_MM_collect_12 : decode b_MM_collect 12 = .ok (.if_icmp .ge 40, 3) := by decide +kernel
theorem d_MM_collect_15 : decode b_MM_collect 15 = .ok (.aload_n 0, 1) := by decide +kernel
theorem d_MM_collect_16 : decode b_MM_collect 16 = .ok (.getfield 26, 3) := by decide +kernel
theorem d_MM_collect_19 : decode b_MM_collect 19 = .ok (.iload_n 2, 1) := by decide +kernel
theorem d_MM_collect_20 : decode b_MM_collect 20 = .ok (.iaload, 1) := by decide +kernel
theorem d_MM_collect_21 : decode b_MM_collect 21 = .ok (.ifCond .ne 25, 3) := by decide +kernel
theorem d_MM_collect_24 : decode b_MM_collect 24 = .ok (.aload_n 0, 1) := by decide +kernel
theorem d_MM_collect_25 : decode b_MM_collect 25 = .ok (.getfield 35, 3) := by decide +kernel
theorem d_MM_collect_28 : decode b_MM_collect 28 = .ok (.iload_n 2, 1) := by decide +kernel
theorem d_MM_collect_29 : decode b_MM_collect 29 = .ok (.baload, 1) := by decide +kernel
theorem d_MM_collect_30 : decode b_MM_collect 30 = .ok (.ifCond .eq 6, 3) := by decide +kernel
theorem d_MM_collect_33 : decode b_MM_collect 33 = .ok (.goto 13, 3) := by decide +kernel
theorem d_MM_collect_36 : decode b_MM_collect 36 = .ok (.aload_n 0, 1) := by decide +kernel
theorem d_MM_collect_37 : decode b_MM_collect 37 = .ok (.getfield 26, 3) := by decide +kernel
theorem d_MM_collect_40 : decode b_MM_collect 40 = .ok (.iload_n 2, 1) := by decide +kernel
theorem d_MM_collect_41 : decode b_MM_collect 41 = .ok (.iconst (-1), 1) := by decide +kernel
theorem d_MM_collect_42 : decode b_MM_collect 42 = .ok (.iastore, 1) := by decide +kernel
theorem d_MM_collect_43 : decode b_MM_collect 43 = .ok (.iinc 1 1, 3) := by decide +kernel
theorem d_MM_collect_46 : decode b_MM_collect 46 = .ok (.iinc 2 1, 3) := by decide +kernel
theorem d_MM_collect_49 : decode b_MM_collect 49 = .ok (.goto (-40), 3) := by decide +kernel
theorem d_MM_collect_52 : decode b_MM_collect 52 = .ok (.iload_n 1, 1) := by decide +kernel
theorem d_MM_collect_53 : decode b_MM_collect 53 = .ok (.ireturn, 1) := by decide +kernel
theorem d_MM_areaOf_0 : decode b_MM_areaOf 0 = .ok (.aload_n 0, 1) := by decide +kernel
theorem d_MM_areaOf_1 : decode b_MM_areaOf 1 = .ok (.iload_n 1, 1) := by decide +kernel
theorem d_MM_areaOf_2 : decode b_MM_areaOf 2 = .ok (.invokevirtual 102, 3) := by decide +kernel
theorem d_MM_areaOf_5 : decode b_MM_areaOf 5 = .ok (.ifCond .eq 7, 3) := by decide +kernel
theorem d_MM_areaOf_8 : decode b_MM_areaOf 8 = .ok (.iconst (-1), 1) := by decide +kernel
theorem d_MM_areaOf_9 : decode b_MM_areaOf 9 = .ok (.goto 9, 3) := by decide +kernel
theorem d_MM_areaOf_12 : decode b_MM_areaOf 12 = .ok (.aload_n 0, 1) := by decide +kernel
theorem d_MM_areaOf_13 : decode b_MM_areaOf 13 = .ok (.getfield 26, 3) := by decide +kernel
theorem d_MM_areaOf_16 : decode b_MM_areaOf 16 = .ok (.iload_n 1, 1) := by decide +kernel
theorem d_MM_areaOf_17 : decode b_MM_areaOf 17 = .ok (.iaload, 1) := by decide +kernel
theorem d_MM_areaOf_18 : decode b_MM_areaOf 18 = .ok (.ireturn, 1) := by decide +kernel
theorem d_MM_room_0 : decode b_MM_room 0 = .ok (.aload_n 0, 1) := by decide +kernel
theorem d_MM_room_1 : decode b_MM_room 1 = .ok (.iload_n 1, 1) := by decide +kernel
theorem d_MM_room_2 : decode b_MM_room 2 = .ok (.invokevirtual 85, 3) := by decide +kernel
theorem d_MM_room_5 : decode b_MM_room 5 = .ok (.ifCond .eq 7, 3) := by decide +kernel
theorem d_MM_room_8 : decode b_MM_room 8 = .ok (.iconst (-1), 1) := by decide +kernel
theorem d_MM_room_9 : decode b_MM_room 9 = .ok (.goto 15, 3) := by decide +kernel
theorem d_MM_room_12 : decode b_MM_room 12 = .ok (.aload_n 0, 1) := by decide +kernel
theorem d_MM_room_13 : decode b_MM_room 13 = .ok (.getfield 13, 3) := by decide +kernel
theorem d_MM_room_16 : decode b_MM_room 16 = .ok (.iload_n 1, 1) := by decide +kernel
theorem d_MM_room_17 : decode b_MM_room 17 = .ok (.iaload, 1) := by decide +kernel
theorem d_MM_room_18 : decode b_MM_room 18 = .ok (.aload_n 0, 1) := by decide +kernel
theorem d_MM_room_19 : decode b_MM_room 19 = .ok (.iload_n 1, 1) := by decide +kernel
theorem d_MM_room_20 : decode b_MM_room 20 = .ok (.invokevirtual 95, 3) := by decide +kernel
theorem d_MM_room_23 : decode b_MM_room 23 = .ok (.isub, 1) := by decide +kernel
theorem d_MM_room_24 : decode b_MM_room 24 = .ok (.ireturn, 1) := by decide +kernel
theorem d_MM_parent_0 : decode b_MM_parent 0 = .ok (.aload_n 0, 1) := by decide +kernel
theorem d_MM_parent_1 : decode b_MM_parent 1 = .ok (.iload_n 1, 1) := by decide +kernel
theorem d_MM_parent_2 : decode b_MM_parent 2 = .ok (.invokevirtual 76, 3) := by decide +kernel
theorem d_MM_parent_5 : decode b_MM_parent 5 = .ok (.ifCond .eq 7, 3) := by decide +kernel
theorem d_MM_parent_8 : decode b_MM_parent 8 = .ok (.iconst (-1), 1) := by decide +kernel
theorem d_MM_parent_9 : decode b_MM_parent 9 = .ok (.goto 23, 3) := by decide +kernel
theorem d_MM_parent_12 : decode b_MM_parent 12 = .ok (.aload_n 0, 1) := by decide +kernel
theorem d_MM_parent_13 : decode b_MM_parent 13 = .ok (.getfield 17, 3) := by decide +kernel
theorem d_MM_parent_16 : decode b_MM_parent 16 = .ok (.iload_n 1, 1) := by decide +kernel
theorem d_MM_parent_17 : decode b_MM_parent 17 = .ok (.iaload, 1) := by decide +kernel
theorem d_MM_parent_18 : decode b_MM_parent 18 = .ok (.ifCond .ne 8, 3) := by decide +kernel
theorem d_MM_parent_21 : decode b_MM_parent 21 = .ok (.bipush (-6), 2) := by decide +kernel
theorem d_MM_parent_23 : decode b_MM_parent 23 = .ok (.goto 9, 3) := by decide +kernel
theorem d_MM_parent_26 : decode b_MM_parent 26 = .ok (.aload_n 0, 1) := by decide +kernel
theorem d_MM_parent_27 : decode b_MM_parent 27 = .ok (.getfield 20, 3) := by decide +kernel
theorem d_MM_parent_30 : decode b_MM_parent 30 = .ok (.iload_n 1, 1) := by decide +kernel
theorem d_MM_parent_31 : decode b_MM_parent 31 = .ok (.iaload, 1) := by decide +kernel
theorem d_MM_parent_32 : decode b_MM_parent 32 = .ok (.ireturn, 1) := by decide +kernel
theorem d_MM_entries_0 : decode b_MM_entries 0 = .ok (.aload_n 0, 1) := by decide +kernel
theorem d_MM_entries_1 : decode b_MM_entries 1 = .ok (.iload_n 1, 1) := by decide +kernel
theorem d_MM_entries_2 : decode b_MM_entries 2 = .ok (.invokevirtual 76, 3) := by decide +kernel
theorem d_MM_entries_5 : decode b_MM_entries 5 = .ok (.ifCond .eq 7, 3) := by decide +kernel
theorem d_MM_entries_8 : decode b_MM_entries 8 = .ok (.iconst (-1), 1) := by decide +kernel
theorem d_MM_entries_9 : decode b_MM_entries 9 = .ok (.goto 9, 3) := by decide +kernel
theorem d_MM_entries_12 : decode b_MM_entries 12 = .ok (.aload_n 0, 1) := by decide +kernel
theorem d_MM_entries_13 : decode b_MM_entries 13 = .ok (.getfield 17, 3) := by decide +kernel
theorem d_MM_entries_16 : decode b_MM_entries 16 = .ok (.iload_n 1, 1) := by decide +kernel
theorem d_MM_entries_17 : decode b_MM_entries 17 = .ok (.iaload, 1) := by decide +kernel
theorem d_MM_entries_18 : decode b_MM_entries 18 = .ok (.ireturn, 1) := by decide +kernel
theorem d_MM_view_0 : decode b_MM_view 0 = .ok (.aload_n 0, 1) := by decide +kernel
theorem d_MM_view_1 : decode b_MM_view 1 = .ok (.iload_n 1, 1) := by decide +kernel
theorem d_MM_view_2 : decode b_MM_view 2 = .ok (.invokevirtual 72, 3) := by decide +kernel
theorem d_MM_view_5 : decode b_MM_view 5 = .ok (.ifCond .ne 13, 3) := by decide +kernel
theorem d_MM_view_8 : decode b_MM_view 8 = .ok (.iload_n 2, 1) := by decide +kernel
theorem d_MM_view_9 : decode b_MM_view 9 = .ok (.ifCond .lt 9, 3) := by decide +kernel
theorem d_MM_view_12 : decode b_MM_view 12 = .ok (.iload_n 2, 1) := by decide +kernel
theorem d_MM_view_13 : decode b_MM_view 13 = .ok (.bipush 11, 2) := by decide +kernel
theorem d_MM_view_15 : decode b_MM_view 15 = .ok (.if_icmp .le 5, 3) := by decide +kernel
theorem d_MM_view_18 : decode b_MM_view 18 = .ok (.iconst (-1), 1) := by decide +kernel
theorem d_MM_view_19 : decode b_MM_view 19 = .ok (.ireturn, 1) := by decide +kernel
theorem d_MM_view_20 : decode b_MM_view 20 = .ok (.aload_n 0, 1) := by decide +kernel
theorem d_MM_view_21 : decode b_MM_view 21 = .ok (.iload_n 1, 1) := by decide +kernel
theorem d_MM_view_22 : decode b_MM_view 22 = .ok (.iload_n 2, 1) := by decide +kernel
theorem d_MM_view_23 : decode b_MM_view 23 = .ok (.invokevirtual 68, 3) := by decide +kernel
theorem d_MM_view_26 : decode b_MM_view 26 = .ok (.istore_n 3, 1) := by decide +kernel
theorem d_MM_view_27 : decode b_MM_view 27 = .ok (.iload_n 3, 1) := by decide +kernel
theorem d_MM_view_28 : decode b_MM_view 28 = .ok (.ifCond .ge 7, 3) := by decide +kernel
theorem d_MM_view_31 : decode b_MM_view 31 = .ok (.iconst (-1), 1) := by decide +kernel
theorem d_MM_view_32 : decode b_MM_view 32 = .ok (.goto 14, 3) := by decide +kernel
theorem d_MM_view_35 : decode b_MM_view 35 = .ok (.aload_n 0, 1) := by decide +kernel
theorem d_MM_view_36 : decode b_MM_view 36 = .ok (.getfield 48, 3) := by decide +kernel
theorem d_MM_view_39 : decode b_MM_view 39 = .ok (.iload_n 1, 1) := by decide +kernel
theorem d_MM_view_40 : decode b_MM_view 40 = .ok (.bipush 12, 2) := by decide +kernel
theorem d_MM_view_42 : decode b_MM_view 42 = .ok (.imul, 1) := by decide +kernel
theorem d_MM_view_43 : decode b_MM_view 43 = .ok (.iload_n 3, 1) := by decide +kernel
theorem d_MM_view_44 : decode b_MM_view 44 = .ok (.iadd, 1) := by decide +kernel
theorem d_MM_view_45 : decode b_MM_view 45 = .ok (.iaload, 1) := by decide +kernel
theorem d_MM_view_46 : decode b_MM_view 46 = .ok (.ireturn, 1) := by decide +kernel
theorem d_MM_count_0 : decode b_MM_count 0 = .ok (.iconst 0, 1) := by decide +kernel
theorem d_MM_count_1 : decode b_MM_count 1 = .ok (.istore_n 2, 1) := by decide +kernel
theorem d_MM_count_2 : decode b_MM_count 2 = .ok (.iload_n 1, 1) := by decide +kernel
theorem d_MM_count_3 : decode b_MM_count 3 = .ok (.ifCond .ne 29, 3) := by decide +kernel
theorem d_MM_count_6 : decode b_MM_count 6 = .ok (.iconst 0, 1) := by decide +kernel
theorem d_MM_count_7 : decode b_MM_count 7 = .ok (.istore_n 3, 1) := by decide +kernel
theorem d_MM_count_8 : decode b_MM_count 8 = .ok (.iload_n 3, 1) := by decide +kernel
theorem d_MM_count_9 : decode b_MM_count 9 = .ok (.bipush 40, 2) := by decide +kernel
theorem d_MM_count_11 : decode b_MM_count 11 = .ok (.if_icmp .ge 21, 3) := by decide +kernel
theorem d_MM_count_14 : decode b_MM_count 14 = .ok (.aload_n 0, 1) := by decide +kernel
theorem d_MM_count_15 : decode b_MM_count 15 = .ok (.getfield 26, 3) := by decide +kernel
theorem d_MM_count_18 : decode b_MM_count 18 = .ok (.iload_n 3, 1) := by decide +kernel
theorem d_MM_count_19 : decode b_MM_count 19 = .ok (.iaload, 1) := by decide +kernel
theorem d_MM_count_20 : decode b_MM_count 20 = .ok (.ifCond .lt 6, 3) := by decide +kernel
theorem d_MM_count_23 : decode b_MM_count 23 = .ok (.iinc 2 1, 3) := by decide +kernel
theorem d_MM_count_26 : decode b_MM_count 26 = .ok (.iinc 3 1, 3) := by decide +kernel
theorem d_MM_count_29 : decode b_MM_count 29 = .ok (.goto (-21), 3) := by decide +kernel
theorem d_MM_count_32 : decode b_MM_count 32 = .ok (.iload_n 1, 1) := by decide +kernel
theorem d_MM_count_33 : decode b_MM_count 33 = .ok (.iconst 2, 1) := by decide +kernel
theorem d_MM_count_34 : decode b_MM_count 34 = .ok (.if_icmp .ne 28, 3) := by decide +kernel
theorem d_MM_count_37 : decode b_MM_count 37 = .ok (.iconst 0, 1) := by decide +kernel
theorem d_MM_count_38 : decode b_MM_count 38 = .ok (.istore_n 3, 1) := by decide +kernel
theorem d_MM_count_39 : decode b_MM_count 39 = .ok (.iload_n 3, 1) := by decide +kernel
theorem d_MM_count_40 : decode b_MM_count 40 = .ok (.iconst 4, 1) := by decide +kernel
theorem d_MM_count_41 : decode b_MM_count 41 = .ok (.if_icmp .ge 21, 3) := by decide +kernel
theorem d_MM_count_44 : decode b_MM_count 44 = .ok (.aload_n 0, 1) := by decide +kernel
theorem d_MM_count_45 : decode b_MM_count 45 = .ok (.getfield 39, 3) := by decide +kernel
theorem d_MM_count_48 : decode b_MM_count 48 = .ok (.iload_n 3, 1) := by decide +kernel
theorem d_MM_count_49 : decode b_MM_count 49 = .ok (.baload, 1) := by decide +kernel
theorem d_MM_count_50 : decode b_MM_count 50 = .ok (.ifCond .eq 6, 3) := by decide +kernel
theorem d_MM_count_53 : decode b_MM_count 53 = .ok (.iinc 2 1, 3) := by decide +kernel
theorem d_MM_count_56 : decode b_MM_count 56 = .ok (.iinc 3 1, 3) := by decide +kernel
theorem d_MM_count_59 : decode b_MM_count 59 = .ok (.goto (-20), 3) := by decide +kernel
theorem d_MM_count_62 : decode b_MM_count 62 = .ok (.iload_n 1, 1) := by decide +kernel
theorem d_MM_count_63 : decode b_MM_count 63 = .ok (.ifCond .eq 8, 3) := by decide +kernel
theorem d_MM_count_66 : decode b_MM_count 66 = .ok (.iload_n 1, 1) := by decide +kernel
theorem d_MM_count_67 : decode b_MM_count 67 = .ok (.iconst 2, 1) := by decide +kernel
theorem d_MM_count_68 : decode b_MM_count 68 = .ok (.if_icmp .ne 5, 3) := by decide +kernel
theorem d_MM_count_71 : decode b_MM_count 71 = .ok (.iload_n 2, 1) := by decide +kernel
theorem d_MM_count_72 : decode b_MM_count 72 = .ok (.ireturn, 1) := by decide +kernel
theorem d_MM_count_73 : decode b_MM_count 73 = .ok (.iload_n 1, 1) := by decide +kernel
theorem d_MM_count_74 : decode b_MM_count 74 = .ok (.iconst 1, 1) := by decide +kernel
theorem d_MM_count_75 : decode b_MM_count 75 = .ok (.if_icmp .ne 8, 3) := by decide +kernel
theorem d_MM_count_78 : decode b_MM_count 78 = .ok (.aload_n 0, 1) := by decide +kernel
theorem d_MM_count_79 : decode b_MM_count 79 = .ok (.getfield 7, 3) := by decide +kernel
theorem d_MM_count_82 : decode b_MM_count 82 = .ok (.ireturn, 1) := by decide +kernel
theorem d_MM_count_83 : decode b_MM_count 83 = .ok (.iload_n 1, 1) := by decide +kernel
theorem d_MM_count_84 : decode b_MM_count 84 = .ok (.iconst 3, 1) := by decide +kernel
theorem d_MM_count_85 : decode b_MM_count 85 = .ok (.if_icmp .ne 8, 3) := by decide +kernel
theorem d_MM_count_88 : decode b_MM_count 88 = .ok (.aload_n 0, 1) := by decide +kernel
theorem d_MM_count_89 : decode b_MM_count 89 = .ok (.invokevirtual 114, 3) := by decide +kernel
theorem d_MM_count_92 : decode b_MM_count 92 = .ok (.ireturn, 1) := by decide +kernel
theorem d_MM_count_93 : decode b_MM_count 93 = .ok (.iload_n 1, 1) := by decide +kernel
theorem d_MM_count_94 : decode b_MM_count 94 = .ok (.iconst 3, 1) := by decide +kernel
theorem d_MM_count_95 : decode b_MM_count 95 = .ok (.if_icmp .le 36, 3) := by decide +kernel
theorem d_MM_count_98 : decode b_MM_count 98 = .ok (.iload_n 1, 1) := by decide +kernel
theorem d_MM_count_99 : decode b_MM_count 99 = .ok (.bipush 8, 2) := by decide +kernel
theorem d_MM_count_101 : decode b_MM_count 101 = .ok (.if_icmp .ge 30, 3) := by decide +kernel
theorem d_MM_count_104 : decode b_MM_count 104 = .ok (.aload_n 0, 1) := by decide +kernel
theorem d_MM_count_105 : decode b_MM_count 105 = .ok (.getfield 57, 3) := by decide +kernel
theorem d_MM_count_108 : decode b_MM_count 108 = .ok (.iload_n 1, 1) := by decide +kernel
theorem d_MM_count_109 : decode b_MM_count 109 = .ok (.iconst 4, 1) := by decide +kernel
theorem d_MM_count_110 : decode b_MM_count 110 = .ok (.isub, 1) := by decide +kernel
theorem d_MM_count_111 : decode b_MM_count 111 = .ok (.iaload, 1) := by decide +kernel
theorem d_MM_count_112 : decode b_MM_count 112 = .ok (.ifCond .ge 8, 3) := by decide +kernel
theorem d_MM_count_115 : decode b_MM_count 115 = .ok (.bipush (-6), 2) := by decide +kernel
theorem d_MM_count_117 : decode b_MM_count 117 = .ok (.goto 15, 3) := by decide +kernel
theorem d_MM_count_120 : decode b_MM_count 120 = .ok (.aload_n 0, 1) := by decide +kernel
theorem d_MM_count_121 : decode b_MM_count 121 = .ok (.getfield 57, 3) := by decide +kernel
theorem d_MM_count_124 : decode b_MM_count 124 = .ok (.iload_n 1, 1) := by decide +kernel
theorem d_MM_count_125 : decode b_MM_count 125 = .ok (.iconst 4, 1) := by decide +kernel
theorem d_MM_count_126 : decode b_MM_count 126 = .ok (.isub, 1) := by decide +kernel
theorem d_MM_count_127 : decode b_MM_count 127 = .ok (.iaload, 1) := by decide +kernel
theorem d_MM_count_128 : decode b_MM_count 128 = .ok (.goto 4, 3) := by decide +kernel
theorem d_MM_count_131 : decode b_MM_count 131 = .ok (.iconst (-1), 1) := by decide +kernel
theorem d_MM_count_132 : decode b_MM_count 132 = .ok (.ireturn, 1) := by decide +kernel
