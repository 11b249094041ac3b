theorem dX5_init_0 : decode cX5_init 0 = .ok (.aload_n 0, 1) := by decide +kernel
theorem dX5_init_1 : decode cX5_init 1 = .ok (.invokespecial 1, 3) := by decide +kernel
theorem dX5_init_4 : decode cX5_init 4 = .ok (.aload_n 0, 1) := by decide +kernel
theorem dX5_init_5 : decode cX5_init 5 = .ok (.bipush 72, 2) := by decide +kernel
theorem dX5_init_7 : decode cX5_init 7 = .ok (.newarray .int, 2) := by decide +kernel
theorem dX5_init_9 : decode cX5_init 9 = .ok (.putfield 7, 3) := by decide +kernel
theorem dX5_init_12 : decode cX5_init 12 = .ok (.aload_n 0, 1) := by decide +kernel
theorem dX5_init_13 : decode cX5_init 13 = .ok (.bipush 12, 2) := by decide +kernel
theorem dX5_init_15 : decode cX5_init 15 = .ok (.newarray .int, 2) := by decide +kernel
theorem dX5_init_17 : decode cX5_init 17 = .ok (.putfield 13, 3) := by decide +kernel
theorem dX5_init_20 : decode cX5_init 20 = .ok (.aload_n 0, 1) := by decide +kernel
theorem dX5_init_21 : decode cX5_init 21 = .ok (.sipush 240, 3) := by decide +kernel
theorem dX5_init_24 : decode cX5_init 24 = .ok (.newarray .int, 2) := by decide +kernel
theorem dX5_init_26 : decode cX5_init 26 = .ok (.putfield 16, 3) := by decide +kernel
theorem dX5_init_29 : decode cX5_init 29 = .ok (.aload_n 0, 1) := by decide +kernel
theorem dX5_init_30 : decode cX5_init 30 = .ok (.sipush 240, 3) := by decide +kernel
theorem dX5_init_33 : decode cX5_init 33 = .ok (.newarray .int, 2) := by decide +kernel
theorem dX5_init_35 : decode cX5_init 35 = .ok (.putfield 19, 3) := by decide +kernel
theorem dX5_init_38 : decode cX5_init 38 = .ok (.aload_n 0, 1) := by decide +kernel
theorem dX5_init_39 : decode cX5_init 39 = .ok (.sipush 240, 3) := by decide +kernel
theorem dX5_init_42 : decode cX5_init 42 = .ok (.newarray .int, 2) := by decide +kernel
theorem dX5_init_44 : decode cX5_init 44 = .ok (.putfield 22, 3) := by decide +kernel
theorem dX5_init_47 : decode cX5_init 47 = .ok (.aload_n 0, 1) := by decide +kernel
theorem dX5_init_48 : decode cX5_init 48 = .ok (.sipush 240, 3) := by decide +kernel
theorem dX5_init_51 : decode cX5_init 51 = .ok (.newarray .int, 2) := by decide +kernel
theorem dX5_init_53 : decode cX5_init 53 = .ok (.putfield 25, 3) := by decide +kernel
theorem dX5_init_56 : decode cX5_init 56 = .ok (.aload_n 0, 1) := by decide +kernel
theorem dX5_init_57 : decode cX5_init 57 = .ok (.bipush 12, 2) := by decide +kernel
theorem dX5_init_59 : decode cX5_init 59 = .ok (.newarray .int, 2) := by decide +kernel
theorem dX5_init_61 : decode cX5_init 61 = .ok (.putfield 28, 3) := by decide +kernel
theorem dX5_init_64 : decode cX5_init 64 = .ok (.aload_n 0, 1) := by decide +kernel
theorem dX5_init_65 : decode cX5_init 65 = .ok (.sipush 4800, 3) := by decide +kernel
theorem dX5_init_68 : decode cX5_init 68 = .ok (.newarray .int, 2) := by decide +kernel
theorem dX5_init_70 : decode cX5_init 70 = .ok (.putfield 31, 3) := by decide +kernel
theorem dX5_init_73 : decode cX5_init 73 = .ok (.aload_n 0, 1) := by decide +kernel
theorem dX5_init_74 : decode cX5_init 74 = .ok (.bipush 12, 2) := by decide +kernel
theorem dX5_init_76 : decode cX5_init 76 = .ok (.newarray .int, 2) := by decide +kernel
theorem dX5_init_78 : decode cX5_init 78 = .ok (.putfield 34, 3) := by decide +kernel
theorem dX5_init_81 : decode cX5_init 81 = .ok (.aload_n 0, 1) := by decide +kernel
theorem dX5_init_82 : decode cX5_init 82 = .ok (.sipush 768, 3) := by decide +kernel
theorem dX5_init_85 : decode cX5_init 85 = .ok (.newarray .boolean, 2) := by decide +kernel
theorem dX5_init_87 : decode cX5_init 87 = .ok (.putfield 37, 3) := by decide +kernel
theorem dX5_init_90 : decode cX5_init 90 = .ok (.aload_n 0, 1) := by decide +kernel
theorem dX5_init_91 : decode cX5_init 91 = .ok (.bipush 12, 2) := by decide +kernel
theorem dX5_init_93 : decode cX5_init 93 = .ok (.newarray .int, 2) := by decide +kernel
theorem dX5_init_95 : decode cX5_init 95 = .ok (.putfield 41, 3) := by decide +kernel
theorem dX5_init_98 : decode cX5_init 98 = .ok (.aload_n 0, 1) := by decide +kernel
theorem dX5_init_99 : decode cX5_init 99 = .ok (.bipush 12, 2) := by decide +kernel
theorem dX5_init_101 : decode cX5_init 101 = .ok (.newarray .int, 2) := by decide +kernel
theorem dX5_init_103 : decode cX5_init 103 = .ok (.putfield 44, 3) := by decide +kernel
theorem dX5_init_106 : decode cX5_init 106 = .ok (.aload_n 0, 1) := by decide +kernel
theorem dX5_init_107 : decode cX5_init 107 = .ok (.bipush 12, 2) := by decide +kernel
theorem dX5_init_109 : decode cX5_init 109 = .ok (.newarray .int, 2) := by decide +kernel
theorem dX5_init_111 : decode cX5_init 111 = .ok (.putfield 47, 3) := by decide +kernel
theorem dX5_init_114 : decode cX5_init 114 = .ok (.aload_n 0, 1) := by decide +kernel
theorem dX5_init_115 : decode cX5_init 115 = .ok (.sipush 768, 3) := by decide +kernel
theorem dX5_init_118 : decode cX5_init 118 = .ok (.newarray .int, 2) := by decide +kernel
theorem dX5_init_120 : decode cX5_init 120 = .ok (.putfield 50, 3) := by decide +kernel
theorem dX5_init_123 : decode cX5_init 123 = .ok (.aload_n 0, 1) := by decide +kernel
theorem dX5_init_124 : decode cX5_init 124 = .ok (.sipush 240, 3) := by decide +kernel
theorem dX5_init_127 : decode cX5_init 127 = .ok (.newarray .int, 2) := by decide +kernel
theorem dX5_init_129 : decode cX5_init 129 = .ok (.putfield 53, 3) := by decide +kernel
theorem dX5_init_132 : decode cX5_init 132 = .ok (.aload_n 0, 1) := by decide +kernel
theorem dX5_init_133 : decode cX5_init 133 = .ok (.bipush 12, 2) := by decide +kernel
theorem dX5_init_135 : decode cX5_init 135 = .ok (.newarray .int, 2) := by decide +kernel
theorem dX5_init_137 : decode cX5_init 137 = .ok (.putfield 56, 3) := by decide +kernel
theorem dX5_init_140 : decode cX5_init 140 = .ok (.aload_n 0, 1) := by decide +kernel
theorem dX5_init_141 : decode cX5_init 141 = .ok (.bipush 12, 2) := by decide +kernel
theorem dX5_init_143 : decode cX5_init 143 = .ok (.newarray .boolean, 2) := by decide +kernel
theorem dX5_init_145 : decode cX5_init 145 = .ok (.putfield 59, 3) := by decide +kernel
theorem dX5_init_148 : decode cX5_init 148 = .ok (.aload_n 0, 1) := by decide +kernel
theorem dX5_init_149 : decode cX5_init 149 = .ok (.bipush 12, 2) := by decide +kernel
theorem dX5_init_151 : decode cX5_init 151 = .ok (.newarray .int, 2) := by decide +kernel
theorem dX5_init_153 : decode cX5_init 153 = .ok (.putfield 62, 3) := by decide +kernel
theorem dX5_init_156 : decode cX5_init 156 = .ok (.aload_n 0, 1) := by decide +kernel
theorem dX5_init_157 : decode cX5_init 157 = .ok (.bipush 12, 2) := by decide +kernel
theorem dX5_init_159 : decode cX5_init 159 = .ok (.newarray .int, 2) := by decide +kernel
theorem dX5_init_161 : decode cX5_init 161 = .ok (.putfield 65, 3) := by decide +kernel
theorem dX5_init_164 : decode cX5_init 164 = .ok (.aload_n 0, 1) := by decide +kernel
theorem dX5_init_165 : decode cX5_init 165 = .ok (.iconst (-1), 1) := by decide +kernel
theorem dX5_init_166 : decode cX5_init 166 = .ok (.putfield 68, 3) := by decide +kernel
theorem dX5_init_169 : decode cX5_init 169 = .ok (.aload_n 0, 1) := by decide +kernel
theorem dX5_init_170 : decode cX5_init 170 = .ok (.iconst (-1), 1) := by decide +kernel
theorem dX5_init_171 : decode cX5_init 171 = .ok (.putfield 72, 3) := by decide +kernel
theorem dX5_init_174 : decode cX5_init 174 = .ok (.aload_n 0, 1) := by decide +kernel
theorem dX5_init_175 : decode cX5_init 175 = .ok (.iconst (-1), 1) := by decide +kernel
theorem dX5_init_176 : decode cX5_init 176 = .ok (.putfield 75, 3) := by decide +kernel
theorem dX5_init_179 : decode cX5_init 179 = .ok (.aload_n 0, 1) := by decide +kernel
theorem dX5_init_180 : decode cX5_init 180 = .ok (.bipush 8, 2) := by decide +kernel
theorem dX5_init_182 : decode cX5_init 182 = .ok (.newarray .int, 2) := by decide +kernel
theorem dX5_init_184 : decode cX5_init 184 = .ok (.putfield 78, 3) := by decide +kernel
theorem dX5_init_187 : decode cX5_init 187 = .ok (.aload_n 0, 1) := by decide +kernel
theorem dX5_init_188 : decode cX5_init 188 = .ok (.bipush 60, 2) := by decide +kernel
theorem dX5_init_190 : decode cX5_init 190 = .ok (.newarray .int, 2) := by decide +kernel
theorem dX5_init_192 : decode cX5_init 192 = .ok (.putfield 81, 3) := by decide +kernel
theorem dX5_init_195 : decode cX5_init 195 = .ok (.aload_n 0, 1) := by decide +kernel
theorem dX5_init_196 : decode cX5_init 196 = .ok (.bipush 101, 2) := by decide +kernel
theorem dX5_init_198 : decode cX5_init 198 = .ok (.newarray .int, 2) := by decide +kernel
theorem dX5_init_200 : decode cX5_init 200 = .ok (.putfield 84, 3) := by decide +kernel
theorem dX5_init_203 : decode cX5_init 203 = .ok (.aload_n 0, 1) := by decide +kernel
theorem dX5_init_204 : decode cX5_init 204 = .ok (.bipush 101, 2) := by decide +kernel
theorem dX5_init_206 : decode cX5_init 206 = .ok (.newarray .int, 2) := by decide +kernel
theorem dX5_init_208 : decode cX5_init 208 = .ok (.putfield 87, 3) := by decide +kernel
theorem dX5_init_211 : decode cX5_init 211 = .ok (.return_, 1) := by decide +kernel
theorem dX5_isModule_0 : decode cX5_isModule 0 = .ok (.iload_n 1, 1) := by decide +kernel
theorem dX5_isModule_1 : decode cX5_isModule 1 = .ok (.ifCond .lt 15, 3) := by decide +kernel
theorem dX5_isModule_4 : decode cX5_isModule 4 = .ok (.iload_n 1, 1) := by decide +kernel
theorem dX5_isModule_5 : decode cX5_isModule 5 = .ok (.aload_n 0, 1) := by decide +kernel
theorem dX5_isModule_6 : decode cX5_isModule 6 = .ok (.getfield 90, 3) := by decide +kernel
theorem dX5_isModule_9 : decode cX5_isModule 9 = .ok (.if_icmp .ge 7, 3) := by decide +kernel
theorem dX5_isModule_12 : decode cX5_isModule 12 = .ok (.iconst 1, 1) := by decide +kernel
theorem dX5_isModule_13 : decode cX5_isModule 13 = .ok (.goto 4, 3) := by decide +kernel
theorem dX5_isModule_16 : decode cX5_isModule 16 = .ok (.iconst 0, 1) := by decide +kernel
theorem dX5_isModule_17 : decode cX5_isModule 17 = .ok (.ireturn, 1) := by decide +kernel
theorem dX5_isName_0 : decode cX5_isName 0 = .ok (.iload_n 0, 1) := by decide +kernel
theorem dX5_isName_1 : decode cX5_isName 1 = .ok (.ifCond .lt 13, 3) := by decide +kernel
theorem dX5_isName_4 : decode cX5_isName 4 = .ok (.iload_n 0, 1) := by decide +kernel
theorem dX5_isName_5 : decode cX5_isName 5 = .ok (.bipush 64, 2) := by decide +kernel
theorem dX5_isName_7 : decode cX5_isName 7 = .ok (.if_icmp .ge 7, 3) := by decide +kernel
theorem dX5_isName_10 : decode cX5_isName 10 = .ok (.iconst 1, 1) := by decide +kernel
theorem dX5_isName_11 : decode cX5_isName 11 = .ok (.goto 4, 3) := by decide +kernel
theorem dX5_isName_14 : decode cX5_isName 14 = .ok (.iconst 0, 1) := by decide +kernel
theorem dX5_isName_15 : decode cX5_isName 15 = .ok (.ireturn, 1) := by decide +kernel
theorem dX5_isRegister_0 : decode cX5_isRegister 0 = .ok (.iload_n 0, 1) := by decide +kernel
theorem dX5_isRegister_1 : decode cX5_isRegister 1 = .ok (.ifCond .lt 13, 3) := by decide +kernel
theorem dX5_isRegister_4 : decode cX5_isRegister 4 = .ok (.iload_n 0, 1) := by decide +kernel
theorem dX5_isRegister_5 : decode cX5_isRegister 5 = .ok (.bipush 8, 2) := by decide +kernel
theorem dX5_isRegister_7 : decode cX5_isRegister 7 = .ok (.if_icmp .ge 7, 3) := by decide +kernel
theorem dX5_isRegister_10 : decode cX5_isRegister 10 = .ok (.iconst 1, 1) := by decide +kernel
theorem dX5_isRegister_11 : decode cX5_isRegister 11 = .ok (.goto 4, 3) := by decide +kernel
theorem dX5_isRegister_14 : decode cX5_isRegister 14 = .ok (.iconst 0, 1) := by decide +kernel
theorem dX5_isRegister_15 : decode cX5_isRegister 15 = .ok (.ireturn, 1) := by decide +kernel
theorem dX5_isStep_0 : decode cX5_isStep 0 = .ok (.iload_n 0, 1) := by decide +kernel
theorem dX5_isStep_1 : decode cX5_isStep 1 = .ok (.ifCond .lt 13, 3) := by decide +kernel
theorem dX5_isStep_4 : decode cX5_isStep 4 = .ok (.iload_n 0, 1) := by decide +kernel
theorem dX5_isStep_5 : decode cX5_isStep 5 = .ok (.bipush 100, 2) := by decide +kernel
theorem dX5_isStep_7 : decode cX5_isStep 7 = .ok (.if_icmp .ge 7, 3) := by decide +kernel
theorem dX5_isStep_10 : decode cX5_isStep 10 = .ok (.iconst 1, 1) := by decide +kernel
theorem dX5_isStep_11 : decode cX5_isStep 11 = .ok (.goto 4, 3) := by decide +kernel
theorem dX5_isStep_14 : decode cX5_isStep 14 = .ok (.iconst 0, 1) := by decide +kernel
theorem dX5_isStep_15 : decode cX5_isStep 15 = .ok (.ireturn, 1) := by decide +kernel
theorem dX5_module_0 : decode cX5_module 0 = .ok (.aload_n 0, 1) := by decide +kernel
theorem dX5_module_1 : decode cX5_module 1 = .ok (.getfield 90, 3) := by decide +kernel
theorem dX5_module_4 : decode cX5_module 4 = .ok (.bipush 12, 2) := by decide +kernel
theorem dX5_module_6 : decode cX5_module 6 = .ok (.if_icmp .ne 5, 3) := by decide +kernel
theorem dX5_module_9 : decode cX5_module 9 = .ok (.iconst (-1), 1) := by decide +kernel
theorem dX5_module_10 : decode cX5_module 10 = .ok (.ireturn, 1) := by decide +kernel
theorem dX5_module_11 : decode cX5_module 11 = .ok (.aload_n 0, 1) := by decide +kernel
theorem dX5_module_12 : decode cX5_module 12 = .ok (.getfield 41, 3) := by decide +kernel
theorem dX5_module_15 : decode cX5_module 15 = .ok (.aload_n 0, 1) := by decide +kernel
theorem dX5_module_16 : decode cX5_module 16 = .ok (.getfield 90, 3) := by decide +kernel
theorem dX5_module_19 : decode cX5_module 19 = .ok (.iconst (-1), 1) := by decide +kernel
theorem dX5_module_20 : decode cX5_module 20 = .ok (.iastore, 1) := by decide +kernel
theorem dX5_module_21 : decode cX5_module 21 = .ok (.aload_n 0, 1) := by decide +kernel
theorem dX5_module_22 : decode cX5_module 22 = .ok (.dup, 1) := by decide +kernel
theorem dX5_module_23 : decode cX5_module 23 = .ok (.getfield 90, 3) := by decide +kernel
theorem dX5_module_26 : decode cX5_module 26 = .ok (.iconst 1, 1) := by decide +kernel
theorem dX5_module_27 : decode cX5_module 27 = .ok (.iadd, 1) := by decide +kernel
theorem dX5_module_28 : decode cX5_module 28 = .ok (.putfield 90, 3) := by decide +kernel
theorem dX5_module_31 : decode cX5_module 31 = .ok (.aload_n 0, 1) := by decide +kernel
theorem dX5_module_32 : decode cX5_module 32 = .ok (.getfield 90, 3) := by decide +kernel
theorem dX5_module_35 : decode cX5_module 35 = .ok (.iconst 1, 1) := by decide +kernel
theorem dX5_module_36 : decode cX5_module 36 = .ok (.isub, 1) := by decide +kernel
theorem dX5_module_37 : decode cX5_module 37 = .ok (.ireturn, 1) := by decide +kernel
theorem dX5_need_0 : decode cX5_need 0 = .ok (.aload_n 0, 1) := by decide +kernel
theorem dX5_need_1 : decode cX5_need 1 = .ok (.iload_n 1, 1) := by decide +kernel
theorem dX5_need_2 : decode cX5_need 2 = .ok (.invokevirtual 93, 3) := by decide +kernel
theorem dX5_need_5 : decode cX5_need 5 = .ok (.ifCond .eq 22, 3) := by decide +kernel
theorem dX5_need_8 : decode cX5_need 8 = .ok (.aload_n 0, 1) := by decide +kernel
theorem dX5_need_9 : decode cX5_need 9 = .ok (.iload_n 2, 1) := by decide +kernel
theorem dX5_need_10 : decode cX5_need 10 = .ok (.invokevirtual 93, 3) := by decide +kernel
theorem dX5_need_13 : decode cX5_need 13 = .ok (.ifCond .eq 14, 3) := by decide +kernel
theorem dX5_need_16 : decode cX5_need 16 = .ok (.aload_n 0, 1) := by decide +kernel
theorem dX5_need_17 : decode cX5_need 17 = .ok (.getfield 13, 3) := by decide +kernel
theorem dX5_need_20 : decode cX5_need 20 = .ok (.iload_n 1, 1) := by decide +kernel
theorem dX5_need_21 : decode cX5_need 21 = .ok (.iaload, 1) := by decide +kernel
theorem dX5_need_22 : decode cX5_need 22 = .ok (.bipush 6, 2) := by decide +kernel
theorem dX5_need_24 : decode cX5_need 24 = .ok (.if_icmp .ne 5, 3) := by decide +kernel
theorem dX5_need_27 : decode cX5_need 27 = .ok (.iconst (-1), 1) := by decide +kernel
theorem dX5_need_28 : decode cX5_need 28 = .ok (.ireturn, 1) := by decide +kernel
theorem dX5_need_29 : decode cX5_need 29 = .ok (.iconst 0, 1) := by decide +kernel
theorem dX5_need_30 : decode cX5_need 30 = .ok (.istore_n 3, 1) := by decide +kernel
theorem dX5_need_31 : decode cX5_need 31 = .ok (.iload_n 3, 1) := by decide +kernel
theorem dX5_need_32 : decode cX5_need 32 = .ok (.aload_n 0, 1) := by decide +kernel
theorem dX5_need_33 : decode cX5_need 33 = .ok (.getfield 13, 3) := by decide +kernel
theorem dX5_need_36 : decode cX5_need 36 = .ok (.iload_n 1, 1) := by decide +kernel
theorem dX5_need_37 : decode cX5_need 37 = .ok (.iaload, 1) := by decide +kernel
theorem dX5_need_38 : decode cX5_need 38 = .ok (.if_icmp .ge 26, 3) := by decide +kernel
theorem dX5_need_41 : decode cX5_need 41 = .ok (.aload_n 0, 1) := by decide +kernel
theorem dX5_need_42 : decode cX5_need 42 = .ok (.getfield 7, 3) := by decide +kernel
theorem dX5_need_45 : decode cX5_need 45 = .ok (.bipush 6, 2) := by decide +kernel
theorem dX5_need_47 : decode cX5_need 47 = .ok (.iload_n 1, 1) := by decide +kernel
theorem dX5_need_48 : decode cX5_need 48 = .ok (.imul, 1) := by decide +kernel
theorem dX5_need_49 : decode cX5_need 49 = .ok (.iload_n 3, 1) := by decide +kernel
theorem dX5_need_50 : decode cX5_need 50 = .ok (.iadd, 1) := by decide +kernel
theorem dX5_need_51 : decode cX5_need 51 = .ok (.iaload, 1) := by decide +kernel
theorem dX5_need_52 : decode cX5_need 52 = .ok (.iload_n 2, 1) := by decide +kernel
theorem dX5_need_53 : decode cX5_need 53 = .ok (.if_icmp .ne 5, 3) := by decide +kernel
theorem dX5_need_56 : decode cX5_need 56 = .ok (.iconst (-1), 1) := by decide +kernel
theorem dX5_need_57 : decode cX5_need 57 = .ok (.ireturn, 1) := by decide +kernel
theorem dX5_need_58 : decode cX5_need 58 = .ok (.iinc 3 1, 3) := by decide +kernel
theorem dX5_need_61 : decode cX5_need 61 = .ok (.goto (-30), 3) := by decide +kernel
theorem dX5_need_64 : decode cX5_need 64 = .ok (.aload_n 0, 1) := by decide +kernel
theorem dX5_need_65 : decode cX5_need 65 = .ok (.getfield 7, 3) := by decide +kernel
theorem dX5_need_68 : decode cX5_need 68 = .ok (.bipush 6, 2) := by decide +kernel
theorem dX5_need_70 : decode cX5_need 70 = .ok (.iload_n 1, 1) := by decide +kernel
theorem dX5_need_71 : decode cX5_need 71 = .ok (.imul, 1) := by decide +kernel
theorem dX5_need_72 : decode cX5_need 72 = .ok (.aload_n 0, 1) := by decide +kernel
theorem dX5_need_73 : decode cX5_need 73 = .ok (.getfield 13, 3) := by decide +kernel
theorem dX5_need_76 : decode cX5_need 76 = .ok (.iload_n 1, 1) := by decide +kernel
theorem dX5_need_77 : decode cX5_need 77 = .ok (.iaload, 1) := by decide +kernel
theorem dX5_need_78 : decode cX5_need 78 = .ok (.iadd, 1) := by decide +kernel
theorem dX5_need_79 : decode cX5_need 79 = .ok (.iload_n 2, 1) := by decide +kernel
theorem dX5_need_80 : decode cX5_need 80 = .ok (.iastore, 1) := by decide +kernel
theorem dX5_need_81 : decode cX5_need 81 = .ok (.aload_n 0, 1) := by decide +kernel
theorem dX5_need_82 : decode cX5_need 82 = .ok (.getfield 13, 3) := by decide +kernel
theorem dX5_need_85 : decode cX5_need 85 = .ok (.iload_n 1, 1) := by decide +kernel
theorem dX5_need_86 : decode cX5_need 86 = .ok (.dup2, 1) := by decide +kernel
theorem dX5_need_87 : decode cX5_need 87 = .ok (.iaload, 1) := by decide +kernel
theorem dX5_need_88 : decode cX5_need 88 = .ok (.iconst 1, 1) := by decide +kernel
theorem dX5_need_89 : decode cX5_need 89 = .ok (.iadd, 1) := by decide +kernel
theorem dX5_need_90 : decode cX5_need 90 = .ok (.iastore, 1) := by decide +kernel
theorem dX5_need_91 : decode cX5_need 91 = .ok (.aload_n 0, 1) := by decide +kernel
theorem dX5_need_92 : decode cX5_need 92 = .ok (.iconst 0, 1) := by decide +kernel
theorem dX5_need_93 : decode cX5_need 93 = .ok (.putfield 97, 3) := by decide +kernel
theorem dX5_need_96 : decode cX5_need 96 = .ok (.aload_n 0, 1) := by decide +kernel
theorem dX5_need_97 : decode cX5_need 97 = .ok (.getfield 13, 3) := by decide +kernel
theorem dX5_need_100 : decode cX5_need 100 = .ok (.iload_n 1, 1) := by decide +kernel
theorem dX5_need_101 : decode cX5_need 101 = .ok (.iaload, 1) := by decide +kernel
theorem dX5_need_102 : decode cX5_need 102 = .ok (.ireturn, 1) := by decide +kernel
theorem dX5_ofName_0 : decode cX5_ofName 0 = .ok (.iconst 0, 1) := by decide +kernel
theorem dX5_ofName_1 : decode cX5_ofName 1 = .ok (.istore_n 3, 1) := by decide +kernel
theorem dX5_ofName_2 : decode cX5_ofName 2 = .ok (.iload_n 3, 1) := by decide +kernel
theorem dX5_ofName_3 : decode cX5_ofName 3 = .ok (.aload_n 0, 1) := by decide +kernel
theorem dX5_ofName_4 : decode cX5_ofName 4 = .ok (.getfield 28, 3) := by decide +kernel
theorem dX5_ofName_7 : decode cX5_ofName 7 = .ok (.iload_n 1, 1) := by decide +kernel
theorem dX5_ofName_8 : decode cX5_ofName 8 = .ok (.iaload, 1) := by decide +kernel
theorem dX5_ofName_9 : decode cX5_ofName 9 = .ok (.if_icmp .ge 31, 3) := by decide +kernel
theorem dX5_ofName_12 : decode cX5_ofName 12 = .ok (.aload_n 0, 1) := by decide +kernel
theorem dX5_ofName_13 : decode cX5_ofName 13 = .ok (.getfield 16, 3) := by decide +kernel
theorem dX5_ofName_16 : decode cX5_ofName 16 = .ok (.bipush 20, 2) := by decide +kernel
theorem dX5_ofName_18 : decode cX5_ofName 18 = .ok (.iload_n 1, 1) := by decide +kernel
theorem dX5_ofName_19 : decode cX5_ofName 19 = .ok (.imul, 1) := by decide +kernel
theorem dX5_ofName_20 : decode cX5_ofName 20 = .ok (.iload_n 3, 1) := by decide +kernel
theorem dX5_ofName_21 : decode cX5_ofName 21 = .ok (.iadd, 1) := by decide +kernel
theorem dX5_ofName_22 : decode cX5_ofName 22 = .ok (.iaload, 1) := by decide +kernel
theorem dX5_ofName_23 : decode cX5_ofName 23 = .ok (.iload_n 2, 1) := by decide +kernel
theorem dX5_ofName_24 : decode cX5_ofName 24 = .ok (.if_icmp .ne 10, 3) := by decide +kernel
theorem dX5_ofName_27 : decode cX5_ofName 27 = .ok (.bipush 20, 2) := by decide +kernel
theorem dX5_ofName_29 : decode cX5_ofName 29 = .ok (.iload_n 1, 1) := by decide +kernel
theorem dX5_ofName_30 : decode cX5_ofName 30 = .ok (.imul, 1) := by decide +kernel
theorem dX5_ofName_31 : decode cX5_ofName 31 = .ok (.iload_n 3, 1) := by decide +kernel
theorem dX5_ofName_32 : decode cX5_ofName 32 = .ok (.iadd, 1) := by decide +kernel
theorem dX5_ofName_33 : decode cX5_ofName 33 = .ok (.ireturn, 1) := by decide +kernel
theorem dX5_ofName_34 : decode cX5_ofName 34 = .ok (.iinc 3 1, 3) := by decide +kernel
theorem dX5_ofName_37 : decode cX5_ofName 37 = .ok (.goto (-35), 3) := by decide +kernel
theorem dX5_ofName_40 : decode cX5_ofName 40 = .ok (.iconst (-1), 1) := by decide +kernel
theorem dX5_ofName_41 : decode cX5_ofName 41 = .ok (.ireturn, 1) := by decide +kernel
theorem dX5_define_0 : decode cX5_define 0 = .ok (.aload_n 0, 1) := by decide +kernel
theorem dX5_define_1 : decode cX5_define 1 = .ok (.iload_n 1, 1) := by decide +kernel
theorem dX5_define_2 : decode cX5_define 2 = .ok (.invokevirtual 93, 3) := by decide +kernel
theorem dX5_define_5 : decode cX5_define 5 = .ok (.ifCond .eq 63, 3) := by decide +kernel
theorem dX5_define_8 : decode cX5_define 8 = .ok (.iload_n 2, 1) := by decide +kernel
theorem dX5_define_9 : decode cX5_define 9 = .ok (.invokestatic 101, 3) := by decide +kernel
theorem dX5_define_12 : decode cX5_define 12 = .ok (.ifCond .eq 56, 3) := by decide +kernel
theorem dX5_define_15 : decode cX5_define 15 = .ok (.iload_n 3, 1) := by decide +kernel
theorem dX5_define_16 : decode cX5_define 16 = .ok (.ifCond .lt 52, 3) := by decide +kernel
theorem dX5_define_19 : decode cX5_define 19 = .ok (.iload_n 3, 1) := by decide +kernel
theorem dX5_define_20 : decode cX5_define 20 = .ok (.iconst 1, 1) := by decide +kernel
theorem dX5_define_21 : decode cX5_define 21 = .ok (.if_icmp .gt 47, 3) := by decide +kernel
theorem dX5_define_24 : decode cX5_define 24 = .ok (.iload 5, 2) := by decide +kernel
theorem dX5_define_26 : decode cX5_define 26 = .ok (.ifCond .lt 42, 3) := by decide +kernel
theorem dX5_define_29 : decode cX5_define 29 = .ok (.iload 5, 2) := by decide +kernel
theorem dX5_define_31 : decode cX5_define 31 = .ok (.iconst 5, 1) := by decide +kernel
theorem dX5_define_32 : decode cX5_define 32 = .ok (.if_icmp .gt 36, 3) := by decide +kernel
theorem dX5_define_35 : decode cX5_define 35 = .ok (.iload_n 3, 1) := by decide +kernel
theorem dX5_define_36 : decode cX5_define 36 = .ok (.ifCond .ne 11, 3) := by decide +kernel
theorem dX5_define_39 : decode cX5_define 39 = .ok (.iload 4, 2) := by decide +kernel
theorem dX5_define_41 : decode cX5_define 41 = .ok (.invokestatic 104, 3) := by decide +kernel
theorem dX5_define_44 : decode cX5_define 44 = .ok (.ifCond .eq 24, 3) := by decide +kernel
theorem dX5_define_47 : decode cX5_define 47 = .ok (.aload_n 0, 1) := by decide +kernel
theorem dX5_define_48 : decode cX5_define 48 = .ok (.iload_n 1, 1) := by decide +kernel
theorem dX5_define_49 : decode cX5_define 49 = .ok (.iload_n 2, 1) := by decide +kernel
theorem dX5_define_50 : decode cX5_define 50 = .ok (.invokevirtual 107, 3) := by decide +kernel
theorem dX5_define_53 : decode cX5_define 53 = .ok (.iconst (-1), 1) := by decide +kernel
theorem dX5_define_54 : decode cX5_define 54 = .ok (.if_icmp .ne 14, 3) := by decide +kernel
theorem dX5_define_57 : decode cX5_define 57 = .ok (.aload_n 0, 1) := by decide +kernel
theorem dX5_define_58 : decode cX5_define 58 = .ok (.getfield 28, 3) := by decide +kernel
theorem dX5_define_61 : decode cX5_define 61 = .ok (.iload_n 1, 1) := by decide +kernel
theorem dX5_define_62 : decode cX5_define 62 = .ok (.iaload, 1) := by decide +kernel
theorem dX5_define_63 : decode cX5_define 63 = .ok (.bipush 20, 2) := by decide +kernel
theorem dX5_define_65 : decode cX5_define 65 = .ok (.if_icmp .ne 5, 3) := by decide +kernel
theorem dX5_define_68 : decode cX5_define 68 = .ok (.iconst (-1), 1) := by decide +kernel
theorem dX5_define_69 : decode cX5_define 69 = .ok (.ireturn, 1) := by decide +kernel
theorem dX5_define_70 : decode cX5_define 70 = .ok (.bipush 20, 2) := by decide +kernel
theorem dX5_define_72 : decode cX5_define 72 = .ok (.iload_n 1, 1) := by decide +kernel
theorem dX5_define_73 : decode cX5_define 73 = .ok (.imul, 1) := by decide +kernel
theorem dX5_define_74 : decode cX5_define 74 = .ok (.aload_n 0, 1) := by decide +kernel
theorem dX5_define_75 : decode cX5_define 75 = .ok (.getfield 28, 3) := by decide +kernel
theorem dX5_define_78 : decode cX5_define 78 = .ok (.iload_n 1, 1) := by decide +kernel
theorem dX5_define_79 : decode cX5_define 79 = .ok (.iaload, 1) := by decide +kernel
theorem dX5_define_80 : decode cX5_define 80 = .ok (.iadd, 1) := by decide +kernel
theorem dX5_define_81 : decode cX5_define 81 = .ok (.istore 6, 2) := by decide +kernel
theorem dX5_define_83 : decode cX5_define 83 = .ok (.aload_n 0, 1) := by decide +kernel
theorem dX5_define_84 : decode cX5_define 84 = .ok (.getfield 16, 3) := by decide +kernel
theorem dX5_define_87 : decode cX5_define 87 = .ok (.iload 6, 2) := by decide +kernel
theorem dX5_define_89 : decode cX5_define 89 = .ok (.iload_n 2, 1) := by decide +kernel
theorem dX5_define_90 : decode cX5_define 90 = .ok (.iastore, 1) := by decide +kernel
theorem dX5_define_91 : decode cX5_define 91 = .ok (.aload_n 0, 1) := by decide +kernel
theorem dX5_define_92 : decode cX5_define 92 = .ok (.getfield 19, 3) := by decide +kernel
theorem dX5_define_95 : decode cX5_define 95 = .ok (.iload 6, 2) := by decide +kernel
theorem dX5_define_97 : decode cX5_define 97 = .ok (.iload_n 3, 1) := by decide +kernel
theorem dX5_define_98 : decode cX5_define 98 = .ok (.iastore, 1) := by decide +kernel
theorem dX5_define_99 : decode cX5_define 99 = .ok (.aload_n 0, 1) := by decide +kernel
theorem dX5_define_100 : decode cX5_define 100 = .ok (.getfield 22, 3) := by decide +kernel
theorem dX5_define_103 : decode cX5_define 103 = .ok (.iload 6, 2) := by decide +kernel
theorem dX5_define_105 : decode cX5_define 105 = .ok (.iload 4, 2) := by decide +kernel
theorem dX5_define_107 : decode cX5_define 107 = .ok (.iastore, 1) := by decide +kernel
theorem dX5_define_108 : decode cX5_define 108 = .ok (.aload_n 0, 1) := by decide +kernel
theorem dX5_define_109 : decode cX5_define 109 = .ok (.getfield 25, 3) := by decide +kernel
theorem dX5_define_112 : decode cX5_define 112 = .ok (.iload 6, 2) := by decide +kernel
theorem dX5_define_114 : decode cX5_define 114 = .ok (.iload 5, 2) := by decide +kernel
theorem dX5_define_116 : decode cX5_define 116 = .ok (.iastore, 1) := by decide +kernel
theorem dX5_define_117 : decode cX5_define 117 = .ok (.aload_n 0, 1) := by decide +kernel
theorem dX5_define_118 : decode cX5_define 118 = .ok (.getfield 28, 3) := by decide +kernel
theorem dX5_define_121 : decode cX5_define 121 = .ok (.iload_n 1, 1) := by decide +kernel
theorem dX5_define_122 : decode cX5_define 122 = .ok (.dup2, 1) := by decide +kernel
theorem dX5_define_123 : decode cX5_define 123 = .ok (.iaload, 1) := by decide +kernel
theorem dX5_define_124 : decode cX5_define 124 = .ok (.iconst 1, 1) := by decide +kernel
theorem dX5_define_125 : decode cX5_define 125 = .ok (.iadd, 1) := by decide +kernel
theorem dX5_define_126 : decode cX5_define 126 = .ok (.iastore, 1) := by decide +kernel
theorem dX5_define_127 : decode cX5_define 127 = .ok (.aload_n 0, 1) := by decide +kernel
theorem dX5_define_128 : decode cX5_define 128 = .ok (.iconst 0, 1) := by decide +kernel
theorem dX5_define_129 : decode cX5_define 129 = .ok (.putfield 97, 3) := by decide +kernel
theorem dX5_define_132 : decode cX5_define 132 = .ok (.aload_n 0, 1) := by decide +kernel
theorem dX5_define_133 : decode cX5_define 133 = .ok (.getfield 28, 3) := by decide +kernel
theorem dX5_define_136 : decode cX5_define 136 = .ok (.iload_n 1, 1) := by decide +kernel
theorem dX5_define_137 : decode cX5_define 137 = .ok (.iaload, 1) := by decide +kernel
theorem dX5_define_138 : decode cX5_define 138 = .ok (.ireturn, 1) := by decide +kernel
theorem dX5_optional_0 : decode cX5_optional 0 = .ok (.aload_n 0, 1) := by decide +kernel
theorem dX5_optional_1 : decode cX5_optional 1 = .ok (.iload_n 1, 1) := by decide +kernel
theorem dX5_optional_2 : decode cX5_optional 2 = .ok (.invokevirtual 93, 3) := by decide +kernel
theorem dX5_optional_5 : decode cX5_optional 5 = .ok (.ifCond .eq 24, 3) := by decide +kernel
theorem dX5_optional_8 : decode cX5_optional 8 = .ok (.iload_n 2, 1) := by decide +kernel
theorem dX5_optional_9 : decode cX5_optional 9 = .ok (.invokestatic 101, 3) := by decide +kernel
theorem dX5_optional_12 : decode cX5_optional 12 = .ok (.ifCond .eq 17, 3) := by decide +kernel
theorem dX5_optional_15 : decode cX5_optional 15 = .ok (.aload_n 0, 1) := by decide +kernel
theorem dX5_optional_16 : decode cX5_optional 16 = .ok (.getfield 37, 3) := by decide +kernel
theorem dX5_optional_19 : decode cX5_optional 19 = .ok (.bipush 64, 2) := by decide +kernel
theorem dX5_optional_21 : decode cX5_optional 21 = .ok (.iload_n 1, 1) := by decide +kernel
theorem dX5_optional_22 : decode cX5_optional 22 = .ok (.imul, 1) := by decide +kernel
theorem dX5_optional_23 : decode cX5_optional 23 = .ok (.iload_n 2, 1) := by decide +kernel
theorem dX5_optional_24 : decode cX5_optional 24 = .ok (.iadd, 1) := by decide +kernel
theorem dX5_optional_25 : decode cX5_optional 25 = .ok (.baload, 1) := by decide +kernel
theorem dX5_optional_26 : decode cX5_optional 26 = .ok (.ifCond .eq 5, 3) := by decide +kernel
theorem dX5_optional_29 : decode cX5_optional 29 = .ok (.iconst 0, 1) := by decide +kernel
theorem dX5_optional_30 : decode cX5_optional 30 = .ok (.ireturn, 1) := by decide +kernel
theorem dX5_optional_31 : decode cX5_optional 31 = .ok (.aload_n 0, 1) := by decide +kernel
theorem dX5_optional_32 : decode cX5_optional 32 = .ok (.getfield 37, 3) := by decide +kernel
theorem dX5_optional_35 : decode cX5_optional 35 = .ok (.bipush 64, 2) := by decide +kernel
theorem dX5_optional_37 : decode cX5_optional 37 = .ok (.iload_n 1, 1) := by decide +kernel
theorem dX5_optional_38 : decode cX5_optional 38 = .ok (.imul, 1) := by decide +kernel
theorem dX5_optional_39 : decode cX5_optional 39 = .ok (.iload_n 2, 1) := by decide +kernel
theorem dX5_optional_40 : decode cX5_optional 40 = .ok (.iadd, 1) := by decide +kernel
theorem dX5_optional_41 : decode cX5_optional 41 = .ok (.iconst 1, 1) := by decide +kernel
theorem dX5_optional_42 : decode cX5_optional 42 = .ok (.bastore, 1) := by decide +kernel
theorem dX5_optional_43 : decode cX5_optional 43 = .ok (.aload_n 0, 1) := by decide +kernel
theorem dX5_optional_44 : decode cX5_optional 44 = .ok (.iconst 0, 1) := by decide +kernel
theorem dX5_optional_45 : decode cX5_optional 45 = .ok (.putfield 97, 3) := by decide +kernel
theorem dX5_optional_48 : decode cX5_optional 48 = .ok (.iconst 1, 1) := by decide +kernel
theorem dX5_optional_49 : decode cX5_optional 49 = .ok (.ireturn, 1) := by decide +kernel
theorem dX5_beginner_0 : decode cX5_beginner 0 = .ok (.aload_n 0, 1) := by decide +kernel
theorem dX5_beginner_1 : decode cX5_beginner 1 = .ok (.iload_n 1, 1) := by decide +kernel
theorem dX5_beginner_2 : decode cX5_beginner 2 = .ok (.invokevirtual 93, 3) := by decide +kernel
theorem dX5_beginner_5 : decode cX5_beginner 5 = .ok (.ifCond .eq 15, 3) := by decide +kernel
theorem dX5_beginner_8 : decode cX5_beginner 8 = .ok (.iload_n 2, 1) := by decide +kernel
theorem dX5_beginner_9 : decode cX5_beginner 9 = .ok (.iconst (-1), 1) := by decide +kernel
theorem dX5_beginner_10 : decode cX5_beginner 10 = .ok (.if_icmp .eq 12, 3) := by decide +kernel
theorem dX5_beginner_13 : decode cX5_beginner 13 = .ok (.iload_n 2, 1) := by decide +kernel
theorem dX5_beginner_14 : decode cX5_beginner 14 = .ok (.invokestatic 101, 3) := by decide +kernel
theorem dX5_beginner_17 : decode cX5_beginner 17 = .ok (.ifCond .ne 5, 3) := by decide +kernel
theorem dX5_beginner_20 : decode cX5_beginner 20 = .ok (.iconst 0, 1) := by decide +kernel
theorem dX5_beginner_21 : decode cX5_beginner 21 = .ok (.ireturn, 1) := by decide +kernel
theorem dX5_beginner_22 : decode cX5_beginner 22 = .ok (.aload_n 0, 1) := by decide +kernel
theorem dX5_beginner_23 : decode cX5_beginner 23 = .ok (.getfield 41, 3) := by decide +kernel
theorem dX5_beginner_26 : decode cX5_beginner 26 = .ok (.iload_n 1, 1) := by decide +kernel
theorem dX5_beginner_27 : decode cX5_beginner 27 = .ok (.iload_n 2, 1) := by decide +kernel
theorem dX5_beginner_28 : decode cX5_beginner 28 = .ok (.iastore, 1) := by decide +kernel
theorem dX5_beginner_29 : decode cX5_beginner 29 = .ok (.aload_n 0, 1) := by decide +kernel
theorem dX5_beginner_30 : decode cX5_beginner 30 = .ok (.iconst 0, 1) := by decide +kernel
theorem dX5_beginner_31 : decode cX5_beginner 31 = .ok (.putfield 97, 3) := by decide +kernel
theorem dX5_beginner_34 : decode cX5_beginner 34 = .ok (.iconst 1, 1) := by decide +kernel
theorem dX5_beginner_35 : decode cX5_beginner 35 = .ok (.ireturn, 1) := by decide +kernel
theorem dX5_isGood_0 : decode cX5_isGood 0 = .ok (.iload_n 0, 1) := by decide +kernel
theorem dX5_isGood_1 : decode cX5_isGood 1 = .ok (.tableswitch 200 0 13 #[71, 76, 96, 96, 96, 123, 150, 155, 160, 180, 160, 71, 200, 71], 71) := by decide +kernel
theorem dX5_isGood_72 : decode cX5_isGood 72 = .ok (.iload_n 1, 1) := by decide +kernel
theorem dX5_isGood_73 : decode cX5_isGood 73 = .ok (.invokestatic 111, 3) := by decide +kernel
theorem dX5_isGood_76 : decode cX5_isGood 76 = .ok (.ireturn, 1) := by decide +kernel
theorem dX5_isGood_77 : decode cX5_isGood 77 = .ok (.iload_n 1, 1) := by decide +kernel
theorem dX5_isGood_78 : decode cX5_isGood 78 = .ok (.invokestatic 111, 3) := by decide +kernel
theorem dX5_isGood_81 : decode cX5_isGood 81 = .ok (.ifCond .eq 14, 3) := by decide +kernel
theorem dX5_isGood_84 : decode cX5_isGood 84 = .ok (.iload_n 2, 1) := by decide +kernel
theorem dX5_isGood_85 : decode cX5_isGood 85 = .ok (.invokestatic 111, 3) := by decide +kernel
theorem dX5_isGood_88 : decode cX5_isGood 88 = .ok (.ifCond .eq 7, 3) := by decide +kernel
theorem dX5_isGood_91 : decode cX5_isGood 91 = .ok (.iconst 1, 1) := by decide +kernel
theorem dX5_isGood_92 : decode cX5_isGood 92 = .ok (.goto 4, 3) := by decide +kernel
theorem dX5_isGood_95 : decode cX5_isGood 95 = .ok (.iconst 0, 1) := by decide +kernel
theorem dX5_isGood_96 : decode cX5_isGood 96 = .ok (.ireturn, 1) := by decide +kernel
theorem dX5_isGood_97 : decode cX5_isGood 97 = .ok (.iload_n 1, 1) := by decide +kernel
theorem dX5_isGood_98 : decode cX5_isGood 98 = .ok (.invokestatic 111, 3) := by decide +kernel
theorem dX5_isGood_101 : decode cX5_isGood 101 = .ok (.ifCond .eq 21, 3) := by decide +kernel
theorem dX5_isGood_104 : decode cX5_isGood 104 = .ok (.iload_n 2, 1) := by decide +kernel
theorem dX5_isGood_105 : decode cX5_isGood 105 = .ok (.invokestatic 111, 3) := by decide +kernel
theorem dX5_isGood_108 : decode cX5_isGood 108 = .ok (.ifCond .eq 14, 3) := by decide +kernel
theorem dX5_isGood_111 : decode cX5_isGood 111 = .ok (.iload_n 3, 1) := by decide +kernel
theorem dX5_isGood_112 : decode cX5_isGood 112 = .ok (.invokestatic 111, 3) := by decide +kernel
theorem dX5_isGood_115 : decode cX5_isGood 115 = .ok (.ifCond .eq 7, 3) := by decide +kernel
theorem dX5_isGood_118 : decode cX5_isGood 118 = .ok (.iconst 1, 1) := by decide +kernel
theorem dX5_isGood_119 : decode cX5_isGood 119 = .ok (.goto 4, 3) := by decide +kernel
theorem dX5_isGood_122 : decode cX5_isGood 122 = .ok (.iconst 0, 1) := by decide +kernel
theorem dX5_isGood_123 : decode cX5_isGood 123 = .ok (.ireturn, 1) := by decide +kernel
theorem dX5_isGood_124 : decode cX5_isGood 124 = .ok (.iload_n 1, 1) := by decide +kernel
theorem dX5_isGood_125 : decode cX5_isGood 125 = .ok (.invokestatic 111, 3) := by decide +kernel
theorem dX5_isGood_128 : decode cX5_isGood 128 = .ok (.ifCond .eq 21, 3) := by decide +kernel
theorem dX5_isGood_131 : decode cX5_isGood 131 = .ok (.iload_n 2, 1) := by decide +kernel
theorem dX5_isGood_132 : decode cX5_isGood 132 = .ok (.invokestatic 111, 3) := by decide +kernel
theorem dX5_isGood_135 : decode cX5_isGood 135 = .ok (.ifCond .eq 14, 3) := by decide +kernel
theorem dX5_isGood_138 : decode cX5_isGood 138 = .ok (.iload_n 3, 1) := by decide +kernel
theorem dX5_isGood_139 : decode cX5_isGood 139 = .ok (.invokestatic 104, 3) := by decide +kernel
theorem dX5_isGood_142 : decode cX5_isGood 142 = .ok (.ifCond .eq 7, 3) := by decide +kernel
theorem dX5_isGood_145 : decode cX5_isGood 145 = .ok (.iconst 1, 1) := by decide +kernel
theorem dX5_isGood_146 : decode cX5_isGood 146 = .ok (.goto 4, 3) := by decide +kernel
theorem dX5_isGood_149 : decode cX5_isGood 149 = .ok (.iconst 0, 1) := by decide +kernel
theorem dX5_isGood_150 : decode cX5_isGood 150 = .ok (.ireturn, 1) := by decide +kernel
theorem dX5_isGood_151 : decode cX5_isGood 151 = .ok (.iload_n 1, 1) := by decide +kernel
theorem dX5_isGood_152 : decode cX5_isGood 152 = .ok (.invokestatic 104, 3) := by decide +kernel
theorem dX5_isGood_155 : decode cX5_isGood 155 = .ok (.ireturn, 1) := by decide +kernel
theorem dX5_isGood_156 : decode cX5_isGood 156 = .ok (.iload_n 1, 1) := by decide +kernel
theorem dX5_isGood_157 : decode cX5_isGood 157 = .ok (.invokestatic 101, 3) := by decide +kernel
theorem dX5_isGood_160 : decode cX5_isGood 160 = .ok (.ireturn, 1) := by decide +kernel
theorem dX5_isGood_161 : decode cX5_isGood 161 = .ok (.iload_n 1, 1) := by decide +kernel
theorem dX5_isGood_162 : decode cX5_isGood 162 = .ok (.invokestatic 111, 3) := by decide +kernel
theorem dX5_isGood_165 : decode cX5_isGood 165 = .ok (.ifCond .eq 14, 3) := by decide +kernel
theorem dX5_isGood_168 : decode cX5_isGood 168 = .ok (.iload_n 2, 1) := by decide +kernel
theorem dX5_isGood_169 : decode cX5_isGood 169 = .ok (.invokestatic 101, 3) := by decide +kernel
theorem dX5_isGood_172 : decode cX5_isGood 172 = .ok (.ifCond .eq 7, 3) := by decide +kernel
theorem dX5_isGood_175 : decode cX5_isGood 175 = .ok (.iconst 1, 1) := by decide +kernel
theorem dX5_isGood_176 : decode cX5_isGood 176 = .ok (.goto 4, 3) := by decide +kernel
theorem dX5_isGood_179 : decode cX5_isGood 179 = .ok (.iconst 0, 1) := by decide +kernel
theorem dX5_isGood_180 : decode cX5_isGood 180 = .ok (.ireturn, 1) := by decide +kernel
theorem dX5_isGood_181 : decode cX5_isGood 181 = .ok (.iload_n 1, 1) := by decide +kernel
theorem dX5_isGood_182 : decode cX5_isGood 182 = .ok (.invokestatic 101, 3) := by decide +kernel
theorem dX5_isGood_185 : decode cX5_isGood 185 = .ok (.ifCond .eq 14, 3) := by decide +kernel
theorem dX5_isGood_188 : decode cX5_isGood 188 = .ok (.iload_n 2, 1) := by decide +kernel
theorem dX5_isGood_189 : decode cX5_isGood 189 = .ok (.invokestatic 111, 3) := by decide +kernel
theorem dX5_isGood_192 : decode cX5_isGood 192 = .ok (.ifCond .eq 7, 3) := by decide +kernel
theorem dX5_isGood_195 : decode cX5_isGood 195 = .ok (.iconst 1, 1) := by decide +kernel
theorem dX5_isGood_196 : decode cX5_isGood 196 = .ok (.goto 4, 3) := by decide +kernel
theorem dX5_isGood_199 : decode cX5_isGood 199 = .ok (.iconst 0, 1) := by decide +kernel
theorem dX5_isGood_200 : decode cX5_isGood 200 = .ok (.ireturn, 1) := by decide +kernel
theorem dX5_isGood_201 : decode cX5_isGood 201 = .ok (.iload_n 0, 1) := by decide +kernel
theorem dX5_isGood_202 : decode cX5_isGood 202 = .ok (.bipush 12, 2) := by decide +kernel
theorem dX5_isGood_204 : decode cX5_isGood 204 = .ok (.if_icmp .eq 9, 3) := by decide +kernel
theorem dX5_isGood_207 : decode cX5_isGood 207 = .ok (.iload_n 0, 1) := by decide +kernel
theorem dX5_isGood_208 : decode cX5_isGood 208 = .ok (.bipush 14, 2) := by decide +kernel
theorem dX5_isGood_210 : decode cX5_isGood 210 = .ok (.if_icmp .ne 7, 3) := by decide +kernel
theorem dX5_isGood_213 : decode cX5_isGood 213 = .ok (.iconst 1, 1) := by decide +kernel
theorem dX5_isGood_214 : decode cX5_isGood 214 = .ok (.goto 4, 3) := by decide +kernel
theorem dX5_isGood_217 : decode cX5_isGood 217 = .ok (.iconst 0, 1) := by decide +kernel
theorem dX5_isGood_218 : decode cX5_isGood 218 = .ok (.ireturn, 1) := by decide +kernel
theorem dX5_put_0 : decode cX5_put 0 = .ok (.aload_n 0, 1) := by decide +kernel
theorem dX5_put_1 : decode cX5_put 1 = .ok (.iload_n 1, 1) := by decide +kernel
theorem dX5_put_2 : decode cX5_put 2 = .ok (.invokevirtual 93, 3) := by decide +kernel
theorem dX5_put_5 : decode cX5_put 5 = .ok (.ifCond .eq 26, 3) := by decide +kernel
theorem dX5_put_8 : decode cX5_put 8 = .ok (.iload_n 2, 1) := by decide +kernel
theorem dX5_put_9 : decode cX5_put 9 = .ok (.iload_n 3, 1) := by decide +kernel
theorem dX5_put_10 : decode cX5_put 10 = .ok (.iload 4, 2) := by decide +kernel
theorem dX5_put_12 : decode cX5_put 12 = .ok (.iload 5, 2) := by decide +kernel
theorem dX5_put_14 : decode cX5_put 14 = .ok (.invokestatic 114, 3) := by decide +kernel
theorem dX5_put_17 : decode cX5_put 17 = .ok (.ifCond .eq 14, 3) := by decide +kernel
theorem dX5_put_20 : decode cX5_put 20 = .ok (.aload_n 0, 1) := by decide +kernel
theorem dX5_put_21 : decode cX5_put 21 = .ok (.getfield 34, 3) := by decide +kernel
theorem dX5_put_24 : decode cX5_put 24 = .ok (.iload_n 1, 1) := by decide +kernel
theorem dX5_put_25 : decode cX5_put 25 = .ok (.iaload, 1) := by decide +kernel
theorem dX5_put_26 : decode cX5_put 26 = .ok (.bipush 100, 2) := by decide +kernel
theorem dX5_put_28 : decode cX5_put 28 = .ok (.if_icmp .ne 5, 3) := by decide +kernel
theorem dX5_put_31 : decode cX5_put 31 = .ok (.iconst (-1), 1) := by decide +kernel
theorem dX5_put_32 : decode cX5_put 32 = .ok (.ireturn, 1) := by decide +kernel
theorem dX5_put_33 : decode cX5_put 33 = .ok (.iconst 4, 1) := by decide +kernel
theorem dX5_put_34 : decode cX5_put 34 = .ok (.bipush 100, 2) := by decide +kernel
theorem dX5_put_36 : decode cX5_put 36 = .ok (.iload_n 1, 1) := by decide +kernel
theorem dX5_put_37 : decode cX5_put 37 = .ok (.imul, 1) := by decide +kernel
theorem dX5_put_38 : decode cX5_put 38 = .ok (.aload_n 0, 1) := by decide +kernel
theorem dX5_put_39 : decode cX5_put 39 = .ok (.getfield 34, 3) := by decide +kernel
theorem dX5_put_42 : decode cX5_put 42 = .ok (.iload_n 1, 1) := by decide +kernel
theorem dX5_put_43 : decode cX5_put 43 = .ok (.iaload, 1) := by decide +kernel
theorem dX5_put_44 : decode cX5_put 44 = .ok (.iadd, 1) := by decide +kernel
theorem dX5_put_45 : decode cX5_put 45 = .ok (.imul, 1) := by decide +kernel
theorem dX5_put_46 : decode cX5_put 46 = .ok (.istore 6, 2) := by decide +kernel
theorem dX5_put_48 : decode cX5_put 48 = .ok (.aload_n 0, 1) := by decide +kernel
theorem dX5_put_49 : decode cX5_put 49 = .ok (.getfield 31, 3) := by decide +kernel
theorem dX5_put_52 : decode cX5_put 52 = .ok (.iload 6, 2) := by decide +kernel
theorem dX5_put_54 : decode cX5_put 54 = .ok (.iload_n 2, 1) := by decide +kernel
theorem dX5_put_55 : decode cX5_put 55 = .ok (.iastore, 1) := by decide +kernel
theorem dX5_put_56 : decode cX5_put 56 = .ok (.aload_n 0, 1) := by decide +kernel
theorem dX5_put_57 : decode cX5_put 57 = .ok (.getfield 31, 3) := by decide +kernel
theorem dX5_put_60 : decode cX5_put 60 = .ok (.iload 6, 2) := by decide +kernel
theorem dX5_put_62 : decode cX5_put 62 = .ok (.iconst 1, 1) := by decide +kernel
theorem dX5_put_63 : decode cX5_put 63 = .ok (.iadd, 1) := by decide +kernel
theorem dX5_put_64 : decode cX5_put 64 = .ok (.iload_n 3, 1) := by decide +kernel
theorem dX5_put_65 : decode cX5_put 65 = .ok (.iastore, 1) := by decide +kernel
theorem dX5_put_66 : decode cX5_put 66 = .ok (.aload_n 0, 1) := by decide +kernel
theorem dX5_put_67 : decode cX5_put 67 = .ok (.getfield 31, 3) := by decide +kernel
theorem dX5_put_70 : decode cX5_put 70 = .ok (.iload 6, 2) := by decide +kernel
theorem dX5_put_72 : decode cX5_put 72 = .ok (.iconst 2, 1) := by decide +kernel
theorem dX5_put_73 : decode cX5_put 73 = .ok (.iadd, 1) := by decide +kernel
theorem dX5_put_74 : decode cX5_put 74 = .ok (.iload 4, 2) := by decide +kernel
theorem dX5_put_76 : decode cX5_put 76 = .ok (.iastore, 1) := by decide +kernel
theorem dX5_put_77 : decode cX5_put 77 = .ok (.aload_n 0, 1) := by decide +kernel
theorem dX5_put_78 : decode cX5_put 78 = .ok (.getfield 31, 3) := by decide +kernel
theorem dX5_put_81 : decode cX5_put 81 = .ok (.iload 6, 2) := by decide +kernel
theorem dX5_put_83 : decode cX5_put 83 = .ok (.iconst 3, 1) := by decide +kernel
theorem dX5_put_84 : decode cX5_put 84 = .ok (.iadd, 1) := by decide +kernel
theorem dX5_put_85 : decode cX5_put 85 = .ok (.iload 5, 2) := by decide +kernel
theorem dX5_put_87 : decode cX5_put 87 = .ok (.iastore, 1) := by decide +kernel
theorem dX5_put_88 : decode cX5_put 88 = .ok (.aload_n 0, 1) := by decide +kernel
theorem dX5_put_89 : decode cX5_put 89 = .ok (.getfield 34, 3) := by decide +kernel
theorem dX5_put_92 : decode cX5_put 92 = .ok (.iload_n 1, 1) := by decide +kernel
theorem dX5_put_93 : decode cX5_put 93 = .ok (.dup2, 1) := by decide +kernel
theorem dX5_put_94 : decode cX5_put 94 = .ok (.iaload, 1) := by decide +kernel
theorem dX5_put_95 : decode cX5_put 95 = .ok (.iconst 1, 1) := by decide +kernel
theorem dX5_put_96 : decode cX5_put 96 = .ok (.iadd, 1) := by decide +kernel
theorem dX5_put_97 : decode cX5_put 97 = .ok (.iastore, 1) := by decide +kernel
theorem dX5_put_98 : decode cX5_put 98 = .ok (.aload_n 0, 1) := by decide +kernel
theorem dX5_put_99 : decode cX5_put 99 = .ok (.iconst 0, 1) := by decide +kernel
theorem dX5_put_100 : decode cX5_put 100 = .ok (.putfield 97, 3) := by decide +kernel
theorem dX5_put_103 : decode cX5_put 103 = .ok (.aload_n 0, 1) := by decide +kernel
theorem dX5_put_104 : decode cX5_put 104 = .ok (.getfield 34, 3) := by decide +kernel
theorem dX5_put_107 : decode cX5_put 107 = .ok (.iload_n 1, 1) := by decide +kernel
theorem dX5_put_108 : decode cX5_put 108 = .ok (.iaload, 1) := by decide +kernel
theorem dX5_put_109 : decode cX5_put 109 = .ok (.iconst 1, 1) := by decide +kernel
theorem dX5_put_110 : decode cX5_put 110 = .ok (.isub, 1) := by decide +kernel
theorem dX5_put_111 : decode cX5_put 111 = .ok (.ireturn, 1) := by decide +kernel
theorem dX5_find_0 : decode cX5_find 0 = .ok (.aload_n 0, 1) := by decide +kernel
theorem dX5_find_1 : decode cX5_find 1 = .ok (.iload_n 3, 1) := by decide +kernel
theorem dX5_find_2 : decode cX5_find 2 = .ok (.iload 4, 2) := by decide +kernel
theorem dX5_find_4 : decode cX5_find 4 = .ok (.invokevirtual 107, 3) := by decide +kernel
theorem dX5_find_7 : decode cX5_find 7 = .ok (.istore 5, 2) := by decide +kernel
theorem dX5_find_9 : decode cX5_find 9 = .ok (.iload 5, 2) := by decide +kernel
theorem dX5_find_11 : decode cX5_find 11 = .ok (.iconst (-1), 1) := by decide +kernel
theorem dX5_find_12 : decode cX5_find 12 = .ok (.if_icmp .eq 19, 3) := by decide +kernel
theorem dX5_find_15 : decode cX5_find 15 = .ok (.aload_n 0, 1) := by decide +kernel
theorem dX5_find_16 : decode cX5_find 16 = .ok (.getfield 25, 3) := by decide +kernel
theorem dX5_find_19 : decode cX5_find 19 = .ok (.iload 5, 2) := by decide +kernel
theorem dX5_find_21 : decode cX5_find 21 = .ok (.iaload, 1) := by decide +kernel
theorem dX5_find_22 : decode cX5_find 22 = .ok (.bipush 6, 2) := by decide +kernel
theorem dX5_find_24 : decode cX5_find 24 = .ok (.iand, 1) := by decide +kernel
theorem dX5_find_25 : decode cX5_find 25 = .ok (.ifCond .eq 6, 3) := by decide +kernel
theorem dX5_find_28 : decode cX5_find 28 = .ok (.iload 5, 2) := by decide +kernel
theorem dX5_find_30 : decode cX5_find 30 = .ok (.ireturn, 1) := by decide +kernel
theorem dX5_find_31 : decode cX5_find 31 = .ok (.iconst (-1), 1) := by decide +kernel
theorem dX5_find_32 : decode cX5_find 32 = .ok (.istore 6, 2) := by decide +kernel
theorem dX5_find_34 : decode cX5_find 34 = .ok (.iconst 0, 1) := by decide +kernel
theorem dX5_find_35 : decode cX5_find 35 = .ok (.istore 7, 2) := by decide +kernel
theorem dX5_find_37 : decode cX5_find 37 = .ok (.iload 7, 2) := by decide +kernel
theorem dX5_find_39 : decode cX5_find 39 = .ok (.iload_n 2, 1) := by decide +kernel
theorem dX5_find_40 : decode cX5_find 40 = .ok (.if_icmp .ge 69, 3) := by decide +kernel
theorem dX5_find_43 : decode cX5_find 43 = .ok (.aload_n 0, 1) := by decide +kernel
theorem dX5_find_44 : decode cX5_find 44 = .ok (.aload_n 1, 1) := by decide +kernel
theorem dX5_find_45 : decode cX5_find 45 = .ok (.iload 7, 2) := by decide +kernel
theorem dX5_find_47 : decode cX5_find 47 = .ok (.iaload, 1) := by decide +kernel
theorem dX5_find_48 : decode cX5_find 48 = .ok (.iload 4, 2) := by decide +kernel
theorem dX5_find_50 : decode cX5_find 50 = .ok (.invokevirtual 107, 3) := by decide +kernel
theorem dX5_find_53 : decode cX5_find 53 = .ok (.istore 8, 2) := by decide +kernel
theorem dX5_find_55 : decode cX5_find 55 = .ok (.iload 8, 2) := by decide +kernel
theorem dX5_find_57 : decode cX5_find 57 = .ok (.iconst (-1), 1) := by decide +kernel
theorem dX5_find_58 : decode cX5_find 58 = .ok (.if_icmp .eq 45, 3) := by decide +kernel
theorem dX5_find_61 : decode cX5_find 61 = .ok (.aload_n 0, 1) := by decide +kernel
theorem dX5_find_62 : decode cX5_find 62 = .ok (.getfield 25, 3) := by decide +kernel
theorem dX5_find_65 : decode cX5_find 65 = .ok (.iload 8, 2) := by decide +kernel
theorem dX5_find_67 : decode cX5_find 67 = .ok (.iaload, 1) := by decide +kernel
theorem dX5_find_68 : decode cX5_find 68 = .ok (.iconst 4, 1) := by decide +kernel
theorem dX5_find_69 : decode cX5_find 69 = .ok (.iand, 1) := by decide +kernel
theorem dX5_find_70 : decode cX5_find 70 = .ok (.ifCond .ne 33, 3) := by decide +kernel
theorem dX5_find_73 : decode cX5_find 73 = .ok (.aload_n 0, 1) := by decide +kernel
theorem dX5_find_74 : decode cX5_find 74 = .ok (.getfield 25, 3) := by decide +kernel
theorem dX5_find_77 : decode cX5_find 77 = .ok (.iload 8, 2) := by decide +kernel
theorem dX5_find_79 : decode cX5_find 79 = .ok (.iaload, 1) := by decide +kernel
theorem dX5_find_80 : decode cX5_find 80 = .ok (.iconst 1, 1) := by decide +kernel
theorem dX5_find_81 : decode cX5_find 81 = .ok (.iand, 1) := by decide +kernel
theorem dX5_find_82 : decode cX5_find 82 = .ok (.ifCond .ne 6, 3) := by decide +kernel
theorem dX5_find_85 : decode cX5_find 85 = .ok (.iload 8, 2) := by decide +kernel
theorem dX5_find_87 : decode cX5_find 87 = .ok (.ireturn, 1) := by decide +kernel
theorem dX5_find_88 : decode cX5_find 88 = .ok (.iload 6, 2) := by decide +kernel
theorem dX5_find_90 : decode cX5_find 90 = .ok (.iconst (-1), 1) := by decide +kernel
theorem dX5_find_91 : decode cX5_find 91 = .ok (.if_icmp .ne 8, 3) := by decide +kernel
theorem dX5_find_94 : decode cX5_find 94 = .ok (.iload 8, 2) := by decide +kernel
theorem dX5_find_96 : decode cX5_find 96 = .ok (.goto 5, 3) := by decide +kernel
theorem dX5_find_99 : decode cX5_find 99 = .ok (.iload 6, 2) := by decide +kernel
theorem dX5_find_101 : decode cX5_find 101 = .ok (.istore 6, 2) := by decide +kernel
theorem dX5_find_103 : decode cX5_find 103 = .ok (.iinc 7 1, 3) := by decide +kernel
theorem dX5_find_106 : decode cX5_find 106 = .ok (.goto (-69), 3) := by decide +kernel
theorem dX5_find_109 : decode cX5_find 109 = .ok (.iload 6, 2) := by decide +kernel
theorem dX5_find_111 : decode cX5_find 111 = .ok (.ireturn, 1) := by decide +kernel
theorem dX5_findOrder_0 : decode cX5_findOrder 0 = .ok (.iconst 0, 1) := by decide +kernel
theorem dX5_findOrder_1 : decode cX5_findOrder 1 = .ok (.istore_n 2, 1) := by decide +kernel
theorem dX5_findOrder_2 : decode cX5_findOrder 2 = .ok (.iload_n 2, 1) := by decide +kernel
theorem dX5_findOrder_3 : decode cX5_findOrder 3 = .ok (.bipush 12, 2) := by decide +kernel
theorem dX5_findOrder_5 : decode cX5_findOrder 5 = .ok (.if_icmp .ge 25, 3) := by decide +kernel
theorem dX5_findOrder_8 : decode cX5_findOrder 8 = .ok (.aload_n 0, 1) := by decide +kernel
theorem dX5_findOrder_9 : decode cX5_findOrder 9 = .ok (.getfield 59, 3) := by decide +kernel
theorem dX5_findOrder_12 : decode cX5_findOrder 12 = .ok (.iload_n 2, 1) := by decide +kernel
theorem dX5_findOrder_13 : decode cX5_findOrder 13 = .ok (.iload_n 2, 1) := by decide +kernel
theorem dX5_findOrder_14 : decode cX5_findOrder 14 = .ok (.iload_n 1, 1) := by decide +kernel
theorem dX5_findOrder_15 : decode cX5_findOrder 15 = .ok (.if_icmp .ne 7, 3) := by decide +kernel
theorem dX5_findOrder_18 : decode cX5_findOrder 18 = .ok (.iconst 1, 1) := by decide +kernel
theorem dX5_findOrder_19 : decode cX5_findOrder 19 = .ok (.goto 4, 3) := by decide +kernel
theorem dX5_findOrder_22 : decode cX5_findOrder 22 = .ok (.iconst 0, 1) := by decide +kernel
theorem dX5_findOrder_23 : decode cX5_findOrder 23 = .ok (.bastore, 1) := by decide +kernel
theorem dX5_findOrder_24 : decode cX5_findOrder 24 = .ok (.iinc 2 1, 3) := by decide +kernel
theorem dX5_findOrder_27 : decode cX5_findOrder 27 = .ok (.goto (-25), 3) := by decide +kernel
theorem dX5_findOrder_30 : decode cX5_findOrder 30 = .ok (.aload_n 0, 1) := by decide +kernel
theorem dX5_findOrder_31 : decode cX5_findOrder 31 = .ok (.getfield 56, 3) := by decide +kernel
theorem dX5_findOrder_34 : decode cX5_findOrder 34 = .ok (.iconst 0, 1) := by decide +kernel
theorem dX5_findOrder_35 : decode cX5_findOrder 35 = .ok (.iload_n 1, 1) := by decide +kernel
theorem dX5_findOrder_36 : decode cX5_findOrder 36 = .ok (.iastore, 1) := by decide +kernel
theorem dX5_findOrder_37 : decode cX5_findOrder 37 = .ok (.aload_n 0, 1) := by decide +kernel
theorem dX5_findOrder_38 : decode cX5_findOrder 38 = .ok (.iconst 1, 1) := by decide +kernel
theorem dX5_findOrder_39 : decode cX5_findOrder 39 = .ok (.putfield 118, 3) := by decide +kernel
theorem dX5_findOrder_42 : decode cX5_findOrder 42 = .ok (.iconst 0, 1) := by decide +kernel
theorem dX5_findOrder_43 : decode cX5_findOrder 43 = .ok (.istore_n 2, 1) := by decide +kernel
theorem dX5_findOrder_44 : decode cX5_findOrder 44 = .ok (.iload_n 2, 1) := by decide +kernel
theorem dX5_findOrder_45 : decode cX5_findOrder 45 = .ok (.aload_n 0, 1) := by decide +kernel
theorem dX5_findOrder_46 : decode cX5_findOrder 46 = .ok (.getfield 118, 3) := by decide +kernel
theorem dX5_findOrder_49 : decode cX5_findOrder 49 = .ok (.if_icmp .ge 89, 3) := by decide +kernel
theorem dX5_findOrder_52 : decode cX5_findOrder 52 = .ok (.aload_n 0, 1) := by decide +kernel
theorem dX5_findOrder_53 : decode cX5_findOrder 53 = .ok (.getfield 56, 3) := by decide +kernel
theorem dX5_findOrder_56 : decode cX5_findOrder 56 = .ok (.iload_n 2, 1) := by decide +kernel
theorem dX5_findOrder_57 : decode cX5_findOrder 57 = .ok (.iaload, 1) := by decide +kernel
theorem dX5_findOrder_58 : decode cX5_findOrder 58 = .ok (.istore_n 3, 1) := by decide +kernel
theorem dX5_findOrder_59 : decode cX5_findOrder 59 = .ok (.iconst 0, 1) := by decide +kernel
theorem dX5_findOrder_60 : decode cX5_findOrder 60 = .ok (.istore 4, 2) := by decide +kernel
theorem dX5_findOrder_62 : decode cX5_findOrder 62 = .ok (.iload 4, 2) := by decide +kernel
theorem dX5_findOrder_64 : decode cX5_findOrder 64 = .ok (.aload_n 0, 1) := by decide +kernel
theorem dX5_findOrder_65 : decode cX5_findOrder 65 = .ok (.getfield 13, 3) := by decide +kernel
theorem dX5_findOrder_68 : decode cX5_findOrder 68 = .ok (.iload_n 3, 1) := by decide +kernel
theorem dX5_findOrder_69 : decode cX5_findOrder 69 = .ok (.iaload, 1) := by decide +kernel
theorem dX5_findOrder_70 : decode cX5_findOrder 70 = .ok (.if_icmp .ge 62, 3) := by decide +kernel
theorem dX5_findOrder_73 : decode cX5_findOrder 73 = .ok (.aload_n 0, 1) := by decide +kernel
theorem dX5_findOrder_74 : decode cX5_findOrder 74 = .ok (.getfield 7, 3) := by decide +kernel
theorem dX5_findOrder_77 : decode cX5_findOrder 77 = .ok (.bipush 6, 2) := by decide +kernel
theorem dX5_findOrder_79 : decode cX5_findOrder 79 = .ok (.iload_n 3, 1) := by decide +kernel
theorem dX5_findOrder_80 : decode cX5_findOrder 80 = .ok (.imul, 1) := by decide +kernel
theorem dX5_findOrder_81 : decode cX5_findOrder 81 = .ok (.iload 4, 2) := by decide +kernel
theorem dX5_findOrder_83 : decode cX5_findOrder 83 = .ok (.iadd, 1) := by decide +kernel
theorem dX5_findOrder_84 : decode cX5_findOrder 84 = .ok (.iaload, 1) := by decide +kernel
theorem dX5_findOrder_85 : decode cX5_findOrder 85 = .ok (.istore 5, 2) := by decide +kernel
theorem dX5_findOrder_87 : decode cX5_findOrder 87 = .ok (.aload_n 0, 1) := by decide +kernel
theorem dX5_findOrder_88 : decode cX5_findOrder 88 = .ok (.getfield 59, 3) := by decide +kernel
theorem dX5_findOrder_91 : decode cX5_findOrder 91 = .ok (.iload 5, 2) := by decide +kernel
theorem dX5_findOrder_93 : decode cX5_findOrder 93 = .ok (.baload, 1) := by decide +kernel
theorem dX5_findOrder_94 : decode cX5_findOrder 94 = .ok (.ifCond .ne 32, 3) := by decide +kernel
theorem dX5_findOrder_97 : decode cX5_findOrder 97 = .ok (.aload_n 0, 1) := by decide +kernel
theorem dX5_findOrder_98 : decode cX5_findOrder 98 = .ok (.getfield 59, 3) := by decide +kernel
theorem dX5_findOrder_101 : decode cX5_findOrder 101 = .ok (.iload 5, 2) := by decide +kernel
theorem dX5_findOrder_103 : decode cX5_findOrder 103 = .ok (.iconst 1, 1) := by decide +kernel
theorem dX5_findOrder_104 : decode cX5_findOrder 104 = .ok (.bastore, 1) := by decide +kernel
theorem dX5_findOrder_105 : decode cX5_findOrder 105 = .ok (.aload_n 0, 1) := by decide +kernel
theorem dX5_findOrder_106 : decode cX5_findOrder 106 = .ok (.getfield 56, 3) := by decide +kernel
theorem dX5_findOrder_109 : decode cX5_findOrder 109 = .ok (.aload_n 0, 1) := by decide +kernel
theorem dX5_findOrder_110 : decode cX5_findOrder 110 = .ok (.getfield 118, 3) := by decide +kernel
theorem dX5_findOrder_113 : decode cX5_findOrder 113 = .ok (.iload 5, 2) := by decide +kernel
theorem dX5_findOrder_115 : decode cX5_findOrder 115 = .ok (.iastore, 1) := by decide +kernel
theorem dX5_findOrder_116 : decode cX5_findOrder 116 = .ok (.aload_n 0, 1) := by decide +kernel
theorem dX5_findOrder_117 : decode cX5_findOrder 117 = .ok (.dup, 1) := by decide +kernel
theorem dX5_findOrder_118 : decode cX5_findOrder 118 = .ok (.getfield 118, 3) := by decide +kernel
theorem dX5_findOrder_121 : decode cX5_findOrder 121 = .ok (.iconst 1, 1) := by decide +kernel
theorem dX5_findOrder_122 : decode cX5_findOrder 122 = .ok (.iadd, 1) := by decide +kernel
theorem dX5_findOrder_123 : decode cX5_findOrder 123 = .ok (.putfield 118, 3) := by decide +kernel
theorem dX5_findOrder_126 : decode cX5_findOrder 126 = .ok (.iinc 4 1, 3) := by decide +kernel
theorem dX5_findOrder_129 : decode cX5_findOrder 129 = .ok (.goto (-67), 3) := by decide +kernel
theorem dX5_findOrder_132 : decode cX5_findOrder 132 = .ok (.iinc 2 1, 3) := by decide +kernel
theorem dX5_findOrder_135 : decode cX5_findOrder 135 = .ok (.goto (-91), 3) := by decide +kernel
theorem dX5_findOrder_138 : decode cX5_findOrder 138 = .ok (.return_, 1) := by decide +kernel
theorem dX5_look_0 : decode cX5_look 0 = .ok (.aload_n 0, 1) := by decide +kernel
theorem dX5_look_1 : decode cX5_look 1 = .ok (.aload_n 0, 1) := by decide +kernel
theorem dX5_look_2 : decode cX5_look 2 = .ok (.getfield 56, 3) := by decide +kernel
theorem dX5_look_5 : decode cX5_look 5 = .ok (.aload_n 0, 1) := by decide +kernel
theorem dX5_look_6 : decode cX5_look 6 = .ok (.getfield 118, 3) := by decide +kernel
theorem dX5_look_9 : decode cX5_look 9 = .ok (.iload_n 1, 1) := by decide +kernel
theorem dX5_look_10 : decode cX5_look 10 = .ok (.iload_n 3, 1) := by decide +kernel
theorem dX5_look_11 : decode cX5_look 11 = .ok (.invokevirtual 121, 3) := by decide +kernel
theorem dX5_look_14 : decode cX5_look 14 = .ok (.istore 5, 2) := by decide +kernel
theorem dX5_look_16 : decode cX5_look 16 = .ok (.iload 5, 2) := by decide +kernel
theorem dX5_look_18 : decode cX5_look 18 = .ok (.iconst (-1), 1) := by decide +kernel
theorem dX5_look_19 : decode cX5_look 19 = .ok (.if_icmp .ne 25, 3) := by decide +kernel
theorem dX5_look_22 : decode cX5_look 22 = .ok (.aload_n 0, 1) := by decide +kernel
theorem dX5_look_23 : decode cX5_look 23 = .ok (.getfield 37, 3) := by decide +kernel
theorem dX5_look_26 : decode cX5_look 26 = .ok (.bipush 64, 2) := by decide +kernel
theorem dX5_look_28 : decode cX5_look 28 = .ok (.iload_n 1, 1) := by decide +kernel
