theorem dX2_init_0 : decode cX2_init 0 = .ok (.aload_n 0, 1) := by decide +kernel
theorem dX2_init_1 : decode cX2_init 1 = .ok (.invokespecial 3, 3) := by decide +kernel
theorem dX2_init_4 : decode cX2_init 4 = .ok (.aload_n 0, 1) := by decide +kernel
theorem dX2_init_5 : decode cX2_init 5 = .ok (.bipush 6, 2) := by decide +kernel
theorem dX2_init_7 : decode cX2_init 7 = .ok (.newarray .int, 2) := by decide +kernel
theorem dX2_init_9 : decode cX2_init 9 = .ok (.putfield 9, 3) := by decide +kernel
theorem dX2_init_12 : decode cX2_init 12 = .ok (.aload_n 0, 1) := by decide +kernel
theorem dX2_init_13 : decode cX2_init 13 = .ok (.iconst 0, 1) := by decide +kernel
theorem dX2_init_14 : decode cX2_init 14 = .ok (.putfield 15, 3) := by decide +kernel
theorem dX2_init_17 : decode cX2_init 17 = .ok (.aload_n 0, 1) := by decide +kernel
theorem dX2_init_18 : decode cX2_init 18 = .ok (.bipush 64, 2) := by decide +kernel
theorem dX2_init_20 : decode cX2_init 20 = .ok (.newarray .int, 2) := by decide +kernel
theorem dX2_init_22 : decode cX2_init 22 = .ok (.putfield 19, 3) := by decide +kernel
theorem dX2_init_25 : decode cX2_init 25 = .ok (.aload_n 0, 1) := by decide +kernel
theorem dX2_init_26 : decode cX2_init 26 = .ok (.bipush 64, 2) := by decide +kernel
theorem dX2_init_28 : decode cX2_init 28 = .ok (.newarray .int, 2) := by decide +kernel
theorem dX2_init_30 : decode cX2_init 30 = .ok (.putfield 22, 3) := by decide +kernel
theorem dX2_init_33 : decode cX2_init 33 = .ok (.aload_n 0, 1) := by decide +kernel
theorem dX2_init_34 : decode cX2_init 34 = .ok (.bipush 64, 2) := by decide +kernel
theorem dX2_init_36 : decode cX2_init 36 = .ok (.newarray .int, 2) := by decide +kernel
theorem dX2_init_38 : decode cX2_init 38 = .ok (.putfield 25, 3) := by decide +kernel
theorem dX2_init_41 : decode cX2_init 41 = .ok (.aload_n 0, 1) := by decide +kernel
theorem dX2_init_42 : decode cX2_init 42 = .ok (.iconst 0, 1) := by decide +kernel
theorem dX2_init_43 : decode cX2_init 43 = .ok (.putfield 28, 3) := by decide +kernel
theorem dX2_init_46 : decode cX2_init 46 = .ok (.aload_n 0, 1) := by decide +kernel
theorem dX2_init_47 : decode cX2_init 47 = .ok (.bipush 100, 2) := by decide +kernel
theorem dX2_init_49 : decode cX2_init 49 = .ok (.newarray .boolean, 2) := by decide +kernel
theorem dX2_init_51 : decode cX2_init 51 = .ok (.putfield 31, 3) := by decide +kernel
theorem dX2_init_54 : decode cX2_init 54 = .ok (.aload_n 0, 1) := by decide +kernel
theorem dX2_init_55 : decode cX2_init 55 = .ok (.bipush 64, 2) := by decide +kernel
theorem dX2_init_57 : decode cX2_init 57 = .ok (.newarray .boolean, 2) := by decide +kernel
theorem dX2_init_59 : decode cX2_init 59 = .ok (.putfield 35, 3) := by decide +kernel
theorem dX2_init_62 : decode cX2_init 62 = .ok (.aload_n 0, 1) := by decide +kernel
theorem dX2_init_63 : decode cX2_init 63 = .ok (.iconst (-1), 1) := by decide +kernel
theorem dX2_init_64 : decode cX2_init 64 = .ok (.putfield 38, 3) := by decide +kernel
theorem dX2_init_67 : decode cX2_init 67 = .ok (.aload_n 0, 1) := by decide +kernel
theorem dX2_init_68 : decode cX2_init 68 = .ok (.bipush 100, 2) := by decide +kernel
theorem dX2_init_70 : decode cX2_init 70 = .ok (.newarray .int, 2) := by decide +kernel
theorem dX2_init_72 : decode cX2_init 72 = .ok (.putfield 41, 3) := by decide +kernel
theorem dX2_init_75 : decode cX2_init 75 = .ok (.aload_n 0, 1) := by decide +kernel
theorem dX2_init_76 : decode cX2_init 76 = .ok (.bipush 100, 2) := by decide +kernel
theorem dX2_init_78 : decode cX2_init 78 = .ok (.newarray .int, 2) := by decide +kernel
theorem dX2_init_80 : decode cX2_init 80 = .ok (.putfield 44, 3) := by decide +kernel
theorem dX2_init_83 : decode cX2_init 83 = .ok (.aload_n 0, 1) := by decide +kernel
theorem dX2_init_84 : decode cX2_init 84 = .ok (.bipush 100, 2) := by decide +kernel
theorem dX2_init_86 : decode cX2_init 86 = .ok (.newarray .int, 2) := by decide +kernel
theorem dX2_init_88 : decode cX2_init 88 = .ok (.putfield 47, 3) := by decide +kernel
theorem dX2_init_91 : decode cX2_init 91 = .ok (.aload_n 0, 1) := by decide +kernel
theorem dX2_init_92 : decode cX2_init 92 = .ok (.bipush 100, 2) := by decide +kernel
theorem dX2_init_94 : decode cX2_init 94 = .ok (.newarray .int, 2) := by decide +kernel
theorem dX2_init_96 : decode cX2_init 96 = .ok (.putfield 50, 3) := by decide +kernel
theorem dX2_init_99 : decode cX2_init 99 = .ok (.aload_n 0, 1) := by decide +kernel
theorem dX2_init_100 : decode cX2_init 100 = .ok (.iconst 0, 1) := by decide +kernel
theorem dX2_init_101 : decode cX2_init 101 = .ok (.putfield 53, 3) := by decide +kernel
theorem dX2_init_104 : decode cX2_init 104 = .ok (.aload_n 0, 1) := by decide +kernel
theorem dX2_init_105 : decode cX2_init 105 = .ok (.bipush 64, 2) := by decide +kernel
theorem dX2_init_107 : decode cX2_init 107 = .ok (.newarray .int, 2) := by decide +kernel
theorem dX2_init_109 : decode cX2_init 109 = .ok (.putfield 56, 3) := by decide +kernel
theorem dX2_init_112 : decode cX2_init 112 = .ok (.aload_n 0, 1) := by decide +kernel
theorem dX2_init_113 : decode cX2_init 113 = .ok (.bipush 64, 2) := by decide +kernel
theorem dX2_init_115 : decode cX2_init 115 = .ok (.newarray .int, 2) := by decide +kernel
theorem dX2_init_117 : decode cX2_init 117 = .ok (.putfield 59, 3) := by decide +kernel
theorem dX2_init_120 : decode cX2_init 120 = .ok (.aload_n 0, 1) := by decide +kernel
theorem dX2_init_121 : decode cX2_init 121 = .ok (.getfield 19, 3) := by decide +kernel
theorem dX2_init_124 : decode cX2_init 124 = .ok (.iconst (-1), 1) := by decide +kernel
theorem dX2_init_125 : decode cX2_init 125 = .ok (.invokestatic 62, 3) := by decide +kernel
theorem dX2_init_128 : decode cX2_init 128 = .ok (.aload_n 0, 1) := by decide +kernel
theorem dX2_init_129 : decode cX2_init 129 = .ok (.getfield 56, 3) := by decide +kernel
theorem dX2_init_132 : decode cX2_init 132 = .ok (.iconst (-1), 1) := by decide +kernel
theorem dX2_init_133 : decode cX2_init 133 = .ok (.invokestatic 62, 3) := by decide +kernel
theorem dX2_init_136 : decode cX2_init 136 = .ok (.return_, 1) := by decide +kernel
theorem dX2_addNeed_0 : decode cX2_addNeed 0 = .ok (.aload_n 0, 1) := by decide +kernel
theorem dX2_addNeed_1 : decode cX2_addNeed 1 = .ok (.getfield 15, 3) := by decide +kernel
theorem dX2_addNeed_4 : decode cX2_addNeed 4 = .ok (.bipush 6, 2) := by decide +kernel
theorem dX2_addNeed_6 : decode cX2_addNeed 6 = .ok (.if_icmp .lt 5, 3) := by decide +kernel
theorem dX2_addNeed_9 : decode cX2_addNeed 9 = .ok (.iconst 0, 1) := by decide +kernel
theorem dX2_addNeed_10 : decode cX2_addNeed 10 = .ok (.ireturn, 1) := by decide +kernel
theorem dX2_addNeed_11 : decode cX2_addNeed 11 = .ok (.iconst 0, 1) := by decide +kernel
theorem dX2_addNeed_12 : decode cX2_addNeed 12 = .ok (.istore_n 2, 1) := by decide +kernel
theorem dX2_addNeed_13 : decode cX2_addNeed 13 = .ok (.iload_n 2, 1) := by decide +kernel
theorem dX2_addNeed_14 : decode cX2_addNeed 14 = .ok (.aload_n 0, 1) := by decide +kernel
theorem dX2_addNeed_15 : decode cX2_addNeed 15 = .ok (.getfield 15, 3) := by decide +kernel
theorem dX2_addNeed_18 : decode cX2_addNeed 18 = .ok (.if_icmp .ge 21, 3) := by decide +kernel
theorem dX2_addNeed_21 : decode cX2_addNeed 21 = .ok (.aload_n 0, 1) := by decide +kernel
theorem dX2_addNeed_22 : decode cX2_addNeed 22 = .ok (.getfield 9, 3) := by decide +kernel
theorem dX2_addNeed_25 : decode cX2_addNeed 25 = .ok (.iload_n 2, 1) := by decide +kernel
theorem dX2_addNeed_26 : decode cX2_addNeed 26 = .ok (.iaload, 1) := by decide +kernel
theorem dX2_addNeed_27 : decode cX2_addNeed 27 = .ok (.iload_n 1, 1) := by decide +kernel
theorem dX2_addNeed_28 : decode cX2_addNeed 28 = .ok (.if_icmp .ne 5, 3) := by decide +kernel
theorem dX2_addNeed_31 : decode cX2_addNeed 31 = .ok (.iconst 0, 1) := by decide +kernel
theorem dX2_addNeed_32 : decode cX2_addNeed 32 = .ok (.ireturn, 1) := by decide +kernel
theorem dX2_addNeed_33 : decode cX2_addNeed 33 = .ok (.iinc 2 1, 3) := by decide +kernel
theorem dX2_addNeed_36 : decode cX2_addNeed 36 = .ok (.goto (-23), 3) := by decide +kernel
theorem dX2_addNeed_39 : decode cX2_addNeed 39 = .ok (.aload_n 0, 1) := by decide +kernel
theorem dX2_addNeed_40 : decode cX2_addNeed 40 = .ok (.getfield 9, 3) := by decide +kernel
theorem dX2_addNeed_43 : decode cX2_addNeed 43 = .ok (.aload_n 0, 1) := by decide +kernel
theorem dX2_addNeed_44 : decode cX2_addNeed 44 = .ok (.getfield 15, 3) := by decide +kernel
theorem dX2_addNeed_47 : decode cX2_addNeed 47 = .ok (.iload_n 1, 1) := by decide +kernel
theorem dX2_addNeed_48 : decode cX2_addNeed 48 = .ok (.iastore, 1) := by decide +kernel
theorem dX2_addNeed_49 : decode cX2_addNeed 49 = .ok (.aload_n 0, 1) := by decide +kernel
theorem dX2_addNeed_50 : decode cX2_addNeed 50 = .ok (.dup, 1) := by decide +kernel
theorem dX2_addNeed_51 : decode cX2_addNeed 51 = .ok (.getfield 15, 3) := by decide +kernel
theorem dX2_addNeed_54 : decode cX2_addNeed 54 = .ok (.iconst 1, 1) := by decide +kernel
theorem dX2_addNeed_55 : decode cX2_addNeed 55 = .ok (.iadd, 1) := by decide +kernel
theorem dX2_addNeed_56 : decode cX2_addNeed 56 = .ok (.putfield 15, 3) := by decide +kernel
theorem dX2_addNeed_59 : decode cX2_addNeed 59 = .ok (.iconst 1, 1) := by decide +kernel
theorem dX2_addNeed_60 : decode cX2_addNeed 60 = .ok (.ireturn, 1) := by decide +kernel
theorem dX2_addDefinition_0 : decode cX2_addDefinition 0 = .ok (.aload_n 0, 1) := by decide +kernel
theorem dX2_addDefinition_1 : decode cX2_addDefinition 1 = .ok (.getfield 19, 3) := by decide +kernel
theorem dX2_addDefinition_4 : decode cX2_addDefinition 4 = .ok (.iload_n 1, 1) := by decide +kernel
theorem dX2_addDefinition_5 : decode cX2_addDefinition 5 = .ok (.iaload, 1) := by decide +kernel
theorem dX2_addDefinition_6 : decode cX2_addDefinition 6 = .ok (.iconst (-1), 1) := by decide +kernel
theorem dX2_addDefinition_7 : decode cX2_addDefinition 7 = .ok (.if_icmp .ne 12, 3) := by decide +kernel
theorem dX2_addDefinition_10 : decode cX2_addDefinition 10 = .ok (.aload_n 0, 1) := by decide +kernel
theorem dX2_addDefinition_11 : decode cX2_addDefinition 11 = .ok (.getfield 28, 3) := by decide +kernel
theorem dX2_addDefinition_14 : decode cX2_addDefinition 14 = .ok (.bipush 20, 2) := by decide +kernel
theorem dX2_addDefinition_16 : decode cX2_addDefinition 16 = .ok (.if_icmp .lt 5, 3) := by decide +kernel
theorem dX2_addDefinition_19 : decode cX2_addDefinition 19 = .ok (.iconst 0, 1) := by decide +kernel
theorem dX2_addDefinition_20 : decode cX2_addDefinition 20 = .ok (.ireturn, 1) := by decide +kernel
theorem dX2_addDefinition_21 : decode cX2_addDefinition 21 = .ok (.aload_n 0, 1) := by decide +kernel
theorem dX2_addDefinition_22 : decode cX2_addDefinition 22 = .ok (.getfield 19, 3) := by decide +kernel
theorem dX2_addDefinition_25 : decode cX2_addDefinition 25 = .ok (.iload_n 1, 1) := by decide +kernel
theorem dX2_addDefinition_26 : decode cX2_addDefinition 26 = .ok (.iload_n 2, 1) := by decide +kernel
theorem dX2_addDefinition_27 : decode cX2_addDefinition 27 = .ok (.iastore, 1) := by decide +kernel
theorem dX2_addDefinition_28 : decode cX2_addDefinition 28 = .ok (.aload_n 0, 1) := by decide +kernel
theorem dX2_addDefinition_29 : decode cX2_addDefinition 29 = .ok (.getfield 22, 3) := by decide +kernel
theorem dX2_addDefinition_32 : decode cX2_addDefinition 32 = .ok (.iload_n 1, 1) := by decide +kernel
theorem dX2_addDefinition_33 : decode cX2_addDefinition 33 = .ok (.iload_n 3, 1) := by decide +kernel
theorem dX2_addDefinition_34 : decode cX2_addDefinition 34 = .ok (.iastore, 1) := by decide +kernel
theorem dX2_addDefinition_35 : decode cX2_addDefinition 35 = .ok (.aload_n 0, 1) := by decide +kernel
theorem dX2_addDefinition_36 : decode cX2_addDefinition 36 = .ok (.getfield 25, 3) := by decide +kernel
theorem dX2_addDefinition_39 : decode cX2_addDefinition 39 = .ok (.iload_n 1, 1) := by decide +kernel
theorem dX2_addDefinition_40 : decode cX2_addDefinition 40 = .ok (.iload 4, 2) := by decide +kernel
theorem dX2_addDefinition_42 : decode cX2_addDefinition 42 = .ok (.iastore, 1) := by decide +kernel
theorem dX2_addDefinition_43 : decode cX2_addDefinition 43 = .ok (.iload_n 2, 1) := by decide +kernel
theorem dX2_addDefinition_44 : decode cX2_addDefinition 44 = .ok (.ifCond .ne 10, 3) := by decide +kernel
theorem dX2_addDefinition_47 : decode cX2_addDefinition 47 = .ok (.aload_n 0, 1) := by decide +kernel
theorem dX2_addDefinition_48 : decode cX2_addDefinition 48 = .ok (.getfield 31, 3) := by decide +kernel
theorem dX2_addDefinition_51 : decode cX2_addDefinition 51 = .ok (.iload_n 3, 1) := by decide +kernel
theorem dX2_addDefinition_52 : decode cX2_addDefinition 52 = .ok (.iconst 1, 1) := by decide +kernel
theorem dX2_addDefinition_53 : decode cX2_addDefinition 53 = .ok (.bastore, 1) := by decide +kernel
theorem dX2_addDefinition_54 : decode cX2_addDefinition 54 = .ok (.aload_n 0, 1) := by decide +kernel
theorem dX2_addDefinition_55 : decode cX2_addDefinition 55 = .ok (.dup, 1) := by decide +kernel
theorem dX2_addDefinition_56 : decode cX2_addDefinition 56 = .ok (.getfield 28, 3) := by decide +kernel
theorem dX2_addDefinition_59 : decode cX2_addDefinition 59 = .ok (.iconst 1, 1) := by decide +kernel
theorem dX2_addDefinition_60 : decode cX2_addDefinition 60 = .ok (.iadd, 1) := by decide +kernel
theorem dX2_addDefinition_61 : decode cX2_addDefinition 61 = .ok (.putfield 28, 3) := by decide +kernel
theorem dX2_addDefinition_64 : decode cX2_addDefinition 64 = .ok (.iconst 1, 1) := by decide +kernel
theorem dX2_addDefinition_65 : decode cX2_addDefinition 65 = .ok (.ireturn, 1) := by decide +kernel
theorem dX2_addStep_0 : decode cX2_addStep 0 = .ok (.aload_n 0, 1) := by decide +kernel
theorem dX2_addStep_1 : decode cX2_addStep 1 = .ok (.getfield 53, 3) := by decide +kernel
theorem dX2_addStep_4 : decode cX2_addStep 4 = .ok (.bipush 100, 2) := by decide +kernel
theorem dX2_addStep_6 : decode cX2_addStep 6 = .ok (.if_icmp .lt 5, 3) := by decide +kernel
theorem dX2_addStep_9 : decode cX2_addStep 9 = .ok (.iconst 0, 1) := by decide +kernel
theorem dX2_addStep_10 : decode cX2_addStep 10 = .ok (.ireturn, 1) := by decide +kernel
theorem dX2_addStep_11 : decode cX2_addStep 11 = .ok (.aload_n 0, 1) := by decide +kernel
theorem dX2_addStep_12 : decode cX2_addStep 12 = .ok (.getfield 41, 3) := by decide +kernel
theorem dX2_addStep_15 : decode cX2_addStep 15 = .ok (.aload_n 0, 1) := by decide +kernel
theorem dX2_addStep_16 : decode cX2_addStep 16 = .ok (.getfield 53, 3) := by decide +kernel
theorem dX2_addStep_19 : decode cX2_addStep 19 = .ok (.iload_n 1, 1) := by decide +kernel
theorem dX2_addStep_20 : decode cX2_addStep 20 = .ok (.iastore, 1) := by decide +kernel
theorem dX2_addStep_21 : decode cX2_addStep 21 = .ok (.aload_n 0, 1) := by decide +kernel
theorem dX2_addStep_22 : decode cX2_addStep 22 = .ok (.getfield 44, 3) := by decide +kernel
theorem dX2_addStep_25 : decode cX2_addStep 25 = .ok (.aload_n 0, 1) := by decide +kernel
theorem dX2_addStep_26 : decode cX2_addStep 26 = .ok (.getfield 53, 3) := by decide +kernel
theorem dX2_addStep_29 : decode cX2_addStep 29 = .ok (.iload_n 2, 1) := by decide +kernel
theorem dX2_addStep_30 : decode cX2_addStep 30 = .ok (.iastore, 1) := by decide +kernel
theorem dX2_addStep_31 : decode cX2_addStep 31 = .ok (.aload_n 0, 1) := by decide +kernel
theorem dX2_addStep_32 : decode cX2_addStep 32 = .ok (.getfield 47, 3) := by decide +kernel
theorem dX2_addStep_35 : decode cX2_addStep 35 = .ok (.aload_n 0, 1) := by decide +kernel
theorem dX2_addStep_36 : decode cX2_addStep 36 = .ok (.getfield 53, 3) := by decide +kernel
theorem dX2_addStep_39 : decode cX2_addStep 39 = .ok (.iload_n 3, 1) := by decide +kernel
theorem dX2_addStep_40 : decode cX2_addStep 40 = .ok (.iastore, 1) := by decide +kernel
theorem dX2_addStep_41 : decode cX2_addStep 41 = .ok (.aload_n 0, 1) := by decide +kernel
theorem dX2_addStep_42 : decode cX2_addStep 42 = .ok (.getfield 50, 3) := by decide +kernel
theorem dX2_addStep_45 : decode cX2_addStep 45 = .ok (.aload_n 0, 1) := by decide +kernel
theorem dX2_addStep_46 : decode cX2_addStep 46 = .ok (.getfield 53, 3) := by decide +kernel
theorem dX2_addStep_49 : decode cX2_addStep 49 = .ok (.iload 4, 2) := by decide +kernel
theorem dX2_addStep_51 : decode cX2_addStep 51 = .ok (.iastore, 1) := by decide +kernel
theorem dX2_addStep_52 : decode cX2_addStep 52 = .ok (.aload_n 0, 1) := by decide +kernel
theorem dX2_addStep_53 : decode cX2_addStep 53 = .ok (.dup, 1) := by decide +kernel
theorem dX2_addStep_54 : decode cX2_addStep 54 = .ok (.getfield 53, 3) := by decide +kernel
theorem dX2_addStep_57 : decode cX2_addStep 57 = .ok (.iconst 1, 1) := by decide +kernel
theorem dX2_addStep_58 : decode cX2_addStep 58 = .ok (.iadd, 1) := by decide +kernel
theorem dX2_addStep_59 : decode cX2_addStep 59 = .ok (.putfield 53, 3) := by decide +kernel
theorem dX2_addStep_62 : decode cX2_addStep 62 = .ok (.iconst 1, 1) := by decide +kernel
theorem dX2_addStep_63 : decode cX2_addStep 63 = .ok (.ireturn, 1) := by decide +kernel
theorem dX2_keepsToItself_0 : decode cX2_keepsToItself 0 = .ok (.aload_n 0, 1) := by decide +kernel
theorem dX2_keepsToItself_1 : decode cX2_keepsToItself 1 = .ok (.getfield 19, 3) := by decide +kernel
theorem dX2_keepsToItself_4 : decode cX2_keepsToItself 4 = .ok (.iload_n 1, 1) := by decide +kernel
theorem dX2_keepsToItself_5 : decode cX2_keepsToItself 5 = .ok (.iaload, 1) := by decide +kernel
theorem dX2_keepsToItself_6 : decode cX2_keepsToItself 6 = .ok (.iconst (-1), 1) := by decide +kernel
theorem dX2_keepsToItself_7 : decode cX2_keepsToItself 7 = .ok (.if_icmp .eq 19, 3) := by decide +kernel
theorem dX2_keepsToItself_10 : decode cX2_keepsToItself 10 = .ok (.aload_n 0, 1) := by decide +kernel
theorem dX2_keepsToItself_11 : decode cX2_keepsToItself 11 = .ok (.getfield 25, 3) := by decide +kernel
theorem dX2_keepsToItself_14 : decode cX2_keepsToItself 14 = .ok (.iload_n 1, 1) := by decide +kernel
theorem dX2_keepsToItself_15 : decode cX2_keepsToItself 15 = .ok (.iaload, 1) := by decide +kernel
theorem dX2_keepsToItself_16 : decode cX2_keepsToItself 16 = .ok (.bipush 6, 2) := by decide +kernel
theorem dX2_keepsToItself_18 : decode cX2_keepsToItself 18 = .ok (.iand, 1) := by decide +kernel
theorem dX2_keepsToItself_19 : decode cX2_keepsToItself 19 = .ok (.ifCond .eq 7, 3) := by decide +kernel
theorem dX2_keepsToItself_22 : decode cX2_keepsToItself 22 = .ok (.iconst 1, 1) := by decide +kernel
theorem dX2_keepsToItself_23 : decode cX2_keepsToItself 23 = .ok (.goto 4, 3) := by decide +kernel
theorem dX2_keepsToItself_26 : decode cX2_keepsToItself 26 = .ok (.iconst 0, 1) := by decide +kernel
theorem dX2_keepsToItself_27 : decode cX2_keepsToItself 27 = .ok (.ireturn, 1) := by decide +kernel
theorem dX2_offers_0 : decode cX2_offers 0 = .ok (.aload_n 0, 1) := by decide +kernel
theorem dX2_offers_1 : decode cX2_offers 1 = .ok (.getfield 19, 3) := by decide +kernel
theorem dX2_offers_4 : decode cX2_offers 4 = .ok (.iload_n 1, 1) := by decide +kernel
theorem dX2_offers_5 : decode cX2_offers 5 = .ok (.iaload, 1) := by decide +kernel
theorem dX2_offers_6 : decode cX2_offers 6 = .ok (.iconst (-1), 1) := by decide +kernel
theorem dX2_offers_7 : decode cX2_offers 7 = .ok (.if_icmp .eq 18, 3) := by decide +kernel
theorem dX2_offers_10 : decode cX2_offers 10 = .ok (.aload_n 0, 1) := by decide +kernel
theorem dX2_offers_11 : decode cX2_offers 11 = .ok (.getfield 25, 3) := by decide +kernel
theorem dX2_offers_14 : decode cX2_offers 14 = .ok (.iload_n 1, 1) := by decide +kernel
theorem dX2_offers_15 : decode cX2_offers 15 = .ok (.iaload, 1) := by decide +kernel
theorem dX2_offers_16 : decode cX2_offers 16 = .ok (.iconst 4, 1) := by decide +kernel
theorem dX2_offers_17 : decode cX2_offers 17 = .ok (.iand, 1) := by decide +kernel
theorem dX2_offers_18 : decode cX2_offers 18 = .ok (.ifCond .ne 7, 3) := by decide +kernel
theorem dX2_offers_21 : decode cX2_offers 21 = .ok (.iconst 1, 1) := by decide +kernel
theorem dX2_offers_22 : decode cX2_offers 22 = .ok (.goto 4, 3) := by decide +kernel
theorem dX2_offers_25 : decode cX2_offers 25 = .ok (.iconst 0, 1) := by decide +kernel
theorem dX2_offers_26 : decode cX2_offers 26 = .ok (.ireturn, 1) := by decide +kernel
theorem dX2_isWeak_0 : decode cX2_isWeak 0 = .ok (.aload_n 0, 1) := by decide +kernel
theorem dX2_isWeak_1 : decode cX2_isWeak 1 = .ok (.getfield 25, 3) := by decide +kernel
theorem dX2_isWeak_4 : decode cX2_isWeak 4 = .ok (.iload_n 1, 1) := by decide +kernel
theorem dX2_isWeak_5 : decode cX2_isWeak 5 = .ok (.iaload, 1) := by decide +kernel
theorem dX2_isWeak_6 : decode cX2_isWeak 6 = .ok (.iconst 1, 1) := by decide +kernel
theorem dX2_isWeak_7 : decode cX2_isWeak 7 = .ok (.iand, 1) := by decide +kernel
theorem dX2_isWeak_8 : decode cX2_isWeak 8 = .ok (.ifCond .eq 7, 3) := by decide +kernel
theorem dX2_isWeak_11 : decode cX2_isWeak 11 = .ok (.iconst 1, 1) := by decide +kernel
theorem dX2_isWeak_12 : decode cX2_isWeak 12 = .ok (.goto 4, 3) := by decide +kernel
theorem dX2_isWeak_15 : decode cX2_isWeak 15 = .ok (.iconst 0, 1) := by decide +kernel
theorem dX2_isWeak_16 : decode cX2_isWeak 16 = .ok (.ireturn, 1) := by decide +kernel
theorem dX2_nameUsedAt_0 : decode cX2_nameUsedAt 0 = .ok (.aload_n 0, 1) := by decide +kernel
theorem dX2_nameUsedAt_1 : decode cX2_nameUsedAt 1 = .ok (.getfield 41, 3) := by decide +kernel
theorem dX2_nameUsedAt_4 : decode cX2_nameUsedAt 4 = .ok (.iload_n 1, 1) := by decide +kernel
theorem dX2_nameUsedAt_5 : decode cX2_nameUsedAt 5 = .ok (.iaload, 1) := by decide +kernel
theorem dX2_nameUsedAt_6 : decode cX2_nameUsedAt 6 = .ok (.tableswitch 44 7 10 #[30, 37, 30, 37], 30) := by decide +kernel
theorem dX2_nameUsedAt_36 : decode cX2_nameUsedAt 36 = .ok (.aload_n 0, 1) := by decide +kernel
theorem dX2_nameUsedAt_37 : decode cX2_nameUsedAt 37 = .ok (.getfield 44, 3) := by decide +kernel
theorem dX2_nameUsedAt_40 : decode cX2_nameUsedAt 40 = .ok (.iload_n 1, 1) := by decide +kernel
theorem dX2_nameUsedAt_41 : decode cX2_nameUsedAt 41 = .ok (.iaload, 1) := by decide +kernel
theorem dX2_nameUsedAt_42 : decode cX2_nameUsedAt 42 = .ok (.ireturn, 1) := by decide +kernel
theorem dX2_nameUsedAt_43 : decode cX2_nameUsedAt 43 = .ok (.aload_n 0, 1) := by decide +kernel
theorem dX2_nameUsedAt_44 : decode cX2_nameUsedAt 44 = .ok (.getfield 47, 3) := by decide +kernel
theorem dX2_nameUsedAt_47 : decode cX2_nameUsedAt 47 = .ok (.iload_n 1, 1) := by decide +kernel
theorem dX2_nameUsedAt_48 : decode cX2_nameUsedAt 48 = .ok (.iaload, 1) := by decide +kernel
theorem dX2_nameUsedAt_49 : decode cX2_nameUsedAt 49 = .ok (.ireturn, 1) := by decide +kernel
theorem dX2_nameUsedAt_50 : decode cX2_nameUsedAt 50 = .ok (.iconst (-1), 1) := by decide +kernel
theorem dX2_nameUsedAt_51 : decode cX2_nameUsedAt 51 = .ok (.ireturn, 1) := by decide +kernel
theorem dX2_kindWantedAt_0 : decode cX2_kindWantedAt 0 = .ok (.aload_n 0, 1) := by decide +kernel
theorem dX2_kindWantedAt_1 : decode cX2_kindWantedAt 1 = .ok (.getfield 41, 3) := by decide +kernel
theorem dX2_kindWantedAt_4 : decode cX2_kindWantedAt 4 = .ok (.iload_n 1, 1) := by decide +kernel
theorem dX2_kindWantedAt_5 : decode cX2_kindWantedAt 5 = .ok (.iaload, 1) := by decide +kernel
theorem dX2_kindWantedAt_6 : decode cX2_kindWantedAt 6 = .ok (.bipush 8, 2) := by decide +kernel
theorem dX2_kindWantedAt_8 : decode cX2_kindWantedAt 8 = .ok (.if_icmp .eq 14, 3) := by decide +kernel
theorem dX2_kindWantedAt_11 : decode cX2_kindWantedAt 11 = .ok (.aload_n 0, 1) := by decide +kernel
theorem dX2_kindWantedAt_12 : decode cX2_kindWantedAt 12 = .ok (.getfield 41, 3) := by decide +kernel
theorem dX2_kindWantedAt_15 : decode cX2_kindWantedAt 15 = .ok (.iload_n 1, 1) := by decide +kernel
theorem dX2_kindWantedAt_16 : decode cX2_kindWantedAt 16 = .ok (.iaload, 1) := by decide +kernel
theorem dX2_kindWantedAt_17 : decode cX2_kindWantedAt 17 = .ok (.bipush 9, 2) := by decide +kernel
theorem dX2_kindWantedAt_19 : decode cX2_kindWantedAt 19 = .ok (.if_icmp .ne 7, 3) := by decide +kernel
theorem dX2_kindWantedAt_22 : decode cX2_kindWantedAt 22 = .ok (.iconst 1, 1) := by decide +kernel
theorem dX2_kindWantedAt_23 : decode cX2_kindWantedAt 23 = .ok (.goto 4, 3) := by decide +kernel
theorem dX2_kindWantedAt_26 : decode cX2_kindWantedAt 26 = .ok (.iconst 0, 1) := by decide +kernel
theorem dX2_kindWantedAt_27 : decode cX2_kindWantedAt 27 = .ok (.ireturn, 1) := by decide +kernel
