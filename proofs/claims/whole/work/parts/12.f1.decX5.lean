theorem dX5_look_29 : decode cX5_look 29 = .ok (.imul, 1) := by decide +kernel
theorem dX5_look_30 : decode cX5_look 30 = .ok (.iload_n 3, 1) := by decide +kernel
theorem dX5_look_31 : decode cX5_look 31 = .ok (.iadd, 1) := by decide +kernel
theorem dX5_look_32 : decode cX5_look 32 = .ok (.baload, 1) := by decide +kernel
theorem dX5_look_33 : decode cX5_look 33 = .ok (.ifCond .eq 7, 3) := by decide +kernel
theorem dX5_look_36 : decode cX5_look 36 = .ok (.iconst 0, 1) := by decide +kernel
theorem dX5_look_37 : decode cX5_look 37 = .ok (.goto 32, 3) := by decide +kernel
theorem dX5_look_40 : decode cX5_look 40 = .ok (.iconst 1, 1) := by decide +kernel
theorem dX5_look_41 : decode cX5_look 41 = .ok (.goto 28, 3) := by decide +kernel
theorem dX5_look_44 : decode cX5_look 44 = .ok (.aload_n 0, 1) := by decide +kernel
theorem dX5_look_45 : decode cX5_look 45 = .ok (.getfield 19, 3) := by decide +kernel
theorem dX5_look_48 : decode cX5_look 48 = .ok (.iload 5, 2) := by decide +kernel
theorem dX5_look_50 : decode cX5_look 50 = .ok (.iaload, 1) := by decide +kernel
theorem dX5_look_51 : decode cX5_look 51 = .ok (.ifCond .ne 7, 3) := by decide +kernel
theorem dX5_look_54 : decode cX5_look 54 = .ok (.iconst 1, 1) := by decide +kernel
theorem dX5_look_55 : decode cX5_look 55 = .ok (.goto 4, 3) := by decide +kernel
theorem dX5_look_58 : decode cX5_look 58 = .ok (.iconst 0, 1) := by decide +kernel
theorem dX5_look_59 : decode cX5_look 59 = .ok (.iload 4, 2) := by decide +kernel
theorem dX5_look_61 : decode cX5_look 61 = .ok (.if_icmp .ne 7, 3) := by decide +kernel
theorem dX5_look_64 : decode cX5_look 64 = .ok (.iconst 0, 1) := by decide +kernel
theorem dX5_look_65 : decode cX5_look 65 = .ok (.goto 4, 3) := by decide +kernel
theorem dX5_look_68 : decode cX5_look 68 = .ok (.iconst 2, 1) := by decide +kernel
theorem dX5_look_69 : decode cX5_look 69 = .ok (.istore 6, 2) := by decide +kernel
theorem dX5_look_71 : decode cX5_look 71 = .ok (.iload 6, 2) := by decide +kernel
theorem dX5_look_73 : decode cX5_look 73 = .ok (.ifCond .le 18, 3) := by decide +kernel
theorem dX5_look_76 : decode cX5_look 76 = .ok (.aload_n 0, 1) := by decide +kernel
theorem dX5_look_77 : decode cX5_look 77 = .ok (.iload_n 1, 1) := by decide +kernel
theorem dX5_look_78 : decode cX5_look 78 = .ok (.putfield 68, 3) := by decide +kernel
theorem dX5_look_81 : decode cX5_look 81 = .ok (.aload_n 0, 1) := by decide +kernel
theorem dX5_look_82 : decode cX5_look 82 = .ok (.iload_n 2, 1) := by decide +kernel
theorem dX5_look_83 : decode cX5_look 83 = .ok (.putfield 72, 3) := by decide +kernel
theorem dX5_look_86 : decode cX5_look 86 = .ok (.aload_n 0, 1) := by decide +kernel
theorem dX5_look_87 : decode cX5_look 87 = .ok (.iload_n 3, 1) := by decide +kernel
theorem dX5_look_88 : decode cX5_look 88 = .ok (.putfield 75, 3) := by decide +kernel
theorem dX5_look_91 : decode cX5_look 91 = .ok (.iload 6, 2) := by decide +kernel
theorem dX5_look_93 : decode cX5_look 93 = .ok (.ireturn, 1) := by decide +kernel
theorem dX5_lookAt_0 : decode cX5_lookAt 0 = .ok (.aload_n 0, 1) := by decide +kernel
theorem dX5_lookAt_1 : decode cX5_lookAt 1 = .ok (.getfield 41, 3) := by decide +kernel
theorem dX5_lookAt_4 : decode cX5_lookAt 4 = .ok (.iload_n 1, 1) := by decide +kernel
theorem dX5_lookAt_5 : decode cX5_lookAt 5 = .ok (.iaload, 1) := by decide +kernel
theorem dX5_lookAt_6 : decode cX5_lookAt 6 = .ok (.iconst (-1), 1) := by decide +kernel
theorem dX5_lookAt_7 : decode cX5_lookAt 7 = .ok (.if_icmp .ne 7, 3) := by decide +kernel
theorem dX5_lookAt_10 : decode cX5_lookAt 10 = .ok (.iconst 0, 1) := by decide +kernel
theorem dX5_lookAt_11 : decode cX5_lookAt 11 = .ok (.goto 16, 3) := by decide +kernel
theorem dX5_lookAt_14 : decode cX5_lookAt 14 = .ok (.aload_n 0, 1) := by decide +kernel
theorem dX5_lookAt_15 : decode cX5_lookAt 15 = .ok (.iload_n 1, 1) := by decide +kernel
theorem dX5_lookAt_16 : decode cX5_lookAt 16 = .ok (.iconst (-1), 1) := by decide +kernel
theorem dX5_lookAt_17 : decode cX5_lookAt 17 = .ok (.aload_n 0, 1) := by decide +kernel
theorem dX5_lookAt_18 : decode cX5_lookAt 18 = .ok (.getfield 41, 3) := by decide +kernel
theorem dX5_lookAt_21 : decode cX5_lookAt 21 = .ok (.iload_n 1, 1) := by decide +kernel
theorem dX5_lookAt_22 : decode cX5_lookAt 22 = .ok (.iaload, 1) := by decide +kernel
theorem dX5_lookAt_23 : decode cX5_lookAt 23 = .ok (.iconst 1, 1) := by decide +kernel
theorem dX5_lookAt_24 : decode cX5_lookAt 24 = .ok (.invokevirtual 125, 3) := by decide +kernel
theorem dX5_lookAt_27 : decode cX5_lookAt 27 = .ok (.istore_n 2, 1) := by decide +kernel
theorem dX5_lookAt_28 : decode cX5_lookAt 28 = .ok (.iconst 0, 1) := by decide +kernel
theorem dX5_lookAt_29 : decode cX5_lookAt 29 = .ok (.istore_n 3, 1) := by decide +kernel
theorem dX5_lookAt_30 : decode cX5_lookAt 30 = .ok (.iload_n 3, 1) := by decide +kernel
theorem dX5_lookAt_31 : decode cX5_lookAt 31 = .ok (.aload_n 0, 1) := by decide +kernel
theorem dX5_lookAt_32 : decode cX5_lookAt 32 = .ok (.getfield 34, 3) := by decide +kernel
theorem dX5_lookAt_35 : decode cX5_lookAt 35 = .ok (.iload_n 1, 1) := by decide +kernel
theorem dX5_lookAt_36 : decode cX5_lookAt 36 = .ok (.iaload, 1) := by decide +kernel
theorem dX5_lookAt_37 : decode cX5_lookAt 37 = .ok (.if_icmp .ge 107, 3) := by decide +kernel
theorem dX5_lookAt_40 : decode cX5_lookAt 40 = .ok (.iload_n 2, 1) := by decide +kernel
theorem dX5_lookAt_41 : decode cX5_lookAt 41 = .ok (.ifCond .ne 103, 3) := by decide +kernel
theorem dX5_lookAt_44 : decode cX5_lookAt 44 = .ok (.iconst 4, 1) := by decide +kernel
theorem dX5_lookAt_45 : decode cX5_lookAt 45 = .ok (.bipush 100, 2) := by decide +kernel
theorem dX5_lookAt_47 : decode cX5_lookAt 47 = .ok (.iload_n 1, 1) := by decide +kernel
theorem dX5_lookAt_48 : decode cX5_lookAt 48 = .ok (.imul, 1) := by decide +kernel
theorem dX5_lookAt_49 : decode cX5_lookAt 49 = .ok (.iload_n 3, 1) := by decide +kernel
theorem dX5_lookAt_50 : decode cX5_lookAt 50 = .ok (.iadd, 1) := by decide +kernel
theorem dX5_lookAt_51 : decode cX5_lookAt 51 = .ok (.imul, 1) := by decide +kernel
theorem dX5_lookAt_52 : decode cX5_lookAt 52 = .ok (.istore 4, 2) := by decide +kernel
theorem dX5_lookAt_54 : decode cX5_lookAt 54 = .ok (.aload_n 0, 1) := by decide +kernel
theorem dX5_lookAt_55 : decode cX5_lookAt 55 = .ok (.getfield 31, 3) := by decide +kernel
theorem dX5_lookAt_58 : decode cX5_lookAt 58 = .ok (.iload 4, 2) := by decide +kernel
theorem dX5_lookAt_60 : decode cX5_lookAt 60 = .ok (.iaload, 1) := by decide +kernel
theorem dX5_lookAt_61 : decode cX5_lookAt 61 = .ok (.istore 5, 2) := by decide +kernel
theorem dX5_lookAt_63 : decode cX5_lookAt 63 = .ok (.iload 5, 2) := by decide +kernel
theorem dX5_lookAt_65 : decode cX5_lookAt 65 = .ok (.bipush 6, 2) := by decide +kernel
theorem dX5_lookAt_67 : decode cX5_lookAt 67 = .ok (.if_icmp .le 71, 3) := by decide +kernel
theorem dX5_lookAt_70 : decode cX5_lookAt 70 = .ok (.iload 5, 2) := by decide +kernel
theorem dX5_lookAt_72 : decode cX5_lookAt 72 = .ok (.bipush 11, 2) := by decide +kernel
theorem dX5_lookAt_74 : decode cX5_lookAt 74 = .ok (.if_icmp .ge 64, 3) := by decide +kernel
theorem dX5_lookAt_77 : decode cX5_lookAt 77 = .ok (.aload_n 0, 1) := by decide +kernel
theorem dX5_lookAt_78 : decode cX5_lookAt 78 = .ok (.iload_n 1, 1) := by decide +kernel
theorem dX5_lookAt_79 : decode cX5_lookAt 79 = .ok (.iload_n 3, 1) := by decide +kernel
theorem dX5_lookAt_80 : decode cX5_lookAt 80 = .ok (.iload 5, 2) := by decide +kernel
theorem dX5_lookAt_82 : decode cX5_lookAt 82 = .ok (.bipush 7, 2) := by decide +kernel
theorem dX5_lookAt_84 : decode cX5_lookAt 84 = .ok (.if_icmp .eq 10, 3) := by decide +kernel
theorem dX5_lookAt_87 : decode cX5_lookAt 87 = .ok (.iload 5, 2) := by decide +kernel
theorem dX5_lookAt_89 : decode cX5_lookAt 89 = .ok (.bipush 9, 2) := by decide +kernel
theorem dX5_lookAt_91 : decode cX5_lookAt 91 = .ok (.if_icmp .ne 15, 3) := by decide +kernel
theorem dX5_lookAt_94 : decode cX5_lookAt 94 = .ok (.aload_n 0, 1) := by decide +kernel
theorem dX5_lookAt_95 : decode cX5_lookAt 95 = .ok (.getfield 31, 3) := by decide +kernel
theorem dX5_lookAt_98 : decode cX5_lookAt 98 = .ok (.iload 4, 2) := by decide +kernel
theorem dX5_lookAt_100 : decode cX5_lookAt 100 = .ok (.iconst 1, 1) := by decide +kernel
theorem dX5_lookAt_101 : decode cX5_lookAt 101 = .ok (.iadd, 1) := by decide +kernel
theorem dX5_lookAt_102 : decode cX5_lookAt 102 = .ok (.iaload, 1) := by decide +kernel
theorem dX5_lookAt_103 : decode cX5_lookAt 103 = .ok (.goto 12, 3) := by decide +kernel
theorem dX5_lookAt_106 : decode cX5_lookAt 106 = .ok (.aload_n 0, 1) := by decide +kernel
theorem dX5_lookAt_107 : decode cX5_lookAt 107 = .ok (.getfield 31, 3) := by decide +kernel
theorem dX5_lookAt_110 : decode cX5_lookAt 110 = .ok (.iload 4, 2) := by decide +kernel
theorem dX5_lookAt_112 : decode cX5_lookAt 112 = .ok (.iconst 2, 1) := by decide +kernel
theorem dX5_lookAt_113 : decode cX5_lookAt 113 = .ok (.iadd, 1) := by decide +kernel
theorem dX5_lookAt_114 : decode cX5_lookAt 114 = .ok (.iaload, 1) := by decide +kernel
theorem dX5_lookAt_115 : decode cX5_lookAt 115 = .ok (.iload 5, 2) := by decide +kernel
theorem dX5_lookAt_117 : decode cX5_lookAt 117 = .ok (.bipush 7, 2) := by decide +kernel
theorem dX5_lookAt_119 : decode cX5_lookAt 119 = .ok (.if_icmp .eq 10, 3) := by decide +kernel
theorem dX5_lookAt_122 : decode cX5_lookAt 122 = .ok (.iload 5, 2) := by decide +kernel
theorem dX5_lookAt_124 : decode cX5_lookAt 124 = .ok (.bipush 10, 2) := by decide +kernel
theorem dX5_lookAt_126 : decode cX5_lookAt 126 = .ok (.if_icmp .ne 7, 3) := by decide +kernel
theorem dX5_lookAt_129 : decode cX5_lookAt 129 = .ok (.iconst 1, 1) := by decide +kernel
theorem dX5_lookAt_130 : decode cX5_lookAt 130 = .ok (.goto 4, 3) := by decide +kernel
theorem dX5_lookAt_133 : decode cX5_lookAt 133 = .ok (.iconst 0, 1) := by decide +kernel
theorem dX5_lookAt_134 : decode cX5_lookAt 134 = .ok (.invokevirtual 125, 3) := by decide +kernel
theorem dX5_lookAt_137 : decode cX5_lookAt 137 = .ok (.istore_n 2, 1) := by decide +kernel
theorem dX5_lookAt_138 : decode cX5_lookAt 138 = .ok (.iinc 3 1, 3) := by decide +kernel
theorem dX5_lookAt_141 : decode cX5_lookAt 141 = .ok (.goto (-111), 3) := by decide +kernel
theorem dX5_lookAt_144 : decode cX5_lookAt 144 = .ok (.iload_n 2, 1) := by decide +kernel
theorem dX5_lookAt_145 : decode cX5_lookAt 145 = .ok (.ireturn, 1) := by decide +kernel
theorem dX5_findBegun_0 : decode cX5_findBegun 0 = .ok (.iconst 0, 1) := by decide +kernel
theorem dX5_findBegun_1 : decode cX5_findBegun 1 = .ok (.istore_n 1, 1) := by decide +kernel
theorem dX5_findBegun_2 : decode cX5_findBegun 2 = .ok (.iconst 0, 1) := by decide +kernel
theorem dX5_findBegun_3 : decode cX5_findBegun 3 = .ok (.istore_n 2, 1) := by decide +kernel
theorem dX5_findBegun_4 : decode cX5_findBegun 4 = .ok (.iload_n 2, 1) := by decide +kernel
theorem dX5_findBegun_5 : decode cX5_findBegun 5 = .ok (.bipush 12, 2) := by decide +kernel
theorem dX5_findBegun_7 : decode cX5_findBegun 7 = .ok (.if_icmp .ge 28, 3) := by decide +kernel
theorem dX5_findBegun_10 : decode cX5_findBegun 10 = .ok (.aload_n 0, 1) := by decide +kernel
theorem dX5_findBegun_11 : decode cX5_findBegun 11 = .ok (.getfield 59, 3) := by decide +kernel
theorem dX5_findBegun_14 : decode cX5_findBegun 14 = .ok (.iload_n 2, 1) := by decide +kernel
theorem dX5_findBegun_15 : decode cX5_findBegun 15 = .ok (.iload_n 2, 1) := by decide +kernel
theorem dX5_findBegun_16 : decode cX5_findBegun 16 = .ok (.aload_n 0, 1) := by decide +kernel
theorem dX5_findBegun_17 : decode cX5_findBegun 17 = .ok (.getfield 129, 3) := by decide +kernel
theorem dX5_findBegun_20 : decode cX5_findBegun 20 = .ok (.if_icmp .ne 7, 3) := by decide +kernel
theorem dX5_findBegun_23 : decode cX5_findBegun 23 = .ok (.iconst 1, 1) := by decide +kernel
theorem dX5_findBegun_24 : decode cX5_findBegun 24 = .ok (.goto 4, 3) := by decide +kernel
theorem dX5_findBegun_27 : decode cX5_findBegun 27 = .ok (.iconst 0, 1) := by decide +kernel
theorem dX5_findBegun_28 : decode cX5_findBegun 28 = .ok (.bastore, 1) := by decide +kernel
theorem dX5_findBegun_29 : decode cX5_findBegun 29 = .ok (.iinc 2 1, 3) := by decide +kernel
theorem dX5_findBegun_32 : decode cX5_findBegun 32 = .ok (.goto (-28), 3) := by decide +kernel
theorem dX5_findBegun_35 : decode cX5_findBegun 35 = .ok (.iconst 1, 1) := by decide +kernel
theorem dX5_findBegun_36 : decode cX5_findBegun 36 = .ok (.istore_n 2, 1) := by decide +kernel
theorem dX5_findBegun_37 : decode cX5_findBegun 37 = .ok (.aload_n 0, 1) := by decide +kernel
theorem dX5_findBegun_38 : decode cX5_findBegun 38 = .ok (.getfield 62, 3) := by decide +kernel
theorem dX5_findBegun_41 : decode cX5_findBegun 41 = .ok (.iconst 0, 1) := by decide +kernel
theorem dX5_findBegun_42 : decode cX5_findBegun 42 = .ok (.aload_n 0, 1) := by decide +kernel
theorem dX5_findBegun_43 : decode cX5_findBegun 43 = .ok (.getfield 129, 3) := by decide +kernel
theorem dX5_findBegun_46 : decode cX5_findBegun 46 = .ok (.iastore, 1) := by decide +kernel
theorem dX5_findBegun_47 : decode cX5_findBegun 47 = .ok (.aload_n 0, 1) := by decide +kernel
theorem dX5_findBegun_48 : decode cX5_findBegun 48 = .ok (.getfield 65, 3) := by decide +kernel
theorem dX5_findBegun_51 : decode cX5_findBegun 51 = .ok (.iconst 0, 1) := by decide +kernel
theorem dX5_findBegun_52 : decode cX5_findBegun 52 = .ok (.iconst 0, 1) := by decide +kernel
theorem dX5_findBegun_53 : decode cX5_findBegun 53 = .ok (.iastore, 1) := by decide +kernel
theorem dX5_findBegun_54 : decode cX5_findBegun 54 = .ok (.iload_n 2, 1) := by decide +kernel
theorem dX5_findBegun_55 : decode cX5_findBegun 55 = .ok (.ifCond .le 124, 3) := by decide +kernel
theorem dX5_findBegun_58 : decode cX5_findBegun 58 = .ok (.aload_n 0, 1) := by decide +kernel
theorem dX5_findBegun_59 : decode cX5_findBegun 59 = .ok (.getfield 62, 3) := by decide +kernel
theorem dX5_findBegun_62 : decode cX5_findBegun 62 = .ok (.iload_n 2, 1) := by decide +kernel
theorem dX5_findBegun_63 : decode cX5_findBegun 63 = .ok (.iconst 1, 1) := by decide +kernel
theorem dX5_findBegun_64 : decode cX5_findBegun 64 = .ok (.isub, 1) := by decide +kernel
theorem dX5_findBegun_65 : decode cX5_findBegun 65 = .ok (.iaload, 1) := by decide +kernel
theorem dX5_findBegun_66 : decode cX5_findBegun 66 = .ok (.istore_n 3, 1) := by decide +kernel
theorem dX5_findBegun_67 : decode cX5_findBegun 67 = .ok (.aload_n 0, 1) := by decide +kernel
theorem dX5_findBegun_68 : decode cX5_findBegun 68 = .ok (.getfield 65, 3) := by decide +kernel
theorem dX5_findBegun_71 : decode cX5_findBegun 71 = .ok (.iload_n 2, 1) := by decide +kernel
theorem dX5_findBegun_72 : decode cX5_findBegun 72 = .ok (.iconst 1, 1) := by decide +kernel
theorem dX5_findBegun_73 : decode cX5_findBegun 73 = .ok (.isub, 1) := by decide +kernel
theorem dX5_findBegun_74 : decode cX5_findBegun 74 = .ok (.iaload, 1) := by decide +kernel
theorem dX5_findBegun_75 : decode cX5_findBegun 75 = .ok (.istore 4, 2) := by decide +kernel
theorem dX5_findBegun_77 : decode cX5_findBegun 77 = .ok (.aload_n 0, 1) := by decide +kernel
theorem dX5_findBegun_78 : decode cX5_findBegun 78 = .ok (.getfield 65, 3) := by decide +kernel
theorem dX5_findBegun_81 : decode cX5_findBegun 81 = .ok (.iload_n 2, 1) := by decide +kernel
theorem dX5_findBegun_82 : decode cX5_findBegun 82 = .ok (.iconst 1, 1) := by decide +kernel
theorem dX5_findBegun_83 : decode cX5_findBegun 83 = .ok (.isub, 1) := by decide +kernel
theorem dX5_findBegun_84 : decode cX5_findBegun 84 = .ok (.dup2, 1) := by decide +kernel
theorem dX5_findBegun_85 : decode cX5_findBegun 85 = .ok (.iaload, 1) := by decide +kernel
theorem dX5_findBegun_86 : decode cX5_findBegun 86 = .ok (.iconst 1, 1) := by decide +kernel
theorem dX5_findBegun_87 : decode cX5_findBegun 87 = .ok (.iadd, 1) := by decide +kernel
theorem dX5_findBegun_88 : decode cX5_findBegun 88 = .ok (.iastore, 1) := by decide +kernel
theorem dX5_findBegun_89 : decode cX5_findBegun 89 = .ok (.iload 4, 2) := by decide +kernel
theorem dX5_findBegun_91 : decode cX5_findBegun 91 = .ok (.aload_n 0, 1) := by decide +kernel
theorem dX5_findBegun_92 : decode cX5_findBegun 92 = .ok (.getfield 13, 3) := by decide +kernel
theorem dX5_findBegun_95 : decode cX5_findBegun 95 = .ok (.iload_n 3, 1) := by decide +kernel
theorem dX5_findBegun_96 : decode cX5_findBegun 96 = .ok (.iaload, 1) := by decide +kernel
theorem dX5_findBegun_97 : decode cX5_findBegun 97 = .ok (.if_icmp .ne 19, 3) := by decide +kernel
theorem dX5_findBegun_100 : decode cX5_findBegun 100 = .ok (.aload_n 0, 1) := by decide +kernel
theorem dX5_findBegun_101 : decode cX5_findBegun 101 = .ok (.getfield 47, 3) := by decide +kernel
theorem dX5_findBegun_104 : decode cX5_findBegun 104 = .ok (.iload_n 1, 1) := by decide +kernel
theorem dX5_findBegun_105 : decode cX5_findBegun 105 = .ok (.iload_n 3, 1) := by decide +kernel
theorem dX5_findBegun_106 : decode cX5_findBegun 106 = .ok (.iastore, 1) := by decide +kernel
theorem dX5_findBegun_107 : decode cX5_findBegun 107 = .ok (.iinc 1 1, 3) := by decide +kernel
theorem dX5_findBegun_110 : decode cX5_findBegun 110 = .ok (.iinc 2 (-1), 3) := by decide +kernel
theorem dX5_findBegun_113 : decode cX5_findBegun 113 = .ok (.goto 63, 3) := by decide +kernel
theorem dX5_findBegun_116 : decode cX5_findBegun 116 = .ok (.aload_n 0, 1) := by decide +kernel
theorem dX5_findBegun_117 : decode cX5_findBegun 117 = .ok (.getfield 59, 3) := by decide +kernel
theorem dX5_findBegun_120 : decode cX5_findBegun 120 = .ok (.aload_n 0, 1) := by decide +kernel
theorem dX5_findBegun_121 : decode cX5_findBegun 121 = .ok (.getfield 7, 3) := by decide +kernel
theorem dX5_findBegun_124 : decode cX5_findBegun 124 = .ok (.bipush 6, 2) := by decide +kernel
theorem dX5_findBegun_126 : decode cX5_findBegun 126 = .ok (.iload_n 3, 1) := by decide +kernel
theorem dX5_findBegun_127 : decode cX5_findBegun 127 = .ok (.imul, 1) := by decide +kernel
theorem dX5_findBegun_128 : decode cX5_findBegun 128 = .ok (.iload 4, 2) := by decide +kernel
theorem dX5_findBegun_130 : decode cX5_findBegun 130 = .ok (.iadd, 1) := by decide +kernel
theorem dX5_findBegun_131 : decode cX5_findBegun 131 = .ok (.iaload, 1) := by decide +kernel
theorem dX5_findBegun_132 : decode cX5_findBegun 132 = .ok (.baload, 1) := by decide +kernel
theorem dX5_findBegun_133 : decode cX5_findBegun 133 = .ok (.ifCond .ne 43, 3) := by decide +kernel
theorem dX5_findBegun_136 : decode cX5_findBegun 136 = .ok (.aload_n 0, 1) := by decide +kernel
theorem dX5_findBegun_137 : decode cX5_findBegun 137 = .ok (.getfield 7, 3) := by decide +kernel
theorem dX5_findBegun_140 : decode cX5_findBegun 140 = .ok (.bipush 6, 2) := by decide +kernel
theorem dX5_findBegun_142 : decode cX5_findBegun 142 = .ok (.iload_n 3, 1) := by decide +kernel
theorem dX5_findBegun_143 : decode cX5_findBegun 143 = .ok (.imul, 1) := by decide +kernel
theorem dX5_findBegun_144 : decode cX5_findBegun 144 = .ok (.iload 4, 2) := by decide +kernel
theorem dX5_findBegun_146 : decode cX5_findBegun 146 = .ok (.iadd, 1) := by decide +kernel
theorem dX5_findBegun_147 : decode cX5_findBegun 147 = .ok (.iaload, 1) := by decide +kernel
theorem dX5_findBegun_148 : decode cX5_findBegun 148 = .ok (.istore 5, 2) := by decide +kernel
theorem dX5_findBegun_150 : decode cX5_findBegun 150 = .ok (.aload_n 0, 1) := by decide +kernel
theorem dX5_findBegun_151 : decode cX5_findBegun 151 = .ok (.getfield 59, 3) := by decide +kernel
theorem dX5_findBegun_154 : decode cX5_findBegun 154 = .ok (.iload 5, 2) := by decide +kernel
theorem dX5_findBegun_156 : decode cX5_findBegun 156 = .ok (.iconst 1, 1) := by decide +kernel
theorem dX5_findBegun_157 : decode cX5_findBegun 157 = .ok (.bastore, 1) := by decide +kernel
theorem dX5_findBegun_158 : decode cX5_findBegun 158 = .ok (.aload_n 0, 1) := by decide +kernel
theorem dX5_findBegun_159 : decode cX5_findBegun 159 = .ok (.getfield 62, 3) := by decide +kernel
theorem dX5_findBegun_162 : decode cX5_findBegun 162 = .ok (.iload_n 2, 1) := by decide +kernel
theorem dX5_findBegun_163 : decode cX5_findBegun 163 = .ok (.iload 5, 2) := by decide +kernel
theorem dX5_findBegun_165 : decode cX5_findBegun 165 = .ok (.iastore, 1) := by decide +kernel
theorem dX5_findBegun_166 : decode cX5_findBegun 166 = .ok (.aload_n 0, 1) := by decide +kernel
theorem dX5_findBegun_167 : decode cX5_findBegun 167 = .ok (.getfield 65, 3) := by decide +kernel
theorem dX5_findBegun_170 : decode cX5_findBegun 170 = .ok (.iload_n 2, 1) := by decide +kernel
theorem dX5_findBegun_171 : decode cX5_findBegun 171 = .ok (.iconst 0, 1) := by decide +kernel
theorem dX5_findBegun_172 : decode cX5_findBegun 172 = .ok (.iastore, 1) := by decide +kernel
theorem dX5_findBegun_173 : decode cX5_findBegun 173 = .ok (.iinc 2 1, 3) := by decide +kernel
theorem dX5_findBegun_176 : decode cX5_findBegun 176 = .ok (.goto (-122), 3) := by decide +kernel
theorem dX5_findBegun_179 : decode cX5_findBegun 179 = .ok (.return_, 1) := by decide +kernel
theorem dX5_usesCall_0 : decode cX5_usesCall 0 = .ok (.iconst 0, 1) := by decide +kernel
theorem dX5_usesCall_1 : decode cX5_usesCall 1 = .ok (.istore_n 3, 1) := by decide +kernel
theorem dX5_usesCall_2 : decode cX5_usesCall 2 = .ok (.iconst 0, 1) := by decide +kernel
theorem dX5_usesCall_3 : decode cX5_usesCall 3 = .ok (.istore 4, 2) := by decide +kernel
theorem dX5_usesCall_5 : decode cX5_usesCall 5 = .ok (.iload 4, 2) := by decide +kernel
theorem dX5_usesCall_7 : decode cX5_usesCall 7 = .ok (.aload_n 0, 1) := by decide +kernel
theorem dX5_usesCall_8 : decode cX5_usesCall 8 = .ok (.getfield 34, 3) := by decide +kernel
theorem dX5_usesCall_11 : decode cX5_usesCall 11 = .ok (.iload_n 1, 1) := by decide +kernel
theorem dX5_usesCall_12 : decode cX5_usesCall 12 = .ok (.iaload, 1) := by decide +kernel
theorem dX5_usesCall_13 : decode cX5_usesCall 13 = .ok (.if_icmp .ge 55, 3) := by decide +kernel
theorem dX5_usesCall_16 : decode cX5_usesCall 16 = .ok (.iconst 4, 1) := by decide +kernel
theorem dX5_usesCall_17 : decode cX5_usesCall 17 = .ok (.bipush 100, 2) := by decide +kernel
theorem dX5_usesCall_19 : decode cX5_usesCall 19 = .ok (.iload_n 1, 1) := by decide +kernel
theorem dX5_usesCall_20 : decode cX5_usesCall 20 = .ok (.imul, 1) := by decide +kernel
theorem dX5_usesCall_21 : decode cX5_usesCall 21 = .ok (.iload 4, 2) := by decide +kernel
theorem dX5_usesCall_23 : decode cX5_usesCall 23 = .ok (.iadd, 1) := by decide +kernel
theorem dX5_usesCall_24 : decode cX5_usesCall 24 = .ok (.imul, 1) := by decide +kernel
theorem dX5_usesCall_25 : decode cX5_usesCall 25 = .ok (.istore 5, 2) := by decide +kernel
theorem dX5_usesCall_27 : decode cX5_usesCall 27 = .ok (.iload_n 3, 1) := by decide +kernel
theorem dX5_usesCall_28 : decode cX5_usesCall 28 = .ok (.ifCond .ne 28, 3) := by decide +kernel
theorem dX5_usesCall_31 : decode cX5_usesCall 31 = .ok (.aload_n 0, 1) := by decide +kernel
theorem dX5_usesCall_32 : decode cX5_usesCall 32 = .ok (.getfield 31, 3) := by decide +kernel
theorem dX5_usesCall_35 : decode cX5_usesCall 35 = .ok (.iload 5, 2) := by decide +kernel
theorem dX5_usesCall_37 : decode cX5_usesCall 37 = .ok (.iaload, 1) := by decide +kernel
theorem dX5_usesCall_38 : decode cX5_usesCall 38 = .ok (.bipush 7, 2) := by decide +kernel
theorem dX5_usesCall_40 : decode cX5_usesCall 40 = .ok (.if_icmp .ne 20, 3) := by decide +kernel
theorem dX5_usesCall_43 : decode cX5_usesCall 43 = .ok (.aload_n 0, 1) := by decide +kernel
theorem dX5_usesCall_44 : decode cX5_usesCall 44 = .ok (.getfield 31, 3) := by decide +kernel
theorem dX5_usesCall_47 : decode cX5_usesCall 47 = .ok (.iload 5, 2) := by decide +kernel
theorem dX5_usesCall_49 : decode cX5_usesCall 49 = .ok (.iconst 1, 1) := by decide +kernel
theorem dX5_usesCall_50 : decode cX5_usesCall 50 = .ok (.iadd, 1) := by decide +kernel
theorem dX5_usesCall_51 : decode cX5_usesCall 51 = .ok (.iaload, 1) := by decide +kernel
theorem dX5_usesCall_52 : decode cX5_usesCall 52 = .ok (.iload_n 2, 1) := by decide +kernel
theorem dX5_usesCall_53 : decode cX5_usesCall 53 = .ok (.if_icmp .ne 7, 3) := by decide +kernel
theorem dX5_usesCall_56 : decode cX5_usesCall 56 = .ok (.iconst 1, 1) := by decide +kernel
theorem dX5_usesCall_57 : decode cX5_usesCall 57 = .ok (.goto 4, 3) := by decide +kernel
theorem dX5_usesCall_60 : decode cX5_usesCall 60 = .ok (.iconst 0, 1) := by decide +kernel
theorem dX5_usesCall_61 : decode cX5_usesCall 61 = .ok (.istore_n 3, 1) := by decide +kernel
theorem dX5_usesCall_62 : decode cX5_usesCall 62 = .ok (.iinc 4 1, 3) := by decide +kernel
theorem dX5_usesCall_65 : decode cX5_usesCall 65 = .ok (.goto (-60), 3) := by decide +kernel
theorem dX5_usesCall_68 : decode cX5_usesCall 68 = .ok (.iload_n 3, 1) := by decide +kernel
theorem dX5_usesCall_69 : decode cX5_usesCall 69 = .ok (.ireturn, 1) := by decide +kernel
theorem dX5_moduleOf_0 : decode cX5_moduleOf 0 = .ok (.iload_n 1, 1) := by decide +kernel
theorem dX5_moduleOf_1 : decode cX5_moduleOf 1 = .ok (.iconst (-1), 1) := by decide +kernel
theorem dX5_moduleOf_2 : decode cX5_moduleOf 2 = .ok (.if_icmp .ne 8, 3) := by decide +kernel
theorem dX5_moduleOf_5 : decode cX5_moduleOf 5 = .ok (.bipush 20, 2) := by decide +kernel
theorem dX5_moduleOf_7 : decode cX5_moduleOf 7 = .ok (.goto 7, 3) := by decide +kernel
theorem dX5_moduleOf_10 : decode cX5_moduleOf 10 = .ok (.iload_n 1, 1) := by decide +kernel
theorem dX5_moduleOf_11 : decode cX5_moduleOf 11 = .ok (.bipush 20, 2) := by decide +kernel
theorem dX5_moduleOf_13 : decode cX5_moduleOf 13 = .ok (.idiv, 1) := by decide +kernel
theorem dX5_moduleOf_14 : decode cX5_moduleOf 14 = .ok (.ireturn, 1) := by decide +kernel
theorem dX5_setAll_0 : decode cX5_setAll 0 = .ok (.iconst 0, 1) := by decide +kernel
theorem dX5_setAll_1 : decode cX5_setAll 1 = .ok (.istore_n 1, 1) := by decide +kernel
theorem dX5_setAll_2 : decode cX5_setAll 2 = .ok (.iload_n 1, 1) := by decide +kernel
theorem dX5_setAll_3 : decode cX5_setAll 3 = .ok (.sipush 768, 3) := by decide +kernel
theorem dX5_setAll_6 : decode cX5_setAll 6 = .ok (.if_icmp .ge 16, 3) := by decide +kernel
theorem dX5_setAll_9 : decode cX5_setAll 9 = .ok (.aload_n 0, 1) := by decide +kernel
theorem dX5_setAll_10 : decode cX5_setAll 10 = .ok (.getfield 50, 3) := by decide +kernel
theorem dX5_setAll_13 : decode cX5_setAll 13 = .ok (.iload_n 1, 1) := by decide +kernel
theorem dX5_setAll_14 : decode cX5_setAll 14 = .ok (.iconst (-1), 1) := by decide +kernel
theorem dX5_setAll_15 : decode cX5_setAll 15 = .ok (.iastore, 1) := by decide +kernel
theorem dX5_setAll_16 : decode cX5_setAll 16 = .ok (.iinc 1 1, 3) := by decide +kernel
theorem dX5_setAll_19 : decode cX5_setAll 19 = .ok (.goto (-17), 3) := by decide +kernel
theorem dX5_setAll_22 : decode cX5_setAll 22 = .ok (.iconst 0, 1) := by decide +kernel
theorem dX5_setAll_23 : decode cX5_setAll 23 = .ok (.istore_n 1, 1) := by decide +kernel
theorem dX5_setAll_24 : decode cX5_setAll 24 = .ok (.iload_n 1, 1) := by decide +kernel
theorem dX5_setAll_25 : decode cX5_setAll 25 = .ok (.aload_n 0, 1) := by decide +kernel
theorem dX5_setAll_26 : decode cX5_setAll 26 = .ok (.getfield 132, 3) := by decide +kernel
theorem dX5_setAll_29 : decode cX5_setAll 29 = .ok (.if_icmp .ge 80, 3) := by decide +kernel
theorem dX5_setAll_32 : decode cX5_setAll 32 = .ok (.aload_n 0, 1) := by decide +kernel
theorem dX5_setAll_33 : decode cX5_setAll 33 = .ok (.getfield 44, 3) := by decide +kernel
theorem dX5_setAll_36 : decode cX5_setAll 36 = .ok (.iload_n 1, 1) := by decide +kernel
theorem dX5_setAll_37 : decode cX5_setAll 37 = .ok (.iaload, 1) := by decide +kernel
theorem dX5_setAll_38 : decode cX5_setAll 38 = .ok (.istore_n 2, 1) := by decide +kernel
theorem dX5_setAll_39 : decode cX5_setAll 39 = .ok (.iconst 0, 1) := by decide +kernel
theorem dX5_setAll_40 : decode cX5_setAll 40 = .ok (.istore_n 3, 1) := by decide +kernel
theorem dX5_setAll_41 : decode cX5_setAll 41 = .ok (.iload_n 3, 1) := by decide +kernel
theorem dX5_setAll_42 : decode cX5_setAll 42 = .ok (.bipush 64, 2) := by decide +kernel
theorem dX5_setAll_44 : decode cX5_setAll 44 = .ok (.if_icmp .ge 59, 3) := by decide +kernel
theorem dX5_setAll_47 : decode cX5_setAll 47 = .ok (.aload_n 0, 1) := by decide +kernel
theorem dX5_setAll_48 : decode cX5_setAll 48 = .ok (.iload_n 2, 1) := by decide +kernel
theorem dX5_setAll_49 : decode cX5_setAll 49 = .ok (.iload_n 3, 1) := by decide +kernel
theorem dX5_setAll_50 : decode cX5_setAll 50 = .ok (.invokevirtual 135, 3) := by decide +kernel
theorem dX5_setAll_53 : decode cX5_setAll 53 = .ok (.ifCond .eq 44, 3) := by decide +kernel
theorem dX5_setAll_56 : decode cX5_setAll 56 = .ok (.aload_n 0, 1) := by decide +kernel
theorem dX5_setAll_57 : decode cX5_setAll 57 = .ok (.getfield 50, 3) := by decide +kernel
theorem dX5_setAll_60 : decode cX5_setAll 60 = .ok (.bipush 64, 2) := by decide +kernel
theorem dX5_setAll_62 : decode cX5_setAll 62 = .ok (.iload_n 2, 1) := by decide +kernel
theorem dX5_setAll_63 : decode cX5_setAll 63 = .ok (.imul, 1) := by decide +kernel
theorem dX5_setAll_64 : decode cX5_setAll 64 = .ok (.iload_n 3, 1) := by decide +kernel
theorem dX5_setAll_65 : decode cX5_setAll 65 = .ok (.iadd, 1) := by decide +kernel
theorem dX5_setAll_66 : decode cX5_setAll 66 = .ok (.aload_n 0, 1) := by decide +kernel
theorem dX5_setAll_67 : decode cX5_setAll 67 = .ok (.getfield 139, 3) := by decide +kernel
theorem dX5_setAll_70 : decode cX5_setAll 70 = .ok (.ifCond .eq 8, 3) := by decide +kernel
theorem dX5_setAll_73 : decode cX5_setAll 73 = .ok (.bipush 21, 2) := by decide +kernel
theorem dX5_setAll_75 : decode cX5_setAll 75 = .ok (.goto 21, 3) := by decide +kernel
theorem dX5_setAll_78 : decode cX5_setAll 78 = .ok (.aload_n 0, 1) := by decide +kernel
theorem dX5_setAll_79 : decode cX5_setAll 79 = .ok (.aload_n 0, 1) := by decide +kernel
theorem dX5_setAll_80 : decode cX5_setAll 80 = .ok (.aload_n 0, 1) := by decide +kernel
theorem dX5_setAll_81 : decode cX5_setAll 81 = .ok (.getfield 44, 3) := by decide +kernel
theorem dX5_setAll_84 : decode cX5_setAll 84 = .ok (.aload_n 0, 1) := by decide +kernel
theorem dX5_setAll_85 : decode cX5_setAll 85 = .ok (.getfield 132, 3) := by decide +kernel
theorem dX5_setAll_88 : decode cX5_setAll 88 = .ok (.iload_n 2, 1) := by decide +kernel
theorem dX5_setAll_89 : decode cX5_setAll 89 = .ok (.iload_n 3, 1) := by decide +kernel
theorem dX5_setAll_90 : decode cX5_setAll 90 = .ok (.invokevirtual 121, 3) := by decide +kernel
theorem dX5_setAll_93 : decode cX5_setAll 93 = .ok (.invokevirtual 142, 3) := by decide +kernel
theorem dX5_setAll_96 : decode cX5_setAll 96 = .ok (.iastore, 1) := by decide +kernel
theorem dX5_setAll_97 : decode cX5_setAll 97 = .ok (.iinc 3 1, 3) := by decide +kernel
theorem dX5_setAll_100 : decode cX5_setAll 100 = .ok (.goto (-59), 3) := by decide +kernel
theorem dX5_setAll_103 : decode cX5_setAll 103 = .ok (.iinc 1 1, 3) := by decide +kernel
theorem dX5_setAll_106 : decode cX5_setAll 106 = .ok (.goto (-82), 3) := by decide +kernel
theorem dX5_setAll_109 : decode cX5_setAll 109 = .ok (.iconst 0, 1) := by decide +kernel
theorem dX5_setAll_110 : decode cX5_setAll 110 = .ok (.istore_n 1, 1) := by decide +kernel
theorem dX5_setAll_111 : decode cX5_setAll 111 = .ok (.iload_n 1, 1) := by decide +kernel
theorem dX5_setAll_112 : decode cX5_setAll 112 = .ok (.sipush 240, 3) := by decide +kernel
theorem dX5_setAll_115 : decode cX5_setAll 115 = .ok (.if_icmp .ge 21, 3) := by decide +kernel
theorem dX5_setAll_118 : decode cX5_setAll 118 = .ok (.aload_n 0, 1) := by decide +kernel
theorem dX5_setAll_119 : decode cX5_setAll 119 = .ok (.getfield 53, 3) := by decide +kernel
theorem dX5_setAll_122 : decode cX5_setAll 122 = .ok (.iload_n 1, 1) := by decide +kernel
theorem dX5_setAll_123 : decode cX5_setAll 123 = .ok (.aload_n 0, 1) := by decide +kernel
theorem dX5_setAll_124 : decode cX5_setAll 124 = .ok (.getfield 22, 3) := by decide +kernel
theorem dX5_setAll_127 : decode cX5_setAll 127 = .ok (.iload_n 1, 1) := by decide +kernel
theorem dX5_setAll_128 : decode cX5_setAll 128 = .ok (.iaload, 1) := by decide +kernel
theorem dX5_setAll_129 : decode cX5_setAll 129 = .ok (.iastore, 1) := by decide +kernel
theorem dX5_setAll_130 : decode cX5_setAll 130 = .ok (.iinc 1 1, 3) := by decide +kernel
theorem dX5_setAll_133 : decode cX5_setAll 133 = .ok (.goto (-22), 3) := by decide +kernel
theorem dX5_setAll_136 : decode cX5_setAll 136 = .ok (.return_, 1) := by decide +kernel
theorem dX5_load_0 : decode cX5_load 0 = .ok (.aload_n 0, 1) := by decide +kernel
theorem dX5_load_1 : decode cX5_load 1 = .ok (.iload_n 1, 1) := by decide +kernel
theorem dX5_load_2 : decode cX5_load 2 = .ok (.invokevirtual 93, 3) := by decide +kernel
theorem dX5_load_5 : decode cX5_load 5 = .ok (.ifCond .eq 12, 3) := by decide +kernel
theorem dX5_load_8 : decode cX5_load 8 = .ok (.iload_n 2, 1) := by decide +kernel
theorem dX5_load_9 : decode cX5_load 9 = .ok (.ifCond .lt 8, 3) := by decide +kernel
theorem dX5_load_12 : decode cX5_load 12 = .ok (.iload_n 2, 1) := by decide +kernel
theorem dX5_load_13 : decode cX5_load 13 = .ok (.iconst 1, 1) := by decide +kernel
theorem dX5_load_14 : decode cX5_load 14 = .ok (.if_icmp .le 5, 3) := by decide +kernel
theorem dX5_load_17 : decode cX5_load 17 = .ok (.iconst (-1), 1) := by decide +kernel
theorem dX5_load_18 : decode cX5_load 18 = .ok (.ireturn, 1) := by decide +kernel
theorem dX5_load_19 : decode cX5_load 19 = .ok (.aload_n 0, 1) := by decide +kernel
theorem dX5_load_20 : decode cX5_load 20 = .ok (.iconst (-1), 1) := by decide +kernel
theorem dX5_load_21 : decode cX5_load 21 = .ok (.putfield 68, 3) := by decide +kernel
theorem dX5_load_24 : decode cX5_load 24 = .ok (.aload_n 0, 1) := by decide +kernel
theorem dX5_load_25 : decode cX5_load 25 = .ok (.iconst (-1), 1) := by decide +kernel
theorem dX5_load_26 : decode cX5_load 26 = .ok (.putfield 72, 3) := by decide +kernel
theorem dX5_load_29 : decode cX5_load 29 = .ok (.aload_n 0, 1) := by decide +kernel
theorem dX5_load_30 : decode cX5_load 30 = .ok (.iconst (-1), 1) := by decide +kernel
theorem dX5_load_31 : decode cX5_load 31 = .ok (.putfield 75, 3) := by decide +kernel
theorem dX5_load_34 : decode cX5_load 34 = .ok (.aload_n 0, 1) := by decide +kernel
theorem dX5_load_35 : decode cX5_load 35 = .ok (.iload_n 1, 1) := by decide +kernel
theorem dX5_load_36 : decode cX5_load 36 = .ok (.invokevirtual 146, 3) := by decide +kernel
theorem dX5_load_39 : decode cX5_load 39 = .ok (.iconst 0, 1) := by decide +kernel
theorem dX5_load_40 : decode cX5_load 40 = .ok (.istore_n 3, 1) := by decide +kernel
theorem dX5_load_41 : decode cX5_load 41 = .ok (.iload_n 3, 1) := by decide +kernel
theorem dX5_load_42 : decode cX5_load 42 = .ok (.aload_n 0, 1) := by decide +kernel
theorem dX5_load_43 : decode cX5_load 43 = .ok (.getfield 118, 3) := by decide +kernel
theorem dX5_load_46 : decode cX5_load 46 = .ok (.if_icmp .ge 29, 3) := by decide +kernel
theorem dX5_load_49 : decode cX5_load 49 = .ok (.aload_n 0, 1) := by decide +kernel
theorem dX5_load_50 : decode cX5_load 50 = .ok (.aload_n 0, 1) := by decide +kernel
theorem dX5_load_51 : decode cX5_load 51 = .ok (.getfield 56, 3) := by decide +kernel
theorem dX5_load_54 : decode cX5_load 54 = .ok (.iload_n 3, 1) := by decide +kernel
theorem dX5_load_55 : decode cX5_load 55 = .ok (.iaload, 1) := by decide +kernel
theorem dX5_load_56 : decode cX5_load 56 = .ok (.invokevirtual 150, 3) := by decide +kernel
theorem dX5_load_59 : decode cX5_load 59 = .ok (.istore 4, 2) := by decide +kernel
theorem dX5_load_61 : decode cX5_load 61 = .ok (.iload 4, 2) := by decide +kernel
theorem dX5_load_63 : decode cX5_load 63 = .ok (.ifCond .le 6, 3) := by decide +kernel
theorem dX5_load_66 : decode cX5_load 66 = .ok (.iload 4, 2) := by decide +kernel
theorem dX5_load_68 : decode cX5_load 68 = .ok (.ireturn, 1) := by decide +kernel
theorem dX5_load_69 : decode cX5_load 69 = .ok (.iinc 3 1, 3) := by decide +kernel
theorem dX5_load_72 : decode cX5_load 72 = .ok (.goto (-31), 3) := by decide +kernel
theorem dX5_load_75 : decode cX5_load 75 = .ok (.aload_n 0, 1) := by decide +kernel
theorem dX5_load_76 : decode cX5_load 76 = .ok (.iconst 1, 1) := by decide +kernel
theorem dX5_load_77 : decode cX5_load 77 = .ok (.putfield 97, 3) := by decide +kernel
theorem dX5_load_80 : decode cX5_load 80 = .ok (.aload_n 0, 1) := by decide +kernel
theorem dX5_load_81 : decode cX5_load 81 = .ok (.iload_n 2, 1) := by decide +kernel
theorem dX5_load_82 : decode cX5_load 82 = .ok (.iconst 1, 1) := by decide +kernel
theorem dX5_load_83 : decode cX5_load 83 = .ok (.if_icmp .ne 7, 3) := by decide +kernel
theorem dX5_load_86 : decode cX5_load 86 = .ok (.iconst 1, 1) := by decide +kernel
theorem dX5_load_87 : decode cX5_load 87 = .ok (.goto 4, 3) := by decide +kernel
theorem dX5_load_90 : decode cX5_load 90 = .ok (.iconst 0, 1) := by decide +kernel
theorem dX5_load_91 : decode cX5_load 91 = .ok (.putfield 139, 3) := by decide +kernel
theorem dX5_load_94 : decode cX5_load 94 = .ok (.aload_n 0, 1) := by decide +kernel
theorem dX5_load_95 : decode cX5_load 95 = .ok (.iload_n 1, 1) := by decide +kernel
theorem dX5_load_96 : decode cX5_load 96 = .ok (.putfield 129, 3) := by decide +kernel
theorem dX5_load_99 : decode cX5_load 99 = .ok (.aload_n 0, 1) := by decide +kernel
theorem dX5_load_100 : decode cX5_load 100 = .ok (.aload_n 0, 1) := by decide +kernel
theorem dX5_load_101 : decode cX5_load 101 = .ok (.getfield 118, 3) := by decide +kernel
theorem dX5_load_104 : decode cX5_load 104 = .ok (.putfield 132, 3) := by decide +kernel
theorem dX5_load_107 : decode cX5_load 107 = .ok (.iconst 0, 1) := by decide +kernel
theorem dX5_load_108 : decode cX5_load 108 = .ok (.istore_n 3, 1) := by decide +kernel
theorem dX5_load_109 : decode cX5_load 109 = .ok (.iload_n 3, 1) := by decide +kernel
theorem dX5_load_110 : decode cX5_load 110 = .ok (.aload_n 0, 1) := by decide +kernel
theorem dX5_load_111 : decode cX5_load 111 = .ok (.getfield 132, 3) := by decide +kernel
theorem dX5_load_114 : decode cX5_load 114 = .ok (.if_icmp .ge 21, 3) := by decide +kernel
theorem dX5_load_117 : decode cX5_load 117 = .ok (.aload_n 0, 1) := by decide +kernel
theorem dX5_load_118 : decode cX5_load 118 = .ok (.getfield 44, 3) := by decide +kernel
theorem dX5_load_121 : decode cX5_load 121 = .ok (.iload_n 3, 1) := by decide +kernel
theorem dX5_load_122 : decode cX5_load 122 = .ok (.aload_n 0, 1) := by decide +kernel
theorem dX5_load_123 : decode cX5_load 123 = .ok (.getfield 56, 3) := by decide +kernel
theorem dX5_load_126 : decode cX5_load 126 = .ok (.iload_n 3, 1) := by decide +kernel
theorem dX5_load_127 : decode cX5_load 127 = .ok (.iaload, 1) := by decide +kernel
theorem dX5_load_128 : decode cX5_load 128 = .ok (.iastore, 1) := by decide +kernel
theorem dX5_load_129 : decode cX5_load 129 = .ok (.iinc 3 1, 3) := by decide +kernel
theorem dX5_load_132 : decode cX5_load 132 = .ok (.goto (-23), 3) := by decide +kernel
theorem dX5_load_135 : decode cX5_load 135 = .ok (.aload_n 0, 1) := by decide +kernel
theorem dX5_load_136 : decode cX5_load 136 = .ok (.invokevirtual 153, 3) := by decide +kernel
theorem dX5_load_139 : decode cX5_load 139 = .ok (.aload_n 0, 1) := by decide +kernel
theorem dX5_load_140 : decode cX5_load 140 = .ok (.invokevirtual 156, 3) := by decide +kernel
theorem dX5_load_143 : decode cX5_load 143 = .ok (.iconst 0, 1) := by decide +kernel
theorem dX5_load_144 : decode cX5_load 144 = .ok (.ireturn, 1) := by decide +kernel
theorem dX5_fault_0 : decode cX5_fault 0 = .ok (.iload_n 1, 1) := by decide +kernel
theorem dX5_fault_1 : decode cX5_fault 1 = .ok (.ifCond .ne 10, 3) := by decide +kernel
theorem dX5_fault_4 : decode cX5_fault 4 = .ok (.aload_n 0, 1) := by decide +kernel
theorem dX5_fault_5 : decode cX5_fault 5 = .ok (.getfield 68, 3) := by decide +kernel
theorem dX5_fault_8 : decode cX5_fault 8 = .ok (.goto 28, 3) := by decide +kernel
theorem dX5_fault_11 : decode cX5_fault 11 = .ok (.iload_n 1, 1) := by decide +kernel
theorem dX5_fault_12 : decode cX5_fault 12 = .ok (.iconst 1, 1) := by decide +kernel
theorem dX5_fault_13 : decode cX5_fault 13 = .ok (.if_icmp .ne 10, 3) := by decide +kernel
theorem dX5_fault_16 : decode cX5_fault 16 = .ok (.aload_n 0, 1) := by decide +kernel
theorem dX5_fault_17 : decode cX5_fault 17 = .ok (.getfield 72, 3) := by decide +kernel
theorem dX5_fault_20 : decode cX5_fault 20 = .ok (.goto 16, 3) := by decide +kernel
theorem dX5_fault_23 : decode cX5_fault 23 = .ok (.iload_n 1, 1) := by decide +kernel
theorem dX5_fault_24 : decode cX5_fault 24 = .ok (.iconst 2, 1) := by decide +kernel
theorem dX5_fault_25 : decode cX5_fault 25 = .ok (.if_icmp .ne 10, 3) := by decide +kernel
theorem dX5_fault_28 : decode cX5_fault 28 = .ok (.aload_n 0, 1) := by decide +kernel
theorem dX5_fault_29 : decode cX5_fault 29 = .ok (.getfield 75, 3) := by decide +kernel
theorem dX5_fault_32 : decode cX5_fault 32 = .ok (.goto 4, 3) := by decide +kernel
theorem dX5_fault_35 : decode cX5_fault 35 = .ok (.iconst (-1), 1) := by decide +kernel
theorem dX5_fault_36 : decode cX5_fault 36 = .ok (.ireturn, 1) := by decide +kernel
theorem dX5_order_0 : decode cX5_order 0 = .ok (.aload_n 0, 1) := by decide +kernel
theorem dX5_order_1 : decode cX5_order 1 = .ok (.getfield 97, 3) := by decide +kernel
theorem dX5_order_4 : decode cX5_order 4 = .ok (.ifCond .eq 24, 3) := by decide +kernel
theorem dX5_order_7 : decode cX5_order 7 = .ok (.iload_n 1, 1) := by decide +kernel
theorem dX5_order_8 : decode cX5_order 8 = .ok (.ifCond .lt 20, 3) := by decide +kernel
theorem dX5_order_11 : decode cX5_order 11 = .ok (.iload_n 1, 1) := by decide +kernel
theorem dX5_order_12 : decode cX5_order 12 = .ok (.aload_n 0, 1) := by decide +kernel
theorem dX5_order_13 : decode cX5_order 13 = .ok (.getfield 132, 3) := by decide +kernel
theorem dX5_order_16 : decode cX5_order 16 = .ok (.if_icmp .ge 12, 3) := by decide +kernel
theorem dX5_order_19 : decode cX5_order 19 = .ok (.iload_n 2, 1) := by decide +kernel
theorem dX5_order_20 : decode cX5_order 20 = .ok (.ifCond .lt 8, 3) := by decide +kernel
theorem dX5_order_23 : decode cX5_order 23 = .ok (.iload_n 2, 1) := by decide +kernel
theorem dX5_order_24 : decode cX5_order 24 = .ok (.iconst 1, 1) := by decide +kernel
theorem dX5_order_25 : decode cX5_order 25 = .ok (.if_icmp .le 5, 3) := by decide +kernel
theorem dX5_order_28 : decode cX5_order 28 = .ok (.iconst (-1), 1) := by decide +kernel
theorem dX5_order_29 : decode cX5_order 29 = .ok (.ireturn, 1) := by decide +kernel
theorem dX5_order_30 : decode cX5_order 30 = .ok (.iload_n 2, 1) := by decide +kernel
theorem dX5_order_31 : decode cX5_order 31 = .ok (.ifCond .ne 12, 3) := by decide +kernel
theorem dX5_order_34 : decode cX5_order 34 = .ok (.aload_n 0, 1) := by decide +kernel
theorem dX5_order_35 : decode cX5_order 35 = .ok (.getfield 44, 3) := by decide +kernel
theorem dX5_order_38 : decode cX5_order 38 = .ok (.iload_n 1, 1) := by decide +kernel
theorem dX5_order_39 : decode cX5_order 39 = .ok (.iaload, 1) := by decide +kernel
theorem dX5_order_40 : decode cX5_order 40 = .ok (.goto 9, 3) := by decide +kernel
theorem dX5_order_43 : decode cX5_order 43 = .ok (.aload_n 0, 1) := by decide +kernel
theorem dX5_order_44 : decode cX5_order 44 = .ok (.getfield 47, 3) := by decide +kernel
theorem dX5_order_47 : decode cX5_order 47 = .ok (.iload_n 1, 1) := by decide +kernel
theorem dX5_order_48 : decode cX5_order 48 = .ok (.iaload, 1) := by decide +kernel
theorem dX5_order_49 : decode cX5_order 49 = .ok (.ireturn, 1) := by decide +kernel
theorem dX5_placeOf_0 : decode cX5_placeOf 0 = .ok (.iconst 0, 1) := by decide +kernel
theorem dX5_placeOf_1 : decode cX5_placeOf 1 = .ok (.istore_n 2, 1) := by decide +kernel
theorem dX5_placeOf_2 : decode cX5_placeOf 2 = .ok (.iload_n 2, 1) := by decide +kernel
theorem dX5_placeOf_3 : decode cX5_placeOf 3 = .ok (.aload_n 0, 1) := by decide +kernel
theorem dX5_placeOf_4 : decode cX5_placeOf 4 = .ok (.getfield 132, 3) := by decide +kernel
theorem dX5_placeOf_7 : decode cX5_placeOf 7 = .ok (.if_icmp .ge 28, 3) := by decide +kernel
theorem dX5_placeOf_10 : decode cX5_placeOf 10 = .ok (.aload_n 0, 1) := by decide +kernel
theorem dX5_placeOf_11 : decode cX5_placeOf 11 = .ok (.getfield 97, 3) := by decide +kernel
theorem dX5_placeOf_14 : decode cX5_placeOf 14 = .ok (.ifCond .eq 21, 3) := by decide +kernel
theorem dX5_placeOf_17 : decode cX5_placeOf 17 = .ok (.aload_n 0, 1) := by decide +kernel
theorem dX5_placeOf_18 : decode cX5_placeOf 18 = .ok (.getfield 44, 3) := by decide +kernel
theorem dX5_placeOf_21 : decode cX5_placeOf 21 = .ok (.iload_n 2, 1) := by decide +kernel
theorem dX5_placeOf_22 : decode cX5_placeOf 22 = .ok (.iaload, 1) := by decide +kernel
theorem dX5_placeOf_23 : decode cX5_placeOf 23 = .ok (.iload_n 1, 1) := by decide +kernel
theorem dX5_placeOf_24 : decode cX5_placeOf 24 = .ok (.if_icmp .ne 5, 3) := by decide +kernel
theorem dX5_placeOf_27 : decode cX5_placeOf 27 = .ok (.iload_n 2, 1) := by decide +kernel
theorem dX5_placeOf_28 : decode cX5_placeOf 28 = .ok (.ireturn, 1) := by decide +kernel
theorem dX5_placeOf_29 : decode cX5_placeOf 29 = .ok (.iinc 2 1, 3) := by decide +kernel
theorem dX5_placeOf_32 : decode cX5_placeOf 32 = .ok (.goto (-30), 3) := by decide +kernel
theorem dX5_placeOf_35 : decode cX5_placeOf 35 = .ok (.iconst (-1), 1) := by decide +kernel
theorem dX5_placeOf_36 : decode cX5_placeOf 36 = .ok (.ireturn, 1) := by decide +kernel
theorem dX5_comes_0 : decode cX5_comes 0 = .ok (.aload_n 0, 1) := by decide +kernel
theorem dX5_comes_1 : decode cX5_comes 1 = .ok (.iload_n 1, 1) := by decide +kernel
theorem dX5_comes_2 : decode cX5_comes 2 = .ok (.invokevirtual 159, 3) := by decide +kernel
theorem dX5_comes_5 : decode cX5_comes 5 = .ok (.iconst (-1), 1) := by decide +kernel
theorem dX5_comes_6 : decode cX5_comes 6 = .ok (.if_icmp .eq 10, 3) := by decide +kernel
theorem dX5_comes_9 : decode cX5_comes 9 = .ok (.iload_n 2, 1) := by decide +kernel
theorem dX5_comes_10 : decode cX5_comes 10 = .ok (.invokestatic 101, 3) := by decide +kernel
theorem dX5_comes_13 : decode cX5_comes 13 = .ok (.ifCond .ne 7, 3) := by decide +kernel
theorem dX5_comes_16 : decode cX5_comes 16 = .ok (.iconst (-1), 1) := by decide +kernel
theorem dX5_comes_17 : decode cX5_comes 17 = .ok (.goto 21, 3) := by decide +kernel
theorem dX5_comes_20 : decode cX5_comes 20 = .ok (.aload_n 0, 1) := by decide +kernel
theorem dX5_comes_21 : decode cX5_comes 21 = .ok (.aload_n 0, 1) := by decide +kernel
theorem dX5_comes_22 : decode cX5_comes 22 = .ok (.aload_n 0, 1) := by decide +kernel
theorem dX5_comes_23 : decode cX5_comes 23 = .ok (.getfield 44, 3) := by decide +kernel
theorem dX5_comes_26 : decode cX5_comes 26 = .ok (.aload_n 0, 1) := by decide +kernel
theorem dX5_comes_27 : decode cX5_comes 27 = .ok (.getfield 132, 3) := by decide +kernel
theorem dX5_comes_30 : decode cX5_comes 30 = .ok (.iload_n 1, 1) := by decide +kernel
theorem dX5_comes_31 : decode cX5_comes 31 = .ok (.iload_n 2, 1) := by decide +kernel
theorem dX5_comes_32 : decode cX5_comes 32 = .ok (.invokevirtual 121, 3) := by decide +kernel
theorem dX5_comes_35 : decode cX5_comes 35 = .ok (.invokevirtual 142, 3) := by decide +kernel
theorem dX5_comes_38 : decode cX5_comes 38 = .ok (.ireturn, 1) := by decide +kernel
theorem dX5_bound_0 : decode cX5_bound 0 = .ok (.aload_n 0, 1) := by decide +kernel
theorem dX5_bound_1 : decode cX5_bound 1 = .ok (.iload_n 1, 1) := by decide +kernel
theorem dX5_bound_2 : decode cX5_bound 2 = .ok (.invokevirtual 159, 3) := by decide +kernel
theorem dX5_bound_5 : decode cX5_bound 5 = .ok (.iconst (-1), 1) := by decide +kernel
theorem dX5_bound_6 : decode cX5_bound 6 = .ok (.if_icmp .eq 10, 3) := by decide +kernel
theorem dX5_bound_9 : decode cX5_bound 9 = .ok (.iload_n 2, 1) := by decide +kernel
theorem dX5_bound_10 : decode cX5_bound 10 = .ok (.invokestatic 101, 3) := by decide +kernel
theorem dX5_bound_13 : decode cX5_bound 13 = .ok (.ifCond .ne 7, 3) := by decide +kernel
theorem dX5_bound_16 : decode cX5_bound 16 = .ok (.iconst (-1), 1) := by decide +kernel
theorem dX5_bound_17 : decode cX5_bound 17 = .ok (.goto 14, 3) := by decide +kernel
theorem dX5_bound_20 : decode cX5_bound 20 = .ok (.aload_n 0, 1) := by decide +kernel
theorem dX5_bound_21 : decode cX5_bound 21 = .ok (.getfield 50, 3) := by decide +kernel
theorem dX5_bound_24 : decode cX5_bound 24 = .ok (.bipush 64, 2) := by decide +kernel
theorem dX5_bound_26 : decode cX5_bound 26 = .ok (.iload_n 1, 1) := by decide +kernel
theorem dX5_bound_27 : decode cX5_bound 27 = .ok (.imul, 1) := by decide +kernel
theorem dX5_bound_28 : decode cX5_bound 28 = .ok (.iload_n 2, 1) := by decide +kernel
theorem dX5_bound_29 : decode cX5_bound 29 = .ok (.iadd, 1) := by decide +kernel
theorem dX5_bound_30 : decode cX5_bound 30 = .ok (.iaload, 1) := by decide +kernel
theorem dX5_bound_31 : decode cX5_bound 31 = .ok (.ireturn, 1) := by decide +kernel
theorem dX5_call_0 : decode cX5_call 0 = .ok (.iload_n 1, 1) := by decide +kernel
theorem dX5_call_1 : decode cX5_call 1 = .ok (.iconst (-1), 1) := by decide +kernel
theorem dX5_call_2 : decode cX5_call 2 = .ok (.if_icmp .ne 5, 3) := by decide +kernel
theorem dX5_call_5 : decode cX5_call 5 = .ok (.iconst 3, 1) := by decide +kernel
theorem dX5_call_6 : decode cX5_call 6 = .ok (.ireturn, 1) := by decide +kernel
theorem dX5_call_7 : decode cX5_call 7 = .ok (.aload_n 0, 1) := by decide +kernel
theorem dX5_call_8 : decode cX5_call 8 = .ok (.getfield 162, 3) := by decide +kernel
theorem dX5_call_11 : decode cX5_call 11 = .ok (.bipush 101, 2) := by decide +kernel
theorem dX5_call_13 : decode cX5_call 13 = .ok (.if_icmp .ne 5, 3) := by decide +kernel
theorem dX5_call_16 : decode cX5_call 16 = .ok (.iconst 2, 1) := by decide +kernel
theorem dX5_call_17 : decode cX5_call 17 = .ok (.ireturn, 1) := by decide +kernel
theorem dX5_call_18 : decode cX5_call 18 = .ok (.aload_n 0, 1) := by decide +kernel
theorem dX5_call_19 : decode cX5_call 19 = .ok (.getfield 84, 3) := by decide +kernel
theorem dX5_call_22 : decode cX5_call 22 = .ok (.aload_n 0, 1) := by decide +kernel
theorem dX5_call_23 : decode cX5_call 23 = .ok (.getfield 162, 3) := by decide +kernel
theorem dX5_call_26 : decode cX5_call 26 = .ok (.aload_n 0, 1) := by decide +kernel
theorem dX5_call_27 : decode cX5_call 27 = .ok (.getfield 165, 3) := by decide +kernel
theorem dX5_call_30 : decode cX5_call 30 = .ok (.iastore, 1) := by decide +kernel
theorem dX5_call_31 : decode cX5_call 31 = .ok (.aload_n 0, 1) := by decide +kernel
theorem dX5_call_32 : decode cX5_call 32 = .ok (.getfield 87, 3) := by decide +kernel
theorem dX5_call_35 : decode cX5_call 35 = .ok (.aload_n 0, 1) := by decide +kernel
theorem dX5_call_36 : decode cX5_call 36 = .ok (.getfield 162, 3) := by decide +kernel
theorem dX5_call_39 : decode cX5_call 39 = .ok (.aload_n 0, 1) := by decide +kernel
theorem dX5_call_40 : decode cX5_call 40 = .ok (.getfield 168, 3) := by decide +kernel
theorem dX5_call_43 : decode cX5_call 43 = .ok (.iastore, 1) := by decide +kernel
theorem dX5_call_44 : decode cX5_call 44 = .ok (.aload_n 0, 1) := by decide +kernel
theorem dX5_call_45 : decode cX5_call 45 = .ok (.dup, 1) := by decide +kernel
theorem dX5_call_46 : decode cX5_call 46 = .ok (.getfield 162, 3) := by decide +kernel
theorem dX5_call_49 : decode cX5_call 49 = .ok (.iconst 1, 1) := by decide +kernel
theorem dX5_call_50 : decode cX5_call 50 = .ok (.iadd, 1) := by decide +kernel
theorem dX5_call_51 : decode cX5_call 51 = .ok (.putfield 162, 3) := by decide +kernel
theorem dX5_call_54 : decode cX5_call 54 = .ok (.aload_n 0, 1) := by decide +kernel
theorem dX5_call_55 : decode cX5_call 55 = .ok (.aload_n 0, 1) := by decide +kernel
theorem dX5_call_56 : decode cX5_call 56 = .ok (.getfield 162, 3) := by decide +kernel
theorem dX5_call_59 : decode cX5_call 59 = .ok (.iconst 1, 1) := by decide +kernel
theorem dX5_call_60 : decode cX5_call 60 = .ok (.isub, 1) := by decide +kernel
theorem dX5_call_61 : decode cX5_call 61 = .ok (.aload_n 0, 1) := by decide +kernel
theorem dX5_call_62 : decode cX5_call 62 = .ok (.getfield 171, 3) := by decide +kernel
theorem dX5_call_65 : decode cX5_call 65 = .ok (.if_icmp .le 12, 3) := by decide +kernel
theorem dX5_call_68 : decode cX5_call 68 = .ok (.aload_n 0, 1) := by decide +kernel
theorem dX5_call_69 : decode cX5_call 69 = .ok (.getfield 162, 3) := by decide +kernel
theorem dX5_call_72 : decode cX5_call 72 = .ok (.iconst 1, 1) := by decide +kernel
theorem dX5_call_73 : decode cX5_call 73 = .ok (.isub, 1) := by decide +kernel
theorem dX5_call_74 : decode cX5_call 74 = .ok (.goto 7, 3) := by decide +kernel
theorem dX5_call_77 : decode cX5_call 77 = .ok (.aload_n 0, 1) := by decide +kernel
theorem dX5_call_78 : decode cX5_call 78 = .ok (.getfield 171, 3) := by decide +kernel
theorem dX5_call_81 : decode cX5_call 81 = .ok (.putfield 171, 3) := by decide +kernel
theorem dX5_call_84 : decode cX5_call 84 = .ok (.aload_n 0, 1) := by decide +kernel
theorem dX5_call_85 : decode cX5_call 85 = .ok (.iload_n 1, 1) := by decide +kernel
theorem dX5_call_86 : decode cX5_call 86 = .ok (.bipush 20, 2) := by decide +kernel
theorem dX5_call_88 : decode cX5_call 88 = .ok (.idiv, 1) := by decide +kernel
theorem dX5_call_89 : decode cX5_call 89 = .ok (.putfield 165, 3) := by decide +kernel
theorem dX5_call_92 : decode cX5_call 92 = .ok (.aload_n 0, 1) := by decide +kernel
theorem dX5_call_93 : decode cX5_call 93 = .ok (.aload_n 0, 1) := by decide +kernel
theorem dX5_call_94 : decode cX5_call 94 = .ok (.getfield 22, 3) := by decide +kernel
theorem dX5_call_97 : decode cX5_call 97 = .ok (.iload_n 1, 1) := by decide +kernel
theorem dX5_call_98 : decode cX5_call 98 = .ok (.iaload, 1) := by decide +kernel
theorem dX5_call_99 : decode cX5_call 99 = .ok (.putfield 168, 3) := by decide +kernel
theorem dX5_call_102 : decode cX5_call 102 = .ok (.iconst (-1), 1) := by decide +kernel
theorem dX5_call_103 : decode cX5_call 103 = .ok (.ireturn, 1) := by decide +kernel
theorem dX5_atAddress_0 : decode cX5_atAddress 0 = .ok (.iload_n 1, 1) := by decide +kernel
theorem dX5_atAddress_1 : decode cX5_atAddress 1 = .ok (.sipush 1000, 3) := by decide +kernel
theorem dX5_atAddress_4 : decode cX5_atAddress 4 = .ok (.idiv, 1) := by decide +kernel
theorem dX5_atAddress_5 : decode cX5_atAddress 5 = .ok (.iconst 1, 1) := by decide +kernel
theorem dX5_atAddress_6 : decode cX5_atAddress 6 = .ok (.isub, 1) := by decide +kernel
theorem dX5_atAddress_7 : decode cX5_atAddress 7 = .ok (.istore_n 2, 1) := by decide +kernel
theorem dX5_atAddress_8 : decode cX5_atAddress 8 = .ok (.iload_n 1, 1) := by decide +kernel
theorem dX5_atAddress_9 : decode cX5_atAddress 9 = .ok (.sipush 1000, 3) := by decide +kernel
theorem dX5_atAddress_12 : decode cX5_atAddress 12 = .ok (.if_icmp .lt 11, 3) := by decide +kernel
theorem dX5_atAddress_15 : decode cX5_atAddress 15 = .ok (.iload_n 2, 1) := by decide +kernel
theorem dX5_atAddress_16 : decode cX5_atAddress 16 = .ok (.aload_n 0, 1) := by decide +kernel
theorem dX5_atAddress_17 : decode cX5_atAddress 17 = .ok (.getfield 132, 3) := by decide +kernel
theorem dX5_atAddress_20 : decode cX5_atAddress 20 = .ok (.if_icmp .lt 5, 3) := by decide +kernel
theorem dX5_atAddress_23 : decode cX5_atAddress 23 = .ok (.iconst (-1), 1) := by decide +kernel
theorem dX5_atAddress_24 : decode cX5_atAddress 24 = .ok (.ireturn, 1) := by decide +kernel
theorem dX5_atAddress_25 : decode cX5_atAddress 25 = .ok (.aload_n 0, 1) := by decide +kernel
theorem dX5_atAddress_26 : decode cX5_atAddress 26 = .ok (.getfield 44, 3) := by decide +kernel
theorem dX5_atAddress_29 : decode cX5_atAddress 29 = .ok (.iload_n 2, 1) := by decide +kernel
theorem dX5_atAddress_30 : decode cX5_atAddress 30 = .ok (.iaload, 1) := by decide +kernel
theorem dX5_atAddress_31 : decode cX5_atAddress 31 = .ok (.istore_n 3, 1) := by decide +kernel
theorem dX5_atAddress_32 : decode cX5_atAddress 32 = .ok (.iconst 0, 1) := by decide +kernel
theorem dX5_atAddress_33 : decode cX5_atAddress 33 = .ok (.istore 4, 2) := by decide +kernel
theorem dX5_atAddress_35 : decode cX5_atAddress 35 = .ok (.iload 4, 2) := by decide +kernel
theorem dX5_atAddress_37 : decode cX5_atAddress 37 = .ok (.aload_n 0, 1) := by decide +kernel
theorem dX5_atAddress_38 : decode cX5_atAddress 38 = .ok (.getfield 28, 3) := by decide +kernel
theorem dX5_atAddress_41 : decode cX5_atAddress 41 = .ok (.iload_n 3, 1) := by decide +kernel
theorem dX5_atAddress_42 : decode cX5_atAddress 42 = .ok (.iaload, 1) := by decide +kernel
theorem dX5_atAddress_43 : decode cX5_atAddress 43 = .ok (.if_icmp .ge 46, 3) := by decide +kernel
theorem dX5_atAddress_46 : decode cX5_atAddress 46 = .ok (.bipush 20, 2) := by decide +kernel
theorem dX5_atAddress_48 : decode cX5_atAddress 48 = .ok (.iload_n 3, 1) := by decide +kernel
theorem dX5_atAddress_49 : decode cX5_atAddress 49 = .ok (.imul, 1) := by decide +kernel
theorem dX5_atAddress_50 : decode cX5_atAddress 50 = .ok (.iload 4, 2) := by decide +kernel
theorem dX5_atAddress_52 : decode cX5_atAddress 52 = .ok (.iadd, 1) := by decide +kernel
theorem dX5_atAddress_53 : decode cX5_atAddress 53 = .ok (.istore 5, 2) := by decide +kernel
theorem dX5_atAddress_55 : decode cX5_atAddress 55 = .ok (.aload_n 0, 1) := by decide +kernel
theorem dX5_atAddress_56 : decode cX5_atAddress 56 = .ok (.getfield 19, 3) := by decide +kernel
theorem dX5_atAddress_59 : decode cX5_atAddress 59 = .ok (.iload 5, 2) := by decide +kernel
theorem dX5_atAddress_61 : decode cX5_atAddress 61 = .ok (.iaload, 1) := by decide +kernel
theorem dX5_atAddress_62 : decode cX5_atAddress 62 = .ok (.ifCond .ne 21, 3) := by decide +kernel
theorem dX5_atAddress_65 : decode cX5_atAddress 65 = .ok (.aload_n 0, 1) := by decide +kernel
theorem dX5_atAddress_66 : decode cX5_atAddress 66 = .ok (.getfield 22, 3) := by decide +kernel
theorem dX5_atAddress_69 : decode cX5_atAddress 69 = .ok (.iload 5, 2) := by decide +kernel
theorem dX5_atAddress_71 : decode cX5_atAddress 71 = .ok (.iaload, 1) := by decide +kernel
theorem dX5_atAddress_72 : decode cX5_atAddress 72 = .ok (.iload_n 1, 1) := by decide +kernel
theorem dX5_atAddress_73 : decode cX5_atAddress 73 = .ok (.sipush 1000, 3) := by decide +kernel
theorem dX5_atAddress_76 : decode cX5_atAddress 76 = .ok (.irem, 1) := by decide +kernel
theorem dX5_atAddress_77 : decode cX5_atAddress 77 = .ok (.if_icmp .ne 6, 3) := by decide +kernel
theorem dX5_atAddress_80 : decode cX5_atAddress 80 = .ok (.iload 5, 2) := by decide +kernel
theorem dX5_atAddress_82 : decode cX5_atAddress 82 = .ok (.ireturn, 1) := by decide +kernel
theorem dX5_atAddress_83 : decode cX5_atAddress 83 = .ok (.iinc 4 1, 3) := by decide +kernel
theorem dX5_atAddress_86 : decode cX5_atAddress 86 = .ok (.goto (-51), 3) := by decide +kernel
theorem dX5_atAddress_89 : decode cX5_atAddress 89 = .ok (.iconst (-1), 1) := by decide +kernel
theorem dX5_atAddress_90 : decode cX5_atAddress 90 = .ok (.ireturn, 1) := by decide +kernel
theorem dX5_addressOf_0 : decode cX5_addressOf 0 = .ok (.iload_n 1, 1) := by decide +kernel
theorem dX5_addressOf_1 : decode cX5_addressOf 1 = .ok (.iconst (-1), 1) := by decide +kernel
theorem dX5_addressOf_2 : decode cX5_addressOf 2 = .ok (.if_icmp .ne 7, 3) := by decide +kernel
theorem dX5_addressOf_5 : decode cX5_addressOf 5 = .ok (.iconst 0, 1) := by decide +kernel
theorem dX5_addressOf_6 : decode cX5_addressOf 6 = .ok (.goto 24, 3) := by decide +kernel
theorem dX5_addressOf_9 : decode cX5_addressOf 9 = .ok (.sipush 1000, 3) := by decide +kernel
theorem dX5_addressOf_12 : decode cX5_addressOf 12 = .ok (.aload_n 0, 1) := by decide +kernel
theorem dX5_addressOf_13 : decode cX5_addressOf 13 = .ok (.iload_n 1, 1) := by decide +kernel
theorem dX5_addressOf_14 : decode cX5_addressOf 14 = .ok (.bipush 20, 2) := by decide +kernel
theorem dX5_addressOf_16 : decode cX5_addressOf 16 = .ok (.idiv, 1) := by decide +kernel
theorem dX5_addressOf_17 : decode cX5_addressOf 17 = .ok (.invokevirtual 159, 3) := by decide +kernel
theorem dX5_addressOf_20 : decode cX5_addressOf 20 = .ok (.iconst 1, 1) := by decide +kernel
theorem dX5_addressOf_21 : decode cX5_addressOf 21 = .ok (.iadd, 1) := by decide +kernel
theorem dX5_addressOf_22 : decode cX5_addressOf 22 = .ok (.imul, 1) := by decide +kernel
theorem dX5_addressOf_23 : decode cX5_addressOf 23 = .ok (.aload_n 0, 1) := by decide +kernel
theorem dX5_addressOf_24 : decode cX5_addressOf 24 = .ok (.getfield 22, 3) := by decide +kernel
theorem dX5_addressOf_27 : decode cX5_addressOf 27 = .ok (.iload_n 1, 1) := by decide +kernel
theorem dX5_addressOf_28 : decode cX5_addressOf 28 = .ok (.iaload, 1) := by decide +kernel
theorem dX5_addressOf_29 : decode cX5_addressOf 29 = .ok (.iadd, 1) := by decide +kernel
theorem dX5_addressOf_30 : decode cX5_addressOf 30 = .ok (.ireturn, 1) := by decide +kernel
theorem dX5_callName_0 : decode cX5_callName 0 = .ok (.bipush 64, 2) := by decide +kernel
theorem dX5_callName_2 : decode cX5_callName 2 = .ok (.aload_n 0, 1) := by decide +kernel
theorem dX5_callName_3 : decode cX5_callName 3 = .ok (.getfield 165, 3) := by decide +kernel
theorem dX5_callName_6 : decode cX5_callName 6 = .ok (.imul, 1) := by decide +kernel
theorem dX5_callName_7 : decode cX5_callName 7 = .ok (.iload_n 1, 1) := by decide +kernel
theorem dX5_callName_8 : decode cX5_callName 8 = .ok (.iadd, 1) := by decide +kernel
theorem dX5_callName_9 : decode cX5_callName 9 = .ok (.istore_n 2, 1) := by decide +kernel
theorem dX5_callName_10 : decode cX5_callName 10 = .ok (.aload_n 0, 1) := by decide +kernel
theorem dX5_callName_11 : decode cX5_callName 11 = .ok (.aload_n 0, 1) := by decide +kernel
theorem dX5_callName_12 : decode cX5_callName 12 = .ok (.getfield 44, 3) := by decide +kernel
theorem dX5_callName_15 : decode cX5_callName 15 = .ok (.aload_n 0, 1) := by decide +kernel
theorem dX5_callName_16 : decode cX5_callName 16 = .ok (.getfield 132, 3) := by decide +kernel
theorem dX5_callName_19 : decode cX5_callName 19 = .ok (.aload_n 0, 1) := by decide +kernel
theorem dX5_callName_20 : decode cX5_callName 20 = .ok (.getfield 165, 3) := by decide +kernel
theorem dX5_callName_23 : decode cX5_callName 23 = .ok (.iload_n 1, 1) := by decide +kernel
theorem dX5_callName_24 : decode cX5_callName 24 = .ok (.invokevirtual 121, 3) := by decide +kernel
theorem dX5_callName_27 : decode cX5_callName 27 = .ok (.istore_n 3, 1) := by decide +kernel
theorem dX5_callName_28 : decode cX5_callName 28 = .ok (.aload_n 0, 1) := by decide +kernel
