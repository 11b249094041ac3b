theorem dX3_init_0 : decode cX3_init 0 = .ok (.aload_n 0, 1) := by decide +kernel
theorem dX3_init_1 : decode cX3_init 1 = .ok (.invokespecial 3, 3) := by decide +kernel
theorem dX3_init_4 : decode cX3_init 4 = .ok (.aload_n 0, 1) := by decide +kernel
theorem dX3_init_5 : decode cX3_init 5 = .ok (.bipush 8, 2) := by decide +kernel
theorem dX3_init_7 : decode cX3_init 7 = .ok (.newarray .int, 2) := by decide +kernel
theorem dX3_init_9 : decode cX3_init 9 = .ok (.putfield 9, 3) := by decide +kernel
theorem dX3_init_12 : decode cX3_init 12 = .ok (.aload_n 0, 1) := by decide +kernel
theorem dX3_init_13 : decode cX3_init 13 = .ok (.bipush 60, 2) := by decide +kernel
theorem dX3_init_15 : decode cX3_init 15 = .ok (.newarray .int, 2) := by decide +kernel
theorem dX3_init_17 : decode cX3_init 17 = .ok (.putfield 15, 3) := by decide +kernel
theorem dX3_init_20 : decode cX3_init 20 = .ok (.aload_n 0, 1) := by decide +kernel
theorem dX3_init_21 : decode cX3_init 21 = .ok (.iconst 0, 1) := by decide +kernel
theorem dX3_init_22 : decode cX3_init 22 = .ok (.putfield 18, 3) := by decide +kernel
theorem dX3_init_25 : decode cX3_init 25 = .ok (.aload_n 0, 1) := by decide +kernel
theorem dX3_init_26 : decode cX3_init 26 = .ok (.iconst 0, 1) := by decide +kernel
theorem dX3_init_27 : decode cX3_init 27 = .ok (.putfield 22, 3) := by decide +kernel
theorem dX3_init_30 : decode cX3_init 30 = .ok (.aload_n 0, 1) := by decide +kernel
theorem dX3_init_31 : decode cX3_init 31 = .ok (.iconst 0, 1) := by decide +kernel
theorem dX3_init_32 : decode cX3_init 32 = .ok (.putfield 25, 3) := by decide +kernel
theorem dX3_init_35 : decode cX3_init 35 = .ok (.aload_n 0, 1) := by decide +kernel
theorem dX3_init_36 : decode cX3_init 36 = .ok (.iconst 0, 1) := by decide +kernel
theorem dX3_init_37 : decode cX3_init 37 = .ok (.putfield 28, 3) := by decide +kernel
theorem dX3_init_40 : decode cX3_init 40 = .ok (.aload_n 0, 1) := by decide +kernel
theorem dX3_init_41 : decode cX3_init 41 = .ok (.bipush 13, 2) := by decide +kernel
theorem dX3_init_43 : decode cX3_init 43 = .ok (.newarray .int, 2) := by decide +kernel
theorem dX3_init_45 : decode cX3_init 45 = .ok (.putfield 31, 3) := by decide +kernel
theorem dX3_init_48 : decode cX3_init 48 = .ok (.aload_n 0, 1) := by decide +kernel
theorem dX3_init_49 : decode cX3_init 49 = .ok (.bipush 13, 2) := by decide +kernel
theorem dX3_init_51 : decode cX3_init 51 = .ok (.newarray .int, 2) := by decide +kernel
theorem dX3_init_53 : decode cX3_init 53 = .ok (.putfield 34, 3) := by decide +kernel
theorem dX3_init_56 : decode cX3_init 56 = .ok (.aload_n 0, 1) := by decide +kernel
theorem dX3_init_57 : decode cX3_init 57 = .ok (.iconst 0, 1) := by decide +kernel
theorem dX3_init_58 : decode cX3_init 58 = .ok (.putfield 37, 3) := by decide +kernel
theorem dX3_init_61 : decode cX3_init 61 = .ok (.aload_n 0, 1) := by decide +kernel
theorem dX3_init_62 : decode cX3_init 62 = .ok (.iconst 0, 1) := by decide +kernel
theorem dX3_init_63 : decode cX3_init 63 = .ok (.putfield 40, 3) := by decide +kernel
theorem dX3_init_66 : decode cX3_init 66 = .ok (.aload_n 0, 1) := by decide +kernel
theorem dX3_init_67 : decode cX3_init 67 = .ok (.bipush 100, 2) := by decide +kernel
theorem dX3_init_69 : decode cX3_init 69 = .ok (.newarray .int, 2) := by decide +kernel
theorem dX3_init_71 : decode cX3_init 71 = .ok (.putfield 43, 3) := by decide +kernel
theorem dX3_init_74 : decode cX3_init 74 = .ok (.aload_n 0, 1) := by decide +kernel
theorem dX3_init_75 : decode cX3_init 75 = .ok (.bipush 100, 2) := by decide +kernel
theorem dX3_init_77 : decode cX3_init 77 = .ok (.newarray .int, 2) := by decide +kernel
theorem dX3_init_79 : decode cX3_init 79 = .ok (.putfield 46, 3) := by decide +kernel
theorem dX3_init_82 : decode cX3_init 82 = .ok (.aload_n 0, 1) := by decide +kernel
theorem dX3_init_83 : decode cX3_init 83 = .ok (.iconst 0, 1) := by decide +kernel
theorem dX3_init_84 : decode cX3_init 84 = .ok (.putfield 49, 3) := by decide +kernel
theorem dX3_init_87 : decode cX3_init 87 = .ok (.aload_n 0, 1) := by decide +kernel
theorem dX3_init_88 : decode cX3_init 88 = .ok (.iconst 0, 1) := by decide +kernel
theorem dX3_init_89 : decode cX3_init 89 = .ok (.putfield 52, 3) := by decide +kernel
theorem dX3_init_92 : decode cX3_init 92 = .ok (.aload_n 0, 1) := by decide +kernel
theorem dX3_init_93 : decode cX3_init 93 = .ok (.iconst 0, 1) := by decide +kernel
theorem dX3_init_94 : decode cX3_init 94 = .ok (.putfield 55, 3) := by decide +kernel
theorem dX3_init_97 : decode cX3_init 97 = .ok (.return_, 1) := by decide +kernel
theorem dX3_prepare_0 : decode cX3_prepare 0 = .ok (.aload_n 0, 1) := by decide +kernel
theorem dX3_prepare_1 : decode cX3_prepare 1 = .ok (.getfield 9, 3) := by decide +kernel
theorem dX3_prepare_4 : decode cX3_prepare 4 = .ok (.iconst 0, 1) := by decide +kernel
theorem dX3_prepare_5 : decode cX3_prepare 5 = .ok (.invokestatic 58, 3) := by decide +kernel
theorem dX3_prepare_8 : decode cX3_prepare 8 = .ok (.aload_n 0, 1) := by decide +kernel
theorem dX3_prepare_9 : decode cX3_prepare 9 = .ok (.iconst 0, 1) := by decide +kernel
theorem dX3_prepare_10 : decode cX3_prepare 10 = .ok (.putfield 18, 3) := by decide +kernel
theorem dX3_prepare_13 : decode cX3_prepare 13 = .ok (.aload_n 0, 1) := by decide +kernel
theorem dX3_prepare_14 : decode cX3_prepare 14 = .ok (.iconst 0, 1) := by decide +kernel
theorem dX3_prepare_15 : decode cX3_prepare 15 = .ok (.putfield 22, 3) := by decide +kernel
theorem dX3_prepare_18 : decode cX3_prepare 18 = .ok (.aload_n 0, 1) := by decide +kernel
theorem dX3_prepare_19 : decode cX3_prepare 19 = .ok (.iconst 0, 1) := by decide +kernel
theorem dX3_prepare_20 : decode cX3_prepare 20 = .ok (.putfield 25, 3) := by decide +kernel
theorem dX3_prepare_23 : decode cX3_prepare 23 = .ok (.aload_n 0, 1) := by decide +kernel
theorem dX3_prepare_24 : decode cX3_prepare 24 = .ok (.iconst 0, 1) := by decide +kernel
theorem dX3_prepare_25 : decode cX3_prepare 25 = .ok (.putfield 28, 3) := by decide +kernel
theorem dX3_prepare_28 : decode cX3_prepare 28 = .ok (.aload_n 0, 1) := by decide +kernel
theorem dX3_prepare_29 : decode cX3_prepare 29 = .ok (.iconst 0, 1) := by decide +kernel
theorem dX3_prepare_30 : decode cX3_prepare 30 = .ok (.putfield 49, 3) := by decide +kernel
theorem dX3_prepare_33 : decode cX3_prepare 33 = .ok (.aload_n 0, 1) := by decide +kernel
theorem dX3_prepare_34 : decode cX3_prepare 34 = .ok (.iconst 0, 1) := by decide +kernel
theorem dX3_prepare_35 : decode cX3_prepare 35 = .ok (.putfield 37, 3) := by decide +kernel
theorem dX3_prepare_38 : decode cX3_prepare 38 = .ok (.aload_n 0, 1) := by decide +kernel
theorem dX3_prepare_39 : decode cX3_prepare 39 = .ok (.iconst 0, 1) := by decide +kernel
theorem dX3_prepare_40 : decode cX3_prepare 40 = .ok (.putfield 40, 3) := by decide +kernel
theorem dX3_prepare_43 : decode cX3_prepare 43 = .ok (.iconst 0, 1) := by decide +kernel
theorem dX3_prepare_44 : decode cX3_prepare 44 = .ok (.istore_n 3, 1) := by decide +kernel
theorem dX3_prepare_45 : decode cX3_prepare 45 = .ok (.iload_n 3, 1) := by decide +kernel
theorem dX3_prepare_46 : decode cX3_prepare 46 = .ok (.aload_n 1, 1) := by decide +kernel
theorem dX3_prepare_47 : decode cX3_prepare 47 = .ok (.getfield 64, 3) := by decide +kernel
theorem dX3_prepare_50 : decode cX3_prepare 50 = .ok (.if_icmp .ge 34, 3) := by decide +kernel
theorem dX3_prepare_53 : decode cX3_prepare 53 = .ok (.aload_n 1, 1) := by decide +kernel
theorem dX3_prepare_54 : decode cX3_prepare 54 = .ok (.getfield 69, 3) := by decide +kernel
theorem dX3_prepare_57 : decode cX3_prepare 57 = .ok (.iload_n 3, 1) := by decide +kernel
theorem dX3_prepare_58 : decode cX3_prepare 58 = .ok (.iaload, 1) := by decide +kernel
theorem dX3_prepare_59 : decode cX3_prepare 59 = .ok (.istore 4, 2) := by decide +kernel
theorem dX3_prepare_61 : decode cX3_prepare 61 = .ok (.aload_n 0, 1) := by decide +kernel
theorem dX3_prepare_62 : decode cX3_prepare 62 = .ok (.aload_n 1, 1) := by decide +kernel
theorem dX3_prepare_63 : decode cX3_prepare 63 = .ok (.iload 4, 2) := by decide +kernel
theorem dX3_prepare_65 : decode cX3_prepare 65 = .ok (.aload_n 1, 1) := by decide +kernel
theorem dX3_prepare_66 : decode cX3_prepare 66 = .ok (.getfield 72, 3) := by decide +kernel
theorem dX3_prepare_69 : decode cX3_prepare 69 = .ok (.iload 4, 2) := by decide +kernel
theorem dX3_prepare_71 : decode cX3_prepare 71 = .ok (.aaload, 1) := by decide +kernel
theorem dX3_prepare_72 : decode cX3_prepare 72 = .ok (.getfield 76, 3) := by decide +kernel
theorem dX3_prepare_75 : decode cX3_prepare 75 = .ok (.invokevirtual 81, 3) := by decide +kernel
theorem dX3_prepare_78 : decode cX3_prepare 78 = .ok (.iinc 3 1, 3) := by decide +kernel
theorem dX3_prepare_81 : decode cX3_prepare 81 = .ok (.goto (-36), 3) := by decide +kernel
theorem dX3_prepare_84 : decode cX3_prepare 84 = .ok (.aload_n 0, 1) := by decide +kernel
theorem dX3_prepare_85 : decode cX3_prepare 85 = .ok (.aload_n 1, 1) := by decide +kernel
theorem dX3_prepare_86 : decode cX3_prepare 86 = .ok (.aload_n 1, 1) := by decide +kernel
theorem dX3_prepare_87 : decode cX3_prepare 87 = .ok (.getfield 85, 3) := by decide +kernel
theorem dX3_prepare_90 : decode cX3_prepare 90 = .ok (.iconst 0, 1) := by decide +kernel
theorem dX3_prepare_91 : decode cX3_prepare 91 = .ok (.iaload, 1) := by decide +kernel
theorem dX3_prepare_92 : decode cX3_prepare 92 = .ok (.iload_n 2, 1) := by decide +kernel
theorem dX3_prepare_93 : decode cX3_prepare 93 = .ok (.invokevirtual 81, 3) := by decide +kernel
theorem dX3_prepare_96 : decode cX3_prepare 96 = .ok (.return_, 1) := by decide +kernel
theorem dX3_addStart_0 : decode cX3_addStart 0 = .ok (.iload_n 3, 1) := by decide +kernel
theorem dX3_addStart_1 : decode cX3_addStart 1 = .ok (.iconst (-1), 1) := by decide +kernel
theorem dX3_addStart_2 : decode cX3_addStart 2 = .ok (.if_icmp .ne 8, 3) := by decide +kernel
theorem dX3_addStart_5 : decode cX3_addStart 5 = .ok (.bipush 20, 2) := by decide +kernel
theorem dX3_addStart_7 : decode cX3_addStart 7 = .ok (.goto 9, 3) := by decide +kernel
theorem dX3_addStart_10 : decode cX3_addStart 10 = .ok (.aload_n 1, 1) := by decide +kernel
theorem dX3_addStart_11 : decode cX3_addStart 11 = .ok (.iload_n 2, 1) := by decide +kernel
theorem dX3_addStart_12 : decode cX3_addStart 12 = .ok (.iload_n 3, 1) := by decide +kernel
theorem dX3_addStart_13 : decode cX3_addStart 13 = .ok (.invokevirtual 88, 3) := by decide +kernel
theorem dX3_addStart_16 : decode cX3_addStart 16 = .ok (.istore 4, 2) := by decide +kernel
theorem dX3_addStart_18 : decode cX3_addStart 18 = .ok (.aload_n 1, 1) := by decide +kernel
theorem dX3_addStart_19 : decode cX3_addStart 19 = .ok (.iload 4, 2) := by decide +kernel
theorem dX3_addStart_21 : decode cX3_addStart 21 = .ok (.invokevirtual 92, 3) := by decide +kernel
theorem dX3_addStart_24 : decode cX3_addStart 24 = .ok (.ifCond .eq 54, 3) := by decide +kernel
theorem dX3_addStart_27 : decode cX3_addStart 27 = .ok (.aload_n 0, 1) := by decide +kernel
theorem dX3_addStart_28 : decode cX3_addStart 28 = .ok (.getfield 37, 3) := by decide +kernel
theorem dX3_addStart_31 : decode cX3_addStart 31 = .ok (.bipush 12, 2) := by decide +kernel
theorem dX3_addStart_33 : decode cX3_addStart 33 = .ok (.if_icmp .gt 45, 3) := by decide +kernel
theorem dX3_addStart_36 : decode cX3_addStart 36 = .ok (.aload_n 0, 1) := by decide +kernel
theorem dX3_addStart_37 : decode cX3_addStart 37 = .ok (.getfield 31, 3) := by decide +kernel
theorem dX3_addStart_40 : decode cX3_addStart 40 = .ok (.aload_n 0, 1) := by decide +kernel
theorem dX3_addStart_41 : decode cX3_addStart 41 = .ok (.getfield 37, 3) := by decide +kernel
theorem dX3_addStart_44 : decode cX3_addStart 44 = .ok (.iload 4, 2) := by decide +kernel
theorem dX3_addStart_46 : decode cX3_addStart 46 = .ok (.iastore, 1) := by decide +kernel
theorem dX3_addStart_47 : decode cX3_addStart 47 = .ok (.aload_n 0, 1) := by decide +kernel
theorem dX3_addStart_48 : decode cX3_addStart 48 = .ok (.getfield 34, 3) := by decide +kernel
theorem dX3_addStart_51 : decode cX3_addStart 51 = .ok (.aload_n 0, 1) := by decide +kernel
theorem dX3_addStart_52 : decode cX3_addStart 52 = .ok (.getfield 37, 3) := by decide +kernel
theorem dX3_addStart_55 : decode cX3_addStart 55 = .ok (.aload_n 1, 1) := by decide +kernel
theorem dX3_addStart_56 : decode cX3_addStart 56 = .ok (.getfield 72, 3) := by decide +kernel
theorem dX3_addStart_59 : decode cX3_addStart 59 = .ok (.iload 4, 2) := by decide +kernel
theorem dX3_addStart_61 : decode cX3_addStart 61 = .ok (.aaload, 1) := by decide +kernel
theorem dX3_addStart_62 : decode cX3_addStart 62 = .ok (.getfield 96, 3) := by decide +kernel
theorem dX3_addStart_65 : decode cX3_addStart 65 = .ok (.iload_n 3, 1) := by decide +kernel
theorem dX3_addStart_66 : decode cX3_addStart 66 = .ok (.iaload, 1) := by decide +kernel
theorem dX3_addStart_67 : decode cX3_addStart 67 = .ok (.iastore, 1) := by decide +kernel
theorem dX3_addStart_68 : decode cX3_addStart 68 = .ok (.aload_n 0, 1) := by decide +kernel
theorem dX3_addStart_69 : decode cX3_addStart 69 = .ok (.dup, 1) := by decide +kernel
theorem dX3_addStart_70 : decode cX3_addStart 70 = .ok (.getfield 37, 3) := by decide +kernel
theorem dX3_addStart_73 : decode cX3_addStart 73 = .ok (.iconst 1, 1) := by decide +kernel
theorem dX3_addStart_74 : decode cX3_addStart 74 = .ok (.iadd, 1) := by decide +kernel
theorem dX3_addStart_75 : decode cX3_addStart 75 = .ok (.putfield 37, 3) := by decide +kernel
theorem dX3_addStart_78 : decode cX3_addStart 78 = .ok (.return_, 1) := by decide +kernel
theorem dX3_go_0 : decode cX3_go 0 = .ok (.aload_n 0, 1) := by decide +kernel
theorem dX3_go_1 : decode cX3_go 1 = .ok (.invokevirtual 99, 3) := by decide +kernel
theorem dX3_go_4 : decode cX3_go 4 = .ok (.istore_n 3, 1) := by decide +kernel
theorem dX3_go_5 : decode cX3_go 5 = .ok (.iconst 0, 1) := by decide +kernel
theorem dX3_go_6 : decode cX3_go 6 = .ok (.istore 4, 2) := by decide +kernel
theorem dX3_go_8 : decode cX3_go 8 = .ok (.iload 4, 2) := by decide +kernel
theorem dX3_go_10 : decode cX3_go 10 = .ok (.iload_n 2, 1) := by decide +kernel
theorem dX3_go_11 : decode cX3_go 11 = .ok (.if_icmp .gt 21, 3) := by decide +kernel
theorem dX3_go_14 : decode cX3_go 14 = .ok (.iload_n 3, 1) := by decide +kernel
theorem dX3_go_15 : decode cX3_go 15 = .ok (.iconst (-1), 1) := by decide +kernel
theorem dX3_go_16 : decode cX3_go 16 = .ok (.if_icmp .ne 16, 3) := by decide +kernel
theorem dX3_go_19 : decode cX3_go 19 = .ok (.aload_n 0, 1) := by decide +kernel
theorem dX3_go_20 : decode cX3_go 20 = .ok (.aload_n 1, 1) := by decide +kernel
theorem dX3_go_21 : decode cX3_go 21 = .ok (.iload_n 2, 1) := by decide +kernel
theorem dX3_go_22 : decode cX3_go 22 = .ok (.invokevirtual 103, 3) := by decide +kernel
theorem dX3_go_25 : decode cX3_go 25 = .ok (.istore_n 3, 1) := by decide +kernel
theorem dX3_go_26 : decode cX3_go 26 = .ok (.iinc 4 1, 3) := by decide +kernel
theorem dX3_go_29 : decode cX3_go 29 = .ok (.goto (-21), 3) := by decide +kernel
theorem dX3_go_32 : decode cX3_go 32 = .ok (.iload_n 3, 1) := by decide +kernel
theorem dX3_go_33 : decode cX3_go 33 = .ok (.ireturn, 1) := by decide +kernel
theorem dX3_takeTurn_0 : decode cX3_takeTurn 0 = .ok (.aload_n 1, 1) := by decide +kernel
theorem dX3_takeTurn_1 : decode cX3_takeTurn 1 = .ok (.getfield 72, 3) := by decide +kernel
theorem dX3_takeTurn_4 : decode cX3_takeTurn 4 = .ok (.aload_n 0, 1) := by decide +kernel
theorem dX3_takeTurn_5 : decode cX3_takeTurn 5 = .ok (.getfield 52, 3) := by decide +kernel
theorem dX3_takeTurn_8 : decode cX3_takeTurn 8 = .ok (.aaload, 1) := by decide +kernel
theorem dX3_takeTurn_9 : decode cX3_takeTurn 9 = .ok (.astore_n 3, 1) := by decide +kernel
theorem dX3_takeTurn_10 : decode cX3_takeTurn 10 = .ok (.aload_n 0, 1) := by decide +kernel
theorem dX3_takeTurn_11 : decode cX3_takeTurn 11 = .ok (.getfield 55, 3) := by decide +kernel
theorem dX3_takeTurn_14 : decode cX3_takeTurn 14 = .ok (.aload_n 3, 1) := by decide +kernel
theorem dX3_takeTurn_15 : decode cX3_takeTurn 15 = .ok (.getfield 107, 3) := by decide +kernel
theorem dX3_takeTurn_18 : decode cX3_takeTurn 18 = .ok (.if_icmp .lt 5, 3) := by decide +kernel
theorem dX3_takeTurn_21 : decode cX3_takeTurn 21 = .ok (.iconst 4, 1) := by decide +kernel
theorem dX3_takeTurn_22 : decode cX3_takeTurn 22 = .ok (.ireturn, 1) := by decide +kernel
theorem dX3_takeTurn_23 : decode cX3_takeTurn 23 = .ok (.aload_n 0, 1) := by decide +kernel
theorem dX3_takeTurn_24 : decode cX3_takeTurn 24 = .ok (.getfield 18, 3) := by decide +kernel
theorem dX3_takeTurn_27 : decode cX3_takeTurn 27 = .ok (.iload_n 2, 1) := by decide +kernel
theorem dX3_takeTurn_28 : decode cX3_takeTurn 28 = .ok (.if_icmp .lt 5, 3) := by decide +kernel
theorem dX3_takeTurn_31 : decode cX3_takeTurn 31 = .ok (.iconst 1, 1) := by decide +kernel
theorem dX3_takeTurn_32 : decode cX3_takeTurn 32 = .ok (.ireturn, 1) := by decide +kernel
theorem dX3_takeTurn_33 : decode cX3_takeTurn 33 = .ok (.aload_n 0, 1) := by decide +kernel
theorem dX3_takeTurn_34 : decode cX3_takeTurn 34 = .ok (.dup, 1) := by decide +kernel
theorem dX3_takeTurn_35 : decode cX3_takeTurn 35 = .ok (.getfield 18, 3) := by decide +kernel
theorem dX3_takeTurn_38 : decode cX3_takeTurn 38 = .ok (.iconst 1, 1) := by decide +kernel
theorem dX3_takeTurn_39 : decode cX3_takeTurn 39 = .ok (.iadd, 1) := by decide +kernel
theorem dX3_takeTurn_40 : decode cX3_takeTurn 40 = .ok (.putfield 18, 3) := by decide +kernel
theorem dX3_takeTurn_43 : decode cX3_takeTurn 43 = .ok (.aload_n 0, 1) := by decide +kernel
theorem dX3_takeTurn_44 : decode cX3_takeTurn 44 = .ok (.getfield 55, 3) := by decide +kernel
theorem dX3_takeTurn_47 : decode cX3_takeTurn 47 = .ok (.istore 4, 2) := by decide +kernel
theorem dX3_takeTurn_49 : decode cX3_takeTurn 49 = .ok (.aload_n 0, 1) := by decide +kernel
theorem dX3_takeTurn_50 : decode cX3_takeTurn 50 = .ok (.dup, 1) := by decide +kernel
theorem dX3_takeTurn_51 : decode cX3_takeTurn 51 = .ok (.getfield 55, 3) := by decide +kernel
theorem dX3_takeTurn_54 : decode cX3_takeTurn 54 = .ok (.iconst 1, 1) := by decide +kernel
theorem dX3_takeTurn_55 : decode cX3_takeTurn 55 = .ok (.iadd, 1) := by decide +kernel
theorem dX3_takeTurn_56 : decode cX3_takeTurn 56 = .ok (.putfield 55, 3) := by decide +kernel
theorem dX3_takeTurn_59 : decode cX3_takeTurn 59 = .ok (.aload_n 3, 1) := by decide +kernel
theorem dX3_takeTurn_60 : decode cX3_takeTurn 60 = .ok (.getfield 110, 3) := by decide +kernel
theorem dX3_takeTurn_63 : decode cX3_takeTurn 63 = .ok (.iload 4, 2) := by decide +kernel
theorem dX3_takeTurn_65 : decode cX3_takeTurn 65 = .ok (.iaload, 1) := by decide +kernel
theorem dX3_takeTurn_66 : decode cX3_takeTurn 66 = .ok (.istore 5, 2) := by decide +kernel
theorem dX3_takeTurn_68 : decode cX3_takeTurn 68 = .ok (.aload_n 0, 1) := by decide +kernel
theorem dX3_takeTurn_69 : decode cX3_takeTurn 69 = .ok (.aload_n 1, 1) := by decide +kernel
theorem dX3_takeTurn_70 : decode cX3_takeTurn 70 = .ok (.iload 5, 2) := by decide +kernel
theorem dX3_takeTurn_72 : decode cX3_takeTurn 72 = .ok (.aload_n 3, 1) := by decide +kernel
theorem dX3_takeTurn_73 : decode cX3_takeTurn 73 = .ok (.getfield 113, 3) := by decide +kernel
theorem dX3_takeTurn_76 : decode cX3_takeTurn 76 = .ok (.iload 4, 2) := by decide +kernel
theorem dX3_takeTurn_78 : decode cX3_takeTurn 78 = .ok (.iaload, 1) := by decide +kernel
theorem dX3_takeTurn_79 : decode cX3_takeTurn 79 = .ok (.aload_n 3, 1) := by decide +kernel
theorem dX3_takeTurn_80 : decode cX3_takeTurn 80 = .ok (.getfield 116, 3) := by decide +kernel
theorem dX3_takeTurn_83 : decode cX3_takeTurn 83 = .ok (.iload 4, 2) := by decide +kernel
theorem dX3_takeTurn_85 : decode cX3_takeTurn 85 = .ok (.iaload, 1) := by decide +kernel
theorem dX3_takeTurn_86 : decode cX3_takeTurn 86 = .ok (.aload_n 3, 1) := by decide +kernel
theorem dX3_takeTurn_87 : decode cX3_takeTurn 87 = .ok (.getfield 119, 3) := by decide +kernel
theorem dX3_takeTurn_90 : decode cX3_takeTurn 90 = .ok (.iload 4, 2) := by decide +kernel
theorem dX3_takeTurn_92 : decode cX3_takeTurn 92 = .ok (.iaload, 1) := by decide +kernel
theorem dX3_takeTurn_93 : decode cX3_takeTurn 93 = .ok (.invokevirtual 122, 3) := by decide +kernel
theorem dX3_takeTurn_96 : decode cX3_takeTurn 96 = .ok (.ireturn, 1) := by decide +kernel
theorem dX3_makeStep_0 : decode cX3_makeStep 0 = .ok (.iload_n 2, 1) := by decide +kernel
theorem dX3_makeStep_1 : decode cX3_makeStep 1 = .ok (.tableswitch 133 7 14 #[47, 73, 88, 103, 54, 66, 121, 71], 47) := by decide +kernel
theorem dX3_makeStep_48 : decode cX3_makeStep 48 = .ok (.aload_n 0, 1) := by decide +kernel
theorem dX3_makeStep_49 : decode cX3_makeStep 49 = .ok (.aload_n 1, 1) := by decide +kernel
theorem dX3_makeStep_50 : decode cX3_makeStep 50 = .ok (.iload_n 3, 1) := by decide +kernel
theorem dX3_makeStep_51 : decode cX3_makeStep 51 = .ok (.invokevirtual 126, 3) := by decide +kernel
theorem dX3_makeStep_54 : decode cX3_makeStep 54 = .ok (.ireturn, 1) := by decide +kernel
theorem dX3_makeStep_55 : decode cX3_makeStep 55 = .ok (.aload_n 0, 1) := by decide +kernel
theorem dX3_makeStep_56 : decode cX3_makeStep 56 = .ok (.aload_n 1, 1) := by decide +kernel
theorem dX3_makeStep_57 : decode cX3_makeStep 57 = .ok (.aload_n 0, 1) := by decide +kernel
theorem dX3_makeStep_58 : decode cX3_makeStep 58 = .ok (.getfield 9, 3) := by decide +kernel
theorem dX3_makeStep_61 : decode cX3_makeStep 61 = .ok (.iload_n 3, 1) := by decide +kernel
theorem dX3_makeStep_62 : decode cX3_makeStep 62 = .ok (.iaload, 1) := by decide +kernel
theorem dX3_makeStep_63 : decode cX3_makeStep 63 = .ok (.invokevirtual 129, 3) := by decide +kernel
theorem dX3_makeStep_66 : decode cX3_makeStep 66 = .ok (.ireturn, 1) := by decide +kernel
theorem dX3_makeStep_67 : decode cX3_makeStep 67 = .ok (.aload_n 0, 1) := by decide +kernel
theorem dX3_makeStep_68 : decode cX3_makeStep 68 = .ok (.invokevirtual 132, 3) := by decide +kernel
theorem dX3_makeStep_71 : decode cX3_makeStep 71 = .ok (.ireturn, 1) := by decide +kernel
theorem dX3_makeStep_72 : decode cX3_makeStep 72 = .ok (.iconst 0, 1) := by decide +kernel
theorem dX3_makeStep_73 : decode cX3_makeStep 73 = .ok (.ireturn, 1) := by decide +kernel
theorem dX3_makeStep_74 : decode cX3_makeStep 74 = .ok (.aload_n 0, 1) := by decide +kernel
theorem dX3_makeStep_75 : decode cX3_makeStep 75 = .ok (.getfield 9, 3) := by decide +kernel
theorem dX3_makeStep_78 : decode cX3_makeStep 78 = .ok (.iload_n 3, 1) := by decide +kernel
theorem dX3_makeStep_79 : decode cX3_makeStep 79 = .ok (.aload_n 0, 1) := by decide +kernel
theorem dX3_makeStep_80 : decode cX3_makeStep 80 = .ok (.aload_n 1, 1) := by decide +kernel
theorem dX3_makeStep_81 : decode cX3_makeStep 81 = .ok (.iload 4, 2) := by decide +kernel
theorem dX3_makeStep_83 : decode cX3_makeStep 83 = .ok (.invokevirtual 135, 3) := by decide +kernel
theorem dX3_makeStep_86 : decode cX3_makeStep 86 = .ok (.iastore, 1) := by decide +kernel
theorem dX3_makeStep_87 : decode cX3_makeStep 87 = .ok (.iconst (-1), 1) := by decide +kernel
theorem dX3_makeStep_88 : decode cX3_makeStep 88 = .ok (.ireturn, 1) := by decide +kernel
theorem dX3_makeStep_89 : decode cX3_makeStep 89 = .ok (.aload_n 0, 1) := by decide +kernel
theorem dX3_makeStep_90 : decode cX3_makeStep 90 = .ok (.aload_n 1, 1) := by decide +kernel
theorem dX3_makeStep_91 : decode cX3_makeStep 91 = .ok (.iload_n 3, 1) := by decide +kernel
theorem dX3_makeStep_92 : decode cX3_makeStep 92 = .ok (.aload_n 0, 1) := by decide +kernel
theorem dX3_makeStep_93 : decode cX3_makeStep 93 = .ok (.getfield 9, 3) := by decide +kernel
theorem dX3_makeStep_96 : decode cX3_makeStep 96 = .ok (.iload 4, 2) := by decide +kernel
theorem dX3_makeStep_98 : decode cX3_makeStep 98 = .ok (.iaload, 1) := by decide +kernel
theorem dX3_makeStep_99 : decode cX3_makeStep 99 = .ok (.invokevirtual 138, 3) := by decide +kernel
theorem dX3_makeStep_102 : decode cX3_makeStep 102 = .ok (.iconst (-1), 1) := by decide +kernel
theorem dX3_makeStep_103 : decode cX3_makeStep 103 = .ok (.ireturn, 1) := by decide +kernel
theorem dX3_makeStep_104 : decode cX3_makeStep 104 = .ok (.aload_n 0, 1) := by decide +kernel
theorem dX3_makeStep_105 : decode cX3_makeStep 105 = .ok (.getfield 9, 3) := by decide +kernel
theorem dX3_makeStep_108 : decode cX3_makeStep 108 = .ok (.iload_n 3, 1) := by decide +kernel
theorem dX3_makeStep_109 : decode cX3_makeStep 109 = .ok (.aload_n 1, 1) := by decide +kernel
theorem dX3_makeStep_110 : decode cX3_makeStep 110 = .ok (.aload_n 0, 1) := by decide +kernel
theorem dX3_makeStep_111 : decode cX3_makeStep 111 = .ok (.getfield 52, 3) := by decide +kernel
theorem dX3_makeStep_114 : decode cX3_makeStep 114 = .ok (.iload 4, 2) := by decide +kernel
theorem dX3_makeStep_116 : decode cX3_makeStep 116 = .ok (.invokevirtual 141, 3) := by decide +kernel
theorem dX3_makeStep_119 : decode cX3_makeStep 119 = .ok (.iastore, 1) := by decide +kernel
theorem dX3_makeStep_120 : decode cX3_makeStep 120 = .ok (.iconst (-1), 1) := by decide +kernel
theorem dX3_makeStep_121 : decode cX3_makeStep 121 = .ok (.ireturn, 1) := by decide +kernel
theorem dX3_makeStep_122 : decode cX3_makeStep 122 = .ok (.aload_n 0, 1) := by decide +kernel
theorem dX3_makeStep_123 : decode cX3_makeStep 123 = .ok (.aload_n 0, 1) := by decide +kernel
theorem dX3_makeStep_124 : decode cX3_makeStep 124 = .ok (.getfield 9, 3) := by decide +kernel
theorem dX3_makeStep_127 : decode cX3_makeStep 127 = .ok (.iload_n 3, 1) := by decide +kernel
theorem dX3_makeStep_128 : decode cX3_makeStep 128 = .ok (.iaload, 1) := by decide +kernel
theorem dX3_makeStep_129 : decode cX3_makeStep 129 = .ok (.invokevirtual 144, 3) := by decide +kernel
theorem dX3_makeStep_132 : decode cX3_makeStep 132 = .ok (.iconst (-1), 1) := by decide +kernel
theorem dX3_makeStep_133 : decode cX3_makeStep 133 = .ok (.ireturn, 1) := by decide +kernel
theorem dX3_makeStep_134 : decode cX3_makeStep 134 = .ok (.aload_n 0, 1) := by decide +kernel
theorem dX3_makeStep_135 : decode cX3_makeStep 135 = .ok (.iload_n 2, 1) := by decide +kernel
theorem dX3_makeStep_136 : decode cX3_makeStep 136 = .ok (.iload_n 3, 1) := by decide +kernel
theorem dX3_makeStep_137 : decode cX3_makeStep 137 = .ok (.iload 4, 2) := by decide +kernel
theorem dX3_makeStep_139 : decode cX3_makeStep 139 = .ok (.iload 5, 2) := by decide +kernel
theorem dX3_makeStep_141 : decode cX3_makeStep 141 = .ok (.invokevirtual 148, 3) := by decide +kernel
theorem dX3_makeStep_144 : decode cX3_makeStep 144 = .ok (.iconst (-1), 1) := by decide +kernel
theorem dX3_makeStep_145 : decode cX3_makeStep 145 = .ok (.ireturn, 1) := by decide +kernel
theorem dX3_reckon_0 : decode cX3_reckon 0 = .ok (.iload_n 1, 1) := by decide +kernel
theorem dX3_reckon_1 : decode cX3_reckon 1 = .ok (.tableswitch 169 0 6 #[43, 53, 68, 91, 114, 137, 161], 43) := by decide +kernel
theorem dX3_reckon_44 : decode cX3_reckon 44 = .ok (.aload_n 0, 1) := by decide +kernel
theorem dX3_reckon_45 : decode cX3_reckon 45 = .ok (.getfield 9, 3) := by decide +kernel
theorem dX3_reckon_48 : decode cX3_reckon 48 = .ok (.iload_n 2, 1) := by decide +kernel
theorem dX3_reckon_49 : decode cX3_reckon 49 = .ok (.iload_n 3, 1) := by decide +kernel
theorem dX3_reckon_50 : decode cX3_reckon 50 = .ok (.iastore, 1) := by decide +kernel
theorem dX3_reckon_51 : decode cX3_reckon 51 = .ok (.goto 119, 3) := by decide +kernel
theorem dX3_reckon_54 : decode cX3_reckon 54 = .ok (.aload_n 0, 1) := by decide +kernel
theorem dX3_reckon_55 : decode cX3_reckon 55 = .ok (.getfield 9, 3) := by decide +kernel
theorem dX3_reckon_58 : decode cX3_reckon 58 = .ok (.iload_n 2, 1) := by decide +kernel
theorem dX3_reckon_59 : decode cX3_reckon 59 = .ok (.aload_n 0, 1) := by decide +kernel
theorem dX3_reckon_60 : decode cX3_reckon 60 = .ok (.getfield 9, 3) := by decide +kernel
theorem dX3_reckon_63 : decode cX3_reckon 63 = .ok (.iload_n 3, 1) := by decide +kernel
theorem dX3_reckon_64 : decode cX3_reckon 64 = .ok (.iaload, 1) := by decide +kernel
theorem dX3_reckon_65 : decode cX3_reckon 65 = .ok (.iastore, 1) := by decide +kernel
theorem dX3_reckon_66 : decode cX3_reckon 66 = .ok (.goto 104, 3) := by decide +kernel
theorem dX3_reckon_69 : decode cX3_reckon 69 = .ok (.aload_n 0, 1) := by decide +kernel
theorem dX3_reckon_70 : decode cX3_reckon 70 = .ok (.getfield 9, 3) := by decide +kernel
theorem dX3_reckon_73 : decode cX3_reckon 73 = .ok (.iload_n 2, 1) := by decide +kernel
theorem dX3_reckon_74 : decode cX3_reckon 74 = .ok (.aload_n 0, 1) := by decide +kernel
theorem dX3_reckon_75 : decode cX3_reckon 75 = .ok (.getfield 9, 3) := by decide +kernel
theorem dX3_reckon_78 : decode cX3_reckon 78 = .ok (.iload_n 3, 1) := by decide +kernel
theorem dX3_reckon_79 : decode cX3_reckon 79 = .ok (.iaload, 1) := by decide +kernel
theorem dX3_reckon_80 : decode cX3_reckon 80 = .ok (.aload_n 0, 1) := by decide +kernel
theorem dX3_reckon_81 : decode cX3_reckon 81 = .ok (.getfield 9, 3) := by decide +kernel
theorem dX3_reckon_84 : decode cX3_reckon 84 = .ok (.iload 4, 2) := by decide +kernel
theorem dX3_reckon_86 : decode cX3_reckon 86 = .ok (.iaload, 1) := by decide +kernel
theorem dX3_reckon_87 : decode cX3_reckon 87 = .ok (.iadd, 1) := by decide +kernel
theorem dX3_reckon_88 : decode cX3_reckon 88 = .ok (.iastore, 1) := by decide +kernel
theorem dX3_reckon_89 : decode cX3_reckon 89 = .ok (.goto 81, 3) := by decide +kernel
theorem dX3_reckon_92 : decode cX3_reckon 92 = .ok (.aload_n 0, 1) := by decide +kernel
theorem dX3_reckon_93 : decode cX3_reckon 93 = .ok (.getfield 9, 3) := by decide +kernel
theorem dX3_reckon_96 : decode cX3_reckon 96 = .ok (.iload_n 2, 1) := by decide +kernel
theorem dX3_reckon_97 : decode cX3_reckon 97 = .ok (.aload_n 0, 1) := by decide +kernel
theorem dX3_reckon_98 : decode cX3_reckon 98 = .ok (.getfield 9, 3) := by decide +kernel
theorem dX3_reckon_101 : decode cX3_reckon 101 = .ok (.iload_n 3, 1) := by decide +kernel
theorem dX3_reckon_102 : decode cX3_reckon 102 = .ok (.iaload, 1) := by decide +kernel
theorem dX3_reckon_103 : decode cX3_reckon 103 = .ok (.aload_n 0, 1) := by decide +kernel
theorem dX3_reckon_104 : decode cX3_reckon 104 = .ok (.getfield 9, 3) := by decide +kernel
theorem dX3_reckon_107 : decode cX3_reckon 107 = .ok (.iload 4, 2) := by decide +kernel
theorem dX3_reckon_109 : decode cX3_reckon 109 = .ok (.iaload, 1) := by decide +kernel
theorem dX3_reckon_110 : decode cX3_reckon 110 = .ok (.isub, 1) := by decide +kernel
theorem dX3_reckon_111 : decode cX3_reckon 111 = .ok (.iastore, 1) := by decide +kernel
theorem dX3_reckon_112 : decode cX3_reckon 112 = .ok (.goto 58, 3) := by decide +kernel
theorem dX3_reckon_115 : decode cX3_reckon 115 = .ok (.aload_n 0, 1) := by decide +kernel
theorem dX3_reckon_116 : decode cX3_reckon 116 = .ok (.getfield 9, 3) := by decide +kernel
theorem dX3_reckon_119 : decode cX3_reckon 119 = .ok (.iload_n 2, 1) := by decide +kernel
theorem dX3_reckon_120 : decode cX3_reckon 120 = .ok (.aload_n 0, 1) := by decide +kernel
theorem dX3_reckon_121 : decode cX3_reckon 121 = .ok (.getfield 9, 3) := by decide +kernel
theorem dX3_reckon_124 : decode cX3_reckon 124 = .ok (.iload_n 3, 1) := by decide +kernel
theorem dX3_reckon_125 : decode cX3_reckon 125 = .ok (.iaload, 1) := by decide +kernel
theorem dX3_reckon_126 : decode cX3_reckon 126 = .ok (.aload_n 0, 1) := by decide +kernel
theorem dX3_reckon_127 : decode cX3_reckon 127 = .ok (.getfield 9, 3) := by decide +kernel
theorem dX3_reckon_130 : decode cX3_reckon 130 = .ok (.iload 4, 2) := by decide +kernel
theorem dX3_reckon_132 : decode cX3_reckon 132 = .ok (.iaload, 1) := by decide +kernel
theorem dX3_reckon_133 : decode cX3_reckon 133 = .ok (.imul, 1) := by decide +kernel
theorem dX3_reckon_134 : decode cX3_reckon 134 = .ok (.iastore, 1) := by decide +kernel
theorem dX3_reckon_135 : decode cX3_reckon 135 = .ok (.goto 35, 3) := by decide +kernel
theorem dX3_reckon_138 : decode cX3_reckon 138 = .ok (.aload_n 0, 1) := by decide +kernel
theorem dX3_reckon_139 : decode cX3_reckon 139 = .ok (.getfield 9, 3) := by decide +kernel
theorem dX3_reckon_142 : decode cX3_reckon 142 = .ok (.iload_n 2, 1) := by decide +kernel
theorem dX3_reckon_143 : decode cX3_reckon 143 = .ok (.iaload, 1) := by decide +kernel
theorem dX3_reckon_144 : decode cX3_reckon 144 = .ok (.aload_n 0, 1) := by decide +kernel
theorem dX3_reckon_145 : decode cX3_reckon 145 = .ok (.getfield 9, 3) := by decide +kernel
theorem dX3_reckon_148 : decode cX3_reckon 148 = .ok (.iload_n 3, 1) := by decide +kernel
theorem dX3_reckon_149 : decode cX3_reckon 149 = .ok (.iaload, 1) := by decide +kernel
theorem dX3_reckon_150 : decode cX3_reckon 150 = .ok (.if_icmp .ge 20, 3) := by decide +kernel
theorem dX3_reckon_153 : decode cX3_reckon 153 = .ok (.aload_n 0, 1) := by decide +kernel
theorem dX3_reckon_154 : decode cX3_reckon 154 = .ok (.iload 4, 2) := by decide +kernel
theorem dX3_reckon_156 : decode cX3_reckon 156 = .ok (.putfield 55, 3) := by decide +kernel
theorem dX3_reckon_159 : decode cX3_reckon 159 = .ok (.goto 11, 3) := by decide +kernel
theorem dX3_reckon_162 : decode cX3_reckon 162 = .ok (.aload_n 0, 1) := by decide +kernel
theorem dX3_reckon_163 : decode cX3_reckon 163 = .ok (.iload_n 2, 1) := by decide +kernel
theorem dX3_reckon_164 : decode cX3_reckon 164 = .ok (.putfield 55, 3) := by decide +kernel
theorem dX3_reckon_167 : decode cX3_reckon 167 = .ok (.goto 3, 3) := by decide +kernel
theorem dX3_reckon_170 : decode cX3_reckon 170 = .ok (.return_, 1) := by decide +kernel
theorem dX3_callName_0 : decode cX3_callName 0 = .ok (.aload_n 1, 1) := by decide +kernel
theorem dX3_callName_1 : decode cX3_callName 1 = .ok (.getfield 72, 3) := by decide +kernel
theorem dX3_callName_4 : decode cX3_callName 4 = .ok (.aload_n 0, 1) := by decide +kernel
theorem dX3_callName_5 : decode cX3_callName 5 = .ok (.getfield 52, 3) := by decide +kernel
theorem dX3_callName_8 : decode cX3_callName 8 = .ok (.aaload, 1) := by decide +kernel
theorem dX3_callName_9 : decode cX3_callName 9 = .ok (.getfield 152, 3) := by decide +kernel
theorem dX3_callName_12 : decode cX3_callName 12 = .ok (.astore_n 3, 1) := by decide +kernel
theorem dX3_callName_13 : decode cX3_callName 13 = .ok (.aload_n 3, 1) := by decide +kernel
theorem dX3_callName_14 : decode cX3_callName 14 = .ok (.iload_n 2, 1) := by decide +kernel
theorem dX3_callName_15 : decode cX3_callName 15 = .ok (.iaload, 1) := by decide +kernel
theorem dX3_callName_16 : decode cX3_callName 16 = .ok (.bipush 21, 2) := by decide +kernel
theorem dX3_callName_18 : decode cX3_callName 18 = .ok (.if_icmp .ne 25, 3) := by decide +kernel
theorem dX3_callName_21 : decode cX3_callName 21 = .ok (.aload_n 3, 1) := by decide +kernel
theorem dX3_callName_22 : decode cX3_callName 22 = .ok (.iload_n 2, 1) := by decide +kernel
theorem dX3_callName_23 : decode cX3_callName 23 = .ok (.aload_n 1, 1) := by decide +kernel
theorem dX3_callName_24 : decode cX3_callName 24 = .ok (.aload_n 0, 1) := by decide +kernel
theorem dX3_callName_25 : decode cX3_callName 25 = .ok (.getfield 52, 3) := by decide +kernel
theorem dX3_callName_28 : decode cX3_callName 28 = .ok (.iload_n 2, 1) := by decide +kernel
theorem dX3_callName_29 : decode cX3_callName 29 = .ok (.invokevirtual 88, 3) := by decide +kernel
theorem dX3_callName_32 : decode cX3_callName 32 = .ok (.iastore, 1) := by decide +kernel
theorem dX3_callName_33 : decode cX3_callName 33 = .ok (.aload_n 0, 1) := by decide +kernel
theorem dX3_callName_34 : decode cX3_callName 34 = .ok (.dup, 1) := by decide +kernel
theorem dX3_callName_35 : decode cX3_callName 35 = .ok (.getfield 25, 3) := by decide +kernel
theorem dX3_callName_38 : decode cX3_callName 38 = .ok (.iconst 1, 1) := by decide +kernel
theorem dX3_callName_39 : decode cX3_callName 39 = .ok (.iadd, 1) := by decide +kernel
theorem dX3_callName_40 : decode cX3_callName 40 = .ok (.putfield 25, 3) := by decide +kernel
theorem dX3_callName_43 : decode cX3_callName 43 = .ok (.aload_n 3, 1) := by decide +kernel
theorem dX3_callName_44 : decode cX3_callName 44 = .ok (.iload_n 2, 1) := by decide +kernel
theorem dX3_callName_45 : decode cX3_callName 45 = .ok (.iaload, 1) := by decide +kernel
theorem dX3_callName_46 : decode cX3_callName 46 = .ok (.istore 4, 2) := by decide +kernel
theorem dX3_callName_48 : decode cX3_callName 48 = .ok (.aload_n 1, 1) := by decide +kernel
theorem dX3_callName_49 : decode cX3_callName 49 = .ok (.iload 4, 2) := by decide +kernel
theorem dX3_callName_51 : decode cX3_callName 51 = .ok (.invokevirtual 92, 3) := by decide +kernel
theorem dX3_callName_54 : decode cX3_callName 54 = .ok (.ifCond .eq 24, 3) := by decide +kernel
theorem dX3_callName_57 : decode cX3_callName 57 = .ok (.aload_n 0, 1) := by decide +kernel
theorem dX3_callName_58 : decode cX3_callName 58 = .ok (.iload 4, 2) := by decide +kernel
theorem dX3_callName_60 : decode cX3_callName 60 = .ok (.aload_n 1, 1) := by decide +kernel
theorem dX3_callName_61 : decode cX3_callName 61 = .ok (.getfield 72, 3) := by decide +kernel
theorem dX3_callName_64 : decode cX3_callName 64 = .ok (.iload 4, 2) := by decide +kernel
theorem dX3_callName_66 : decode cX3_callName 66 = .ok (.aaload, 1) := by decide +kernel
theorem dX3_callName_67 : decode cX3_callName 67 = .ok (.getfield 96, 3) := by decide +kernel
theorem dX3_callName_70 : decode cX3_callName 70 = .ok (.iload_n 2, 1) := by decide +kernel
theorem dX3_callName_71 : decode cX3_callName 71 = .ok (.iaload, 1) := by decide +kernel
theorem dX3_callName_72 : decode cX3_callName 72 = .ok (.invokevirtual 155, 3) := by decide +kernel
theorem dX3_callName_75 : decode cX3_callName 75 = .ok (.goto 4, 3) := by decide +kernel
theorem dX3_callName_78 : decode cX3_callName 78 = .ok (.iconst 3, 1) := by decide +kernel
theorem dX3_callName_79 : decode cX3_callName 79 = .ok (.ireturn, 1) := by decide +kernel
theorem dX3_callAt_0 : decode cX3_callAt 0 = .ok (.iload_n 2, 1) := by decide +kernel
theorem dX3_callAt_1 : decode cX3_callAt 1 = .ok (.sipush 1000, 3) := by decide +kernel
theorem dX3_callAt_4 : decode cX3_callAt 4 = .ok (.idiv, 1) := by decide +kernel
theorem dX3_callAt_5 : decode cX3_callAt 5 = .ok (.iconst 1, 1) := by decide +kernel
theorem dX3_callAt_6 : decode cX3_callAt 6 = .ok (.isub, 1) := by decide +kernel
theorem dX3_callAt_7 : decode cX3_callAt 7 = .ok (.istore_n 3, 1) := by decide +kernel
theorem dX3_callAt_8 : decode cX3_callAt 8 = .ok (.iload_n 2, 1) := by decide +kernel
theorem dX3_callAt_9 : decode cX3_callAt 9 = .ok (.sipush 1000, 3) := by decide +kernel
theorem dX3_callAt_12 : decode cX3_callAt 12 = .ok (.irem, 1) := by decide +kernel
theorem dX3_callAt_13 : decode cX3_callAt 13 = .ok (.istore 4, 2) := by decide +kernel
theorem dX3_callAt_15 : decode cX3_callAt 15 = .ok (.iload_n 3, 1) := by decide +kernel
theorem dX3_callAt_16 : decode cX3_callAt 16 = .ok (.ifCond .lt 19, 3) := by decide +kernel
theorem dX3_callAt_19 : decode cX3_callAt 19 = .ok (.iload_n 3, 1) := by decide +kernel
theorem dX3_callAt_20 : decode cX3_callAt 20 = .ok (.aload_n 1, 1) := by decide +kernel
theorem dX3_callAt_21 : decode cX3_callAt 21 = .ok (.getfield 158, 3) := by decide +kernel
theorem dX3_callAt_24 : decode cX3_callAt 24 = .ok (.if_icmp .ge 11, 3) := by decide +kernel
theorem dX3_callAt_27 : decode cX3_callAt 27 = .ok (.iload 4, 2) := by decide +kernel
theorem dX3_callAt_29 : decode cX3_callAt 29 = .ok (.invokestatic 161, 3) := by decide +kernel
theorem dX3_callAt_32 : decode cX3_callAt 32 = .ok (.ifCond .ne 5, 3) := by decide +kernel
theorem dX3_callAt_35 : decode cX3_callAt 35 = .ok (.iconst 3, 1) := by decide +kernel
theorem dX3_callAt_36 : decode cX3_callAt 36 = .ok (.ireturn, 1) := by decide +kernel
theorem dX3_callAt_37 : decode cX3_callAt 37 = .ok (.aload_n 1, 1) := by decide +kernel
theorem dX3_callAt_38 : decode cX3_callAt 38 = .ok (.getfield 85, 3) := by decide +kernel
theorem dX3_callAt_41 : decode cX3_callAt 41 = .ok (.iload_n 3, 1) := by decide +kernel
theorem dX3_callAt_42 : decode cX3_callAt 42 = .ok (.iaload, 1) := by decide +kernel
theorem dX3_callAt_43 : decode cX3_callAt 43 = .ok (.istore 5, 2) := by decide +kernel
theorem dX3_callAt_45 : decode cX3_callAt 45 = .ok (.aload_n 1, 1) := by decide +kernel
theorem dX3_callAt_46 : decode cX3_callAt 46 = .ok (.getfield 72, 3) := by decide +kernel
theorem dX3_callAt_49 : decode cX3_callAt 49 = .ok (.iload 5, 2) := by decide +kernel
theorem dX3_callAt_51 : decode cX3_callAt 51 = .ok (.aaload, 1) := by decide +kernel
theorem dX3_callAt_52 : decode cX3_callAt 52 = .ok (.getfield 164, 3) := by decide +kernel
theorem dX3_callAt_55 : decode cX3_callAt 55 = .ok (.iload 4, 2) := by decide +kernel
theorem dX3_callAt_57 : decode cX3_callAt 57 = .ok (.baload, 1) := by decide +kernel
theorem dX3_callAt_58 : decode cX3_callAt 58 = .ok (.ifCond .eq 14, 3) := by decide +kernel
theorem dX3_callAt_61 : decode cX3_callAt 61 = .ok (.aload_n 0, 1) := by decide +kernel
theorem dX3_callAt_62 : decode cX3_callAt 62 = .ok (.iload 5, 2) := by decide +kernel
theorem dX3_callAt_64 : decode cX3_callAt 64 = .ok (.iload 4, 2) := by decide +kernel
theorem dX3_callAt_66 : decode cX3_callAt 66 = .ok (.invokevirtual 155, 3) := by decide +kernel
theorem dX3_callAt_69 : decode cX3_callAt 69 = .ok (.goto 4, 3) := by decide +kernel
theorem dX3_callAt_72 : decode cX3_callAt 72 = .ok (.iconst 3, 1) := by decide +kernel
theorem dX3_callAt_73 : decode cX3_callAt 73 = .ok (.ireturn, 1) := by decide +kernel
theorem dX3_enter_0 : decode cX3_enter 0 = .ok (.aload_n 0, 1) := by decide +kernel
theorem dX3_enter_1 : decode cX3_enter 1 = .ok (.getfield 49, 3) := by decide +kernel
theorem dX3_enter_4 : decode cX3_enter 4 = .ok (.bipush 100, 2) := by decide +kernel
theorem dX3_enter_6 : decode cX3_enter 6 = .ok (.if_icmp .lt 5, 3) := by decide +kernel
theorem dX3_enter_9 : decode cX3_enter 9 = .ok (.iconst 2, 1) := by decide +kernel
theorem dX3_enter_10 : decode cX3_enter 10 = .ok (.ireturn, 1) := by decide +kernel
theorem dX3_enter_11 : decode cX3_enter 11 = .ok (.aload_n 0, 1) := by decide +kernel
theorem dX3_enter_12 : decode cX3_enter 12 = .ok (.getfield 43, 3) := by decide +kernel
theorem dX3_enter_15 : decode cX3_enter 15 = .ok (.aload_n 0, 1) := by decide +kernel
theorem dX3_enter_16 : decode cX3_enter 16 = .ok (.getfield 49, 3) := by decide +kernel
theorem dX3_enter_19 : decode cX3_enter 19 = .ok (.aload_n 0, 1) := by decide +kernel
theorem dX3_enter_20 : decode cX3_enter 20 = .ok (.getfield 52, 3) := by decide +kernel
theorem dX3_enter_23 : decode cX3_enter 23 = .ok (.iastore, 1) := by decide +kernel
theorem dX3_enter_24 : decode cX3_enter 24 = .ok (.aload_n 0, 1) := by decide +kernel
theorem dX3_enter_25 : decode cX3_enter 25 = .ok (.getfield 46, 3) := by decide +kernel
theorem dX3_enter_28 : decode cX3_enter 28 = .ok (.aload_n 0, 1) := by decide +kernel
theorem dX3_enter_29 : decode cX3_enter 29 = .ok (.getfield 49, 3) := by decide +kernel
theorem dX3_enter_32 : decode cX3_enter 32 = .ok (.aload_n 0, 1) := by decide +kernel
theorem dX3_enter_33 : decode cX3_enter 33 = .ok (.getfield 55, 3) := by decide +kernel
theorem dX3_enter_36 : decode cX3_enter 36 = .ok (.iastore, 1) := by decide +kernel
theorem dX3_enter_37 : decode cX3_enter 37 = .ok (.aload_n 0, 1) := by decide +kernel
theorem dX3_enter_38 : decode cX3_enter 38 = .ok (.dup, 1) := by decide +kernel
theorem dX3_enter_39 : decode cX3_enter 39 = .ok (.getfield 49, 3) := by decide +kernel
theorem dX3_enter_42 : decode cX3_enter 42 = .ok (.iconst 1, 1) := by decide +kernel
theorem dX3_enter_43 : decode cX3_enter 43 = .ok (.iadd, 1) := by decide +kernel
theorem dX3_enter_44 : decode cX3_enter 44 = .ok (.putfield 49, 3) := by decide +kernel
theorem dX3_enter_47 : decode cX3_enter 47 = .ok (.aload_n 0, 1) := by decide +kernel
theorem dX3_enter_48 : decode cX3_enter 48 = .ok (.aload_n 0, 1) := by decide +kernel
theorem dX3_enter_49 : decode cX3_enter 49 = .ok (.getfield 28, 3) := by decide +kernel
theorem dX3_enter_52 : decode cX3_enter 52 = .ok (.aload_n 0, 1) := by decide +kernel
theorem dX3_enter_53 : decode cX3_enter 53 = .ok (.getfield 49, 3) := by decide +kernel
theorem dX3_enter_56 : decode cX3_enter 56 = .ok (.invokestatic 168, 3) := by decide +kernel
theorem dX3_enter_59 : decode cX3_enter 59 = .ok (.putfield 28, 3) := by decide +kernel
theorem dX3_enter_62 : decode cX3_enter 62 = .ok (.aload_n 0, 1) := by decide +kernel
theorem dX3_enter_63 : decode cX3_enter 63 = .ok (.iload_n 1, 1) := by decide +kernel
theorem dX3_enter_64 : decode cX3_enter 64 = .ok (.putfield 52, 3) := by decide +kernel
theorem dX3_enter_67 : decode cX3_enter 67 = .ok (.aload_n 0, 1) := by decide +kernel
theorem dX3_enter_68 : decode cX3_enter 68 = .ok (.iload_n 2, 1) := by decide +kernel
theorem dX3_enter_69 : decode cX3_enter 69 = .ok (.putfield 55, 3) := by decide +kernel
theorem dX3_enter_72 : decode cX3_enter 72 = .ok (.iconst (-1), 1) := by decide +kernel
theorem dX3_enter_73 : decode cX3_enter 73 = .ok (.ireturn, 1) := by decide +kernel
theorem dX3_goBack_0 : decode cX3_goBack 0 = .ok (.aload_n 0, 1) := by decide +kernel
theorem dX3_goBack_1 : decode cX3_goBack 1 = .ok (.getfield 49, 3) := by decide +kernel
theorem dX3_goBack_4 : decode cX3_goBack 4 = .ok (.ifCond .ne 8, 3) := by decide +kernel
theorem dX3_goBack_7 : decode cX3_goBack 7 = .ok (.aload_n 0, 1) := by decide +kernel
theorem dX3_goBack_8 : decode cX3_goBack 8 = .ok (.invokevirtual 99, 3) := by decide +kernel
theorem dX3_goBack_11 : decode cX3_goBack 11 = .ok (.ireturn, 1) := by decide +kernel
theorem dX3_goBack_12 : decode cX3_goBack 12 = .ok (.aload_n 0, 1) := by decide +kernel
theorem dX3_goBack_13 : decode cX3_goBack 13 = .ok (.dup, 1) := by decide +kernel
theorem dX3_goBack_14 : decode cX3_goBack 14 = .ok (.getfield 49, 3) := by decide +kernel
theorem dX3_goBack_17 : decode cX3_goBack 17 = .ok (.iconst 1, 1) := by decide +kernel
theorem dX3_goBack_18 : decode cX3_goBack 18 = .ok (.isub, 1) := by decide +kernel
theorem dX3_goBack_19 : decode cX3_goBack 19 = .ok (.putfield 49, 3) := by decide +kernel
theorem dX3_goBack_22 : decode cX3_goBack 22 = .ok (.aload_n 0, 1) := by decide +kernel
theorem dX3_goBack_23 : decode cX3_goBack 23 = .ok (.aload_n 0, 1) := by decide +kernel
theorem dX3_goBack_24 : decode cX3_goBack 24 = .ok (.getfield 43, 3) := by decide +kernel
theorem dX3_goBack_27 : decode cX3_goBack 27 = .ok (.aload_n 0, 1) := by decide +kernel
theorem dX3_goBack_28 : decode cX3_goBack 28 = .ok (.getfield 49, 3) := by decide +kernel
theorem dX3_goBack_31 : decode cX3_goBack 31 = .ok (.iaload, 1) := by decide +kernel
theorem dX3_goBack_32 : decode cX3_goBack 32 = .ok (.putfield 52, 3) := by decide +kernel
theorem dX3_goBack_35 : decode cX3_goBack 35 = .ok (.aload_n 0, 1) := by decide +kernel
theorem dX3_goBack_36 : decode cX3_goBack 36 = .ok (.aload_n 0, 1) := by decide +kernel
theorem dX3_goBack_37 : decode cX3_goBack 37 = .ok (.getfield 46, 3) := by decide +kernel
theorem dX3_goBack_40 : decode cX3_goBack 40 = .ok (.aload_n 0, 1) := by decide +kernel
theorem dX3_goBack_41 : decode cX3_goBack 41 = .ok (.getfield 49, 3) := by decide +kernel
theorem dX3_goBack_44 : decode cX3_goBack 44 = .ok (.iaload, 1) := by decide +kernel
theorem dX3_goBack_45 : decode cX3_goBack 45 = .ok (.putfield 55, 3) := by decide +kernel
theorem dX3_goBack_48 : decode cX3_goBack 48 = .ok (.iconst (-1), 1) := by decide +kernel
theorem dX3_goBack_49 : decode cX3_goBack 49 = .ok (.ireturn, 1) := by decide +kernel
theorem dX3_startNext_0 : decode cX3_startNext 0 = .ok (.aload_n 0, 1) := by decide +kernel
theorem dX3_startNext_1 : decode cX3_startNext 1 = .ok (.getfield 40, 3) := by decide +kernel
theorem dX3_startNext_4 : decode cX3_startNext 4 = .ok (.aload_n 0, 1) := by decide +kernel
theorem dX3_startNext_5 : decode cX3_startNext 5 = .ok (.getfield 37, 3) := by decide +kernel
theorem dX3_startNext_8 : decode cX3_startNext 8 = .ok (.if_icmp .lt 5, 3) := by decide +kernel
theorem dX3_startNext_11 : decode cX3_startNext 11 = .ok (.iconst 0, 1) := by decide +kernel
theorem dX3_startNext_12 : decode cX3_startNext 12 = .ok (.ireturn, 1) := by decide +kernel
theorem dX3_startNext_13 : decode cX3_startNext 13 = .ok (.aload_n 0, 1) := by decide +kernel
theorem dX3_startNext_14 : decode cX3_startNext 14 = .ok (.aload_n 0, 1) := by decide +kernel
theorem dX3_startNext_15 : decode cX3_startNext 15 = .ok (.getfield 31, 3) := by decide +kernel
theorem dX3_startNext_18 : decode cX3_startNext 18 = .ok (.aload_n 0, 1) := by decide +kernel
theorem dX3_startNext_19 : decode cX3_startNext 19 = .ok (.getfield 40, 3) := by decide +kernel
theorem dX3_startNext_22 : decode cX3_startNext 22 = .ok (.iaload, 1) := by decide +kernel
theorem dX3_startNext_23 : decode cX3_startNext 23 = .ok (.putfield 52, 3) := by decide +kernel
theorem dX3_startNext_26 : decode cX3_startNext 26 = .ok (.aload_n 0, 1) := by decide +kernel
theorem dX3_startNext_27 : decode cX3_startNext 27 = .ok (.aload_n 0, 1) := by decide +kernel
theorem dX3_startNext_28 : decode cX3_startNext 28 = .ok (.getfield 34, 3) := by decide +kernel
theorem dX3_startNext_31 : decode cX3_startNext 31 = .ok (.aload_n 0, 1) := by decide +kernel
theorem dX3_startNext_32 : decode cX3_startNext 32 = .ok (.getfield 40, 3) := by decide +kernel
theorem dX3_startNext_35 : decode cX3_startNext 35 = .ok (.iaload, 1) := by decide +kernel
theorem dX3_startNext_36 : decode cX3_startNext 36 = .ok (.putfield 55, 3) := by decide +kernel
theorem dX3_startNext_39 : decode cX3_startNext 39 = .ok (.aload_n 0, 1) := by decide +kernel
theorem dX3_startNext_40 : decode cX3_startNext 40 = .ok (.dup, 1) := by decide +kernel
theorem dX3_startNext_41 : decode cX3_startNext 41 = .ok (.getfield 40, 3) := by decide +kernel
theorem dX3_startNext_44 : decode cX3_startNext 44 = .ok (.iconst 1, 1) := by decide +kernel
theorem dX3_startNext_45 : decode cX3_startNext 45 = .ok (.iadd, 1) := by decide +kernel
theorem dX3_startNext_46 : decode cX3_startNext 46 = .ok (.putfield 40, 3) := by decide +kernel
theorem dX3_startNext_49 : decode cX3_startNext 49 = .ok (.iconst (-1), 1) := by decide +kernel
theorem dX3_startNext_50 : decode cX3_startNext 50 = .ok (.ireturn, 1) := by decide +kernel
theorem dX3_readDatum_0 : decode cX3_readDatum 0 = .ok (.aload_n 1, 1) := by decide +kernel
theorem dX3_readDatum_1 : decode cX3_readDatum 1 = .ok (.aload_n 0, 1) := by decide +kernel
theorem dX3_readDatum_2 : decode cX3_readDatum 2 = .ok (.getfield 52, 3) := by decide +kernel
theorem dX3_readDatum_5 : decode cX3_readDatum 5 = .ok (.iload_n 2, 1) := by decide +kernel
theorem dX3_readDatum_6 : decode cX3_readDatum 6 = .ok (.invokevirtual 88, 3) := by decide +kernel
theorem dX3_readDatum_9 : decode cX3_readDatum 9 = .ok (.istore_n 3, 1) := by decide +kernel
theorem dX3_readDatum_10 : decode cX3_readDatum 10 = .ok (.aload_n 1, 1) := by decide +kernel
theorem dX3_readDatum_11 : decode cX3_readDatum 11 = .ok (.iload_n 3, 1) := by decide +kernel
theorem dX3_readDatum_12 : decode cX3_readDatum 12 = .ok (.invokevirtual 92, 3) := by decide +kernel
theorem dX3_readDatum_15 : decode cX3_readDatum 15 = .ok (.ifCond .eq 17, 3) := by decide +kernel
theorem dX3_readDatum_18 : decode cX3_readDatum 18 = .ok (.aload_n 1, 1) := by decide +kernel
theorem dX3_readDatum_19 : decode cX3_readDatum 19 = .ok (.getfield 72, 3) := by decide +kernel
theorem dX3_readDatum_22 : decode cX3_readDatum 22 = .ok (.iload_n 3, 1) := by decide +kernel
theorem dX3_readDatum_23 : decode cX3_readDatum 23 = .ok (.aaload, 1) := by decide +kernel
theorem dX3_readDatum_24 : decode cX3_readDatum 24 = .ok (.getfield 173, 3) := by decide +kernel
theorem dX3_readDatum_27 : decode cX3_readDatum 27 = .ok (.iload_n 2, 1) := by decide +kernel
theorem dX3_readDatum_28 : decode cX3_readDatum 28 = .ok (.iaload, 1) := by decide +kernel
theorem dX3_readDatum_29 : decode cX3_readDatum 29 = .ok (.goto 4, 3) := by decide +kernel
theorem dX3_readDatum_32 : decode cX3_readDatum 32 = .ok (.iconst 0, 1) := by decide +kernel
theorem dX3_readDatum_33 : decode cX3_readDatum 33 = .ok (.ireturn, 1) := by decide +kernel
theorem dX3_writeDatum_0 : decode cX3_writeDatum 0 = .ok (.aload_n 1, 1) := by decide +kernel
theorem dX3_writeDatum_1 : decode cX3_writeDatum 1 = .ok (.aload_n 0, 1) := by decide +kernel
theorem dX3_writeDatum_2 : decode cX3_writeDatum 2 = .ok (.getfield 52, 3) := by decide +kernel
theorem dX3_writeDatum_5 : decode cX3_writeDatum 5 = .ok (.iload_n 2, 1) := by decide +kernel
theorem dX3_writeDatum_6 : decode cX3_writeDatum 6 = .ok (.invokevirtual 88, 3) := by decide +kernel
theorem dX3_writeDatum_9 : decode cX3_writeDatum 9 = .ok (.istore 4, 2) := by decide +kernel
theorem dX3_writeDatum_11 : decode cX3_writeDatum 11 = .ok (.aload_n 1, 1) := by decide +kernel
theorem dX3_writeDatum_12 : decode cX3_writeDatum 12 = .ok (.iload 4, 2) := by decide +kernel
theorem dX3_writeDatum_14 : decode cX3_writeDatum 14 = .ok (.invokevirtual 92, 3) := by decide +kernel
theorem dX3_writeDatum_17 : decode cX3_writeDatum 17 = .ok (.ifCond .eq 16, 3) := by decide +kernel
theorem dX3_writeDatum_20 : decode cX3_writeDatum 20 = .ok (.aload_n 1, 1) := by decide +kernel
theorem dX3_writeDatum_21 : decode cX3_writeDatum 21 = .ok (.getfield 72, 3) := by decide +kernel
theorem dX3_writeDatum_24 : decode cX3_writeDatum 24 = .ok (.iload 4, 2) := by decide +kernel
theorem dX3_writeDatum_26 : decode cX3_writeDatum 26 = .ok (.aaload, 1) := by decide +kernel
theorem dX3_writeDatum_27 : decode cX3_writeDatum 27 = .ok (.getfield 173, 3) := by decide +kernel
theorem dX3_writeDatum_30 : decode cX3_writeDatum 30 = .ok (.iload_n 2, 1) := by decide +kernel
theorem dX3_writeDatum_31 : decode cX3_writeDatum 31 = .ok (.iload_n 3, 1) := by decide +kernel
theorem dX3_writeDatum_32 : decode cX3_writeDatum 32 = .ok (.iastore, 1) := by decide +kernel
theorem dX3_writeDatum_33 : decode cX3_writeDatum 33 = .ok (.return_, 1) := by decide +kernel
theorem dX3_say_0 : decode cX3_say 0 = .ok (.aload_n 0, 1) := by decide +kernel
theorem dX3_say_1 : decode cX3_say 1 = .ok (.getfield 22, 3) := by decide +kernel
theorem dX3_say_4 : decode cX3_say 4 = .ok (.bipush 60, 2) := by decide +kernel
theorem dX3_say_6 : decode cX3_say 6 = .ok (.if_icmp .ge 13, 3) := by decide +kernel
theorem dX3_say_9 : decode cX3_say 9 = .ok (.aload_n 0, 1) := by decide +kernel
theorem dX3_say_10 : decode cX3_say 10 = .ok (.getfield 15, 3) := by decide +kernel
theorem dX3_say_13 : decode cX3_say 13 = .ok (.aload_n 0, 1) := by decide +kernel
theorem dX3_say_14 : decode cX3_say 14 = .ok (.getfield 22, 3) := by decide +kernel
theorem dX3_say_17 : decode cX3_say 17 = .ok (.iload_n 1, 1) := by decide +kernel
theorem dX3_say_18 : decode cX3_say 18 = .ok (.iastore, 1) := by decide +kernel
theorem dX3_say_19 : decode cX3_say 19 = .ok (.aload_n 0, 1) := by decide +kernel
theorem dX3_say_20 : decode cX3_say 20 = .ok (.dup, 1) := by decide +kernel
theorem dX3_say_21 : decode cX3_say 21 = .ok (.getfield 22, 3) := by decide +kernel
theorem dX3_say_24 : decode cX3_say 24 = .ok (.iconst 1, 1) := by decide +kernel
theorem dX3_say_25 : decode cX3_say 25 = .ok (.iadd, 1) := by decide +kernel
theorem dX3_say_26 : decode cX3_say 26 = .ok (.putfield 22, 3) := by decide +kernel
theorem dX3_say_29 : decode cX3_say 29 = .ok (.return_, 1) := by decide +kernel
