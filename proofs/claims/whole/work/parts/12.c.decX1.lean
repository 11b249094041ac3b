theorem dX1_init_0 : decode cX1_init 0 = .ok (.aload_n 0, 1) := by decide +kernel
theorem dX1_init_1 : decode cX1_init 1 = .ok (.invokespecial 3, 3) := by decide +kernel
theorem dX1_init_4 : decode cX1_init 4 = .ok (.aload_n 0, 1) := by decide +kernel
theorem dX1_init_5 : decode cX1_init 5 = .ok (.bipush 12, 2) := by decide +kernel
theorem dX1_init_7 : decode cX1_init 7 = .ok (.newarray .int, 2) := by decide +kernel
theorem dX1_init_9 : decode cX1_init 9 = .ok (.putfield 9, 3) := by decide +kernel
theorem dX1_init_12 : decode cX1_init 12 = .ok (.aload_n 0, 1) := by decide +kernel
theorem dX1_init_13 : decode cX1_init 13 = .ok (.bipush 12, 2) := by decide +kernel
theorem dX1_init_15 : decode cX1_init 15 = .ok (.newarray .int, 2) := by decide +kernel
theorem dX1_init_17 : decode cX1_init 17 = .ok (.putfield 15, 3) := by decide +kernel
theorem dX1_init_20 : decode cX1_init 20 = .ok (.aload_n 0, 1) := by decide +kernel
theorem dX1_init_21 : decode cX1_init 21 = .ok (.iconst 0, 1) := by decide +kernel
theorem dX1_init_22 : decode cX1_init 22 = .ok (.putfield 18, 3) := by decide +kernel
theorem dX1_init_25 : decode cX1_init 25 = .ok (.aload_n 0, 1) := by decide +kernel
theorem dX1_init_26 : decode cX1_init 26 = .ok (.bipush 12, 2) := by decide +kernel
theorem dX1_init_28 : decode cX1_init 28 = .ok (.newarray .int, 2) := by decide +kernel
theorem dX1_init_30 : decode cX1_init 30 = .ok (.putfield 22, 3) := by decide +kernel
theorem dX1_init_33 : decode cX1_init 33 = .ok (.aload_n 0, 1) := by decide +kernel
theorem dX1_init_34 : decode cX1_init 34 = .ok (.bipush 12, 2) := by decide +kernel
theorem dX1_init_36 : decode cX1_init 36 = .ok (.newarray .boolean, 2) := by decide +kernel
theorem dX1_init_38 : decode cX1_init 38 = .ok (.putfield 25, 3) := by decide +kernel
theorem dX1_init_41 : decode cX1_init 41 = .ok (.aload_n 0, 1) := by decide +kernel
theorem dX1_init_42 : decode cX1_init 42 = .ok (.iconst 0, 1) := by decide +kernel
theorem dX1_init_43 : decode cX1_init 43 = .ok (.putfield 29, 3) := by decide +kernel
theorem dX1_init_46 : decode cX1_init 46 = .ok (.aload_n 0, 1) := by decide +kernel
theorem dX1_init_47 : decode cX1_init 47 = .ok (.bipush 64, 2) := by decide +kernel
theorem dX1_init_49 : decode cX1_init 49 = .ok (.newarray .int, 2) := by decide +kernel
theorem dX1_init_51 : decode cX1_init 51 = .ok (.putfield 32, 3) := by decide +kernel
theorem dX1_init_54 : decode cX1_init 54 = .ok (.aload_n 0, 1) := by decide +kernel
theorem dX1_init_55 : decode cX1_init 55 = .ok (.iconst 0, 1) := by decide +kernel
theorem dX1_init_56 : decode cX1_init 56 = .ok (.putfield 35, 3) := by decide +kernel
theorem dX1_init_59 : decode cX1_init 59 = .ok (.aload_n 0, 1) := by decide +kernel
theorem dX1_init_60 : decode cX1_init 60 = .ok (.aload_n 1, 1) := by decide +kernel
theorem dX1_init_61 : decode cX1_init 61 = .ok (.putfield 39, 3) := by decide +kernel
theorem dX1_init_64 : decode cX1_init 64 = .ok (.aload_n 0, 1) := by decide +kernel
theorem dX1_init_65 : decode cX1_init 65 = .ok (.getfield 15, 3) := by decide +kernel
theorem dX1_init_68 : decode cX1_init 68 = .ok (.iconst (-1), 1) := by decide +kernel
theorem dX1_init_69 : decode cX1_init 69 = .ok (.invokestatic 43, 3) := by decide +kernel
theorem dX1_init_72 : decode cX1_init 72 = .ok (.return_, 1) := by decide +kernel
theorem dX1_clear_0 : decode cX1_clear 0 = .ok (.aload_n 0, 1) := by decide +kernel
theorem dX1_clear_1 : decode cX1_clear 1 = .ok (.iconst 0, 1) := by decide +kernel
theorem dX1_clear_2 : decode cX1_clear 2 = .ok (.putfield 18, 3) := by decide +kernel
theorem dX1_clear_5 : decode cX1_clear 5 = .ok (.aload_n 0, 1) := by decide +kernel
theorem dX1_clear_6 : decode cX1_clear 6 = .ok (.iconst 0, 1) := by decide +kernel
theorem dX1_clear_7 : decode cX1_clear 7 = .ok (.putfield 29, 3) := by decide +kernel
theorem dX1_clear_10 : decode cX1_clear 10 = .ok (.aload_n 0, 1) := by decide +kernel
theorem dX1_clear_11 : decode cX1_clear 11 = .ok (.getfield 15, 3) := by decide +kernel
theorem dX1_clear_14 : decode cX1_clear 14 = .ok (.iconst (-1), 1) := by decide +kernel
theorem dX1_clear_15 : decode cX1_clear 15 = .ok (.invokestatic 43, 3) := by decide +kernel
theorem dX1_clear_18 : decode cX1_clear 18 = .ok (.return_, 1) := by decide +kernel
theorem dX1_arrange_0 : decode cX1_arrange 0 = .ok (.aload_n 0, 1) := by decide +kernel
theorem dX1_arrange_1 : decode cX1_arrange 1 = .ok (.invokevirtual 49, 3) := by decide +kernel
theorem dX1_arrange_4 : decode cX1_arrange 4 = .ok (.aload_n 0, 1) := by decide +kernel
theorem dX1_arrange_5 : decode cX1_arrange 5 = .ok (.iload_n 2, 1) := by decide +kernel
theorem dX1_arrange_6 : decode cX1_arrange 6 = .ok (.putfield 35, 3) := by decide +kernel
theorem dX1_arrange_9 : decode cX1_arrange 9 = .ok (.aload_n 0, 1) := by decide +kernel
theorem dX1_arrange_10 : decode cX1_arrange 10 = .ok (.iload_n 1, 1) := by decide +kernel
theorem dX1_arrange_11 : decode cX1_arrange 11 = .ok (.invokevirtual 52, 3) := by decide +kernel
theorem dX1_arrange_14 : decode cX1_arrange 14 = .ok (.iconst 0, 1) := by decide +kernel
theorem dX1_arrange_15 : decode cX1_arrange 15 = .ok (.istore_n 3, 1) := by decide +kernel
theorem dX1_arrange_16 : decode cX1_arrange 16 = .ok (.iload_n 3, 1) := by decide +kernel
theorem dX1_arrange_17 : decode cX1_arrange 17 = .ok (.bipush 12, 2) := by decide +kernel
theorem dX1_arrange_19 : decode cX1_arrange 19 = .ok (.if_icmp .ge 16, 3) := by decide +kernel
theorem dX1_arrange_22 : decode cX1_arrange 22 = .ok (.aload_n 0, 1) := by decide +kernel
theorem dX1_arrange_23 : decode cX1_arrange 23 = .ok (.getfield 25, 3) := by decide +kernel
theorem dX1_arrange_26 : decode cX1_arrange 26 = .ok (.iload_n 3, 1) := by decide +kernel
theorem dX1_arrange_27 : decode cX1_arrange 27 = .ok (.iconst 0, 1) := by decide +kernel
theorem dX1_arrange_28 : decode cX1_arrange 28 = .ok (.bastore, 1) := by decide +kernel
theorem dX1_arrange_29 : decode cX1_arrange 29 = .ok (.iinc 3 1, 3) := by decide +kernel
theorem dX1_arrange_32 : decode cX1_arrange 32 = .ok (.goto (-16), 3) := by decide +kernel
theorem dX1_arrange_35 : decode cX1_arrange 35 = .ok (.aload_n 0, 1) := by decide +kernel
theorem dX1_arrange_36 : decode cX1_arrange 36 = .ok (.iload_n 1, 1) := by decide +kernel
theorem dX1_arrange_37 : decode cX1_arrange 37 = .ok (.iconst 0, 1) := by decide +kernel
theorem dX1_arrange_38 : decode cX1_arrange 38 = .ok (.invokestatic 56, 3) := by decide +kernel
theorem dX1_arrange_41 : decode cX1_arrange 41 = .ok (.aload_n 0, 1) := by decide +kernel
theorem dX1_arrange_42 : decode cX1_arrange 42 = .ok (.invokevirtual 60, 3) := by decide +kernel
theorem dX1_arrange_45 : decode cX1_arrange 45 = .ok (.return_, 1) := by decide +kernel
theorem dX1_placeFrom_0 : decode cX1_placeFrom 0 = .ok (.aload_n 0, 1) := by decide +kernel
theorem dX1_placeFrom_1 : decode cX1_placeFrom 1 = .ok (.iload_n 1, 1) := by decide +kernel
theorem dX1_placeFrom_2 : decode cX1_placeFrom 2 = .ok (.invokevirtual 63, 3) := by decide +kernel
theorem dX1_placeFrom_5 : decode cX1_placeFrom 5 = .ok (.iconst 0, 1) := by decide +kernel
theorem dX1_placeFrom_6 : decode cX1_placeFrom 6 = .ok (.istore_n 2, 1) := by decide +kernel
theorem dX1_placeFrom_7 : decode cX1_placeFrom 7 = .ok (.iload_n 2, 1) := by decide +kernel
theorem dX1_placeFrom_8 : decode cX1_placeFrom 8 = .ok (.bipush 12, 2) := by decide +kernel
theorem dX1_placeFrom_10 : decode cX1_placeFrom 10 = .ok (.if_icmp .ge 58, 3) := by decide +kernel
theorem dX1_placeFrom_13 : decode cX1_placeFrom 13 = .ok (.iload_n 2, 1) := by decide +kernel
theorem dX1_placeFrom_14 : decode cX1_placeFrom 14 = .ok (.aload_n 0, 1) := by decide +kernel
theorem dX1_placeFrom_15 : decode cX1_placeFrom 15 = .ok (.getfield 18, 3) := by decide +kernel
theorem dX1_placeFrom_18 : decode cX1_placeFrom 18 = .ok (.if_icmp .ge 50, 3) := by decide +kernel
theorem dX1_placeFrom_21 : decode cX1_placeFrom 21 = .ok (.aload_n 0, 1) := by decide +kernel
theorem dX1_placeFrom_22 : decode cX1_placeFrom 22 = .ok (.getfield 39, 3) := by decide +kernel
theorem dX1_placeFrom_25 : decode cX1_placeFrom 25 = .ok (.aload_n 0, 1) := by decide +kernel
theorem dX1_placeFrom_26 : decode cX1_placeFrom 26 = .ok (.getfield 9, 3) := by decide +kernel
theorem dX1_placeFrom_29 : decode cX1_placeFrom 29 = .ok (.iload_n 2, 1) := by decide +kernel
theorem dX1_placeFrom_30 : decode cX1_placeFrom 30 = .ok (.iaload, 1) := by decide +kernel
theorem dX1_placeFrom_31 : decode cX1_placeFrom 31 = .ok (.aaload, 1) := by decide +kernel
theorem dX1_placeFrom_32 : decode cX1_placeFrom 32 = .ok (.astore_n 3, 1) := by decide +kernel
theorem dX1_placeFrom_33 : decode cX1_placeFrom 33 = .ok (.iconst 0, 1) := by decide +kernel
theorem dX1_placeFrom_34 : decode cX1_placeFrom 34 = .ok (.istore 4, 2) := by decide +kernel
theorem dX1_placeFrom_36 : decode cX1_placeFrom 36 = .ok (.iload 4, 2) := by decide +kernel
theorem dX1_placeFrom_38 : decode cX1_placeFrom 38 = .ok (.aload_n 3, 1) := by decide +kernel
theorem dX1_placeFrom_39 : decode cX1_placeFrom 39 = .ok (.getfield 66, 3) := by decide +kernel
theorem dX1_placeFrom_42 : decode cX1_placeFrom 42 = .ok (.if_icmp .ge 20, 3) := by decide +kernel
theorem dX1_placeFrom_45 : decode cX1_placeFrom 45 = .ok (.aload_n 0, 1) := by decide +kernel
theorem dX1_placeFrom_46 : decode cX1_placeFrom 46 = .ok (.aload_n 3, 1) := by decide +kernel
theorem dX1_placeFrom_47 : decode cX1_placeFrom 47 = .ok (.getfield 71, 3) := by decide +kernel
theorem dX1_placeFrom_50 : decode cX1_placeFrom 50 = .ok (.iload 4, 2) := by decide +kernel
theorem dX1_placeFrom_52 : decode cX1_placeFrom 52 = .ok (.iaload, 1) := by decide +kernel
theorem dX1_placeFrom_53 : decode cX1_placeFrom 53 = .ok (.invokevirtual 63, 3) := by decide +kernel
theorem dX1_placeFrom_56 : decode cX1_placeFrom 56 = .ok (.iinc 4 1, 3) := by decide +kernel
theorem dX1_placeFrom_59 : decode cX1_placeFrom 59 = .ok (.goto (-23), 3) := by decide +kernel
theorem dX1_placeFrom_62 : decode cX1_placeFrom 62 = .ok (.iinc 2 1, 3) := by decide +kernel
theorem dX1_placeFrom_65 : decode cX1_placeFrom 65 = .ok (.goto (-58), 3) := by decide +kernel
theorem dX1_placeFrom_68 : decode cX1_placeFrom 68 = .ok (.return_, 1) := by decide +kernel
theorem dX1_append_0 : decode cX1_append 0 = .ok (.aload_n 0, 1) := by decide +kernel
theorem dX1_append_1 : decode cX1_append 1 = .ok (.getfield 15, 3) := by decide +kernel
theorem dX1_append_4 : decode cX1_append 4 = .ok (.iload_n 1, 1) := by decide +kernel
theorem dX1_append_5 : decode cX1_append 5 = .ok (.iaload, 1) := by decide +kernel
theorem dX1_append_6 : decode cX1_append 6 = .ok (.iconst (-1), 1) := by decide +kernel
theorem dX1_append_7 : decode cX1_append 7 = .ok (.if_icmp .ne 42, 3) := by decide +kernel
theorem dX1_append_10 : decode cX1_append 10 = .ok (.aload_n 0, 1) := by decide +kernel
theorem dX1_append_11 : decode cX1_append 11 = .ok (.getfield 18, 3) := by decide +kernel
theorem dX1_append_14 : decode cX1_append 14 = .ok (.bipush 12, 2) := by decide +kernel
theorem dX1_append_16 : decode cX1_append 16 = .ok (.if_icmp .ge 33, 3) := by decide +kernel
theorem dX1_append_19 : decode cX1_append 19 = .ok (.aload_n 0, 1) := by decide +kernel
theorem dX1_append_20 : decode cX1_append 20 = .ok (.getfield 15, 3) := by decide +kernel
theorem dX1_append_23 : decode cX1_append 23 = .ok (.iload_n 1, 1) := by decide +kernel
theorem dX1_append_24 : decode cX1_append 24 = .ok (.aload_n 0, 1) := by decide +kernel
theorem dX1_append_25 : decode cX1_append 25 = .ok (.getfield 18, 3) := by decide +kernel
theorem dX1_append_28 : decode cX1_append 28 = .ok (.iastore, 1) := by decide +kernel
theorem dX1_append_29 : decode cX1_append 29 = .ok (.aload_n 0, 1) := by decide +kernel
theorem dX1_append_30 : decode cX1_append 30 = .ok (.getfield 9, 3) := by decide +kernel
theorem dX1_append_33 : decode cX1_append 33 = .ok (.aload_n 0, 1) := by decide +kernel
theorem dX1_append_34 : decode cX1_append 34 = .ok (.getfield 18, 3) := by decide +kernel
theorem dX1_append_37 : decode cX1_append 37 = .ok (.iload_n 1, 1) := by decide +kernel
theorem dX1_append_38 : decode cX1_append 38 = .ok (.iastore, 1) := by decide +kernel
theorem dX1_append_39 : decode cX1_append 39 = .ok (.aload_n 0, 1) := by decide +kernel
theorem dX1_append_40 : decode cX1_append 40 = .ok (.dup, 1) := by decide +kernel
theorem dX1_append_41 : decode cX1_append 41 = .ok (.getfield 18, 3) := by decide +kernel
theorem dX1_append_44 : decode cX1_append 44 = .ok (.iconst 1, 1) := by decide +kernel
theorem dX1_append_45 : decode cX1_append 45 = .ok (.iadd, 1) := by decide +kernel
theorem dX1_append_46 : decode cX1_append 46 = .ok (.putfield 18, 3) := by decide +kernel
theorem dX1_append_49 : decode cX1_append 49 = .ok (.return_, 1) := by decide +kernel
theorem dX1_beginFrom_0 : decode cX1_beginFrom 0 = .ok (.aload_n 0, 1) := by decide +kernel
theorem dX1_beginFrom_1 : decode cX1_beginFrom 1 = .ok (.getfield 25, 3) := by decide +kernel
theorem dX1_beginFrom_4 : decode cX1_beginFrom 4 = .ok (.iload_n 1, 1) := by decide +kernel
theorem dX1_beginFrom_5 : decode cX1_beginFrom 5 = .ok (.baload, 1) := by decide +kernel
theorem dX1_beginFrom_6 : decode cX1_beginFrom 6 = .ok (.ifCond .ne 9, 3) := by decide +kernel
theorem dX1_beginFrom_9 : decode cX1_beginFrom 9 = .ok (.iload_n 2, 1) := by decide +kernel
theorem dX1_beginFrom_10 : decode cX1_beginFrom 10 = .ok (.bipush 12, 2) := by decide +kernel
theorem dX1_beginFrom_12 : decode cX1_beginFrom 12 = .ok (.if_icmp .lt 4, 3) := by decide +kernel
theorem dX1_beginFrom_15 : decode cX1_beginFrom 15 = .ok (.return_, 1) := by decide +kernel
theorem dX1_beginFrom_16 : decode cX1_beginFrom 16 = .ok (.aload_n 0, 1) := by decide +kernel
theorem dX1_beginFrom_17 : decode cX1_beginFrom 17 = .ok (.getfield 25, 3) := by decide +kernel
theorem dX1_beginFrom_20 : decode cX1_beginFrom 20 = .ok (.iload_n 1, 1) := by decide +kernel
theorem dX1_beginFrom_21 : decode cX1_beginFrom 21 = .ok (.iconst 1, 1) := by decide +kernel
theorem dX1_beginFrom_22 : decode cX1_beginFrom 22 = .ok (.bastore, 1) := by decide +kernel
theorem dX1_beginFrom_23 : decode cX1_beginFrom 23 = .ok (.aload_n 0, 1) := by decide +kernel
theorem dX1_beginFrom_24 : decode cX1_beginFrom 24 = .ok (.getfield 39, 3) := by decide +kernel
theorem dX1_beginFrom_27 : decode cX1_beginFrom 27 = .ok (.iload_n 1, 1) := by decide +kernel
theorem dX1_beginFrom_28 : decode cX1_beginFrom 28 = .ok (.aaload, 1) := by decide +kernel
theorem dX1_beginFrom_29 : decode cX1_beginFrom 29 = .ok (.astore_n 3, 1) := by decide +kernel
theorem dX1_beginFrom_30 : decode cX1_beginFrom 30 = .ok (.iconst 0, 1) := by decide +kernel
theorem dX1_beginFrom_31 : decode cX1_beginFrom 31 = .ok (.istore 4, 2) := by decide +kernel
theorem dX1_beginFrom_33 : decode cX1_beginFrom 33 = .ok (.iload 4, 2) := by decide +kernel
theorem dX1_beginFrom_35 : decode cX1_beginFrom 35 = .ok (.aload_n 3, 1) := by decide +kernel
theorem dX1_beginFrom_36 : decode cX1_beginFrom 36 = .ok (.getfield 66, 3) := by decide +kernel
theorem dX1_beginFrom_39 : decode cX1_beginFrom 39 = .ok (.if_icmp .ge 23, 3) := by decide +kernel
theorem dX1_beginFrom_42 : decode cX1_beginFrom 42 = .ok (.aload_n 0, 1) := by decide +kernel
theorem dX1_beginFrom_43 : decode cX1_beginFrom 43 = .ok (.aload_n 3, 1) := by decide +kernel
theorem dX1_beginFrom_44 : decode cX1_beginFrom 44 = .ok (.getfield 71, 3) := by decide +kernel
theorem dX1_beginFrom_47 : decode cX1_beginFrom 47 = .ok (.iload 4, 2) := by decide +kernel
theorem dX1_beginFrom_49 : decode cX1_beginFrom 49 = .ok (.iaload, 1) := by decide +kernel
theorem dX1_beginFrom_50 : decode cX1_beginFrom 50 = .ok (.iload_n 2, 1) := by decide +kernel
theorem dX1_beginFrom_51 : decode cX1_beginFrom 51 = .ok (.iconst 1, 1) := by decide +kernel
theorem dX1_beginFrom_52 : decode cX1_beginFrom 52 = .ok (.iadd, 1) := by decide +kernel
theorem dX1_beginFrom_53 : decode cX1_beginFrom 53 = .ok (.invokestatic 56, 3) := by decide +kernel
theorem dX1_beginFrom_56 : decode cX1_beginFrom 56 = .ok (.iinc 4 1, 3) := by decide +kernel
theorem dX1_beginFrom_59 : decode cX1_beginFrom 59 = .ok (.goto (-26), 3) := by decide +kernel
theorem dX1_beginFrom_62 : decode cX1_beginFrom 62 = .ok (.aload_n 0, 1) := by decide +kernel
theorem dX1_beginFrom_63 : decode cX1_beginFrom 63 = .ok (.getfield 29, 3) := by decide +kernel
theorem dX1_beginFrom_66 : decode cX1_beginFrom 66 = .ok (.bipush 12, 2) := by decide +kernel
theorem dX1_beginFrom_68 : decode cX1_beginFrom 68 = .ok (.if_icmp .ge 23, 3) := by decide +kernel
theorem dX1_beginFrom_71 : decode cX1_beginFrom 71 = .ok (.aload_n 0, 1) := by decide +kernel
theorem dX1_beginFrom_72 : decode cX1_beginFrom 72 = .ok (.getfield 22, 3) := by decide +kernel
theorem dX1_beginFrom_75 : decode cX1_beginFrom 75 = .ok (.aload_n 0, 1) := by decide +kernel
theorem dX1_beginFrom_76 : decode cX1_beginFrom 76 = .ok (.getfield 29, 3) := by decide +kernel
theorem dX1_beginFrom_79 : decode cX1_beginFrom 79 = .ok (.iload_n 1, 1) := by decide +kernel
theorem dX1_beginFrom_80 : decode cX1_beginFrom 80 = .ok (.iastore, 1) := by decide +kernel
theorem dX1_beginFrom_81 : decode cX1_beginFrom 81 = .ok (.aload_n 0, 1) := by decide +kernel
theorem dX1_beginFrom_82 : decode cX1_beginFrom 82 = .ok (.dup, 1) := by decide +kernel
theorem dX1_beginFrom_83 : decode cX1_beginFrom 83 = .ok (.getfield 29, 3) := by decide +kernel
theorem dX1_beginFrom_86 : decode cX1_beginFrom 86 = .ok (.iconst 1, 1) := by decide +kernel
theorem dX1_beginFrom_87 : decode cX1_beginFrom 87 = .ok (.iadd, 1) := by decide +kernel
theorem dX1_beginFrom_88 : decode cX1_beginFrom 88 = .ok (.putfield 29, 3) := by decide +kernel
theorem dX1_beginFrom_91 : decode cX1_beginFrom 91 = .ok (.return_, 1) := by decide +kernel
theorem dX1_findGivers_0 : decode cX1_findGivers 0 = .ok (.aload_n 0, 1) := by decide +kernel
theorem dX1_findGivers_1 : decode cX1_findGivers 1 = .ok (.getfield 32, 3) := by decide +kernel
theorem dX1_findGivers_4 : decode cX1_findGivers 4 = .ok (.bipush 20, 2) := by decide +kernel
theorem dX1_findGivers_6 : decode cX1_findGivers 6 = .ok (.invokestatic 43, 3) := by decide +kernel
theorem dX1_findGivers_9 : decode cX1_findGivers 9 = .ok (.iconst 0, 1) := by decide +kernel
theorem dX1_findGivers_10 : decode cX1_findGivers 10 = .ok (.istore_n 1, 1) := by decide +kernel
theorem dX1_findGivers_11 : decode cX1_findGivers 11 = .ok (.iload_n 1, 1) := by decide +kernel
theorem dX1_findGivers_12 : decode cX1_findGivers 12 = .ok (.aload_n 0, 1) := by decide +kernel
theorem dX1_findGivers_13 : decode cX1_findGivers 13 = .ok (.getfield 18, 3) := by decide +kernel
theorem dX1_findGivers_16 : decode cX1_findGivers 16 = .ok (.if_icmp .ge 59, 3) := by decide +kernel
theorem dX1_findGivers_19 : decode cX1_findGivers 19 = .ok (.aload_n 0, 1) := by decide +kernel
theorem dX1_findGivers_20 : decode cX1_findGivers 20 = .ok (.getfield 9, 3) := by decide +kernel
theorem dX1_findGivers_23 : decode cX1_findGivers 23 = .ok (.iload_n 1, 1) := by decide +kernel
theorem dX1_findGivers_24 : decode cX1_findGivers 24 = .ok (.iaload, 1) := by decide +kernel
theorem dX1_findGivers_25 : decode cX1_findGivers 25 = .ok (.istore_n 2, 1) := by decide +kernel
theorem dX1_findGivers_26 : decode cX1_findGivers 26 = .ok (.iconst 0, 1) := by decide +kernel
theorem dX1_findGivers_27 : decode cX1_findGivers 27 = .ok (.istore_n 3, 1) := by decide +kernel
theorem dX1_findGivers_28 : decode cX1_findGivers 28 = .ok (.iload_n 3, 1) := by decide +kernel
theorem dX1_findGivers_29 : decode cX1_findGivers 29 = .ok (.bipush 64, 2) := by decide +kernel
theorem dX1_findGivers_31 : decode cX1_findGivers 31 = .ok (.if_icmp .ge 38, 3) := by decide +kernel
theorem dX1_findGivers_34 : decode cX1_findGivers 34 = .ok (.aload_n 0, 1) := by decide +kernel
theorem dX1_findGivers_35 : decode cX1_findGivers 35 = .ok (.getfield 39, 3) := by decide +kernel
theorem dX1_findGivers_38 : decode cX1_findGivers 38 = .ok (.iload_n 2, 1) := by decide +kernel
theorem dX1_findGivers_39 : decode cX1_findGivers 39 = .ok (.aaload, 1) := by decide +kernel
theorem dX1_findGivers_40 : decode cX1_findGivers 40 = .ok (.iload_n 3, 1) := by decide +kernel
theorem dX1_findGivers_41 : decode cX1_findGivers 41 = .ok (.invokevirtual 74, 3) := by decide +kernel
theorem dX1_findGivers_44 : decode cX1_findGivers 44 = .ok (.ifCond .eq 19, 3) := by decide +kernel
theorem dX1_findGivers_47 : decode cX1_findGivers 47 = .ok (.aload_n 0, 1) := by decide +kernel
theorem dX1_findGivers_48 : decode cX1_findGivers 48 = .ok (.iload_n 2, 1) := by decide +kernel
theorem dX1_findGivers_49 : decode cX1_findGivers 49 = .ok (.iload_n 3, 1) := by decide +kernel
theorem dX1_findGivers_50 : decode cX1_findGivers 50 = .ok (.invokevirtual 78, 3) := by decide +kernel
theorem dX1_findGivers_53 : decode cX1_findGivers 53 = .ok (.ifCond .eq 10, 3) := by decide +kernel
theorem dX1_findGivers_56 : decode cX1_findGivers 56 = .ok (.aload_n 0, 1) := by decide +kernel
theorem dX1_findGivers_57 : decode cX1_findGivers 57 = .ok (.getfield 32, 3) := by decide +kernel
theorem dX1_findGivers_60 : decode cX1_findGivers 60 = .ok (.iload_n 3, 1) := by decide +kernel
theorem dX1_findGivers_61 : decode cX1_findGivers 61 = .ok (.iload_n 2, 1) := by decide +kernel
theorem dX1_findGivers_62 : decode cX1_findGivers 62 = .ok (.iastore, 1) := by decide +kernel
theorem dX1_findGivers_63 : decode cX1_findGivers 63 = .ok (.iinc 3 1, 3) := by decide +kernel
theorem dX1_findGivers_66 : decode cX1_findGivers 66 = .ok (.goto (-38), 3) := by decide +kernel
theorem dX1_findGivers_69 : decode cX1_findGivers 69 = .ok (.iinc 1 1, 3) := by decide +kernel
theorem dX1_findGivers_72 : decode cX1_findGivers 72 = .ok (.goto (-61), 3) := by decide +kernel
theorem dX1_findGivers_75 : decode cX1_findGivers 75 = .ok (.return_, 1) := by decide +kernel
theorem dX1_isBetterGiver_0 : decode cX1_isBetterGiver 0 = .ok (.aload_n 0, 1) := by decide +kernel
theorem dX1_isBetterGiver_1 : decode cX1_isBetterGiver 1 = .ok (.getfield 32, 3) := by decide +kernel
theorem dX1_isBetterGiver_4 : decode cX1_isBetterGiver 4 = .ok (.iload_n 2, 1) := by decide +kernel
theorem dX1_isBetterGiver_5 : decode cX1_isBetterGiver 5 = .ok (.iaload, 1) := by decide +kernel
theorem dX1_isBetterGiver_6 : decode cX1_isBetterGiver 6 = .ok (.istore_n 3, 1) := by decide +kernel
theorem dX1_isBetterGiver_7 : decode cX1_isBetterGiver 7 = .ok (.aload_n 0, 1) := by decide +kernel
theorem dX1_isBetterGiver_8 : decode cX1_isBetterGiver 8 = .ok (.iload_n 3, 1) := by decide +kernel
theorem dX1_isBetterGiver_9 : decode cX1_isBetterGiver 9 = .ok (.invokevirtual 82, 3) := by decide +kernel
theorem dX1_isBetterGiver_12 : decode cX1_isBetterGiver 12 = .ok (.ifCond .eq 29, 3) := by decide +kernel
theorem dX1_isBetterGiver_15 : decode cX1_isBetterGiver 15 = .ok (.aload_n 0, 1) := by decide +kernel
theorem dX1_isBetterGiver_16 : decode cX1_isBetterGiver 16 = .ok (.getfield 39, 3) := by decide +kernel
theorem dX1_isBetterGiver_19 : decode cX1_isBetterGiver 19 = .ok (.iload_n 3, 1) := by decide +kernel
theorem dX1_isBetterGiver_20 : decode cX1_isBetterGiver 20 = .ok (.aaload, 1) := by decide +kernel
theorem dX1_isBetterGiver_21 : decode cX1_isBetterGiver 21 = .ok (.iload_n 2, 1) := by decide +kernel
theorem dX1_isBetterGiver_22 : decode cX1_isBetterGiver 22 = .ok (.invokevirtual 85, 3) := by decide +kernel
theorem dX1_isBetterGiver_25 : decode cX1_isBetterGiver 25 = .ok (.ifCond .eq 20, 3) := by decide +kernel
theorem dX1_isBetterGiver_28 : decode cX1_isBetterGiver 28 = .ok (.aload_n 0, 1) := by decide +kernel
theorem dX1_isBetterGiver_29 : decode cX1_isBetterGiver 29 = .ok (.getfield 39, 3) := by decide +kernel
theorem dX1_isBetterGiver_32 : decode cX1_isBetterGiver 32 = .ok (.iload_n 1, 1) := by decide +kernel
theorem dX1_isBetterGiver_33 : decode cX1_isBetterGiver 33 = .ok (.aaload, 1) := by decide +kernel
theorem dX1_isBetterGiver_34 : decode cX1_isBetterGiver 34 = .ok (.iload_n 2, 1) := by decide +kernel
theorem dX1_isBetterGiver_35 : decode cX1_isBetterGiver 35 = .ok (.invokevirtual 85, 3) := by decide +kernel
theorem dX1_isBetterGiver_38 : decode cX1_isBetterGiver 38 = .ok (.ifCond .ne 7, 3) := by decide +kernel
theorem dX1_isBetterGiver_41 : decode cX1_isBetterGiver 41 = .ok (.iconst 1, 1) := by decide +kernel
theorem dX1_isBetterGiver_42 : decode cX1_isBetterGiver 42 = .ok (.goto 4, 3) := by decide +kernel
theorem dX1_isBetterGiver_45 : decode cX1_isBetterGiver 45 = .ok (.iconst 0, 1) := by decide +kernel
theorem dX1_isBetterGiver_46 : decode cX1_isBetterGiver 46 = .ok (.ireturn, 1) := by decide +kernel
theorem dX1_holds_0 : decode cX1_holds 0 = .ok (.iload_n 1, 1) := by decide +kernel
theorem dX1_holds_1 : decode cX1_holds 1 = .ok (.ifCond .lt 23, 3) := by decide +kernel
theorem dX1_holds_4 : decode cX1_holds 4 = .ok (.iload_n 1, 1) := by decide +kernel
theorem dX1_holds_5 : decode cX1_holds 5 = .ok (.bipush 12, 2) := by decide +kernel
theorem dX1_holds_7 : decode cX1_holds 7 = .ok (.if_icmp .ge 17, 3) := by decide +kernel
theorem dX1_holds_10 : decode cX1_holds 10 = .ok (.aload_n 0, 1) := by decide +kernel
theorem dX1_holds_11 : decode cX1_holds 11 = .ok (.getfield 15, 3) := by decide +kernel
theorem dX1_holds_14 : decode cX1_holds 14 = .ok (.iload_n 1, 1) := by decide +kernel
theorem dX1_holds_15 : decode cX1_holds 15 = .ok (.iaload, 1) := by decide +kernel
theorem dX1_holds_16 : decode cX1_holds 16 = .ok (.iconst (-1), 1) := by decide +kernel
theorem dX1_holds_17 : decode cX1_holds 17 = .ok (.if_icmp .eq 7, 3) := by decide +kernel
theorem dX1_holds_20 : decode cX1_holds 20 = .ok (.iconst 1, 1) := by decide +kernel
theorem dX1_holds_21 : decode cX1_holds 21 = .ok (.goto 4, 3) := by decide +kernel
theorem dX1_holds_24 : decode cX1_holds 24 = .ok (.iconst 0, 1) := by decide +kernel
theorem dX1_holds_25 : decode cX1_holds 25 = .ok (.ireturn, 1) := by decide +kernel
theorem dX1_giverOf_0 : decode cX1_giverOf 0 = .ok (.aload_n 0, 1) := by decide +kernel
theorem dX1_giverOf_1 : decode cX1_giverOf 1 = .ok (.getfield 39, 3) := by decide +kernel
theorem dX1_giverOf_4 : decode cX1_giverOf 4 = .ok (.iload_n 1, 1) := by decide +kernel
theorem dX1_giverOf_5 : decode cX1_giverOf 5 = .ok (.aaload, 1) := by decide +kernel
theorem dX1_giverOf_6 : decode cX1_giverOf 6 = .ok (.iload_n 2, 1) := by decide +kernel
theorem dX1_giverOf_7 : decode cX1_giverOf 7 = .ok (.invokevirtual 88, 3) := by decide +kernel
theorem dX1_giverOf_10 : decode cX1_giverOf 10 = .ok (.ifCond .eq 7, 3) := by decide +kernel
theorem dX1_giverOf_13 : decode cX1_giverOf 13 = .ok (.iload_n 1, 1) := by decide +kernel
theorem dX1_giverOf_14 : decode cX1_giverOf 14 = .ok (.goto 9, 3) := by decide +kernel
theorem dX1_giverOf_17 : decode cX1_giverOf 17 = .ok (.aload_n 0, 1) := by decide +kernel
theorem dX1_giverOf_18 : decode cX1_giverOf 18 = .ok (.getfield 32, 3) := by decide +kernel
theorem dX1_giverOf_21 : decode cX1_giverOf 21 = .ok (.iload_n 2, 1) := by decide +kernel
theorem dX1_giverOf_22 : decode cX1_giverOf 22 = .ok (.iaload, 1) := by decide +kernel
theorem dX1_giverOf_23 : decode cX1_giverOf 23 = .ok (.ireturn, 1) := by decide +kernel
theorem dX1_findFault_0 : decode cX1_findFault 0 = .ok (.aload_n 1, 1) := by decide +kernel
theorem dX1_findFault_1 : decode cX1_findFault 1 = .ok (.iconst 0, 1) := by decide +kernel
theorem dX1_findFault_2 : decode cX1_findFault 2 = .ok (.iconst (-1), 1) := by decide +kernel
theorem dX1_findFault_3 : decode cX1_findFault 3 = .ok (.iconst (-1), 1) := by decide +kernel
theorem dX1_findFault_4 : decode cX1_findFault 4 = .ok (.iconst (-1), 1) := by decide +kernel
theorem dX1_findFault_5 : decode cX1_findFault 5 = .ok (.invokevirtual 91, 3) := by decide +kernel
theorem dX1_findFault_8 : decode cX1_findFault 8 = .ok (.iconst 0, 1) := by decide +kernel
theorem dX1_findFault_9 : decode cX1_findFault 9 = .ok (.istore_n 2, 1) := by decide +kernel
theorem dX1_findFault_10 : decode cX1_findFault 10 = .ok (.iload_n 2, 1) := by decide +kernel
theorem dX1_findFault_11 : decode cX1_findFault 11 = .ok (.aload_n 0, 1) := by decide +kernel
theorem dX1_findFault_12 : decode cX1_findFault 12 = .ok (.getfield 18, 3) := by decide +kernel
theorem dX1_findFault_15 : decode cX1_findFault 15 = .ok (.if_icmp .ge 27, 3) := by decide +kernel
theorem dX1_findFault_18 : decode cX1_findFault 18 = .ok (.aload_n 1, 1) := by decide +kernel
theorem dX1_findFault_19 : decode cX1_findFault 19 = .ok (.getfield 97, 3) := by decide +kernel
theorem dX1_findFault_22 : decode cX1_findFault 22 = .ok (.ifCond .ne 20, 3) := by decide +kernel
theorem dX1_findFault_25 : decode cX1_findFault 25 = .ok (.aload_n 0, 1) := by decide +kernel
theorem dX1_findFault_26 : decode cX1_findFault 26 = .ok (.aload_n 0, 1) := by decide +kernel
theorem dX1_findFault_27 : decode cX1_findFault 27 = .ok (.getfield 9, 3) := by decide +kernel
theorem dX1_findFault_30 : decode cX1_findFault 30 = .ok (.iload_n 2, 1) := by decide +kernel
theorem dX1_findFault_31 : decode cX1_findFault 31 = .ok (.iaload, 1) := by decide +kernel
theorem dX1_findFault_32 : decode cX1_findFault 32 = .ok (.aload_n 1, 1) := by decide +kernel
theorem dX1_findFault_33 : decode cX1_findFault 33 = .ok (.invokevirtual 100, 3) := by decide +kernel
theorem dX1_findFault_36 : decode cX1_findFault 36 = .ok (.iinc 2 1, 3) := by decide +kernel
theorem dX1_findFault_39 : decode cX1_findFault 39 = .ok (.goto (-29), 3) := by decide +kernel
theorem dX1_findFault_42 : decode cX1_findFault 42 = .ok (.return_, 1) := by decide +kernel
theorem dX1_findFaultIn_0 : decode cX1_findFaultIn 0 = .ok (.aload_n 0, 1) := by decide +kernel
theorem dX1_findFaultIn_1 : decode cX1_findFaultIn 1 = .ok (.getfield 39, 3) := by decide +kernel
theorem dX1_findFaultIn_4 : decode cX1_findFaultIn 4 = .ok (.iload_n 1, 1) := by decide +kernel
theorem dX1_findFaultIn_5 : decode cX1_findFaultIn 5 = .ok (.aaload, 1) := by decide +kernel
theorem dX1_findFaultIn_6 : decode cX1_findFaultIn 6 = .ok (.astore_n 3, 1) := by decide +kernel
theorem dX1_findFaultIn_7 : decode cX1_findFaultIn 7 = .ok (.aload_n 0, 1) := by decide +kernel
theorem dX1_findFaultIn_8 : decode cX1_findFaultIn 8 = .ok (.iload_n 1, 1) := by decide +kernel
theorem dX1_findFaultIn_9 : decode cX1_findFaultIn 9 = .ok (.iconst (-1), 1) := by decide +kernel
theorem dX1_findFaultIn_10 : decode cX1_findFaultIn 10 = .ok (.aload_n 3, 1) := by decide +kernel
theorem dX1_findFaultIn_11 : decode cX1_findFaultIn 11 = .ok (.getfield 104, 3) := by decide +kernel
theorem dX1_findFaultIn_14 : decode cX1_findFaultIn 14 = .ok (.iconst 0, 1) := by decide +kernel
theorem dX1_findFaultIn_15 : decode cX1_findFaultIn 15 = .ok (.aload_n 2, 1) := by decide +kernel
theorem dX1_findFaultIn_16 : decode cX1_findFaultIn 16 = .ok (.invokevirtual 107, 3) := by decide +kernel
theorem dX1_findFaultIn_19 : decode cX1_findFaultIn 19 = .ok (.iconst 0, 1) := by decide +kernel
theorem dX1_findFaultIn_20 : decode cX1_findFaultIn 20 = .ok (.istore 4, 2) := by decide +kernel
theorem dX1_findFaultIn_22 : decode cX1_findFaultIn 22 = .ok (.iload 4, 2) := by decide +kernel
theorem dX1_findFaultIn_24 : decode cX1_findFaultIn 24 = .ok (.aload_n 3, 1) := by decide +kernel
theorem dX1_findFaultIn_25 : decode cX1_findFaultIn 25 = .ok (.getfield 111, 3) := by decide +kernel
theorem dX1_findFaultIn_28 : decode cX1_findFaultIn 28 = .ok (.if_icmp .ge 36, 3) := by decide +kernel
theorem dX1_findFaultIn_31 : decode cX1_findFaultIn 31 = .ok (.aload_n 2, 1) := by decide +kernel
theorem dX1_findFaultIn_32 : decode cX1_findFaultIn 32 = .ok (.getfield 97, 3) := by decide +kernel
theorem dX1_findFaultIn_35 : decode cX1_findFaultIn 35 = .ok (.ifCond .ne 29, 3) := by decide +kernel
theorem dX1_findFaultIn_38 : decode cX1_findFaultIn 38 = .ok (.aload_n 0, 1) := by decide +kernel
theorem dX1_findFaultIn_39 : decode cX1_findFaultIn 39 = .ok (.iload_n 1, 1) := by decide +kernel
theorem dX1_findFaultIn_40 : decode cX1_findFaultIn 40 = .ok (.iload 4, 2) := by decide +kernel
theorem dX1_findFaultIn_42 : decode cX1_findFaultIn 42 = .ok (.aload_n 3, 1) := by decide +kernel
theorem dX1_findFaultIn_43 : decode cX1_findFaultIn 43 = .ok (.iload 4, 2) := by decide +kernel
theorem dX1_findFaultIn_45 : decode cX1_findFaultIn 45 = .ok (.invokevirtual 114, 3) := by decide +kernel
theorem dX1_findFaultIn_48 : decode cX1_findFaultIn 48 = .ok (.aload_n 3, 1) := by decide +kernel
theorem dX1_findFaultIn_49 : decode cX1_findFaultIn 49 = .ok (.iload 4, 2) := by decide +kernel
theorem dX1_findFaultIn_51 : decode cX1_findFaultIn 51 = .ok (.invokevirtual 118, 3) := by decide +kernel
theorem dX1_findFaultIn_54 : decode cX1_findFaultIn 54 = .ok (.aload_n 2, 1) := by decide +kernel
theorem dX1_findFaultIn_55 : decode cX1_findFaultIn 55 = .ok (.invokevirtual 107, 3) := by decide +kernel
theorem dX1_findFaultIn_58 : decode cX1_findFaultIn 58 = .ok (.iinc 4 1, 3) := by decide +kernel
theorem dX1_findFaultIn_61 : decode cX1_findFaultIn 61 = .ok (.goto (-39), 3) := by decide +kernel
theorem dX1_findFaultIn_64 : decode cX1_findFaultIn 64 = .ok (.return_, 1) := by decide +kernel
theorem dX1_lookAtUse_0 : decode cX1_lookAtUse 0 = .ok (.iload_n 3, 1) := by decide +kernel
theorem dX1_lookAtUse_1 : decode cX1_lookAtUse 1 = .ok (.iconst (-1), 1) := by decide +kernel
theorem dX1_lookAtUse_2 : decode cX1_lookAtUse 2 = .ok (.if_icmp .ne 4, 3) := by decide +kernel
theorem dX1_lookAtUse_5 : decode cX1_lookAtUse 5 = .ok (.return_, 1) := by decide +kernel
theorem dX1_lookAtUse_6 : decode cX1_lookAtUse 6 = .ok (.aload_n 0, 1) := by decide +kernel
theorem dX1_lookAtUse_7 : decode cX1_lookAtUse 7 = .ok (.iload_n 1, 1) := by decide +kernel
theorem dX1_lookAtUse_8 : decode cX1_lookAtUse 8 = .ok (.iload_n 3, 1) := by decide +kernel
theorem dX1_lookAtUse_9 : decode cX1_lookAtUse 9 = .ok (.invokevirtual 121, 3) := by decide +kernel
theorem dX1_lookAtUse_12 : decode cX1_lookAtUse 12 = .ok (.istore 6, 2) := by decide +kernel
theorem dX1_lookAtUse_14 : decode cX1_lookAtUse 14 = .ok (.aload_n 0, 1) := by decide +kernel
theorem dX1_lookAtUse_15 : decode cX1_lookAtUse 15 = .ok (.iload 6, 2) := by decide +kernel
theorem dX1_lookAtUse_17 : decode cX1_lookAtUse 17 = .ok (.invokevirtual 82, 3) := by decide +kernel
theorem dX1_lookAtUse_20 : decode cX1_lookAtUse 20 = .ok (.ifCond .ne 29, 3) := by decide +kernel
theorem dX1_lookAtUse_23 : decode cX1_lookAtUse 23 = .ok (.aload_n 0, 1) := by decide +kernel
theorem dX1_lookAtUse_24 : decode cX1_lookAtUse 24 = .ok (.getfield 39, 3) := by decide +kernel
theorem dX1_lookAtUse_27 : decode cX1_lookAtUse 27 = .ok (.iload_n 1, 1) := by decide +kernel
theorem dX1_lookAtUse_28 : decode cX1_lookAtUse 28 = .ok (.aaload, 1) := by decide +kernel
theorem dX1_lookAtUse_29 : decode cX1_lookAtUse 29 = .ok (.getfield 125, 3) := by decide +kernel
theorem dX1_lookAtUse_32 : decode cX1_lookAtUse 32 = .ok (.iload_n 3, 1) := by decide +kernel
theorem dX1_lookAtUse_33 : decode cX1_lookAtUse 33 = .ok (.baload, 1) := by decide +kernel
theorem dX1_lookAtUse_34 : decode cX1_lookAtUse 34 = .ok (.ifCond .ne 41, 3) := by decide +kernel
theorem dX1_lookAtUse_37 : decode cX1_lookAtUse 37 = .ok (.aload 5, 2) := by decide +kernel
theorem dX1_lookAtUse_39 : decode cX1_lookAtUse 39 = .ok (.iconst 1, 1) := by decide +kernel
theorem dX1_lookAtUse_40 : decode cX1_lookAtUse 40 = .ok (.iload_n 1, 1) := by decide +kernel
theorem dX1_lookAtUse_41 : decode cX1_lookAtUse 41 = .ok (.iload_n 2, 1) := by decide +kernel
theorem dX1_lookAtUse_42 : decode cX1_lookAtUse 42 = .ok (.iload_n 3, 1) := by decide +kernel
theorem dX1_lookAtUse_43 : decode cX1_lookAtUse 43 = .ok (.invokevirtual 91, 3) := by decide +kernel
theorem dX1_lookAtUse_46 : decode cX1_lookAtUse 46 = .ok (.goto 29, 3) := by decide +kernel
theorem dX1_lookAtUse_49 : decode cX1_lookAtUse 49 = .ok (.aload_n 0, 1) := by decide +kernel
theorem dX1_lookAtUse_50 : decode cX1_lookAtUse 50 = .ok (.getfield 39, 3) := by decide +kernel
theorem dX1_lookAtUse_53 : decode cX1_lookAtUse 53 = .ok (.iload 6, 2) := by decide +kernel
theorem dX1_lookAtUse_55 : decode cX1_lookAtUse 55 = .ok (.aaload, 1) := by decide +kernel
theorem dX1_lookAtUse_56 : decode cX1_lookAtUse 56 = .ok (.getfield 128, 3) := by decide +kernel
theorem dX1_lookAtUse_59 : decode cX1_lookAtUse 59 = .ok (.iload_n 3, 1) := by decide +kernel
theorem dX1_lookAtUse_60 : decode cX1_lookAtUse 60 = .ok (.iaload, 1) := by decide +kernel
theorem dX1_lookAtUse_61 : decode cX1_lookAtUse 61 = .ok (.iload 4, 2) := by decide +kernel
theorem dX1_lookAtUse_63 : decode cX1_lookAtUse 63 = .ok (.if_icmp .eq 12, 3) := by decide +kernel
theorem dX1_lookAtUse_66 : decode cX1_lookAtUse 66 = .ok (.aload 5, 2) := by decide +kernel
theorem dX1_lookAtUse_68 : decode cX1_lookAtUse 68 = .ok (.iconst 2, 1) := by decide +kernel
theorem dX1_lookAtUse_69 : decode cX1_lookAtUse 69 = .ok (.iload_n 1, 1) := by decide +kernel
theorem dX1_lookAtUse_70 : decode cX1_lookAtUse 70 = .ok (.iload_n 2, 1) := by decide +kernel
theorem dX1_lookAtUse_71 : decode cX1_lookAtUse 71 = .ok (.iload_n 3, 1) := by decide +kernel
theorem dX1_lookAtUse_72 : decode cX1_lookAtUse 72 = .ok (.invokevirtual 91, 3) := by decide +kernel
theorem dX1_lookAtUse_75 : decode cX1_lookAtUse 75 = .ok (.return_, 1) := by decide +kernel
theorem dX1_refresh_0 : decode cX1_refresh 0 = .ok (.iconst 0, 1) := by decide +kernel
theorem dX1_refresh_1 : decode cX1_refresh 1 = .ok (.istore_n 1, 1) := by decide +kernel
theorem dX1_refresh_2 : decode cX1_refresh 2 = .ok (.iload_n 1, 1) := by decide +kernel
theorem dX1_refresh_3 : decode cX1_refresh 3 = .ok (.aload_n 0, 1) := by decide +kernel
theorem dX1_refresh_4 : decode cX1_refresh 4 = .ok (.getfield 18, 3) := by decide +kernel
theorem dX1_refresh_7 : decode cX1_refresh 7 = .ok (.if_icmp .ge 46, 3) := by decide +kernel
theorem dX1_refresh_10 : decode cX1_refresh 10 = .ok (.aload_n 0, 1) := by decide +kernel
theorem dX1_refresh_11 : decode cX1_refresh 11 = .ok (.getfield 9, 3) := by decide +kernel
theorem dX1_refresh_14 : decode cX1_refresh 14 = .ok (.iload_n 1, 1) := by decide +kernel
theorem dX1_refresh_15 : decode cX1_refresh 15 = .ok (.iaload, 1) := by decide +kernel
theorem dX1_refresh_16 : decode cX1_refresh 16 = .ok (.istore_n 2, 1) := by decide +kernel
theorem dX1_refresh_17 : decode cX1_refresh 17 = .ok (.aload_n 0, 1) := by decide +kernel
theorem dX1_refresh_18 : decode cX1_refresh 18 = .ok (.getfield 39, 3) := by decide +kernel
theorem dX1_refresh_21 : decode cX1_refresh 21 = .ok (.iload_n 2, 1) := by decide +kernel
theorem dX1_refresh_22 : decode cX1_refresh 22 = .ok (.aaload, 1) := by decide +kernel
theorem dX1_refresh_23 : decode cX1_refresh 23 = .ok (.getfield 131, 3) := by decide +kernel
theorem dX1_refresh_26 : decode cX1_refresh 26 = .ok (.iconst 0, 1) := by decide +kernel
theorem dX1_refresh_27 : decode cX1_refresh 27 = .ok (.aload_n 0, 1) := by decide +kernel
theorem dX1_refresh_28 : decode cX1_refresh 28 = .ok (.getfield 39, 3) := by decide +kernel
theorem dX1_refresh_31 : decode cX1_refresh 31 = .ok (.iload_n 2, 1) := by decide +kernel
theorem dX1_refresh_32 : decode cX1_refresh 32 = .ok (.aaload, 1) := by decide +kernel
theorem dX1_refresh_33 : decode cX1_refresh 33 = .ok (.getfield 134, 3) := by decide +kernel
theorem dX1_refresh_36 : decode cX1_refresh 36 = .ok (.iconst 0, 1) := by decide +kernel
theorem dX1_refresh_37 : decode cX1_refresh 37 = .ok (.bipush 64, 2) := by decide +kernel
theorem dX1_refresh_39 : decode cX1_refresh 39 = .ok (.invokestatic 137, 3) := by decide +kernel
theorem dX1_refresh_42 : decode cX1_refresh 42 = .ok (.aload_n 0, 1) := by decide +kernel
theorem dX1_refresh_43 : decode cX1_refresh 43 = .ok (.iload_n 2, 1) := by decide +kernel
theorem dX1_refresh_44 : decode cX1_refresh 44 = .ok (.invokevirtual 143, 3) := by decide +kernel
theorem dX1_refresh_47 : decode cX1_refresh 47 = .ok (.iinc 1 1, 3) := by decide +kernel
theorem dX1_refresh_50 : decode cX1_refresh 50 = .ok (.goto (-48), 3) := by decide +kernel
theorem dX1_refresh_53 : decode cX1_refresh 53 = .ok (.return_, 1) := by decide +kernel
theorem dX1_refreshSlots_0 : decode cX1_refreshSlots 0 = .ok (.aload_n 0, 1) := by decide +kernel
theorem dX1_refreshSlots_1 : decode cX1_refreshSlots 1 = .ok (.getfield 39, 3) := by decide +kernel
theorem dX1_refreshSlots_4 : decode cX1_refreshSlots 4 = .ok (.iload_n 1, 1) := by decide +kernel
theorem dX1_refreshSlots_5 : decode cX1_refreshSlots 5 = .ok (.aaload, 1) := by decide +kernel
theorem dX1_refreshSlots_6 : decode cX1_refreshSlots 6 = .ok (.astore_n 2, 1) := by decide +kernel
theorem dX1_refreshSlots_7 : decode cX1_refreshSlots 7 = .ok (.iconst 0, 1) := by decide +kernel
theorem dX1_refreshSlots_8 : decode cX1_refreshSlots 8 = .ok (.istore_n 3, 1) := by decide +kernel
theorem dX1_refreshSlots_9 : decode cX1_refreshSlots 9 = .ok (.iload_n 3, 1) := by decide +kernel
theorem dX1_refreshSlots_10 : decode cX1_refreshSlots 10 = .ok (.aload_n 2, 1) := by decide +kernel
theorem dX1_refreshSlots_11 : decode cX1_refreshSlots 11 = .ok (.getfield 111, 3) := by decide +kernel
theorem dX1_refreshSlots_14 : decode cX1_refreshSlots 14 = .ok (.if_icmp .ge 54, 3) := by decide +kernel
theorem dX1_refreshSlots_17 : decode cX1_refreshSlots 17 = .ok (.aload_n 2, 1) := by decide +kernel
theorem dX1_refreshSlots_18 : decode cX1_refreshSlots 18 = .ok (.getfield 146, 3) := by decide +kernel
theorem dX1_refreshSlots_21 : decode cX1_refreshSlots 21 = .ok (.iload_n 3, 1) := by decide +kernel
theorem dX1_refreshSlots_22 : decode cX1_refreshSlots 22 = .ok (.iaload, 1) := by decide +kernel
theorem dX1_refreshSlots_23 : decode cX1_refreshSlots 23 = .ok (.bipush 7, 2) := by decide +kernel
theorem dX1_refreshSlots_25 : decode cX1_refreshSlots 25 = .ok (.if_icmp .ne 37, 3) := by decide +kernel
theorem dX1_refreshSlots_28 : decode cX1_refreshSlots 28 = .ok (.aload_n 2, 1) := by decide +kernel
theorem dX1_refreshSlots_29 : decode cX1_refreshSlots 29 = .ok (.getfield 149, 3) := by decide +kernel
theorem dX1_refreshSlots_32 : decode cX1_refreshSlots 32 = .ok (.iload_n 3, 1) := by decide +kernel
theorem dX1_refreshSlots_33 : decode cX1_refreshSlots 33 = .ok (.iaload, 1) := by decide +kernel
theorem dX1_refreshSlots_34 : decode cX1_refreshSlots 34 = .ok (.istore 4, 2) := by decide +kernel
theorem dX1_refreshSlots_36 : decode cX1_refreshSlots 36 = .ok (.aload_n 2, 1) := by decide +kernel
theorem dX1_refreshSlots_37 : decode cX1_refreshSlots 37 = .ok (.getfield 152, 3) := by decide +kernel
theorem dX1_refreshSlots_40 : decode cX1_refreshSlots 40 = .ok (.iload 4, 2) := by decide +kernel
theorem dX1_refreshSlots_42 : decode cX1_refreshSlots 42 = .ok (.aload_n 0, 1) := by decide +kernel
theorem dX1_refreshSlots_43 : decode cX1_refreshSlots 43 = .ok (.getfield 35, 3) := by decide +kernel
theorem dX1_refreshSlots_46 : decode cX1_refreshSlots 46 = .ok (.ifCond .eq 8, 3) := by decide +kernel
theorem dX1_refreshSlots_49 : decode cX1_refreshSlots 49 = .ok (.bipush 21, 2) := by decide +kernel
theorem dX1_refreshSlots_51 : decode cX1_refreshSlots 51 = .ok (.goto 10, 3) := by decide +kernel
theorem dX1_refreshSlots_54 : decode cX1_refreshSlots 54 = .ok (.aload_n 0, 1) := by decide +kernel
theorem dX1_refreshSlots_55 : decode cX1_refreshSlots 55 = .ok (.iload_n 1, 1) := by decide +kernel
theorem dX1_refreshSlots_56 : decode cX1_refreshSlots 56 = .ok (.iload 4, 2) := by decide +kernel
theorem dX1_refreshSlots_58 : decode cX1_refreshSlots 58 = .ok (.invokevirtual 121, 3) := by decide +kernel
theorem dX1_refreshSlots_61 : decode cX1_refreshSlots 61 = .ok (.iastore, 1) := by decide +kernel
theorem dX1_refreshSlots_62 : decode cX1_refreshSlots 62 = .ok (.iinc 3 1, 3) := by decide +kernel
theorem dX1_refreshSlots_65 : decode cX1_refreshSlots 65 = .ok (.goto (-56), 3) := by decide +kernel
theorem dX1_refreshSlots_68 : decode cX1_refreshSlots 68 = .ok (.return_, 1) := by decide +kernel
theorem dX1_isTrulyBound_0 : decode cX1_isTrulyBound 0 = .ok (.iconst 0, 1) := by decide +kernel
theorem dX1_isTrulyBound_1 : decode cX1_isTrulyBound 1 = .ok (.istore_n 1, 1) := by decide +kernel
theorem dX1_isTrulyBound_2 : decode cX1_isTrulyBound 2 = .ok (.iload_n 1, 1) := by decide +kernel
theorem dX1_isTrulyBound_3 : decode cX1_isTrulyBound 3 = .ok (.aload_n 0, 1) := by decide +kernel
theorem dX1_isTrulyBound_4 : decode cX1_isTrulyBound 4 = .ok (.getfield 18, 3) := by decide +kernel
theorem dX1_isTrulyBound_7 : decode cX1_isTrulyBound 7 = .ok (.if_icmp .ge 69, 3) := by decide +kernel
theorem dX1_isTrulyBound_10 : decode cX1_isTrulyBound 10 = .ok (.aload_n 0, 1) := by decide +kernel
theorem dX1_isTrulyBound_11 : decode cX1_isTrulyBound 11 = .ok (.getfield 9, 3) := by decide +kernel
theorem dX1_isTrulyBound_14 : decode cX1_isTrulyBound 14 = .ok (.iload_n 1, 1) := by decide +kernel
theorem dX1_isTrulyBound_15 : decode cX1_isTrulyBound 15 = .ok (.iaload, 1) := by decide +kernel
theorem dX1_isTrulyBound_16 : decode cX1_isTrulyBound 16 = .ok (.istore_n 2, 1) := by decide +kernel
theorem dX1_isTrulyBound_17 : decode cX1_isTrulyBound 17 = .ok (.iconst 0, 1) := by decide +kernel
theorem dX1_isTrulyBound_18 : decode cX1_isTrulyBound 18 = .ok (.istore_n 3, 1) := by decide +kernel
theorem dX1_isTrulyBound_19 : decode cX1_isTrulyBound 19 = .ok (.iload_n 3, 1) := by decide +kernel
theorem dX1_isTrulyBound_20 : decode cX1_isTrulyBound 20 = .ok (.bipush 64, 2) := by decide +kernel
theorem dX1_isTrulyBound_22 : decode cX1_isTrulyBound 22 = .ok (.if_icmp .ge 48, 3) := by decide +kernel
theorem dX1_isTrulyBound_25 : decode cX1_isTrulyBound 25 = .ok (.aload_n 0, 1) := by decide +kernel
theorem dX1_isTrulyBound_26 : decode cX1_isTrulyBound 26 = .ok (.getfield 39, 3) := by decide +kernel
theorem dX1_isTrulyBound_29 : decode cX1_isTrulyBound 29 = .ok (.iload_n 2, 1) := by decide +kernel
theorem dX1_isTrulyBound_30 : decode cX1_isTrulyBound 30 = .ok (.aaload, 1) := by decide +kernel
theorem dX1_isTrulyBound_31 : decode cX1_isTrulyBound 31 = .ok (.getfield 152, 3) := by decide +kernel
theorem dX1_isTrulyBound_34 : decode cX1_isTrulyBound 34 = .ok (.iload_n 3, 1) := by decide +kernel
theorem dX1_isTrulyBound_35 : decode cX1_isTrulyBound 35 = .ok (.iaload, 1) := by decide +kernel
theorem dX1_isTrulyBound_36 : decode cX1_isTrulyBound 36 = .ok (.istore 4, 2) := by decide +kernel
theorem dX1_isTrulyBound_38 : decode cX1_isTrulyBound 38 = .ok (.iload 4, 2) := by decide +kernel
theorem dX1_isTrulyBound_40 : decode cX1_isTrulyBound 40 = .ok (.iconst (-1), 1) := by decide +kernel
theorem dX1_isTrulyBound_41 : decode cX1_isTrulyBound 41 = .ok (.if_icmp .eq 23, 3) := by decide +kernel
theorem dX1_isTrulyBound_44 : decode cX1_isTrulyBound 44 = .ok (.iload 4, 2) := by decide +kernel
theorem dX1_isTrulyBound_46 : decode cX1_isTrulyBound 46 = .ok (.bipush 21, 2) := by decide +kernel
theorem dX1_isTrulyBound_48 : decode cX1_isTrulyBound 48 = .ok (.if_icmp .eq 16, 3) := by decide +kernel
theorem dX1_isTrulyBound_51 : decode cX1_isTrulyBound 51 = .ok (.iload 4, 2) := by decide +kernel
theorem dX1_isTrulyBound_53 : decode cX1_isTrulyBound 53 = .ok (.aload_n 0, 1) := by decide +kernel
theorem dX1_isTrulyBound_54 : decode cX1_isTrulyBound 54 = .ok (.iload_n 2, 1) := by decide +kernel
theorem dX1_isTrulyBound_55 : decode cX1_isTrulyBound 55 = .ok (.iload_n 3, 1) := by decide +kernel
theorem dX1_isTrulyBound_56 : decode cX1_isTrulyBound 56 = .ok (.invokevirtual 121, 3) := by decide +kernel
theorem dX1_isTrulyBound_59 : decode cX1_isTrulyBound 59 = .ok (.if_icmp .eq 5, 3) := by decide +kernel
theorem dX1_isTrulyBound_62 : decode cX1_isTrulyBound 62 = .ok (.iconst 0, 1) := by decide +kernel
theorem dX1_isTrulyBound_63 : decode cX1_isTrulyBound 63 = .ok (.ireturn, 1) := by decide +kernel
theorem dX1_isTrulyBound_64 : decode cX1_isTrulyBound 64 = .ok (.iinc 3 1, 3) := by decide +kernel
theorem dX1_isTrulyBound_67 : decode cX1_isTrulyBound 67 = .ok (.goto (-48), 3) := by decide +kernel
theorem dX1_isTrulyBound_70 : decode cX1_isTrulyBound 70 = .ok (.iinc 1 1, 3) := by decide +kernel
theorem dX1_isTrulyBound_73 : decode cX1_isTrulyBound 73 = .ok (.goto (-71), 3) := by decide +kernel
theorem dX1_isTrulyBound_76 : decode cX1_isTrulyBound 76 = .ok (.iconst 1, 1) := by decide +kernel
theorem dX1_isTrulyBound_77 : decode cX1_isTrulyBound 77 = .ok (.ireturn, 1) := by decide +kernel
theorem dX1_addressOf_0 : decode cX1_addressOf 0 = .ok (.aload_n 0, 1) := by decide +kernel
theorem dX1_addressOf_1 : decode cX1_addressOf 1 = .ok (.iload_n 1, 1) := by decide +kernel
theorem dX1_addressOf_2 : decode cX1_addressOf 2 = .ok (.iload_n 2, 1) := by decide +kernel
theorem dX1_addressOf_3 : decode cX1_addressOf 3 = .ok (.invokevirtual 121, 3) := by decide +kernel
theorem dX1_addressOf_6 : decode cX1_addressOf 6 = .ok (.istore_n 3, 1) := by decide +kernel
theorem dX1_addressOf_7 : decode cX1_addressOf 7 = .ok (.aload_n 0, 1) := by decide +kernel
theorem dX1_addressOf_8 : decode cX1_addressOf 8 = .ok (.iload_n 3, 1) := by decide +kernel
theorem dX1_addressOf_9 : decode cX1_addressOf 9 = .ok (.invokevirtual 82, 3) := by decide +kernel
theorem dX1_addressOf_12 : decode cX1_addressOf 12 = .ok (.ifCond .eq 30, 3) := by decide +kernel
theorem dX1_addressOf_15 : decode cX1_addressOf 15 = .ok (.sipush 1000, 3) := by decide +kernel
theorem dX1_addressOf_18 : decode cX1_addressOf 18 = .ok (.aload_n 0, 1) := by decide +kernel
theorem dX1_addressOf_19 : decode cX1_addressOf 19 = .ok (.getfield 15, 3) := by decide +kernel
theorem dX1_addressOf_22 : decode cX1_addressOf 22 = .ok (.iload_n 3, 1) := by decide +kernel
theorem dX1_addressOf_23 : decode cX1_addressOf 23 = .ok (.iaload, 1) := by decide +kernel
theorem dX1_addressOf_24 : decode cX1_addressOf 24 = .ok (.iconst 1, 1) := by decide +kernel
theorem dX1_addressOf_25 : decode cX1_addressOf 25 = .ok (.iadd, 1) := by decide +kernel
theorem dX1_addressOf_26 : decode cX1_addressOf 26 = .ok (.imul, 1) := by decide +kernel
theorem dX1_addressOf_27 : decode cX1_addressOf 27 = .ok (.aload_n 0, 1) := by decide +kernel
theorem dX1_addressOf_28 : decode cX1_addressOf 28 = .ok (.getfield 39, 3) := by decide +kernel
theorem dX1_addressOf_31 : decode cX1_addressOf 31 = .ok (.iload_n 3, 1) := by decide +kernel
theorem dX1_addressOf_32 : decode cX1_addressOf 32 = .ok (.aaload, 1) := by decide +kernel
theorem dX1_addressOf_33 : decode cX1_addressOf 33 = .ok (.getfield 131, 3) := by decide +kernel
theorem dX1_addressOf_36 : decode cX1_addressOf 36 = .ok (.iload_n 2, 1) := by decide +kernel
theorem dX1_addressOf_37 : decode cX1_addressOf 37 = .ok (.iaload, 1) := by decide +kernel
theorem dX1_addressOf_38 : decode cX1_addressOf 38 = .ok (.iadd, 1) := by decide +kernel
theorem dX1_addressOf_39 : decode cX1_addressOf 39 = .ok (.goto 4, 3) := by decide +kernel
theorem dX1_addressOf_42 : decode cX1_addressOf 42 = .ok (.iconst 0, 1) := by decide +kernel
theorem dX1_addressOf_43 : decode cX1_addressOf 43 = .ok (.ireturn, 1) := by decide +kernel
