theorem dX4_init_0 : decode cX4_init 0 = .ok (.aload_n 0, 1) := by decide +kernel
theorem dX4_init_1 : decode cX4_init 1 = .ok (.invokespecial 1, 3) := by decide +kernel
theorem dX4_init_4 : decode cX4_init 4 = .ok (.aload_n 0, 1) := by decide +kernel
theorem dX4_init_5 : decode cX4_init 5 = .ok (.iconst 0, 1) := by decide +kernel
theorem dX4_init_6 : decode cX4_init 6 = .ok (.putfield 7, 3) := by decide +kernel
theorem dX4_init_9 : decode cX4_init 9 = .ok (.aload_n 0, 1) := by decide +kernel
theorem dX4_init_10 : decode cX4_init 10 = .ok (.new 13, 3) := by decide +kernel
theorem dX4_init_13 : decode cX4_init 13 = .ok (.dup, 1) := by decide +kernel
theorem dX4_init_14 : decode cX4_init 14 = .ok (.invokespecial 15, 3) := by decide +kernel
theorem dX4_init_17 : decode cX4_init 17 = .ok (.putfield 16, 3) := by decide +kernel
theorem dX4_init_20 : decode cX4_init 20 = .ok (.aload_n 0, 1) := by decide +kernel
theorem dX4_init_21 : decode cX4_init 21 = .ok (.new 20, 3) := by decide +kernel
theorem dX4_init_24 : decode cX4_init 24 = .ok (.dup, 1) := by decide +kernel
theorem dX4_init_25 : decode cX4_init 25 = .ok (.invokespecial 22, 3) := by decide +kernel
theorem dX4_init_28 : decode cX4_init 28 = .ok (.putfield 23, 3) := by decide +kernel
theorem dX4_init_31 : decode cX4_init 31 = .ok (.new 27, 3) := by decide +kernel
theorem dX4_init_34 : decode cX4_init 34 = .ok (.dup, 1) := by decide +kernel
theorem dX4_init_35 : decode cX4_init 35 = .ok (.invokespecial 29, 3) := by decide +kernel
theorem dX4_init_38 : decode cX4_init 38 = .ok (.astore_n 1, 1) := by decide +kernel
theorem dX4_init_39 : decode cX4_init 39 = .ok (.bipush 12, 2) := by decide +kernel
theorem dX4_init_41 : decode cX4_init 41 = .ok (.anewarray 27, 3) := by decide +kernel
theorem dX4_init_44 : decode cX4_init 44 = .ok (.astore_n 2, 1) := by decide +kernel
theorem dX4_init_45 : decode cX4_init 45 = .ok (.iconst 0, 1) := by decide +kernel
theorem dX4_init_46 : decode cX4_init 46 = .ok (.istore_n 3, 1) := by decide +kernel
theorem dX4_init_47 : decode cX4_init 47 = .ok (.iload_n 3, 1) := by decide +kernel
theorem dX4_init_48 : decode cX4_init 48 = .ok (.bipush 12, 2) := by decide +kernel
theorem dX4_init_50 : decode cX4_init 50 = .ok (.if_icmp .ge 13, 3) := by decide +kernel
theorem dX4_init_53 : decode cX4_init 53 = .ok (.aload_n 2, 1) := by decide +kernel
theorem dX4_init_54 : decode cX4_init 54 = .ok (.iload_n 3, 1) := by decide +kernel
theorem dX4_init_55 : decode cX4_init 55 = .ok (.aload_n 1, 1) := by decide +kernel
theorem dX4_init_56 : decode cX4_init 56 = .ok (.aastore, 1) := by decide +kernel
theorem dX4_init_57 : decode cX4_init 57 = .ok (.iinc 3 1, 3) := by decide +kernel
theorem dX4_init_60 : decode cX4_init 60 = .ok (.goto (-13), 3) := by decide +kernel
theorem dX4_init_63 : decode cX4_init 63 = .ok (.aload_n 0, 1) := by decide +kernel
theorem dX4_init_64 : decode cX4_init 64 = .ok (.aload_n 2, 1) := by decide +kernel
theorem dX4_init_65 : decode cX4_init 65 = .ok (.putfield 30, 3) := by decide +kernel
theorem dX4_init_68 : decode cX4_init 68 = .ok (.aload_n 0, 1) := by decide +kernel
theorem dX4_init_69 : decode cX4_init 69 = .ok (.new 34, 3) := by decide +kernel
theorem dX4_init_72 : decode cX4_init 72 = .ok (.dup, 1) := by decide +kernel
theorem dX4_init_73 : decode cX4_init 73 = .ok (.aload_n 2, 1) := by decide +kernel
theorem dX4_init_74 : decode cX4_init 74 = .ok (.invokespecial 36, 3) := by decide +kernel
theorem dX4_init_77 : decode cX4_init 77 = .ok (.putfield 39, 3) := by decide +kernel
theorem dX4_init_80 : decode cX4_init 80 = .ok (.aload_n 0, 1) := by decide +kernel
theorem dX4_init_81 : decode cX4_init 81 = .ok (.new 34, 3) := by decide +kernel
theorem dX4_init_84 : decode cX4_init 84 = .ok (.dup, 1) := by decide +kernel
theorem dX4_init_85 : decode cX4_init 85 = .ok (.aload_n 2, 1) := by decide +kernel
theorem dX4_init_86 : decode cX4_init 86 = .ok (.invokespecial 36, 3) := by decide +kernel
theorem dX4_init_89 : decode cX4_init 89 = .ok (.putfield 43, 3) := by decide +kernel
theorem dX4_init_92 : decode cX4_init 92 = .ok (.return_, 1) := by decide +kernel
theorem dX4_module_0 : decode cX4_module 0 = .ok (.aload_n 0, 1) := by decide +kernel
theorem dX4_module_1 : decode cX4_module 1 = .ok (.getfield 7, 3) := by decide +kernel
theorem dX4_module_4 : decode cX4_module 4 = .ok (.bipush 12, 2) := by decide +kernel
theorem dX4_module_6 : decode cX4_module 6 = .ok (.if_icmp .lt 5, 3) := by decide +kernel
theorem dX4_module_9 : decode cX4_module 9 = .ok (.iconst (-1), 1) := by decide +kernel
theorem dX4_module_10 : decode cX4_module 10 = .ok (.ireturn, 1) := by decide +kernel
theorem dX4_module_11 : decode cX4_module 11 = .ok (.aload_n 0, 1) := by decide +kernel
theorem dX4_module_12 : decode cX4_module 12 = .ok (.getfield 30, 3) := by decide +kernel
theorem dX4_module_15 : decode cX4_module 15 = .ok (.aload_n 0, 1) := by decide +kernel
theorem dX4_module_16 : decode cX4_module 16 = .ok (.getfield 7, 3) := by decide +kernel
theorem dX4_module_19 : decode cX4_module 19 = .ok (.new 27, 3) := by decide +kernel
theorem dX4_module_22 : decode cX4_module 22 = .ok (.dup, 1) := by decide +kernel
theorem dX4_module_23 : decode cX4_module 23 = .ok (.invokespecial 29, 3) := by decide +kernel
theorem dX4_module_26 : decode cX4_module 26 = .ok (.aastore, 1) := by decide +kernel
theorem dX4_module_27 : decode cX4_module 27 = .ok (.aload_n 0, 1) := by decide +kernel
theorem dX4_module_28 : decode cX4_module 28 = .ok (.dup, 1) := by decide +kernel
theorem dX4_module_29 : decode cX4_module 29 = .ok (.getfield 7, 3) := by decide +kernel
theorem dX4_module_32 : decode cX4_module 32 = .ok (.iconst 1, 1) := by decide +kernel
theorem dX4_module_33 : decode cX4_module 33 = .ok (.iadd, 1) := by decide +kernel
theorem dX4_module_34 : decode cX4_module 34 = .ok (.putfield 7, 3) := by decide +kernel
theorem dX4_module_37 : decode cX4_module 37 = .ok (.aload_n 0, 1) := by decide +kernel
theorem dX4_module_38 : decode cX4_module 38 = .ok (.getfield 7, 3) := by decide +kernel
theorem dX4_module_41 : decode cX4_module 41 = .ok (.iconst 1, 1) := by decide +kernel
theorem dX4_module_42 : decode cX4_module 42 = .ok (.isub, 1) := by decide +kernel
theorem dX4_module_43 : decode cX4_module 43 = .ok (.ireturn, 1) := by decide +kernel
theorem dX4_need_0 : decode cX4_need 0 = .ok (.aload_n 0, 1) := by decide +kernel
theorem dX4_need_1 : decode cX4_need 1 = .ok (.iload_n 1, 1) := by decide +kernel
theorem dX4_need_2 : decode cX4_need 2 = .ok (.invokevirtual 46, 3) := by decide +kernel
theorem dX4_need_5 : decode cX4_need 5 = .ok (.ifCond .eq 24, 3) := by decide +kernel
theorem dX4_need_8 : decode cX4_need 8 = .ok (.aload_n 0, 1) := by decide +kernel
theorem dX4_need_9 : decode cX4_need 9 = .ok (.iload_n 2, 1) := by decide +kernel
theorem dX4_need_10 : decode cX4_need 10 = .ok (.invokevirtual 46, 3) := by decide +kernel
theorem dX4_need_13 : decode cX4_need 13 = .ok (.ifCond .eq 16, 3) := by decide +kernel
theorem dX4_need_16 : decode cX4_need 16 = .ok (.aload_n 0, 1) := by decide +kernel
theorem dX4_need_17 : decode cX4_need 17 = .ok (.getfield 30, 3) := by decide +kernel
theorem dX4_need_20 : decode cX4_need 20 = .ok (.iload_n 1, 1) := by decide +kernel
theorem dX4_need_21 : decode cX4_need 21 = .ok (.aaload, 1) := by decide +kernel
theorem dX4_need_22 : decode cX4_need 22 = .ok (.iload_n 2, 1) := by decide +kernel
theorem dX4_need_23 : decode cX4_need 23 = .ok (.invokevirtual 50, 3) := by decide +kernel
theorem dX4_need_26 : decode cX4_need 26 = .ok (.ifCond .ne 5, 3) := by decide +kernel
theorem dX4_need_29 : decode cX4_need 29 = .ok (.iconst (-1), 1) := by decide +kernel
theorem dX4_need_30 : decode cX4_need 30 = .ok (.ireturn, 1) := by decide +kernel
theorem dX4_need_31 : decode cX4_need 31 = .ok (.aload_n 0, 1) := by decide +kernel
theorem dX4_need_32 : decode cX4_need 32 = .ok (.getfield 39, 3) := by decide +kernel
theorem dX4_need_35 : decode cX4_need 35 = .ok (.invokevirtual 53, 3) := by decide +kernel
theorem dX4_need_38 : decode cX4_need 38 = .ok (.aload_n 0, 1) := by decide +kernel
theorem dX4_need_39 : decode cX4_need 39 = .ok (.getfield 30, 3) := by decide +kernel
theorem dX4_need_42 : decode cX4_need 42 = .ok (.iload_n 1, 1) := by decide +kernel
theorem dX4_need_43 : decode cX4_need 43 = .ok (.aaload, 1) := by decide +kernel
theorem dX4_need_44 : decode cX4_need 44 = .ok (.getfield 56, 3) := by decide +kernel
theorem dX4_need_47 : decode cX4_need 47 = .ok (.ireturn, 1) := by decide +kernel
theorem dX4_define_0 : decode cX4_define 0 = .ok (.aload_n 0, 1) := by decide +kernel
theorem dX4_define_1 : decode cX4_define 1 = .ok (.iload_n 1, 1) := by decide +kernel
theorem dX4_define_2 : decode cX4_define 2 = .ok (.invokevirtual 46, 3) := by decide +kernel
theorem dX4_define_5 : decode cX4_define 5 = .ok (.ifCond .eq 21, 3) := by decide +kernel
theorem dX4_define_8 : decode cX4_define 8 = .ok (.iload_n 2, 1) := by decide +kernel
theorem dX4_define_9 : decode cX4_define 9 = .ok (.invokestatic 59, 3) := by decide +kernel
theorem dX4_define_12 : decode cX4_define 12 = .ok (.ifCond .eq 14, 3) := by decide +kernel
theorem dX4_define_15 : decode cX4_define 15 = .ok (.iload 5, 2) := by decide +kernel
theorem dX4_define_17 : decode cX4_define 17 = .ok (.ifCond .lt 9, 3) := by decide +kernel
theorem dX4_define_20 : decode cX4_define 20 = .ok (.iload 5, 2) := by decide +kernel
theorem dX4_define_22 : decode cX4_define 22 = .ok (.iconst 5, 1) := by decide +kernel
theorem dX4_define_23 : decode cX4_define 23 = .ok (.if_icmp .le 5, 3) := by decide +kernel
theorem dX4_define_26 : decode cX4_define 26 = .ok (.iconst (-1), 1) := by decide +kernel
theorem dX4_define_27 : decode cX4_define 27 = .ok (.ireturn, 1) := by decide +kernel
theorem dX4_define_28 : decode cX4_define 28 = .ok (.iload_n 3, 1) := by decide +kernel
theorem dX4_define_29 : decode cX4_define 29 = .ok (.iconst 1, 1) := by decide +kernel
theorem dX4_define_30 : decode cX4_define 30 = .ok (.if_icmp .eq 15, 3) := by decide +kernel
theorem dX4_define_33 : decode cX4_define 33 = .ok (.iload_n 3, 1) := by decide +kernel
theorem dX4_define_34 : decode cX4_define 34 = .ok (.ifCond .ne 15, 3) := by decide +kernel
theorem dX4_define_37 : decode cX4_define 37 = .ok (.iload 4, 2) := by decide +kernel
theorem dX4_define_39 : decode cX4_define 39 = .ok (.invokestatic 62, 3) := by decide +kernel
theorem dX4_define_42 : decode cX4_define 42 = .ok (.ifCond .eq 7, 3) := by decide +kernel
theorem dX4_define_45 : decode cX4_define 45 = .ok (.iconst 1, 1) := by decide +kernel
theorem dX4_define_46 : decode cX4_define 46 = .ok (.goto 4, 3) := by decide +kernel
theorem dX4_define_49 : decode cX4_define 49 = .ok (.iconst 0, 1) := by decide +kernel
theorem dX4_define_50 : decode cX4_define 50 = .ok (.istore 6, 2) := by decide +kernel
theorem dX4_define_52 : decode cX4_define 52 = .ok (.iload 6, 2) := by decide +kernel
theorem dX4_define_54 : decode cX4_define 54 = .ok (.ifCond .eq 21, 3) := by decide +kernel
theorem dX4_define_57 : decode cX4_define 57 = .ok (.aload_n 0, 1) := by decide +kernel
theorem dX4_define_58 : decode cX4_define 58 = .ok (.getfield 30, 3) := by decide +kernel
theorem dX4_define_61 : decode cX4_define 61 = .ok (.iload_n 1, 1) := by decide +kernel
theorem dX4_define_62 : decode cX4_define 62 = .ok (.aaload, 1) := by decide +kernel
theorem dX4_define_63 : decode cX4_define 63 = .ok (.iload_n 2, 1) := by decide +kernel
theorem dX4_define_64 : decode cX4_define 64 = .ok (.iload_n 3, 1) := by decide +kernel
theorem dX4_define_65 : decode cX4_define 65 = .ok (.iload 4, 2) := by decide +kernel
theorem dX4_define_67 : decode cX4_define 67 = .ok (.iload 5, 2) := by decide +kernel
theorem dX4_define_69 : decode cX4_define 69 = .ok (.invokevirtual 65, 3) := by decide +kernel
theorem dX4_define_72 : decode cX4_define 72 = .ok (.ifCond .ne 5, 3) := by decide +kernel
theorem dX4_define_75 : decode cX4_define 75 = .ok (.iconst (-1), 1) := by decide +kernel
theorem dX4_define_76 : decode cX4_define 76 = .ok (.ireturn, 1) := by decide +kernel
theorem dX4_define_77 : decode cX4_define 77 = .ok (.aload_n 0, 1) := by decide +kernel
theorem dX4_define_78 : decode cX4_define 78 = .ok (.getfield 39, 3) := by decide +kernel
theorem dX4_define_81 : decode cX4_define 81 = .ok (.invokevirtual 53, 3) := by decide +kernel
theorem dX4_define_84 : decode cX4_define 84 = .ok (.aload_n 0, 1) := by decide +kernel
theorem dX4_define_85 : decode cX4_define 85 = .ok (.getfield 30, 3) := by decide +kernel
theorem dX4_define_88 : decode cX4_define 88 = .ok (.iload_n 1, 1) := by decide +kernel
theorem dX4_define_89 : decode cX4_define 89 = .ok (.aaload, 1) := by decide +kernel
theorem dX4_define_90 : decode cX4_define 90 = .ok (.getfield 69, 3) := by decide +kernel
theorem dX4_define_93 : decode cX4_define 93 = .ok (.ireturn, 1) := by decide +kernel
theorem dX4_optional_0 : decode cX4_optional 0 = .ok (.aload_n 0, 1) := by decide +kernel
theorem dX4_optional_1 : decode cX4_optional 1 = .ok (.iload_n 1, 1) := by decide +kernel
theorem dX4_optional_2 : decode cX4_optional 2 = .ok (.invokevirtual 46, 3) := by decide +kernel
theorem dX4_optional_5 : decode cX4_optional 5 = .ok (.ifCond .eq 24, 3) := by decide +kernel
theorem dX4_optional_8 : decode cX4_optional 8 = .ok (.iload_n 2, 1) := by decide +kernel
theorem dX4_optional_9 : decode cX4_optional 9 = .ok (.invokestatic 59, 3) := by decide +kernel
theorem dX4_optional_12 : decode cX4_optional 12 = .ok (.ifCond .eq 17, 3) := by decide +kernel
theorem dX4_optional_15 : decode cX4_optional 15 = .ok (.aload_n 0, 1) := by decide +kernel
theorem dX4_optional_16 : decode cX4_optional 16 = .ok (.getfield 30, 3) := by decide +kernel
theorem dX4_optional_19 : decode cX4_optional 19 = .ok (.iload_n 1, 1) := by decide +kernel
theorem dX4_optional_20 : decode cX4_optional 20 = .ok (.aaload, 1) := by decide +kernel
theorem dX4_optional_21 : decode cX4_optional 21 = .ok (.getfield 72, 3) := by decide +kernel
theorem dX4_optional_24 : decode cX4_optional 24 = .ok (.iload_n 2, 1) := by decide +kernel
theorem dX4_optional_25 : decode cX4_optional 25 = .ok (.baload, 1) := by decide +kernel
theorem dX4_optional_26 : decode cX4_optional 26 = .ok (.ifCond .eq 5, 3) := by decide +kernel
theorem dX4_optional_29 : decode cX4_optional 29 = .ok (.iconst 0, 1) := by decide +kernel
theorem dX4_optional_30 : decode cX4_optional 30 = .ok (.ireturn, 1) := by decide +kernel
theorem dX4_optional_31 : decode cX4_optional 31 = .ok (.aload_n 0, 1) := by decide +kernel
theorem dX4_optional_32 : decode cX4_optional 32 = .ok (.getfield 30, 3) := by decide +kernel
theorem dX4_optional_35 : decode cX4_optional 35 = .ok (.iload_n 1, 1) := by decide +kernel
theorem dX4_optional_36 : decode cX4_optional 36 = .ok (.aaload, 1) := by decide +kernel
theorem dX4_optional_37 : decode cX4_optional 37 = .ok (.getfield 72, 3) := by decide +kernel
theorem dX4_optional_40 : decode cX4_optional 40 = .ok (.iload_n 2, 1) := by decide +kernel
theorem dX4_optional_41 : decode cX4_optional 41 = .ok (.iconst 1, 1) := by decide +kernel
theorem dX4_optional_42 : decode cX4_optional 42 = .ok (.bastore, 1) := by decide +kernel
theorem dX4_optional_43 : decode cX4_optional 43 = .ok (.aload_n 0, 1) := by decide +kernel
theorem dX4_optional_44 : decode cX4_optional 44 = .ok (.getfield 39, 3) := by decide +kernel
theorem dX4_optional_47 : decode cX4_optional 47 = .ok (.invokevirtual 53, 3) := by decide +kernel
theorem dX4_optional_50 : decode cX4_optional 50 = .ok (.iconst 1, 1) := by decide +kernel
theorem dX4_optional_51 : decode cX4_optional 51 = .ok (.ireturn, 1) := by decide +kernel
theorem dX4_beginner_0 : decode cX4_beginner 0 = .ok (.aload_n 0, 1) := by decide +kernel
theorem dX4_beginner_1 : decode cX4_beginner 1 = .ok (.iload_n 1, 1) := by decide +kernel
theorem dX4_beginner_2 : decode cX4_beginner 2 = .ok (.invokevirtual 46, 3) := by decide +kernel
theorem dX4_beginner_5 : decode cX4_beginner 5 = .ok (.ifCond .eq 15, 3) := by decide +kernel
theorem dX4_beginner_8 : decode cX4_beginner 8 = .ok (.iload_n 2, 1) := by decide +kernel
theorem dX4_beginner_9 : decode cX4_beginner 9 = .ok (.iconst (-1), 1) := by decide +kernel
theorem dX4_beginner_10 : decode cX4_beginner 10 = .ok (.if_icmp .eq 12, 3) := by decide +kernel
theorem dX4_beginner_13 : decode cX4_beginner 13 = .ok (.iload_n 2, 1) := by decide +kernel
theorem dX4_beginner_14 : decode cX4_beginner 14 = .ok (.invokestatic 59, 3) := by decide +kernel
theorem dX4_beginner_17 : decode cX4_beginner 17 = .ok (.ifCond .ne 5, 3) := by decide +kernel
theorem dX4_beginner_20 : decode cX4_beginner 20 = .ok (.iconst 0, 1) := by decide +kernel
theorem dX4_beginner_21 : decode cX4_beginner 21 = .ok (.ireturn, 1) := by decide +kernel
theorem dX4_beginner_22 : decode cX4_beginner 22 = .ok (.aload_n 0, 1) := by decide +kernel
theorem dX4_beginner_23 : decode cX4_beginner 23 = .ok (.getfield 30, 3) := by decide +kernel
theorem dX4_beginner_26 : decode cX4_beginner 26 = .ok (.iload_n 1, 1) := by decide +kernel
theorem dX4_beginner_27 : decode cX4_beginner 27 = .ok (.aaload, 1) := by decide +kernel
theorem dX4_beginner_28 : decode cX4_beginner 28 = .ok (.iload_n 2, 1) := by decide +kernel
theorem dX4_beginner_29 : decode cX4_beginner 29 = .ok (.putfield 76, 3) := by decide +kernel
theorem dX4_beginner_32 : decode cX4_beginner 32 = .ok (.aload_n 0, 1) := by decide +kernel
theorem dX4_beginner_33 : decode cX4_beginner 33 = .ok (.getfield 39, 3) := by decide +kernel
theorem dX4_beginner_36 : decode cX4_beginner 36 = .ok (.invokevirtual 53, 3) := by decide +kernel
theorem dX4_beginner_39 : decode cX4_beginner 39 = .ok (.iconst 1, 1) := by decide +kernel
theorem dX4_beginner_40 : decode cX4_beginner 40 = .ok (.ireturn, 1) := by decide +kernel
theorem dX4_put_0 : decode cX4_put 0 = .ok (.aload_n 0, 1) := by decide +kernel
theorem dX4_put_1 : decode cX4_put 1 = .ok (.iload_n 1, 1) := by decide +kernel
theorem dX4_put_2 : decode cX4_put 2 = .ok (.invokevirtual 46, 3) := by decide +kernel
theorem dX4_put_5 : decode cX4_put 5 = .ok (.ifCond .eq 33, 3) := by decide +kernel
theorem dX4_put_8 : decode cX4_put 8 = .ok (.iload_n 2, 1) := by decide +kernel
theorem dX4_put_9 : decode cX4_put 9 = .ok (.iload_n 3, 1) := by decide +kernel
theorem dX4_put_10 : decode cX4_put 10 = .ok (.iload 4, 2) := by decide +kernel
theorem dX4_put_12 : decode cX4_put 12 = .ok (.iload 5, 2) := by decide +kernel
theorem dX4_put_14 : decode cX4_put 14 = .ok (.invokestatic 79, 3) := by decide +kernel
theorem dX4_put_17 : decode cX4_put 17 = .ok (.ifCond .eq 21, 3) := by decide +kernel
theorem dX4_put_20 : decode cX4_put 20 = .ok (.aload_n 0, 1) := by decide +kernel
theorem dX4_put_21 : decode cX4_put 21 = .ok (.getfield 30, 3) := by decide +kernel
theorem dX4_put_24 : decode cX4_put 24 = .ok (.iload_n 1, 1) := by decide +kernel
theorem dX4_put_25 : decode cX4_put 25 = .ok (.aaload, 1) := by decide +kernel
theorem dX4_put_26 : decode cX4_put 26 = .ok (.iload_n 2, 1) := by decide +kernel
theorem dX4_put_27 : decode cX4_put 27 = .ok (.iload_n 3, 1) := by decide +kernel
theorem dX4_put_28 : decode cX4_put 28 = .ok (.iload 4, 2) := by decide +kernel
theorem dX4_put_30 : decode cX4_put 30 = .ok (.iload 5, 2) := by decide +kernel
theorem dX4_put_32 : decode cX4_put 32 = .ok (.invokevirtual 82, 3) := by decide +kernel
theorem dX4_put_35 : decode cX4_put 35 = .ok (.ifCond .ne 5, 3) := by decide +kernel
theorem dX4_put_38 : decode cX4_put 38 = .ok (.iconst (-1), 1) := by decide +kernel
theorem dX4_put_39 : decode cX4_put 39 = .ok (.ireturn, 1) := by decide +kernel
theorem dX4_put_40 : decode cX4_put 40 = .ok (.aload_n 0, 1) := by decide +kernel
theorem dX4_put_41 : decode cX4_put 41 = .ok (.getfield 39, 3) := by decide +kernel
theorem dX4_put_44 : decode cX4_put 44 = .ok (.invokevirtual 53, 3) := by decide +kernel
theorem dX4_put_47 : decode cX4_put 47 = .ok (.aload_n 0, 1) := by decide +kernel
theorem dX4_put_48 : decode cX4_put 48 = .ok (.getfield 30, 3) := by decide +kernel
theorem dX4_put_51 : decode cX4_put 51 = .ok (.iload_n 1, 1) := by decide +kernel
theorem dX4_put_52 : decode cX4_put 52 = .ok (.aaload, 1) := by decide +kernel
theorem dX4_put_53 : decode cX4_put 53 = .ok (.getfield 85, 3) := by decide +kernel
theorem dX4_put_56 : decode cX4_put 56 = .ok (.iconst 1, 1) := by decide +kernel
theorem dX4_put_57 : decode cX4_put 57 = .ok (.isub, 1) := by decide +kernel
theorem dX4_put_58 : decode cX4_put 58 = .ok (.ireturn, 1) := by decide +kernel
theorem dX4_load_0 : decode cX4_load 0 = .ok (.aload_n 0, 1) := by decide +kernel
theorem dX4_load_1 : decode cX4_load 1 = .ok (.iload_n 1, 1) := by decide +kernel
theorem dX4_load_2 : decode cX4_load 2 = .ok (.invokevirtual 46, 3) := by decide +kernel
theorem dX4_load_5 : decode cX4_load 5 = .ok (.ifCond .eq 12, 3) := by decide +kernel
theorem dX4_load_8 : decode cX4_load 8 = .ok (.iload_n 2, 1) := by decide +kernel
theorem dX4_load_9 : decode cX4_load 9 = .ok (.ifCond .eq 10, 3) := by decide +kernel
theorem dX4_load_12 : decode cX4_load 12 = .ok (.iload_n 2, 1) := by decide +kernel
theorem dX4_load_13 : decode cX4_load 13 = .ok (.iconst 1, 1) := by decide +kernel
theorem dX4_load_14 : decode cX4_load 14 = .ok (.if_icmp .eq 5, 3) := by decide +kernel
theorem dX4_load_17 : decode cX4_load 17 = .ok (.iconst (-1), 1) := by decide +kernel
theorem dX4_load_18 : decode cX4_load 18 = .ok (.ireturn, 1) := by decide +kernel
theorem dX4_load_19 : decode cX4_load 19 = .ok (.aload_n 0, 1) := by decide +kernel
theorem dX4_load_20 : decode cX4_load 20 = .ok (.getfield 43, 3) := by decide +kernel
theorem dX4_load_23 : decode cX4_load 23 = .ok (.iload_n 1, 1) := by decide +kernel
theorem dX4_load_24 : decode cX4_load 24 = .ok (.iload_n 2, 1) := by decide +kernel
theorem dX4_load_25 : decode cX4_load 25 = .ok (.iconst 1, 1) := by decide +kernel
theorem dX4_load_26 : decode cX4_load 26 = .ok (.if_icmp .ne 7, 3) := by decide +kernel
theorem dX4_load_29 : decode cX4_load 29 = .ok (.iconst 1, 1) := by decide +kernel
theorem dX4_load_30 : decode cX4_load 30 = .ok (.goto 4, 3) := by decide +kernel
theorem dX4_load_33 : decode cX4_load 33 = .ok (.iconst 0, 1) := by decide +kernel
theorem dX4_load_34 : decode cX4_load 34 = .ok (.invokevirtual 88, 3) := by decide +kernel
theorem dX4_load_37 : decode cX4_load 37 = .ok (.aload_n 0, 1) := by decide +kernel
theorem dX4_load_38 : decode cX4_load 38 = .ok (.getfield 43, 3) := by decide +kernel
theorem dX4_load_41 : decode cX4_load 41 = .ok (.aload_n 0, 1) := by decide +kernel
theorem dX4_load_42 : decode cX4_load 42 = .ok (.getfield 16, 3) := by decide +kernel
theorem dX4_load_45 : decode cX4_load 45 = .ok (.invokevirtual 92, 3) := by decide +kernel
theorem dX4_load_48 : decode cX4_load 48 = .ok (.aload_n 0, 1) := by decide +kernel
theorem dX4_load_49 : decode cX4_load 49 = .ok (.getfield 16, 3) := by decide +kernel
theorem dX4_load_52 : decode cX4_load 52 = .ok (.getfield 96, 3) := by decide +kernel
theorem dX4_load_55 : decode cX4_load 55 = .ok (.ifCond .ne 7, 3) := by decide +kernel
theorem dX4_load_58 : decode cX4_load 58 = .ok (.aload_n 0, 1) := by decide +kernel
theorem dX4_load_59 : decode cX4_load 59 = .ok (.invokevirtual 99, 3) := by decide +kernel
theorem dX4_load_62 : decode cX4_load 62 = .ok (.aload_n 0, 1) := by decide +kernel
theorem dX4_load_63 : decode cX4_load 63 = .ok (.getfield 16, 3) := by decide +kernel
theorem dX4_load_66 : decode cX4_load 66 = .ok (.getfield 96, 3) := by decide +kernel
theorem dX4_load_69 : decode cX4_load 69 = .ok (.ireturn, 1) := by decide +kernel
theorem dX4_fault_0 : decode cX4_fault 0 = .ok (.iload_n 1, 1) := by decide +kernel
theorem dX4_fault_1 : decode cX4_fault 1 = .ok (.tableswitch 51 0 2 #[27, 35, 43], 27) := by decide +kernel
theorem dX4_fault_28 : decode cX4_fault 28 = .ok (.aload_n 0, 1) := by decide +kernel
theorem dX4_fault_29 : decode cX4_fault 29 = .ok (.getfield 16, 3) := by decide +kernel
theorem dX4_fault_32 : decode cX4_fault 32 = .ok (.getfield 102, 3) := by decide +kernel
theorem dX4_fault_35 : decode cX4_fault 35 = .ok (.ireturn, 1) := by decide +kernel
theorem dX4_fault_36 : decode cX4_fault 36 = .ok (.aload_n 0, 1) := by decide +kernel
theorem dX4_fault_37 : decode cX4_fault 37 = .ok (.getfield 16, 3) := by decide +kernel
theorem dX4_fault_40 : decode cX4_fault 40 = .ok (.getfield 105, 3) := by decide +kernel
theorem dX4_fault_43 : decode cX4_fault 43 = .ok (.ireturn, 1) := by decide +kernel
theorem dX4_fault_44 : decode cX4_fault 44 = .ok (.aload_n 0, 1) := by decide +kernel
theorem dX4_fault_45 : decode cX4_fault 45 = .ok (.getfield 16, 3) := by decide +kernel
theorem dX4_fault_48 : decode cX4_fault 48 = .ok (.getfield 108, 3) := by decide +kernel
theorem dX4_fault_51 : decode cX4_fault 51 = .ok (.ireturn, 1) := by decide +kernel
theorem dX4_fault_52 : decode cX4_fault 52 = .ok (.iconst (-1), 1) := by decide +kernel
theorem dX4_fault_53 : decode cX4_fault 53 = .ok (.ireturn, 1) := by decide +kernel
theorem dX4_order_0 : decode cX4_order 0 = .ok (.iload_n 1, 1) := by decide +kernel
theorem dX4_order_1 : decode cX4_order 1 = .ok (.ifCond .lt 14, 3) := by decide +kernel
theorem dX4_order_4 : decode cX4_order 4 = .ok (.iload_n 1, 1) := by decide +kernel
theorem dX4_order_5 : decode cX4_order 5 = .ok (.aload_n 0, 1) := by decide +kernel
theorem dX4_order_6 : decode cX4_order 6 = .ok (.getfield 39, 3) := by decide +kernel
theorem dX4_order_9 : decode cX4_order 9 = .ok (.getfield 111, 3) := by decide +kernel
theorem dX4_order_12 : decode cX4_order 12 = .ok (.if_icmp .lt 5, 3) := by decide +kernel
theorem dX4_order_15 : decode cX4_order 15 = .ok (.iconst (-1), 1) := by decide +kernel
theorem dX4_order_16 : decode cX4_order 16 = .ok (.ireturn, 1) := by decide +kernel
theorem dX4_order_17 : decode cX4_order 17 = .ok (.iload_n 2, 1) := by decide +kernel
theorem dX4_order_18 : decode cX4_order 18 = .ok (.ifCond .ne 13, 3) := by decide +kernel
theorem dX4_order_21 : decode cX4_order 21 = .ok (.aload_n 0, 1) := by decide +kernel
theorem dX4_order_22 : decode cX4_order 22 = .ok (.getfield 39, 3) := by decide +kernel
theorem dX4_order_25 : decode cX4_order 25 = .ok (.getfield 114, 3) := by decide +kernel
theorem dX4_order_28 : decode cX4_order 28 = .ok (.iload_n 1, 1) := by decide +kernel
theorem dX4_order_29 : decode cX4_order 29 = .ok (.iaload, 1) := by decide +kernel
theorem dX4_order_30 : decode cX4_order 30 = .ok (.ireturn, 1) := by decide +kernel
theorem dX4_order_31 : decode cX4_order 31 = .ok (.iload_n 2, 1) := by decide +kernel
theorem dX4_order_32 : decode cX4_order 32 = .ok (.iconst 1, 1) := by decide +kernel
theorem dX4_order_33 : decode cX4_order 33 = .ok (.if_icmp .ne 15, 3) := by decide +kernel
theorem dX4_order_36 : decode cX4_order 36 = .ok (.aload_n 0, 1) := by decide +kernel
theorem dX4_order_37 : decode cX4_order 37 = .ok (.getfield 39, 3) := by decide +kernel
theorem dX4_order_40 : decode cX4_order 40 = .ok (.getfield 118, 3) := by decide +kernel
theorem dX4_order_43 : decode cX4_order 43 = .ok (.iload_n 1, 1) := by decide +kernel
theorem dX4_order_44 : decode cX4_order 44 = .ok (.iaload, 1) := by decide +kernel
theorem dX4_order_45 : decode cX4_order 45 = .ok (.goto 4, 3) := by decide +kernel
theorem dX4_order_48 : decode cX4_order 48 = .ok (.iconst (-1), 1) := by decide +kernel
theorem dX4_order_49 : decode cX4_order 49 = .ok (.ireturn, 1) := by decide +kernel
theorem dX4_comes_0 : decode cX4_comes 0 = .ok (.aload_n 0, 1) := by decide +kernel
theorem dX4_comes_1 : decode cX4_comes 1 = .ok (.getfield 39, 3) := by decide +kernel
theorem dX4_comes_4 : decode cX4_comes 4 = .ok (.iload_n 1, 1) := by decide +kernel
theorem dX4_comes_5 : decode cX4_comes 5 = .ok (.invokevirtual 121, 3) := by decide +kernel
theorem dX4_comes_8 : decode cX4_comes 8 = .ok (.ifCond .eq 22, 3) := by decide +kernel
theorem dX4_comes_11 : decode cX4_comes 11 = .ok (.iload_n 2, 1) := by decide +kernel
theorem dX4_comes_12 : decode cX4_comes 12 = .ok (.invokestatic 59, 3) := by decide +kernel
theorem dX4_comes_15 : decode cX4_comes 15 = .ok (.ifCond .eq 15, 3) := by decide +kernel
theorem dX4_comes_18 : decode cX4_comes 18 = .ok (.aload_n 0, 1) := by decide +kernel
theorem dX4_comes_19 : decode cX4_comes 19 = .ok (.getfield 39, 3) := by decide +kernel
theorem dX4_comes_22 : decode cX4_comes 22 = .ok (.iload_n 1, 1) := by decide +kernel
theorem dX4_comes_23 : decode cX4_comes 23 = .ok (.iload_n 2, 1) := by decide +kernel
theorem dX4_comes_24 : decode cX4_comes 24 = .ok (.invokevirtual 124, 3) := by decide +kernel
theorem dX4_comes_27 : decode cX4_comes 27 = .ok (.goto 4, 3) := by decide +kernel
theorem dX4_comes_30 : decode cX4_comes 30 = .ok (.iconst (-1), 1) := by decide +kernel
theorem dX4_comes_31 : decode cX4_comes 31 = .ok (.ireturn, 1) := by decide +kernel
theorem dX4_bound_0 : decode cX4_bound 0 = .ok (.aload_n 0, 1) := by decide +kernel
theorem dX4_bound_1 : decode cX4_bound 1 = .ok (.getfield 39, 3) := by decide +kernel
theorem dX4_bound_4 : decode cX4_bound 4 = .ok (.iload_n 1, 1) := by decide +kernel
theorem dX4_bound_5 : decode cX4_bound 5 = .ok (.invokevirtual 121, 3) := by decide +kernel
theorem dX4_bound_8 : decode cX4_bound 8 = .ok (.ifCond .eq 24, 3) := by decide +kernel
theorem dX4_bound_11 : decode cX4_bound 11 = .ok (.iload_n 2, 1) := by decide +kernel
theorem dX4_bound_12 : decode cX4_bound 12 = .ok (.invokestatic 59, 3) := by decide +kernel
theorem dX4_bound_15 : decode cX4_bound 15 = .ok (.ifCond .eq 17, 3) := by decide +kernel
theorem dX4_bound_18 : decode cX4_bound 18 = .ok (.aload_n 0, 1) := by decide +kernel
theorem dX4_bound_19 : decode cX4_bound 19 = .ok (.getfield 30, 3) := by decide +kernel
theorem dX4_bound_22 : decode cX4_bound 22 = .ok (.iload_n 1, 1) := by decide +kernel
theorem dX4_bound_23 : decode cX4_bound 23 = .ok (.aaload, 1) := by decide +kernel
theorem dX4_bound_24 : decode cX4_bound 24 = .ok (.getfield 128, 3) := by decide +kernel
theorem dX4_bound_27 : decode cX4_bound 27 = .ok (.iload_n 2, 1) := by decide +kernel
theorem dX4_bound_28 : decode cX4_bound 28 = .ok (.iaload, 1) := by decide +kernel
theorem dX4_bound_29 : decode cX4_bound 29 = .ok (.goto 4, 3) := by decide +kernel
theorem dX4_bound_32 : decode cX4_bound 32 = .ok (.iconst (-1), 1) := by decide +kernel
theorem dX4_bound_33 : decode cX4_bound 33 = .ok (.ireturn, 1) := by decide +kernel
theorem dX4_run_0 : decode cX4_run 0 = .ok (.aload_n 0, 1) := by decide +kernel
theorem dX4_run_1 : decode cX4_run 1 = .ok (.getfield 39, 3) := by decide +kernel
theorem dX4_run_4 : decode cX4_run 4 = .ok (.getfield 111, 3) := by decide +kernel
theorem dX4_run_7 : decode cX4_run 7 = .ok (.ifCond .eq 21, 3) := by decide +kernel
theorem dX4_run_10 : decode cX4_run 10 = .ok (.iload_n 1, 1) := by decide +kernel
theorem dX4_run_11 : decode cX4_run 11 = .ok (.invokestatic 59, 3) := by decide +kernel
theorem dX4_run_14 : decode cX4_run 14 = .ok (.ifCond .eq 14, 3) := by decide +kernel
theorem dX4_run_17 : decode cX4_run 17 = .ok (.iload_n 2, 1) := by decide +kernel
theorem dX4_run_18 : decode cX4_run 18 = .ok (.ifCond .lt 10, 3) := by decide +kernel
theorem dX4_run_21 : decode cX4_run 21 = .ok (.iload_n 2, 1) := by decide +kernel
theorem dX4_run_22 : decode cX4_run 22 = .ok (.sipush 5000, 3) := by decide +kernel
theorem dX4_run_25 : decode cX4_run 25 = .ok (.if_icmp .le 5, 3) := by decide +kernel
theorem dX4_run_28 : decode cX4_run 28 = .ok (.iconst (-1), 1) := by decide +kernel
theorem dX4_run_29 : decode cX4_run 29 = .ok (.ireturn, 1) := by decide +kernel
theorem dX4_run_30 : decode cX4_run 30 = .ok (.aload_n 0, 1) := by decide +kernel
theorem dX4_run_31 : decode cX4_run 31 = .ok (.getfield 39, 3) := by decide +kernel
theorem dX4_run_34 : decode cX4_run 34 = .ok (.aload_n 0, 1) := by decide +kernel
theorem dX4_run_35 : decode cX4_run 35 = .ok (.getfield 39, 3) := by decide +kernel
theorem dX4_run_38 : decode cX4_run 38 = .ok (.getfield 114, 3) := by decide +kernel
theorem dX4_run_41 : decode cX4_run 41 = .ok (.iconst 0, 1) := by decide +kernel
theorem dX4_run_42 : decode cX4_run 42 = .ok (.iaload, 1) := by decide +kernel
theorem dX4_run_43 : decode cX4_run 43 = .ok (.iload_n 1, 1) := by decide +kernel
theorem dX4_run_44 : decode cX4_run 44 = .ok (.invokevirtual 124, 3) := by decide +kernel
theorem dX4_run_47 : decode cX4_run 47 = .ok (.istore_n 3, 1) := by decide +kernel
theorem dX4_run_48 : decode cX4_run 48 = .ok (.aload_n 0, 1) := by decide +kernel
theorem dX4_run_49 : decode cX4_run 49 = .ok (.getfield 39, 3) := by decide +kernel
theorem dX4_run_52 : decode cX4_run 52 = .ok (.iload_n 3, 1) := by decide +kernel
theorem dX4_run_53 : decode cX4_run 53 = .ok (.invokevirtual 121, 3) := by decide +kernel
theorem dX4_run_56 : decode cX4_run 56 = .ok (.ifCond .eq 17, 3) := by decide +kernel
theorem dX4_run_59 : decode cX4_run 59 = .ok (.aload_n 0, 1) := by decide +kernel
theorem dX4_run_60 : decode cX4_run 60 = .ok (.getfield 30, 3) := by decide +kernel
theorem dX4_run_63 : decode cX4_run 63 = .ok (.iload_n 3, 1) := by decide +kernel
theorem dX4_run_64 : decode cX4_run 64 = .ok (.aaload, 1) := by decide +kernel
theorem dX4_run_65 : decode cX4_run 65 = .ok (.getfield 131, 3) := by decide +kernel
theorem dX4_run_68 : decode cX4_run 68 = .ok (.iload_n 1, 1) := by decide +kernel
theorem dX4_run_69 : decode cX4_run 69 = .ok (.iaload, 1) := by decide +kernel
theorem dX4_run_70 : decode cX4_run 70 = .ok (.ifCond .eq 5, 3) := by decide +kernel
theorem dX4_run_73 : decode cX4_run 73 = .ok (.iconst (-1), 1) := by decide +kernel
theorem dX4_run_74 : decode cX4_run 74 = .ok (.ireturn, 1) := by decide +kernel
theorem dX4_run_75 : decode cX4_run 75 = .ok (.aload_n 0, 1) := by decide +kernel
theorem dX4_run_76 : decode cX4_run 76 = .ok (.getfield 39, 3) := by decide +kernel
theorem dX4_run_79 : decode cX4_run 79 = .ok (.invokevirtual 134, 3) := by decide +kernel
theorem dX4_run_82 : decode cX4_run 82 = .ok (.aload_n 0, 1) := by decide +kernel
theorem dX4_run_83 : decode cX4_run 83 = .ok (.getfield 23, 3) := by decide +kernel
theorem dX4_run_86 : decode cX4_run 86 = .ok (.aload_n 0, 1) := by decide +kernel
theorem dX4_run_87 : decode cX4_run 87 = .ok (.getfield 39, 3) := by decide +kernel
theorem dX4_run_90 : decode cX4_run 90 = .ok (.iload_n 1, 1) := by decide +kernel
theorem dX4_run_91 : decode cX4_run 91 = .ok (.invokevirtual 137, 3) := by decide +kernel
theorem dX4_run_94 : decode cX4_run 94 = .ok (.aload_n 0, 1) := by decide +kernel
theorem dX4_run_95 : decode cX4_run 95 = .ok (.getfield 23, 3) := by decide +kernel
theorem dX4_run_98 : decode cX4_run 98 = .ok (.aload_n 0, 1) := by decide +kernel
theorem dX4_run_99 : decode cX4_run 99 = .ok (.getfield 39, 3) := by decide +kernel
theorem dX4_run_102 : decode cX4_run 102 = .ok (.iload_n 2, 1) := by decide +kernel
theorem dX4_run_103 : decode cX4_run 103 = .ok (.invokevirtual 141, 3) := by decide +kernel
theorem dX4_run_106 : decode cX4_run 106 = .ok (.ireturn, 1) := by decide +kernel
theorem dX4_count_0 : decode cX4_count 0 = .ok (.iload_n 1, 1) := by decide +kernel
theorem dX4_count_1 : decode cX4_count 1 = .ok (.tableswitch 84 0 5 #[39, 47, 55, 63, 71, 79], 39) := by decide +kernel
theorem dX4_count_40 : decode cX4_count 40 = .ok (.aload_n 0, 1) := by decide +kernel
theorem dX4_count_41 : decode cX4_count 41 = .ok (.getfield 23, 3) := by decide +kernel
theorem dX4_count_44 : decode cX4_count 44 = .ok (.getfield 145, 3) := by decide +kernel
theorem dX4_count_47 : decode cX4_count 47 = .ok (.ireturn, 1) := by decide +kernel
theorem dX4_count_48 : decode cX4_count 48 = .ok (.aload_n 0, 1) := by decide +kernel
theorem dX4_count_49 : decode cX4_count 49 = .ok (.getfield 23, 3) := by decide +kernel
theorem dX4_count_52 : decode cX4_count 52 = .ok (.getfield 148, 3) := by decide +kernel
theorem dX4_count_55 : decode cX4_count 55 = .ok (.ireturn, 1) := by decide +kernel
theorem dX4_count_56 : decode cX4_count 56 = .ok (.aload_n 0, 1) := by decide +kernel
theorem dX4_count_57 : decode cX4_count 57 = .ok (.getfield 23, 3) := by decide +kernel
theorem dX4_count_60 : decode cX4_count 60 = .ok (.getfield 151, 3) := by decide +kernel
theorem dX4_count_63 : decode cX4_count 63 = .ok (.ireturn, 1) := by decide +kernel
theorem dX4_count_64 : decode cX4_count 64 = .ok (.aload_n 0, 1) := by decide +kernel
theorem dX4_count_65 : decode cX4_count 65 = .ok (.getfield 23, 3) := by decide +kernel
theorem dX4_count_68 : decode cX4_count 68 = .ok (.getfield 154, 3) := by decide +kernel
theorem dX4_count_71 : decode cX4_count 71 = .ok (.ireturn, 1) := by decide +kernel
theorem dX4_count_72 : decode cX4_count 72 = .ok (.aload_n 0, 1) := by decide +kernel
theorem dX4_count_73 : decode cX4_count 73 = .ok (.getfield 39, 3) := by decide +kernel
theorem dX4_count_76 : decode cX4_count 76 = .ok (.getfield 111, 3) := by decide +kernel
theorem dX4_count_79 : decode cX4_count 79 = .ok (.ireturn, 1) := by decide +kernel
theorem dX4_count_80 : decode cX4_count 80 = .ok (.aload_n 0, 1) := by decide +kernel
theorem dX4_count_81 : decode cX4_count 81 = .ok (.getfield 7, 3) := by decide +kernel
theorem dX4_count_84 : decode cX4_count 84 = .ok (.ireturn, 1) := by decide +kernel
theorem dX4_count_85 : decode cX4_count 85 = .ok (.iconst (-1), 1) := by decide +kernel
theorem dX4_count_86 : decode cX4_count 86 = .ok (.ireturn, 1) := by decide +kernel
theorem dX4_said_0 : decode cX4_said 0 = .ok (.iload_n 1, 1) := by decide +kernel
theorem dX4_said_1 : decode cX4_said 1 = .ok (.ifCond .lt 32, 3) := by decide +kernel
theorem dX4_said_4 : decode cX4_said 4 = .ok (.iload_n 1, 1) := by decide +kernel
theorem dX4_said_5 : decode cX4_said 5 = .ok (.bipush 60, 2) := by decide +kernel
theorem dX4_said_7 : decode cX4_said 7 = .ok (.if_icmp .ge 26, 3) := by decide +kernel
theorem dX4_said_10 : decode cX4_said 10 = .ok (.iload_n 1, 1) := by decide +kernel
theorem dX4_said_11 : decode cX4_said 11 = .ok (.aload_n 0, 1) := by decide +kernel
theorem dX4_said_12 : decode cX4_said 12 = .ok (.getfield 23, 3) := by decide +kernel
theorem dX4_said_15 : decode cX4_said 15 = .ok (.getfield 148, 3) := by decide +kernel
theorem dX4_said_18 : decode cX4_said 18 = .ok (.if_icmp .ge 15, 3) := by decide +kernel
theorem dX4_said_21 : decode cX4_said 21 = .ok (.aload_n 0, 1) := by decide +kernel
theorem dX4_said_22 : decode cX4_said 22 = .ok (.getfield 23, 3) := by decide +kernel
theorem dX4_said_25 : decode cX4_said 25 = .ok (.getfield 157, 3) := by decide +kernel
theorem dX4_said_28 : decode cX4_said 28 = .ok (.iload_n 1, 1) := by decide +kernel
theorem dX4_said_29 : decode cX4_said 29 = .ok (.iaload, 1) := by decide +kernel
theorem dX4_said_30 : decode cX4_said 30 = .ok (.goto 4, 3) := by decide +kernel
theorem dX4_said_33 : decode cX4_said 33 = .ok (.iconst 0, 1) := by decide +kernel
theorem dX4_said_34 : decode cX4_said 34 = .ok (.ireturn, 1) := by decide +kernel
theorem dX4_register_0 : decode cX4_register 0 = .ok (.iload_n 1, 1) := by decide +kernel
theorem dX4_register_1 : decode cX4_register 1 = .ok (.invokestatic 160, 3) := by decide +kernel
theorem dX4_register_4 : decode cX4_register 4 = .ok (.ifCond .eq 15, 3) := by decide +kernel
theorem dX4_register_7 : decode cX4_register 7 = .ok (.aload_n 0, 1) := by decide +kernel
theorem dX4_register_8 : decode cX4_register 8 = .ok (.getfield 23, 3) := by decide +kernel
theorem dX4_register_11 : decode cX4_register 11 = .ok (.getfield 163, 3) := by decide +kernel
theorem dX4_register_14 : decode cX4_register 14 = .ok (.iload_n 1, 1) := by decide +kernel
theorem dX4_register_15 : decode cX4_register 15 = .ok (.iaload, 1) := by decide +kernel
theorem dX4_register_16 : decode cX4_register 16 = .ok (.goto 4, 3) := by decide +kernel
theorem dX4_register_19 : decode cX4_register 19 = .ok (.iconst 0, 1) := by decide +kernel
theorem dX4_register_20 : decode cX4_register 20 = .ok (.ireturn, 1) := by decide +kernel
theorem dX4_datum_0 : decode cX4_datum 0 = .ok (.aload_n 0, 1) := by decide +kernel
theorem dX4_datum_1 : decode cX4_datum 1 = .ok (.getfield 39, 3) := by decide +kernel
theorem dX4_datum_4 : decode cX4_datum 4 = .ok (.iload_n 1, 1) := by decide +kernel
theorem dX4_datum_5 : decode cX4_datum 5 = .ok (.invokevirtual 121, 3) := by decide +kernel
theorem dX4_datum_8 : decode cX4_datum 8 = .ok (.ifCond .eq 25, 3) := by decide +kernel
theorem dX4_datum_11 : decode cX4_datum 11 = .ok (.iload_n 2, 1) := by decide +kernel
theorem dX4_datum_12 : decode cX4_datum 12 = .ok (.invokestatic 59, 3) := by decide +kernel
theorem dX4_datum_15 : decode cX4_datum 15 = .ok (.ifCond .eq 18, 3) := by decide +kernel
theorem dX4_datum_18 : decode cX4_datum 18 = .ok (.aload_n 0, 1) := by decide +kernel
theorem dX4_datum_19 : decode cX4_datum 19 = .ok (.getfield 30, 3) := by decide +kernel
theorem dX4_datum_22 : decode cX4_datum 22 = .ok (.iload_n 1, 1) := by decide +kernel
theorem dX4_datum_23 : decode cX4_datum 23 = .ok (.aaload, 1) := by decide +kernel
theorem dX4_datum_24 : decode cX4_datum 24 = .ok (.getfield 131, 3) := by decide +kernel
theorem dX4_datum_27 : decode cX4_datum 27 = .ok (.iload_n 2, 1) := by decide +kernel
theorem dX4_datum_28 : decode cX4_datum 28 = .ok (.iaload, 1) := by decide +kernel
theorem dX4_datum_29 : decode cX4_datum 29 = .ok (.iconst 1, 1) := by decide +kernel
theorem dX4_datum_30 : decode cX4_datum 30 = .ok (.if_icmp .eq 5, 3) := by decide +kernel
theorem dX4_datum_33 : decode cX4_datum 33 = .ok (.iconst (-1), 1) := by decide +kernel
theorem dX4_datum_34 : decode cX4_datum 34 = .ok (.ireturn, 1) := by decide +kernel
theorem dX4_datum_35 : decode cX4_datum 35 = .ok (.aload_n 0, 1) := by decide +kernel
theorem dX4_datum_36 : decode cX4_datum 36 = .ok (.getfield 30, 3) := by decide +kernel
theorem dX4_datum_39 : decode cX4_datum 39 = .ok (.iload_n 1, 1) := by decide +kernel
theorem dX4_datum_40 : decode cX4_datum 40 = .ok (.aaload, 1) := by decide +kernel
theorem dX4_datum_41 : decode cX4_datum 41 = .ok (.getfield 166, 3) := by decide +kernel
theorem dX4_datum_44 : decode cX4_datum 44 = .ok (.iload_n 2, 1) := by decide +kernel
theorem dX4_datum_45 : decode cX4_datum 45 = .ok (.iaload, 1) := by decide +kernel
theorem dX4_datum_46 : decode cX4_datum 46 = .ok (.ireturn, 1) := by decide +kernel
theorem dX4_check_0 : decode cX4_check 0 = .ok (.aload_n 0, 1) := by decide +kernel
theorem dX4_check_1 : decode cX4_check 1 = .ok (.getfield 39, 3) := by decide +kernel
theorem dX4_check_4 : decode cX4_check 4 = .ok (.invokevirtual 169, 3) := by decide +kernel
theorem dX4_check_7 : decode cX4_check 7 = .ok (.ifCond .eq 7, 3) := by decide +kernel
theorem dX4_check_10 : decode cX4_check 10 = .ok (.iconst 1, 1) := by decide +kernel
theorem dX4_check_11 : decode cX4_check 11 = .ok (.goto 4, 3) := by decide +kernel
theorem dX4_check_14 : decode cX4_check 14 = .ok (.iconst 0, 1) := by decide +kernel
theorem dX4_check_15 : decode cX4_check 15 = .ok (.ireturn, 1) := by decide +kernel
theorem dX4_isModule_0 : decode cX4_isModule 0 = .ok (.iload_n 1, 1) := by decide +kernel
theorem dX4_isModule_1 : decode cX4_isModule 1 = .ok (.ifCond .lt 15, 3) := by decide +kernel
theorem dX4_isModule_4 : decode cX4_isModule 4 = .ok (.iload_n 1, 1) := by decide +kernel
theorem dX4_isModule_5 : decode cX4_isModule 5 = .ok (.aload_n 0, 1) := by decide +kernel
theorem dX4_isModule_6 : decode cX4_isModule 6 = .ok (.getfield 7, 3) := by decide +kernel
theorem dX4_isModule_9 : decode cX4_isModule 9 = .ok (.if_icmp .ge 7, 3) := by decide +kernel
theorem dX4_isModule_12 : decode cX4_isModule 12 = .ok (.iconst 1, 1) := by decide +kernel
theorem dX4_isModule_13 : decode cX4_isModule 13 = .ok (.goto 4, 3) := by decide +kernel
theorem dX4_isModule_16 : decode cX4_isModule 16 = .ok (.iconst 0, 1) := by decide +kernel
theorem dX4_isModule_17 : decode cX4_isModule 17 = .ok (.ireturn, 1) := by decide +kernel
theorem dX4_takeTrial_0 : decode cX4_takeTrial 0 = .ok (.aload_n 0, 1) := by decide +kernel
theorem dX4_takeTrial_1 : decode cX4_takeTrial 1 = .ok (.getfield 39, 3) := by decide +kernel
theorem dX4_takeTrial_4 : decode cX4_takeTrial 4 = .ok (.astore_n 1, 1) := by decide +kernel
theorem dX4_takeTrial_5 : decode cX4_takeTrial 5 = .ok (.aload_n 0, 1) := by decide +kernel
theorem dX4_takeTrial_6 : decode cX4_takeTrial 6 = .ok (.aload_n 0, 1) := by decide +kernel
theorem dX4_takeTrial_7 : decode cX4_takeTrial 7 = .ok (.getfield 43, 3) := by decide +kernel
theorem dX4_takeTrial_10 : decode cX4_takeTrial 10 = .ok (.putfield 39, 3) := by decide +kernel
theorem dX4_takeTrial_13 : decode cX4_takeTrial 13 = .ok (.aload_n 0, 1) := by decide +kernel
theorem dX4_takeTrial_14 : decode cX4_takeTrial 14 = .ok (.aload_n 1, 1) := by decide +kernel
theorem dX4_takeTrial_15 : decode cX4_takeTrial 15 = .ok (.putfield 43, 3) := by decide +kernel
theorem dX4_takeTrial_18 : decode cX4_takeTrial 18 = .ok (.aload_n 0, 1) := by decide +kernel
theorem dX4_takeTrial_19 : decode cX4_takeTrial 19 = .ok (.getfield 39, 3) := by decide +kernel
theorem dX4_takeTrial_22 : decode cX4_takeTrial 22 = .ok (.invokevirtual 134, 3) := by decide +kernel
theorem dX4_takeTrial_25 : decode cX4_takeTrial 25 = .ok (.return_, 1) := by decide +kernel
theorem dX4_isName_0 : decode cX4_isName 0 = .ok (.iload_n 0, 1) := by decide +kernel
theorem dX4_isName_1 : decode cX4_isName 1 = .ok (.ifCond .lt 13, 3) := by decide +kernel
theorem dX4_isName_4 : decode cX4_isName 4 = .ok (.iload_n 0, 1) := by decide +kernel
theorem dX4_isName_5 : decode cX4_isName 5 = .ok (.bipush 64, 2) := by decide +kernel
theorem dX4_isName_7 : decode cX4_isName 7 = .ok (.if_icmp .ge 7, 3) := by decide +kernel
theorem dX4_isName_10 : decode cX4_isName 10 = .ok (.iconst 1, 1) := by decide +kernel
theorem dX4_isName_11 : decode cX4_isName 11 = .ok (.goto 4, 3) := by decide +kernel
theorem dX4_isName_14 : decode cX4_isName 14 = .ok (.iconst 0, 1) := by decide +kernel
theorem dX4_isName_15 : decode cX4_isName 15 = .ok (.ireturn, 1) := by decide +kernel
theorem dX4_isStep_0 : decode cX4_isStep 0 = .ok (.iload_n 0, 1) := by decide +kernel
theorem dX4_isStep_1 : decode cX4_isStep 1 = .ok (.ifCond .lt 13, 3) := by decide +kernel
theorem dX4_isStep_4 : decode cX4_isStep 4 = .ok (.iload_n 0, 1) := by decide +kernel
theorem dX4_isStep_5 : decode cX4_isStep 5 = .ok (.bipush 100, 2) := by decide +kernel
theorem dX4_isStep_7 : decode cX4_isStep 7 = .ok (.if_icmp .ge 7, 3) := by decide +kernel
theorem dX4_isStep_10 : decode cX4_isStep 10 = .ok (.iconst 1, 1) := by decide +kernel
theorem dX4_isStep_11 : decode cX4_isStep 11 = .ok (.goto 4, 3) := by decide +kernel
theorem dX4_isStep_14 : decode cX4_isStep 14 = .ok (.iconst 0, 1) := by decide +kernel
theorem dX4_isStep_15 : decode cX4_isStep 15 = .ok (.ireturn, 1) := by decide +kernel
theorem dX4_isRegister_0 : decode cX4_isRegister 0 = .ok (.iload_n 0, 1) := by decide +kernel
theorem dX4_isRegister_1 : decode cX4_isRegister 1 = .ok (.ifCond .lt 13, 3) := by decide +kernel
theorem dX4_isRegister_4 : decode cX4_isRegister 4 = .ok (.iload_n 0, 1) := by decide +kernel
theorem dX4_isRegister_5 : decode cX4_isRegister 5 = .ok (.bipush 8, 2) := by decide +kernel
theorem dX4_isRegister_7 : decode cX4_isRegister 7 = .ok (.if_icmp .ge 7, 3) := by decide +kernel
theorem dX4_isRegister_10 : decode cX4_isRegister 10 = .ok (.iconst 1, 1) := by decide +kernel
theorem dX4_isRegister_11 : decode cX4_isRegister 11 = .ok (.goto 4, 3) := by decide +kernel
theorem dX4_isRegister_14 : decode cX4_isRegister 14 = .ok (.iconst 0, 1) := by decide +kernel
theorem dX4_isRegister_15 : decode cX4_isRegister 15 = .ok (.ireturn, 1) := by decide +kernel
theorem dX4_isWellFormed_0 : decode cX4_isWellFormed 0 = .ok (.iload_n 0, 1) := by decide +kernel
theorem dX4_isWellFormed_1 : decode cX4_isWellFormed 1 = .ok (.tableswitch 206 0 14 #[75, 80, 100, 100, 100, 127, 154, 159, 164, 184, 164, 75, 204, 75, 204], 75) := by decide +kernel
theorem dX4_isWellFormed_76 : decode cX4_isWellFormed 76 = .ok (.iload_n 1, 1) := by decide +kernel
theorem dX4_isWellFormed_77 : decode cX4_isWellFormed 77 = .ok (.invokestatic 160, 3) := by decide +kernel
theorem dX4_isWellFormed_80 : decode cX4_isWellFormed 80 = .ok (.ireturn, 1) := by decide +kernel
theorem dX4_isWellFormed_81 : decode cX4_isWellFormed 81 = .ok (.iload_n 1, 1) := by decide +kernel
theorem dX4_isWellFormed_82 : decode cX4_isWellFormed 82 = .ok (.invokestatic 160, 3) := by decide +kernel
theorem dX4_isWellFormed_85 : decode cX4_isWellFormed 85 = .ok (.ifCond .eq 14, 3) := by decide +kernel
theorem dX4_isWellFormed_88 : decode cX4_isWellFormed 88 = .ok (.iload_n 2, 1) := by decide +kernel
theorem dX4_isWellFormed_89 : decode cX4_isWellFormed 89 = .ok (.invokestatic 160, 3) := by decide +kernel
theorem dX4_isWellFormed_92 : decode cX4_isWellFormed 92 = .ok (.ifCond .eq 7, 3) := by decide +kernel
theorem dX4_isWellFormed_95 : decode cX4_isWellFormed 95 = .ok (.iconst 1, 1) := by decide +kernel
theorem dX4_isWellFormed_96 : decode cX4_isWellFormed 96 = .ok (.goto 4, 3) := by decide +kernel
theorem dX4_isWellFormed_99 : decode cX4_isWellFormed 99 = .ok (.iconst 0, 1) := by decide +kernel
theorem dX4_isWellFormed_100 : decode cX4_isWellFormed 100 = .ok (.ireturn, 1) := by decide +kernel
theorem dX4_isWellFormed_101 : decode cX4_isWellFormed 101 = .ok (.iload_n 1, 1) := by decide +kernel
theorem dX4_isWellFormed_102 : decode cX4_isWellFormed 102 = .ok (.invokestatic 160, 3) := by decide +kernel
theorem dX4_isWellFormed_105 : decode cX4_isWellFormed 105 = .ok (.ifCond .eq 21, 3) := by decide +kernel
theorem dX4_isWellFormed_108 : decode cX4_isWellFormed 108 = .ok (.iload_n 2, 1) := by decide +kernel
theorem dX4_isWellFormed_109 : decode cX4_isWellFormed 109 = .ok (.invokestatic 160, 3) := by decide +kernel
theorem dX4_isWellFormed_112 : decode cX4_isWellFormed 112 = .ok (.ifCond .eq 14, 3) := by decide +kernel
theorem dX4_isWellFormed_115 : decode cX4_isWellFormed 115 = .ok (.iload_n 3, 1) := by decide +kernel
theorem dX4_isWellFormed_116 : decode cX4_isWellFormed 116 = .ok (.invokestatic 160, 3) := by decide +kernel
theorem dX4_isWellFormed_119 : decode cX4_isWellFormed 119 = .ok (.ifCond .eq 7, 3) := by decide +kernel
theorem dX4_isWellFormed_122 : decode cX4_isWellFormed 122 = .ok (.iconst 1, 1) := by decide +kernel
theorem dX4_isWellFormed_123 : decode cX4_isWellFormed 123 = .ok (.goto 4, 3) := by decide +kernel
theorem dX4_isWellFormed_126 : decode cX4_isWellFormed 126 = .ok (.iconst 0, 1) := by decide +kernel
theorem dX4_isWellFormed_127 : decode cX4_isWellFormed 127 = .ok (.ireturn, 1) := by decide +kernel
theorem dX4_isWellFormed_128 : decode cX4_isWellFormed 128 = .ok (.iload_n 1, 1) := by decide +kernel
theorem dX4_isWellFormed_129 : decode cX4_isWellFormed 129 = .ok (.invokestatic 160, 3) := by decide +kernel
theorem dX4_isWellFormed_132 : decode cX4_isWellFormed 132 = .ok (.ifCond .eq 21, 3) := by decide +kernel
theorem dX4_isWellFormed_135 : decode cX4_isWellFormed 135 = .ok (.iload_n 2, 1) := by decide +kernel
theorem dX4_isWellFormed_136 : decode cX4_isWellFormed 136 = .ok (.invokestatic 160, 3) := by decide +kernel
theorem dX4_isWellFormed_139 : decode cX4_isWellFormed 139 = .ok (.ifCond .eq 14, 3) := by decide +kernel
theorem dX4_isWellFormed_142 : decode cX4_isWellFormed 142 = .ok (.iload_n 3, 1) := by decide +kernel
theorem dX4_isWellFormed_143 : decode cX4_isWellFormed 143 = .ok (.invokestatic 62, 3) := by decide +kernel
theorem dX4_isWellFormed_146 : decode cX4_isWellFormed 146 = .ok (.ifCond .eq 7, 3) := by decide +kernel
theorem dX4_isWellFormed_149 : decode cX4_isWellFormed 149 = .ok (.iconst 1, 1) := by decide +kernel
theorem dX4_isWellFormed_150 : decode cX4_isWellFormed 150 = .ok (.goto 4, 3) := by decide +kernel
theorem dX4_isWellFormed_153 : decode cX4_isWellFormed 153 = .ok (.iconst 0, 1) := by decide +kernel
theorem dX4_isWellFormed_154 : decode cX4_isWellFormed 154 = .ok (.ireturn, 1) := by decide +kernel
theorem dX4_isWellFormed_155 : decode cX4_isWellFormed 155 = .ok (.iload_n 1, 1) := by decide +kernel
theorem dX4_isWellFormed_156 : decode cX4_isWellFormed 156 = .ok (.invokestatic 62, 3) := by decide +kernel
theorem dX4_isWellFormed_159 : decode cX4_isWellFormed 159 = .ok (.ireturn, 1) := by decide +kernel
theorem dX4_isWellFormed_160 : decode cX4_isWellFormed 160 = .ok (.iload_n 1, 1) := by decide +kernel
theorem dX4_isWellFormed_161 : decode cX4_isWellFormed 161 = .ok (.invokestatic 59, 3) := by decide +kernel
theorem dX4_isWellFormed_164 : decode cX4_isWellFormed 164 = .ok (.ireturn, 1) := by decide +kernel
theorem dX4_isWellFormed_165 : decode cX4_isWellFormed 165 = .ok (.iload_n 1, 1) := by decide +kernel
theorem dX4_isWellFormed_166 : decode cX4_isWellFormed 166 = .ok (.invokestatic 160, 3) := by decide +kernel
theorem dX4_isWellFormed_169 : decode cX4_isWellFormed 169 = .ok (.ifCond .eq 14, 3) := by decide +kernel
theorem dX4_isWellFormed_172 : decode cX4_isWellFormed 172 = .ok (.iload_n 2, 1) := by decide +kernel
theorem dX4_isWellFormed_173 : decode cX4_isWellFormed 173 = .ok (.invokestatic 59, 3) := by decide +kernel
theorem dX4_isWellFormed_176 : decode cX4_isWellFormed 176 = .ok (.ifCond .eq 7, 3) := by decide +kernel
theorem dX4_isWellFormed_179 : decode cX4_isWellFormed 179 = .ok (.iconst 1, 1) := by decide +kernel
theorem dX4_isWellFormed_180 : decode cX4_isWellFormed 180 = .ok (.goto 4, 3) := by decide +kernel
theorem dX4_isWellFormed_183 : decode cX4_isWellFormed 183 = .ok (.iconst 0, 1) := by decide +kernel
theorem dX4_isWellFormed_184 : decode cX4_isWellFormed 184 = .ok (.ireturn, 1) := by decide +kernel
theorem dX4_isWellFormed_185 : decode cX4_isWellFormed 185 = .ok (.iload_n 1, 1) := by decide +kernel
theorem dX4_isWellFormed_186 : decode cX4_isWellFormed 186 = .ok (.invokestatic 59, 3) := by decide +kernel
theorem dX4_isWellFormed_189 : decode cX4_isWellFormed 189 = .ok (.ifCond .eq 14, 3) := by decide +kernel
theorem dX4_isWellFormed_192 : decode cX4_isWellFormed 192 = .ok (.iload_n 2, 1) := by decide +kernel
theorem dX4_isWellFormed_193 : decode cX4_isWellFormed 193 = .ok (.invokestatic 160, 3) := by decide +kernel
theorem dX4_isWellFormed_196 : decode cX4_isWellFormed 196 = .ok (.ifCond .eq 7, 3) := by decide +kernel
theorem dX4_isWellFormed_199 : decode cX4_isWellFormed 199 = .ok (.iconst 1, 1) := by decide +kernel
theorem dX4_isWellFormed_200 : decode cX4_isWellFormed 200 = .ok (.goto 4, 3) := by decide +kernel
theorem dX4_isWellFormed_203 : decode cX4_isWellFormed 203 = .ok (.iconst 0, 1) := by decide +kernel
theorem dX4_isWellFormed_204 : decode cX4_isWellFormed 204 = .ok (.ireturn, 1) := by decide +kernel
theorem dX4_isWellFormed_205 : decode cX4_isWellFormed 205 = .ok (.iconst 1, 1) := by decide +kernel
theorem dX4_isWellFormed_206 : decode cX4_isWellFormed 206 = .ok (.ireturn, 1) := by decide +kernel
theorem dX4_isWellFormed_207 : decode cX4_isWellFormed 207 = .ok (.iconst 0, 1) := by decide +kernel
theorem dX4_isWellFormed_208 : decode cX4_isWellFormed 208 = .ok (.ireturn, 1) := by decide +kernel
