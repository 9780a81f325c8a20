theorem dX3_init_0 : decode cX3_init 0 = .ok (.aload_n 0, 1) := by decide +kernel
theorem dX3_init_1 : decode cX3_init 1 = .ok (.invokespecial 1, 3) := by decide +kernel
theorem dX3_init_4 : decode cX3_init 4 = .ok (.aload_n 0, 1) := by decide +kernel
theorem dX3_init_5 : decode cX3_init 5 = .ok (.new 7, 3) := by decide +kernel
theorem dX3_init_8 : decode cX3_init 8 = .ok (.dup, 1) := by decide +kernel
theorem dX3_init_9 : decode cX3_init 9 = .ok (.invokespecial 9, 3) := by decide +kernel
theorem dX3_init_12 : decode cX3_init 12 = .ok (.putfield 10, 3) := by decide +kernel
theorem dX3_init_15 : decode cX3_init 15 = .ok (.aload_n 0, 1) := by decide +kernel
theorem dX3_init_16 : decode cX3_init 16 = .ok (.new 7, 3) := by decide +kernel
theorem dX3_init_19 : decode cX3_init 19 = .ok (.dup, 1) := by decide +kernel
theorem dX3_init_20 : decode cX3_init 20 = .ok (.invokespecial 9, 3) := by decide +kernel
theorem dX3_init_23 : decode cX3_init 23 = .ok (.putfield 16, 3) := by decide +kernel
theorem dX3_init_26 : decode cX3_init 26 = .ok (.aload_n 0, 1) := by decide +kernel
theorem dX3_init_27 : decode cX3_init 27 = .ok (.new 7, 3) := by decide +kernel
theorem dX3_init_30 : decode cX3_init 30 = .ok (.dup, 1) := by decide +kernel
theorem dX3_init_31 : decode cX3_init 31 = .ok (.invokespecial 9, 3) := by decide +kernel
theorem dX3_init_34 : decode cX3_init 34 = .ok (.putfield 19, 3) := by decide +kernel
theorem dX3_init_37 : decode cX3_init 37 = .ok (.aload_n 0, 1) := by decide +kernel
theorem dX3_init_38 : decode cX3_init 38 = .ok (.new 22, 3) := by decide +kernel
theorem dX3_init_41 : decode cX3_init 41 = .ok (.dup, 1) := by decide +kernel
theorem dX3_init_42 : decode cX3_init 42 = .ok (.invokespecial 24, 3) := by decide +kernel
theorem dX3_init_45 : decode cX3_init 45 = .ok (.putfield 25, 3) := by decide +kernel
theorem dX3_init_48 : decode cX3_init 48 = .ok (.aload_n 0, 1) := by decide +kernel
theorem dX3_init_49 : decode cX3_init 49 = .ok (.iconst 4, 1) := by decide +kernel
theorem dX3_init_50 : decode cX3_init 50 = .ok (.anewarray 29, 3) := by decide +kernel
theorem dX3_init_53 : decode cX3_init 53 = .ok (.putfield 31, 3) := by decide +kernel
theorem dX3_init_56 : decode cX3_init 56 = .ok (.iconst 0, 1) := by decide +kernel
theorem dX3_init_57 : decode cX3_init 57 = .ok (.istore_n 1, 1) := by decide +kernel
theorem dX3_init_58 : decode cX3_init 58 = .ok (.iload_n 1, 1) := by decide +kernel
theorem dX3_init_59 : decode cX3_init 59 = .ok (.iconst 4, 1) := by decide +kernel
theorem dX3_init_60 : decode cX3_init 60 = .ok (.if_icmp .ge 22, 3) := by decide +kernel
theorem dX3_init_63 : decode cX3_init 63 = .ok (.aload_n 0, 1) := by decide +kernel
theorem dX3_init_64 : decode cX3_init 64 = .ok (.getfield 31, 3) := by decide +kernel
theorem dX3_init_67 : decode cX3_init 67 = .ok (.iload_n 1, 1) := by decide +kernel
theorem dX3_init_68 : decode cX3_init 68 = .ok (.new 29, 3) := by decide +kernel
theorem dX3_init_71 : decode cX3_init 71 = .ok (.dup, 1) := by decide +kernel
theorem dX3_init_72 : decode cX3_init 72 = .ok (.invokespecial 35, 3) := by decide +kernel
theorem dX3_init_75 : decode cX3_init 75 = .ok (.aastore, 1) := by decide +kernel
theorem dX3_init_76 : decode cX3_init 76 = .ok (.iinc 1 1, 3) := by decide +kernel
theorem dX3_init_79 : decode cX3_init 79 = .ok (.goto (-21), 3) := by decide +kernel
theorem dX3_init_82 : decode cX3_init 82 = .ok (.aload_n 0, 1) := by decide +kernel
theorem dX3_init_83 : decode cX3_init 83 = .ok (.bipush 7, 2) := by decide +kernel
theorem dX3_init_85 : decode cX3_init 85 = .ok (.newarray .int, 2) := by decide +kernel
theorem dX3_init_87 : decode cX3_init 87 = .ok (.putfield 36, 3) := by decide +kernel
theorem dX3_init_90 : decode cX3_init 90 = .ok (.aload_n 0, 1) := by decide +kernel
theorem dX3_init_91 : decode cX3_init 91 = .ok (.iconst 0, 1) := by decide +kernel
theorem dX3_init_92 : decode cX3_init 92 = .ok (.putfield 40, 3) := by decide +kernel
theorem dX3_init_95 : decode cX3_init 95 = .ok (.return_, 1) := by decide +kernel
theorem dX3_law_0 : decode cX3_law 0 = .ok (.iload_n 1, 1) := by decide +kernel
theorem dX3_law_1 : decode cX3_law 1 = .ok (.ifCond .ne 30, 3) := by decide +kernel
theorem dX3_law_4 : decode cX3_law 4 = .ok (.iload_n 2, 1) := by decide +kernel
theorem dX3_law_5 : decode cX3_law 5 = .ok (.iconst 0, 1) := by decide +kernel
theorem dX3_law_6 : decode cX3_law 6 = .ok (.iconst 4, 1) := by decide +kernel
theorem dX3_law_7 : decode cX3_law 7 = .ok (.invokestatic 44, 3) := by decide +kernel
theorem dX3_law_10 : decode cX3_law 10 = .ok (.ifCond .eq 21, 3) := by decide +kernel
theorem dX3_law_13 : decode cX3_law 13 = .ok (.aload_n 0, 1) := by decide +kernel
theorem dX3_law_14 : decode cX3_law 14 = .ok (.getfield 10, 3) := by decide +kernel
theorem dX3_law_17 : decode cX3_law 17 = .ok (.getfield 48, 3) := by decide +kernel
theorem dX3_law_20 : decode cX3_law 20 = .ok (.istore_n 3, 1) := by decide +kernel
theorem dX3_law_21 : decode cX3_law 21 = .ok (.aload_n 0, 1) := by decide +kernel
theorem dX3_law_22 : decode cX3_law 22 = .ok (.getfield 10, 3) := by decide +kernel
theorem dX3_law_25 : decode cX3_law 25 = .ok (.iload_n 2, 1) := by decide +kernel
theorem dX3_law_26 : decode cX3_law 26 = .ok (.putfield 48, 3) := by decide +kernel
theorem dX3_law_29 : decode cX3_law 29 = .ok (.iload_n 3, 1) := by decide +kernel
theorem dX3_law_30 : decode cX3_law 30 = .ok (.ireturn, 1) := by decide +kernel
theorem dX3_law_31 : decode cX3_law 31 = .ok (.iload_n 1, 1) := by decide +kernel
theorem dX3_law_32 : decode cX3_law 32 = .ok (.iconst 1, 1) := by decide +kernel
theorem dX3_law_33 : decode cX3_law 33 = .ok (.if_icmp .ne 31, 3) := by decide +kernel
theorem dX3_law_36 : decode cX3_law 36 = .ok (.iload_n 2, 1) := by decide +kernel
theorem dX3_law_37 : decode cX3_law 37 = .ok (.iconst 1, 1) := by decide +kernel
theorem dX3_law_38 : decode cX3_law 38 = .ok (.bipush 99, 2) := by decide +kernel
theorem dX3_law_40 : decode cX3_law 40 = .ok (.invokestatic 44, 3) := by decide +kernel
theorem dX3_law_43 : decode cX3_law 43 = .ok (.ifCond .eq 21, 3) := by decide +kernel
theorem dX3_law_46 : decode cX3_law 46 = .ok (.aload_n 0, 1) := by decide +kernel
theorem dX3_law_47 : decode cX3_law 47 = .ok (.getfield 10, 3) := by decide +kernel
theorem dX3_law_50 : decode cX3_law 50 = .ok (.getfield 52, 3) := by decide +kernel
theorem dX3_law_53 : decode cX3_law 53 = .ok (.istore_n 3, 1) := by decide +kernel
theorem dX3_law_54 : decode cX3_law 54 = .ok (.aload_n 0, 1) := by decide +kernel
theorem dX3_law_55 : decode cX3_law 55 = .ok (.getfield 10, 3) := by decide +kernel
theorem dX3_law_58 : decode cX3_law 58 = .ok (.iload_n 2, 1) := by decide +kernel
theorem dX3_law_59 : decode cX3_law 59 = .ok (.putfield 52, 3) := by decide +kernel
theorem dX3_law_62 : decode cX3_law 62 = .ok (.iload_n 3, 1) := by decide +kernel
theorem dX3_law_63 : decode cX3_law 63 = .ok (.ireturn, 1) := by decide +kernel
theorem dX3_law_64 : decode cX3_law 64 = .ok (.aload_n 0, 1) := by decide +kernel
theorem dX3_law_65 : decode cX3_law 65 = .ok (.ldc 55, 2) := by decide +kernel
theorem dX3_law_67 : decode cX3_law 67 = .ok (.invokevirtual 56, 3) := by decide +kernel
theorem dX3_law_70 : decode cX3_law 70 = .ok (.ireturn, 1) := by decide +kernel
theorem dX3_person_0 : decode cX3_person 0 = .ok (.iload_n 1, 1) := by decide +kernel
theorem dX3_person_1 : decode cX3_person 1 = .ok (.invokestatic 60, 3) := by decide +kernel
theorem dX3_person_4 : decode cX3_person 4 = .ok (.ifCond .eq 10, 3) := by decide +kernel
theorem dX3_person_7 : decode cX3_person 7 = .ok (.iload_n 2, 1) := by decide +kernel
theorem dX3_person_8 : decode cX3_person 8 = .ok (.invokestatic 64, 3) := by decide +kernel
theorem dX3_person_11 : decode cX3_person 11 = .ok (.ifCond .ne 10, 3) := by decide +kernel
theorem dX3_person_14 : decode cX3_person 14 = .ok (.aload_n 0, 1) := by decide +kernel
theorem dX3_person_15 : decode cX3_person 15 = .ok (.ldc 55, 2) := by decide +kernel
theorem dX3_person_17 : decode cX3_person 17 = .ok (.invokevirtual 56, 3) := by decide +kernel
theorem dX3_person_20 : decode cX3_person 20 = .ok (.ireturn, 1) := by decide +kernel
theorem dX3_person_21 : decode cX3_person 21 = .ok (.aload_n 0, 1) := by decide +kernel
theorem dX3_person_22 : decode cX3_person 22 = .ok (.getfield 10, 3) := by decide +kernel
theorem dX3_person_25 : decode cX3_person 25 = .ok (.getfield 67, 3) := by decide +kernel
theorem dX3_person_28 : decode cX3_person 28 = .ok (.bipush 8, 2) := by decide +kernel
theorem dX3_person_30 : decode cX3_person 30 = .ok (.if_icmp .lt 10, 3) := by decide +kernel
theorem dX3_person_33 : decode cX3_person 33 = .ok (.aload_n 0, 1) := by decide +kernel
theorem dX3_person_34 : decode cX3_person 34 = .ok (.ldc 70, 2) := by decide +kernel
theorem dX3_person_36 : decode cX3_person 36 = .ok (.invokevirtual 56, 3) := by decide +kernel
theorem dX3_person_39 : decode cX3_person 39 = .ok (.ireturn, 1) := by decide +kernel
theorem dX3_person_40 : decode cX3_person 40 = .ok (.aload_n 0, 1) := by decide +kernel
theorem dX3_person_41 : decode cX3_person 41 = .ok (.getfield 10, 3) := by decide +kernel
theorem dX3_person_44 : decode cX3_person 44 = .ok (.iload_n 1, 1) := by decide +kernel
theorem dX3_person_45 : decode cX3_person 45 = .ok (.iload_n 2, 1) := by decide +kernel
theorem dX3_person_46 : decode cX3_person 46 = .ok (.invokevirtual 71, 3) := by decide +kernel
theorem dX3_person_49 : decode cX3_person 49 = .ok (.ireturn, 1) := by decide +kernel
theorem dX3_of_0 : decode cX3_of 0 = .ok (.aload_n 0, 1) := by decide +kernel
theorem dX3_of_1 : decode cX3_of 1 = .ok (.getfield 10, 3) := by decide +kernel
theorem dX3_of_4 : decode cX3_of 4 = .ok (.iload_n 1, 1) := by decide +kernel
theorem dX3_of_5 : decode cX3_of 5 = .ok (.invokevirtual 75, 3) := by decide +kernel
theorem dX3_of_8 : decode cX3_of 8 = .ok (.ifCond .ne 10, 3) := by decide +kernel
theorem dX3_of_11 : decode cX3_of 11 = .ok (.aload_n 0, 1) := by decide +kernel
theorem dX3_of_12 : decode cX3_of 12 = .ok (.ldc 55, 2) := by decide +kernel
theorem dX3_of_14 : decode cX3_of 14 = .ok (.invokevirtual 56, 3) := by decide +kernel
theorem dX3_of_17 : decode cX3_of 17 = .ok (.ireturn, 1) := by decide +kernel
theorem dX3_of_18 : decode cX3_of 18 = .ok (.iload_n 2, 1) := by decide +kernel
theorem dX3_of_19 : decode cX3_of 19 = .ok (.tableswitch 95 0 5 #[37, 47, 57, 67, 77, 86], 37) := by decide +kernel
theorem dX3_of_56 : decode cX3_of 56 = .ok (.aload_n 0, 1) := by decide +kernel
theorem dX3_of_57 : decode cX3_of 57 = .ok (.getfield 10, 3) := by decide +kernel
theorem dX3_of_60 : decode cX3_of 60 = .ok (.getfield 78, 3) := by decide +kernel
theorem dX3_of_63 : decode cX3_of 63 = .ok (.iload_n 1, 1) := by decide +kernel
theorem dX3_of_64 : decode cX3_of 64 = .ok (.iaload, 1) := by decide +kernel
theorem dX3_of_65 : decode cX3_of 65 = .ok (.ireturn, 1) := by decide +kernel
theorem dX3_of_66 : decode cX3_of 66 = .ok (.aload_n 0, 1) := by decide +kernel
theorem dX3_of_67 : decode cX3_of 67 = .ok (.getfield 10, 3) := by decide +kernel
theorem dX3_of_70 : decode cX3_of 70 = .ok (.getfield 81, 3) := by decide +kernel
theorem dX3_of_73 : decode cX3_of 73 = .ok (.iload_n 1, 1) := by decide +kernel
theorem dX3_of_74 : decode cX3_of 74 = .ok (.iaload, 1) := by decide +kernel
theorem dX3_of_75 : decode cX3_of 75 = .ok (.ireturn, 1) := by decide +kernel
theorem dX3_of_76 : decode cX3_of 76 = .ok (.aload_n 0, 1) := by decide +kernel
theorem dX3_of_77 : decode cX3_of 77 = .ok (.getfield 10, 3) := by decide +kernel
theorem dX3_of_80 : decode cX3_of 80 = .ok (.getfield 84, 3) := by decide +kernel
theorem dX3_of_83 : decode cX3_of 83 = .ok (.iload_n 1, 1) := by decide +kernel
theorem dX3_of_84 : decode cX3_of 84 = .ok (.iaload, 1) := by decide +kernel
theorem dX3_of_85 : decode cX3_of 85 = .ok (.ireturn, 1) := by decide +kernel
theorem dX3_of_86 : decode cX3_of 86 = .ok (.aload_n 0, 1) := by decide +kernel
theorem dX3_of_87 : decode cX3_of 87 = .ok (.getfield 10, 3) := by decide +kernel
theorem dX3_of_90 : decode cX3_of 90 = .ok (.getfield 87, 3) := by decide +kernel
theorem dX3_of_93 : decode cX3_of 93 = .ok (.iload_n 1, 1) := by decide +kernel
theorem dX3_of_94 : decode cX3_of 94 = .ok (.iaload, 1) := by decide +kernel
theorem dX3_of_95 : decode cX3_of 95 = .ok (.ireturn, 1) := by decide +kernel
theorem dX3_of_96 : decode cX3_of 96 = .ok (.aload_n 0, 1) := by decide +kernel
theorem dX3_of_97 : decode cX3_of 97 = .ok (.getfield 10, 3) := by decide +kernel
theorem dX3_of_100 : decode cX3_of 100 = .ok (.iload_n 1, 1) := by decide +kernel
theorem dX3_of_101 : decode cX3_of 101 = .ok (.invokevirtual 90, 3) := by decide +kernel
theorem dX3_of_104 : decode cX3_of 104 = .ok (.ireturn, 1) := by decide +kernel
theorem dX3_of_105 : decode cX3_of 105 = .ok (.aload_n 0, 1) := by decide +kernel
theorem dX3_of_106 : decode cX3_of 106 = .ok (.getfield 10, 3) := by decide +kernel
theorem dX3_of_109 : decode cX3_of 109 = .ok (.iload_n 1, 1) := by decide +kernel
theorem dX3_of_110 : decode cX3_of 110 = .ok (.invokevirtual 93, 3) := by decide +kernel
theorem dX3_of_113 : decode cX3_of 113 = .ok (.ireturn, 1) := by decide +kernel
theorem dX3_of_114 : decode cX3_of 114 = .ok (.aload_n 0, 1) := by decide +kernel
theorem dX3_of_115 : decode cX3_of 115 = .ok (.ldc 55, 2) := by decide +kernel
theorem dX3_of_117 : decode cX3_of 117 = .ok (.invokevirtual 56, 3) := by decide +kernel
theorem dX3_of_120 : decode cX3_of 120 = .ok (.ireturn, 1) := by decide +kernel
theorem dX3_set_0 : decode cX3_set 0 = .ok (.aload_n 0, 1) := by decide +kernel
theorem dX3_set_1 : decode cX3_set 1 = .ok (.getfield 10, 3) := by decide +kernel
theorem dX3_set_4 : decode cX3_set 4 = .ok (.iload_n 1, 1) := by decide +kernel
theorem dX3_set_5 : decode cX3_set 5 = .ok (.invokevirtual 75, 3) := by decide +kernel
theorem dX3_set_8 : decode cX3_set 8 = .ok (.ifCond .ne 10, 3) := by decide +kernel
theorem dX3_set_11 : decode cX3_set 11 = .ok (.aload_n 0, 1) := by decide +kernel
theorem dX3_set_12 : decode cX3_set 12 = .ok (.ldc 55, 2) := by decide +kernel
theorem dX3_set_14 : decode cX3_set 14 = .ok (.invokevirtual 56, 3) := by decide +kernel
theorem dX3_set_17 : decode cX3_set 17 = .ok (.ireturn, 1) := by decide +kernel
theorem dX3_set_18 : decode cX3_set 18 = .ok (.iload_n 2, 1) := by decide +kernel
theorem dX3_set_19 : decode cX3_set 19 = .ok (.iconst 1, 1) := by decide +kernel
theorem dX3_set_20 : decode cX3_set 20 = .ok (.if_icmp .ne 23, 3) := by decide +kernel
theorem dX3_set_23 : decode cX3_set 23 = .ok (.iload_n 3, 1) := by decide +kernel
theorem dX3_set_24 : decode cX3_set 24 = .ok (.invokestatic 64, 3) := by decide +kernel
theorem dX3_set_27 : decode cX3_set 27 = .ok (.ifCond .eq 16, 3) := by decide +kernel
theorem dX3_set_30 : decode cX3_set 30 = .ok (.aload_n 0, 1) := by decide +kernel
theorem dX3_set_31 : decode cX3_set 31 = .ok (.getfield 10, 3) := by decide +kernel
theorem dX3_set_34 : decode cX3_set 34 = .ok (.getfield 81, 3) := by decide +kernel
theorem dX3_set_37 : decode cX3_set 37 = .ok (.iload_n 1, 1) := by decide +kernel
theorem dX3_set_38 : decode cX3_set 38 = .ok (.iload_n 3, 1) := by decide +kernel
theorem dX3_set_39 : decode cX3_set 39 = .ok (.invokestatic 96, 3) := by decide +kernel
theorem dX3_set_42 : decode cX3_set 42 = .ok (.ireturn, 1) := by decide +kernel
theorem dX3_set_43 : decode cX3_set 43 = .ok (.iload_n 2, 1) := by decide +kernel
theorem dX3_set_44 : decode cX3_set 44 = .ok (.iconst 2, 1) := by decide +kernel
theorem dX3_set_45 : decode cX3_set 45 = .ok (.if_icmp .ne 26, 3) := by decide +kernel
theorem dX3_set_48 : decode cX3_set 48 = .ok (.iload_n 3, 1) := by decide +kernel
theorem dX3_set_49 : decode cX3_set 49 = .ok (.iconst 0, 1) := by decide +kernel
theorem dX3_set_50 : decode cX3_set 50 = .ok (.bipush 9, 2) := by decide +kernel
theorem dX3_set_52 : decode cX3_set 52 = .ok (.invokestatic 44, 3) := by decide +kernel
theorem dX3_set_55 : decode cX3_set 55 = .ok (.ifCond .eq 16, 3) := by decide +kernel
theorem dX3_set_58 : decode cX3_set 58 = .ok (.aload_n 0, 1) := by decide +kernel
theorem dX3_set_59 : decode cX3_set 59 = .ok (.getfield 10, 3) := by decide +kernel
theorem dX3_set_62 : decode cX3_set 62 = .ok (.getfield 84, 3) := by decide +kernel
theorem dX3_set_65 : decode cX3_set 65 = .ok (.iload_n 1, 1) := by decide +kernel
theorem dX3_set_66 : decode cX3_set 66 = .ok (.iload_n 3, 1) := by decide +kernel
theorem dX3_set_67 : decode cX3_set 67 = .ok (.invokestatic 96, 3) := by decide +kernel
theorem dX3_set_70 : decode cX3_set 70 = .ok (.ireturn, 1) := by decide +kernel
theorem dX3_set_71 : decode cX3_set 71 = .ok (.iload_n 2, 1) := by decide +kernel
theorem dX3_set_72 : decode cX3_set 72 = .ok (.iconst 3, 1) := by decide +kernel
theorem dX3_set_73 : decode cX3_set 73 = .ok (.if_icmp .ne 25, 3) := by decide +kernel
theorem dX3_set_76 : decode cX3_set 76 = .ok (.iload_n 3, 1) := by decide +kernel
theorem dX3_set_77 : decode cX3_set 77 = .ok (.iconst 0, 1) := by decide +kernel
theorem dX3_set_78 : decode cX3_set 78 = .ok (.iconst 1, 1) := by decide +kernel
theorem dX3_set_79 : decode cX3_set 79 = .ok (.invokestatic 44, 3) := by decide +kernel
theorem dX3_set_82 : decode cX3_set 82 = .ok (.ifCond .eq 16, 3) := by decide +kernel
theorem dX3_set_85 : decode cX3_set 85 = .ok (.aload_n 0, 1) := by decide +kernel
theorem dX3_set_86 : decode cX3_set 86 = .ok (.getfield 10, 3) := by decide +kernel
theorem dX3_set_89 : decode cX3_set 89 = .ok (.getfield 87, 3) := by decide +kernel
theorem dX3_set_92 : decode cX3_set 92 = .ok (.iload_n 1, 1) := by decide +kernel
theorem dX3_set_93 : decode cX3_set 93 = .ok (.iload_n 3, 1) := by decide +kernel
theorem dX3_set_94 : decode cX3_set 94 = .ok (.invokestatic 96, 3) := by decide +kernel
theorem dX3_set_97 : decode cX3_set 97 = .ok (.ireturn, 1) := by decide +kernel
theorem dX3_set_98 : decode cX3_set 98 = .ok (.aload_n 0, 1) := by decide +kernel
theorem dX3_set_99 : decode cX3_set 99 = .ok (.ldc 55, 2) := by decide +kernel
theorem dX3_set_101 : decode cX3_set 101 = .ok (.invokevirtual 56, 3) := by decide +kernel
theorem dX3_set_104 : decode cX3_set 104 = .ok (.ireturn, 1) := by decide +kernel
theorem dX3_did_0 : decode cX3_did 0 = .ok (.aload_n 0, 1) := by decide +kernel
theorem dX3_did_1 : decode cX3_did 1 = .ok (.getfield 10, 3) := by decide +kernel
theorem dX3_did_4 : decode cX3_did 4 = .ok (.iload_n 1, 1) := by decide +kernel
theorem dX3_did_5 : decode cX3_did 5 = .ok (.invokevirtual 75, 3) := by decide +kernel
theorem dX3_did_8 : decode cX3_did 8 = .ok (.ifCond .eq 20, 3) := by decide +kernel
theorem dX3_did_11 : decode cX3_did 11 = .ok (.iload_n 2, 1) := by decide +kernel
theorem dX3_did_12 : decode cX3_did 12 = .ok (.invokestatic 100, 3) := by decide +kernel
theorem dX3_did_15 : decode cX3_did 15 = .ok (.ifCond .eq 13, 3) := by decide +kernel
theorem dX3_did_18 : decode cX3_did 18 = .ok (.iload_n 3, 1) := by decide +kernel
theorem dX3_did_19 : decode cX3_did 19 = .ok (.iconst 0, 1) := by decide +kernel
theorem dX3_did_20 : decode cX3_did 20 = .ok (.bipush 99, 2) := by decide +kernel
theorem dX3_did_22 : decode cX3_did 22 = .ok (.invokestatic 44, 3) := by decide +kernel
theorem dX3_did_25 : decode cX3_did 25 = .ok (.ifCond .ne 10, 3) := by decide +kernel
theorem dX3_did_28 : decode cX3_did 28 = .ok (.aload_n 0, 1) := by decide +kernel
theorem dX3_did_29 : decode cX3_did 29 = .ok (.ldc 55, 2) := by decide +kernel
theorem dX3_did_31 : decode cX3_did 31 = .ok (.invokevirtual 56, 3) := by decide +kernel
theorem dX3_did_34 : decode cX3_did 34 = .ok (.ireturn, 1) := by decide +kernel
theorem dX3_did_35 : decode cX3_did 35 = .ok (.aload_n 0, 1) := by decide +kernel
theorem dX3_did_36 : decode cX3_did 36 = .ok (.getfield 10, 3) := by decide +kernel
theorem dX3_did_39 : decode cX3_did 39 = .ok (.getfield 103, 3) := by decide +kernel
theorem dX3_did_42 : decode cX3_did 42 = .ok (.iload_n 2, 1) := by decide +kernel
theorem dX3_did_43 : decode cX3_did 43 = .ok (.aaload, 1) := by decide +kernel
theorem dX3_did_44 : decode cX3_did 44 = .ok (.iload_n 1, 1) := by decide +kernel
theorem dX3_did_45 : decode cX3_did 45 = .ok (.iload_n 3, 1) := by decide +kernel
theorem dX3_did_46 : decode cX3_did 46 = .ok (.invokestatic 96, 3) := by decide +kernel
theorem dX3_did_49 : decode cX3_did 49 = .ok (.ireturn, 1) := by decide +kernel
theorem dX3_scent_0 : decode cX3_scent 0 = .ok (.aload_n 0, 1) := by decide +kernel
theorem dX3_scent_1 : decode cX3_scent 1 = .ok (.getfield 10, 3) := by decide +kernel
theorem dX3_scent_4 : decode cX3_scent 4 = .ok (.iload_n 1, 1) := by decide +kernel
theorem dX3_scent_5 : decode cX3_scent 5 = .ok (.invokevirtual 75, 3) := by decide +kernel
theorem dX3_scent_8 : decode cX3_scent 8 = .ok (.ifCond .eq 19, 3) := by decide +kernel
theorem dX3_scent_11 : decode cX3_scent 11 = .ok (.iload_n 2, 1) := by decide +kernel
theorem dX3_scent_12 : decode cX3_scent 12 = .ok (.invokestatic 100, 3) := by decide +kernel
theorem dX3_scent_15 : decode cX3_scent 15 = .ok (.ifCond .eq 12, 3) := by decide +kernel
theorem dX3_scent_18 : decode cX3_scent 18 = .ok (.iload_n 3, 1) := by decide +kernel
theorem dX3_scent_19 : decode cX3_scent 19 = .ok (.iconst 0, 1) := by decide +kernel
theorem dX3_scent_20 : decode cX3_scent 20 = .ok (.iconst 1, 1) := by decide +kernel
theorem dX3_scent_21 : decode cX3_scent 21 = .ok (.invokestatic 44, 3) := by decide +kernel
theorem dX3_scent_24 : decode cX3_scent 24 = .ok (.ifCond .ne 10, 3) := by decide +kernel
theorem dX3_scent_27 : decode cX3_scent 27 = .ok (.aload_n 0, 1) := by decide +kernel
theorem dX3_scent_28 : decode cX3_scent 28 = .ok (.ldc 55, 2) := by decide +kernel
theorem dX3_scent_30 : decode cX3_scent 30 = .ok (.invokevirtual 56, 3) := by decide +kernel
theorem dX3_scent_33 : decode cX3_scent 33 = .ok (.ireturn, 1) := by decide +kernel
theorem dX3_scent_34 : decode cX3_scent 34 = .ok (.iload_n 3, 1) := by decide +kernel
theorem dX3_scent_35 : decode cX3_scent 35 = .ok (.ifCond .ne 17, 3) := by decide +kernel
theorem dX3_scent_38 : decode cX3_scent 38 = .ok (.aload_n 0, 1) := by decide +kernel
theorem dX3_scent_39 : decode cX3_scent 39 = .ok (.getfield 10, 3) := by decide +kernel
theorem dX3_scent_42 : decode cX3_scent 42 = .ok (.getfield 103, 3) := by decide +kernel
theorem dX3_scent_45 : decode cX3_scent 45 = .ok (.iload_n 2, 1) := by decide +kernel
theorem dX3_scent_46 : decode cX3_scent 46 = .ok (.aaload, 1) := by decide +kernel
theorem dX3_scent_47 : decode cX3_scent 47 = .ok (.iload_n 1, 1) := by decide +kernel
theorem dX3_scent_48 : decode cX3_scent 48 = .ok (.iaload, 1) := by decide +kernel
theorem dX3_scent_49 : decode cX3_scent 49 = .ok (.goto 12, 3) := by decide +kernel
theorem dX3_scent_52 : decode cX3_scent 52 = .ok (.aload_n 0, 1) := by decide +kernel
theorem dX3_scent_53 : decode cX3_scent 53 = .ok (.getfield 10, 3) := by decide +kernel
theorem dX3_scent_56 : decode cX3_scent 56 = .ok (.iload_n 1, 1) := by decide +kernel
theorem dX3_scent_57 : decode cX3_scent 57 = .ok (.iload_n 2, 1) := by decide +kernel
theorem dX3_scent_58 : decode cX3_scent 58 = .ok (.invokevirtual 107, 3) := by decide +kernel
theorem dX3_scent_61 : decode cX3_scent 61 = .ok (.ireturn, 1) := by decide +kernel
theorem dX3_turn_0 : decode cX3_turn 0 = .ok (.aload_n 0, 1) := by decide +kernel
theorem dX3_turn_1 : decode cX3_turn 1 = .ok (.getfield 10, 3) := by decide +kernel
theorem dX3_turn_4 : decode cX3_turn 4 = .ok (.iload_n 1, 1) := by decide +kernel
theorem dX3_turn_5 : decode cX3_turn 5 = .ok (.invokevirtual 75, 3) := by decide +kernel
theorem dX3_turn_8 : decode cX3_turn 8 = .ok (.ifCond .eq 10, 3) := by decide +kernel
theorem dX3_turn_11 : decode cX3_turn 11 = .ok (.iload_n 2, 1) := by decide +kernel
theorem dX3_turn_12 : decode cX3_turn 12 = .ok (.invokestatic 60, 3) := by decide +kernel
theorem dX3_turn_15 : decode cX3_turn 15 = .ok (.ifCond .ne 10, 3) := by decide +kernel
theorem dX3_turn_18 : decode cX3_turn 18 = .ok (.aload_n 0, 1) := by decide +kernel
theorem dX3_turn_19 : decode cX3_turn 19 = .ok (.ldc 55, 2) := by decide +kernel
theorem dX3_turn_21 : decode cX3_turn 21 = .ok (.invokevirtual 56, 3) := by decide +kernel
theorem dX3_turn_24 : decode cX3_turn 24 = .ok (.ireturn, 1) := by decide +kernel
theorem dX3_turn_25 : decode cX3_turn 25 = .ok (.aload_n 0, 1) := by decide +kernel
theorem dX3_turn_26 : decode cX3_turn 26 = .ok (.getfield 10, 3) := by decide +kernel
theorem dX3_turn_29 : decode cX3_turn 29 = .ok (.getfield 78, 3) := by decide +kernel
theorem dX3_turn_32 : decode cX3_turn 32 = .ok (.iload_n 1, 1) := by decide +kernel
theorem dX3_turn_33 : decode cX3_turn 33 = .ok (.iload_n 2, 1) := by decide +kernel
theorem dX3_turn_34 : decode cX3_turn 34 = .ok (.invokestatic 96, 3) := by decide +kernel
theorem dX3_turn_37 : decode cX3_turn 37 = .ok (.ireturn, 1) := by decide +kernel
theorem dX3_as_0 : decode cX3_as 0 = .ok (.aload_n 0, 1) := by decide +kernel
theorem dX3_as_1 : decode cX3_as 1 = .ok (.getfield 10, 3) := by decide +kernel
theorem dX3_as_4 : decode cX3_as 4 = .ok (.iload_n 1, 1) := by decide +kernel
theorem dX3_as_5 : decode cX3_as 5 = .ok (.invokevirtual 75, 3) := by decide +kernel
theorem dX3_as_8 : decode cX3_as 8 = .ok (.ifCond .eq 10, 3) := by decide +kernel
theorem dX3_as_11 : decode cX3_as 11 = .ok (.iload_n 2, 1) := by decide +kernel
theorem dX3_as_12 : decode cX3_as 12 = .ok (.invokestatic 60, 3) := by decide +kernel
theorem dX3_as_15 : decode cX3_as 15 = .ok (.ifCond .ne 10, 3) := by decide +kernel
theorem dX3_as_18 : decode cX3_as 18 = .ok (.aload_n 0, 1) := by decide +kernel
theorem dX3_as_19 : decode cX3_as 19 = .ok (.ldc 55, 2) := by decide +kernel
theorem dX3_as_21 : decode cX3_as 21 = .ok (.invokevirtual 56, 3) := by decide +kernel
theorem dX3_as_24 : decode cX3_as 24 = .ok (.ireturn, 1) := by decide +kernel
theorem dX3_as_25 : decode cX3_as 25 = .ok (.aload_n 0, 1) := by decide +kernel
theorem dX3_as_26 : decode cX3_as 26 = .ok (.getfield 10, 3) := by decide +kernel
theorem dX3_as_29 : decode cX3_as 29 = .ok (.getfield 78, 3) := by decide +kernel
theorem dX3_as_32 : decode cX3_as 32 = .ok (.iload_n 1, 1) := by decide +kernel
theorem dX3_as_33 : decode cX3_as 33 = .ok (.iaload, 1) := by decide +kernel
theorem dX3_as_34 : decode cX3_as 34 = .ok (.iload_n 2, 1) := by decide +kernel
theorem dX3_as_35 : decode cX3_as 35 = .ok (.invokestatic 110, 3) := by decide +kernel
theorem dX3_as_38 : decode cX3_as 38 = .ok (.ifCond .ne 10, 3) := by decide +kernel
theorem dX3_as_41 : decode cX3_as 41 = .ok (.aload_n 0, 1) := by decide +kernel
theorem dX3_as_42 : decode cX3_as 42 = .ok (.ldc 114, 2) := by decide +kernel
theorem dX3_as_44 : decode cX3_as 44 = .ok (.invokevirtual 56, 3) := by decide +kernel
theorem dX3_as_47 : decode cX3_as 47 = .ok (.ireturn, 1) := by decide +kernel
theorem dX3_as_48 : decode cX3_as 48 = .ok (.aload_n 0, 1) := by decide +kernel
theorem dX3_as_49 : decode cX3_as 49 = .ok (.getfield 10, 3) := by decide +kernel
theorem dX3_as_52 : decode cX3_as 52 = .ok (.getfield 84, 3) := by decide +kernel
theorem dX3_as_55 : decode cX3_as 55 = .ok (.iload_n 1, 1) := by decide +kernel
theorem dX3_as_56 : decode cX3_as 56 = .ok (.iaload, 1) := by decide +kernel
theorem dX3_as_57 : decode cX3_as 57 = .ok (.ireturn, 1) := by decide +kernel
theorem dX3_wash_0 : decode cX3_wash 0 = .ok (.aload_n 0, 1) := by decide +kernel
theorem dX3_wash_1 : decode cX3_wash 1 = .ok (.getfield 10, 3) := by decide +kernel
theorem dX3_wash_4 : decode cX3_wash 4 = .ok (.iload_n 1, 1) := by decide +kernel
theorem dX3_wash_5 : decode cX3_wash 5 = .ok (.invokevirtual 75, 3) := by decide +kernel
theorem dX3_wash_8 : decode cX3_wash 8 = .ok (.ifCond .ne 10, 3) := by decide +kernel
theorem dX3_wash_11 : decode cX3_wash 11 = .ok (.aload_n 0, 1) := by decide +kernel
theorem dX3_wash_12 : decode cX3_wash 12 = .ok (.ldc 55, 2) := by decide +kernel
theorem dX3_wash_14 : decode cX3_wash 14 = .ok (.invokevirtual 56, 3) := by decide +kernel
theorem dX3_wash_17 : decode cX3_wash 17 = .ok (.ireturn, 1) := by decide +kernel
theorem dX3_wash_18 : decode cX3_wash 18 = .ok (.aload_n 0, 1) := by decide +kernel
theorem dX3_wash_19 : decode cX3_wash 19 = .ok (.getfield 10, 3) := by decide +kernel
theorem dX3_wash_22 : decode cX3_wash 22 = .ok (.iload_n 1, 1) := by decide +kernel
theorem dX3_wash_23 : decode cX3_wash 23 = .ok (.invokevirtual 115, 3) := by decide +kernel
theorem dX3_wash_26 : decode cX3_wash 26 = .ok (.ireturn, 1) := by decide +kernel
theorem dX3_meet_0 : decode cX3_meet 0 = .ok (.aload_n 0, 1) := by decide +kernel
theorem dX3_meet_1 : decode cX3_meet 1 = .ok (.getfield 10, 3) := by decide +kernel
theorem dX3_meet_4 : decode cX3_meet 4 = .ok (.iload_n 1, 1) := by decide +kernel
theorem dX3_meet_5 : decode cX3_meet 5 = .ok (.iload_n 2, 1) := by decide +kernel
theorem dX3_meet_6 : decode cX3_meet 6 = .ok (.invokevirtual 118, 3) := by decide +kernel
theorem dX3_meet_9 : decode cX3_meet 9 = .ok (.ifCond .ne 10, 3) := by decide +kernel
theorem dX3_meet_12 : decode cX3_meet 12 = .ok (.aload_n 0, 1) := by decide +kernel
theorem dX3_meet_13 : decode cX3_meet 13 = .ok (.ldc 55, 2) := by decide +kernel
theorem dX3_meet_15 : decode cX3_meet 15 = .ok (.invokevirtual 56, 3) := by decide +kernel
theorem dX3_meet_18 : decode cX3_meet 18 = .ok (.ireturn, 1) := by decide +kernel
theorem dX3_meet_19 : decode cX3_meet 19 = .ok (.iconst 0, 1) := by decide +kernel
theorem dX3_meet_20 : decode cX3_meet 20 = .ok (.istore_n 3, 1) := by decide +kernel
theorem dX3_meet_21 : decode cX3_meet 21 = .ok (.iconst 0, 1) := by decide +kernel
theorem dX3_meet_22 : decode cX3_meet 22 = .ok (.istore 4, 2) := by decide +kernel
theorem dX3_meet_24 : decode cX3_meet 24 = .ok (.iload 4, 2) := by decide +kernel
theorem dX3_meet_26 : decode cX3_meet 26 = .ok (.bipush 6, 2) := by decide +kernel
theorem dX3_meet_28 : decode cX3_meet 28 = .ok (.if_icmp .ge 74, 3) := by decide +kernel
theorem dX3_meet_31 : decode cX3_meet 31 = .ok (.aload_n 0, 1) := by decide +kernel
theorem dX3_meet_32 : decode cX3_meet 32 = .ok (.getfield 10, 3) := by decide +kernel
theorem dX3_meet_35 : decode cX3_meet 35 = .ok (.getfield 103, 3) := by decide +kernel
theorem dX3_meet_38 : decode cX3_meet 38 = .ok (.iload 4, 2) := by decide +kernel
theorem dX3_meet_40 : decode cX3_meet 40 = .ok (.aaload, 1) := by decide +kernel
theorem dX3_meet_41 : decode cX3_meet 41 = .ok (.astore 5, 2) := by decide +kernel
theorem dX3_meet_43 : decode cX3_meet 43 = .ok (.aload 5, 2) := by decide +kernel
theorem dX3_meet_45 : decode cX3_meet 45 = .ok (.iload_n 1, 1) := by decide +kernel
theorem dX3_meet_46 : decode cX3_meet 46 = .ok (.iaload, 1) := by decide +kernel
theorem dX3_meet_47 : decode cX3_meet 47 = .ok (.aload 5, 2) := by decide +kernel
theorem dX3_meet_49 : decode cX3_meet 49 = .ok (.iload_n 2, 1) := by decide +kernel
theorem dX3_meet_50 : decode cX3_meet 50 = .ok (.iaload, 1) := by decide +kernel
theorem dX3_meet_51 : decode cX3_meet 51 = .ok (.invokestatic 121, 3) := by decide +kernel
theorem dX3_meet_54 : decode cX3_meet 54 = .ok (.iconst 2, 1) := by decide +kernel
theorem dX3_meet_55 : decode cX3_meet 55 = .ok (.idiv, 1) := by decide +kernel
theorem dX3_meet_56 : decode cX3_meet 56 = .ok (.istore 6, 2) := by decide +kernel
theorem dX3_meet_58 : decode cX3_meet 58 = .ok (.aload 5, 2) := by decide +kernel
theorem dX3_meet_60 : decode cX3_meet 60 = .ok (.iload_n 1, 1) := by decide +kernel
theorem dX3_meet_61 : decode cX3_meet 61 = .ok (.iaload, 1) := by decide +kernel
theorem dX3_meet_62 : decode cX3_meet 62 = .ok (.aload 5, 2) := by decide +kernel
theorem dX3_meet_64 : decode cX3_meet 64 = .ok (.iload_n 2, 1) := by decide +kernel
theorem dX3_meet_65 : decode cX3_meet 65 = .ok (.iaload, 1) := by decide +kernel
theorem dX3_meet_66 : decode cX3_meet 66 = .ok (.if_icmp .ge 7, 3) := by decide +kernel
theorem dX3_meet_69 : decode cX3_meet 69 = .ok (.iload_n 1, 1) := by decide +kernel
theorem dX3_meet_70 : decode cX3_meet 70 = .ok (.goto 4, 3) := by decide +kernel
theorem dX3_meet_73 : decode cX3_meet 73 = .ok (.iload_n 2, 1) := by decide +kernel
theorem dX3_meet_74 : decode cX3_meet 74 = .ok (.istore 7, 2) := by decide +kernel
theorem dX3_meet_76 : decode cX3_meet 76 = .ok (.aload 5, 2) := by decide +kernel
theorem dX3_meet_78 : decode cX3_meet 78 = .ok (.iload 7, 2) := by decide +kernel
theorem dX3_meet_80 : decode cX3_meet 80 = .ok (.iaload, 1) := by decide +kernel
theorem dX3_meet_81 : decode cX3_meet 81 = .ok (.iload 6, 2) := by decide +kernel
theorem dX3_meet_83 : decode cX3_meet 83 = .ok (.if_icmp .ge 13, 3) := by decide +kernel
theorem dX3_meet_86 : decode cX3_meet 86 = .ok (.aload 5, 2) := by decide +kernel
theorem dX3_meet_88 : decode cX3_meet 88 = .ok (.iload 7, 2) := by decide +kernel
theorem dX3_meet_90 : decode cX3_meet 90 = .ok (.iload 6, 2) := by decide +kernel
theorem dX3_meet_92 : decode cX3_meet 92 = .ok (.iastore, 1) := by decide +kernel
theorem dX3_meet_93 : decode cX3_meet 93 = .ok (.iinc 3 1, 3) := by decide +kernel
theorem dX3_meet_96 : decode cX3_meet 96 = .ok (.iinc 4 1, 3) := by decide +kernel
theorem dX3_meet_99 : decode cX3_meet 99 = .ok (.goto (-75), 3) := by decide +kernel
theorem dX3_meet_102 : decode cX3_meet 102 = .ok (.iload_n 3, 1) := by decide +kernel
theorem dX3_meet_103 : decode cX3_meet 103 = .ok (.ireturn, 1) := by decide +kernel
theorem dX3_smells_0 : decode cX3_smells 0 = .ok (.aload_n 0, 1) := by decide +kernel
theorem dX3_smells_1 : decode cX3_smells 1 = .ok (.getfield 10, 3) := by decide +kernel
theorem dX3_smells_4 : decode cX3_smells 4 = .ok (.iload_n 1, 1) := by decide +kernel
theorem dX3_smells_5 : decode cX3_smells 5 = .ok (.iload_n 2, 1) := by decide +kernel
theorem dX3_smells_6 : decode cX3_smells 6 = .ok (.invokevirtual 118, 3) := by decide +kernel
theorem dX3_smells_9 : decode cX3_smells 9 = .ok (.ifCond .eq 10, 3) := by decide +kernel
theorem dX3_smells_12 : decode cX3_smells 12 = .ok (.iload_n 3, 1) := by decide +kernel
theorem dX3_smells_13 : decode cX3_smells 13 = .ok (.invokestatic 100, 3) := by decide +kernel
theorem dX3_smells_16 : decode cX3_smells 16 = .ok (.ifCond .ne 10, 3) := by decide +kernel
theorem dX3_smells_19 : decode cX3_smells 19 = .ok (.aload_n 0, 1) := by decide +kernel
theorem dX3_smells_20 : decode cX3_smells 20 = .ok (.ldc 55, 2) := by decide +kernel
theorem dX3_smells_22 : decode cX3_smells 22 = .ok (.invokevirtual 56, 3) := by decide +kernel
theorem dX3_smells_25 : decode cX3_smells 25 = .ok (.ireturn, 1) := by decide +kernel
theorem dX3_smells_26 : decode cX3_smells 26 = .ok (.aload_n 0, 1) := by decide +kernel
theorem dX3_smells_27 : decode cX3_smells 27 = .ok (.getfield 10, 3) := by decide +kernel
theorem dX3_smells_30 : decode cX3_smells 30 = .ok (.iload_n 1, 1) := by decide +kernel
theorem dX3_smells_31 : decode cX3_smells 31 = .ok (.iload_n 2, 1) := by decide +kernel
theorem dX3_smells_32 : decode cX3_smells 32 = .ok (.iload_n 3, 1) := by decide +kernel
theorem dX3_smells_33 : decode cX3_smells 33 = .ok (.invokevirtual 126, 3) := by decide +kernel
theorem dX3_smells_36 : decode cX3_smells 36 = .ok (.ireturn, 1) := by decide +kernel
theorem dX3_deed_0 : decode cX3_deed 0 = .ok (.aload_n 0, 1) := by decide +kernel
theorem dX3_deed_1 : decode cX3_deed 1 = .ok (.getfield 10, 3) := by decide +kernel
theorem dX3_deed_4 : decode cX3_deed 4 = .ok (.iload_n 1, 1) := by decide +kernel
theorem dX3_deed_5 : decode cX3_deed 5 = .ok (.iload_n 2, 1) := by decide +kernel
theorem dX3_deed_6 : decode cX3_deed 6 = .ok (.invokevirtual 118, 3) := by decide +kernel
theorem dX3_deed_9 : decode cX3_deed 9 = .ok (.ifCond .ne 10, 3) := by decide +kernel
theorem dX3_deed_12 : decode cX3_deed 12 = .ok (.aload_n 0, 1) := by decide +kernel
theorem dX3_deed_13 : decode cX3_deed 13 = .ok (.ldc 55, 2) := by decide +kernel
theorem dX3_deed_15 : decode cX3_deed 15 = .ok (.invokevirtual 56, 3) := by decide +kernel
theorem dX3_deed_18 : decode cX3_deed 18 = .ok (.ireturn, 1) := by decide +kernel
theorem dX3_deed_19 : decode cX3_deed 19 = .ok (.iconst (-1), 1) := by decide +kernel
theorem dX3_deed_20 : decode cX3_deed 20 = .ok (.istore_n 3, 1) := by decide +kernel
theorem dX3_deed_21 : decode cX3_deed 21 = .ok (.iconst 0, 1) := by decide +kernel
theorem dX3_deed_22 : decode cX3_deed 22 = .ok (.istore 4, 2) := by decide +kernel
theorem dX3_deed_24 : decode cX3_deed 24 = .ok (.iconst 0, 1) := by decide +kernel
theorem dX3_deed_25 : decode cX3_deed 25 = .ok (.istore 5, 2) := by decide +kernel
theorem dX3_deed_27 : decode cX3_deed 27 = .ok (.iload 5, 2) := by decide +kernel
theorem dX3_deed_29 : decode cX3_deed 29 = .ok (.bipush 6, 2) := by decide +kernel
theorem dX3_deed_31 : decode cX3_deed 31 = .ok (.if_icmp .ge 36, 3) := by decide +kernel
theorem dX3_deed_34 : decode cX3_deed 34 = .ok (.aload_n 0, 1) := by decide +kernel
theorem dX3_deed_35 : decode cX3_deed 35 = .ok (.getfield 10, 3) := by decide +kernel
theorem dX3_deed_38 : decode cX3_deed 38 = .ok (.iload_n 1, 1) := by decide +kernel
theorem dX3_deed_39 : decode cX3_deed 39 = .ok (.iload_n 2, 1) := by decide +kernel
theorem dX3_deed_40 : decode cX3_deed 40 = .ok (.iload 5, 2) := by decide +kernel
theorem dX3_deed_42 : decode cX3_deed 42 = .ok (.invokevirtual 126, 3) := by decide +kernel
theorem dX3_deed_45 : decode cX3_deed 45 = .ok (.istore 6, 2) := by decide +kernel
theorem dX3_deed_47 : decode cX3_deed 47 = .ok (.iload 6, 2) := by decide +kernel
theorem dX3_deed_49 : decode cX3_deed 49 = .ok (.iload 4, 2) := by decide +kernel
theorem dX3_deed_51 : decode cX3_deed 51 = .ok (.if_icmp .le 10, 3) := by decide +kernel
theorem dX3_deed_54 : decode cX3_deed 54 = .ok (.iload 6, 2) := by decide +kernel
theorem dX3_deed_56 : decode cX3_deed 56 = .ok (.istore 4, 2) := by decide +kernel
theorem dX3_deed_58 : decode cX3_deed 58 = .ok (.iload 5, 2) := by decide +kernel
theorem dX3_deed_60 : decode cX3_deed 60 = .ok (.istore_n 3, 1) := by decide +kernel
theorem dX3_deed_61 : decode cX3_deed 61 = .ok (.iinc 5 1, 3) := by decide +kernel
theorem dX3_deed_64 : decode cX3_deed 64 = .ok (.goto (-37), 3) := by decide +kernel
theorem dX3_deed_67 : decode cX3_deed 67 = .ok (.iload_n 3, 1) := by decide +kernel
theorem dX3_deed_68 : decode cX3_deed 68 = .ok (.ifCond .ge 12, 3) := by decide +kernel
theorem dX3_deed_71 : decode cX3_deed 71 = .ok (.aload_n 0, 1) := by decide +kernel
theorem dX3_deed_72 : decode cX3_deed 72 = .ok (.ldc 130, 2) := by decide +kernel
theorem dX3_deed_74 : decode cX3_deed 74 = .ok (.invokevirtual 56, 3) := by decide +kernel
theorem dX3_deed_77 : decode cX3_deed 77 = .ok (.goto 4, 3) := by decide +kernel
theorem dX3_deed_80 : decode cX3_deed 80 = .ok (.iload_n 3, 1) := by decide +kernel
theorem dX3_deed_81 : decode cX3_deed 81 = .ok (.ireturn, 1) := by decide +kernel
theorem dX3_guilty_0 : decode cX3_guilty 0 = .ok (.aload_n 0, 1) := by decide +kernel
theorem dX3_guilty_1 : decode cX3_guilty 1 = .ok (.getfield 10, 3) := by decide +kernel
theorem dX3_guilty_4 : decode cX3_guilty 4 = .ok (.iload_n 1, 1) := by decide +kernel
theorem dX3_guilty_5 : decode cX3_guilty 5 = .ok (.invokevirtual 75, 3) := by decide +kernel
theorem dX3_guilty_8 : decode cX3_guilty 8 = .ok (.ifCond .ne 10, 3) := by decide +kernel
theorem dX3_guilty_11 : decode cX3_guilty 11 = .ok (.aload_n 0, 1) := by decide +kernel
theorem dX3_guilty_12 : decode cX3_guilty 12 = .ok (.ldc 55, 2) := by decide +kernel
theorem dX3_guilty_14 : decode cX3_guilty 14 = .ok (.invokevirtual 56, 3) := by decide +kernel
theorem dX3_guilty_17 : decode cX3_guilty 17 = .ok (.ireturn, 1) := by decide +kernel
theorem dX3_guilty_18 : decode cX3_guilty 18 = .ok (.aload_n 0, 1) := by decide +kernel
theorem dX3_guilty_19 : decode cX3_guilty 19 = .ok (.getfield 10, 3) := by decide +kernel
theorem dX3_guilty_22 : decode cX3_guilty 22 = .ok (.iload_n 1, 1) := by decide +kernel
theorem dX3_guilty_23 : decode cX3_guilty 23 = .ok (.invokevirtual 131, 3) := by decide +kernel
theorem dX3_guilty_26 : decode cX3_guilty 26 = .ok (.ireturn, 1) := by decide +kernel
theorem dX3_convicts_0 : decode cX3_convicts 0 = .ok (.iload_n 1, 1) := by decide +kernel
theorem dX3_convicts_1 : decode cX3_convicts 1 = .ok (.iconst 1, 1) := by decide +kernel
theorem dX3_convicts_2 : decode cX3_convicts 2 = .ok (.aload_n 0, 1) := by decide +kernel
theorem dX3_convicts_3 : decode cX3_convicts 3 = .ok (.getfield 10, 3) := by decide +kernel
theorem dX3_convicts_6 : decode cX3_convicts 6 = .ok (.invokevirtual 134, 3) := by decide +kernel
theorem dX3_convicts_9 : decode cX3_convicts 9 = .ok (.invokestatic 44, 3) := by decide +kernel
theorem dX3_convicts_12 : decode cX3_convicts 12 = .ok (.ifCond .eq 14, 3) := by decide +kernel
theorem dX3_convicts_15 : decode cX3_convicts 15 = .ok (.aload_n 0, 1) := by decide +kernel
theorem dX3_convicts_16 : decode cX3_convicts 16 = .ok (.getfield 10, 3) := by decide +kernel
theorem dX3_convicts_19 : decode cX3_convicts 19 = .ok (.iload_n 2, 1) := by decide +kernel
theorem dX3_convicts_20 : decode cX3_convicts 20 = .ok (.invokevirtual 75, 3) := by decide +kernel
theorem dX3_convicts_23 : decode cX3_convicts 23 = .ok (.ifCond .ne 10, 3) := by decide +kernel
theorem dX3_convicts_26 : decode cX3_convicts 26 = .ok (.aload_n 0, 1) := by decide +kernel
theorem dX3_convicts_27 : decode cX3_convicts 27 = .ok (.ldc 55, 2) := by decide +kernel
theorem dX3_convicts_29 : decode cX3_convicts 29 = .ok (.invokevirtual 56, 3) := by decide +kernel
theorem dX3_convicts_32 : decode cX3_convicts 32 = .ok (.ireturn, 1) := by decide +kernel
theorem dX3_convicts_33 : decode cX3_convicts 33 = .ok (.iload_n 1, 1) := by decide +kernel
theorem dX3_convicts_34 : decode cX3_convicts 34 = .ok (.iconst 1, 1) := by decide +kernel
theorem dX3_convicts_35 : decode cX3_convicts 35 = .ok (.iload_n 2, 1) := by decide +kernel
theorem dX3_convicts_36 : decode cX3_convicts 36 = .ok (.ishl, 1) := by decide +kernel
theorem dX3_convicts_37 : decode cX3_convicts 37 = .ok (.iand, 1) := by decide +kernel
theorem dX3_convicts_38 : decode cX3_convicts 38 = .ok (.ifCond .eq 10, 3) := by decide +kernel
theorem dX3_convicts_41 : decode cX3_convicts 41 = .ok (.aload_n 0, 1) := by decide +kernel
theorem dX3_convicts_42 : decode cX3_convicts 42 = .ok (.ldc 138, 2) := by decide +kernel
theorem dX3_convicts_44 : decode cX3_convicts 44 = .ok (.invokevirtual 56, 3) := by decide +kernel
theorem dX3_convicts_47 : decode cX3_convicts 47 = .ok (.ireturn, 1) := by decide +kernel
theorem dX3_convicts_48 : decode cX3_convicts 48 = .ok (.iload_n 1, 1) := by decide +kernel
theorem dX3_convicts_49 : decode cX3_convicts 49 = .ok (.aload_n 0, 1) := by decide +kernel
theorem dX3_convicts_50 : decode cX3_convicts 50 = .ok (.getfield 10, 3) := by decide +kernel
theorem dX3_convicts_53 : decode cX3_convicts 53 = .ok (.iload_n 2, 1) := by decide +kernel
theorem dX3_convicts_54 : decode cX3_convicts 54 = .ok (.invokevirtual 131, 3) := by decide +kernel
theorem dX3_convicts_57 : decode cX3_convicts 57 = .ok (.invokestatic 139, 3) := by decide +kernel
theorem dX3_convicts_60 : decode cX3_convicts 60 = .ok (.ifCond .eq 7, 3) := by decide +kernel
theorem dX3_convicts_63 : decode cX3_convicts 63 = .ok (.iconst 1, 1) := by decide +kernel
theorem dX3_convicts_64 : decode cX3_convicts 64 = .ok (.goto 4, 3) := by decide +kernel
theorem dX3_convicts_67 : decode cX3_convicts 67 = .ok (.iconst 0, 1) := by decide +kernel
theorem dX3_convicts_68 : decode cX3_convicts 68 = .ok (.ireturn, 1) := by decide +kernel
theorem dX3_hours_0 : decode cX3_hours 0 = .ok (.iload_n 1, 1) := by decide +kernel
theorem dX3_hours_1 : decode cX3_hours 1 = .ok (.iconst 1, 1) := by decide +kernel
theorem dX3_hours_2 : decode cX3_hours 2 = .ok (.bipush 60, 2) := by decide +kernel
theorem dX3_hours_4 : decode cX3_hours 4 = .ok (.invokestatic 44, 3) := by decide +kernel
theorem dX3_hours_7 : decode cX3_hours 7 = .ok (.ifCond .ne 10, 3) := by decide +kernel
theorem dX3_hours_10 : decode cX3_hours 10 = .ok (.aload_n 0, 1) := by decide +kernel
theorem dX3_hours_11 : decode cX3_hours 11 = .ok (.ldc 55, 2) := by decide +kernel
theorem dX3_hours_13 : decode cX3_hours 13 = .ok (.invokevirtual 56, 3) := by decide +kernel
theorem dX3_hours_16 : decode cX3_hours 16 = .ok (.ireturn, 1) := by decide +kernel
theorem dX3_hours_17 : decode cX3_hours 17 = .ok (.aload_n 0, 1) := by decide +kernel
theorem dX3_hours_18 : decode cX3_hours 18 = .ok (.getfield 10, 3) := by decide +kernel
theorem dX3_hours_21 : decode cX3_hours 21 = .ok (.getfield 142, 3) := by decide +kernel
theorem dX3_hours_24 : decode cX3_hours 24 = .ok (.iload_n 1, 1) := by decide +kernel
theorem dX3_hours_25 : decode cX3_hours 25 = .ok (.iadd, 1) := by decide +kernel
theorem dX3_hours_26 : decode cX3_hours 26 = .ok (.sipush 9999, 3) := by decide +kernel
theorem dX3_hours_29 : decode cX3_hours 29 = .ok (.if_icmp .le 10, 3) := by decide +kernel
theorem dX3_hours_32 : decode cX3_hours 32 = .ok (.aload_n 0, 1) := by decide +kernel
theorem dX3_hours_33 : decode cX3_hours 33 = .ok (.ldc 138, 2) := by decide +kernel
theorem dX3_hours_35 : decode cX3_hours 35 = .ok (.invokevirtual 56, 3) := by decide +kernel
theorem dX3_hours_38 : decode cX3_hours 38 = .ok (.ireturn, 1) := by decide +kernel
theorem dX3_hours_39 : decode cX3_hours 39 = .ok (.iconst 0, 1) := by decide +kernel
theorem dX3_hours_40 : decode cX3_hours 40 = .ok (.istore_n 2, 1) := by decide +kernel
theorem dX3_hours_41 : decode cX3_hours 41 = .ok (.iload_n 2, 1) := by decide +kernel
theorem dX3_hours_42 : decode cX3_hours 42 = .ok (.iload_n 1, 1) := by decide +kernel
theorem dX3_hours_43 : decode cX3_hours 43 = .ok (.if_icmp .ge 16, 3) := by decide +kernel
theorem dX3_hours_46 : decode cX3_hours 46 = .ok (.aload_n 0, 1) := by decide +kernel
theorem dX3_hours_47 : decode cX3_hours 47 = .ok (.getfield 10, 3) := by decide +kernel
theorem dX3_hours_50 : decode cX3_hours 50 = .ok (.invokevirtual 145, 3) := by decide +kernel
theorem dX3_hours_53 : decode cX3_hours 53 = .ok (.iinc 2 1, 3) := by decide +kernel
theorem dX3_hours_56 : decode cX3_hours 56 = .ok (.goto (-15), 3) := by decide +kernel
theorem dX3_hours_59 : decode cX3_hours 59 = .ok (.aload_n 0, 1) := by decide +kernel
theorem dX3_hours_60 : decode cX3_hours 60 = .ok (.getfield 10, 3) := by decide +kernel
theorem dX3_hours_63 : decode cX3_hours 63 = .ok (.invokevirtual 148, 3) := by decide +kernel
theorem dX3_hours_66 : decode cX3_hours 66 = .ok (.ireturn, 1) := by decide +kernel
theorem dX3_now_0 : decode cX3_now 0 = .ok (.iload_n 1, 1) := by decide +kernel
theorem dX3_now_1 : decode cX3_now 1 = .ok (.tableswitch 75 0 4 #[35, 43, 51, 59, 67], 35) := by decide +kernel
theorem dX3_now_36 : decode cX3_now 36 = .ok (.aload_n 0, 1) := by decide +kernel
theorem dX3_now_37 : decode cX3_now 37 = .ok (.getfield 10, 3) := by decide +kernel
theorem dX3_now_40 : decode cX3_now 40 = .ok (.getfield 142, 3) := by decide +kernel
theorem dX3_now_43 : decode cX3_now 43 = .ok (.ireturn, 1) := by decide +kernel
theorem dX3_now_44 : decode cX3_now 44 = .ok (.aload_n 0, 1) := by decide +kernel
theorem dX3_now_45 : decode cX3_now 45 = .ok (.getfield 10, 3) := by decide +kernel
theorem dX3_now_48 : decode cX3_now 48 = .ok (.getfield 48, 3) := by decide +kernel
theorem dX3_now_51 : decode cX3_now 51 = .ok (.ireturn, 1) := by decide +kernel
theorem dX3_now_52 : decode cX3_now 52 = .ok (.aload_n 0, 1) := by decide +kernel
theorem dX3_now_53 : decode cX3_now 53 = .ok (.getfield 10, 3) := by decide +kernel
theorem dX3_now_56 : decode cX3_now 56 = .ok (.getfield 52, 3) := by decide +kernel
theorem dX3_now_59 : decode cX3_now 59 = .ok (.ireturn, 1) := by decide +kernel
theorem dX3_now_60 : decode cX3_now 60 = .ok (.aload_n 0, 1) := by decide +kernel
theorem dX3_now_61 : decode cX3_now 61 = .ok (.getfield 10, 3) := by decide +kernel
theorem dX3_now_64 : decode cX3_now 64 = .ok (.invokevirtual 148, 3) := by decide +kernel
theorem dX3_now_67 : decode cX3_now 67 = .ok (.ireturn, 1) := by decide +kernel
theorem dX3_now_68 : decode cX3_now 68 = .ok (.aload_n 0, 1) := by decide +kernel
theorem dX3_now_69 : decode cX3_now 69 = .ok (.getfield 10, 3) := by decide +kernel
theorem dX3_now_72 : decode cX3_now 72 = .ok (.invokevirtual 151, 3) := by decide +kernel
theorem dX3_now_75 : decode cX3_now 75 = .ok (.ireturn, 1) := by decide +kernel
theorem dX3_now_76 : decode cX3_now 76 = .ok (.aload_n 0, 1) := by decide +kernel
theorem dX3_now_77 : decode cX3_now 77 = .ok (.ldc 55, 2) := by decide +kernel
theorem dX3_now_79 : decode cX3_now 79 = .ok (.invokevirtual 56, 3) := by decide +kernel
theorem dX3_now_82 : decode cX3_now 82 = .ok (.ireturn, 1) := by decide +kernel
theorem dX3_on_0 : decode cX3_on 0 = .ok (.aload_n 0, 1) := by decide +kernel
theorem dX3_on_1 : decode cX3_on 1 = .ok (.getfield 10, 3) := by decide +kernel
theorem dX3_on_4 : decode cX3_on 4 = .ok (.iload_n 1, 1) := by decide +kernel
theorem dX3_on_5 : decode cX3_on 5 = .ok (.invokevirtual 75, 3) := by decide +kernel
theorem dX3_on_8 : decode cX3_on 8 = .ok (.ifCond .eq 20, 3) := by decide +kernel
theorem dX3_on_11 : decode cX3_on 11 = .ok (.iload_n 2, 1) := by decide +kernel
theorem dX3_on_12 : decode cX3_on 12 = .ok (.invokestatic 100, 3) := by decide +kernel
theorem dX3_on_15 : decode cX3_on 15 = .ok (.ifCond .eq 13, 3) := by decide +kernel
theorem dX3_on_18 : decode cX3_on 18 = .ok (.iload_n 3, 1) := by decide +kernel
theorem dX3_on_19 : decode cX3_on 19 = .ok (.iconst 0, 1) := by decide +kernel
theorem dX3_on_20 : decode cX3_on 20 = .ok (.bipush 60, 2) := by decide +kernel
theorem dX3_on_22 : decode cX3_on 22 = .ok (.invokestatic 44, 3) := by decide +kernel
theorem dX3_on_25 : decode cX3_on 25 = .ok (.ifCond .ne 10, 3) := by decide +kernel
theorem dX3_on_28 : decode cX3_on 28 = .ok (.aload_n 0, 1) := by decide +kernel
theorem dX3_on_29 : decode cX3_on 29 = .ok (.ldc 55, 2) := by decide +kernel
theorem dX3_on_31 : decode cX3_on 31 = .ok (.invokevirtual 56, 3) := by decide +kernel
theorem dX3_on_34 : decode cX3_on 34 = .ok (.ireturn, 1) := by decide +kernel
theorem dX3_on_35 : decode cX3_on 35 = .ok (.aload_n 0, 1) := by decide +kernel
theorem dX3_on_36 : decode cX3_on 36 = .ok (.getfield 19, 3) := by decide +kernel
theorem dX3_on_39 : decode cX3_on 39 = .ok (.aload_n 0, 1) := by decide +kernel
theorem dX3_on_40 : decode cX3_on 40 = .ok (.getfield 10, 3) := by decide +kernel
theorem dX3_on_43 : decode cX3_on 43 = .ok (.invokevirtual 154, 3) := by decide +kernel
theorem dX3_on_46 : decode cX3_on 46 = .ok (.iconst 0, 1) := by decide +kernel
theorem dX3_on_47 : decode cX3_on 47 = .ok (.istore 4, 2) := by decide +kernel
theorem dX3_on_49 : decode cX3_on 49 = .ok (.iload 4, 2) := by decide +kernel
theorem dX3_on_51 : decode cX3_on 51 = .ok (.iload_n 3, 1) := by decide +kernel
theorem dX3_on_52 : decode cX3_on 52 = .ok (.if_icmp .ge 17, 3) := by decide +kernel
theorem dX3_on_55 : decode cX3_on 55 = .ok (.aload_n 0, 1) := by decide +kernel
theorem dX3_on_56 : decode cX3_on 56 = .ok (.getfield 19, 3) := by decide +kernel
theorem dX3_on_59 : decode cX3_on 59 = .ok (.iload_n 2, 1) := by decide +kernel
theorem dX3_on_60 : decode cX3_on 60 = .ok (.invokevirtual 158, 3) := by decide +kernel
theorem dX3_on_63 : decode cX3_on 63 = .ok (.iinc 4 1, 3) := by decide +kernel
theorem dX3_on_66 : decode cX3_on 66 = .ok (.goto (-17), 3) := by decide +kernel
theorem dX3_on_69 : decode cX3_on 69 = .ok (.aload_n 0, 1) := by decide +kernel
theorem dX3_on_70 : decode cX3_on 70 = .ok (.getfield 19, 3) := by decide +kernel
theorem dX3_on_73 : decode cX3_on 73 = .ok (.getfield 103, 3) := by decide +kernel
theorem dX3_on_76 : decode cX3_on 76 = .ok (.iload_n 2, 1) := by decide +kernel
theorem dX3_on_77 : decode cX3_on 77 = .ok (.aaload, 1) := by decide +kernel
theorem dX3_on_78 : decode cX3_on 78 = .ok (.iload_n 1, 1) := by decide +kernel
theorem dX3_on_79 : decode cX3_on 79 = .ok (.iaload, 1) := by decide +kernel
theorem dX3_on_80 : decode cX3_on 80 = .ok (.ireturn, 1) := by decide +kernel
theorem dX3_clean_0 : decode cX3_clean 0 = .ok (.aload_n 0, 1) := by decide +kernel
theorem dX3_clean_1 : decode cX3_clean 1 = .ok (.getfield 10, 3) := by decide +kernel
theorem dX3_clean_4 : decode cX3_clean 4 = .ok (.iload_n 1, 1) := by decide +kernel
theorem dX3_clean_5 : decode cX3_clean 5 = .ok (.invokevirtual 75, 3) := by decide +kernel
theorem dX3_clean_8 : decode cX3_clean 8 = .ok (.ifCond .ne 10, 3) := by decide +kernel
theorem dX3_clean_11 : decode cX3_clean 11 = .ok (.aload_n 0, 1) := by decide +kernel
theorem dX3_clean_12 : decode cX3_clean 12 = .ok (.ldc 55, 2) := by decide +kernel
theorem dX3_clean_14 : decode cX3_clean 14 = .ok (.invokevirtual 56, 3) := by decide +kernel
theorem dX3_clean_17 : decode cX3_clean 17 = .ok (.ireturn, 1) := by decide +kernel
theorem dX3_clean_18 : decode cX3_clean 18 = .ok (.aload_n 0, 1) := by decide +kernel
theorem dX3_clean_19 : decode cX3_clean 19 = .ok (.getfield 19, 3) := by decide +kernel
theorem dX3_clean_22 : decode cX3_clean 22 = .ok (.aload_n 0, 1) := by decide +kernel
theorem dX3_clean_23 : decode cX3_clean 23 = .ok (.getfield 10, 3) := by decide +kernel
theorem dX3_clean_26 : decode cX3_clean 26 = .ok (.invokevirtual 154, 3) := by decide +kernel
theorem dX3_clean_29 : decode cX3_clean 29 = .ok (.iconst 0, 1) := by decide +kernel
theorem dX3_clean_30 : decode cX3_clean 30 = .ok (.istore_n 2, 1) := by decide +kernel
theorem dX3_clean_31 : decode cX3_clean 31 = .ok (.iload_n 2, 1) := by decide +kernel
theorem dX3_clean_32 : decode cX3_clean 32 = .ok (.bipush 60, 2) := by decide +kernel
theorem dX3_clean_34 : decode cX3_clean 34 = .ok (.if_icmp .gt 29, 3) := by decide +kernel
theorem dX3_clean_37 : decode cX3_clean 37 = .ok (.aload_n 0, 1) := by decide +kernel
theorem dX3_clean_38 : decode cX3_clean 38 = .ok (.getfield 19, 3) := by decide +kernel
theorem dX3_clean_41 : decode cX3_clean 41 = .ok (.iload_n 1, 1) := by decide +kernel
theorem dX3_clean_42 : decode cX3_clean 42 = .ok (.invokevirtual 131, 3) := by decide +kernel
theorem dX3_clean_45 : decode cX3_clean 45 = .ok (.ifCond .ne 5, 3) := by decide +kernel
theorem dX3_clean_48 : decode cX3_clean 48 = .ok (.iload_n 2, 1) := by decide +kernel
theorem dX3_clean_49 : decode cX3_clean 49 = .ok (.ireturn, 1) := by decide +kernel
theorem dX3_clean_50 : decode cX3_clean 50 = .ok (.aload_n 0, 1) := by decide +kernel
theorem dX3_clean_51 : decode cX3_clean 51 = .ok (.getfield 19, 3) := by decide +kernel
theorem dX3_clean_54 : decode cX3_clean 54 = .ok (.invokevirtual 145, 3) := by decide +kernel
theorem dX3_clean_57 : decode cX3_clean 57 = .ok (.iinc 2 1, 3) := by decide +kernel
theorem dX3_clean_60 : decode cX3_clean 60 = .ok (.goto (-29), 3) := by decide +kernel
theorem dX3_clean_63 : decode cX3_clean 63 = .ok (.aload_n 0, 1) := by decide +kernel
theorem dX3_clean_64 : decode cX3_clean 64 = .ok (.ldc 130, 2) := by decide +kernel
theorem dX3_clean_66 : decode cX3_clean 66 = .ok (.invokevirtual 56, 3) := by decide +kernel
theorem dX3_clean_69 : decode cX3_clean 69 = .ok (.ireturn, 1) := by decide +kernel
theorem dX3_wind_0 : decode cX3_wind 0 = .ok (.aload_n 0, 1) := by decide +kernel
theorem dX3_wind_1 : decode cX3_wind 1 = .ok (.getfield 10, 3) := by decide +kernel
theorem dX3_wind_4 : decode cX3_wind 4 = .ok (.iload_n 1, 1) := by decide +kernel
theorem dX3_wind_5 : decode cX3_wind 5 = .ok (.invokevirtual 75, 3) := by decide +kernel
theorem dX3_wind_8 : decode cX3_wind 8 = .ok (.ifCond .eq 13, 3) := by decide +kernel
theorem dX3_wind_11 : decode cX3_wind 11 = .ok (.aload_n 0, 1) := by decide +kernel
theorem dX3_wind_12 : decode cX3_wind 12 = .ok (.iload_n 1, 1) := by decide +kernel
theorem dX3_wind_13 : decode cX3_wind 13 = .ok (.iconst 0, 1) := by decide +kernel
theorem dX3_wind_14 : decode cX3_wind 14 = .ok (.iconst 5, 1) := by decide +kernel
theorem dX3_wind_15 : decode cX3_wind 15 = .ok (.invokevirtual 162, 3) := by decide +kernel
theorem dX3_wind_18 : decode cX3_wind 18 = .ok (.goto 9, 3) := by decide +kernel
theorem dX3_wind_21 : decode cX3_wind 21 = .ok (.aload_n 0, 1) := by decide +kernel
theorem dX3_wind_22 : decode cX3_wind 22 = .ok (.ldc 55, 2) := by decide +kernel
theorem dX3_wind_24 : decode cX3_wind 24 = .ok (.invokevirtual 56, 3) := by decide +kernel
theorem dX3_wind_27 : decode cX3_wind 27 = .ok (.ireturn, 1) := by decide +kernel
theorem dX3_seat_0 : decode cX3_seat 0 = .ok (.aload_n 0, 1) := by decide +kernel
theorem dX3_seat_1 : decode cX3_seat 1 = .ok (.getfield 10, 3) := by decide +kernel
theorem dX3_seat_4 : decode cX3_seat 4 = .ok (.iload_n 1, 1) := by decide +kernel
theorem dX3_seat_5 : decode cX3_seat 5 = .ok (.invokevirtual 75, 3) := by decide +kernel
theorem dX3_seat_8 : decode cX3_seat 8 = .ok (.ifCond .eq 14, 3) := by decide +kernel
theorem dX3_seat_11 : decode cX3_seat 11 = .ok (.aload_n 0, 1) := by decide +kernel
theorem dX3_seat_12 : decode cX3_seat 12 = .ok (.iload_n 1, 1) := by decide +kernel
theorem dX3_seat_13 : decode cX3_seat 13 = .ok (.iconst 1, 1) := by decide +kernel
theorem dX3_seat_14 : decode cX3_seat 14 = .ok (.bipush 48, 2) := by decide +kernel
theorem dX3_seat_16 : decode cX3_seat 16 = .ok (.invokevirtual 162, 3) := by decide +kernel
theorem dX3_seat_19 : decode cX3_seat 19 = .ok (.goto 9, 3) := by decide +kernel
theorem dX3_seat_22 : decode cX3_seat 22 = .ok (.aload_n 0, 1) := by decide +kernel
theorem dX3_seat_23 : decode cX3_seat 23 = .ok (.ldc 55, 2) := by decide +kernel
theorem dX3_seat_25 : decode cX3_seat 25 = .ok (.invokevirtual 56, 3) := by decide +kernel
theorem dX3_seat_28 : decode cX3_seat 28 = .ok (.ireturn, 1) := by decide +kernel
theorem dX3_bath_0 : decode cX3_bath 0 = .ok (.aload_n 0, 1) := by decide +kernel
theorem dX3_bath_1 : decode cX3_bath 1 = .ok (.getfield 10, 3) := by decide +kernel
theorem dX3_bath_4 : decode cX3_bath 4 = .ok (.iload_n 1, 1) := by decide +kernel
theorem dX3_bath_5 : decode cX3_bath 5 = .ok (.invokevirtual 75, 3) := by decide +kernel
theorem dX3_bath_8 : decode cX3_bath 8 = .ok (.ifCond .ne 10, 3) := by decide +kernel
theorem dX3_bath_11 : decode cX3_bath 11 = .ok (.aload_n 0, 1) := by decide +kernel
theorem dX3_bath_12 : decode cX3_bath 12 = .ok (.ldc 55, 2) := by decide +kernel
theorem dX3_bath_14 : decode cX3_bath 14 = .ok (.invokevirtual 56, 3) := by decide +kernel
theorem dX3_bath_17 : decode cX3_bath 17 = .ok (.ireturn, 1) := by decide +kernel
theorem dX3_bath_18 : decode cX3_bath 18 = .ok (.aload_n 0, 1) := by decide +kernel
theorem dX3_bath_19 : decode cX3_bath 19 = .ok (.getfield 19, 3) := by decide +kernel
theorem dX3_bath_22 : decode cX3_bath 22 = .ok (.aload_n 0, 1) := by decide +kernel
theorem dX3_bath_23 : decode cX3_bath 23 = .ok (.getfield 10, 3) := by decide +kernel
theorem dX3_bath_26 : decode cX3_bath 26 = .ok (.invokevirtual 154, 3) := by decide +kernel
theorem dX3_bath_29 : decode cX3_bath 29 = .ok (.aload_n 0, 1) := by decide +kernel
theorem dX3_bath_30 : decode cX3_bath 30 = .ok (.getfield 19, 3) := by decide +kernel
theorem dX3_bath_33 : decode cX3_bath 33 = .ok (.invokevirtual 145, 3) := by decide +kernel
theorem dX3_bath_36 : decode cX3_bath 36 = .ok (.aload_n 0, 1) := by decide +kernel
theorem dX3_bath_37 : decode cX3_bath 37 = .ok (.getfield 19, 3) := by decide +kernel
theorem dX3_bath_40 : decode cX3_bath 40 = .ok (.iload_n 1, 1) := by decide +kernel
theorem dX3_bath_41 : decode cX3_bath 41 = .ok (.invokevirtual 131, 3) := by decide +kernel
theorem dX3_bath_44 : decode cX3_bath 44 = .ok (.invokestatic 165, 3) := by decide +kernel
theorem dX3_bath_47 : decode cX3_bath 47 = .ok (.istore_n 2, 1) := by decide +kernel
theorem dX3_bath_48 : decode cX3_bath 48 = .ok (.iconst (-1), 1) := by decide +kernel
theorem dX3_bath_49 : decode cX3_bath 49 = .ok (.istore_n 3, 1) := by decide +kernel
theorem dX3_bath_50 : decode cX3_bath 50 = .ok (.iconst 0, 1) := by decide +kernel
theorem dX3_bath_51 : decode cX3_bath 51 = .ok (.istore 4, 2) := by decide +kernel
theorem dX3_bath_53 : decode cX3_bath 53 = .ok (.iload 4, 2) := by decide +kernel
theorem dX3_bath_55 : decode cX3_bath 55 = .ok (.aload_n 0, 1) := by decide +kernel
theorem dX3_bath_56 : decode cX3_bath 56 = .ok (.getfield 10, 3) := by decide +kernel
theorem dX3_bath_59 : decode cX3_bath 59 = .ok (.getfield 67, 3) := by decide +kernel
theorem dX3_bath_62 : decode cX3_bath 62 = .ok (.if_icmp .ge 62, 3) := by decide +kernel
theorem dX3_bath_65 : decode cX3_bath 65 = .ok (.aload_n 0, 1) := by decide +kernel
theorem dX3_bath_66 : decode cX3_bath 66 = .ok (.getfield 19, 3) := by decide +kernel
theorem dX3_bath_69 : decode cX3_bath 69 = .ok (.aload_n 0, 1) := by decide +kernel
theorem dX3_bath_70 : decode cX3_bath 70 = .ok (.getfield 10, 3) := by decide +kernel
theorem dX3_bath_73 : decode cX3_bath 73 = .ok (.invokevirtual 154, 3) := by decide +kernel
theorem dX3_bath_76 : decode cX3_bath 76 = .ok (.aload_n 0, 1) := by decide +kernel
theorem dX3_bath_77 : decode cX3_bath 77 = .ok (.getfield 19, 3) := by decide +kernel
theorem dX3_bath_80 : decode cX3_bath 80 = .ok (.iload 4, 2) := by decide +kernel
theorem dX3_bath_82 : decode cX3_bath 82 = .ok (.invokevirtual 115, 3) := by decide +kernel
theorem dX3_bath_85 : decode cX3_bath 85 = .ok (.pop, 1) := by decide +kernel
theorem dX3_bath_86 : decode cX3_bath 86 = .ok (.aload_n 0, 1) := by decide +kernel
theorem dX3_bath_87 : decode cX3_bath 87 = .ok (.getfield 19, 3) := by decide +kernel
theorem dX3_bath_90 : decode cX3_bath 90 = .ok (.invokevirtual 145, 3) := by decide +kernel
theorem dX3_bath_93 : decode cX3_bath 93 = .ok (.aload_n 0, 1) := by decide +kernel
theorem dX3_bath_94 : decode cX3_bath 94 = .ok (.getfield 19, 3) := by decide +kernel
theorem dX3_bath_97 : decode cX3_bath 97 = .ok (.iload_n 1, 1) := by decide +kernel
theorem dX3_bath_98 : decode cX3_bath 98 = .ok (.invokevirtual 131, 3) := by decide +kernel
theorem dX3_bath_101 : decode cX3_bath 101 = .ok (.invokestatic 165, 3) := by decide +kernel
theorem dX3_bath_104 : decode cX3_bath 104 = .ok (.istore 5, 2) := by decide +kernel
theorem dX3_bath_106 : decode cX3_bath 106 = .ok (.iload 5, 2) := by decide +kernel
theorem dX3_bath_108 : decode cX3_bath 108 = .ok (.iload_n 2, 1) := by decide +kernel
theorem dX3_bath_109 : decode cX3_bath 109 = .ok (.if_icmp .ge 9, 3) := by decide +kernel
theorem dX3_bath_112 : decode cX3_bath 112 = .ok (.iload 5, 2) := by decide +kernel
theorem dX3_bath_114 : decode cX3_bath 114 = .ok (.istore_n 2, 1) := by decide +kernel
theorem dX3_bath_115 : decode cX3_bath 115 = .ok (.iload 4, 2) := by decide +kernel
theorem dX3_bath_117 : decode cX3_bath 117 = .ok (.istore_n 3, 1) := by decide +kernel
theorem dX3_bath_118 : decode cX3_bath 118 = .ok (.iinc 4 1, 3) := by decide +kernel
theorem dX3_bath_121 : decode cX3_bath 121 = .ok (.goto (-68), 3) := by decide +kernel
theorem dX3_bath_124 : decode cX3_bath 124 = .ok (.iload_n 3, 1) := by decide +kernel
theorem dX3_bath_125 : decode cX3_bath 125 = .ok (.ifCond .ge 12, 3) := by decide +kernel
theorem dX3_bath_128 : decode cX3_bath 128 = .ok (.aload_n 0, 1) := by decide +kernel
theorem dX3_bath_129 : decode cX3_bath 129 = .ok (.ldc 130, 2) := by decide +kernel
theorem dX3_bath_131 : decode cX3_bath 131 = .ok (.invokevirtual 56, 3) := by decide +kernel
theorem dX3_bath_134 : decode cX3_bath 134 = .ok (.goto 4, 3) := by decide +kernel
theorem dX3_bath_137 : decode cX3_bath 137 = .ok (.iload_n 3, 1) := by decide +kernel
theorem dX3_bath_138 : decode cX3_bath 138 = .ok (.ireturn, 1) := by decide +kernel
theorem dX3_kind_0 : decode cX3_kind 0 = .ok (.aload_n 0, 1) := by decide +kernel
theorem dX3_kind_1 : decode cX3_kind 1 = .ok (.getfield 10, 3) := by decide +kernel
theorem dX3_kind_4 : decode cX3_kind 4 = .ok (.iload_n 1, 1) := by decide +kernel
theorem dX3_kind_5 : decode cX3_kind 5 = .ok (.invokevirtual 75, 3) := by decide +kernel
theorem dX3_kind_8 : decode cX3_kind 8 = .ok (.ifCond .eq 14, 3) := by decide +kernel
theorem dX3_kind_11 : decode cX3_kind 11 = .ok (.aload_n 0, 1) := by decide +kernel
theorem dX3_kind_12 : decode cX3_kind 12 = .ok (.iload_n 1, 1) := by decide +kernel
theorem dX3_kind_13 : decode cX3_kind 13 = .ok (.iconst 2, 1) := by decide +kernel
theorem dX3_kind_14 : decode cX3_kind 14 = .ok (.bipush 6, 2) := by decide +kernel
theorem dX3_kind_16 : decode cX3_kind 16 = .ok (.invokevirtual 162, 3) := by decide +kernel
theorem dX3_kind_19 : decode cX3_kind 19 = .ok (.goto 9, 3) := by decide +kernel
theorem dX3_kind_22 : decode cX3_kind 22 = .ok (.aload_n 0, 1) := by decide +kernel
theorem dX3_kind_23 : decode cX3_kind 23 = .ok (.ldc 55, 2) := by decide +kernel
theorem dX3_kind_25 : decode cX3_kind 25 = .ok (.invokevirtual 56, 3) := by decide +kernel
theorem dX3_kind_28 : decode cX3_kind 28 = .ok (.ireturn, 1) := by decide +kernel
theorem dX3_due_0 : decode cX3_due 0 = .ok (.aload_n 0, 1) := by decide +kernel
theorem dX3_due_1 : decode cX3_due 1 = .ok (.getfield 10, 3) := by decide +kernel
theorem dX3_due_4 : decode cX3_due 4 = .ok (.iload_n 1, 1) := by decide +kernel
theorem dX3_due_5 : decode cX3_due 5 = .ok (.invokevirtual 75, 3) := by decide +kernel
theorem dX3_due_8 : decode cX3_due 8 = .ok (.ifCond .ne 10, 3) := by decide +kernel
theorem dX3_due_11 : decode cX3_due 11 = .ok (.aload_n 0, 1) := by decide +kernel
theorem dX3_due_12 : decode cX3_due 12 = .ok (.ldc 55, 2) := by decide +kernel
theorem dX3_due_14 : decode cX3_due 14 = .ok (.invokevirtual 56, 3) := by decide +kernel
theorem dX3_due_17 : decode cX3_due 17 = .ok (.ireturn, 1) := by decide +kernel
theorem dX3_due_18 : decode cX3_due 18 = .ok (.aload_n 0, 1) := by decide +kernel
theorem dX3_due_19 : decode cX3_due 19 = .ok (.getfield 19, 3) := by decide +kernel
theorem dX3_due_22 : decode cX3_due 22 = .ok (.aload_n 0, 1) := by decide +kernel
theorem dX3_due_23 : decode cX3_due 23 = .ok (.getfield 10, 3) := by decide +kernel
theorem dX3_due_26 : decode cX3_due 26 = .ok (.invokevirtual 154, 3) := by decide +kernel
theorem dX3_due_29 : decode cX3_due 29 = .ok (.iconst 1, 1) := by decide +kernel
theorem dX3_due_30 : decode cX3_due 30 = .ok (.istore_n 2, 1) := by decide +kernel
theorem dX3_due_31 : decode cX3_due 31 = .ok (.iload_n 2, 1) := by decide +kernel
theorem dX3_due_32 : decode cX3_due 32 = .ok (.bipush 99, 2) := by decide +kernel
theorem dX3_due_34 : decode cX3_due 34 = .ok (.if_icmp .gt 30, 3) := by decide +kernel
theorem dX3_due_37 : decode cX3_due 37 = .ok (.aload_n 0, 1) := by decide +kernel
theorem dX3_due_38 : decode cX3_due 38 = .ok (.getfield 19, 3) := by decide +kernel
theorem dX3_due_41 : decode cX3_due 41 = .ok (.iload_n 2, 1) := by decide +kernel
theorem dX3_due_42 : decode cX3_due 42 = .ok (.putfield 52, 3) := by decide +kernel
theorem dX3_due_45 : decode cX3_due 45 = .ok (.aload_n 0, 1) := by decide +kernel
theorem dX3_due_46 : decode cX3_due 46 = .ok (.getfield 19, 3) := by decide +kernel
theorem dX3_due_49 : decode cX3_due 49 = .ok (.iload_n 1, 1) := by decide +kernel
theorem dX3_due_50 : decode cX3_due 50 = .ok (.invokevirtual 131, 3) := by decide +kernel
theorem dX3_due_53 : decode cX3_due 53 = .ok (.ifCond .ne 5, 3) := by decide +kernel
theorem dX3_due_56 : decode cX3_due 56 = .ok (.iload_n 2, 1) := by decide +kernel
theorem dX3_due_57 : decode cX3_due 57 = .ok (.ireturn, 1) := by decide +kernel
theorem dX3_due_58 : decode cX3_due 58 = .ok (.iinc 2 1, 3) := by decide +kernel
theorem dX3_due_61 : decode cX3_due 61 = .ok (.goto (-30), 3) := by decide +kernel
theorem dX3_due_64 : decode cX3_due 64 = .ok (.aload_n 0, 1) := by decide +kernel
theorem dX3_due_65 : decode cX3_due 65 = .ok (.ldc 130, 2) := by decide +kernel
theorem dX3_due_67 : decode cX3_due 67 = .ok (.invokevirtual 56, 3) := by decide +kernel
theorem dX3_due_70 : decode cX3_due 70 = .ok (.ireturn, 1) := by decide +kernel
theorem dX3_jury_0 : decode cX3_jury 0 = .ok (.aload_n 0, 1) := by decide +kernel
theorem dX3_jury_1 : decode cX3_jury 1 = .ok (.getfield 10, 3) := by decide +kernel
theorem dX3_jury_4 : decode cX3_jury 4 = .ok (.iload_n 1, 1) := by decide +kernel
theorem dX3_jury_5 : decode cX3_jury 5 = .ok (.invokevirtual 75, 3) := by decide +kernel
theorem dX3_jury_8 : decode cX3_jury 8 = .ok (.ifCond .eq 13, 3) := by decide +kernel
theorem dX3_jury_11 : decode cX3_jury 11 = .ok (.iload_n 2, 1) := by decide +kernel
theorem dX3_jury_12 : decode cX3_jury 12 = .ok (.iconst 1, 1) := by decide +kernel
theorem dX3_jury_13 : decode cX3_jury 13 = .ok (.bipush 7, 2) := by decide +kernel
theorem dX3_jury_15 : decode cX3_jury 15 = .ok (.invokestatic 44, 3) := by decide +kernel
theorem dX3_jury_18 : decode cX3_jury 18 = .ok (.ifCond .ne 10, 3) := by decide +kernel
theorem dX3_jury_21 : decode cX3_jury 21 = .ok (.aload_n 0, 1) := by decide +kernel
theorem dX3_jury_22 : decode cX3_jury 22 = .ok (.ldc 55, 2) := by decide +kernel
theorem dX3_jury_24 : decode cX3_jury 24 = .ok (.invokevirtual 56, 3) := by decide +kernel
theorem dX3_jury_27 : decode cX3_jury 27 = .ok (.ireturn, 1) := by decide +kernel
theorem dX3_jury_28 : decode cX3_jury 28 = .ok (.aload_n 0, 1) := by decide +kernel
theorem dX3_jury_29 : decode cX3_jury 29 = .ok (.getfield 10, 3) := by decide +kernel
theorem dX3_jury_32 : decode cX3_jury 32 = .ok (.iload_n 1, 1) := by decide +kernel
theorem dX3_jury_33 : decode cX3_jury 33 = .ok (.invokevirtual 131, 3) := by decide +kernel
theorem dX3_jury_36 : decode cX3_jury 36 = .ok (.istore_n 3, 1) := by decide +kernel
theorem dX3_jury_37 : decode cX3_jury 37 = .ok (.iconst 1, 1) := by decide +kernel
theorem dX3_jury_38 : decode cX3_jury 38 = .ok (.istore 4, 2) := by decide +kernel
theorem dX3_jury_40 : decode cX3_jury 40 = .ok (.iload 4, 2) := by decide +kernel
theorem dX3_jury_42 : decode cX3_jury 42 = .ok (.aload_n 0, 1) := by decide +kernel
theorem dX3_jury_43 : decode cX3_jury 43 = .ok (.getfield 10, 3) := by decide +kernel
theorem dX3_jury_46 : decode cX3_jury 46 = .ok (.invokevirtual 134, 3) := by decide +kernel
theorem dX3_jury_49 : decode cX3_jury 49 = .ok (.if_icmp .gt 23, 3) := by decide +kernel
theorem dX3_jury_52 : decode cX3_jury 52 = .ok (.iload 4, 2) := by decide +kernel
theorem dX3_jury_54 : decode cX3_jury 54 = .ok (.iload_n 1, 1) := by decide +kernel
theorem dX3_jury_55 : decode cX3_jury 55 = .ok (.iload_n 2, 1) := by decide +kernel
theorem dX3_jury_56 : decode cX3_jury 56 = .ok (.iload_n 3, 1) := by decide +kernel
theorem dX3_jury_57 : decode cX3_jury 57 = .ok (.invokestatic 170, 3) := by decide +kernel
theorem dX3_jury_60 : decode cX3_jury 60 = .ok (.ifCond .eq 6, 3) := by decide +kernel
theorem dX3_jury_63 : decode cX3_jury 63 = .ok (.iload 4, 2) := by decide +kernel
theorem dX3_jury_65 : decode cX3_jury 65 = .ok (.ireturn, 1) := by decide +kernel
theorem dX3_jury_66 : decode cX3_jury 66 = .ok (.iinc 4 1, 3) := by decide +kernel
theorem dX3_jury_69 : decode cX3_jury 69 = .ok (.goto (-29), 3) := by decide +kernel
theorem dX3_jury_72 : decode cX3_jury 72 = .ok (.aload_n 0, 1) := by decide +kernel
theorem dX3_jury_73 : decode cX3_jury 73 = .ok (.ldc 130, 2) := by decide +kernel
theorem dX3_jury_75 : decode cX3_jury 75 = .ok (.invokevirtual 56, 3) := by decide +kernel
theorem dX3_jury_78 : decode cX3_jury 78 = .ok (.ireturn, 1) := by decide +kernel
theorem dX3_juries_0 : decode cX3_juries 0 = .ok (.aload_n 0, 1) := by decide +kernel
theorem dX3_juries_1 : decode cX3_juries 1 = .ok (.getfield 10, 3) := by decide +kernel
theorem dX3_juries_4 : decode cX3_juries 4 = .ok (.iload_n 1, 1) := by decide +kernel
theorem dX3_juries_5 : decode cX3_juries 5 = .ok (.invokevirtual 75, 3) := by decide +kernel
theorem dX3_juries_8 : decode cX3_juries 8 = .ok (.ifCond .eq 13, 3) := by decide +kernel
theorem dX3_juries_11 : decode cX3_juries 11 = .ok (.iload_n 2, 1) := by decide +kernel
theorem dX3_juries_12 : decode cX3_juries 12 = .ok (.iconst 1, 1) := by decide +kernel
theorem dX3_juries_13 : decode cX3_juries 13 = .ok (.bipush 7, 2) := by decide +kernel
theorem dX3_juries_15 : decode cX3_juries 15 = .ok (.invokestatic 44, 3) := by decide +kernel
theorem dX3_juries_18 : decode cX3_juries 18 = .ok (.ifCond .ne 10, 3) := by decide +kernel
theorem dX3_juries_21 : decode cX3_juries 21 = .ok (.aload_n 0, 1) := by decide +kernel
theorem dX3_juries_22 : decode cX3_juries 22 = .ok (.ldc 55, 2) := by decide +kernel
theorem dX3_juries_24 : decode cX3_juries 24 = .ok (.invokevirtual 56, 3) := by decide +kernel
theorem dX3_juries_27 : decode cX3_juries 27 = .ok (.ireturn, 1) := by decide +kernel
theorem dX3_juries_28 : decode cX3_juries 28 = .ok (.aload_n 0, 1) := by decide +kernel
theorem dX3_juries_29 : decode cX3_juries 29 = .ok (.getfield 10, 3) := by decide +kernel
theorem dX3_juries_32 : decode cX3_juries 32 = .ok (.iload_n 1, 1) := by decide +kernel
theorem dX3_juries_33 : decode cX3_juries 33 = .ok (.invokevirtual 131, 3) := by decide +kernel
theorem dX3_juries_36 : decode cX3_juries 36 = .ok (.istore_n 3, 1) := by decide +kernel
theorem dX3_juries_37 : decode cX3_juries 37 = .ok (.iconst 0, 1) := by decide +kernel
theorem dX3_juries_38 : decode cX3_juries 38 = .ok (.istore 4, 2) := by decide +kernel
theorem dX3_juries_40 : decode cX3_juries 40 = .ok (.iconst 1, 1) := by decide +kernel
theorem dX3_juries_41 : decode cX3_juries 41 = .ok (.istore 5, 2) := by decide +kernel
theorem dX3_juries_43 : decode cX3_juries 43 = .ok (.iload 5, 2) := by decide +kernel
theorem dX3_juries_45 : decode cX3_juries 45 = .ok (.aload_n 0, 1) := by decide +kernel
theorem dX3_juries_46 : decode cX3_juries 46 = .ok (.getfield 10, 3) := by decide +kernel
theorem dX3_juries_49 : decode cX3_juries 49 = .ok (.invokevirtual 134, 3) := by decide +kernel
theorem dX3_juries_52 : decode cX3_juries 52 = .ok (.if_icmp .gt 23, 3) := by decide +kernel
theorem dX3_juries_55 : decode cX3_juries 55 = .ok (.iload 5, 2) := by decide +kernel
theorem dX3_juries_57 : decode cX3_juries 57 = .ok (.iload_n 1, 1) := by decide +kernel
theorem dX3_juries_58 : decode cX3_juries 58 = .ok (.iload_n 2, 1) := by decide +kernel
theorem dX3_juries_59 : decode cX3_juries 59 = .ok (.iload_n 3, 1) := by decide +kernel
theorem dX3_juries_60 : decode cX3_juries 60 = .ok (.invokestatic 170, 3) := by decide +kernel
theorem dX3_juries_63 : decode cX3_juries 63 = .ok (.ifCond .eq 6, 3) := by decide +kernel
theorem dX3_juries_66 : decode cX3_juries 66 = .ok (.iinc 4 1, 3) := by decide +kernel
theorem dX3_juries_69 : decode cX3_juries 69 = .ok (.iinc 5 1, 3) := by decide +kernel
theorem dX3_juries_72 : decode cX3_juries 72 = .ok (.goto (-29), 3) := by decide +kernel
theorem dX3_juries_75 : decode cX3_juries 75 = .ok (.iload 4, 2) := by decide +kernel
theorem dX3_juries_77 : decode cX3_juries 77 = .ok (.ireturn, 1) := by decide +kernel
theorem dX3_from_0 : decode cX3_from 0 = .ok (.aload_n 0, 1) := by decide +kernel
theorem dX3_from_1 : decode cX3_from 1 = .ok (.getfield 10, 3) := by decide +kernel
theorem dX3_from_4 : decode cX3_from 4 = .ok (.iload_n 1, 1) := by decide +kernel
theorem dX3_from_5 : decode cX3_from 5 = .ok (.invokevirtual 75, 3) := by decide +kernel
theorem dX3_from_8 : decode cX3_from 8 = .ok (.ifCond .eq 10, 3) := by decide +kernel
theorem dX3_from_11 : decode cX3_from 11 = .ok (.iload_n 2, 1) := by decide +kernel
theorem dX3_from_12 : decode cX3_from 12 = .ok (.invokestatic 100, 3) := by decide +kernel
theorem dX3_from_15 : decode cX3_from 15 = .ok (.ifCond .ne 10, 3) := by decide +kernel
theorem dX3_from_18 : decode cX3_from 18 = .ok (.aload_n 0, 1) := by decide +kernel
theorem dX3_from_19 : decode cX3_from 19 = .ok (.ldc 55, 2) := by decide +kernel
theorem dX3_from_21 : decode cX3_from 21 = .ok (.invokevirtual 56, 3) := by decide +kernel
theorem dX3_from_24 : decode cX3_from 24 = .ok (.ireturn, 1) := by decide +kernel
theorem dX3_from_25 : decode cX3_from 25 = .ok (.aload_n 0, 1) := by decide +kernel
theorem dX3_from_26 : decode cX3_from 26 = .ok (.getfield 10, 3) := by decide +kernel
theorem dX3_from_29 : decode cX3_from 29 = .ok (.iload_n 1, 1) := by decide +kernel
theorem dX3_from_30 : decode cX3_from 30 = .ok (.iload_n 2, 1) := by decide +kernel
theorem dX3_from_31 : decode cX3_from 31 = .ok (.invokevirtual 174, 3) := by decide +kernel
theorem dX3_from_34 : decode cX3_from 34 = .ok (.istore_n 3, 1) := by decide +kernel
theorem dX3_from_35 : decode cX3_from 35 = .ok (.iload_n 3, 1) := by decide +kernel
theorem dX3_from_36 : decode cX3_from 36 = .ok (.ifCond .ge 10, 3) := by decide +kernel
theorem dX3_from_39 : decode cX3_from 39 = .ok (.aload_n 0, 1) := by decide +kernel
theorem dX3_from_40 : decode cX3_from 40 = .ok (.ldc 130, 2) := by decide +kernel
theorem dX3_from_42 : decode cX3_from 42 = .ok (.invokevirtual 56, 3) := by decide +kernel
theorem dX3_from_45 : decode cX3_from 45 = .ok (.ireturn, 1) := by decide +kernel
theorem dX3_from_46 : decode cX3_from 46 = .ok (.aload_n 0, 1) := by decide +kernel
theorem dX3_from_47 : decode cX3_from 47 = .ok (.getfield 10, 3) := by decide +kernel
theorem dX3_from_50 : decode cX3_from 50 = .ok (.getfield 103, 3) := by decide +kernel
theorem dX3_from_53 : decode cX3_from 53 = .ok (.iload_n 2, 1) := by decide +kernel
theorem dX3_from_54 : decode cX3_from 54 = .ok (.aaload, 1) := by decide +kernel
theorem dX3_from_55 : decode cX3_from 55 = .ok (.astore 4, 2) := by decide +kernel
theorem dX3_from_57 : decode cX3_from 57 = .ok (.aload 4, 2) := by decide +kernel
theorem dX3_from_59 : decode cX3_from 59 = .ok (.iload_n 3, 1) := by decide +kernel
theorem dX3_from_60 : decode cX3_from 60 = .ok (.iaload, 1) := by decide +kernel
theorem dX3_from_61 : decode cX3_from 61 = .ok (.iconst 4, 1) := by decide +kernel
theorem dX3_from_62 : decode cX3_from 62 = .ok (.idiv, 1) := by decide +kernel
theorem dX3_from_63 : decode cX3_from 63 = .ok (.iload_n 2, 1) := by decide +kernel
theorem dX3_from_64 : decode cX3_from 64 = .ok (.aload 4, 2) := by decide +kernel
theorem dX3_from_66 : decode cX3_from 66 = .ok (.iload_n 1, 1) := by decide +kernel
theorem dX3_from_67 : decode cX3_from 67 = .ok (.iaload, 1) := by decide +kernel
theorem dX3_from_68 : decode cX3_from 68 = .ok (.invokestatic 177, 3) := by decide +kernel
theorem dX3_from_71 : decode cX3_from 71 = .ok (.if_icmp .le 7, 3) := by decide +kernel
theorem dX3_from_74 : decode cX3_from 74 = .ok (.iload_n 3, 1) := by decide +kernel
theorem dX3_from_75 : decode cX3_from 75 = .ok (.goto 9, 3) := by decide +kernel
theorem dX3_from_78 : decode cX3_from 78 = .ok (.aload_n 0, 1) := by decide +kernel
theorem dX3_from_79 : decode cX3_from 79 = .ok (.ldc 130, 2) := by decide +kernel
theorem dX3_from_81 : decode cX3_from 81 = .ok (.invokevirtual 56, 3) := by decide +kernel
theorem dX3_from_84 : decode cX3_from 84 = .ok (.ireturn, 1) := by decide +kernel
theorem dX3_nose_0 : decode cX3_nose 0 = .ok (.aload_n 0, 1) := by decide +kernel
theorem dX3_nose_1 : decode cX3_nose 1 = .ok (.getfield 10, 3) := by decide +kernel
theorem dX3_nose_4 : decode cX3_nose 4 = .ok (.iload_n 1, 1) := by decide +kernel
theorem dX3_nose_5 : decode cX3_nose 5 = .ok (.iload_n 2, 1) := by decide +kernel
theorem dX3_nose_6 : decode cX3_nose 6 = .ok (.invokevirtual 118, 3) := by decide +kernel
theorem dX3_nose_9 : decode cX3_nose 9 = .ok (.ifCond .ne 10, 3) := by decide +kernel
theorem dX3_nose_12 : decode cX3_nose 12 = .ok (.aload_n 0, 1) := by decide +kernel
theorem dX3_nose_13 : decode cX3_nose 13 = .ok (.ldc 55, 2) := by decide +kernel
theorem dX3_nose_15 : decode cX3_nose 15 = .ok (.invokevirtual 56, 3) := by decide +kernel
theorem dX3_nose_18 : decode cX3_nose 18 = .ok (.ireturn, 1) := by decide +kernel
theorem dX3_nose_19 : decode cX3_nose 19 = .ok (.aload_n 0, 1) := by decide +kernel
theorem dX3_nose_20 : decode cX3_nose 20 = .ok (.getfield 19, 3) := by decide +kernel
theorem dX3_nose_23 : decode cX3_nose 23 = .ok (.aload_n 0, 1) := by decide +kernel
theorem dX3_nose_24 : decode cX3_nose 24 = .ok (.getfield 10, 3) := by decide +kernel
theorem dX3_nose_27 : decode cX3_nose 27 = .ok (.invokevirtual 154, 3) := by decide +kernel
theorem dX3_nose_30 : decode cX3_nose 30 = .ok (.aload_n 0, 1) := by decide +kernel
theorem dX3_nose_31 : decode cX3_nose 31 = .ok (.getfield 19, 3) := by decide +kernel
theorem dX3_nose_34 : decode cX3_nose 34 = .ok (.getfield 87, 3) := by decide +kernel
theorem dX3_nose_37 : decode cX3_nose 37 = .ok (.iload_n 1, 1) := by decide +kernel
theorem dX3_nose_38 : decode cX3_nose 38 = .ok (.iconst 0, 1) := by decide +kernel
theorem dX3_nose_39 : decode cX3_nose 39 = .ok (.iastore, 1) := by decide +kernel
theorem dX3_nose_40 : decode cX3_nose 40 = .ok (.iconst 0, 1) := by decide +kernel
theorem dX3_nose_41 : decode cX3_nose 41 = .ok (.istore_n 3, 1) := by decide +kernel
theorem dX3_nose_42 : decode cX3_nose 42 = .ok (.iload_n 3, 1) := by decide +kernel
theorem dX3_nose_43 : decode cX3_nose 43 = .ok (.bipush 9, 2) := by decide +kernel
theorem dX3_nose_45 : decode cX3_nose 45 = .ok (.if_icmp .gt 33, 3) := by decide +kernel
theorem dX3_nose_48 : decode cX3_nose 48 = .ok (.aload_n 0, 1) := by decide +kernel
theorem dX3_nose_49 : decode cX3_nose 49 = .ok (.getfield 19, 3) := by decide +kernel
theorem dX3_nose_52 : decode cX3_nose 52 = .ok (.getfield 84, 3) := by decide +kernel
theorem dX3_nose_55 : decode cX3_nose 55 = .ok (.iload_n 1, 1) := by decide +kernel
theorem dX3_nose_56 : decode cX3_nose 56 = .ok (.iload_n 3, 1) := by decide +kernel
theorem dX3_nose_57 : decode cX3_nose 57 = .ok (.iastore, 1) := by decide +kernel
theorem dX3_nose_58 : decode cX3_nose 58 = .ok (.aload_n 0, 1) := by decide +kernel
theorem dX3_nose_59 : decode cX3_nose 59 = .ok (.getfield 19, 3) := by decide +kernel
theorem dX3_nose_62 : decode cX3_nose 62 = .ok (.iload_n 1, 1) := by decide +kernel
theorem dX3_nose_63 : decode cX3_nose 63 = .ok (.iload_n 2, 1) := by decide +kernel
theorem dX3_nose_64 : decode cX3_nose 64 = .ok (.invokevirtual 180, 3) := by decide +kernel
theorem dX3_nose_67 : decode cX3_nose 67 = .ok (.ifCond .eq 5, 3) := by decide +kernel
theorem dX3_nose_70 : decode cX3_nose 70 = .ok (.iload_n 3, 1) := by decide +kernel
theorem dX3_nose_71 : decode cX3_nose 71 = .ok (.ireturn, 1) := by decide +kernel
theorem dX3_nose_72 : decode cX3_nose 72 = .ok (.iinc 3 1, 3) := by decide +kernel
theorem dX3_nose_75 : decode cX3_nose 75 = .ok (.goto (-33), 3) := by decide +kernel
theorem dX3_nose_78 : decode cX3_nose 78 = .ok (.aload_n 0, 1) := by decide +kernel
theorem dX3_nose_79 : decode cX3_nose 79 = .ok (.ldc 130, 2) := by decide +kernel
theorem dX3_nose_81 : decode cX3_nose 81 = .ok (.invokevirtual 56, 3) := by decide +kernel
theorem dX3_nose_84 : decode cX3_nose 84 = .ok (.ireturn, 1) := by decide +kernel
theorem dX3_feed_0 : decode cX3_feed 0 = .ok (.iload_n 2, 1) := by decide +kernel
theorem dX3_feed_1 : decode cX3_feed 1 = .ok (.iconst 1, 1) := by decide +kernel
theorem dX3_feed_2 : decode cX3_feed 2 = .ok (.iconst 4, 1) := by decide +kernel
theorem dX3_feed_3 : decode cX3_feed 3 = .ok (.invokestatic 44, 3) := by decide +kernel
theorem dX3_feed_6 : decode cX3_feed 6 = .ok (.ifCond .ne 10, 3) := by decide +kernel
theorem dX3_feed_9 : decode cX3_feed 9 = .ok (.aload_n 0, 1) := by decide +kernel
theorem dX3_feed_10 : decode cX3_feed 10 = .ok (.ldc 55, 2) := by decide +kernel
theorem dX3_feed_12 : decode cX3_feed 12 = .ok (.invokevirtual 56, 3) := by decide +kernel
theorem dX3_feed_15 : decode cX3_feed 15 = .ok (.ireturn, 1) := by decide +kernel
theorem dX3_feed_16 : decode cX3_feed 16 = .ok (.aload_n 0, 1) := by decide +kernel
theorem dX3_feed_17 : decode cX3_feed 17 = .ok (.getfield 25, 3) := by decide +kernel
theorem dX3_feed_20 : decode cX3_feed 20 = .ok (.getfield 183, 3) := by decide +kernel
theorem dX3_feed_23 : decode cX3_feed 23 = .ok (.iload_n 2, 1) := by decide +kernel
theorem dX3_feed_24 : decode cX3_feed 24 = .ok (.iadd, 1) := by decide +kernel
theorem dX3_feed_25 : decode cX3_feed 25 = .ok (.bipush 120, 2) := by decide +kernel
theorem dX3_feed_27 : decode cX3_feed 27 = .ok (.if_icmp .le 10, 3) := by decide +kernel
theorem dX3_feed_30 : decode cX3_feed 30 = .ok (.aload_n 0, 1) := by decide +kernel
theorem dX3_feed_31 : decode cX3_feed 31 = .ok (.ldc 70, 2) := by decide +kernel
theorem dX3_feed_33 : decode cX3_feed 33 = .ok (.invokevirtual 56, 3) := by decide +kernel
theorem dX3_feed_36 : decode cX3_feed 36 = .ok (.ireturn, 1) := by decide +kernel
theorem dX3_feed_37 : decode cX3_feed 37 = .ok (.iload_n 2, 1) := by decide +kernel
theorem dX3_feed_38 : decode cX3_feed 38 = .ok (.iconst 1, 1) := by decide +kernel
theorem dX3_feed_39 : decode cX3_feed 39 = .ok (.isub, 1) := by decide +kernel
theorem dX3_feed_40 : decode cX3_feed 40 = .ok (.istore_n 3, 1) := by decide +kernel
theorem dX3_feed_41 : decode cX3_feed 41 = .ok (.iload_n 3, 1) := by decide +kernel
theorem dX3_feed_42 : decode cX3_feed 42 = .ok (.ifCond .lt 26, 3) := by decide +kernel
theorem dX3_feed_45 : decode cX3_feed 45 = .ok (.aload_n 0, 1) := by decide +kernel
theorem dX3_feed_46 : decode cX3_feed 46 = .ok (.getfield 25, 3) := by decide +kernel
theorem dX3_feed_49 : decode cX3_feed 49 = .ok (.iload_n 1, 1) := by decide +kernel
theorem dX3_feed_50 : decode cX3_feed 50 = .ok (.bipush 8, 2) := by decide +kernel
theorem dX3_feed_52 : decode cX3_feed 52 = .ok (.iload_n 3, 1) := by decide +kernel
theorem dX3_feed_53 : decode cX3_feed 53 = .ok (.imul, 1) := by decide +kernel
theorem dX3_feed_54 : decode cX3_feed 54 = .ok (.iushr, 1) := by decide +kernel
theorem dX3_feed_55 : decode cX3_feed 55 = .ok (.sipush 255, 3) := by decide +kernel
theorem dX3_feed_58 : decode cX3_feed 58 = .ok (.iand, 1) := by decide +kernel
theorem dX3_feed_59 : decode cX3_feed 59 = .ok (.invokevirtual 186, 3) := by decide +kernel
theorem dX3_feed_62 : decode cX3_feed 62 = .ok (.iinc 3 (-1), 3) := by decide +kernel
theorem dX3_feed_65 : decode cX3_feed 65 = .ok (.goto (-24), 3) := by decide +kernel
theorem dX3_feed_68 : decode cX3_feed 68 = .ok (.aload_n 0, 1) := by decide +kernel
theorem dX3_feed_69 : decode cX3_feed 69 = .ok (.getfield 25, 3) := by decide +kernel
theorem dX3_feed_72 : decode cX3_feed 72 = .ok (.getfield 183, 3) := by decide +kernel
theorem dX3_feed_75 : decode cX3_feed 75 = .ok (.ireturn, 1) := by decide +kernel
theorem dX3_wipe_0 : decode cX3_wipe 0 = .ok (.aload_n 0, 1) := by decide +kernel
theorem dX3_wipe_1 : decode cX3_wipe 1 = .ok (.getfield 25, 3) := by decide +kernel
theorem dX3_wipe_4 : decode cX3_wipe 4 = .ok (.getfield 183, 3) := by decide +kernel
theorem dX3_wipe_7 : decode cX3_wipe 7 = .ok (.istore_n 1, 1) := by decide +kernel
theorem dX3_wipe_8 : decode cX3_wipe 8 = .ok (.aload_n 0, 1) := by decide +kernel
theorem dX3_wipe_9 : decode cX3_wipe 9 = .ok (.getfield 25, 3) := by decide +kernel
theorem dX3_wipe_12 : decode cX3_wipe 12 = .ok (.iconst 0, 1) := by decide +kernel
theorem dX3_wipe_13 : decode cX3_wipe 13 = .ok (.putfield 183, 3) := by decide +kernel
theorem dX3_wipe_16 : decode cX3_wipe 16 = .ok (.iload_n 1, 1) := by decide +kernel
theorem dX3_wipe_17 : decode cX3_wipe 17 = .ok (.ireturn, 1) := by decide +kernel
theorem dX3_hall_0 : decode cX3_hall 0 = .ok (.aload_n 0, 1) := by decide +kernel
theorem dX3_hall_1 : decode cX3_hall 1 = .ok (.getfield 19, 3) := by decide +kernel
theorem dX3_hall_4 : decode cX3_hall 4 = .ok (.aload_n 0, 1) := by decide +kernel
theorem dX3_hall_5 : decode cX3_hall 5 = .ok (.getfield 10, 3) := by decide +kernel
theorem dX3_hall_8 : decode cX3_hall 8 = .ok (.invokevirtual 154, 3) := by decide +kernel
theorem dX3_hall_11 : decode cX3_hall 11 = .ok (.aload_n 0, 1) := by decide +kernel
theorem dX3_hall_12 : decode cX3_hall 12 = .ok (.getfield 25, 3) := by decide +kernel
theorem dX3_hall_15 : decode cX3_hall 15 = .ok (.aload_n 0, 1) := by decide +kernel
theorem dX3_hall_16 : decode cX3_hall 16 = .ok (.getfield 19, 3) := by decide +kernel
theorem dX3_hall_19 : decode cX3_hall 19 = .ok (.invokevirtual 189, 3) := by decide +kernel
theorem dX3_hall_22 : decode cX3_hall 22 = .ok (.istore_n 1, 1) := by decide +kernel
theorem dX3_hall_23 : decode cX3_hall 23 = .ok (.iload_n 1, 1) := by decide +kernel
theorem dX3_hall_24 : decode cX3_hall 24 = .ok (.ifCond .lt 14, 3) := by decide +kernel
theorem dX3_hall_27 : decode cX3_hall 27 = .ok (.aload_n 0, 1) := by decide +kernel
theorem dX3_hall_28 : decode cX3_hall 28 = .ok (.getfield 10, 3) := by decide +kernel
theorem dX3_hall_31 : decode cX3_hall 31 = .ok (.aload_n 0, 1) := by decide +kernel
theorem dX3_hall_32 : decode cX3_hall 32 = .ok (.getfield 19, 3) := by decide +kernel
theorem dX3_hall_35 : decode cX3_hall 35 = .ok (.invokevirtual 154, 3) := by decide +kernel
theorem dX3_hall_38 : decode cX3_hall 38 = .ok (.aload_n 0, 1) := by decide +kernel
theorem dX3_hall_39 : decode cX3_hall 39 = .ok (.getfield 25, 3) := by decide +kernel
theorem dX3_hall_42 : decode cX3_hall 42 = .ok (.iconst 0, 1) := by decide +kernel
theorem dX3_hall_43 : decode cX3_hall 43 = .ok (.putfield 183, 3) := by decide +kernel
theorem dX3_hall_46 : decode cX3_hall 46 = .ok (.iload_n 1, 1) := by decide +kernel
theorem dX3_hall_47 : decode cX3_hall 47 = .ok (.ireturn, 1) := by decide +kernel
theorem dX3_sheet_0 : decode cX3_sheet 0 = .ok (.iload_n 1, 1) := by decide +kernel
theorem dX3_sheet_1 : decode cX3_sheet 1 = .ok (.invokestatic 193, 3) := by decide +kernel
theorem dX3_sheet_4 : decode cX3_sheet 4 = .ok (.ifCond .eq 25, 3) := by decide +kernel
theorem dX3_sheet_7 : decode cX3_sheet 7 = .ok (.iload_n 2, 1) := by decide +kernel
theorem dX3_sheet_8 : decode cX3_sheet 8 = .ok (.ifCond .eq 28, 3) := by decide +kernel
theorem dX3_sheet_11 : decode cX3_sheet 11 = .ok (.iload_n 2, 1) := by decide +kernel
theorem dX3_sheet_12 : decode cX3_sheet 12 = .ok (.bipush 8, 2) := by decide +kernel
theorem dX3_sheet_14 : decode cX3_sheet 14 = .ok (.if_icmp .eq 22, 3) := by decide +kernel
theorem dX3_sheet_17 : decode cX3_sheet 17 = .ok (.iload_n 2, 1) := by decide +kernel
theorem dX3_sheet_18 : decode cX3_sheet 18 = .ok (.bipush 16, 2) := by decide +kernel
theorem dX3_sheet_20 : decode cX3_sheet 20 = .ok (.if_icmp .eq 16, 3) := by decide +kernel
theorem dX3_sheet_23 : decode cX3_sheet 23 = .ok (.iload_n 2, 1) := by decide +kernel
theorem dX3_sheet_24 : decode cX3_sheet 24 = .ok (.bipush 64, 2) := by decide +kernel
theorem dX3_sheet_26 : decode cX3_sheet 26 = .ok (.if_icmp .eq 10, 3) := by decide +kernel
theorem dX3_sheet_29 : decode cX3_sheet 29 = .ok (.aload_n 0, 1) := by decide +kernel
theorem dX3_sheet_30 : decode cX3_sheet 30 = .ok (.ldc 55, 2) := by decide +kernel
theorem dX3_sheet_32 : decode cX3_sheet 32 = .ok (.invokevirtual 56, 3) := by decide +kernel
theorem dX3_sheet_35 : decode cX3_sheet 35 = .ok (.ireturn, 1) := by decide +kernel
theorem dX3_sheet_36 : decode cX3_sheet 36 = .ok (.iload_n 3, 1) := by decide +kernel
theorem dX3_sheet_37 : decode cX3_sheet 37 = .ok (.ifCond .ge 10, 3) := by decide +kernel
theorem dX3_sheet_40 : decode cX3_sheet 40 = .ok (.aload_n 0, 1) := by decide +kernel
theorem dX3_sheet_41 : decode cX3_sheet 41 = .ok (.ldc 196, 2) := by decide +kernel
theorem dX3_sheet_43 : decode cX3_sheet 43 = .ok (.invokevirtual 56, 3) := by decide +kernel
theorem dX3_sheet_46 : decode cX3_sheet 46 = .ok (.ireturn, 1) := by decide +kernel
theorem dX3_sheet_47 : decode cX3_sheet 47 = .ok (.iload_n 3, 1) := by decide +kernel
theorem dX3_sheet_48 : decode cX3_sheet 48 = .ok (.bipush 40, 2) := by decide +kernel
theorem dX3_sheet_50 : decode cX3_sheet 50 = .ok (.if_icmp .le 10, 3) := by decide +kernel
theorem dX3_sheet_53 : decode cX3_sheet 53 = .ok (.aload_n 0, 1) := by decide +kernel
theorem dX3_sheet_54 : decode cX3_sheet 54 = .ok (.ldc 55, 2) := by decide +kernel
theorem dX3_sheet_56 : decode cX3_sheet 56 = .ok (.invokevirtual 56, 3) := by decide +kernel
theorem dX3_sheet_59 : decode cX3_sheet 59 = .ok (.ireturn, 1) := by decide +kernel
theorem dX3_sheet_60 : decode cX3_sheet 60 = .ok (.aload_n 0, 1) := by decide +kernel
theorem dX3_sheet_61 : decode cX3_sheet 61 = .ok (.getfield 31, 3) := by decide +kernel
theorem dX3_sheet_64 : decode cX3_sheet 64 = .ok (.iload_n 1, 1) := by decide +kernel
theorem dX3_sheet_65 : decode cX3_sheet 65 = .ok (.aaload, 1) := by decide +kernel
theorem dX3_sheet_66 : decode cX3_sheet 66 = .ok (.iload_n 2, 1) := by decide +kernel
theorem dX3_sheet_67 : decode cX3_sheet 67 = .ok (.iload_n 2, 1) := by decide +kernel
theorem dX3_sheet_68 : decode cX3_sheet 68 = .ok (.ifCond .ne 7, 3) := by decide +kernel
theorem dX3_sheet_71 : decode cX3_sheet 71 = .ok (.iconst 0, 1) := by decide +kernel
theorem dX3_sheet_72 : decode cX3_sheet 72 = .ok (.goto 4, 3) := by decide +kernel
theorem dX3_sheet_75 : decode cX3_sheet 75 = .ok (.iload_n 3, 1) := by decide +kernel
theorem dX3_sheet_76 : decode cX3_sheet 76 = .ok (.invokevirtual 197, 3) := by decide +kernel
theorem dX3_sheet_79 : decode cX3_sheet 79 = .ok (.aload_n 0, 1) := by decide +kernel
theorem dX3_sheet_80 : decode cX3_sheet 80 = .ok (.getfield 31, 3) := by decide +kernel
theorem dX3_sheet_83 : decode cX3_sheet 83 = .ok (.iload_n 1, 1) := by decide +kernel
theorem dX3_sheet_84 : decode cX3_sheet 84 = .ok (.aaload, 1) := by decide +kernel
theorem dX3_sheet_85 : decode cX3_sheet 85 = .ok (.getfield 201, 3) := by decide +kernel
theorem dX3_sheet_88 : decode cX3_sheet 88 = .ok (.ireturn, 1) := by decide +kernel
theorem dX3_write_0 : decode cX3_write 0 = .ok (.aload_n 0, 1) := by decide +kernel
theorem dX3_write_1 : decode cX3_write 1 = .ok (.iload_n 1, 1) := by decide +kernel
theorem dX3_write_2 : decode cX3_write 2 = .ok (.invokevirtual 204, 3) := by decide +kernel
theorem dX3_write_5 : decode cX3_write 5 = .ok (.istore 5, 2) := by decide +kernel
theorem dX3_write_7 : decode cX3_write 7 = .ok (.iload 5, 2) := by decide +kernel
theorem dX3_write_9 : decode cX3_write 9 = .ok (.ifCond .eq 11, 3) := by decide +kernel
theorem dX3_write_12 : decode cX3_write 12 = .ok (.aload_n 0, 1) := by decide +kernel
theorem dX3_write_13 : decode cX3_write 13 = .ok (.iload 5, 2) := by decide +kernel
theorem dX3_write_15 : decode cX3_write 15 = .ok (.invokevirtual 56, 3) := by decide +kernel
theorem dX3_write_18 : decode cX3_write 18 = .ok (.i2l, 1) := by decide +kernel
theorem dX3_write_19 : decode cX3_write 19 = .ok (.lreturn, 1) := by decide +kernel
theorem dX3_write_20 : decode cX3_write 20 = .ok (.aload_n 0, 1) := by decide +kernel
theorem dX3_write_21 : decode cX3_write 21 = .ok (.getfield 31, 3) := by decide +kernel
theorem dX3_write_24 : decode cX3_write 24 = .ok (.iload_n 1, 1) := by decide +kernel
theorem dX3_write_25 : decode cX3_write 25 = .ok (.aaload, 1) := by decide +kernel
theorem dX3_write_26 : decode cX3_write 26 = .ok (.astore 6, 2) := by decide +kernel
theorem dX3_write_28 : decode cX3_write 28 = .ok (.iload_n 2, 1) := by decide +kernel
theorem dX3_write_29 : decode cX3_write 29 = .ok (.iconst 0, 1) := by decide +kernel
theorem dX3_write_30 : decode cX3_write 30 = .ok (.aload 6, 2) := by decide +kernel
theorem dX3_write_32 : decode cX3_write 32 = .ok (.getfield 201, 3) := by decide +kernel
theorem dX3_write_35 : decode cX3_write 35 = .ok (.iconst 1, 1) := by decide +kernel
theorem dX3_write_36 : decode cX3_write 36 = .ok (.isub, 1) := by decide +kernel
theorem dX3_write_37 : decode cX3_write 37 = .ok (.invokestatic 44, 3) := by decide +kernel
theorem dX3_write_40 : decode cX3_write 40 = .ok (.ifCond .ne 11, 3) := by decide +kernel
theorem dX3_write_43 : decode cX3_write 43 = .ok (.aload_n 0, 1) := by decide +kernel
theorem dX3_write_44 : decode cX3_write 44 = .ok (.ldc 55, 2) := by decide +kernel
theorem dX3_write_46 : decode cX3_write 46 = .ok (.invokevirtual 56, 3) := by decide +kernel
theorem dX3_write_49 : decode cX3_write 49 = .ok (.i2l, 1) := by decide +kernel
theorem dX3_write_50 : decode cX3_write 50 = .ok (.lreturn, 1) := by decide +kernel
theorem dX3_write_51 : decode cX3_write 51 = .ok (.aload 6, 2) := by decide +kernel
theorem dX3_write_53 : decode cX3_write 53 = .ok (.getfield 207, 3) := by decide +kernel
theorem dX3_write_56 : decode cX3_write 56 = .ok (.iload_n 2, 1) := by decide +kernel
theorem dX3_write_57 : decode cX3_write 57 = .ok (.laload, 1) := by decide +kernel
theorem dX3_write_58 : decode cX3_write 58 = .ok (.lstore 7, 2) := by decide +kernel
theorem dX3_write_60 : decode cX3_write 60 = .ok (.aload 6, 2) := by decide +kernel
theorem dX3_write_62 : decode cX3_write 62 = .ok (.iload_n 2, 1) := by decide +kernel
theorem dX3_write_63 : decode cX3_write 63 = .ok (.lload_n 3, 1) := by decide +kernel
theorem dX3_write_64 : decode cX3_write 64 = .ok (.invokevirtual 211, 3) := by decide +kernel
theorem dX3_write_67 : decode cX3_write 67 = .ok (.lload 7, 2) := by decide +kernel
theorem dX3_write_69 : decode cX3_write 69 = .ok (.lreturn, 1) := by decide +kernel
theorem dX3_copy_0 : decode cX3_copy 0 = .ok (.iload_n 1, 1) := by decide +kernel
theorem dX3_copy_1 : decode cX3_copy 1 = .ok (.invokestatic 193, 3) := by decide +kernel
theorem dX3_copy_4 : decode cX3_copy 4 = .ok (.ifCond .eq 10, 3) := by decide +kernel
theorem dX3_copy_7 : decode cX3_copy 7 = .ok (.iload_n 3, 1) := by decide +kernel
theorem dX3_copy_8 : decode cX3_copy 8 = .ok (.invokestatic 193, 3) := by decide +kernel
theorem dX3_copy_11 : decode cX3_copy 11 = .ok (.ifCond .ne 10, 3) := by decide +kernel
theorem dX3_copy_14 : decode cX3_copy 14 = .ok (.aload_n 0, 1) := by decide +kernel
theorem dX3_copy_15 : decode cX3_copy 15 = .ok (.ldc 55, 2) := by decide +kernel
theorem dX3_copy_17 : decode cX3_copy 17 = .ok (.invokevirtual 56, 3) := by decide +kernel
theorem dX3_copy_20 : decode cX3_copy 20 = .ok (.ireturn, 1) := by decide +kernel
theorem dX3_copy_21 : decode cX3_copy 21 = .ok (.aload_n 0, 1) := by decide +kernel
theorem dX3_copy_22 : decode cX3_copy 22 = .ok (.getfield 31, 3) := by decide +kernel
theorem dX3_copy_25 : decode cX3_copy 25 = .ok (.iload_n 1, 1) := by decide +kernel
theorem dX3_copy_26 : decode cX3_copy 26 = .ok (.aaload, 1) := by decide +kernel
theorem dX3_copy_27 : decode cX3_copy 27 = .ok (.astore 6, 2) := by decide +kernel
theorem dX3_copy_29 : decode cX3_copy 29 = .ok (.aload_n 0, 1) := by decide +kernel
theorem dX3_copy_30 : decode cX3_copy 30 = .ok (.getfield 31, 3) := by decide +kernel
theorem dX3_copy_33 : decode cX3_copy 33 = .ok (.iload_n 3, 1) := by decide +kernel
theorem dX3_copy_34 : decode cX3_copy 34 = .ok (.aaload, 1) := by decide +kernel
theorem dX3_copy_35 : decode cX3_copy 35 = .ok (.astore 7, 2) := by decide +kernel
theorem dX3_copy_37 : decode cX3_copy 37 = .ok (.aload 6, 2) := by decide +kernel
theorem dX3_copy_39 : decode cX3_copy 39 = .ok (.getfield 215, 3) := by decide +kernel
theorem dX3_copy_42 : decode cX3_copy 42 = .ok (.ifCond .eq 11, 3) := by decide +kernel
theorem dX3_copy_45 : decode cX3_copy 45 = .ok (.aload 7, 2) := by decide +kernel
theorem dX3_copy_47 : decode cX3_copy 47 = .ok (.getfield 215, 3) := by decide +kernel
theorem dX3_copy_50 : decode cX3_copy 50 = .ok (.ifCond .ne 10, 3) := by decide +kernel
theorem dX3_copy_53 : decode cX3_copy 53 = .ok (.aload_n 0, 1) := by decide +kernel
theorem dX3_copy_54 : decode cX3_copy 54 = .ok (.ldc 218, 2) := by decide +kernel
theorem dX3_copy_56 : decode cX3_copy 56 = .ok (.invokevirtual 56, 3) := by decide +kernel
theorem dX3_copy_59 : decode cX3_copy 59 = .ok (.ireturn, 1) := by decide +kernel
theorem dX3_copy_60 : decode cX3_copy 60 = .ok (.aload 6, 2) := by decide +kernel
theorem dX3_copy_62 : decode cX3_copy 62 = .ok (.getfield 215, 3) := by decide +kernel
theorem dX3_copy_65 : decode cX3_copy 65 = .ok (.aload 7, 2) := by decide +kernel
theorem dX3_copy_67 : decode cX3_copy 67 = .ok (.getfield 215, 3) := by decide +kernel
theorem dX3_copy_70 : decode cX3_copy 70 = .ok (.if_icmp .eq 10, 3) := by decide +kernel
theorem dX3_copy_73 : decode cX3_copy 73 = .ok (.aload_n 0, 1) := by decide +kernel
theorem dX3_copy_74 : decode cX3_copy 74 = .ok (.ldc 114, 2) := by decide +kernel
theorem dX3_copy_76 : decode cX3_copy 76 = .ok (.invokevirtual 56, 3) := by decide +kernel
theorem dX3_copy_79 : decode cX3_copy 79 = .ok (.ireturn, 1) := by decide +kernel
theorem dX3_copy_80 : decode cX3_copy 80 = .ok (.aload 6, 2) := by decide +kernel
theorem dX3_copy_82 : decode cX3_copy 82 = .ok (.iload_n 2, 1) := by decide +kernel
theorem dX3_copy_83 : decode cX3_copy 83 = .ok (.iload 5, 2) := by decide +kernel
theorem dX3_copy_85 : decode cX3_copy 85 = .ok (.invokevirtual 219, 3) := by decide +kernel
theorem dX3_copy_88 : decode cX3_copy 88 = .ok (.ifCond .eq 15, 3) := by decide +kernel
theorem dX3_copy_91 : decode cX3_copy 91 = .ok (.aload 7, 2) := by decide +kernel
theorem dX3_copy_93 : decode cX3_copy 93 = .ok (.iload 4, 2) := by decide +kernel
theorem dX3_copy_95 : decode cX3_copy 95 = .ok (.iload 5, 2) := by decide +kernel
theorem dX3_copy_97 : decode cX3_copy 97 = .ok (.invokevirtual 219, 3) := by decide +kernel
theorem dX3_copy_100 : decode cX3_copy 100 = .ok (.ifCond .ne 10, 3) := by decide +kernel
theorem dX3_copy_103 : decode cX3_copy 103 = .ok (.aload_n 0, 1) := by decide +kernel
theorem dX3_copy_104 : decode cX3_copy 104 = .ok (.ldc 55, 2) := by decide +kernel
theorem dX3_copy_106 : decode cX3_copy 106 = .ok (.invokevirtual 56, 3) := by decide +kernel
theorem dX3_copy_109 : decode cX3_copy 109 = .ok (.ireturn, 1) := by decide +kernel
theorem dX3_copy_110 : decode cX3_copy 110 = .ok (.aload 6, 2) := by decide +kernel
theorem dX3_copy_112 : decode cX3_copy 112 = .ok (.getfield 207, 3) := by decide +kernel
theorem dX3_copy_115 : decode cX3_copy 115 = .ok (.iload_n 2, 1) := by decide +kernel
theorem dX3_copy_116 : decode cX3_copy 116 = .ok (.aload 7, 2) := by decide +kernel
theorem dX3_copy_118 : decode cX3_copy 118 = .ok (.getfield 207, 3) := by decide +kernel
theorem dX3_copy_121 : decode cX3_copy 121 = .ok (.iload 4, 2) := by decide +kernel
theorem dX3_copy_123 : decode cX3_copy 123 = .ok (.iload 5, 2) := by decide +kernel
theorem dX3_copy_125 : decode cX3_copy 125 = .ok (.invokestatic 222, 3) := by decide +kernel
theorem dX3_copy_128 : decode cX3_copy 128 = .ok (.iload 5, 2) := by decide +kernel
theorem dX3_copy_130 : decode cX3_copy 130 = .ok (.ireturn, 1) := by decide +kernel
theorem dX3_lays_0 : decode cX3_lays 0 = .ok (.aload_n 0, 1) := by decide +kernel
theorem dX3_lays_1 : decode cX3_lays 1 = .ok (.iload_n 1, 1) := by decide +kernel
theorem dX3_lays_2 : decode cX3_lays 2 = .ok (.invokevirtual 204, 3) := by decide +kernel
theorem dX3_lays_5 : decode cX3_lays 5 = .ok (.istore_n 2, 1) := by decide +kernel
theorem dX3_lays_6 : decode cX3_lays 6 = .ok (.iload_n 2, 1) := by decide +kernel
theorem dX3_lays_7 : decode cX3_lays 7 = .ok (.ifCond .eq 9, 3) := by decide +kernel
theorem dX3_lays_10 : decode cX3_lays 10 = .ok (.aload_n 0, 1) := by decide +kernel
theorem dX3_lays_11 : decode cX3_lays 11 = .ok (.iload_n 2, 1) := by decide +kernel
theorem dX3_lays_12 : decode cX3_lays 12 = .ok (.invokevirtual 56, 3) := by decide +kernel
theorem dX3_lays_15 : decode cX3_lays 15 = .ok (.ireturn, 1) := by decide +kernel
theorem dX3_lays_16 : decode cX3_lays 16 = .ok (.aload_n 0, 1) := by decide +kernel
theorem dX3_lays_17 : decode cX3_lays 17 = .ok (.getfield 31, 3) := by decide +kernel
theorem dX3_lays_20 : decode cX3_lays 20 = .ok (.iload_n 1, 1) := by decide +kernel
theorem dX3_lays_21 : decode cX3_lays 21 = .ok (.aaload, 1) := by decide +kernel
theorem dX3_lays_22 : decode cX3_lays 22 = .ok (.astore_n 3, 1) := by decide +kernel
theorem dX3_lays_23 : decode cX3_lays 23 = .ok (.iconst 0, 1) := by decide +kernel
theorem dX3_lays_24 : decode cX3_lays 24 = .ok (.istore 4, 2) := by decide +kernel
theorem dX3_lays_26 : decode cX3_lays 26 = .ok (.iconst 0, 1) := by decide +kernel
theorem dX3_lays_27 : decode cX3_lays 27 = .ok (.istore 5, 2) := by decide +kernel
theorem dX3_lays_29 : decode cX3_lays 29 = .ok (.iload 5, 2) := by decide +kernel
theorem dX3_lays_31 : decode cX3_lays 31 = .ok (.aload_n 3, 1) := by decide +kernel
theorem dX3_lays_32 : decode cX3_lays 32 = .ok (.getfield 201, 3) := by decide +kernel
theorem dX3_lays_35 : decode cX3_lays 35 = .ok (.if_icmp .ge 62, 3) := by decide +kernel
theorem dX3_lays_38 : decode cX3_lays 38 = .ok (.iload 5, 2) := by decide +kernel
theorem dX3_lays_40 : decode cX3_lays 40 = .ok (.aload_n 0, 1) := by decide +kernel
theorem dX3_lays_41 : decode cX3_lays 41 = .ok (.getfield 10, 3) := by decide +kernel
theorem dX3_lays_44 : decode cX3_lays 44 = .ok (.getfield 67, 3) := by decide +kernel
theorem dX3_lays_47 : decode cX3_lays 47 = .ok (.if_icmp .ge 50, 3) := by decide +kernel
theorem dX3_lays_50 : decode cX3_lays 50 = .ok (.aload_n 3, 1) := by decide +kernel
theorem dX3_lays_51 : decode cX3_lays 51 = .ok (.getfield 207, 3) := by decide +kernel
theorem dX3_lays_54 : decode cX3_lays 54 = .ok (.iload 5, 2) := by decide +kernel
theorem dX3_lays_56 : decode cX3_lays 56 = .ok (.laload, 1) := by decide +kernel
theorem dX3_lays_57 : decode cX3_lays 57 = .ok (.lstore 6, 2) := by decide +kernel
theorem dX3_lays_59 : decode cX3_lays 59 = .ok (.lload 6, 2) := by decide +kernel
theorem dX3_lays_61 : decode cX3_lays 61 = .ok (.lconst 0, 1) := by decide +kernel
theorem dX3_lays_62 : decode cX3_lays 62 = .ok (.lcmp, 1) := by decide +kernel
theorem dX3_lays_63 : decode cX3_lays 63 = .ok (.ifCond .lt 28, 3) := by decide +kernel
theorem dX3_lays_66 : decode cX3_lays 66 = .ok (.lload 6, 2) := by decide +kernel
theorem dX3_lays_68 : decode cX3_lays 68 = .ok (.ldc2_w 228, 3) := by decide +kernel
theorem dX3_lays_71 : decode cX3_lays 71 = .ok (.lcmp, 1) := by decide +kernel
theorem dX3_lays_72 : decode cX3_lays 72 = .ok (.ifCond .ge 19, 3) := by decide +kernel
theorem dX3_lays_75 : decode cX3_lays 75 = .ok (.aload_n 0, 1) := by decide +kernel
theorem dX3_lays_76 : decode cX3_lays 76 = .ok (.getfield 10, 3) := by decide +kernel
theorem dX3_lays_79 : decode cX3_lays 79 = .ok (.getfield 81, 3) := by decide +kernel
theorem dX3_lays_82 : decode cX3_lays 82 = .ok (.iload 5, 2) := by decide +kernel
theorem dX3_lays_84 : decode cX3_lays 84 = .ok (.lload 6, 2) := by decide +kernel
theorem dX3_lays_86 : decode cX3_lays 86 = .ok (.l2i, 1) := by decide +kernel
theorem dX3_lays_87 : decode cX3_lays 87 = .ok (.iastore, 1) := by decide +kernel
theorem dX3_lays_88 : decode cX3_lays 88 = .ok (.iinc 4 1, 3) := by decide +kernel
theorem dX3_lays_91 : decode cX3_lays 91 = .ok (.iinc 5 1, 3) := by decide +kernel
theorem dX3_lays_94 : decode cX3_lays 94 = .ok (.goto (-65), 3) := by decide +kernel
theorem dX3_lays_97 : decode cX3_lays 97 = .ok (.iload 4, 2) := by decide +kernel
theorem dX3_lays_99 : decode cX3_lays 99 = .ok (.ireturn, 1) := by decide +kernel
theorem dX3_book_0 : decode cX3_book 0 = .ok (.aload_n 0, 1) := by decide +kernel
theorem dX3_book_1 : decode cX3_book 1 = .ok (.iload_n 1, 1) := by decide +kernel
theorem dX3_book_2 : decode cX3_book 2 = .ok (.iload_n 2, 1) := by decide +kernel
theorem dX3_book_3 : decode cX3_book 3 = .ok (.iload_n 3, 1) := by decide +kernel
theorem dX3_book_4 : decode cX3_book 4 = .ok (.iload 4, 2) := by decide +kernel
theorem dX3_book_6 : decode cX3_book 6 = .ok (.invokevirtual 230, 3) := by decide +kernel
theorem dX3_book_9 : decode cX3_book 9 = .ok (.istore 5, 2) := by decide +kernel
theorem dX3_book_11 : decode cX3_book 11 = .ok (.iload 5, 2) := by decide +kernel
theorem dX3_book_13 : decode cX3_book 13 = .ok (.ifCond .eq 10, 3) := by decide +kernel
theorem dX3_book_16 : decode cX3_book 16 = .ok (.aload_n 0, 1) := by decide +kernel
theorem dX3_book_17 : decode cX3_book 17 = .ok (.iload 5, 2) := by decide +kernel
theorem dX3_book_19 : decode cX3_book 19 = .ok (.invokevirtual 56, 3) := by decide +kernel
theorem dX3_book_22 : decode cX3_book 22 = .ok (.ireturn, 1) := by decide +kernel
theorem dX3_book_23 : decode cX3_book 23 = .ok (.aload_n 0, 1) := by decide +kernel
theorem dX3_book_24 : decode cX3_book 24 = .ok (.getfield 31, 3) := by decide +kernel
theorem dX3_book_27 : decode cX3_book 27 = .ok (.iload_n 1, 1) := by decide +kernel
theorem dX3_book_28 : decode cX3_book 28 = .ok (.aaload, 1) := by decide +kernel
theorem dX3_book_29 : decode cX3_book 29 = .ok (.astore 6, 2) := by decide +kernel
theorem dX3_book_31 : decode cX3_book 31 = .ok (.aload_n 0, 1) := by decide +kernel
theorem dX3_book_32 : decode cX3_book 32 = .ok (.getfield 19, 3) := by decide +kernel
theorem dX3_book_35 : decode cX3_book 35 = .ok (.aload_n 0, 1) := by decide +kernel
theorem dX3_book_36 : decode cX3_book 36 = .ok (.getfield 10, 3) := by decide +kernel
theorem dX3_book_39 : decode cX3_book 39 = .ok (.invokevirtual 154, 3) := by decide +kernel
theorem dX3_book_42 : decode cX3_book 42 = .ok (.iconst 0, 1) := by decide +kernel
theorem dX3_book_43 : decode cX3_book 43 = .ok (.istore 7, 2) := by decide +kernel
theorem dX3_book_45 : decode cX3_book 45 = .ok (.iload 7, 2) := by decide +kernel
theorem dX3_book_47 : decode cX3_book 47 = .ok (.aload 6, 2) := by decide +kernel
theorem dX3_book_49 : decode cX3_book 49 = .ok (.getfield 201, 3) := by decide +kernel
theorem dX3_book_52 : decode cX3_book 52 = .ok (.if_icmp .ge 37, 3) := by decide +kernel
theorem dX3_book_55 : decode cX3_book 55 = .ok (.aload 6, 2) := by decide +kernel
theorem dX3_book_57 : decode cX3_book 57 = .ok (.iload 7, 2) := by decide +kernel
theorem dX3_book_59 : decode cX3_book 59 = .ok (.aload_n 0, 1) := by decide +kernel
theorem dX3_book_60 : decode cX3_book 60 = .ok (.getfield 19, 3) := by decide +kernel
theorem dX3_book_63 : decode cX3_book 63 = .ok (.iload_n 2, 1) := by decide +kernel
theorem dX3_book_64 : decode cX3_book 64 = .ok (.iload_n 3, 1) := by decide +kernel
theorem dX3_book_65 : decode cX3_book 65 = .ok (.iload 4, 2) := by decide +kernel
theorem dX3_book_67 : decode cX3_book 67 = .ok (.invokevirtual 126, 3) := by decide +kernel
theorem dX3_book_70 : decode cX3_book 70 = .ok (.i2l, 1) := by decide +kernel
theorem dX3_book_71 : decode cX3_book 71 = .ok (.invokevirtual 211, 3) := by decide +kernel
theorem dX3_book_74 : decode cX3_book 74 = .ok (.aload_n 0, 1) := by decide +kernel
theorem dX3_book_75 : decode cX3_book 75 = .ok (.getfield 19, 3) := by decide +kernel
theorem dX3_book_78 : decode cX3_book 78 = .ok (.iload 4, 2) := by decide +kernel
theorem dX3_book_80 : decode cX3_book 80 = .ok (.invokevirtual 158, 3) := by decide +kernel
theorem dX3_book_83 : decode cX3_book 83 = .ok (.iinc 7 1, 3) := by decide +kernel
theorem dX3_book_86 : decode cX3_book 86 = .ok (.goto (-41), 3) := by decide +kernel
theorem dX3_book_89 : decode cX3_book 89 = .ok (.aload 6, 2) := by decide +kernel
theorem dX3_book_91 : decode cX3_book 91 = .ok (.getfield 201, 3) := by decide +kernel
theorem dX3_book_94 : decode cX3_book 94 = .ok (.ireturn, 1) := by decide +kernel
theorem dX3_read_0 : decode cX3_read 0 = .ok (.aload_n 0, 1) := by decide +kernel
theorem dX3_read_1 : decode cX3_read 1 = .ok (.iload_n 1, 1) := by decide +kernel
theorem dX3_read_2 : decode cX3_read 2 = .ok (.iload_n 2, 1) := by decide +kernel
theorem dX3_read_3 : decode cX3_read 3 = .ok (.iload_n 3, 1) := by decide +kernel
theorem dX3_read_4 : decode cX3_read 4 = .ok (.iload 4, 2) := by decide +kernel
theorem dX3_read_6 : decode cX3_read 6 = .ok (.invokevirtual 230, 3) := by decide +kernel
theorem dX3_read_9 : decode cX3_read 9 = .ok (.istore 5, 2) := by decide +kernel
theorem dX3_read_11 : decode cX3_read 11 = .ok (.iload 5, 2) := by decide +kernel
theorem dX3_read_13 : decode cX3_read 13 = .ok (.ifCond .eq 10, 3) := by decide +kernel
theorem dX3_read_16 : decode cX3_read 16 = .ok (.aload_n 0, 1) := by decide +kernel
theorem dX3_read_17 : decode cX3_read 17 = .ok (.iload 5, 2) := by decide +kernel
theorem dX3_read_19 : decode cX3_read 19 = .ok (.invokevirtual 56, 3) := by decide +kernel
theorem dX3_read_22 : decode cX3_read 22 = .ok (.ireturn, 1) := by decide +kernel
theorem dX3_read_23 : decode cX3_read 23 = .ok (.iconst 0, 1) := by decide +kernel
theorem dX3_read_24 : decode cX3_read 24 = .ok (.istore 6, 2) := by decide +kernel
theorem dX3_read_26 : decode cX3_read 26 = .ok (.iconst 0, 1) := by decide +kernel
theorem dX3_read_27 : decode cX3_read 27 = .ok (.istore 7, 2) := by decide +kernel
theorem dX3_read_29 : decode cX3_read 29 = .ok (.iload 7, 2) := by decide +kernel
theorem dX3_read_31 : decode cX3_read 31 = .ok (.bipush 99, 2) := by decide +kernel
theorem dX3_read_33 : decode cX3_read 33 = .ok (.if_icmp .gt 54, 3) := by decide +kernel
theorem dX3_read_36 : decode cX3_read 36 = .ok (.aload_n 0, 1) := by decide +kernel
theorem dX3_read_37 : decode cX3_read 37 = .ok (.getfield 19, 3) := by decide +kernel
theorem dX3_read_40 : decode cX3_read 40 = .ok (.aload_n 0, 1) := by decide +kernel
theorem dX3_read_41 : decode cX3_read 41 = .ok (.getfield 10, 3) := by decide +kernel
theorem dX3_read_44 : decode cX3_read 44 = .ok (.invokevirtual 154, 3) := by decide +kernel
theorem dX3_read_47 : decode cX3_read 47 = .ok (.aload_n 0, 1) := by decide +kernel
theorem dX3_read_48 : decode cX3_read 48 = .ok (.getfield 19, 3) := by decide +kernel
theorem dX3_read_51 : decode cX3_read 51 = .ok (.getfield 103, 3) := by decide +kernel
theorem dX3_read_54 : decode cX3_read 54 = .ok (.iload 4, 2) := by decide +kernel
theorem dX3_read_56 : decode cX3_read 56 = .ok (.aaload, 1) := by decide +kernel
theorem dX3_read_57 : decode cX3_read 57 = .ok (.iload_n 3, 1) := by decide +kernel
theorem dX3_read_58 : decode cX3_read 58 = .ok (.iload 7, 2) := by decide +kernel
theorem dX3_read_60 : decode cX3_read 60 = .ok (.iastore, 1) := by decide +kernel
theorem dX3_read_61 : decode cX3_read 61 = .ok (.aload_n 0, 1) := by decide +kernel
theorem dX3_read_62 : decode cX3_read 62 = .ok (.aload_n 0, 1) := by decide +kernel
theorem dX3_read_63 : decode cX3_read 63 = .ok (.getfield 31, 3) := by decide +kernel
theorem dX3_read_66 : decode cX3_read 66 = .ok (.iload_n 1, 1) := by decide +kernel
theorem dX3_read_67 : decode cX3_read 67 = .ok (.aaload, 1) := by decide +kernel
theorem dX3_read_68 : decode cX3_read 68 = .ok (.iload_n 2, 1) := by decide +kernel
theorem dX3_read_69 : decode cX3_read 69 = .ok (.iload_n 3, 1) := by decide +kernel
theorem dX3_read_70 : decode cX3_read 70 = .ok (.iload 4, 2) := by decide +kernel
theorem dX3_read_72 : decode cX3_read 72 = .ok (.invokevirtual 234, 3) := by decide +kernel
theorem dX3_read_75 : decode cX3_read 75 = .ok (.ifCond .eq 6, 3) := by decide +kernel
theorem dX3_read_78 : decode cX3_read 78 = .ok (.iinc 6 1, 3) := by decide +kernel
theorem dX3_read_81 : decode cX3_read 81 = .ok (.iinc 7 1, 3) := by decide +kernel
theorem dX3_read_84 : decode cX3_read 84 = .ok (.goto (-55), 3) := by decide +kernel
theorem dX3_read_87 : decode cX3_read 87 = .ok (.iload 6, 2) := by decide +kernel
theorem dX3_read_89 : decode cX3_read 89 = .ok (.ireturn, 1) := by decide +kernel
theorem dX3_image_0 : decode cX3_image 0 = .ok (.aload_n 0, 1) := by decide +kernel
theorem dX3_image_1 : decode cX3_image 1 = .ok (.getfield 16, 3) := by decide +kernel
theorem dX3_image_4 : decode cX3_image 4 = .ok (.aload_n 0, 1) := by decide +kernel
theorem dX3_image_5 : decode cX3_image 5 = .ok (.getfield 10, 3) := by decide +kernel
theorem dX3_image_8 : decode cX3_image 8 = .ok (.invokevirtual 154, 3) := by decide +kernel
theorem dX3_image_11 : decode cX3_image 11 = .ok (.aload_n 0, 1) := by decide +kernel
theorem dX3_image_12 : decode cX3_image 12 = .ok (.iconst 1, 1) := by decide +kernel
theorem dX3_image_13 : decode cX3_image 13 = .ok (.putfield 40, 3) := by decide +kernel
theorem dX3_image_16 : decode cX3_image 16 = .ok (.iconst 1, 1) := by decide +kernel
theorem dX3_image_17 : decode cX3_image 17 = .ok (.ireturn, 1) := by decide +kernel
theorem dX3_undo_0 : decode cX3_undo 0 = .ok (.aload_n 0, 1) := by decide +kernel
theorem dX3_undo_1 : decode cX3_undo 1 = .ok (.getfield 40, 3) := by decide +kernel
theorem dX3_undo_4 : decode cX3_undo 4 = .ok (.ifCond .ne 10, 3) := by decide +kernel
theorem dX3_undo_7 : decode cX3_undo 7 = .ok (.aload_n 0, 1) := by decide +kernel
theorem dX3_undo_8 : decode cX3_undo 8 = .ok (.ldc 130, 2) := by decide +kernel
theorem dX3_undo_10 : decode cX3_undo 10 = .ok (.invokevirtual 56, 3) := by decide +kernel
theorem dX3_undo_13 : decode cX3_undo 13 = .ok (.ireturn, 1) := by decide +kernel
theorem dX3_undo_14 : decode cX3_undo 14 = .ok (.aload_n 0, 1) := by decide +kernel
theorem dX3_undo_15 : decode cX3_undo 15 = .ok (.getfield 10, 3) := by decide +kernel
theorem dX3_undo_18 : decode cX3_undo 18 = .ok (.aload_n 0, 1) := by decide +kernel
theorem dX3_undo_19 : decode cX3_undo 19 = .ok (.getfield 16, 3) := by decide +kernel
theorem dX3_undo_22 : decode cX3_undo 22 = .ok (.invokevirtual 154, 3) := by decide +kernel
theorem dX3_undo_25 : decode cX3_undo 25 = .ok (.aload_n 0, 1) := by decide +kernel
theorem dX3_undo_26 : decode cX3_undo 26 = .ok (.getfield 10, 3) := by decide +kernel
theorem dX3_undo_29 : decode cX3_undo 29 = .ok (.getfield 67, 3) := by decide +kernel
theorem dX3_undo_32 : decode cX3_undo 32 = .ok (.ireturn, 1) := by decide +kernel
theorem dX3_tear_0 : decode cX3_tear 0 = .ok (.aload_n 0, 1) := by decide +kernel
theorem dX3_tear_1 : decode cX3_tear 1 = .ok (.getfield 40, 3) := by decide +kernel
theorem dX3_tear_4 : decode cX3_tear 4 = .ok (.ifCond .eq 7, 3) := by decide +kernel
theorem dX3_tear_7 : decode cX3_tear 7 = .ok (.iconst 1, 1) := by decide +kernel
theorem dX3_tear_8 : decode cX3_tear 8 = .ok (.goto 4, 3) := by decide +kernel
theorem dX3_tear_11 : decode cX3_tear 11 = .ok (.iconst 0, 1) := by decide +kernel
theorem dX3_tear_12 : decode cX3_tear 12 = .ok (.istore_n 1, 1) := by decide +kernel
theorem dX3_tear_13 : decode cX3_tear 13 = .ok (.aload_n 0, 1) := by decide +kernel
theorem dX3_tear_14 : decode cX3_tear 14 = .ok (.iconst 0, 1) := by decide +kernel
theorem dX3_tear_15 : decode cX3_tear 15 = .ok (.putfield 40, 3) := by decide +kernel
theorem dX3_tear_18 : decode cX3_tear 18 = .ok (.iload_n 1, 1) := by decide +kernel
theorem dX3_tear_19 : decode cX3_tear 19 = .ok (.ireturn, 1) := by decide +kernel
theorem dX3_count_0 : decode cX3_count 0 = .ok (.iload_n 1, 1) := by decide +kernel
theorem dX3_count_1 : decode cX3_count 1 = .ok (.tableswitch 77 0 3 #[31, 39, 47, 62], 31) := by decide +kernel
theorem dX3_count_32 : decode cX3_count 32 = .ok (.aload_n 0, 1) := by decide +kernel
theorem dX3_count_33 : decode cX3_count 33 = .ok (.getfield 10, 3) := by decide +kernel
theorem dX3_count_36 : decode cX3_count 36 = .ok (.getfield 67, 3) := by decide +kernel
theorem dX3_count_39 : decode cX3_count 39 = .ok (.ireturn, 1) := by decide +kernel
theorem dX3_count_40 : decode cX3_count 40 = .ok (.aload_n 0, 1) := by decide +kernel
theorem dX3_count_41 : decode cX3_count 41 = .ok (.getfield 25, 3) := by decide +kernel
theorem dX3_count_44 : decode cX3_count 44 = .ok (.getfield 183, 3) := by decide +kernel
theorem dX3_count_47 : decode cX3_count 47 = .ok (.ireturn, 1) := by decide +kernel
theorem dX3_count_48 : decode cX3_count 48 = .ok (.aload_n 0, 1) := by decide +kernel
theorem dX3_count_49 : decode cX3_count 49 = .ok (.getfield 10, 3) := by decide +kernel
theorem dX3_count_52 : decode cX3_count 52 = .ok (.aload_n 0, 1) := by decide +kernel
theorem dX3_count_53 : decode cX3_count 53 = .ok (.getfield 10, 3) := by decide +kernel
theorem dX3_count_56 : decode cX3_count 56 = .ok (.getfield 87, 3) := by decide +kernel
theorem dX3_count_59 : decode cX3_count 59 = .ok (.invokevirtual 238, 3) := by decide +kernel
theorem dX3_count_62 : decode cX3_count 62 = .ok (.ireturn, 1) := by decide +kernel
theorem dX3_count_63 : decode cX3_count 63 = .ok (.aload_n 0, 1) := by decide +kernel
theorem dX3_count_64 : decode cX3_count 64 = .ok (.getfield 10, 3) := by decide +kernel
theorem dX3_count_67 : decode cX3_count 67 = .ok (.aload_n 0, 1) := by decide +kernel
theorem dX3_count_68 : decode cX3_count 68 = .ok (.getfield 10, 3) := by decide +kernel
theorem dX3_count_71 : decode cX3_count 71 = .ok (.getfield 84, 3) := by decide +kernel
theorem dX3_count_74 : decode cX3_count 74 = .ok (.invokevirtual 238, 3) := by decide +kernel
theorem dX3_count_77 : decode cX3_count 77 = .ok (.ireturn, 1) := by decide +kernel
theorem dX3_count_78 : decode cX3_count 78 = .ok (.aload_n 0, 1) := by decide +kernel
theorem dX3_count_79 : decode cX3_count 79 = .ok (.ldc 55, 2) := by decide +kernel
theorem dX3_count_81 : decode cX3_count 81 = .ok (.invokevirtual 56, 3) := by decide +kernel
theorem dX3_count_84 : decode cX3_count 84 = .ok (.ireturn, 1) := by decide +kernel
theorem dX3_status_0 : decode cX3_status 0 = .ok (.iload_n 1, 1) := by decide +kernel
theorem dX3_status_1 : decode cX3_status 1 = .ok (.iconst 0, 1) := by decide +kernel
theorem dX3_status_2 : decode cX3_status 2 = .ok (.bipush 6, 2) := by decide +kernel
theorem dX3_status_4 : decode cX3_status 4 = .ok (.invokestatic 44, 3) := by decide +kernel
theorem dX3_status_7 : decode cX3_status 7 = .ok (.ifCond .eq 10, 3) := by decide +kernel
theorem dX3_status_10 : decode cX3_status 10 = .ok (.aload_n 0, 1) := by decide +kernel
theorem dX3_status_11 : decode cX3_status 11 = .ok (.getfield 36, 3) := by decide +kernel
theorem dX3_status_14 : decode cX3_status 14 = .ok (.iload_n 1, 1) := by decide +kernel
theorem dX3_status_15 : decode cX3_status 15 = .ok (.iaload, 1) := by decide +kernel
theorem dX3_status_16 : decode cX3_status 16 = .ok (.ireturn, 1) := by decide +kernel
theorem dX3_status_17 : decode cX3_status 17 = .ok (.iload_n 1, 1) := by decide +kernel
theorem dX3_status_18 : decode cX3_status 18 = .ok (.iconst (-1), 1) := by decide +kernel
theorem dX3_status_19 : decode cX3_status 19 = .ok (.if_icmp .eq 10, 3) := by decide +kernel
theorem dX3_status_22 : decode cX3_status 22 = .ok (.aload_n 0, 1) := by decide +kernel
theorem dX3_status_23 : decode cX3_status 23 = .ok (.ldc 55, 2) := by decide +kernel
theorem dX3_status_25 : decode cX3_status 25 = .ok (.invokevirtual 56, 3) := by decide +kernel
theorem dX3_status_28 : decode cX3_status 28 = .ok (.ireturn, 1) := by decide +kernel
theorem dX3_status_29 : decode cX3_status 29 = .ok (.iconst 0, 1) := by decide +kernel
theorem dX3_status_30 : decode cX3_status 30 = .ok (.istore_n 2, 1) := by decide +kernel
theorem dX3_status_31 : decode cX3_status 31 = .ok (.iconst 0, 1) := by decide +kernel
theorem dX3_status_32 : decode cX3_status 32 = .ok (.istore_n 3, 1) := by decide +kernel
theorem dX3_status_33 : decode cX3_status 33 = .ok (.iload_n 3, 1) := by decide +kernel
theorem dX3_status_34 : decode cX3_status 34 = .ok (.bipush 7, 2) := by decide +kernel
theorem dX3_status_36 : decode cX3_status 36 = .ok (.if_icmp .ge 18, 3) := by decide +kernel
theorem dX3_status_39 : decode cX3_status 39 = .ok (.iload_n 2, 1) := by decide +kernel
theorem dX3_status_40 : decode cX3_status 40 = .ok (.aload_n 0, 1) := by decide +kernel
theorem dX3_status_41 : decode cX3_status 41 = .ok (.getfield 36, 3) := by decide +kernel
theorem dX3_status_44 : decode cX3_status 44 = .ok (.iload_n 3, 1) := by decide +kernel
theorem dX3_status_45 : decode cX3_status 45 = .ok (.iaload, 1) := by decide +kernel
theorem dX3_status_46 : decode cX3_status 46 = .ok (.iadd, 1) := by decide +kernel
theorem dX3_status_47 : decode cX3_status 47 = .ok (.istore_n 2, 1) := by decide +kernel
theorem dX3_status_48 : decode cX3_status 48 = .ok (.iinc 3 1, 3) := by decide +kernel
theorem dX3_status_51 : decode cX3_status 51 = .ok (.goto (-18), 3) := by decide +kernel
theorem dX3_status_54 : decode cX3_status 54 = .ok (.iload_n 2, 1) := by decide +kernel
theorem dX3_status_55 : decode cX3_status 55 = .ok (.ireturn, 1) := by decide +kernel
theorem dX3_tell_0 : decode cX3_tell 0 = .ok (.ldc 55, 2) := by decide +kernel
theorem dX3_tell_2 : decode cX3_tell 2 = .ok (.iload_n 1, 1) := by decide +kernel
theorem dX3_tell_3 : decode cX3_tell 3 = .ok (.isub, 1) := by decide +kernel
theorem dX3_tell_4 : decode cX3_tell 4 = .ok (.istore_n 2, 1) := by decide +kernel
theorem dX3_tell_5 : decode cX3_tell 5 = .ok (.iload_n 2, 1) := by decide +kernel
theorem dX3_tell_6 : decode cX3_tell 6 = .ok (.iconst 0, 1) := by decide +kernel
theorem dX3_tell_7 : decode cX3_tell 7 = .ok (.bipush 6, 2) := by decide +kernel
theorem dX3_tell_9 : decode cX3_tell 9 = .ok (.invokestatic 44, 3) := by decide +kernel
theorem dX3_tell_12 : decode cX3_tell 12 = .ok (.ifCond .eq 13, 3) := by decide +kernel
theorem dX3_tell_15 : decode cX3_tell 15 = .ok (.aload_n 0, 1) := by decide +kernel
theorem dX3_tell_16 : decode cX3_tell 16 = .ok (.getfield 36, 3) := by decide +kernel
theorem dX3_tell_19 : decode cX3_tell 19 = .ok (.iload_n 2, 1) := by decide +kernel
theorem dX3_tell_20 : decode cX3_tell 20 = .ok (.dup2, 1) := by decide +kernel
theorem dX3_tell_21 : decode cX3_tell 21 = .ok (.iaload, 1) := by decide +kernel
theorem dX3_tell_22 : decode cX3_tell 22 = .ok (.iconst 1, 1) := by decide +kernel
theorem dX3_tell_23 : decode cX3_tell 23 = .ok (.iadd, 1) := by decide +kernel
theorem dX3_tell_24 : decode cX3_tell 24 = .ok (.iastore, 1) := by decide +kernel
theorem dX3_tell_25 : decode cX3_tell 25 = .ok (.iload_n 1, 1) := by decide +kernel
theorem dX3_tell_26 : decode cX3_tell 26 = .ok (.ireturn, 1) := by decide +kernel
theorem dX3_fewestFind_0 : decode cX3_fewestFind 0 = .ok (.aload_n 0, 1) := by decide +kernel
theorem dX3_fewestFind_1 : decode cX3_fewestFind 1 = .ok (.getfield 19, 3) := by decide +kernel
theorem dX3_fewestFind_4 : decode cX3_fewestFind 4 = .ok (.aload_n 0, 1) := by decide +kernel
theorem dX3_fewestFind_5 : decode cX3_fewestFind 5 = .ok (.getfield 10, 3) := by decide +kernel
theorem dX3_fewestFind_8 : decode cX3_fewestFind 8 = .ok (.invokevirtual 154, 3) := by decide +kernel
theorem dX3_fewestFind_11 : decode cX3_fewestFind 11 = .ok (.bipush 9, 2) := by decide +kernel
theorem dX3_fewestFind_13 : decode cX3_fewestFind 13 = .ok (.istore 4, 2) := by decide +kernel
theorem dX3_fewestFind_15 : decode cX3_fewestFind 15 = .ok (.iconst 0, 1) := by decide +kernel
theorem dX3_fewestFind_16 : decode cX3_fewestFind 16 = .ok (.istore 5, 2) := by decide +kernel
theorem dX3_fewestFind_18 : decode cX3_fewestFind 18 = .ok (.iconst 0, 1) := by decide +kernel
theorem dX3_fewestFind_19 : decode cX3_fewestFind 19 = .ok (.istore 6, 2) := by decide +kernel
theorem dX3_fewestFind_21 : decode cX3_fewestFind 21 = .ok (.iload 6, 2) := by decide +kernel
theorem dX3_fewestFind_23 : decode cX3_fewestFind 23 = .ok (.iload_n 3, 1) := by decide +kernel
theorem dX3_fewestFind_24 : decode cX3_fewestFind 24 = .ok (.if_icmp .ge 48, 3) := by decide +kernel
theorem dX3_fewestFind_27 : decode cX3_fewestFind 27 = .ok (.aload_n 0, 1) := by decide +kernel
theorem dX3_fewestFind_28 : decode cX3_fewestFind 28 = .ok (.getfield 19, 3) := by decide +kernel
theorem dX3_fewestFind_31 : decode cX3_fewestFind 31 = .ok (.iload_n 1, 1) := by decide +kernel
theorem dX3_fewestFind_32 : decode cX3_fewestFind 32 = .ok (.iload_n 2, 1) := by decide +kernel
theorem dX3_fewestFind_33 : decode cX3_fewestFind 33 = .ok (.iload 6, 2) := by decide +kernel
theorem dX3_fewestFind_35 : decode cX3_fewestFind 35 = .ok (.invokevirtual 242, 3) := by decide +kernel
theorem dX3_fewestFind_38 : decode cX3_fewestFind 38 = .ok (.aload_n 0, 1) := by decide +kernel
theorem dX3_fewestFind_39 : decode cX3_fewestFind 39 = .ok (.getfield 19, 3) := by decide +kernel
theorem dX3_fewestFind_42 : decode cX3_fewestFind 42 = .ok (.iload_n 1, 1) := by decide +kernel
theorem dX3_fewestFind_43 : decode cX3_fewestFind 43 = .ok (.invokevirtual 131, 3) := by decide +kernel
theorem dX3_fewestFind_46 : decode cX3_fewestFind 46 = .ok (.invokestatic 165, 3) := by decide +kernel
theorem dX3_fewestFind_49 : decode cX3_fewestFind 49 = .ok (.istore 7, 2) := by decide +kernel
theorem dX3_fewestFind_51 : decode cX3_fewestFind 51 = .ok (.iload 7, 2) := by decide +kernel
theorem dX3_fewestFind_53 : decode cX3_fewestFind 53 = .ok (.iload 4, 2) := by decide +kernel
theorem dX3_fewestFind_55 : decode cX3_fewestFind 55 = .ok (.if_icmp .ge 11, 3) := by decide +kernel
theorem dX3_fewestFind_58 : decode cX3_fewestFind 58 = .ok (.iload 7, 2) := by decide +kernel
theorem dX3_fewestFind_60 : decode cX3_fewestFind 60 = .ok (.istore 4, 2) := by decide +kernel
theorem dX3_fewestFind_62 : decode cX3_fewestFind 62 = .ok (.iload 6, 2) := by decide +kernel
theorem dX3_fewestFind_64 : decode cX3_fewestFind 64 = .ok (.istore 5, 2) := by decide +kernel
theorem dX3_fewestFind_66 : decode cX3_fewestFind 66 = .ok (.iinc 6 1, 3) := by decide +kernel
theorem dX3_fewestFind_69 : decode cX3_fewestFind 69 = .ok (.goto (-48), 3) := by decide +kernel
theorem dX3_fewestFind_72 : decode cX3_fewestFind 72 = .ok (.iload 5, 2) := by decide +kernel
theorem dX3_fewestFind_74 : decode cX3_fewestFind 74 = .ok (.ireturn, 1) := by decide +kernel
theorem dX3_isToldBy_0 : decode cX3_isToldBy 0 = .ok (.iconst 0, 1) := by decide +kernel
theorem dX3_isToldBy_1 : decode cX3_isToldBy 1 = .ok (.istore 5, 2) := by decide +kernel
theorem dX3_isToldBy_3 : decode cX3_isToldBy 3 = .ok (.iload 5, 2) := by decide +kernel
theorem dX3_isToldBy_5 : decode cX3_isToldBy 5 = .ok (.aload_n 1, 1) := by decide +kernel
theorem dX3_isToldBy_6 : decode cX3_isToldBy 6 = .ok (.getfield 201, 3) := by decide +kernel
theorem dX3_isToldBy_9 : decode cX3_isToldBy 9 = .ok (.if_icmp .ge 43, 3) := by decide +kernel
theorem dX3_isToldBy_12 : decode cX3_isToldBy 12 = .ok (.aload_n 1, 1) := by decide +kernel
theorem dX3_isToldBy_13 : decode cX3_isToldBy 13 = .ok (.getfield 207, 3) := by decide +kernel
theorem dX3_isToldBy_16 : decode cX3_isToldBy 16 = .ok (.iload 5, 2) := by decide +kernel
theorem dX3_isToldBy_18 : decode cX3_isToldBy 18 = .ok (.laload, 1) := by decide +kernel
theorem dX3_isToldBy_19 : decode cX3_isToldBy 19 = .ok (.aload_n 0, 1) := by decide +kernel
theorem dX3_isToldBy_20 : decode cX3_isToldBy 20 = .ok (.getfield 19, 3) := by decide +kernel
theorem dX3_isToldBy_23 : decode cX3_isToldBy 23 = .ok (.iload_n 2, 1) := by decide +kernel
theorem dX3_isToldBy_24 : decode cX3_isToldBy 24 = .ok (.iload_n 3, 1) := by decide +kernel
theorem dX3_isToldBy_25 : decode cX3_isToldBy 25 = .ok (.iload 4, 2) := by decide +kernel
theorem dX3_isToldBy_27 : decode cX3_isToldBy 27 = .ok (.invokevirtual 126, 3) := by decide +kernel
theorem dX3_isToldBy_30 : decode cX3_isToldBy 30 = .ok (.i2l, 1) := by decide +kernel
theorem dX3_isToldBy_31 : decode cX3_isToldBy 31 = .ok (.lcmp, 1) := by decide +kernel
theorem dX3_isToldBy_32 : decode cX3_isToldBy 32 = .ok (.ifCond .eq 5, 3) := by decide +kernel
theorem dX3_isToldBy_35 : decode cX3_isToldBy 35 = .ok (.iconst 0, 1) := by decide +kernel
theorem dX3_isToldBy_36 : decode cX3_isToldBy 36 = .ok (.ireturn, 1) := by decide +kernel
theorem dX3_isToldBy_37 : decode cX3_isToldBy 37 = .ok (.aload_n 0, 1) := by decide +kernel
theorem dX3_isToldBy_38 : decode cX3_isToldBy 38 = .ok (.getfield 19, 3) := by decide +kernel
theorem dX3_isToldBy_41 : decode cX3_isToldBy 41 = .ok (.iload 4, 2) := by decide +kernel
theorem dX3_isToldBy_43 : decode cX3_isToldBy 43 = .ok (.invokevirtual 158, 3) := by decide +kernel
theorem dX3_isToldBy_46 : decode cX3_isToldBy 46 = .ok (.iinc 5 1, 3) := by decide +kernel
theorem dX3_isToldBy_49 : decode cX3_isToldBy 49 = .ok (.goto (-46), 3) := by decide +kernel
theorem dX3_isToldBy_52 : decode cX3_isToldBy 52 = .ok (.iconst 1, 1) := by decide +kernel
theorem dX3_isToldBy_53 : decode cX3_isToldBy 53 = .ok (.ireturn, 1) := by decide +kernel
theorem dX3_findingOfSheet_0 : decode cX3_findingOfSheet 0 = .ok (.iload_n 1, 1) := by decide +kernel
theorem dX3_findingOfSheet_1 : decode cX3_findingOfSheet 1 = .ok (.invokestatic 193, 3) := by decide +kernel
theorem dX3_findingOfSheet_4 : decode cX3_findingOfSheet 4 = .ok (.ifCond .ne 6, 3) := by decide +kernel
theorem dX3_findingOfSheet_7 : decode cX3_findingOfSheet 7 = .ok (.ldc 55, 2) := by decide +kernel
theorem dX3_findingOfSheet_9 : decode cX3_findingOfSheet 9 = .ok (.ireturn, 1) := by decide +kernel
theorem dX3_findingOfSheet_10 : decode cX3_findingOfSheet 10 = .ok (.aload_n 0, 1) := by decide +kernel
theorem dX3_findingOfSheet_11 : decode cX3_findingOfSheet 11 = .ok (.getfield 31, 3) := by decide +kernel
theorem dX3_findingOfSheet_14 : decode cX3_findingOfSheet 14 = .ok (.iload_n 1, 1) := by decide +kernel
theorem dX3_findingOfSheet_15 : decode cX3_findingOfSheet 15 = .ok (.aaload, 1) := by decide +kernel
theorem dX3_findingOfSheet_16 : decode cX3_findingOfSheet 16 = .ok (.getfield 215, 3) := by decide +kernel
theorem dX3_findingOfSheet_19 : decode cX3_findingOfSheet 19 = .ok (.ifCond .ne 8, 3) := by decide +kernel
theorem dX3_findingOfSheet_22 : decode cX3_findingOfSheet 22 = .ok (.ldc 218, 2) := by decide +kernel
theorem dX3_findingOfSheet_24 : decode cX3_findingOfSheet 24 = .ok (.goto 4, 3) := by decide +kernel
theorem dX3_findingOfSheet_27 : decode cX3_findingOfSheet 27 = .ok (.iconst 0, 1) := by decide +kernel
theorem dX3_findingOfSheet_28 : decode cX3_findingOfSheet 28 = .ok (.ireturn, 1) := by decide +kernel
theorem dX3_findingOfBook_0 : decode cX3_findingOfBook 0 = .ok (.aload_n 0, 1) := by decide +kernel
theorem dX3_findingOfBook_1 : decode cX3_findingOfBook 1 = .ok (.iload_n 1, 1) := by decide +kernel
theorem dX3_findingOfBook_2 : decode cX3_findingOfBook 2 = .ok (.invokevirtual 204, 3) := by decide +kernel
theorem dX3_findingOfBook_5 : decode cX3_findingOfBook 5 = .ok (.istore 5, 2) := by decide +kernel
theorem dX3_findingOfBook_7 : decode cX3_findingOfBook 7 = .ok (.iload 5, 2) := by decide +kernel
theorem dX3_findingOfBook_9 : decode cX3_findingOfBook 9 = .ok (.ifCond .eq 6, 3) := by decide +kernel
theorem dX3_findingOfBook_12 : decode cX3_findingOfBook 12 = .ok (.iload 5, 2) := by decide +kernel
theorem dX3_findingOfBook_14 : decode cX3_findingOfBook 14 = .ok (.ireturn, 1) := by decide +kernel
theorem dX3_findingOfBook_15 : decode cX3_findingOfBook 15 = .ok (.aload_n 0, 1) := by decide +kernel
theorem dX3_findingOfBook_16 : decode cX3_findingOfBook 16 = .ok (.getfield 10, 3) := by decide +kernel
theorem dX3_findingOfBook_19 : decode cX3_findingOfBook 19 = .ok (.iload_n 2, 1) := by decide +kernel
theorem dX3_findingOfBook_20 : decode cX3_findingOfBook 20 = .ok (.iload_n 3, 1) := by decide +kernel
theorem dX3_findingOfBook_21 : decode cX3_findingOfBook 21 = .ok (.invokevirtual 118, 3) := by decide +kernel
theorem dX3_findingOfBook_24 : decode cX3_findingOfBook 24 = .ok (.ifCond .eq 15, 3) := by decide +kernel
theorem dX3_findingOfBook_27 : decode cX3_findingOfBook 27 = .ok (.iload 4, 2) := by decide +kernel
theorem dX3_findingOfBook_29 : decode cX3_findingOfBook 29 = .ok (.invokestatic 100, 3) := by decide +kernel
theorem dX3_findingOfBook_32 : decode cX3_findingOfBook 32 = .ok (.ifCond .eq 7, 3) := by decide +kernel
theorem dX3_findingOfBook_35 : decode cX3_findingOfBook 35 = .ok (.iconst 0, 1) := by decide +kernel
theorem dX3_findingOfBook_36 : decode cX3_findingOfBook 36 = .ok (.goto 5, 3) := by decide +kernel
theorem dX3_findingOfBook_39 : decode cX3_findingOfBook 39 = .ok (.ldc 55, 2) := by decide +kernel
theorem dX3_findingOfBook_41 : decode cX3_findingOfBook 41 = .ok (.ireturn, 1) := by decide +kernel
theorem dX3_exchange_0 : decode cX3_exchange 0 = .ok (.aload_n 0, 1) := by decide +kernel
theorem dX3_exchange_1 : decode cX3_exchange 1 = .ok (.iload_n 1, 1) := by decide +kernel
theorem dX3_exchange_2 : decode cX3_exchange 2 = .ok (.iaload, 1) := by decide +kernel
theorem dX3_exchange_3 : decode cX3_exchange 3 = .ok (.istore_n 3, 1) := by decide +kernel
theorem dX3_exchange_4 : decode cX3_exchange 4 = .ok (.aload_n 0, 1) := by decide +kernel
theorem dX3_exchange_5 : decode cX3_exchange 5 = .ok (.iload_n 1, 1) := by decide +kernel
theorem dX3_exchange_6 : decode cX3_exchange 6 = .ok (.iload_n 2, 1) := by decide +kernel
theorem dX3_exchange_7 : decode cX3_exchange 7 = .ok (.iastore, 1) := by decide +kernel
theorem dX3_exchange_8 : decode cX3_exchange 8 = .ok (.iload_n 3, 1) := by decide +kernel
theorem dX3_exchange_9 : decode cX3_exchange 9 = .ok (.ireturn, 1) := by decide +kernel
theorem dX3_within_0 : decode cX3_within 0 = .ok (.iload_n 0, 1) := by decide +kernel
theorem dX3_within_1 : decode cX3_within 1 = .ok (.iload_n 1, 1) := by decide +kernel
theorem dX3_within_2 : decode cX3_within 2 = .ok (.if_icmp .lt 12, 3) := by decide +kernel
theorem dX3_within_5 : decode cX3_within 5 = .ok (.iload_n 0, 1) := by decide +kernel
theorem dX3_within_6 : decode cX3_within 6 = .ok (.iload_n 2, 1) := by decide +kernel
theorem dX3_within_7 : decode cX3_within 7 = .ok (.if_icmp .gt 7, 3) := by decide +kernel
theorem dX3_within_10 : decode cX3_within 10 = .ok (.iconst 1, 1) := by decide +kernel
theorem dX3_within_11 : decode cX3_within 11 = .ok (.goto 4, 3) := by decide +kernel
theorem dX3_within_14 : decode cX3_within 14 = .ok (.iconst 0, 1) := by decide +kernel
theorem dX3_within_15 : decode cX3_within 15 = .ok (.ireturn, 1) := by decide +kernel
theorem dX3_isKind_0 : decode cX3_isKind 0 = .ok (.iload_n 0, 1) := by decide +kernel
theorem dX3_isKind_1 : decode cX3_isKind 1 = .ok (.iconst 0, 1) := by decide +kernel
theorem dX3_isKind_2 : decode cX3_isKind 2 = .ok (.iconst 5, 1) := by decide +kernel
theorem dX3_isKind_3 : decode cX3_isKind 3 = .ok (.invokestatic 44, 3) := by decide +kernel
theorem dX3_isKind_6 : decode cX3_isKind 6 = .ok (.ireturn, 1) := by decide +kernel
theorem dX3_isPlace_0 : decode cX3_isPlace 0 = .ok (.iload_n 0, 1) := by decide +kernel
theorem dX3_isPlace_1 : decode cX3_isPlace 1 = .ok (.iconst 0, 1) := by decide +kernel
theorem dX3_isPlace_2 : decode cX3_isPlace 2 = .ok (.bipush 47, 2) := by decide +kernel
theorem dX3_isPlace_4 : decode cX3_isPlace 4 = .ok (.invokestatic 44, 3) := by decide +kernel
theorem dX3_isPlace_7 : decode cX3_isPlace 7 = .ok (.ireturn, 1) := by decide +kernel
theorem dX3_isDeed_0 : decode cX3_isDeed 0 = .ok (.iload_n 0, 1) := by decide +kernel
theorem dX3_isDeed_1 : decode cX3_isDeed 1 = .ok (.iconst 0, 1) := by decide +kernel
theorem dX3_isDeed_2 : decode cX3_isDeed 2 = .ok (.iconst 5, 1) := by decide +kernel
theorem dX3_isDeed_3 : decode cX3_isDeed 3 = .ok (.invokestatic 44, 3) := by decide +kernel
theorem dX3_isDeed_6 : decode cX3_isDeed 6 = .ok (.ireturn, 1) := by decide +kernel
theorem dX3_isSheet_0 : decode cX3_isSheet 0 = .ok (.iload_n 0, 1) := by decide +kernel
theorem dX3_isSheet_1 : decode cX3_isSheet 1 = .ok (.iconst 0, 1) := by decide +kernel
theorem dX3_isSheet_2 : decode cX3_isSheet 2 = .ok (.iconst 3, 1) := by decide +kernel
theorem dX3_isSheet_3 : decode cX3_isSheet 3 = .ok (.invokestatic 44, 3) := by decide +kernel
theorem dX3_isSheet_6 : decode cX3_isSheet 6 = .ok (.ireturn, 1) := by decide +kernel
theorem dX3_isUnder_0 : decode cX3_isUnder 0 = .ok (.iload_n 1, 1) := by decide +kernel
theorem dX3_isUnder_1 : decode cX3_isUnder 1 = .ok (.tableswitch 65 0 3 #[31, 65, 33, 49], 31) := by decide +kernel
theorem dX3_isUnder_32 : decode cX3_isUnder 32 = .ok (.iconst 1, 1) := by decide +kernel
theorem dX3_isUnder_33 : decode cX3_isUnder 33 = .ok (.ireturn, 1) := by decide +kernel
theorem dX3_isUnder_34 : decode cX3_isUnder 34 = .ok (.iload_n 0, 1) := by decide +kernel
theorem dX3_isUnder_35 : decode cX3_isUnder 35 = .ok (.iconst 2, 1) := by decide +kernel
theorem dX3_isUnder_36 : decode cX3_isUnder 36 = .ok (.if_icmp .eq 8, 3) := by decide +kernel
theorem dX3_isUnder_39 : decode cX3_isUnder 39 = .ok (.iload_n 0, 1) := by decide +kernel
theorem dX3_isUnder_40 : decode cX3_isUnder 40 = .ok (.iconst 4, 1) := by decide +kernel
theorem dX3_isUnder_41 : decode cX3_isUnder 41 = .ok (.if_icmp .ne 7, 3) := by decide +kernel
theorem dX3_isUnder_44 : decode cX3_isUnder 44 = .ok (.iconst 1, 1) := by decide +kernel
theorem dX3_isUnder_45 : decode cX3_isUnder 45 = .ok (.goto 4, 3) := by decide +kernel
theorem dX3_isUnder_48 : decode cX3_isUnder 48 = .ok (.iconst 0, 1) := by decide +kernel
theorem dX3_isUnder_49 : decode cX3_isUnder 49 = .ok (.ireturn, 1) := by decide +kernel
theorem dX3_isUnder_50 : decode cX3_isUnder 50 = .ok (.iload_n 0, 1) := by decide +kernel
theorem dX3_isUnder_51 : decode cX3_isUnder 51 = .ok (.iconst 3, 1) := by decide +kernel
theorem dX3_isUnder_52 : decode cX3_isUnder 52 = .ok (.if_icmp .eq 8, 3) := by decide +kernel
theorem dX3_isUnder_55 : decode cX3_isUnder 55 = .ok (.iload_n 0, 1) := by decide +kernel
theorem dX3_isUnder_56 : decode cX3_isUnder 56 = .ok (.iconst 5, 1) := by decide +kernel
theorem dX3_isUnder_57 : decode cX3_isUnder 57 = .ok (.if_icmp .ne 7, 3) := by decide +kernel
theorem dX3_isUnder_60 : decode cX3_isUnder 60 = .ok (.iconst 1, 1) := by decide +kernel
theorem dX3_isUnder_61 : decode cX3_isUnder 61 = .ok (.goto 4, 3) := by decide +kernel
theorem dX3_isUnder_64 : decode cX3_isUnder 64 = .ok (.iconst 0, 1) := by decide +kernel
theorem dX3_isUnder_65 : decode cX3_isUnder 65 = .ok (.ireturn, 1) := by decide +kernel
theorem dX3_isUnder_66 : decode cX3_isUnder 66 = .ok (.iload_n 0, 1) := by decide +kernel
theorem dX3_isUnder_67 : decode cX3_isUnder 67 = .ok (.iload_n 1, 1) := by decide +kernel
theorem dX3_isUnder_68 : decode cX3_isUnder 68 = .ok (.if_icmp .ne 7, 3) := by decide +kernel
theorem dX3_isUnder_71 : decode cX3_isUnder 71 = .ok (.iconst 1, 1) := by decide +kernel
theorem dX3_isUnder_72 : decode cX3_isUnder 72 = .ok (.goto 4, 3) := by decide +kernel
theorem dX3_isUnder_75 : decode cX3_isUnder 75 = .ok (.iconst 0, 1) := by decide +kernel
theorem dX3_isUnder_76 : decode cX3_isUnder 76 = .ok (.ireturn, 1) := by decide +kernel
theorem dX3_isMajority_0 : decode cX3_isMajority 0 = .ok (.iconst 2, 1) := by decide +kernel
theorem dX3_isMajority_1 : decode cX3_isMajority 1 = .ok (.iload_n 0, 1) := by decide +kernel
theorem dX3_isMajority_2 : decode cX3_isMajority 2 = .ok (.iload_n 1, 1) := by decide +kernel
theorem dX3_isMajority_3 : decode cX3_isMajority 3 = .ok (.iand, 1) := by decide +kernel
theorem dX3_isMajority_4 : decode cX3_isMajority 4 = .ok (.invokestatic 165, 3) := by decide +kernel
theorem dX3_isMajority_7 : decode cX3_isMajority 7 = .ok (.imul, 1) := by decide +kernel
theorem dX3_isMajority_8 : decode cX3_isMajority 8 = .ok (.iload_n 0, 1) := by decide +kernel
theorem dX3_isMajority_9 : decode cX3_isMajority 9 = .ok (.invokestatic 165, 3) := by decide +kernel
theorem dX3_isMajority_12 : decode cX3_isMajority 12 = .ok (.if_icmp .le 7, 3) := by decide +kernel
theorem dX3_isMajority_15 : decode cX3_isMajority 15 = .ok (.iconst 1, 1) := by decide +kernel
theorem dX3_isMajority_16 : decode cX3_isMajority 16 = .ok (.goto 4, 3) := by decide +kernel
theorem dX3_isMajority_19 : decode cX3_isMajority 19 = .ok (.iconst 0, 1) := by decide +kernel
theorem dX3_isMajority_20 : decode cX3_isMajority 20 = .ok (.ireturn, 1) := by decide +kernel
theorem dX3_isJuryAgainst_0 : decode cX3_isJuryAgainst 0 = .ok (.iload_n 0, 1) := by decide +kernel
theorem dX3_isJuryAgainst_1 : decode cX3_isJuryAgainst 1 = .ok (.iconst 1, 1) := by decide +kernel
theorem dX3_isJuryAgainst_2 : decode cX3_isJuryAgainst 2 = .ok (.iload_n 1, 1) := by decide +kernel
theorem dX3_isJuryAgainst_3 : decode cX3_isJuryAgainst 3 = .ok (.ishl, 1) := by decide +kernel
theorem dX3_isJuryAgainst_4 : decode cX3_isJuryAgainst 4 = .ok (.iand, 1) := by decide +kernel
theorem dX3_isJuryAgainst_5 : decode cX3_isJuryAgainst 5 = .ok (.ifCond .ne 23, 3) := by decide +kernel
theorem dX3_isJuryAgainst_8 : decode cX3_isJuryAgainst 8 = .ok (.iload_n 0, 1) := by decide +kernel
theorem dX3_isJuryAgainst_9 : decode cX3_isJuryAgainst 9 = .ok (.invokestatic 165, 3) := by decide +kernel
theorem dX3_isJuryAgainst_12 : decode cX3_isJuryAgainst 12 = .ok (.iload_n 2, 1) := by decide +kernel
theorem dX3_isJuryAgainst_13 : decode cX3_isJuryAgainst 13 = .ok (.if_icmp .ne 15, 3) := by decide +kernel
theorem dX3_isJuryAgainst_16 : decode cX3_isJuryAgainst 16 = .ok (.iload_n 0, 1) := by decide +kernel
theorem dX3_isJuryAgainst_17 : decode cX3_isJuryAgainst 17 = .ok (.iload_n 3, 1) := by decide +kernel
theorem dX3_isJuryAgainst_18 : decode cX3_isJuryAgainst 18 = .ok (.invokestatic 139, 3) := by decide +kernel
theorem dX3_isJuryAgainst_21 : decode cX3_isJuryAgainst 21 = .ok (.ifCond .eq 7, 3) := by decide +kernel
theorem dX3_isJuryAgainst_24 : decode cX3_isJuryAgainst 24 = .ok (.iconst 1, 1) := by decide +kernel
theorem dX3_isJuryAgainst_25 : decode cX3_isJuryAgainst 25 = .ok (.goto 4, 3) := by decide +kernel
theorem dX3_isJuryAgainst_28 : decode cX3_isJuryAgainst 28 = .ok (.iconst 0, 1) := by decide +kernel
theorem dX3_isJuryAgainst_29 : decode cX3_isJuryAgainst 29 = .ok (.ireturn, 1) := by decide +kernel
theorem dX3_faded_0 : decode cX3_faded 0 = .ok (.iload_n 0, 1) := by decide +kernel
theorem dX3_faded_1 : decode cX3_faded 1 = .ok (.iconst 5, 1) := by decide +kernel
theorem dX3_faded_2 : decode cX3_faded 2 = .ok (.if_icmp .ne 11, 3) := by decide +kernel
theorem dX3_faded_5 : decode cX3_faded 5 = .ok (.iload_n 1, 1) := by decide +kernel
theorem dX3_faded_6 : decode cX3_faded 6 = .ok (.iload_n 1, 1) := by decide +kernel
theorem dX3_faded_7 : decode cX3_faded 7 = .ok (.iconst 2, 1) := by decide +kernel
theorem dX3_faded_8 : decode cX3_faded 8 = .ok (.idiv, 1) := by decide +kernel
theorem dX3_faded_9 : decode cX3_faded 9 = .ok (.isub, 1) := by decide +kernel
theorem dX3_faded_10 : decode cX3_faded 10 = .ok (.goto 15, 3) := by decide +kernel
theorem dX3_faded_13 : decode cX3_faded 13 = .ok (.iload_n 1, 1) := by decide +kernel
theorem dX3_faded_14 : decode cX3_faded 14 = .ok (.iload_n 1, 1) := by decide +kernel
theorem dX3_faded_15 : decode cX3_faded 15 = .ok (.bipush 10, 2) := by decide +kernel
theorem dX3_faded_17 : decode cX3_faded 17 = .ok (.idiv, 1) := by decide +kernel
theorem dX3_faded_18 : decode cX3_faded 18 = .ok (.isub, 1) := by decide +kernel
theorem dX3_faded_19 : decode cX3_faded 19 = .ok (.iconst 1, 1) := by decide +kernel
theorem dX3_faded_20 : decode cX3_faded 20 = .ok (.isub, 1) := by decide +kernel
theorem dX3_faded_21 : decode cX3_faded 21 = .ok (.iconst 0, 1) := by decide +kernel
theorem dX3_faded_22 : decode cX3_faded 22 = .ok (.invokestatic 121, 3) := by decide +kernel
theorem dX3_faded_25 : decode cX3_faded 25 = .ok (.ireturn, 1) := by decide +kernel
