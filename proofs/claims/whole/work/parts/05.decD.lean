theorem dX4_wind_12 : decode cX4_wind 12 = .ok (.invokevirtual 174, 3) := by decide +kernel
theorem dX4_wind_15 : decode cX4_wind 15 = .ok (.goto 9, 3) := by decide +kernel
theorem dX4_wind_18 : decode cX4_wind 18 = .ok (.aload_n 0, 1) := by decide +kernel
theorem dX4_wind_19 : decode cX4_wind 19 = .ok (.ldc 44, 2) := by decide +kernel
theorem dX4_wind_21 : decode cX4_wind 21 = .ok (.invokevirtual 68, 3) := by decide +kernel
theorem dX4_wind_24 : decode cX4_wind 24 = .ok (.ireturn, 1) := by decide +kernel
theorem dX4_seat_0 : decode cX4_seat 0 = .ok (.aload_n 0, 1) := by decide +kernel
theorem dX4_seat_1 : decode cX4_seat 1 = .ok (.iload_n 1, 1) := by decide +kernel
theorem dX4_seat_2 : decode cX4_seat 2 = .ok (.invokevirtual 51, 3) := by decide +kernel
theorem dX4_seat_5 : decode cX4_seat 5 = .ok (.ifCond .eq 18, 3) := by decide +kernel
theorem dX4_seat_8 : decode cX4_seat 8 = .ok (.aload_n 0, 1) := by decide +kernel
theorem dX4_seat_9 : decode cX4_seat 9 = .ok (.iload_n 1, 1) := by decide +kernel
theorem dX4_seat_10 : decode cX4_seat 10 = .ok (.iconst 1, 1) := by decide +kernel
theorem dX4_seat_11 : decode cX4_seat 11 = .ok (.invokestatic 57, 3) := by decide +kernel
theorem dX4_seat_14 : decode cX4_seat 14 = .ok (.bipush 48, 2) := by decide +kernel
theorem dX4_seat_16 : decode cX4_seat 16 = .ok (.iload_n 1, 1) := by decide +kernel
theorem dX4_seat_17 : decode cX4_seat 17 = .ok (.invokevirtual 174, 3) := by decide +kernel
theorem dX4_seat_20 : decode cX4_seat 20 = .ok (.goto 9, 3) := by decide +kernel
theorem dX4_seat_23 : decode cX4_seat 23 = .ok (.aload_n 0, 1) := by decide +kernel
theorem dX4_seat_24 : decode cX4_seat 24 = .ok (.ldc 44, 2) := by decide +kernel
theorem dX4_seat_26 : decode cX4_seat 26 = .ok (.invokevirtual 68, 3) := by decide +kernel
theorem dX4_seat_29 : decode cX4_seat 29 = .ok (.ireturn, 1) := by decide +kernel
theorem dX4_kind_0 : decode cX4_kind 0 = .ok (.aload_n 0, 1) := by decide +kernel
theorem dX4_kind_1 : decode cX4_kind 1 = .ok (.iload_n 1, 1) := by decide +kernel
theorem dX4_kind_2 : decode cX4_kind 2 = .ok (.invokevirtual 51, 3) := by decide +kernel
theorem dX4_kind_5 : decode cX4_kind 5 = .ok (.ifCond .eq 18, 3) := by decide +kernel
theorem dX4_kind_8 : decode cX4_kind 8 = .ok (.aload_n 0, 1) := by decide +kernel
theorem dX4_kind_9 : decode cX4_kind 9 = .ok (.iload_n 1, 1) := by decide +kernel
theorem dX4_kind_10 : decode cX4_kind 10 = .ok (.iconst 0, 1) := by decide +kernel
theorem dX4_kind_11 : decode cX4_kind 11 = .ok (.invokestatic 57, 3) := by decide +kernel
theorem dX4_kind_14 : decode cX4_kind 14 = .ok (.bipush 6, 2) := by decide +kernel
theorem dX4_kind_16 : decode cX4_kind 16 = .ok (.iload_n 1, 1) := by decide +kernel
theorem dX4_kind_17 : decode cX4_kind 17 = .ok (.invokevirtual 174, 3) := by decide +kernel
theorem dX4_kind_20 : decode cX4_kind 20 = .ok (.goto 9, 3) := by decide +kernel
theorem dX4_kind_23 : decode cX4_kind 23 = .ok (.aload_n 0, 1) := by decide +kernel
theorem dX4_kind_24 : decode cX4_kind 24 = .ok (.ldc 44, 2) := by decide +kernel
theorem dX4_kind_26 : decode cX4_kind 26 = .ok (.invokevirtual 68, 3) := by decide +kernel
theorem dX4_kind_29 : decode cX4_kind 29 = .ok (.ireturn, 1) := by decide +kernel
theorem dX4_bath_0 : decode cX4_bath 0 = .ok (.aload_n 0, 1) := by decide +kernel
theorem dX4_bath_1 : decode cX4_bath 1 = .ok (.iload_n 1, 1) := by decide +kernel
theorem dX4_bath_2 : decode cX4_bath 2 = .ok (.invokevirtual 51, 3) := by decide +kernel
theorem dX4_bath_5 : decode cX4_bath 5 = .ok (.ifCond .ne 10, 3) := by decide +kernel
theorem dX4_bath_8 : decode cX4_bath 8 = .ok (.aload_n 0, 1) := by decide +kernel
theorem dX4_bath_9 : decode cX4_bath 9 = .ok (.ldc 44, 2) := by decide +kernel
theorem dX4_bath_11 : decode cX4_bath 11 = .ok (.invokevirtual 68, 3) := by decide +kernel
theorem dX4_bath_14 : decode cX4_bath 14 = .ok (.ireturn, 1) := by decide +kernel
theorem dX4_bath_15 : decode cX4_bath 15 = .ok (.aload_n 0, 1) := by decide +kernel
theorem dX4_bath_16 : decode cX4_bath 16 = .ok (.invokevirtual 165, 3) := by decide +kernel
theorem dX4_bath_19 : decode cX4_bath 19 = .ok (.aload_n 0, 1) := by decide +kernel
theorem dX4_bath_20 : decode cX4_bath 20 = .ok (.invokevirtual 149, 3) := by decide +kernel
theorem dX4_bath_23 : decode cX4_bath 23 = .ok (.aload_n 0, 1) := by decide +kernel
theorem dX4_bath_24 : decode cX4_bath 24 = .ok (.aload_n 0, 1) := by decide +kernel
theorem dX4_bath_25 : decode cX4_bath 25 = .ok (.iload_n 1, 1) := by decide +kernel
theorem dX4_bath_26 : decode cX4_bath 26 = .ok (.invokevirtual 171, 3) := by decide +kernel
theorem dX4_bath_29 : decode cX4_bath 29 = .ok (.invokevirtual 168, 3) := by decide +kernel
theorem dX4_bath_32 : decode cX4_bath 32 = .ok (.istore_n 2, 1) := by decide +kernel
theorem dX4_bath_33 : decode cX4_bath 33 = .ok (.iconst (-1), 1) := by decide +kernel
theorem dX4_bath_34 : decode cX4_bath 34 = .ok (.istore_n 3, 1) := by decide +kernel
theorem dX4_bath_35 : decode cX4_bath 35 = .ok (.iconst 0, 1) := by decide +kernel
theorem dX4_bath_36 : decode cX4_bath 36 = .ok (.istore 4, 2) := by decide +kernel
theorem dX4_bath_38 : decode cX4_bath 38 = .ok (.iload 4, 2) := by decide +kernel
theorem dX4_bath_40 : decode cX4_bath 40 = .ok (.aload_n 0, 1) := by decide +kernel
theorem dX4_bath_41 : decode cX4_bath 41 = .ok (.getfield 7, 3) := by decide +kernel
theorem dX4_bath_44 : decode cX4_bath 44 = .ok (.iconst 0, 1) := by decide +kernel
theorem dX4_bath_45 : decode cX4_bath 45 = .ok (.iaload, 1) := by decide +kernel
theorem dX4_bath_46 : decode cX4_bath 46 = .ok (.if_icmp .ge 62, 3) := by decide +kernel
theorem dX4_bath_49 : decode cX4_bath 49 = .ok (.aload_n 0, 1) := by decide +kernel
theorem dX4_bath_50 : decode cX4_bath 50 = .ok (.invokevirtual 165, 3) := by decide +kernel
theorem dX4_bath_53 : decode cX4_bath 53 = .ok (.aload_n 0, 1) := by decide +kernel
theorem dX4_bath_54 : decode cX4_bath 54 = .ok (.iload 4, 2) := by decide +kernel
theorem dX4_bath_56 : decode cX4_bath 56 = .ok (.invokevirtual 104, 3) := by decide +kernel
theorem dX4_bath_59 : decode cX4_bath 59 = .ok (.istore 5, 2) := by decide +kernel
theorem dX4_bath_61 : decode cX4_bath 61 = .ok (.aload_n 0, 1) := by decide +kernel
theorem dX4_bath_62 : decode cX4_bath 62 = .ok (.invokevirtual 149, 3) := by decide +kernel
theorem dX4_bath_65 : decode cX4_bath 65 = .ok (.aload_n 0, 1) := by decide +kernel
theorem dX4_bath_66 : decode cX4_bath 66 = .ok (.aload_n 0, 1) := by decide +kernel
theorem dX4_bath_67 : decode cX4_bath 67 = .ok (.iload_n 1, 1) := by decide +kernel
theorem dX4_bath_68 : decode cX4_bath 68 = .ok (.invokevirtual 171, 3) := by decide +kernel
theorem dX4_bath_71 : decode cX4_bath 71 = .ok (.invokevirtual 168, 3) := by decide +kernel
theorem dX4_bath_74 : decode cX4_bath 74 = .ok (.istore 6, 2) := by decide +kernel
theorem dX4_bath_76 : decode cX4_bath 76 = .ok (.iload 6, 2) := by decide +kernel
theorem dX4_bath_78 : decode cX4_bath 78 = .ok (.iload_n 2, 1) := by decide +kernel
theorem dX4_bath_79 : decode cX4_bath 79 = .ok (.if_icmp .ge 8, 3) := by decide +kernel
theorem dX4_bath_82 : decode cX4_bath 82 = .ok (.iload 4, 2) := by decide +kernel
theorem dX4_bath_84 : decode cX4_bath 84 = .ok (.goto 4, 3) := by decide +kernel
theorem dX4_bath_87 : decode cX4_bath 87 = .ok (.iload_n 3, 1) := by decide +kernel
theorem dX4_bath_88 : decode cX4_bath 88 = .ok (.istore_n 3, 1) := by decide +kernel
theorem dX4_bath_89 : decode cX4_bath 89 = .ok (.iload 6, 2) := by decide +kernel
theorem dX4_bath_91 : decode cX4_bath 91 = .ok (.iload_n 2, 1) := by decide +kernel
theorem dX4_bath_92 : decode cX4_bath 92 = .ok (.if_icmp .ge 8, 3) := by decide +kernel
theorem dX4_bath_95 : decode cX4_bath 95 = .ok (.iload 6, 2) := by decide +kernel
theorem dX4_bath_97 : decode cX4_bath 97 = .ok (.goto 4, 3) := by decide +kernel
theorem dX4_bath_100 : decode cX4_bath 100 = .ok (.iload_n 2, 1) := by decide +kernel
theorem dX4_bath_101 : decode cX4_bath 101 = .ok (.istore_n 2, 1) := by decide +kernel
theorem dX4_bath_102 : decode cX4_bath 102 = .ok (.iinc 4 1, 3) := by decide +kernel
theorem dX4_bath_105 : decode cX4_bath 105 = .ok (.goto (-67), 3) := by decide +kernel
theorem dX4_bath_108 : decode cX4_bath 108 = .ok (.iload_n 3, 1) := by decide +kernel
theorem dX4_bath_109 : decode cX4_bath 109 = .ok (.ifCond .ge 12, 3) := by decide +kernel
theorem dX4_bath_112 : decode cX4_bath 112 = .ok (.aload_n 0, 1) := by decide +kernel
theorem dX4_bath_113 : decode cX4_bath 113 = .ok (.ldc 129, 2) := by decide +kernel
theorem dX4_bath_115 : decode cX4_bath 115 = .ok (.invokevirtual 68, 3) := by decide +kernel
theorem dX4_bath_118 : decode cX4_bath 118 = .ok (.goto 4, 3) := by decide +kernel
theorem dX4_bath_121 : decode cX4_bath 121 = .ok (.iload_n 3, 1) := by decide +kernel
theorem dX4_bath_122 : decode cX4_bath 122 = .ok (.ireturn, 1) := by decide +kernel
theorem dX4_due_0 : decode cX4_due 0 = .ok (.aload_n 0, 1) := by decide +kernel
theorem dX4_due_1 : decode cX4_due 1 = .ok (.iload_n 1, 1) := by decide +kernel
theorem dX4_due_2 : decode cX4_due 2 = .ok (.invokevirtual 51, 3) := by decide +kernel
theorem dX4_due_5 : decode cX4_due 5 = .ok (.ifCond .ne 10, 3) := by decide +kernel
theorem dX4_due_8 : decode cX4_due 8 = .ok (.aload_n 0, 1) := by decide +kernel
theorem dX4_due_9 : decode cX4_due 9 = .ok (.ldc 44, 2) := by decide +kernel
theorem dX4_due_11 : decode cX4_due 11 = .ok (.invokevirtual 68, 3) := by decide +kernel
theorem dX4_due_14 : decode cX4_due 14 = .ok (.ireturn, 1) := by decide +kernel
theorem dX4_due_15 : decode cX4_due 15 = .ok (.aload_n 0, 1) := by decide +kernel
theorem dX4_due_16 : decode cX4_due 16 = .ok (.getfield 7, 3) := by decide +kernel
theorem dX4_due_19 : decode cX4_due 19 = .ok (.iconst 3, 1) := by decide +kernel
theorem dX4_due_20 : decode cX4_due 20 = .ok (.iaload, 1) := by decide +kernel
theorem dX4_due_21 : decode cX4_due 21 = .ok (.istore_n 2, 1) := by decide +kernel
theorem dX4_due_22 : decode cX4_due 22 = .ok (.iconst 1, 1) := by decide +kernel
theorem dX4_due_23 : decode cX4_due 23 = .ok (.istore_n 3, 1) := by decide +kernel
theorem dX4_due_24 : decode cX4_due 24 = .ok (.aload_n 0, 1) := by decide +kernel
theorem dX4_due_25 : decode cX4_due 25 = .ok (.getfield 7, 3) := by decide +kernel
theorem dX4_due_28 : decode cX4_due 28 = .ok (.iconst 3, 1) := by decide +kernel
theorem dX4_due_29 : decode cX4_due 29 = .ok (.iconst 1, 1) := by decide +kernel
theorem dX4_due_30 : decode cX4_due 30 = .ok (.iastore, 1) := by decide +kernel
theorem dX4_due_31 : decode cX4_due 31 = .ok (.iload_n 3, 1) := by decide +kernel
theorem dX4_due_32 : decode cX4_due 32 = .ok (.bipush 99, 2) := by decide +kernel
theorem dX4_due_34 : decode cX4_due 34 = .ok (.if_icmp .gt 24, 3) := by decide +kernel
theorem dX4_due_37 : decode cX4_due 37 = .ok (.aload_n 0, 1) := by decide +kernel
theorem dX4_due_38 : decode cX4_due 38 = .ok (.iload_n 1, 1) := by decide +kernel
theorem dX4_due_39 : decode cX4_due 39 = .ok (.invokevirtual 133, 3) := by decide +kernel
theorem dX4_due_42 : decode cX4_due 42 = .ok (.ifCond .eq 16, 3) := by decide +kernel
theorem dX4_due_45 : decode cX4_due 45 = .ok (.iinc 3 1, 3) := by decide +kernel
theorem dX4_due_48 : decode cX4_due 48 = .ok (.aload_n 0, 1) := by decide +kernel
theorem dX4_due_49 : decode cX4_due 49 = .ok (.getfield 7, 3) := by decide +kernel
theorem dX4_due_52 : decode cX4_due 52 = .ok (.iconst 3, 1) := by decide +kernel
theorem dX4_due_53 : decode cX4_due 53 = .ok (.iload_n 3, 1) := by decide +kernel
theorem dX4_due_54 : decode cX4_due 54 = .ok (.iastore, 1) := by decide +kernel
theorem dX4_due_55 : decode cX4_due 55 = .ok (.goto (-24), 3) := by decide +kernel
theorem dX4_due_58 : decode cX4_due 58 = .ok (.aload_n 0, 1) := by decide +kernel
theorem dX4_due_59 : decode cX4_due 59 = .ok (.getfield 7, 3) := by decide +kernel
theorem dX4_due_62 : decode cX4_due 62 = .ok (.iconst 3, 1) := by decide +kernel
theorem dX4_due_63 : decode cX4_due 63 = .ok (.iload_n 2, 1) := by decide +kernel
theorem dX4_due_64 : decode cX4_due 64 = .ok (.iastore, 1) := by decide +kernel
theorem dX4_due_65 : decode cX4_due 65 = .ok (.iload_n 3, 1) := by decide +kernel
theorem dX4_due_66 : decode cX4_due 66 = .ok (.bipush 99, 2) := by decide +kernel
theorem dX4_due_68 : decode cX4_due 68 = .ok (.if_icmp .le 12, 3) := by decide +kernel
theorem dX4_due_71 : decode cX4_due 71 = .ok (.aload_n 0, 1) := by decide +kernel
theorem dX4_due_72 : decode cX4_due 72 = .ok (.ldc 129, 2) := by decide +kernel
theorem dX4_due_74 : decode cX4_due 74 = .ok (.invokevirtual 68, 3) := by decide +kernel
theorem dX4_due_77 : decode cX4_due 77 = .ok (.goto 4, 3) := by decide +kernel
theorem dX4_due_80 : decode cX4_due 80 = .ok (.iload_n 3, 1) := by decide +kernel
theorem dX4_due_81 : decode cX4_due 81 = .ok (.ireturn, 1) := by decide +kernel
theorem dX4_findJuries_0 : decode cX4_findJuries 0 = .ok (.aload_n 0, 1) := by decide +kernel
theorem dX4_findJuries_1 : decode cX4_findJuries 1 = .ok (.iload_n 1, 1) := by decide +kernel
theorem dX4_findJuries_2 : decode cX4_findJuries 2 = .ok (.invokevirtual 133, 3) := by decide +kernel
theorem dX4_findJuries_5 : decode cX4_findJuries 5 = .ok (.istore_n 3, 1) := by decide +kernel
theorem dX4_findJuries_6 : decode cX4_findJuries 6 = .ok (.aload_n 0, 1) := by decide +kernel
theorem dX4_findJuries_7 : decode cX4_findJuries 7 = .ok (.iconst (-1), 1) := by decide +kernel
theorem dX4_findJuries_8 : decode cX4_findJuries 8 = .ok (.putfield 177, 3) := by decide +kernel
theorem dX4_findJuries_11 : decode cX4_findJuries 11 = .ok (.aload_n 0, 1) := by decide +kernel
theorem dX4_findJuries_12 : decode cX4_findJuries 12 = .ok (.iconst 0, 1) := by decide +kernel
theorem dX4_findJuries_13 : decode cX4_findJuries 13 = .ok (.putfield 181, 3) := by decide +kernel
theorem dX4_findJuries_16 : decode cX4_findJuries 16 = .ok (.iconst 1, 1) := by decide +kernel
theorem dX4_findJuries_17 : decode cX4_findJuries 17 = .ok (.istore 4, 2) := by decide +kernel
theorem dX4_findJuries_19 : decode cX4_findJuries 19 = .ok (.iload 4, 2) := by decide +kernel
theorem dX4_findJuries_21 : decode cX4_findJuries 21 = .ok (.iconst 1, 1) := by decide +kernel
theorem dX4_findJuries_22 : decode cX4_findJuries 22 = .ok (.aload_n 0, 1) := by decide +kernel
theorem dX4_findJuries_23 : decode cX4_findJuries 23 = .ok (.getfield 7, 3) := by decide +kernel
theorem dX4_findJuries_26 : decode cX4_findJuries 26 = .ok (.iconst 0, 1) := by decide +kernel
theorem dX4_findJuries_27 : decode cX4_findJuries 27 = .ok (.iaload, 1) := by decide +kernel
theorem dX4_findJuries_28 : decode cX4_findJuries 28 = .ok (.ishl, 1) := by decide +kernel
theorem dX4_findJuries_29 : decode cX4_findJuries 29 = .ok (.if_icmp .ge 66, 3) := by decide +kernel
theorem dX4_findJuries_32 : decode cX4_findJuries 32 = .ok (.iload 4, 2) := by decide +kernel
theorem dX4_findJuries_34 : decode cX4_findJuries 34 = .ok (.iload_n 1, 1) := by decide +kernel
theorem dX4_findJuries_35 : decode cX4_findJuries 35 = .ok (.ishr, 1) := by decide +kernel
theorem dX4_findJuries_36 : decode cX4_findJuries 36 = .ok (.iconst 1, 1) := by decide +kernel
theorem dX4_findJuries_37 : decode cX4_findJuries 37 = .ok (.iand, 1) := by decide +kernel
theorem dX4_findJuries_38 : decode cX4_findJuries 38 = .ok (.ifCond .ne 51, 3) := by decide +kernel
theorem dX4_findJuries_41 : decode cX4_findJuries 41 = .ok (.iload 4, 2) := by decide +kernel
theorem dX4_findJuries_43 : decode cX4_findJuries 43 = .ok (.invokestatic 136, 3) := by decide +kernel
theorem dX4_findJuries_46 : decode cX4_findJuries 46 = .ok (.iload_n 2, 1) := by decide +kernel
theorem dX4_findJuries_47 : decode cX4_findJuries 47 = .ok (.if_icmp .ne 42, 3) := by decide +kernel
theorem dX4_findJuries_50 : decode cX4_findJuries 50 = .ok (.iload 4, 2) := by decide +kernel
theorem dX4_findJuries_52 : decode cX4_findJuries 52 = .ok (.iload_n 3, 1) := by decide +kernel
theorem dX4_findJuries_53 : decode cX4_findJuries 53 = .ok (.invokestatic 140, 3) := by decide +kernel
theorem dX4_findJuries_56 : decode cX4_findJuries 56 = .ok (.ifCond .eq 33, 3) := by decide +kernel
theorem dX4_findJuries_59 : decode cX4_findJuries 59 = .ok (.aload_n 0, 1) := by decide +kernel
theorem dX4_findJuries_60 : decode cX4_findJuries 60 = .ok (.aload_n 0, 1) := by decide +kernel
theorem dX4_findJuries_61 : decode cX4_findJuries 61 = .ok (.getfield 181, 3) := by decide +kernel
theorem dX4_findJuries_64 : decode cX4_findJuries 64 = .ok (.ifCond .ne 8, 3) := by decide +kernel
theorem dX4_findJuries_67 : decode cX4_findJuries 67 = .ok (.iload 4, 2) := by decide +kernel
theorem dX4_findJuries_69 : decode cX4_findJuries 69 = .ok (.goto 7, 3) := by decide +kernel
theorem dX4_findJuries_72 : decode cX4_findJuries 72 = .ok (.aload_n 0, 1) := by decide +kernel
theorem dX4_findJuries_73 : decode cX4_findJuries 73 = .ok (.getfield 177, 3) := by decide +kernel
theorem dX4_findJuries_76 : decode cX4_findJuries 76 = .ok (.putfield 177, 3) := by decide +kernel
theorem dX4_findJuries_79 : decode cX4_findJuries 79 = .ok (.aload_n 0, 1) := by decide +kernel
theorem dX4_findJuries_80 : decode cX4_findJuries 80 = .ok (.dup, 1) := by decide +kernel
theorem dX4_findJuries_81 : decode cX4_findJuries 81 = .ok (.getfield 181, 3) := by decide +kernel
theorem dX4_findJuries_84 : decode cX4_findJuries 84 = .ok (.iconst 1, 1) := by decide +kernel
theorem dX4_findJuries_85 : decode cX4_findJuries 85 = .ok (.iadd, 1) := by decide +kernel
theorem dX4_findJuries_86 : decode cX4_findJuries 86 = .ok (.putfield 181, 3) := by decide +kernel
theorem dX4_findJuries_89 : decode cX4_findJuries 89 = .ok (.iinc 4 1, 3) := by decide +kernel
theorem dX4_findJuries_92 : decode cX4_findJuries 92 = .ok (.goto (-73), 3) := by decide +kernel
theorem dX4_findJuries_95 : decode cX4_findJuries 95 = .ok (.return_, 1) := by decide +kernel
theorem dX4_jury_0 : decode cX4_jury 0 = .ok (.aload_n 0, 1) := by decide +kernel
theorem dX4_jury_1 : decode cX4_jury 1 = .ok (.iload_n 1, 1) := by decide +kernel
theorem dX4_jury_2 : decode cX4_jury 2 = .ok (.invokevirtual 51, 3) := by decide +kernel
theorem dX4_jury_5 : decode cX4_jury 5 = .ok (.ifCond .eq 15, 3) := by decide +kernel
theorem dX4_jury_8 : decode cX4_jury 8 = .ok (.iload_n 2, 1) := by decide +kernel
theorem dX4_jury_9 : decode cX4_jury 9 = .ok (.i2l, 1) := by decide +kernel
theorem dX4_jury_10 : decode cX4_jury 10 = .ok (.lconst 1, 1) := by decide +kernel
theorem dX4_jury_11 : decode cX4_jury 11 = .ok (.ldc2_w 184, 3) := by decide +kernel
theorem dX4_jury_14 : decode cX4_jury 14 = .ok (.invokestatic 47, 3) := by decide +kernel
theorem dX4_jury_17 : decode cX4_jury 17 = .ok (.ifCond .ne 10, 3) := by decide +kernel
theorem dX4_jury_20 : decode cX4_jury 20 = .ok (.aload_n 0, 1) := by decide +kernel
theorem dX4_jury_21 : decode cX4_jury 21 = .ok (.ldc 44, 2) := by decide +kernel
theorem dX4_jury_23 : decode cX4_jury 23 = .ok (.invokevirtual 68, 3) := by decide +kernel
theorem dX4_jury_26 : decode cX4_jury 26 = .ok (.ireturn, 1) := by decide +kernel
theorem dX4_jury_27 : decode cX4_jury 27 = .ok (.aload_n 0, 1) := by decide +kernel
theorem dX4_jury_28 : decode cX4_jury 28 = .ok (.iload_n 1, 1) := by decide +kernel
theorem dX4_jury_29 : decode cX4_jury 29 = .ok (.iload_n 2, 1) := by decide +kernel
theorem dX4_jury_30 : decode cX4_jury 30 = .ok (.invokevirtual 186, 3) := by decide +kernel
theorem dX4_jury_33 : decode cX4_jury 33 = .ok (.aload_n 0, 1) := by decide +kernel
theorem dX4_jury_34 : decode cX4_jury 34 = .ok (.getfield 177, 3) := by decide +kernel
theorem dX4_jury_37 : decode cX4_jury 37 = .ok (.ifCond .ge 12, 3) := by decide +kernel
theorem dX4_jury_40 : decode cX4_jury 40 = .ok (.aload_n 0, 1) := by decide +kernel
theorem dX4_jury_41 : decode cX4_jury 41 = .ok (.ldc 129, 2) := by decide +kernel
theorem dX4_jury_43 : decode cX4_jury 43 = .ok (.invokevirtual 68, 3) := by decide +kernel
theorem dX4_jury_46 : decode cX4_jury 46 = .ok (.goto 7, 3) := by decide +kernel
theorem dX4_jury_49 : decode cX4_jury 49 = .ok (.aload_n 0, 1) := by decide +kernel
theorem dX4_jury_50 : decode cX4_jury 50 = .ok (.getfield 177, 3) := by decide +kernel
theorem dX4_jury_53 : decode cX4_jury 53 = .ok (.ireturn, 1) := by decide +kernel
theorem dX4_juries_0 : decode cX4_juries 0 = .ok (.aload_n 0, 1) := by decide +kernel
theorem dX4_juries_1 : decode cX4_juries 1 = .ok (.iload_n 1, 1) := by decide +kernel
theorem dX4_juries_2 : decode cX4_juries 2 = .ok (.invokevirtual 51, 3) := by decide +kernel
theorem dX4_juries_5 : decode cX4_juries 5 = .ok (.ifCond .eq 15, 3) := by decide +kernel
theorem dX4_juries_8 : decode cX4_juries 8 = .ok (.iload_n 2, 1) := by decide +kernel
theorem dX4_juries_9 : decode cX4_juries 9 = .ok (.i2l, 1) := by decide +kernel
theorem dX4_juries_10 : decode cX4_juries 10 = .ok (.lconst 1, 1) := by decide +kernel
theorem dX4_juries_11 : decode cX4_juries 11 = .ok (.ldc2_w 184, 3) := by decide +kernel
theorem dX4_juries_14 : decode cX4_juries 14 = .ok (.invokestatic 47, 3) := by decide +kernel
theorem dX4_juries_17 : decode cX4_juries 17 = .ok (.ifCond .ne 10, 3) := by decide +kernel
theorem dX4_juries_20 : decode cX4_juries 20 = .ok (.aload_n 0, 1) := by decide +kernel
theorem dX4_juries_21 : decode cX4_juries 21 = .ok (.ldc 44, 2) := by decide +kernel
theorem dX4_juries_23 : decode cX4_juries 23 = .ok (.invokevirtual 68, 3) := by decide +kernel
theorem dX4_juries_26 : decode cX4_juries 26 = .ok (.ireturn, 1) := by decide +kernel
theorem dX4_juries_27 : decode cX4_juries 27 = .ok (.aload_n 0, 1) := by decide +kernel
theorem dX4_juries_28 : decode cX4_juries 28 = .ok (.iload_n 1, 1) := by decide +kernel
theorem dX4_juries_29 : decode cX4_juries 29 = .ok (.iload_n 2, 1) := by decide +kernel
theorem dX4_juries_30 : decode cX4_juries 30 = .ok (.invokevirtual 186, 3) := by decide +kernel
theorem dX4_juries_33 : decode cX4_juries 33 = .ok (.aload_n 0, 1) := by decide +kernel
theorem dX4_juries_34 : decode cX4_juries 34 = .ok (.getfield 181, 3) := by decide +kernel
theorem dX4_juries_37 : decode cX4_juries 37 = .ok (.ireturn, 1) := by decide +kernel
theorem dX4_from_0 : decode cX4_from 0 = .ok (.aload_n 0, 1) := by decide +kernel
theorem dX4_from_1 : decode cX4_from 1 = .ok (.iload_n 1, 1) := by decide +kernel
theorem dX4_from_2 : decode cX4_from 2 = .ok (.invokevirtual 51, 3) := by decide +kernel
theorem dX4_from_5 : decode cX4_from 5 = .ok (.ifCond .eq 10, 3) := by decide +kernel
theorem dX4_from_8 : decode cX4_from 8 = .ok (.iload_n 2, 1) := by decide +kernel
theorem dX4_from_9 : decode cX4_from 9 = .ok (.invokestatic 96, 3) := by decide +kernel
theorem dX4_from_12 : decode cX4_from 12 = .ok (.ifCond .ne 10, 3) := by decide +kernel
theorem dX4_from_15 : decode cX4_from 15 = .ok (.aload_n 0, 1) := by decide +kernel
theorem dX4_from_16 : decode cX4_from 16 = .ok (.ldc 44, 2) := by decide +kernel
theorem dX4_from_18 : decode cX4_from 18 = .ok (.invokevirtual 68, 3) := by decide +kernel
theorem dX4_from_21 : decode cX4_from 21 = .ok (.ireturn, 1) := by decide +kernel
theorem dX4_from_22 : decode cX4_from 22 = .ok (.aload_n 0, 1) := by decide +kernel
theorem dX4_from_23 : decode cX4_from 23 = .ok (.iload_n 1, 1) := by decide +kernel
theorem dX4_from_24 : decode cX4_from 24 = .ok (.iload_n 2, 1) := by decide +kernel
theorem dX4_from_25 : decode cX4_from 25 = .ok (.invokevirtual 146, 3) := by decide +kernel
theorem dX4_from_28 : decode cX4_from 28 = .ok (.istore_n 3, 1) := by decide +kernel
theorem dX4_from_29 : decode cX4_from 29 = .ok (.iconst (-1), 1) := by decide +kernel
theorem dX4_from_30 : decode cX4_from 30 = .ok (.istore 4, 2) := by decide +kernel
theorem dX4_from_32 : decode cX4_from 32 = .ok (.aload_n 0, 1) := by decide +kernel
theorem dX4_from_33 : decode cX4_from 33 = .ok (.getfield 7, 3) := by decide +kernel
theorem dX4_from_36 : decode cX4_from 36 = .ok (.iconst 0, 1) := by decide +kernel
theorem dX4_from_37 : decode cX4_from 37 = .ok (.iaload, 1) := by decide +kernel
theorem dX4_from_38 : decode cX4_from 38 = .ok (.iconst 1, 1) := by decide +kernel
theorem dX4_from_39 : decode cX4_from 39 = .ok (.isub, 1) := by decide +kernel
theorem dX4_from_40 : decode cX4_from 40 = .ok (.istore 5, 2) := by decide +kernel
theorem dX4_from_42 : decode cX4_from 42 = .ok (.iload 5, 2) := by decide +kernel
theorem dX4_from_44 : decode cX4_from 44 = .ok (.ifCond .lt 53, 3) := by decide +kernel
theorem dX4_from_47 : decode cX4_from 47 = .ok (.iload 5, 2) := by decide +kernel
theorem dX4_from_49 : decode cX4_from 49 = .ok (.iload_n 1, 1) := by decide +kernel
theorem dX4_from_50 : decode cX4_from 50 = .ok (.if_icmp .eq 37, 3) := by decide +kernel
theorem dX4_from_53 : decode cX4_from 53 = .ok (.aload_n 0, 1) := by decide +kernel
theorem dX4_from_54 : decode cX4_from 54 = .ok (.iload 5, 2) := by decide +kernel
theorem dX4_from_56 : decode cX4_from 56 = .ok (.iconst 1, 1) := by decide +kernel
theorem dX4_from_57 : decode cX4_from 57 = .ok (.invokevirtual 82, 3) := by decide +kernel
theorem dX4_from_60 : decode cX4_from 60 = .ok (.aload_n 0, 1) := by decide +kernel
theorem dX4_from_61 : decode cX4_from 61 = .ok (.iload_n 1, 1) := by decide +kernel
theorem dX4_from_62 : decode cX4_from 62 = .ok (.iconst 1, 1) := by decide +kernel
theorem dX4_from_63 : decode cX4_from 63 = .ok (.invokevirtual 82, 3) := by decide +kernel
theorem dX4_from_66 : decode cX4_from 66 = .ok (.if_icmp .ne 21, 3) := by decide +kernel
theorem dX4_from_69 : decode cX4_from 69 = .ok (.aload_n 0, 1) := by decide +kernel
theorem dX4_from_70 : decode cX4_from 70 = .ok (.iload 5, 2) := by decide +kernel
theorem dX4_from_72 : decode cX4_from 72 = .ok (.iconst 4, 1) := by decide +kernel
theorem dX4_from_73 : decode cX4_from 73 = .ok (.iload_n 2, 1) := by decide +kernel
theorem dX4_from_74 : decode cX4_from 74 = .ok (.iadd, 1) := by decide +kernel
theorem dX4_from_75 : decode cX4_from 75 = .ok (.invokevirtual 82, 3) := by decide +kernel
theorem dX4_from_78 : decode cX4_from 78 = .ok (.iload_n 3, 1) := by decide +kernel
theorem dX4_from_79 : decode cX4_from 79 = .ok (.if_icmp .ne 8, 3) := by decide +kernel
theorem dX4_from_82 : decode cX4_from 82 = .ok (.iload 5, 2) := by decide +kernel
theorem dX4_from_84 : decode cX4_from 84 = .ok (.goto 5, 3) := by decide +kernel
theorem dX4_from_87 : decode cX4_from 87 = .ok (.iload 4, 2) := by decide +kernel
theorem dX4_from_89 : decode cX4_from 89 = .ok (.istore 4, 2) := by decide +kernel
theorem dX4_from_91 : decode cX4_from 91 = .ok (.iinc 5 (-1), 3) := by decide +kernel
theorem dX4_from_94 : decode cX4_from 94 = .ok (.goto (-52), 3) := by decide +kernel
theorem dX4_from_97 : decode cX4_from 97 = .ok (.iload 4, 2) := by decide +kernel
theorem dX4_from_99 : decode cX4_from 99 = .ok (.ifCond .lt 20, 3) := by decide +kernel
theorem dX4_from_102 : decode cX4_from 102 = .ok (.iload_n 3, 1) := by decide +kernel
theorem dX4_from_103 : decode cX4_from 103 = .ok (.iconst 4, 1) := by decide +kernel
theorem dX4_from_104 : decode cX4_from 104 = .ok (.idiv, 1) := by decide +kernel
theorem dX4_from_105 : decode cX4_from 105 = .ok (.aload_n 0, 1) := by decide +kernel
theorem dX4_from_106 : decode cX4_from 106 = .ok (.iload_n 1, 1) := by decide +kernel
theorem dX4_from_107 : decode cX4_from 107 = .ok (.iload_n 2, 1) := by decide +kernel
theorem dX4_from_108 : decode cX4_from 108 = .ok (.invokevirtual 143, 3) := by decide +kernel
theorem dX4_from_111 : decode cX4_from 111 = .ok (.if_icmp .le 8, 3) := by decide +kernel
theorem dX4_from_114 : decode cX4_from 114 = .ok (.iload 4, 2) := by decide +kernel
theorem dX4_from_116 : decode cX4_from 116 = .ok (.goto 9, 3) := by decide +kernel
theorem dX4_from_119 : decode cX4_from 119 = .ok (.aload_n 0, 1) := by decide +kernel
theorem dX4_from_120 : decode cX4_from 120 = .ok (.ldc 129, 2) := by decide +kernel
theorem dX4_from_122 : decode cX4_from 122 = .ok (.invokevirtual 68, 3) := by decide +kernel
theorem dX4_from_125 : decode cX4_from 125 = .ok (.ireturn, 1) := by decide +kernel
theorem dX4_nose_0 : decode cX4_nose 0 = .ok (.aload_n 0, 1) := by decide +kernel
theorem dX4_nose_1 : decode cX4_nose 1 = .ok (.iload_n 1, 1) := by decide +kernel
theorem dX4_nose_2 : decode cX4_nose 2 = .ok (.iload_n 2, 1) := by decide +kernel
theorem dX4_nose_3 : decode cX4_nose 3 = .ok (.invokevirtual 107, 3) := by decide +kernel
theorem dX4_nose_6 : decode cX4_nose 6 = .ok (.ifCond .ne 10, 3) := by decide +kernel
theorem dX4_nose_9 : decode cX4_nose 9 = .ok (.aload_n 0, 1) := by decide +kernel
theorem dX4_nose_10 : decode cX4_nose 10 = .ok (.ldc 44, 2) := by decide +kernel
theorem dX4_nose_12 : decode cX4_nose 12 = .ok (.invokevirtual 68, 3) := by decide +kernel
theorem dX4_nose_15 : decode cX4_nose 15 = .ok (.ireturn, 1) := by decide +kernel
theorem dX4_nose_16 : decode cX4_nose 16 = .ok (.aload_n 0, 1) := by decide +kernel
theorem dX4_nose_17 : decode cX4_nose 17 = .ok (.iload_n 1, 1) := by decide +kernel
theorem dX4_nose_18 : decode cX4_nose 18 = .ok (.iconst 3, 1) := by decide +kernel
theorem dX4_nose_19 : decode cX4_nose 19 = .ok (.invokestatic 57, 3) := by decide +kernel
theorem dX4_nose_22 : decode cX4_nose 22 = .ok (.iconst 0, 1) := by decide +kernel
theorem dX4_nose_23 : decode cX4_nose 23 = .ok (.invokevirtual 65, 3) := by decide +kernel
theorem dX4_nose_26 : decode cX4_nose 26 = .ok (.istore_n 3, 1) := by decide +kernel
theorem dX4_nose_27 : decode cX4_nose 27 = .ok (.aload_n 0, 1) := by decide +kernel
theorem dX4_nose_28 : decode cX4_nose 28 = .ok (.iload_n 1, 1) := by decide +kernel
theorem dX4_nose_29 : decode cX4_nose 29 = .ok (.iconst 2, 1) := by decide +kernel
theorem dX4_nose_30 : decode cX4_nose 30 = .ok (.invokestatic 57, 3) := by decide +kernel
theorem dX4_nose_33 : decode cX4_nose 33 = .ok (.iconst 0, 1) := by decide +kernel
theorem dX4_nose_34 : decode cX4_nose 34 = .ok (.invokevirtual 65, 3) := by decide +kernel
theorem dX4_nose_37 : decode cX4_nose 37 = .ok (.istore 4, 2) := by decide +kernel
theorem dX4_nose_39 : decode cX4_nose 39 = .ok (.iconst 0, 1) := by decide +kernel
theorem dX4_nose_40 : decode cX4_nose 40 = .ok (.istore 5, 2) := by decide +kernel
theorem dX4_nose_42 : decode cX4_nose 42 = .ok (.iload 5, 2) := by decide +kernel
theorem dX4_nose_44 : decode cX4_nose 44 = .ok (.bipush 10, 2) := by decide +kernel
theorem dX4_nose_46 : decode cX4_nose 46 = .ok (.if_icmp .ge 30, 3) := by decide +kernel
theorem dX4_nose_49 : decode cX4_nose 49 = .ok (.aload_n 0, 1) := by decide +kernel
theorem dX4_nose_50 : decode cX4_nose 50 = .ok (.iload_n 1, 1) := by decide +kernel
theorem dX4_nose_51 : decode cX4_nose 51 = .ok (.iload_n 2, 1) := by decide +kernel
theorem dX4_nose_52 : decode cX4_nose 52 = .ok (.invokevirtual 130, 3) := by decide +kernel
theorem dX4_nose_55 : decode cX4_nose 55 = .ok (.ifCond .ne 21, 3) := by decide +kernel
theorem dX4_nose_58 : decode cX4_nose 58 = .ok (.iinc 5 1, 3) := by decide +kernel
theorem dX4_nose_61 : decode cX4_nose 61 = .ok (.aload_n 0, 1) := by decide +kernel
theorem dX4_nose_62 : decode cX4_nose 62 = .ok (.getfield 7, 3) := by decide +kernel
theorem dX4_nose_65 : decode cX4_nose 65 = .ok (.iload_n 1, 1) := by decide +kernel
theorem dX4_nose_66 : decode cX4_nose 66 = .ok (.iconst 2, 1) := by decide +kernel
theorem dX4_nose_67 : decode cX4_nose 67 = .ok (.invokestatic 57, 3) := by decide +kernel
theorem dX4_nose_70 : decode cX4_nose 70 = .ok (.iload 5, 2) := by decide +kernel
theorem dX4_nose_72 : decode cX4_nose 72 = .ok (.iastore, 1) := by decide +kernel
theorem dX4_nose_73 : decode cX4_nose 73 = .ok (.goto (-31), 3) := by decide +kernel
theorem dX4_nose_76 : decode cX4_nose 76 = .ok (.aload_n 0, 1) := by decide +kernel
theorem dX4_nose_77 : decode cX4_nose 77 = .ok (.getfield 7, 3) := by decide +kernel
theorem dX4_nose_80 : decode cX4_nose 80 = .ok (.iload_n 1, 1) := by decide +kernel
theorem dX4_nose_81 : decode cX4_nose 81 = .ok (.iconst 2, 1) := by decide +kernel
theorem dX4_nose_82 : decode cX4_nose 82 = .ok (.invokestatic 57, 3) := by decide +kernel
theorem dX4_nose_85 : decode cX4_nose 85 = .ok (.iload 4, 2) := by decide +kernel
theorem dX4_nose_87 : decode cX4_nose 87 = .ok (.iastore, 1) := by decide +kernel
theorem dX4_nose_88 : decode cX4_nose 88 = .ok (.aload_n 0, 1) := by decide +kernel
theorem dX4_nose_89 : decode cX4_nose 89 = .ok (.getfield 7, 3) := by decide +kernel
theorem dX4_nose_92 : decode cX4_nose 92 = .ok (.iload_n 1, 1) := by decide +kernel
theorem dX4_nose_93 : decode cX4_nose 93 = .ok (.iconst 3, 1) := by decide +kernel
theorem dX4_nose_94 : decode cX4_nose 94 = .ok (.invokestatic 57, 3) := by decide +kernel
theorem dX4_nose_97 : decode cX4_nose 97 = .ok (.iload_n 3, 1) := by decide +kernel
theorem dX4_nose_98 : decode cX4_nose 98 = .ok (.iastore, 1) := by decide +kernel
theorem dX4_nose_99 : decode cX4_nose 99 = .ok (.iload 5, 2) := by decide +kernel
theorem dX4_nose_101 : decode cX4_nose 101 = .ok (.bipush 9, 2) := by decide +kernel
theorem dX4_nose_103 : decode cX4_nose 103 = .ok (.if_icmp .le 12, 3) := by decide +kernel
theorem dX4_nose_106 : decode cX4_nose 106 = .ok (.aload_n 0, 1) := by decide +kernel
theorem dX4_nose_107 : decode cX4_nose 107 = .ok (.ldc 129, 2) := by decide +kernel
theorem dX4_nose_109 : decode cX4_nose 109 = .ok (.invokevirtual 68, 3) := by decide +kernel
theorem dX4_nose_112 : decode cX4_nose 112 = .ok (.goto 5, 3) := by decide +kernel
theorem dX4_nose_115 : decode cX4_nose 115 = .ok (.iload 5, 2) := by decide +kernel
theorem dX4_nose_117 : decode cX4_nose 117 = .ok (.ireturn, 1) := by decide +kernel
theorem dX4_feed_0 : decode cX4_feed 0 = .ok (.iload_n 2, 1) := by decide +kernel
theorem dX4_feed_1 : decode cX4_feed 1 = .ok (.i2l, 1) := by decide +kernel
theorem dX4_feed_2 : decode cX4_feed 2 = .ok (.lconst 1, 1) := by decide +kernel
theorem dX4_feed_3 : decode cX4_feed 3 = .ok (.ldc2_w 61, 3) := by decide +kernel
theorem dX4_feed_6 : decode cX4_feed 6 = .ok (.invokestatic 47, 3) := by decide +kernel
theorem dX4_feed_9 : decode cX4_feed 9 = .ok (.ifCond .ne 10, 3) := by decide +kernel
theorem dX4_feed_12 : decode cX4_feed 12 = .ok (.aload_n 0, 1) := by decide +kernel
theorem dX4_feed_13 : decode cX4_feed 13 = .ok (.ldc 44, 2) := by decide +kernel
theorem dX4_feed_15 : decode cX4_feed 15 = .ok (.invokevirtual 68, 3) := by decide +kernel
theorem dX4_feed_18 : decode cX4_feed 18 = .ok (.ireturn, 1) := by decide +kernel
theorem dX4_feed_19 : decode cX4_feed 19 = .ok (.aload_n 0, 1) := by decide +kernel
theorem dX4_feed_20 : decode cX4_feed 20 = .ok (.getfield 190, 3) := by decide +kernel
theorem dX4_feed_23 : decode cX4_feed 23 = .ok (.iload_n 2, 1) := by decide +kernel
theorem dX4_feed_24 : decode cX4_feed 24 = .ok (.iadd, 1) := by decide +kernel
theorem dX4_feed_25 : decode cX4_feed 25 = .ok (.bipush 120, 2) := by decide +kernel
theorem dX4_feed_27 : decode cX4_feed 27 = .ok (.if_icmp .le 10, 3) := by decide +kernel
theorem dX4_feed_30 : decode cX4_feed 30 = .ok (.aload_n 0, 1) := by decide +kernel
theorem dX4_feed_31 : decode cX4_feed 31 = .ok (.ldc 78, 2) := by decide +kernel
theorem dX4_feed_33 : decode cX4_feed 33 = .ok (.invokevirtual 68, 3) := by decide +kernel
theorem dX4_feed_36 : decode cX4_feed 36 = .ok (.ireturn, 1) := by decide +kernel
theorem dX4_feed_37 : decode cX4_feed 37 = .ok (.iload_n 2, 1) := by decide +kernel
theorem dX4_feed_38 : decode cX4_feed 38 = .ok (.iconst 1, 1) := by decide +kernel
theorem dX4_feed_39 : decode cX4_feed 39 = .ok (.isub, 1) := by decide +kernel
theorem dX4_feed_40 : decode cX4_feed 40 = .ok (.istore_n 3, 1) := by decide +kernel
theorem dX4_feed_41 : decode cX4_feed 41 = .ok (.iload_n 3, 1) := by decide +kernel
theorem dX4_feed_42 : decode cX4_feed 42 = .ok (.ifCond .lt 38, 3) := by decide +kernel
theorem dX4_feed_45 : decode cX4_feed 45 = .ok (.aload_n 0, 1) := by decide +kernel
theorem dX4_feed_46 : decode cX4_feed 46 = .ok (.getfield 28, 3) := by decide +kernel
theorem dX4_feed_49 : decode cX4_feed 49 = .ok (.aload_n 0, 1) := by decide +kernel
theorem dX4_feed_50 : decode cX4_feed 50 = .ok (.getfield 190, 3) := by decide +kernel
theorem dX4_feed_53 : decode cX4_feed 53 = .ok (.iload_n 1, 1) := by decide +kernel
theorem dX4_feed_54 : decode cX4_feed 54 = .ok (.bipush 8, 2) := by decide +kernel
theorem dX4_feed_56 : decode cX4_feed 56 = .ok (.iload_n 3, 1) := by decide +kernel
theorem dX4_feed_57 : decode cX4_feed 57 = .ok (.imul, 1) := by decide +kernel
theorem dX4_feed_58 : decode cX4_feed 58 = .ok (.ishr, 1) := by decide +kernel
theorem dX4_feed_59 : decode cX4_feed 59 = .ok (.sipush 255, 3) := by decide +kernel
theorem dX4_feed_62 : decode cX4_feed 62 = .ok (.iand, 1) := by decide +kernel
theorem dX4_feed_63 : decode cX4_feed 63 = .ok (.iastore, 1) := by decide +kernel
theorem dX4_feed_64 : decode cX4_feed 64 = .ok (.aload_n 0, 1) := by decide +kernel
theorem dX4_feed_65 : decode cX4_feed 65 = .ok (.dup, 1) := by decide +kernel
theorem dX4_feed_66 : decode cX4_feed 66 = .ok (.getfield 190, 3) := by decide +kernel
theorem dX4_feed_69 : decode cX4_feed 69 = .ok (.iconst 1, 1) := by decide +kernel
theorem dX4_feed_70 : decode cX4_feed 70 = .ok (.iadd, 1) := by decide +kernel
theorem dX4_feed_71 : decode cX4_feed 71 = .ok (.putfield 190, 3) := by decide +kernel
theorem dX4_feed_74 : decode cX4_feed 74 = .ok (.iinc 3 (-1), 3) := by decide +kernel
theorem dX4_feed_77 : decode cX4_feed 77 = .ok (.goto (-36), 3) := by decide +kernel
theorem dX4_feed_80 : decode cX4_feed 80 = .ok (.aload_n 0, 1) := by decide +kernel
theorem dX4_feed_81 : decode cX4_feed 81 = .ok (.getfield 190, 3) := by decide +kernel
theorem dX4_feed_84 : decode cX4_feed 84 = .ok (.ireturn, 1) := by decide +kernel
theorem dX4_wipe_0 : decode cX4_wipe 0 = .ok (.aload_n 0, 1) := by decide +kernel
theorem dX4_wipe_1 : decode cX4_wipe 1 = .ok (.getfield 190, 3) := by decide +kernel
theorem dX4_wipe_4 : decode cX4_wipe 4 = .ok (.istore_n 1, 1) := by decide +kernel
theorem dX4_wipe_5 : decode cX4_wipe 5 = .ok (.aload_n 0, 1) := by decide +kernel
theorem dX4_wipe_6 : decode cX4_wipe 6 = .ok (.iconst 0, 1) := by decide +kernel
theorem dX4_wipe_7 : decode cX4_wipe 7 = .ok (.putfield 190, 3) := by decide +kernel
theorem dX4_wipe_10 : decode cX4_wipe 10 = .ok (.iload_n 1, 1) := by decide +kernel
theorem dX4_wipe_11 : decode cX4_wipe 11 = .ok (.ireturn, 1) := by decide +kernel
theorem dX4_byteAt_0 : decode cX4_byteAt 0 = .ok (.iload_n 1, 1) := by decide +kernel
theorem dX4_byteAt_1 : decode cX4_byteAt 1 = .ok (.aload_n 0, 1) := by decide +kernel
theorem dX4_byteAt_2 : decode cX4_byteAt 2 = .ok (.getfield 190, 3) := by decide +kernel
theorem dX4_byteAt_5 : decode cX4_byteAt 5 = .ok (.if_icmp .ge 12, 3) := by decide +kernel
theorem dX4_byteAt_8 : decode cX4_byteAt 8 = .ok (.aload_n 0, 1) := by decide +kernel
theorem dX4_byteAt_9 : decode cX4_byteAt 9 = .ok (.getfield 28, 3) := by decide +kernel
theorem dX4_byteAt_12 : decode cX4_byteAt 12 = .ok (.iload_n 1, 1) := by decide +kernel
theorem dX4_byteAt_13 : decode cX4_byteAt 13 = .ok (.iaload, 1) := by decide +kernel
theorem dX4_byteAt_14 : decode cX4_byteAt 14 = .ok (.goto 4, 3) := by decide +kernel
theorem dX4_byteAt_17 : decode cX4_byteAt 17 = .ok (.iconst (-1), 1) := by decide +kernel
theorem dX4_byteAt_18 : decode cX4_byteAt 18 = .ok (.ireturn, 1) := by decide +kernel
theorem dX4_isLetter_0 : decode cX4_isLetter 0 = .ok (.iload_n 0, 1) := by decide +kernel
theorem dX4_isLetter_1 : decode cX4_isLetter 1 = .ok (.i2l, 1) := by decide +kernel
theorem dX4_isLetter_2 : decode cX4_isLetter 2 = .ok (.ldc2_w 193, 3) := by decide +kernel
theorem dX4_isLetter_5 : decode cX4_isLetter 5 = .ok (.ldc2_w 195, 3) := by decide +kernel
theorem dX4_isLetter_8 : decode cX4_isLetter 8 = .ok (.invokestatic 47, 3) := by decide +kernel
theorem dX4_isLetter_11 : decode cX4_isLetter 11 = .ok (.ireturn, 1) := by decide +kernel
theorem dX4_isDigit_0 : decode cX4_isDigit 0 = .ok (.iload_n 0, 1) := by decide +kernel
theorem dX4_isDigit_1 : decode cX4_isDigit 1 = .ok (.i2l, 1) := by decide +kernel
theorem dX4_isDigit_2 : decode cX4_isDigit 2 = .ok (.ldc2_w 197, 3) := by decide +kernel
theorem dX4_isDigit_5 : decode cX4_isDigit 5 = .ok (.ldc2_w 199, 3) := by decide +kernel
theorem dX4_isDigit_8 : decode cX4_isDigit 8 = .ok (.invokestatic 47, 3) := by decide +kernel
theorem dX4_isDigit_11 : decode cX4_isDigit 11 = .ok (.ireturn, 1) := by decide +kernel
theorem dX4_token_0 : decode cX4_token 0 = .ok (.aload_n 0, 1) := by decide +kernel
theorem dX4_token_1 : decode cX4_token 1 = .ok (.aload_n 0, 1) := by decide +kernel
theorem dX4_token_2 : decode cX4_token 2 = .ok (.getfield 201, 3) := by decide +kernel
theorem dX4_token_5 : decode cX4_token 5 = .ok (.putfield 204, 3) := by decide +kernel
theorem dX4_token_8 : decode cX4_token 8 = .ok (.aload_n 0, 1) := by decide +kernel
theorem dX4_token_9 : decode cX4_token 9 = .ok (.aload_n 0, 1) := by decide +kernel
theorem dX4_token_10 : decode cX4_token 10 = .ok (.getfield 204, 3) := by decide +kernel
theorem dX4_token_13 : decode cX4_token 13 = .ok (.invokevirtual 207, 3) := by decide +kernel
theorem dX4_token_16 : decode cX4_token 16 = .ok (.bipush 32, 2) := by decide +kernel
theorem dX4_token_18 : decode cX4_token 18 = .ok (.if_icmp .ne 16, 3) := by decide +kernel
theorem dX4_token_21 : decode cX4_token 21 = .ok (.aload_n 0, 1) := by decide +kernel
theorem dX4_token_22 : decode cX4_token 22 = .ok (.dup, 1) := by decide +kernel
theorem dX4_token_23 : decode cX4_token 23 = .ok (.getfield 204, 3) := by decide +kernel
theorem dX4_token_26 : decode cX4_token 26 = .ok (.iconst 1, 1) := by decide +kernel
theorem dX4_token_27 : decode cX4_token 27 = .ok (.iadd, 1) := by decide +kernel
theorem dX4_token_28 : decode cX4_token 28 = .ok (.putfield 204, 3) := by decide +kernel
theorem dX4_token_31 : decode cX4_token 31 = .ok (.goto (-23), 3) := by decide +kernel
theorem dX4_token_34 : decode cX4_token 34 = .ok (.aload_n 0, 1) := by decide +kernel
theorem dX4_token_35 : decode cX4_token 35 = .ok (.aload_n 0, 1) := by decide +kernel
theorem dX4_token_36 : decode cX4_token 36 = .ok (.getfield 204, 3) := by decide +kernel
theorem dX4_token_39 : decode cX4_token 39 = .ok (.invokevirtual 207, 3) := by decide +kernel
theorem dX4_token_42 : decode cX4_token 42 = .ok (.invokestatic 210, 3) := by decide +kernel
theorem dX4_token_45 : decode cX4_token 45 = .ok (.istore_n 1, 1) := by decide +kernel
theorem dX4_token_46 : decode cX4_token 46 = .ok (.aload_n 0, 1) := by decide +kernel
theorem dX4_token_47 : decode cX4_token 47 = .ok (.aload_n 0, 1) := by decide +kernel
theorem dX4_token_48 : decode cX4_token 48 = .ok (.getfield 204, 3) := by decide +kernel
theorem dX4_token_51 : decode cX4_token 51 = .ok (.invokevirtual 207, 3) := by decide +kernel
theorem dX4_token_54 : decode cX4_token 54 = .ok (.invokestatic 213, 3) := by decide +kernel
theorem dX4_token_57 : decode cX4_token 57 = .ok (.istore_n 2, 1) := by decide +kernel
theorem dX4_token_58 : decode cX4_token 58 = .ok (.aload_n 0, 1) := by decide +kernel
theorem dX4_token_59 : decode cX4_token 59 = .ok (.aload_n 0, 1) := by decide +kernel
theorem dX4_token_60 : decode cX4_token 60 = .ok (.getfield 204, 3) := by decide +kernel
theorem dX4_token_63 : decode cX4_token 63 = .ok (.aload_n 0, 1) := by decide +kernel
theorem dX4_token_64 : decode cX4_token 64 = .ok (.getfield 190, 3) := by decide +kernel
theorem dX4_token_67 : decode cX4_token 67 = .ok (.if_icmp .ge 12, 3) := by decide +kernel
theorem dX4_token_70 : decode cX4_token 70 = .ok (.aload_n 0, 1) := by decide +kernel
theorem dX4_token_71 : decode cX4_token 71 = .ok (.getfield 204, 3) := by decide +kernel
theorem dX4_token_74 : decode cX4_token 74 = .ok (.iconst 1, 1) := by decide +kernel
theorem dX4_token_75 : decode cX4_token 75 = .ok (.iadd, 1) := by decide +kernel
theorem dX4_token_76 : decode cX4_token 76 = .ok (.goto 7, 3) := by decide +kernel
theorem dX4_token_79 : decode cX4_token 79 = .ok (.aload_n 0, 1) := by decide +kernel
theorem dX4_token_80 : decode cX4_token 80 = .ok (.getfield 204, 3) := by decide +kernel
theorem dX4_token_83 : decode cX4_token 83 = .ok (.putfield 201, 3) := by decide +kernel
theorem dX4_token_86 : decode cX4_token 86 = .ok (.iload_n 1, 1) := by decide +kernel
theorem dX4_token_87 : decode cX4_token 87 = .ok (.ifCond .eq 17, 3) := by decide +kernel
theorem dX4_token_90 : decode cX4_token 90 = .ok (.aload_n 0, 1) := by decide +kernel
theorem dX4_token_91 : decode cX4_token 91 = .ok (.aload_n 0, 1) := by decide +kernel
theorem dX4_token_92 : decode cX4_token 92 = .ok (.getfield 201, 3) := by decide +kernel
theorem dX4_token_95 : decode cX4_token 95 = .ok (.invokevirtual 207, 3) := by decide +kernel
theorem dX4_token_98 : decode cX4_token 98 = .ok (.invokestatic 210, 3) := by decide +kernel
theorem dX4_token_101 : decode cX4_token 101 = .ok (.ifCond .ne 21, 3) := by decide +kernel
theorem dX4_token_104 : decode cX4_token 104 = .ok (.iload_n 2, 1) := by decide +kernel
theorem dX4_token_105 : decode cX4_token 105 = .ok (.ifCond .eq 30, 3) := by decide +kernel
theorem dX4_token_108 : decode cX4_token 108 = .ok (.aload_n 0, 1) := by decide +kernel
theorem dX4_token_109 : decode cX4_token 109 = .ok (.aload_n 0, 1) := by decide +kernel
theorem dX4_token_110 : decode cX4_token 110 = .ok (.getfield 201, 3) := by decide +kernel
theorem dX4_token_113 : decode cX4_token 113 = .ok (.invokevirtual 207, 3) := by decide +kernel
theorem dX4_token_116 : decode cX4_token 116 = .ok (.invokestatic 213, 3) := by decide +kernel
theorem dX4_token_119 : decode cX4_token 119 = .ok (.ifCond .eq 16, 3) := by decide +kernel
theorem dX4_token_122 : decode cX4_token 122 = .ok (.aload_n 0, 1) := by decide +kernel
theorem dX4_token_123 : decode cX4_token 123 = .ok (.dup, 1) := by decide +kernel
theorem dX4_token_124 : decode cX4_token 124 = .ok (.getfield 201, 3) := by decide +kernel
theorem dX4_token_127 : decode cX4_token 127 = .ok (.iconst 1, 1) := by decide +kernel
theorem dX4_token_128 : decode cX4_token 128 = .ok (.iadd, 1) := by decide +kernel
theorem dX4_token_129 : decode cX4_token 129 = .ok (.putfield 201, 3) := by decide +kernel
theorem dX4_token_132 : decode cX4_token 132 = .ok (.goto (-46), 3) := by decide +kernel
theorem dX4_token_135 : decode cX4_token 135 = .ok (.return_, 1) := by decide +kernel
theorem dX4_must_0 : decode cX4_must 0 = .ok (.aload_n 0, 1) := by decide +kernel
theorem dX4_must_1 : decode cX4_must 1 = .ok (.aload_n 0, 1) := by decide +kernel
theorem dX4_must_2 : decode cX4_must 2 = .ok (.getfield 216, 3) := by decide +kernel
theorem dX4_must_5 : decode cX4_must 5 = .ok (.ifCond .ne 7, 3) := by decide +kernel
theorem dX4_must_8 : decode cX4_must 8 = .ok (.iload_n 1, 1) := by decide +kernel
theorem dX4_must_9 : decode cX4_must 9 = .ok (.ifCond .ne 7, 3) := by decide +kernel
theorem dX4_must_12 : decode cX4_must 12 = .ok (.iconst 1, 1) := by decide +kernel
theorem dX4_must_13 : decode cX4_must 13 = .ok (.goto 4, 3) := by decide +kernel
theorem dX4_must_16 : decode cX4_must 16 = .ok (.iconst 0, 1) := by decide +kernel
theorem dX4_must_17 : decode cX4_must 17 = .ok (.putfield 216, 3) := by decide +kernel
theorem dX4_must_20 : decode cX4_must 20 = .ok (.aload_n 0, 1) := by decide +kernel
theorem dX4_must_21 : decode cX4_must 21 = .ok (.getfield 216, 3) := by decide +kernel
theorem dX4_must_24 : decode cX4_must 24 = .ok (.ifCond .ne 7, 3) := by decide +kernel
theorem dX4_must_27 : decode cX4_must 27 = .ok (.aload_n 0, 1) := by decide +kernel
theorem dX4_must_28 : decode cX4_must 28 = .ok (.invokevirtual 220, 3) := by decide +kernel
theorem dX4_must_31 : decode cX4_must 31 = .ok (.return_, 1) := by decide +kernel
theorem dX4_word_0 : decode cX4_word 0 = .ok (.lconst 0, 1) := by decide +kernel
theorem dX4_word_1 : decode cX4_word 1 = .ok (.lstore_n 1, 1) := by decide +kernel
theorem dX4_word_2 : decode cX4_word 2 = .ok (.aload_n 0, 1) := by decide +kernel
theorem dX4_word_3 : decode cX4_word 3 = .ok (.getfield 204, 3) := by decide +kernel
theorem dX4_word_6 : decode cX4_word 6 = .ok (.istore_n 3, 1) := by decide +kernel
theorem dX4_word_7 : decode cX4_word 7 = .ok (.iload_n 3, 1) := by decide +kernel
theorem dX4_word_8 : decode cX4_word 8 = .ok (.aload_n 0, 1) := by decide +kernel
theorem dX4_word_9 : decode cX4_word 9 = .ok (.getfield 201, 3) := by decide +kernel
theorem dX4_word_12 : decode cX4_word 12 = .ok (.if_icmp .ge 38, 3) := by decide +kernel
theorem dX4_word_15 : decode cX4_word 15 = .ok (.lload_n 1, 1) := by decide +kernel
theorem dX4_word_16 : decode cX4_word 16 = .ok (.ldc2_w 223, 3) := by decide +kernel
theorem dX4_word_19 : decode cX4_word 19 = .ok (.lcmp, 1) := by decide +kernel
theorem dX4_word_20 : decode cX4_word 20 = .ok (.ifCond .le 7, 3) := by decide +kernel
theorem dX4_word_23 : decode cX4_word 23 = .ok (.lload_n 1, 1) := by decide +kernel
theorem dX4_word_24 : decode cX4_word 24 = .ok (.goto 19, 3) := by decide +kernel
theorem dX4_word_27 : decode cX4_word 27 = .ok (.ldc2_w 225, 3) := by decide +kernel
theorem dX4_word_30 : decode cX4_word 30 = .ok (.lload_n 1, 1) := by decide +kernel
theorem dX4_word_31 : decode cX4_word 31 = .ok (.lmul, 1) := by decide +kernel
theorem dX4_word_32 : decode cX4_word 32 = .ok (.aload_n 0, 1) := by decide +kernel
theorem dX4_word_33 : decode cX4_word 33 = .ok (.getfield 28, 3) := by decide +kernel
theorem dX4_word_36 : decode cX4_word 36 = .ok (.iload_n 3, 1) := by decide +kernel
theorem dX4_word_37 : decode cX4_word 37 = .ok (.iaload, 1) := by decide +kernel
theorem dX4_word_38 : decode cX4_word 38 = .ok (.bipush 96, 2) := by decide +kernel
theorem dX4_word_40 : decode cX4_word 40 = .ok (.isub, 1) := by decide +kernel
theorem dX4_word_41 : decode cX4_word 41 = .ok (.i2l, 1) := by decide +kernel
theorem dX4_word_42 : decode cX4_word 42 = .ok (.ladd, 1) := by decide +kernel
theorem dX4_word_43 : decode cX4_word 43 = .ok (.lstore_n 1, 1) := by decide +kernel
theorem dX4_word_44 : decode cX4_word 44 = .ok (.iinc 3 1, 3) := by decide +kernel
theorem dX4_word_47 : decode cX4_word 47 = .ok (.goto (-40), 3) := by decide +kernel
theorem dX4_word_50 : decode cX4_word 50 = .ok (.aload_n 0, 1) := by decide +kernel
theorem dX4_word_51 : decode cX4_word 51 = .ok (.getfield 216, 3) := by decide +kernel
theorem dX4_word_54 : decode cX4_word 54 = .ok (.ifCond .ne 17, 3) := by decide +kernel
theorem dX4_word_57 : decode cX4_word 57 = .ok (.aload_n 0, 1) := by decide +kernel
theorem dX4_word_58 : decode cX4_word 58 = .ok (.aload_n 0, 1) := by decide +kernel
theorem dX4_word_59 : decode cX4_word 59 = .ok (.getfield 204, 3) := by decide +kernel
theorem dX4_word_62 : decode cX4_word 62 = .ok (.invokevirtual 207, 3) := by decide +kernel
theorem dX4_word_65 : decode cX4_word 65 = .ok (.invokestatic 210, 3) := by decide +kernel
theorem dX4_word_68 : decode cX4_word 68 = .ok (.ifCond .ne 7, 3) := by decide +kernel
theorem dX4_word_71 : decode cX4_word 71 = .ok (.lconst 0, 1) := by decide +kernel
theorem dX4_word_72 : decode cX4_word 72 = .ok (.goto 4, 3) := by decide +kernel
theorem dX4_word_75 : decode cX4_word 75 = .ok (.lload_n 1, 1) := by decide +kernel
theorem dX4_word_76 : decode cX4_word 76 = .ok (.lreturn, 1) := by decide +kernel
theorem dX4_number_0 : decode cX4_number 0 = .ok (.aload_n 0, 1) := by decide +kernel
theorem dX4_number_1 : decode cX4_number 1 = .ok (.getfield 216, 3) := by decide +kernel
theorem dX4_number_4 : decode cX4_number 4 = .ok (.ifCond .eq 4, 3) := by decide +kernel
theorem dX4_number_7 : decode cX4_number 7 = .ok (.return_, 1) := by decide +kernel
theorem dX4_number_8 : decode cX4_number 8 = .ok (.aload_n 0, 1) := by decide +kernel
theorem dX4_number_9 : decode cX4_number 9 = .ok (.aload_n 0, 1) := by decide +kernel
theorem dX4_number_10 : decode cX4_number 10 = .ok (.getfield 204, 3) := by decide +kernel
theorem dX4_number_13 : decode cX4_number 13 = .ok (.invokevirtual 207, 3) := by decide +kernel
theorem dX4_number_16 : decode cX4_number 16 = .ok (.invokestatic 213, 3) := by decide +kernel
theorem dX4_number_19 : decode cX4_number 19 = .ok (.istore_n 3, 1) := by decide +kernel
theorem dX4_number_20 : decode cX4_number 20 = .ok (.iconst 0, 1) := by decide +kernel
theorem dX4_number_21 : decode cX4_number 21 = .ok (.istore 4, 2) := by decide +kernel
theorem dX4_number_23 : decode cX4_number 23 = .ok (.aload_n 0, 1) := by decide +kernel
theorem dX4_number_24 : decode cX4_number 24 = .ok (.getfield 204, 3) := by decide +kernel
theorem dX4_number_27 : decode cX4_number 27 = .ok (.istore 5, 2) := by decide +kernel
theorem dX4_number_29 : decode cX4_number 29 = .ok (.iload 5, 2) := by decide +kernel
theorem dX4_number_31 : decode cX4_number 31 = .ok (.aload_n 0, 1) := by decide +kernel
theorem dX4_number_32 : decode cX4_number 32 = .ok (.getfield 201, 3) := by decide +kernel
theorem dX4_number_35 : decode cX4_number 35 = .ok (.if_icmp .ge 44, 3) := by decide +kernel
theorem dX4_number_38 : decode cX4_number 38 = .ok (.iload_n 3, 1) := by decide +kernel
theorem dX4_number_39 : decode cX4_number 39 = .ok (.ifCond .eq 40, 3) := by decide +kernel
theorem dX4_number_42 : decode cX4_number 42 = .ok (.iload 4, 2) := by decide +kernel
theorem dX4_number_44 : decode cX4_number 44 = .ok (.sipush 999, 3) := by decide +kernel
theorem dX4_number_47 : decode cX4_number 47 = .ok (.if_icmp .le 8, 3) := by decide +kernel
theorem dX4_number_50 : decode cX4_number 50 = .ok (.iload 4, 2) := by decide +kernel
theorem dX4_number_52 : decode cX4_number 52 = .ok (.goto 19, 3) := by decide +kernel
theorem dX4_number_55 : decode cX4_number 55 = .ok (.bipush 10, 2) := by decide +kernel
theorem dX4_number_57 : decode cX4_number 57 = .ok (.iload 4, 2) := by decide +kernel
theorem dX4_number_59 : decode cX4_number 59 = .ok (.imul, 1) := by decide +kernel
theorem dX4_number_60 : decode cX4_number 60 = .ok (.aload_n 0, 1) := by decide +kernel
theorem dX4_number_61 : decode cX4_number 61 = .ok (.getfield 28, 3) := by decide +kernel
theorem dX4_number_64 : decode cX4_number 64 = .ok (.iload 5, 2) := by decide +kernel
theorem dX4_number_66 : decode cX4_number 66 = .ok (.iaload, 1) := by decide +kernel
theorem dX4_number_67 : decode cX4_number 67 = .ok (.iadd, 1) := by decide +kernel
theorem dX4_number_68 : decode cX4_number 68 = .ok (.bipush 48, 2) := by decide +kernel
theorem dX4_number_70 : decode cX4_number 70 = .ok (.isub, 1) := by decide +kernel
theorem dX4_number_71 : decode cX4_number 71 = .ok (.istore 4, 2) := by decide +kernel
theorem dX4_number_73 : decode cX4_number 73 = .ok (.iinc 5 1, 3) := by decide +kernel
theorem dX4_number_76 : decode cX4_number 76 = .ok (.goto (-47), 3) := by decide +kernel
theorem dX4_number_79 : decode cX4_number 79 = .ok (.aload_n 0, 1) := by decide +kernel
theorem dX4_number_80 : decode cX4_number 80 = .ok (.iload 4, 2) := by decide +kernel
theorem dX4_number_82 : decode cX4_number 82 = .ok (.putfield 227, 3) := by decide +kernel
theorem dX4_number_85 : decode cX4_number 85 = .ok (.aload_n 0, 1) := by decide +kernel
theorem dX4_number_86 : decode cX4_number 86 = .ok (.iload_n 3, 1) := by decide +kernel
theorem dX4_number_87 : decode cX4_number 87 = .ok (.ifCond .eq 20, 3) := by decide +kernel
theorem dX4_number_90 : decode cX4_number 90 = .ok (.iload 4, 2) := by decide +kernel
theorem dX4_number_92 : decode cX4_number 92 = .ok (.i2l, 1) := by decide +kernel
theorem dX4_number_93 : decode cX4_number 93 = .ok (.iload_n 1, 1) := by decide +kernel
theorem dX4_number_94 : decode cX4_number 94 = .ok (.i2l, 1) := by decide +kernel
theorem dX4_number_95 : decode cX4_number 95 = .ok (.iload_n 2, 1) := by decide +kernel
theorem dX4_number_96 : decode cX4_number 96 = .ok (.i2l, 1) := by decide +kernel
theorem dX4_number_97 : decode cX4_number 97 = .ok (.invokestatic 47, 3) := by decide +kernel
theorem dX4_number_100 : decode cX4_number 100 = .ok (.ifCond .eq 7, 3) := by decide +kernel
theorem dX4_number_103 : decode cX4_number 103 = .ok (.iconst 1, 1) := by decide +kernel
theorem dX4_number_104 : decode cX4_number 104 = .ok (.goto 4, 3) := by decide +kernel
theorem dX4_number_107 : decode cX4_number 107 = .ok (.iconst 0, 1) := by decide +kernel
theorem dX4_number_108 : decode cX4_number 108 = .ok (.invokevirtual 230, 3) := by decide +kernel
theorem dX4_number_111 : decode cX4_number 111 = .ok (.return_, 1) := by decide +kernel
theorem dX4_kindHere_0 : decode cX4_kindHere 0 = .ok (.aload_n 0, 1) := by decide +kernel
theorem dX4_kindHere_1 : decode cX4_kindHere 1 = .ok (.invokevirtual 234, 3) := by decide +kernel
theorem dX4_kindHere_4 : decode cX4_kindHere 4 = .ok (.lstore_n 1, 1) := by decide +kernel
theorem dX4_kindHere_5 : decode cX4_kindHere 5 = .ok (.lload_n 1, 1) := by decide +kernel
theorem dX4_kindHere_6 : decode cX4_kindHere 6 = .ok (.ldc2_w 238, 3) := by decide +kernel
theorem dX4_kindHere_9 : decode cX4_kindHere 9 = .ok (.lcmp, 1) := by decide +kernel
theorem dX4_kindHere_10 : decode cX4_kindHere 10 = .ok (.ifCond .ne 7, 3) := by decide +kernel
theorem dX4_kindHere_13 : decode cX4_kindHere 13 = .ok (.iconst 0, 1) := by decide +kernel
theorem dX4_kindHere_14 : decode cX4_kindHere 14 = .ok (.goto 64, 3) := by decide +kernel
theorem dX4_kindHere_17 : decode cX4_kindHere 17 = .ok (.lload_n 1, 1) := by decide +kernel
theorem dX4_kindHere_18 : decode cX4_kindHere 18 = .ok (.ldc2_w 240, 3) := by decide +kernel
theorem dX4_kindHere_21 : decode cX4_kindHere 21 = .ok (.lcmp, 1) := by decide +kernel
theorem dX4_kindHere_22 : decode cX4_kindHere 22 = .ok (.ifCond .ne 7, 3) := by decide +kernel
theorem dX4_kindHere_25 : decode cX4_kindHere 25 = .ok (.iconst 1, 1) := by decide +kernel
theorem dX4_kindHere_26 : decode cX4_kindHere 26 = .ok (.goto 52, 3) := by decide +kernel
theorem dX4_kindHere_29 : decode cX4_kindHere 29 = .ok (.lload_n 1, 1) := by decide +kernel
theorem dX4_kindHere_30 : decode cX4_kindHere 30 = .ok (.ldc2_w 242, 3) := by decide +kernel
theorem dX4_kindHere_33 : decode cX4_kindHere 33 = .ok (.lcmp, 1) := by decide +kernel
theorem dX4_kindHere_34 : decode cX4_kindHere 34 = .ok (.ifCond .ne 7, 3) := by decide +kernel
theorem dX4_kindHere_37 : decode cX4_kindHere 37 = .ok (.iconst 2, 1) := by decide +kernel
theorem dX4_kindHere_38 : decode cX4_kindHere 38 = .ok (.goto 40, 3) := by decide +kernel
theorem dX4_kindHere_41 : decode cX4_kindHere 41 = .ok (.lload_n 1, 1) := by decide +kernel
theorem dX4_kindHere_42 : decode cX4_kindHere 42 = .ok (.ldc2_w 244, 3) := by decide +kernel
theorem dX4_kindHere_45 : decode cX4_kindHere 45 = .ok (.lcmp, 1) := by decide +kernel
theorem dX4_kindHere_46 : decode cX4_kindHere 46 = .ok (.ifCond .ne 7, 3) := by decide +kernel
theorem dX4_kindHere_49 : decode cX4_kindHere 49 = .ok (.iconst 3, 1) := by decide +kernel
theorem dX4_kindHere_50 : decode cX4_kindHere 50 = .ok (.goto 28, 3) := by decide +kernel
theorem dX4_kindHere_53 : decode cX4_kindHere 53 = .ok (.lload_n 1, 1) := by decide +kernel
theorem dX4_kindHere_54 : decode cX4_kindHere 54 = .ok (.ldc2_w 246, 3) := by decide +kernel
theorem dX4_kindHere_57 : decode cX4_kindHere 57 = .ok (.lcmp, 1) := by decide +kernel
theorem dX4_kindHere_58 : decode cX4_kindHere 58 = .ok (.ifCond .ne 7, 3) := by decide +kernel
theorem dX4_kindHere_61 : decode cX4_kindHere 61 = .ok (.iconst 4, 1) := by decide +kernel
theorem dX4_kindHere_62 : decode cX4_kindHere 62 = .ok (.goto 16, 3) := by decide +kernel
theorem dX4_kindHere_65 : decode cX4_kindHere 65 = .ok (.lload_n 1, 1) := by decide +kernel
theorem dX4_kindHere_66 : decode cX4_kindHere 66 = .ok (.ldc2_w 248, 3) := by decide +kernel
theorem dX4_kindHere_69 : decode cX4_kindHere 69 = .ok (.lcmp, 1) := by decide +kernel
theorem dX4_kindHere_70 : decode cX4_kindHere 70 = .ok (.ifCond .ne 7, 3) := by decide +kernel
theorem dX4_kindHere_73 : decode cX4_kindHere 73 = .ok (.iconst 5, 1) := by decide +kernel
theorem dX4_kindHere_74 : decode cX4_kindHere 74 = .ok (.goto 4, 3) := by decide +kernel
theorem dX4_kindHere_77 : decode cX4_kindHere 77 = .ok (.iconst (-1), 1) := by decide +kernel
theorem dX4_kindHere_78 : decode cX4_kindHere 78 = .ok (.ireturn, 1) := by decide +kernel
theorem dX4_personItem_0 : decode cX4_personItem 0 = .ok (.aload_n 0, 1) := by decide +kernel
theorem dX4_personItem_1 : decode cX4_personItem 1 = .ok (.aload_n 0, 1) := by decide +kernel
theorem dX4_personItem_2 : decode cX4_personItem 2 = .ok (.getfield 7, 3) := by decide +kernel
theorem dX4_personItem_5 : decode cX4_personItem 5 = .ok (.iconst 0, 1) := by decide +kernel
theorem dX4_personItem_6 : decode cX4_personItem 6 = .ok (.iaload, 1) := by decide +kernel
theorem dX4_personItem_7 : decode cX4_personItem 7 = .ok (.bipush 8, 2) := by decide +kernel
theorem dX4_personItem_9 : decode cX4_personItem 9 = .ok (.if_icmp .ge 7, 3) := by decide +kernel
theorem dX4_personItem_12 : decode cX4_personItem 12 = .ok (.iconst 1, 1) := by decide +kernel
theorem dX4_personItem_13 : decode cX4_personItem 13 = .ok (.goto 4, 3) := by decide +kernel
theorem dX4_personItem_16 : decode cX4_personItem 16 = .ok (.iconst 0, 1) := by decide +kernel
theorem dX4_personItem_17 : decode cX4_personItem 17 = .ok (.invokevirtual 230, 3) := by decide +kernel
theorem dX4_personItem_20 : decode cX4_personItem 20 = .ok (.aload_n 0, 1) := by decide +kernel
theorem dX4_personItem_21 : decode cX4_personItem 21 = .ok (.aload_n 0, 1) := by decide +kernel
theorem dX4_personItem_22 : decode cX4_personItem 22 = .ok (.invokevirtual 234, 3) := by decide +kernel
theorem dX4_personItem_25 : decode cX4_personItem 25 = .ok (.ldc2_w 250, 3) := by decide +kernel
theorem dX4_personItem_28 : decode cX4_personItem 28 = .ok (.lcmp, 1) := by decide +kernel
theorem dX4_personItem_29 : decode cX4_personItem 29 = .ok (.ifCond .ne 7, 3) := by decide +kernel
theorem dX4_personItem_32 : decode cX4_personItem 32 = .ok (.iconst 1, 1) := by decide +kernel
theorem dX4_personItem_33 : decode cX4_personItem 33 = .ok (.goto 4, 3) := by decide +kernel
theorem dX4_personItem_36 : decode cX4_personItem 36 = .ok (.iconst 0, 1) := by decide +kernel
theorem dX4_personItem_37 : decode cX4_personItem 37 = .ok (.invokevirtual 230, 3) := by decide +kernel
theorem dX4_personItem_40 : decode cX4_personItem 40 = .ok (.aload_n 0, 1) := by decide +kernel
theorem dX4_personItem_41 : decode cX4_personItem 41 = .ok (.iconst 0, 1) := by decide +kernel
theorem dX4_personItem_42 : decode cX4_personItem 42 = .ok (.bipush 47, 2) := by decide +kernel
theorem dX4_personItem_44 : decode cX4_personItem 44 = .ok (.invokevirtual 252, 3) := by decide +kernel
theorem dX4_personItem_47 : decode cX4_personItem 47 = .ok (.aload_n 0, 1) := by decide +kernel
theorem dX4_personItem_48 : decode cX4_personItem 48 = .ok (.getfield 216, 3) := by decide +kernel
theorem dX4_personItem_51 : decode cX4_personItem 51 = .ok (.ifCond .eq 4, 3) := by decide +kernel
theorem dX4_personItem_54 : decode cX4_personItem 54 = .ok (.return_, 1) := by decide +kernel
theorem dX4_personItem_55 : decode cX4_personItem 55 = .ok (.aload_n 0, 1) := by decide +kernel
theorem dX4_personItem_56 : decode cX4_personItem 56 = .ok (.iload_n 1, 1) := by decide +kernel
theorem dX4_personItem_57 : decode cX4_personItem 57 = .ok (.aload_n 0, 1) := by decide +kernel
theorem dX4_personItem_58 : decode cX4_personItem 58 = .ok (.getfield 227, 3) := by decide +kernel
theorem dX4_personItem_61 : decode cX4_personItem 61 = .ok (.invokevirtual 79, 3) := by decide +kernel
theorem dX4_personItem_64 : decode cX4_personItem 64 = .ok (.istore_n 2, 1) := by decide +kernel
theorem dX4_personItem_65 : decode cX4_personItem 65 = .ok (.aload_n 0, 1) := by decide +kernel
theorem dX4_personItem_66 : decode cX4_personItem 66 = .ok (.invokevirtual 234, 3) := by decide +kernel
theorem dX4_personItem_69 : decode cX4_personItem 69 = .ok (.ldc2_w 255, 3) := by decide +kernel
theorem dX4_personItem_72 : decode cX4_personItem 72 = .ok (.lcmp, 1) := by decide +kernel
theorem dX4_personItem_73 : decode cX4_personItem 73 = .ok (.ifCond .ne 29, 3) := by decide +kernel
theorem dX4_personItem_76 : decode cX4_personItem 76 = .ok (.aload_n 0, 1) := by decide +kernel
theorem dX4_personItem_77 : decode cX4_personItem 77 = .ok (.iconst 1, 1) := by decide +kernel
theorem dX4_personItem_78 : decode cX4_personItem 78 = .ok (.invokevirtual 230, 3) := by decide +kernel
theorem dX4_personItem_81 : decode cX4_personItem 81 = .ok (.aload_n 0, 1) := by decide +kernel
theorem dX4_personItem_82 : decode cX4_personItem 82 = .ok (.iconst 0, 1) := by decide +kernel
theorem dX4_personItem_83 : decode cX4_personItem 83 = .ok (.bipush 9, 2) := by decide +kernel
theorem dX4_personItem_85 : decode cX4_personItem 85 = .ok (.invokevirtual 252, 3) := by decide +kernel
theorem dX4_personItem_88 : decode cX4_personItem 88 = .ok (.aload_n 0, 1) := by decide +kernel
theorem dX4_personItem_89 : decode cX4_personItem 89 = .ok (.getfield 7, 3) := by decide +kernel
theorem dX4_personItem_92 : decode cX4_personItem 92 = .ok (.iload_n 2, 1) := by decide +kernel
theorem dX4_personItem_93 : decode cX4_personItem 93 = .ok (.iconst 2, 1) := by decide +kernel
theorem dX4_personItem_94 : decode cX4_personItem 94 = .ok (.invokestatic 57, 3) := by decide +kernel
theorem dX4_personItem_97 : decode cX4_personItem 97 = .ok (.aload_n 0, 1) := by decide +kernel
theorem dX4_personItem_98 : decode cX4_personItem 98 = .ok (.getfield 227, 3) := by decide +kernel
theorem dX4_personItem_101 : decode cX4_personItem 101 = .ok (.iastore, 1) := by decide +kernel
theorem dX4_personItem_102 : decode cX4_personItem 102 = .ok (.aload_n 0, 1) := by decide +kernel
theorem dX4_personItem_103 : decode cX4_personItem 103 = .ok (.invokevirtual 234, 3) := by decide +kernel
theorem dX4_personItem_106 : decode cX4_personItem 106 = .ok (.ldc2_w 257, 3) := by decide +kernel
theorem dX4_personItem_109 : decode cX4_personItem 109 = .ok (.lcmp, 1) := by decide +kernel
theorem dX4_personItem_110 : decode cX4_personItem 110 = .ok (.ifCond .ne 19, 3) := by decide +kernel
theorem dX4_personItem_113 : decode cX4_personItem 113 = .ok (.aload_n 0, 1) := by decide +kernel
theorem dX4_personItem_114 : decode cX4_personItem 114 = .ok (.iconst 1, 1) := by decide +kernel
theorem dX4_personItem_115 : decode cX4_personItem 115 = .ok (.invokevirtual 230, 3) := by decide +kernel
theorem dX4_personItem_118 : decode cX4_personItem 118 = .ok (.aload_n 0, 1) := by decide +kernel
theorem dX4_personItem_119 : decode cX4_personItem 119 = .ok (.getfield 7, 3) := by decide +kernel
theorem dX4_personItem_122 : decode cX4_personItem 122 = .ok (.iload_n 2, 1) := by decide +kernel
theorem dX4_personItem_123 : decode cX4_personItem 123 = .ok (.iconst 3, 1) := by decide +kernel
theorem dX4_personItem_124 : decode cX4_personItem 124 = .ok (.invokestatic 57, 3) := by decide +kernel
theorem dX4_personItem_127 : decode cX4_personItem 127 = .ok (.iconst 1, 1) := by decide +kernel
theorem dX4_personItem_128 : decode cX4_personItem 128 = .ok (.iastore, 1) := by decide +kernel
theorem dX4_personItem_129 : decode cX4_personItem 129 = .ok (.aload_n 0, 1) := by decide +kernel
theorem dX4_personItem_130 : decode cX4_personItem 130 = .ok (.invokevirtual 234, 3) := by decide +kernel
theorem dX4_personItem_133 : decode cX4_personItem 133 = .ok (.ldc2_w 259, 3) := by decide +kernel
theorem dX4_personItem_136 : decode cX4_personItem 136 = .ok (.lcmp, 1) := by decide +kernel
theorem dX4_personItem_137 : decode cX4_personItem 137 = .ok (.ifCond .ne 53, 3) := by decide +kernel
theorem dX4_personItem_140 : decode cX4_personItem 140 = .ok (.aload_n 0, 1) := by decide +kernel
theorem dX4_personItem_141 : decode cX4_personItem 141 = .ok (.iconst 1, 1) := by decide +kernel
theorem dX4_personItem_142 : decode cX4_personItem 142 = .ok (.invokevirtual 230, 3) := by decide +kernel
theorem dX4_personItem_145 : decode cX4_personItem 145 = .ok (.aload_n 0, 1) := by decide +kernel
theorem dX4_personItem_146 : decode cX4_personItem 146 = .ok (.iconst 0, 1) := by decide +kernel
theorem dX4_personItem_147 : decode cX4_personItem 147 = .ok (.iconst 5, 1) := by decide +kernel
theorem dX4_personItem_148 : decode cX4_personItem 148 = .ok (.invokevirtual 252, 3) := by decide +kernel
theorem dX4_personItem_151 : decode cX4_personItem 151 = .ok (.aload_n 0, 1) := by decide +kernel
theorem dX4_personItem_152 : decode cX4_personItem 152 = .ok (.getfield 216, 3) := by decide +kernel
theorem dX4_personItem_155 : decode cX4_personItem 155 = .ok (.ifCond .eq 7, 3) := by decide +kernel
theorem dX4_personItem_158 : decode cX4_personItem 158 = .ok (.iconst 0, 1) := by decide +kernel
theorem dX4_personItem_159 : decode cX4_personItem 159 = .ok (.goto 7, 3) := by decide +kernel
theorem dX4_personItem_162 : decode cX4_personItem 162 = .ok (.aload_n 0, 1) := by decide +kernel
theorem dX4_personItem_163 : decode cX4_personItem 163 = .ok (.getfield 227, 3) := by decide +kernel
theorem dX4_personItem_166 : decode cX4_personItem 166 = .ok (.istore_n 3, 1) := by decide +kernel
theorem dX4_personItem_167 : decode cX4_personItem 167 = .ok (.aload_n 0, 1) := by decide +kernel
theorem dX4_personItem_168 : decode cX4_personItem 168 = .ok (.iconst 0, 1) := by decide +kernel
theorem dX4_personItem_169 : decode cX4_personItem 169 = .ok (.bipush 99, 2) := by decide +kernel
theorem dX4_personItem_171 : decode cX4_personItem 171 = .ok (.invokevirtual 252, 3) := by decide +kernel
theorem dX4_personItem_174 : decode cX4_personItem 174 = .ok (.aload_n 0, 1) := by decide +kernel
theorem dX4_personItem_175 : decode cX4_personItem 175 = .ok (.getfield 7, 3) := by decide +kernel
theorem dX4_personItem_178 : decode cX4_personItem 178 = .ok (.iload_n 2, 1) := by decide +kernel
theorem dX4_personItem_179 : decode cX4_personItem 179 = .ok (.iconst 4, 1) := by decide +kernel
theorem dX4_personItem_180 : decode cX4_personItem 180 = .ok (.iload_n 3, 1) := by decide +kernel
theorem dX4_personItem_181 : decode cX4_personItem 181 = .ok (.iadd, 1) := by decide +kernel
theorem dX4_personItem_182 : decode cX4_personItem 182 = .ok (.invokestatic 57, 3) := by decide +kernel
theorem dX4_personItem_185 : decode cX4_personItem 185 = .ok (.aload_n 0, 1) := by decide +kernel
theorem dX4_personItem_186 : decode cX4_personItem 186 = .ok (.getfield 227, 3) := by decide +kernel
theorem dX4_personItem_189 : decode cX4_personItem 189 = .ok (.iastore, 1) := by decide +kernel
theorem dX4_personItem_190 : decode cX4_personItem 190 = .ok (.return_, 1) := by decide +kernel
theorem dX4_item_0 : decode cX4_item 0 = .ok (.aload_n 0, 1) := by decide +kernel
theorem dX4_item_1 : decode cX4_item 1 = .ok (.invokevirtual 261, 3) := by decide +kernel
theorem dX4_item_4 : decode cX4_item 4 = .ok (.istore_n 1, 1) := by decide +kernel
theorem dX4_item_5 : decode cX4_item 5 = .ok (.aload_n 0, 1) := by decide +kernel
theorem dX4_item_6 : decode cX4_item 6 = .ok (.invokevirtual 234, 3) := by decide +kernel
theorem dX4_item_9 : decode cX4_item 9 = .ok (.lstore_n 2, 1) := by decide +kernel
theorem dX4_item_10 : decode cX4_item 10 = .ok (.iload_n 1, 1) := by decide +kernel
theorem dX4_item_11 : decode cX4_item 11 = .ok (.ifCond .lt 11, 3) := by decide +kernel
theorem dX4_item_14 : decode cX4_item 14 = .ok (.aload_n 0, 1) := by decide +kernel
theorem dX4_item_15 : decode cX4_item 15 = .ok (.iload_n 1, 1) := by decide +kernel
theorem dX4_item_16 : decode cX4_item 16 = .ok (.invokevirtual 264, 3) := by decide +kernel
theorem dX4_item_19 : decode cX4_item 19 = .ok (.goto 101, 3) := by decide +kernel
theorem dX4_item_22 : decode cX4_item 22 = .ok (.lload_n 2, 1) := by decide +kernel
theorem dX4_item_23 : decode cX4_item 23 = .ok (.ldc2_w 267, 3) := by decide +kernel
theorem dX4_item_26 : decode cX4_item 26 = .ok (.lcmp, 1) := by decide +kernel
theorem dX4_item_27 : decode cX4_item 27 = .ok (.ifCond .ne 43, 3) := by decide +kernel
theorem dX4_item_30 : decode cX4_item 30 = .ok (.aload_n 0, 1) := by decide +kernel
theorem dX4_item_31 : decode cX4_item 31 = .ok (.iconst 1, 1) := by decide +kernel
theorem dX4_item_32 : decode cX4_item 32 = .ok (.invokevirtual 230, 3) := by decide +kernel
theorem dX4_item_35 : decode cX4_item 35 = .ok (.aload_n 0, 1) := by decide +kernel
theorem dX4_item_36 : decode cX4_item 36 = .ok (.iconst 0, 1) := by decide +kernel
theorem dX4_item_37 : decode cX4_item 37 = .ok (.iconst 4, 1) := by decide +kernel
theorem dX4_item_38 : decode cX4_item 38 = .ok (.invokevirtual 252, 3) := by decide +kernel
theorem dX4_item_41 : decode cX4_item 41 = .ok (.aload_n 0, 1) := by decide +kernel
theorem dX4_item_42 : decode cX4_item 42 = .ok (.getfield 7, 3) := by decide +kernel
theorem dX4_item_45 : decode cX4_item 45 = .ok (.iconst 2, 1) := by decide +kernel
theorem dX4_item_46 : decode cX4_item 46 = .ok (.aload_n 0, 1) := by decide +kernel
theorem dX4_item_47 : decode cX4_item 47 = .ok (.getfield 216, 3) := by decide +kernel
theorem dX4_item_50 : decode cX4_item 50 = .ok (.ifCond .eq 12, 3) := by decide +kernel
theorem dX4_item_53 : decode cX4_item 53 = .ok (.aload_n 0, 1) := by decide +kernel
theorem dX4_item_54 : decode cX4_item 54 = .ok (.getfield 7, 3) := by decide +kernel
theorem dX4_item_57 : decode cX4_item 57 = .ok (.iconst 2, 1) := by decide +kernel
theorem dX4_item_58 : decode cX4_item 58 = .ok (.iaload, 1) := by decide +kernel
theorem dX4_item_59 : decode cX4_item 59 = .ok (.goto 7, 3) := by decide +kernel
theorem dX4_item_62 : decode cX4_item 62 = .ok (.aload_n 0, 1) := by decide +kernel
theorem dX4_item_63 : decode cX4_item 63 = .ok (.getfield 227, 3) := by decide +kernel
theorem dX4_item_66 : decode cX4_item 66 = .ok (.iastore, 1) := by decide +kernel
theorem dX4_item_67 : decode cX4_item 67 = .ok (.goto 53, 3) := by decide +kernel
theorem dX4_item_70 : decode cX4_item 70 = .ok (.aload_n 0, 1) := by decide +kernel
theorem dX4_item_71 : decode cX4_item 71 = .ok (.lload_n 2, 1) := by decide +kernel
theorem dX4_item_72 : decode cX4_item 72 = .ok (.ldc2_w 269, 3) := by decide +kernel
theorem dX4_item_75 : decode cX4_item 75 = .ok (.lcmp, 1) := by decide +kernel
theorem dX4_item_76 : decode cX4_item 76 = .ok (.ifCond .ne 7, 3) := by decide +kernel
theorem dX4_item_79 : decode cX4_item 79 = .ok (.iconst 1, 1) := by decide +kernel
theorem dX4_item_80 : decode cX4_item 80 = .ok (.goto 4, 3) := by decide +kernel
theorem dX4_item_83 : decode cX4_item 83 = .ok (.iconst 0, 1) := by decide +kernel
theorem dX4_item_84 : decode cX4_item 84 = .ok (.invokevirtual 230, 3) := by decide +kernel
theorem dX4_item_87 : decode cX4_item 87 = .ok (.aload_n 0, 1) := by decide +kernel
theorem dX4_item_88 : decode cX4_item 88 = .ok (.iconst 1, 1) := by decide +kernel
theorem dX4_item_89 : decode cX4_item 89 = .ok (.bipush 99, 2) := by decide +kernel
theorem dX4_item_91 : decode cX4_item 91 = .ok (.invokevirtual 252, 3) := by decide +kernel
theorem dX4_item_94 : decode cX4_item 94 = .ok (.aload_n 0, 1) := by decide +kernel
theorem dX4_item_95 : decode cX4_item 95 = .ok (.getfield 7, 3) := by decide +kernel
theorem dX4_item_98 : decode cX4_item 98 = .ok (.iconst 3, 1) := by decide +kernel
theorem dX4_item_99 : decode cX4_item 99 = .ok (.aload_n 0, 1) := by decide +kernel
theorem dX4_item_100 : decode cX4_item 100 = .ok (.getfield 216, 3) := by decide +kernel
theorem dX4_item_103 : decode cX4_item 103 = .ok (.ifCond .eq 12, 3) := by decide +kernel
theorem dX4_item_106 : decode cX4_item 106 = .ok (.aload_n 0, 1) := by decide +kernel
theorem dX4_item_107 : decode cX4_item 107 = .ok (.getfield 7, 3) := by decide +kernel
theorem dX4_item_110 : decode cX4_item 110 = .ok (.iconst 3, 1) := by decide +kernel
theorem dX4_item_111 : decode cX4_item 111 = .ok (.iaload, 1) := by decide +kernel
theorem dX4_item_112 : decode cX4_item 112 = .ok (.goto 7, 3) := by decide +kernel
theorem dX4_item_115 : decode cX4_item 115 = .ok (.aload_n 0, 1) := by decide +kernel
theorem dX4_item_116 : decode cX4_item 116 = .ok (.getfield 227, 3) := by decide +kernel
theorem dX4_item_119 : decode cX4_item 119 = .ok (.iastore, 1) := by decide +kernel
theorem dX4_item_120 : decode cX4_item 120 = .ok (.return_, 1) := by decide +kernel
theorem dX4_hall_0 : decode cX4_hall 0 = .ok (.aload_n 0, 1) := by decide +kernel
theorem dX4_hall_1 : decode cX4_hall 1 = .ok (.invokevirtual 271, 3) := by decide +kernel
theorem dX4_hall_4 : decode cX4_hall 4 = .ok (.aload_n 0, 1) := by decide +kernel
theorem dX4_hall_5 : decode cX4_hall 5 = .ok (.iconst 0, 1) := by decide +kernel
theorem dX4_hall_6 : decode cX4_hall 6 = .ok (.putfield 216, 3) := by decide +kernel
theorem dX4_hall_9 : decode cX4_hall 9 = .ok (.aload_n 0, 1) := by decide +kernel
theorem dX4_hall_10 : decode cX4_hall 10 = .ok (.iconst 0, 1) := by decide +kernel
theorem dX4_hall_11 : decode cX4_hall 11 = .ok (.putfield 201, 3) := by decide +kernel
theorem dX4_hall_14 : decode cX4_hall 14 = .ok (.aload_n 0, 1) := by decide +kernel
theorem dX4_hall_15 : decode cX4_hall 15 = .ok (.invokevirtual 220, 3) := by decide +kernel
theorem dX4_hall_18 : decode cX4_hall 18 = .ok (.iconst 1, 1) := by decide +kernel
theorem dX4_hall_19 : decode cX4_hall 19 = .ok (.istore_n 1, 1) := by decide +kernel
theorem dX4_hall_20 : decode cX4_hall 20 = .ok (.aload_n 0, 1) := by decide +kernel
theorem dX4_hall_21 : decode cX4_hall 21 = .ok (.invokevirtual 274, 3) := by decide +kernel
theorem dX4_hall_24 : decode cX4_hall 24 = .ok (.aload_n 0, 1) := by decide +kernel
theorem dX4_hall_25 : decode cX4_hall 25 = .ok (.getfield 216, 3) := by decide +kernel
theorem dX4_hall_28 : decode cX4_hall 28 = .ok (.ifCond .ne 31, 3) := by decide +kernel
theorem dX4_hall_31 : decode cX4_hall 31 = .ok (.aload_n 0, 1) := by decide +kernel
theorem dX4_hall_32 : decode cX4_hall 32 = .ok (.aload_n 0, 1) := by decide +kernel
theorem dX4_hall_33 : decode cX4_hall 33 = .ok (.getfield 204, 3) := by decide +kernel
theorem dX4_hall_36 : decode cX4_hall 36 = .ok (.invokevirtual 207, 3) := by decide +kernel
theorem dX4_hall_39 : decode cX4_hall 39 = .ok (.bipush 59, 2) := by decide +kernel
theorem dX4_hall_41 : decode cX4_hall 41 = .ok (.if_icmp .ne 18, 3) := by decide +kernel
theorem dX4_hall_44 : decode cX4_hall 44 = .ok (.aload_n 0, 1) := by decide +kernel
theorem dX4_hall_45 : decode cX4_hall 45 = .ok (.iconst 1, 1) := by decide +kernel
theorem dX4_hall_46 : decode cX4_hall 46 = .ok (.invokevirtual 230, 3) := by decide +kernel
theorem dX4_hall_49 : decode cX4_hall 49 = .ok (.aload_n 0, 1) := by decide +kernel
theorem dX4_hall_50 : decode cX4_hall 50 = .ok (.invokevirtual 274, 3) := by decide +kernel
theorem dX4_hall_53 : decode cX4_hall 53 = .ok (.iinc 1 1, 3) := by decide +kernel
theorem dX4_hall_56 : decode cX4_hall 56 = .ok (.goto (-32), 3) := by decide +kernel
theorem dX4_hall_59 : decode cX4_hall 59 = .ok (.aload_n 0, 1) := by decide +kernel
theorem dX4_hall_60 : decode cX4_hall 60 = .ok (.aload_n 0, 1) := by decide +kernel
theorem dX4_hall_61 : decode cX4_hall 61 = .ok (.getfield 216, 3) := by decide +kernel
theorem dX4_hall_64 : decode cX4_hall 64 = .ok (.ifCond .ne 14, 3) := by decide +kernel
theorem dX4_hall_67 : decode cX4_hall 67 = .ok (.aload_n 0, 1) := by decide +kernel
theorem dX4_hall_68 : decode cX4_hall 68 = .ok (.getfield 204, 3) := by decide +kernel
theorem dX4_hall_71 : decode cX4_hall 71 = .ok (.aload_n 0, 1) := by decide +kernel
theorem dX4_hall_72 : decode cX4_hall 72 = .ok (.getfield 190, 3) := by decide +kernel
theorem dX4_hall_75 : decode cX4_hall 75 = .ok (.if_icmp .ge 7, 3) := by decide +kernel
theorem dX4_hall_78 : decode cX4_hall 78 = .ok (.iconst 1, 1) := by decide +kernel
theorem dX4_hall_79 : decode cX4_hall 79 = .ok (.goto 4, 3) := by decide +kernel
theorem dX4_hall_82 : decode cX4_hall 82 = .ok (.iconst 0, 1) := by decide +kernel
theorem dX4_hall_83 : decode cX4_hall 83 = .ok (.putfield 216, 3) := by decide +kernel
theorem dX4_hall_86 : decode cX4_hall 86 = .ok (.aload_n 0, 1) := by decide +kernel
theorem dX4_hall_87 : decode cX4_hall 87 = .ok (.getfield 216, 3) := by decide +kernel
theorem dX4_hall_90 : decode cX4_hall 90 = .ok (.ifCond .eq 7, 3) := by decide +kernel
theorem dX4_hall_93 : decode cX4_hall 93 = .ok (.aload_n 0, 1) := by decide +kernel
theorem dX4_hall_94 : decode cX4_hall 94 = .ok (.invokevirtual 277, 3) := by decide +kernel
theorem dX4_hall_97 : decode cX4_hall 97 = .ok (.aload_n 0, 1) := by decide +kernel
theorem dX4_hall_98 : decode cX4_hall 98 = .ok (.iconst 0, 1) := by decide +kernel
theorem dX4_hall_99 : decode cX4_hall 99 = .ok (.putfield 190, 3) := by decide +kernel
theorem dX4_hall_102 : decode cX4_hall 102 = .ok (.aload_n 0, 1) := by decide +kernel
theorem dX4_hall_103 : decode cX4_hall 103 = .ok (.getfield 216, 3) := by decide +kernel
theorem dX4_hall_106 : decode cX4_hall 106 = .ok (.ifCond .eq 12, 3) := by decide +kernel
theorem dX4_hall_109 : decode cX4_hall 109 = .ok (.iconst (-1), 1) := by decide +kernel
theorem dX4_hall_110 : decode cX4_hall 110 = .ok (.aload_n 0, 1) := by decide +kernel
theorem dX4_hall_111 : decode cX4_hall 111 = .ok (.getfield 204, 3) := by decide +kernel
theorem dX4_hall_114 : decode cX4_hall 114 = .ok (.isub, 1) := by decide +kernel
theorem dX4_hall_115 : decode cX4_hall 115 = .ok (.goto 4, 3) := by decide +kernel
theorem dX4_hall_118 : decode cX4_hall 118 = .ok (.iload_n 1, 1) := by decide +kernel
theorem dX4_hall_119 : decode cX4_hall 119 = .ok (.ireturn, 1) := by decide +kernel
theorem dX4_isOne_0 : decode cX4_isOne 0 = .ok (.iload_n 0, 1) := by decide +kernel
theorem dX4_isOne_1 : decode cX4_isOne 1 = .ok (.i2l, 1) := by decide +kernel
theorem dX4_isOne_2 : decode cX4_isOne 2 = .ok (.lconst 0, 1) := by decide +kernel
theorem dX4_isOne_3 : decode cX4_isOne 3 = .ok (.ldc2_w 280, 3) := by decide +kernel
theorem dX4_isOne_6 : decode cX4_isOne 6 = .ok (.invokestatic 47, 3) := by decide +kernel
theorem dX4_isOne_9 : decode cX4_isOne 9 = .ok (.ireturn, 1) := by decide +kernel
theorem dX4_sheet_0 : decode cX4_sheet 0 = .ok (.iload_n 1, 1) := by decide +kernel
theorem dX4_sheet_1 : decode cX4_sheet 1 = .ok (.invokestatic 282, 3) := by decide +kernel
theorem dX4_sheet_4 : decode cX4_sheet 4 = .ok (.ifCond .eq 25, 3) := by decide +kernel
theorem dX4_sheet_7 : decode cX4_sheet 7 = .ok (.iload_n 2, 1) := by decide +kernel
theorem dX4_sheet_8 : decode cX4_sheet 8 = .ok (.ifCond .eq 28, 3) := by decide +kernel
theorem dX4_sheet_11 : decode cX4_sheet 11 = .ok (.iload_n 2, 1) := by decide +kernel
theorem dX4_sheet_12 : decode cX4_sheet 12 = .ok (.bipush 8, 2) := by decide +kernel
theorem dX4_sheet_14 : decode cX4_sheet 14 = .ok (.if_icmp .eq 22, 3) := by decide +kernel
theorem dX4_sheet_17 : decode cX4_sheet 17 = .ok (.iload_n 2, 1) := by decide +kernel
theorem dX4_sheet_18 : decode cX4_sheet 18 = .ok (.bipush 16, 2) := by decide +kernel
theorem dX4_sheet_20 : decode cX4_sheet 20 = .ok (.if_icmp .eq 16, 3) := by decide +kernel
theorem dX4_sheet_23 : decode cX4_sheet 23 = .ok (.iload_n 2, 1) := by decide +kernel
theorem dX4_sheet_24 : decode cX4_sheet 24 = .ok (.bipush 64, 2) := by decide +kernel
theorem dX4_sheet_26 : decode cX4_sheet 26 = .ok (.if_icmp .eq 10, 3) := by decide +kernel
theorem dX4_sheet_29 : decode cX4_sheet 29 = .ok (.aload_n 0, 1) := by decide +kernel
theorem dX4_sheet_30 : decode cX4_sheet 30 = .ok (.ldc 44, 2) := by decide +kernel
theorem dX4_sheet_32 : decode cX4_sheet 32 = .ok (.invokevirtual 68, 3) := by decide +kernel
theorem dX4_sheet_35 : decode cX4_sheet 35 = .ok (.ireturn, 1) := by decide +kernel
theorem dX4_sheet_36 : decode cX4_sheet 36 = .ok (.iload_n 3, 1) := by decide +kernel
theorem dX4_sheet_37 : decode cX4_sheet 37 = .ok (.ifCond .ge 11, 3) := by decide +kernel
theorem dX4_sheet_40 : decode cX4_sheet 40 = .ok (.aload_n 0, 1) := by decide +kernel
theorem dX4_sheet_41 : decode cX4_sheet 41 = .ok (.ldc_w 285, 3) := by decide +kernel
theorem dX4_sheet_44 : decode cX4_sheet 44 = .ok (.invokevirtual 68, 3) := by decide +kernel
theorem dX4_sheet_47 : decode cX4_sheet 47 = .ok (.ireturn, 1) := by decide +kernel
theorem dX4_sheet_48 : decode cX4_sheet 48 = .ok (.iload_n 3, 1) := by decide +kernel
theorem dX4_sheet_49 : decode cX4_sheet 49 = .ok (.bipush 40, 2) := by decide +kernel
theorem dX4_sheet_51 : decode cX4_sheet 51 = .ok (.if_icmp .le 10, 3) := by decide +kernel
theorem dX4_sheet_54 : decode cX4_sheet 54 = .ok (.aload_n 0, 1) := by decide +kernel
theorem dX4_sheet_55 : decode cX4_sheet 55 = .ok (.ldc 44, 2) := by decide +kernel
theorem dX4_sheet_57 : decode cX4_sheet 57 = .ok (.invokevirtual 68, 3) := by decide +kernel
theorem dX4_sheet_60 : decode cX4_sheet 60 = .ok (.ireturn, 1) := by decide +kernel
theorem dX4_sheet_61 : decode cX4_sheet 61 = .ok (.aload_n 0, 1) := by decide +kernel
theorem dX4_sheet_62 : decode cX4_sheet 62 = .ok (.getfield 31, 3) := by decide +kernel
theorem dX4_sheet_65 : decode cX4_sheet 65 = .ok (.iload_n 1, 1) := by decide +kernel
theorem dX4_sheet_66 : decode cX4_sheet 66 = .ok (.iload_n 2, 1) := by decide +kernel
theorem dX4_sheet_67 : decode cX4_sheet 67 = .ok (.iastore, 1) := by decide +kernel
theorem dX4_sheet_68 : decode cX4_sheet 68 = .ok (.aload_n 0, 1) := by decide +kernel
theorem dX4_sheet_69 : decode cX4_sheet 69 = .ok (.getfield 34, 3) := by decide +kernel
theorem dX4_sheet_72 : decode cX4_sheet 72 = .ok (.iload_n 1, 1) := by decide +kernel
theorem dX4_sheet_73 : decode cX4_sheet 73 = .ok (.iload_n 2, 1) := by decide +kernel
theorem dX4_sheet_74 : decode cX4_sheet 74 = .ok (.ifCond .ne 7, 3) := by decide +kernel
theorem dX4_sheet_77 : decode cX4_sheet 77 = .ok (.iconst 0, 1) := by decide +kernel
theorem dX4_sheet_78 : decode cX4_sheet 78 = .ok (.goto 4, 3) := by decide +kernel
theorem dX4_sheet_81 : decode cX4_sheet 81 = .ok (.iload_n 3, 1) := by decide +kernel
theorem dX4_sheet_82 : decode cX4_sheet 82 = .ok (.iastore, 1) := by decide +kernel
theorem dX4_sheet_83 : decode cX4_sheet 83 = .ok (.iconst 0, 1) := by decide +kernel
theorem dX4_sheet_84 : decode cX4_sheet 84 = .ok (.istore 4, 2) := by decide +kernel
theorem dX4_sheet_86 : decode cX4_sheet 86 = .ok (.iload 4, 2) := by decide +kernel
theorem dX4_sheet_88 : decode cX4_sheet 88 = .ok (.bipush 40, 2) := by decide +kernel
theorem dX4_sheet_90 : decode cX4_sheet 90 = .ok (.if_icmp .ge 22, 3) := by decide +kernel
theorem dX4_sheet_93 : decode cX4_sheet 93 = .ok (.aload_n 0, 1) := by decide +kernel
theorem dX4_sheet_94 : decode cX4_sheet 94 = .ok (.getfield 37, 3) := by decide +kernel
theorem dX4_sheet_97 : decode cX4_sheet 97 = .ok (.bipush 40, 2) := by decide +kernel
theorem dX4_sheet_99 : decode cX4_sheet 99 = .ok (.iload_n 1, 1) := by decide +kernel
theorem dX4_sheet_100 : decode cX4_sheet 100 = .ok (.imul, 1) := by decide +kernel
theorem dX4_sheet_101 : decode cX4_sheet 101 = .ok (.iload 4, 2) := by decide +kernel
theorem dX4_sheet_103 : decode cX4_sheet 103 = .ok (.iadd, 1) := by decide +kernel
theorem dX4_sheet_104 : decode cX4_sheet 104 = .ok (.lconst 0, 1) := by decide +kernel
theorem dX4_sheet_105 : decode cX4_sheet 105 = .ok (.lastore, 1) := by decide +kernel
theorem dX4_sheet_106 : decode cX4_sheet 106 = .ok (.iinc 4 1, 3) := by decide +kernel
theorem dX4_sheet_109 : decode cX4_sheet 109 = .ok (.goto (-23), 3) := by decide +kernel
theorem dX4_sheet_112 : decode cX4_sheet 112 = .ok (.aload_n 0, 1) := by decide +kernel
theorem dX4_sheet_113 : decode cX4_sheet 113 = .ok (.getfield 34, 3) := by decide +kernel
theorem dX4_sheet_116 : decode cX4_sheet 116 = .ok (.iload_n 1, 1) := by decide +kernel
theorem dX4_sheet_117 : decode cX4_sheet 117 = .ok (.iaload, 1) := by decide +kernel
theorem dX4_sheet_118 : decode cX4_sheet 118 = .ok (.ireturn, 1) := by decide +kernel
theorem dX4_narrowed_0 : decode cX4_narrowed 0 = .ok (.iload_n 0, 1) := by decide +kernel
theorem dX4_narrowed_1 : decode cX4_narrowed 1 = .ok (.bipush 8, 2) := by decide +kernel
theorem dX4_narrowed_3 : decode cX4_narrowed 3 = .ok (.if_icmp .ne 10, 3) := by decide +kernel
theorem dX4_narrowed_6 : decode cX4_narrowed 6 = .ok (.lload_n 1, 1) := by decide +kernel
theorem dX4_narrowed_7 : decode cX4_narrowed 7 = .ok (.l2i, 1) := by decide +kernel
theorem dX4_narrowed_8 : decode cX4_narrowed 8 = .ok (.i2b, 1) := by decide +kernel
theorem dX4_narrowed_9 : decode cX4_narrowed 9 = .ok (.i2l, 1) := by decide +kernel
theorem dX4_narrowed_10 : decode cX4_narrowed 10 = .ok (.goto 17, 3) := by decide +kernel
theorem dX4_narrowed_13 : decode cX4_narrowed 13 = .ok (.iload_n 0, 1) := by decide +kernel
theorem dX4_narrowed_14 : decode cX4_narrowed 14 = .ok (.bipush 16, 2) := by decide +kernel
theorem dX4_narrowed_16 : decode cX4_narrowed 16 = .ok (.if_icmp .ne 10, 3) := by decide +kernel
theorem dX4_narrowed_19 : decode cX4_narrowed 19 = .ok (.lload_n 1, 1) := by decide +kernel
theorem dX4_narrowed_20 : decode cX4_narrowed 20 = .ok (.l2i, 1) := by decide +kernel
theorem dX4_narrowed_21 : decode cX4_narrowed 21 = .ok (.i2s, 1) := by decide +kernel
theorem dX4_narrowed_22 : decode cX4_narrowed 22 = .ok (.i2l, 1) := by decide +kernel
theorem dX4_narrowed_23 : decode cX4_narrowed 23 = .ok (.goto 4, 3) := by decide +kernel
theorem dX4_narrowed_26 : decode cX4_narrowed 26 = .ok (.lload_n 1, 1) := by decide +kernel
theorem dX4_narrowed_27 : decode cX4_narrowed 27 = .ok (.lreturn, 1) := by decide +kernel
theorem dX4_wrongSheet_0 : decode cX4_wrongSheet 0 = .ok (.iload_n 1, 1) := by decide +kernel
theorem dX4_wrongSheet_1 : decode cX4_wrongSheet 1 = .ok (.invokestatic 282, 3) := by decide +kernel
theorem dX4_wrongSheet_4 : decode cX4_wrongSheet 4 = .ok (.ifCond .ne 8, 3) := by decide +kernel
theorem dX4_wrongSheet_7 : decode cX4_wrongSheet 7 = .ok (.ldc 44, 2) := by decide +kernel
theorem dX4_wrongSheet_9 : decode cX4_wrongSheet 9 = .ok (.goto 19, 3) := by decide +kernel
theorem dX4_wrongSheet_12 : decode cX4_wrongSheet 12 = .ok (.aload_n 0, 1) := by decide +kernel
theorem dX4_wrongSheet_13 : decode cX4_wrongSheet 13 = .ok (.getfield 31, 3) := by decide +kernel
theorem dX4_wrongSheet_16 : decode cX4_wrongSheet 16 = .ok (.iload_n 1, 1) := by decide +kernel
theorem dX4_wrongSheet_17 : decode cX4_wrongSheet 17 = .ok (.iaload, 1) := by decide +kernel
theorem dX4_wrongSheet_18 : decode cX4_wrongSheet 18 = .ok (.ifCond .ne 9, 3) := by decide +kernel
theorem dX4_wrongSheet_21 : decode cX4_wrongSheet 21 = .ok (.ldc_w 286, 3) := by decide +kernel
theorem dX4_wrongSheet_24 : decode cX4_wrongSheet 24 = .ok (.goto 4, 3) := by decide +kernel
theorem dX4_wrongSheet_27 : decode cX4_wrongSheet 27 = .ok (.iconst 0, 1) := by decide +kernel
theorem dX4_wrongSheet_28 : decode cX4_wrongSheet 28 = .ok (.ireturn, 1) := by decide +kernel
theorem dX4_write_0 : decode cX4_write 0 = .ok (.aload_n 0, 1) := by decide +kernel
theorem dX4_write_1 : decode cX4_write 1 = .ok (.iload_n 1, 1) := by decide +kernel
theorem dX4_write_2 : decode cX4_write 2 = .ok (.invokevirtual 287, 3) := by decide +kernel
theorem dX4_write_5 : decode cX4_write 5 = .ok (.istore 5, 2) := by decide +kernel
theorem dX4_write_7 : decode cX4_write 7 = .ok (.iload 5, 2) := by decide +kernel
theorem dX4_write_9 : decode cX4_write 9 = .ok (.ifCond .eq 11, 3) := by decide +kernel
theorem dX4_write_12 : decode cX4_write 12 = .ok (.aload_n 0, 1) := by decide +kernel
theorem dX4_write_13 : decode cX4_write 13 = .ok (.iload 5, 2) := by decide +kernel
theorem dX4_write_15 : decode cX4_write 15 = .ok (.invokevirtual 68, 3) := by decide +kernel
theorem dX4_write_18 : decode cX4_write 18 = .ok (.i2l, 1) := by decide +kernel
theorem dX4_write_19 : decode cX4_write 19 = .ok (.lreturn, 1) := by decide +kernel
theorem dX4_write_20 : decode cX4_write 20 = .ok (.iload_n 2, 1) := by decide +kernel
theorem dX4_write_21 : decode cX4_write 21 = .ok (.i2l, 1) := by decide +kernel
theorem dX4_write_22 : decode cX4_write 22 = .ok (.lconst 0, 1) := by decide +kernel
theorem dX4_write_23 : decode cX4_write 23 = .ok (.aload_n 0, 1) := by decide +kernel
theorem dX4_write_24 : decode cX4_write 24 = .ok (.getfield 34, 3) := by decide +kernel
theorem dX4_write_27 : decode cX4_write 27 = .ok (.iload_n 1, 1) := by decide +kernel
theorem dX4_write_28 : decode cX4_write 28 = .ok (.iaload, 1) := by decide +kernel
theorem dX4_write_29 : decode cX4_write 29 = .ok (.iconst 1, 1) := by decide +kernel
theorem dX4_write_30 : decode cX4_write 30 = .ok (.isub, 1) := by decide +kernel
theorem dX4_write_31 : decode cX4_write 31 = .ok (.i2l, 1) := by decide +kernel
theorem dX4_write_32 : decode cX4_write 32 = .ok (.invokestatic 47, 3) := by decide +kernel
theorem dX4_write_35 : decode cX4_write 35 = .ok (.ifCond .ne 11, 3) := by decide +kernel
theorem dX4_write_38 : decode cX4_write 38 = .ok (.aload_n 0, 1) := by decide +kernel
theorem dX4_write_39 : decode cX4_write 39 = .ok (.ldc 44, 2) := by decide +kernel
theorem dX4_write_41 : decode cX4_write 41 = .ok (.invokevirtual 68, 3) := by decide +kernel
theorem dX4_write_44 : decode cX4_write 44 = .ok (.i2l, 1) := by decide +kernel
theorem dX4_write_45 : decode cX4_write 45 = .ok (.lreturn, 1) := by decide +kernel
theorem dX4_write_46 : decode cX4_write 46 = .ok (.aload_n 0, 1) := by decide +kernel
theorem dX4_write_47 : decode cX4_write 47 = .ok (.getfield 37, 3) := by decide +kernel
theorem dX4_write_50 : decode cX4_write 50 = .ok (.bipush 40, 2) := by decide +kernel
theorem dX4_write_52 : decode cX4_write 52 = .ok (.iload_n 1, 1) := by decide +kernel
theorem dX4_write_53 : decode cX4_write 53 = .ok (.imul, 1) := by decide +kernel
theorem dX4_write_54 : decode cX4_write 54 = .ok (.iload_n 2, 1) := by decide +kernel
theorem dX4_write_55 : decode cX4_write 55 = .ok (.iadd, 1) := by decide +kernel
theorem dX4_write_56 : decode cX4_write 56 = .ok (.laload, 1) := by decide +kernel
theorem dX4_write_57 : decode cX4_write 57 = .ok (.lstore 6, 2) := by decide +kernel
theorem dX4_write_59 : decode cX4_write 59 = .ok (.aload_n 0, 1) := by decide +kernel
theorem dX4_write_60 : decode cX4_write 60 = .ok (.getfield 37, 3) := by decide +kernel
theorem dX4_write_63 : decode cX4_write 63 = .ok (.bipush 40, 2) := by decide +kernel
theorem dX4_write_65 : decode cX4_write 65 = .ok (.iload_n 1, 1) := by decide +kernel
theorem dX4_write_66 : decode cX4_write 66 = .ok (.imul, 1) := by decide +kernel
theorem dX4_write_67 : decode cX4_write 67 = .ok (.iload_n 2, 1) := by decide +kernel
theorem dX4_write_68 : decode cX4_write 68 = .ok (.iadd, 1) := by decide +kernel
theorem dX4_write_69 : decode cX4_write 69 = .ok (.aload_n 0, 1) := by decide +kernel
theorem dX4_write_70 : decode cX4_write 70 = .ok (.getfield 31, 3) := by decide +kernel
theorem dX4_write_73 : decode cX4_write 73 = .ok (.iload_n 1, 1) := by decide +kernel
theorem dX4_write_74 : decode cX4_write 74 = .ok (.iaload, 1) := by decide +kernel
theorem dX4_write_75 : decode cX4_write 75 = .ok (.lload_n 3, 1) := by decide +kernel
theorem dX4_write_76 : decode cX4_write 76 = .ok (.invokestatic 290, 3) := by decide +kernel
theorem dX4_write_79 : decode cX4_write 79 = .ok (.lastore, 1) := by decide +kernel
theorem dX4_write_80 : decode cX4_write 80 = .ok (.lload 6, 2) := by decide +kernel
theorem dX4_write_82 : decode cX4_write 82 = .ok (.lreturn, 1) := by decide +kernel
theorem dX4_copy_0 : decode cX4_copy 0 = .ok (.iload_n 1, 1) := by decide +kernel
theorem dX4_copy_1 : decode cX4_copy 1 = .ok (.invokestatic 282, 3) := by decide +kernel
theorem dX4_copy_4 : decode cX4_copy 4 = .ok (.ifCond .eq 10, 3) := by decide +kernel
theorem dX4_copy_7 : decode cX4_copy 7 = .ok (.iload_n 3, 1) := by decide +kernel
theorem dX4_copy_8 : decode cX4_copy 8 = .ok (.invokestatic 282, 3) := by decide +kernel
theorem dX4_copy_11 : decode cX4_copy 11 = .ok (.ifCond .ne 10, 3) := by decide +kernel
theorem dX4_copy_14 : decode cX4_copy 14 = .ok (.aload_n 0, 1) := by decide +kernel
theorem dX4_copy_15 : decode cX4_copy 15 = .ok (.ldc 44, 2) := by decide +kernel
theorem dX4_copy_17 : decode cX4_copy 17 = .ok (.invokevirtual 68, 3) := by decide +kernel
theorem dX4_copy_20 : decode cX4_copy 20 = .ok (.ireturn, 1) := by decide +kernel
theorem dX4_copy_21 : decode cX4_copy 21 = .ok (.aload_n 0, 1) := by decide +kernel
theorem dX4_copy_22 : decode cX4_copy 22 = .ok (.getfield 31, 3) := by decide +kernel
theorem dX4_copy_25 : decode cX4_copy 25 = .ok (.iload_n 1, 1) := by decide +kernel
theorem dX4_copy_26 : decode cX4_copy 26 = .ok (.iaload, 1) := by decide +kernel
theorem dX4_copy_27 : decode cX4_copy 27 = .ok (.ifCond .eq 12, 3) := by decide +kernel
theorem dX4_copy_30 : decode cX4_copy 30 = .ok (.aload_n 0, 1) := by decide +kernel
theorem dX4_copy_31 : decode cX4_copy 31 = .ok (.getfield 31, 3) := by decide +kernel
theorem dX4_copy_34 : decode cX4_copy 34 = .ok (.iload_n 3, 1) := by decide +kernel
theorem dX4_copy_35 : decode cX4_copy 35 = .ok (.iaload, 1) := by decide +kernel
theorem dX4_copy_36 : decode cX4_copy 36 = .ok (.ifCond .ne 11, 3) := by decide +kernel
theorem dX4_copy_39 : decode cX4_copy 39 = .ok (.aload_n 0, 1) := by decide +kernel
theorem dX4_copy_40 : decode cX4_copy 40 = .ok (.ldc_w 286, 3) := by decide +kernel
theorem dX4_copy_43 : decode cX4_copy 43 = .ok (.invokevirtual 68, 3) := by decide +kernel
theorem dX4_copy_46 : decode cX4_copy 46 = .ok (.ireturn, 1) := by decide +kernel
theorem dX4_copy_47 : decode cX4_copy 47 = .ok (.aload_n 0, 1) := by decide +kernel
theorem dX4_copy_48 : decode cX4_copy 48 = .ok (.getfield 31, 3) := by decide +kernel
theorem dX4_copy_51 : decode cX4_copy 51 = .ok (.iload_n 1, 1) := by decide +kernel
theorem dX4_copy_52 : decode cX4_copy 52 = .ok (.iaload, 1) := by decide +kernel
theorem dX4_copy_53 : decode cX4_copy 53 = .ok (.aload_n 0, 1) := by decide +kernel
theorem dX4_copy_54 : decode cX4_copy 54 = .ok (.getfield 31, 3) := by decide +kernel
theorem dX4_copy_57 : decode cX4_copy 57 = .ok (.iload_n 3, 1) := by decide +kernel
theorem dX4_copy_58 : decode cX4_copy 58 = .ok (.iaload, 1) := by decide +kernel
theorem dX4_copy_59 : decode cX4_copy 59 = .ok (.if_icmp .eq 10, 3) := by decide +kernel
theorem dX4_copy_62 : decode cX4_copy 62 = .ok (.aload_n 0, 1) := by decide +kernel
theorem dX4_copy_63 : decode cX4_copy 63 = .ok (.ldc 103, 2) := by decide +kernel
theorem dX4_copy_65 : decode cX4_copy 65 = .ok (.invokevirtual 68, 3) := by decide +kernel
theorem dX4_copy_68 : decode cX4_copy 68 = .ok (.ireturn, 1) := by decide +kernel
theorem dX4_copy_69 : decode cX4_copy 69 = .ok (.iload_n 2, 1) := by decide +kernel
theorem dX4_copy_70 : decode cX4_copy 70 = .ok (.ifCond .lt 40, 3) := by decide +kernel
theorem dX4_copy_73 : decode cX4_copy 73 = .ok (.iload 4, 2) := by decide +kernel
theorem dX4_copy_75 : decode cX4_copy 75 = .ok (.ifCond .lt 35, 3) := by decide +kernel
theorem dX4_copy_78 : decode cX4_copy 78 = .ok (.iload 5, 2) := by decide +kernel
theorem dX4_copy_80 : decode cX4_copy 80 = .ok (.ifCond .lt 30, 3) := by decide +kernel
theorem dX4_copy_83 : decode cX4_copy 83 = .ok (.iload 5, 2) := by decide +kernel
theorem dX4_copy_85 : decode cX4_copy 85 = .ok (.aload_n 0, 1) := by decide +kernel
theorem dX4_copy_86 : decode cX4_copy 86 = .ok (.getfield 34, 3) := by decide +kernel
theorem dX4_copy_89 : decode cX4_copy 89 = .ok (.iload_n 1, 1) := by decide +kernel
theorem dX4_copy_90 : decode cX4_copy 90 = .ok (.iaload, 1) := by decide +kernel
theorem dX4_copy_91 : decode cX4_copy 91 = .ok (.iload_n 2, 1) := by decide +kernel
theorem dX4_copy_92 : decode cX4_copy 92 = .ok (.isub, 1) := by decide +kernel
theorem dX4_copy_93 : decode cX4_copy 93 = .ok (.if_icmp .gt 17, 3) := by decide +kernel
theorem dX4_copy_96 : decode cX4_copy 96 = .ok (.iload 5, 2) := by decide +kernel
theorem dX4_copy_98 : decode cX4_copy 98 = .ok (.aload_n 0, 1) := by decide +kernel
theorem dX4_copy_99 : decode cX4_copy 99 = .ok (.getfield 34, 3) := by decide +kernel
theorem dX4_copy_102 : decode cX4_copy 102 = .ok (.iload_n 3, 1) := by decide +kernel
theorem dX4_copy_103 : decode cX4_copy 103 = .ok (.iaload, 1) := by decide +kernel
theorem dX4_copy_104 : decode cX4_copy 104 = .ok (.iload 4, 2) := by decide +kernel
theorem dX4_copy_106 : decode cX4_copy 106 = .ok (.isub, 1) := by decide +kernel
theorem dX4_copy_107 : decode cX4_copy 107 = .ok (.if_icmp .le 10, 3) := by decide +kernel
theorem dX4_copy_110 : decode cX4_copy 110 = .ok (.aload_n 0, 1) := by decide +kernel
theorem dX4_copy_111 : decode cX4_copy 111 = .ok (.ldc 44, 2) := by decide +kernel
theorem dX4_copy_113 : decode cX4_copy 113 = .ok (.invokevirtual 68, 3) := by decide +kernel
theorem dX4_copy_116 : decode cX4_copy 116 = .ok (.ireturn, 1) := by decide +kernel
theorem dX4_copy_117 : decode cX4_copy 117 = .ok (.iconst 0, 1) := by decide +kernel
theorem dX4_copy_118 : decode cX4_copy 118 = .ok (.istore 6, 2) := by decide +kernel
theorem dX4_copy_120 : decode cX4_copy 120 = .ok (.iload 6, 2) := by decide +kernel
theorem dX4_copy_122 : decode cX4_copy 122 = .ok (.iload 5, 2) := by decide +kernel
theorem dX4_copy_124 : decode cX4_copy 124 = .ok (.if_icmp .ge 30, 3) := by decide +kernel
theorem dX4_copy_127 : decode cX4_copy 127 = .ok (.aload_n 0, 1) := by decide +kernel
theorem dX4_copy_128 : decode cX4_copy 128 = .ok (.getfield 41, 3) := by decide +kernel
theorem dX4_copy_131 : decode cX4_copy 131 = .ok (.iload 6, 2) := by decide +kernel
theorem dX4_copy_133 : decode cX4_copy 133 = .ok (.aload_n 0, 1) := by decide +kernel
theorem dX4_copy_134 : decode cX4_copy 134 = .ok (.getfield 37, 3) := by decide +kernel
theorem dX4_copy_137 : decode cX4_copy 137 = .ok (.bipush 40, 2) := by decide +kernel
theorem dX4_copy_139 : decode cX4_copy 139 = .ok (.iload_n 1, 1) := by decide +kernel
theorem dX4_copy_140 : decode cX4_copy 140 = .ok (.imul, 1) := by decide +kernel
theorem dX4_copy_141 : decode cX4_copy 141 = .ok (.iload_n 2, 1) := by decide +kernel
theorem dX4_copy_142 : decode cX4_copy 142 = .ok (.iadd, 1) := by decide +kernel
theorem dX4_copy_143 : decode cX4_copy 143 = .ok (.iload 6, 2) := by decide +kernel
theorem dX4_copy_145 : decode cX4_copy 145 = .ok (.iadd, 1) := by decide +kernel
theorem dX4_copy_146 : decode cX4_copy 146 = .ok (.laload, 1) := by decide +kernel
theorem dX4_copy_147 : decode cX4_copy 147 = .ok (.lastore, 1) := by decide +kernel
theorem dX4_copy_148 : decode cX4_copy 148 = .ok (.iinc 6 1, 3) := by decide +kernel
theorem dX4_copy_151 : decode cX4_copy 151 = .ok (.goto (-31), 3) := by decide +kernel
theorem dX4_copy_154 : decode cX4_copy 154 = .ok (.iconst 0, 1) := by decide +kernel
theorem dX4_copy_155 : decode cX4_copy 155 = .ok (.istore 6, 2) := by decide +kernel
theorem dX4_copy_157 : decode cX4_copy 157 = .ok (.iload 6, 2) := by decide +kernel
theorem dX4_copy_159 : decode cX4_copy 159 = .ok (.iload 5, 2) := by decide +kernel
theorem dX4_copy_161 : decode cX4_copy 161 = .ok (.if_icmp .ge 31, 3) := by decide +kernel
theorem dX4_copy_164 : decode cX4_copy 164 = .ok (.aload_n 0, 1) := by decide +kernel
theorem dX4_copy_165 : decode cX4_copy 165 = .ok (.getfield 37, 3) := by decide +kernel
theorem dX4_copy_168 : decode cX4_copy 168 = .ok (.bipush 40, 2) := by decide +kernel
theorem dX4_copy_170 : decode cX4_copy 170 = .ok (.iload_n 3, 1) := by decide +kernel
theorem dX4_copy_171 : decode cX4_copy 171 = .ok (.imul, 1) := by decide +kernel
theorem dX4_copy_172 : decode cX4_copy 172 = .ok (.iload 4, 2) := by decide +kernel
theorem dX4_copy_174 : decode cX4_copy 174 = .ok (.iadd, 1) := by decide +kernel
theorem dX4_copy_175 : decode cX4_copy 175 = .ok (.iload 6, 2) := by decide +kernel
theorem dX4_copy_177 : decode cX4_copy 177 = .ok (.iadd, 1) := by decide +kernel
theorem dX4_copy_178 : decode cX4_copy 178 = .ok (.aload_n 0, 1) := by decide +kernel
theorem dX4_copy_179 : decode cX4_copy 179 = .ok (.getfield 41, 3) := by decide +kernel
theorem dX4_copy_182 : decode cX4_copy 182 = .ok (.iload 6, 2) := by decide +kernel
theorem dX4_copy_184 : decode cX4_copy 184 = .ok (.laload, 1) := by decide +kernel
theorem dX4_copy_185 : decode cX4_copy 185 = .ok (.lastore, 1) := by decide +kernel
theorem dX4_copy_186 : decode cX4_copy 186 = .ok (.iinc 6 1, 3) := by decide +kernel
theorem dX4_copy_189 : decode cX4_copy 189 = .ok (.goto (-32), 3) := by decide +kernel
theorem dX4_copy_192 : decode cX4_copy 192 = .ok (.iload 5, 2) := by decide +kernel
theorem dX4_copy_194 : decode cX4_copy 194 = .ok (.ireturn, 1) := by decide +kernel
theorem dX4_lays_0 : decode cX4_lays 0 = .ok (.aload_n 0, 1) := by decide +kernel
theorem dX4_lays_1 : decode cX4_lays 1 = .ok (.iload_n 1, 1) := by decide +kernel
theorem dX4_lays_2 : decode cX4_lays 2 = .ok (.invokevirtual 287, 3) := by decide +kernel
theorem dX4_lays_5 : decode cX4_lays 5 = .ok (.istore_n 2, 1) := by decide +kernel
theorem dX4_lays_6 : decode cX4_lays 6 = .ok (.iload_n 2, 1) := by decide +kernel
theorem dX4_lays_7 : decode cX4_lays 7 = .ok (.ifCond .eq 9, 3) := by decide +kernel
theorem dX4_lays_10 : decode cX4_lays 10 = .ok (.aload_n 0, 1) := by decide +kernel
theorem dX4_lays_11 : decode cX4_lays 11 = .ok (.iload_n 2, 1) := by decide +kernel
theorem dX4_lays_12 : decode cX4_lays 12 = .ok (.invokevirtual 68, 3) := by decide +kernel
theorem dX4_lays_15 : decode cX4_lays 15 = .ok (.ireturn, 1) := by decide +kernel
theorem dX4_lays_16 : decode cX4_lays 16 = .ok (.iconst 0, 1) := by decide +kernel
theorem dX4_lays_17 : decode cX4_lays 17 = .ok (.istore_n 3, 1) := by decide +kernel
theorem dX4_lays_18 : decode cX4_lays 18 = .ok (.iconst 0, 1) := by decide +kernel
theorem dX4_lays_19 : decode cX4_lays 19 = .ok (.istore 4, 2) := by decide +kernel
theorem dX4_lays_21 : decode cX4_lays 21 = .ok (.iload 4, 2) := by decide +kernel
theorem dX4_lays_23 : decode cX4_lays 23 = .ok (.aload_n 0, 1) := by decide +kernel
theorem dX4_lays_24 : decode cX4_lays 24 = .ok (.getfield 34, 3) := by decide +kernel
theorem dX4_lays_27 : decode cX4_lays 27 = .ok (.iload_n 1, 1) := by decide +kernel
theorem dX4_lays_28 : decode cX4_lays 28 = .ok (.iaload, 1) := by decide +kernel
theorem dX4_lays_29 : decode cX4_lays 29 = .ok (.if_icmp .ge 93, 3) := by decide +kernel
theorem dX4_lays_32 : decode cX4_lays 32 = .ok (.iload 4, 2) := by decide +kernel
theorem dX4_lays_34 : decode cX4_lays 34 = .ok (.aload_n 0, 1) := by decide +kernel
theorem dX4_lays_35 : decode cX4_lays 35 = .ok (.getfield 7, 3) := by decide +kernel
theorem dX4_lays_38 : decode cX4_lays 38 = .ok (.iconst 0, 1) := by decide +kernel
theorem dX4_lays_39 : decode cX4_lays 39 = .ok (.iaload, 1) := by decide +kernel
theorem dX4_lays_40 : decode cX4_lays 40 = .ok (.if_icmp .ge 82, 3) := by decide +kernel
theorem dX4_lays_43 : decode cX4_lays 43 = .ok (.aload_n 0, 1) := by decide +kernel
theorem dX4_lays_44 : decode cX4_lays 44 = .ok (.getfield 37, 3) := by decide +kernel
theorem dX4_lays_47 : decode cX4_lays 47 = .ok (.bipush 40, 2) := by decide +kernel
theorem dX4_lays_49 : decode cX4_lays 49 = .ok (.iload_n 1, 1) := by decide +kernel
theorem dX4_lays_50 : decode cX4_lays 50 = .ok (.imul, 1) := by decide +kernel
theorem dX4_lays_51 : decode cX4_lays 51 = .ok (.iload 4, 2) := by decide +kernel
theorem dX4_lays_53 : decode cX4_lays 53 = .ok (.iadd, 1) := by decide +kernel
theorem dX4_lays_54 : decode cX4_lays 54 = .ok (.laload, 1) := by decide +kernel
theorem dX4_lays_55 : decode cX4_lays 55 = .ok (.lconst 0, 1) := by decide +kernel
theorem dX4_lays_56 : decode cX4_lays 56 = .ok (.ldc2_w 45, 3) := by decide +kernel
theorem dX4_lays_59 : decode cX4_lays 59 = .ok (.invokestatic 47, 3) := by decide +kernel
theorem dX4_lays_62 : decode cX4_lays 62 = .ok (.istore 5, 2) := by decide +kernel
theorem dX4_lays_64 : decode cX4_lays 64 = .ok (.aload_n 0, 1) := by decide +kernel
theorem dX4_lays_65 : decode cX4_lays 65 = .ok (.getfield 7, 3) := by decide +kernel
theorem dX4_lays_68 : decode cX4_lays 68 = .ok (.iload 4, 2) := by decide +kernel
theorem dX4_lays_70 : decode cX4_lays 70 = .ok (.iconst 1, 1) := by decide +kernel
theorem dX4_lays_71 : decode cX4_lays 71 = .ok (.invokestatic 57, 3) := by decide +kernel
theorem dX4_lays_74 : decode cX4_lays 74 = .ok (.iload 5, 2) := by decide +kernel
theorem dX4_lays_76 : decode cX4_lays 76 = .ok (.ifCond .eq 19, 3) := by decide +kernel
theorem dX4_lays_79 : decode cX4_lays 79 = .ok (.aload_n 0, 1) := by decide +kernel
theorem dX4_lays_80 : decode cX4_lays 80 = .ok (.getfield 37, 3) := by decide +kernel
theorem dX4_lays_83 : decode cX4_lays 83 = .ok (.bipush 40, 2) := by decide +kernel
theorem dX4_lays_85 : decode cX4_lays 85 = .ok (.iload_n 1, 1) := by decide +kernel
theorem dX4_lays_86 : decode cX4_lays 86 = .ok (.imul, 1) := by decide +kernel
theorem dX4_lays_87 : decode cX4_lays 87 = .ok (.iload 4, 2) := by decide +kernel
theorem dX4_lays_89 : decode cX4_lays 89 = .ok (.iadd, 1) := by decide +kernel
theorem dX4_lays_90 : decode cX4_lays 90 = .ok (.laload, 1) := by decide +kernel
theorem dX4_lays_91 : decode cX4_lays 91 = .ok (.l2i, 1) := by decide +kernel
theorem dX4_lays_92 : decode cX4_lays 92 = .ok (.goto 10, 3) := by decide +kernel
theorem dX4_lays_95 : decode cX4_lays 95 = .ok (.aload_n 0, 1) := by decide +kernel
theorem dX4_lays_96 : decode cX4_lays 96 = .ok (.iload 4, 2) := by decide +kernel
theorem dX4_lays_98 : decode cX4_lays 98 = .ok (.iconst 1, 1) := by decide +kernel
theorem dX4_lays_99 : decode cX4_lays 99 = .ok (.invokevirtual 82, 3) := by decide +kernel
theorem dX4_lays_102 : decode cX4_lays 102 = .ok (.iastore, 1) := by decide +kernel
theorem dX4_lays_103 : decode cX4_lays 103 = .ok (.iload_n 3, 1) := by decide +kernel
theorem dX4_lays_104 : decode cX4_lays 104 = .ok (.iload 5, 2) := by decide +kernel
theorem dX4_lays_106 : decode cX4_lays 106 = .ok (.ifCond .eq 7, 3) := by decide +kernel
theorem dX4_lays_109 : decode cX4_lays 109 = .ok (.iconst 1, 1) := by decide +kernel
theorem dX4_lays_110 : decode cX4_lays 110 = .ok (.goto 4, 3) := by decide +kernel
theorem dX4_lays_113 : decode cX4_lays 113 = .ok (.iconst 0, 1) := by decide +kernel
theorem dX4_lays_114 : decode cX4_lays 114 = .ok (.iadd, 1) := by decide +kernel
theorem dX4_lays_115 : decode cX4_lays 115 = .ok (.istore_n 3, 1) := by decide +kernel
theorem dX4_lays_116 : decode cX4_lays 116 = .ok (.iinc 4 1, 3) := by decide +kernel
theorem dX4_lays_119 : decode cX4_lays 119 = .ok (.goto (-98), 3) := by decide +kernel
theorem dX4_lays_122 : decode cX4_lays 122 = .ok (.iload_n 3, 1) := by decide +kernel
theorem dX4_lays_123 : decode cX4_lays 123 = .ok (.ireturn, 1) := by decide +kernel
theorem dX4_wrongBook_0 : decode cX4_wrongBook 0 = .ok (.aload_n 0, 1) := by decide +kernel
theorem dX4_wrongBook_1 : decode cX4_wrongBook 1 = .ok (.iload_n 1, 1) := by decide +kernel
theorem dX4_wrongBook_2 : decode cX4_wrongBook 2 = .ok (.invokevirtual 287, 3) := by decide +kernel
theorem dX4_wrongBook_5 : decode cX4_wrongBook 5 = .ok (.istore 5, 2) := by decide +kernel
theorem dX4_wrongBook_7 : decode cX4_wrongBook 7 = .ok (.iload 5, 2) := by decide +kernel
theorem dX4_wrongBook_9 : decode cX4_wrongBook 9 = .ok (.ifCond .eq 8, 3) := by decide +kernel
theorem dX4_wrongBook_12 : decode cX4_wrongBook 12 = .ok (.iload 5, 2) := by decide +kernel
theorem dX4_wrongBook_14 : decode cX4_wrongBook 14 = .ok (.goto 26, 3) := by decide +kernel
theorem dX4_wrongBook_17 : decode cX4_wrongBook 17 = .ok (.aload_n 0, 1) := by decide +kernel
theorem dX4_wrongBook_18 : decode cX4_wrongBook 18 = .ok (.iload_n 2, 1) := by decide +kernel
theorem dX4_wrongBook_19 : decode cX4_wrongBook 19 = .ok (.iload_n 3, 1) := by decide +kernel
theorem dX4_wrongBook_20 : decode cX4_wrongBook 20 = .ok (.invokevirtual 107, 3) := by decide +kernel
theorem dX4_wrongBook_23 : decode cX4_wrongBook 23 = .ok (.ifCond .eq 15, 3) := by decide +kernel
theorem dX4_wrongBook_26 : decode cX4_wrongBook 26 = .ok (.iload 4, 2) := by decide +kernel
theorem dX4_wrongBook_28 : decode cX4_wrongBook 28 = .ok (.invokestatic 96, 3) := by decide +kernel
theorem dX4_wrongBook_31 : decode cX4_wrongBook 31 = .ok (.ifCond .eq 7, 3) := by decide +kernel
theorem dX4_wrongBook_34 : decode cX4_wrongBook 34 = .ok (.iconst 0, 1) := by decide +kernel
theorem dX4_wrongBook_35 : decode cX4_wrongBook 35 = .ok (.goto 5, 3) := by decide +kernel
theorem dX4_wrongBook_38 : decode cX4_wrongBook 38 = .ok (.ldc 44, 2) := by decide +kernel
theorem dX4_wrongBook_40 : decode cX4_wrongBook 40 = .ok (.ireturn, 1) := by decide +kernel
theorem dX4_book_0 : decode cX4_book 0 = .ok (.aload_n 0, 1) := by decide +kernel
theorem dX4_book_1 : decode cX4_book 1 = .ok (.iload_n 1, 1) := by decide +kernel
theorem dX4_book_2 : decode cX4_book 2 = .ok (.iload_n 2, 1) := by decide +kernel
theorem dX4_book_3 : decode cX4_book 3 = .ok (.iload_n 3, 1) := by decide +kernel
theorem dX4_book_4 : decode cX4_book 4 = .ok (.iload 4, 2) := by decide +kernel
theorem dX4_book_6 : decode cX4_book 6 = .ok (.invokevirtual 294, 3) := by decide +kernel
theorem dX4_book_9 : decode cX4_book 9 = .ok (.istore 5, 2) := by decide +kernel
theorem dX4_book_11 : decode cX4_book 11 = .ok (.iload 5, 2) := by decide +kernel
theorem dX4_book_13 : decode cX4_book 13 = .ok (.ifCond .eq 10, 3) := by decide +kernel
theorem dX4_book_16 : decode cX4_book 16 = .ok (.aload_n 0, 1) := by decide +kernel
theorem dX4_book_17 : decode cX4_book 17 = .ok (.iload 5, 2) := by decide +kernel
theorem dX4_book_19 : decode cX4_book 19 = .ok (.invokevirtual 68, 3) := by decide +kernel
theorem dX4_book_22 : decode cX4_book 22 = .ok (.ireturn, 1) := by decide +kernel
theorem dX4_book_23 : decode cX4_book 23 = .ok (.aload_n 0, 1) := by decide +kernel
theorem dX4_book_24 : decode cX4_book 24 = .ok (.invokevirtual 165, 3) := by decide +kernel
theorem dX4_book_27 : decode cX4_book 27 = .ok (.iconst 0, 1) := by decide +kernel
theorem dX4_book_28 : decode cX4_book 28 = .ok (.istore 6, 2) := by decide +kernel
theorem dX4_book_30 : decode cX4_book 30 = .ok (.iload 6, 2) := by decide +kernel
theorem dX4_book_32 : decode cX4_book 32 = .ok (.aload_n 0, 1) := by decide +kernel
theorem dX4_book_33 : decode cX4_book 33 = .ok (.getfield 34, 3) := by decide +kernel
theorem dX4_book_36 : decode cX4_book 36 = .ok (.iload_n 1, 1) := by decide +kernel
theorem dX4_book_37 : decode cX4_book 37 = .ok (.iaload, 1) := by decide +kernel
theorem dX4_book_38 : decode cX4_book 38 = .ok (.if_icmp .ge 43, 3) := by decide +kernel
theorem dX4_book_41 : decode cX4_book 41 = .ok (.aload_n 0, 1) := by decide +kernel
theorem dX4_book_42 : decode cX4_book 42 = .ok (.getfield 37, 3) := by decide +kernel
theorem dX4_book_45 : decode cX4_book 45 = .ok (.bipush 40, 2) := by decide +kernel
theorem dX4_book_47 : decode cX4_book 47 = .ok (.iload_n 1, 1) := by decide +kernel
theorem dX4_book_48 : decode cX4_book 48 = .ok (.imul, 1) := by decide +kernel
theorem dX4_book_49 : decode cX4_book 49 = .ok (.iload 6, 2) := by decide +kernel
theorem dX4_book_51 : decode cX4_book 51 = .ok (.iadd, 1) := by decide +kernel
theorem dX4_book_52 : decode cX4_book 52 = .ok (.aload_n 0, 1) := by decide +kernel
theorem dX4_book_53 : decode cX4_book 53 = .ok (.getfield 31, 3) := by decide +kernel
theorem dX4_book_56 : decode cX4_book 56 = .ok (.iload_n 1, 1) := by decide +kernel
theorem dX4_book_57 : decode cX4_book 57 = .ok (.iaload, 1) := by decide +kernel
theorem dX4_book_58 : decode cX4_book 58 = .ok (.aload_n 0, 1) := by decide +kernel
theorem dX4_book_59 : decode cX4_book 59 = .ok (.iload_n 2, 1) := by decide +kernel
theorem dX4_book_60 : decode cX4_book 60 = .ok (.iload_n 3, 1) := by decide +kernel
theorem dX4_book_61 : decode cX4_book 61 = .ok (.iload 4, 2) := by decide +kernel
theorem dX4_book_63 : decode cX4_book 63 = .ok (.invokevirtual 126, 3) := by decide +kernel
theorem dX4_book_66 : decode cX4_book 66 = .ok (.i2l, 1) := by decide +kernel
theorem dX4_book_67 : decode cX4_book 67 = .ok (.invokestatic 290, 3) := by decide +kernel
theorem dX4_book_70 : decode cX4_book 70 = .ok (.lastore, 1) := by decide +kernel
theorem dX4_book_71 : decode cX4_book 71 = .ok (.aload_n 0, 1) := by decide +kernel
theorem dX4_book_72 : decode cX4_book 72 = .ok (.invokevirtual 149, 3) := by decide +kernel
theorem dX4_book_75 : decode cX4_book 75 = .ok (.iinc 6 1, 3) := by decide +kernel
theorem dX4_book_78 : decode cX4_book 78 = .ok (.goto (-48), 3) := by decide +kernel
theorem dX4_book_81 : decode cX4_book 81 = .ok (.aload_n 0, 1) := by decide +kernel
theorem dX4_book_82 : decode cX4_book 82 = .ok (.aload_n 0, 1) := by decide +kernel
theorem dX4_book_83 : decode cX4_book 83 = .ok (.getfield 34, 3) := by decide +kernel
theorem dX4_book_86 : decode cX4_book 86 = .ok (.iload_n 1, 1) := by decide +kernel
theorem dX4_book_87 : decode cX4_book 87 = .ok (.iaload, 1) := by decide +kernel
theorem dX4_book_88 : decode cX4_book 88 = .ok (.invokevirtual 168, 3) := by decide +kernel
theorem dX4_book_91 : decode cX4_book 91 = .ok (.ireturn, 1) := by decide +kernel
theorem dX4_isBook_0 : decode cX4_isBook 0 = .ok (.iconst 0, 1) := by decide +kernel
theorem dX4_isBook_1 : decode cX4_isBook 1 = .ok (.istore 5, 2) := by decide +kernel
theorem dX4_isBook_3 : decode cX4_isBook 3 = .ok (.iload 5, 2) := by decide +kernel
theorem dX4_isBook_5 : decode cX4_isBook 5 = .ok (.aload_n 0, 1) := by decide +kernel
theorem dX4_isBook_6 : decode cX4_isBook 6 = .ok (.getfield 34, 3) := by decide +kernel
theorem dX4_isBook_9 : decode cX4_isBook 9 = .ok (.iload_n 1, 1) := by decide +kernel
theorem dX4_isBook_10 : decode cX4_isBook 10 = .ok (.iaload, 1) := by decide +kernel
theorem dX4_isBook_11 : decode cX4_isBook 11 = .ok (.if_icmp .ge 40, 3) := by decide +kernel
theorem dX4_isBook_14 : decode cX4_isBook 14 = .ok (.aload_n 0, 1) := by decide +kernel
theorem dX4_isBook_15 : decode cX4_isBook 15 = .ok (.getfield 37, 3) := by decide +kernel
theorem dX4_isBook_18 : decode cX4_isBook 18 = .ok (.bipush 40, 2) := by decide +kernel
theorem dX4_isBook_20 : decode cX4_isBook 20 = .ok (.iload_n 1, 1) := by decide +kernel
theorem dX4_isBook_21 : decode cX4_isBook 21 = .ok (.imul, 1) := by decide +kernel
theorem dX4_isBook_22 : decode cX4_isBook 22 = .ok (.iload 5, 2) := by decide +kernel
theorem dX4_isBook_24 : decode cX4_isBook 24 = .ok (.iadd, 1) := by decide +kernel
theorem dX4_isBook_25 : decode cX4_isBook 25 = .ok (.laload, 1) := by decide +kernel
theorem dX4_isBook_26 : decode cX4_isBook 26 = .ok (.aload_n 0, 1) := by decide +kernel
theorem dX4_isBook_27 : decode cX4_isBook 27 = .ok (.iload_n 2, 1) := by decide +kernel
theorem dX4_isBook_28 : decode cX4_isBook 28 = .ok (.iload_n 3, 1) := by decide +kernel
theorem dX4_isBook_29 : decode cX4_isBook 29 = .ok (.iload 4, 2) := by decide +kernel
theorem dX4_isBook_31 : decode cX4_isBook 31 = .ok (.invokevirtual 126, 3) := by decide +kernel
theorem dX4_isBook_34 : decode cX4_isBook 34 = .ok (.i2l, 1) := by decide +kernel
theorem dX4_isBook_35 : decode cX4_isBook 35 = .ok (.lcmp, 1) := by decide +kernel
theorem dX4_isBook_36 : decode cX4_isBook 36 = .ok (.ifCond .eq 5, 3) := by decide +kernel
theorem dX4_isBook_39 : decode cX4_isBook 39 = .ok (.iconst 0, 1) := by decide +kernel
theorem dX4_isBook_40 : decode cX4_isBook 40 = .ok (.ireturn, 1) := by decide +kernel
theorem dX4_isBook_41 : decode cX4_isBook 41 = .ok (.aload_n 0, 1) := by decide +kernel
theorem dX4_isBook_42 : decode cX4_isBook 42 = .ok (.invokevirtual 149, 3) := by decide +kernel
theorem dX4_isBook_45 : decode cX4_isBook 45 = .ok (.iinc 5 1, 3) := by decide +kernel
theorem dX4_isBook_48 : decode cX4_isBook 48 = .ok (.goto (-45), 3) := by decide +kernel
theorem dX4_isBook_51 : decode cX4_isBook 51 = .ok (.iconst 1, 1) := by decide +kernel
theorem dX4_isBook_52 : decode cX4_isBook 52 = .ok (.ireturn, 1) := by decide +kernel
theorem dX4_read_0 : decode cX4_read 0 = .ok (.aload_n 0, 1) := by decide +kernel
theorem dX4_read_1 : decode cX4_read 1 = .ok (.iload_n 1, 1) := by decide +kernel
theorem dX4_read_2 : decode cX4_read 2 = .ok (.iload_n 2, 1) := by decide +kernel
theorem dX4_read_3 : decode cX4_read 3 = .ok (.iload_n 3, 1) := by decide +kernel
theorem dX4_read_4 : decode cX4_read 4 = .ok (.iload 4, 2) := by decide +kernel
theorem dX4_read_6 : decode cX4_read 6 = .ok (.invokevirtual 294, 3) := by decide +kernel
theorem dX4_read_9 : decode cX4_read 9 = .ok (.istore 5, 2) := by decide +kernel
theorem dX4_read_11 : decode cX4_read 11 = .ok (.iload 5, 2) := by decide +kernel
theorem dX4_read_13 : decode cX4_read 13 = .ok (.ifCond .eq 10, 3) := by decide +kernel
theorem dX4_read_16 : decode cX4_read 16 = .ok (.aload_n 0, 1) := by decide +kernel
theorem dX4_read_17 : decode cX4_read 17 = .ok (.iload 5, 2) := by decide +kernel
theorem dX4_read_19 : decode cX4_read 19 = .ok (.invokevirtual 68, 3) := by decide +kernel
theorem dX4_read_22 : decode cX4_read 22 = .ok (.ireturn, 1) := by decide +kernel
theorem dX4_read_23 : decode cX4_read 23 = .ok (.aload_n 0, 1) := by decide +kernel
theorem dX4_read_24 : decode cX4_read 24 = .ok (.invokevirtual 165, 3) := by decide +kernel
theorem dX4_read_27 : decode cX4_read 27 = .ok (.iconst 0, 1) := by decide +kernel
theorem dX4_read_28 : decode cX4_read 28 = .ok (.istore 6, 2) := by decide +kernel
theorem dX4_read_30 : decode cX4_read 30 = .ok (.iconst 0, 1) := by decide +kernel
theorem dX4_read_31 : decode cX4_read 31 = .ok (.istore 7, 2) := by decide +kernel
theorem dX4_read_33 : decode cX4_read 33 = .ok (.iload 7, 2) := by decide +kernel
theorem dX4_read_35 : decode cX4_read 35 = .ok (.bipush 99, 2) := by decide +kernel
theorem dX4_read_37 : decode cX4_read 37 = .ok (.if_icmp .gt 50, 3) := by decide +kernel
theorem dX4_read_40 : decode cX4_read 40 = .ok (.aload_n 0, 1) := by decide +kernel
theorem dX4_read_41 : decode cX4_read 41 = .ok (.getfield 7, 3) := by decide +kernel
theorem dX4_read_44 : decode cX4_read 44 = .ok (.iload_n 3, 1) := by decide +kernel
theorem dX4_read_45 : decode cX4_read 45 = .ok (.iconst 4, 1) := by decide +kernel
theorem dX4_read_46 : decode cX4_read 46 = .ok (.iload 4, 2) := by decide +kernel
theorem dX4_read_48 : decode cX4_read 48 = .ok (.iadd, 1) := by decide +kernel
theorem dX4_read_49 : decode cX4_read 49 = .ok (.invokestatic 57, 3) := by decide +kernel
theorem dX4_read_52 : decode cX4_read 52 = .ok (.iload 7, 2) := by decide +kernel
theorem dX4_read_54 : decode cX4_read 54 = .ok (.iastore, 1) := by decide +kernel
theorem dX4_read_55 : decode cX4_read 55 = .ok (.aload_n 0, 1) := by decide +kernel
theorem dX4_read_56 : decode cX4_read 56 = .ok (.iload 6, 2) := by decide +kernel
theorem dX4_read_58 : decode cX4_read 58 = .ok (.aload_n 0, 1) := by decide +kernel
theorem dX4_read_59 : decode cX4_read 59 = .ok (.iload_n 1, 1) := by decide +kernel
theorem dX4_read_60 : decode cX4_read 60 = .ok (.iload_n 2, 1) := by decide +kernel
theorem dX4_read_61 : decode cX4_read 61 = .ok (.iload_n 3, 1) := by decide +kernel
theorem dX4_read_62 : decode cX4_read 62 = .ok (.iload 4, 2) := by decide +kernel
theorem dX4_read_64 : decode cX4_read 64 = .ok (.invokevirtual 298, 3) := by decide +kernel
theorem dX4_read_67 : decode cX4_read 67 = .ok (.ifCond .eq 7, 3) := by decide +kernel
theorem dX4_read_70 : decode cX4_read 70 = .ok (.iconst 1, 1) := by decide +kernel
theorem dX4_read_71 : decode cX4_read 71 = .ok (.goto 4, 3) := by decide +kernel
theorem dX4_read_74 : decode cX4_read 74 = .ok (.iconst 0, 1) := by decide +kernel
theorem dX4_read_75 : decode cX4_read 75 = .ok (.iadd, 1) := by decide +kernel
theorem dX4_read_76 : decode cX4_read 76 = .ok (.invokevirtual 168, 3) := by decide +kernel
theorem dX4_read_79 : decode cX4_read 79 = .ok (.istore 6, 2) := by decide +kernel
theorem dX4_read_81 : decode cX4_read 81 = .ok (.iinc 7 1, 3) := by decide +kernel
theorem dX4_read_84 : decode cX4_read 84 = .ok (.goto (-51), 3) := by decide +kernel
theorem dX4_read_87 : decode cX4_read 87 = .ok (.iload 6, 2) := by decide +kernel
theorem dX4_read_89 : decode cX4_read 89 = .ok (.ireturn, 1) := by decide +kernel
theorem dX4_image_0 : decode cX4_image 0 = .ok (.iconst 0, 1) := by decide +kernel
theorem dX4_image_1 : decode cX4_image 1 = .ok (.istore_n 1, 1) := by decide +kernel
theorem dX4_image_2 : decode cX4_image 2 = .ok (.iload_n 1, 1) := by decide +kernel
theorem dX4_image_3 : decode cX4_image 3 = .ok (.bipush 84, 2) := by decide +kernel
theorem dX4_image_5 : decode cX4_image 5 = .ok (.if_icmp .ge 21, 3) := by decide +kernel
theorem dX4_image_8 : decode cX4_image 8 = .ok (.aload_n 0, 1) := by decide +kernel
theorem dX4_image_9 : decode cX4_image 9 = .ok (.getfield 13, 3) := by decide +kernel
theorem dX4_image_12 : decode cX4_image 12 = .ok (.iload_n 1, 1) := by decide +kernel
theorem dX4_image_13 : decode cX4_image 13 = .ok (.aload_n 0, 1) := by decide +kernel
theorem dX4_image_14 : decode cX4_image 14 = .ok (.getfield 7, 3) := by decide +kernel
theorem dX4_image_17 : decode cX4_image 17 = .ok (.iload_n 1, 1) := by decide +kernel
theorem dX4_image_18 : decode cX4_image 18 = .ok (.iaload, 1) := by decide +kernel
theorem dX4_image_19 : decode cX4_image 19 = .ok (.iastore, 1) := by decide +kernel
theorem dX4_image_20 : decode cX4_image 20 = .ok (.iinc 1 1, 3) := by decide +kernel
theorem dX4_image_23 : decode cX4_image 23 = .ok (.goto (-21), 3) := by decide +kernel
theorem dX4_image_26 : decode cX4_image 26 = .ok (.aload_n 0, 1) := by decide +kernel
theorem dX4_image_27 : decode cX4_image 27 = .ok (.iconst 1, 1) := by decide +kernel
theorem dX4_image_28 : decode cX4_image 28 = .ok (.putfield 302, 3) := by decide +kernel
theorem dX4_image_31 : decode cX4_image 31 = .ok (.iconst 1, 1) := by decide +kernel
theorem dX4_image_32 : decode cX4_image 32 = .ok (.ireturn, 1) := by decide +kernel
theorem dX4_undo_0 : decode cX4_undo 0 = .ok (.aload_n 0, 1) := by decide +kernel
theorem dX4_undo_1 : decode cX4_undo 1 = .ok (.getfield 302, 3) := by decide +kernel
theorem dX4_undo_4 : decode cX4_undo 4 = .ok (.ifCond .ne 10, 3) := by decide +kernel
theorem dX4_undo_7 : decode cX4_undo 7 = .ok (.aload_n 0, 1) := by decide +kernel
theorem dX4_undo_8 : decode cX4_undo 8 = .ok (.ldc 129, 2) := by decide +kernel
theorem dX4_undo_10 : decode cX4_undo 10 = .ok (.invokevirtual 68, 3) := by decide +kernel
theorem dX4_undo_13 : decode cX4_undo 13 = .ok (.ireturn, 1) := by decide +kernel
theorem dX4_undo_14 : decode cX4_undo 14 = .ok (.iconst 0, 1) := by decide +kernel
theorem dX4_undo_15 : decode cX4_undo 15 = .ok (.istore_n 1, 1) := by decide +kernel
theorem dX4_undo_16 : decode cX4_undo 16 = .ok (.iload_n 1, 1) := by decide +kernel
theorem dX4_undo_17 : decode cX4_undo 17 = .ok (.bipush 84, 2) := by decide +kernel
theorem dX4_undo_19 : decode cX4_undo 19 = .ok (.if_icmp .ge 21, 3) := by decide +kernel
theorem dX4_undo_22 : decode cX4_undo 22 = .ok (.aload_n 0, 1) := by decide +kernel
theorem dX4_undo_23 : decode cX4_undo 23 = .ok (.getfield 7, 3) := by decide +kernel
theorem dX4_undo_26 : decode cX4_undo 26 = .ok (.iload_n 1, 1) := by decide +kernel
theorem dX4_undo_27 : decode cX4_undo 27 = .ok (.aload_n 0, 1) := by decide +kernel
theorem dX4_undo_28 : decode cX4_undo 28 = .ok (.getfield 13, 3) := by decide +kernel
theorem dX4_undo_31 : decode cX4_undo 31 = .ok (.iload_n 1, 1) := by decide +kernel
theorem dX4_undo_32 : decode cX4_undo 32 = .ok (.iaload, 1) := by decide +kernel
theorem dX4_undo_33 : decode cX4_undo 33 = .ok (.iastore, 1) := by decide +kernel
theorem dX4_undo_34 : decode cX4_undo 34 = .ok (.iinc 1 1, 3) := by decide +kernel
theorem dX4_undo_37 : decode cX4_undo 37 = .ok (.goto (-21), 3) := by decide +kernel
theorem dX4_undo_40 : decode cX4_undo 40 = .ok (.aload_n 0, 1) := by decide +kernel
theorem dX4_undo_41 : decode cX4_undo 41 = .ok (.getfield 7, 3) := by decide +kernel
theorem dX4_undo_44 : decode cX4_undo 44 = .ok (.iconst 0, 1) := by decide +kernel
theorem dX4_undo_45 : decode cX4_undo 45 = .ok (.iaload, 1) := by decide +kernel
theorem dX4_undo_46 : decode cX4_undo 46 = .ok (.ireturn, 1) := by decide +kernel
theorem dX4_tear_0 : decode cX4_tear 0 = .ok (.aload_n 0, 1) := by decide +kernel
theorem dX4_tear_1 : decode cX4_tear 1 = .ok (.getfield 302, 3) := by decide +kernel
theorem dX4_tear_4 : decode cX4_tear 4 = .ok (.ifCond .eq 7, 3) := by decide +kernel
theorem dX4_tear_7 : decode cX4_tear 7 = .ok (.iconst 1, 1) := by decide +kernel
theorem dX4_tear_8 : decode cX4_tear 8 = .ok (.goto 4, 3) := by decide +kernel
theorem dX4_tear_11 : decode cX4_tear 11 = .ok (.iconst 0, 1) := by decide +kernel
theorem dX4_tear_12 : decode cX4_tear 12 = .ok (.istore_n 1, 1) := by decide +kernel
theorem dX4_tear_13 : decode cX4_tear 13 = .ok (.aload_n 0, 1) := by decide +kernel
theorem dX4_tear_14 : decode cX4_tear 14 = .ok (.iconst 0, 1) := by decide +kernel
theorem dX4_tear_15 : decode cX4_tear 15 = .ok (.putfield 302, 3) := by decide +kernel
theorem dX4_tear_18 : decode cX4_tear 18 = .ok (.iload_n 1, 1) := by decide +kernel
theorem dX4_tear_19 : decode cX4_tear 19 = .ok (.ireturn, 1) := by decide +kernel
theorem dX4_together_0 : decode cX4_together 0 = .ok (.iconst 0, 1) := by decide +kernel
theorem dX4_together_1 : decode cX4_together 1 = .ok (.istore_n 2, 1) := by decide +kernel
theorem dX4_together_2 : decode cX4_together 2 = .ok (.iconst 0, 1) := by decide +kernel
theorem dX4_together_3 : decode cX4_together 3 = .ok (.istore_n 3, 1) := by decide +kernel
theorem dX4_together_4 : decode cX4_together 4 = .ok (.iload_n 3, 1) := by decide +kernel
theorem dX4_together_5 : decode cX4_together 5 = .ok (.aload_n 0, 1) := by decide +kernel
theorem dX4_together_6 : decode cX4_together 6 = .ok (.getfield 7, 3) := by decide +kernel
theorem dX4_together_9 : decode cX4_together 9 = .ok (.iconst 0, 1) := by decide +kernel
theorem dX4_together_10 : decode cX4_together 10 = .ok (.iaload, 1) := by decide +kernel
theorem dX4_together_11 : decode cX4_together 11 = .ok (.if_icmp .ge 18, 3) := by decide +kernel
theorem dX4_together_14 : decode cX4_together 14 = .ok (.iload_n 2, 1) := by decide +kernel
theorem dX4_together_15 : decode cX4_together 15 = .ok (.aload_n 0, 1) := by decide +kernel
theorem dX4_together_16 : decode cX4_together 16 = .ok (.iload_n 3, 1) := by decide +kernel
theorem dX4_together_17 : decode cX4_together 17 = .ok (.iload_n 1, 1) := by decide +kernel
theorem dX4_together_18 : decode cX4_together 18 = .ok (.invokevirtual 82, 3) := by decide +kernel
theorem dX4_together_21 : decode cX4_together 21 = .ok (.iadd, 1) := by decide +kernel
theorem dX4_together_22 : decode cX4_together 22 = .ok (.istore_n 2, 1) := by decide +kernel
theorem dX4_together_23 : decode cX4_together 23 = .ok (.iinc 3 1, 3) := by decide +kernel
theorem dX4_together_26 : decode cX4_together 26 = .ok (.goto (-22), 3) := by decide +kernel
theorem dX4_together_29 : decode cX4_together 29 = .ok (.iload_n 2, 1) := by decide +kernel
theorem dX4_together_30 : decode cX4_together 30 = .ok (.ireturn, 1) := by decide +kernel
theorem dX4_count_0 : decode cX4_count 0 = .ok (.iload_n 1, 1) := by decide +kernel
theorem dX4_count_1 : decode cX4_count 1 = .ok (.tableswitch 55 0 3 #[31, 38, 43, 49], 31) := by decide +kernel
theorem dX4_count_32 : decode cX4_count 32 = .ok (.aload_n 0, 1) := by decide +kernel
theorem dX4_count_33 : decode cX4_count 33 = .ok (.getfield 7, 3) := by decide +kernel
theorem dX4_count_36 : decode cX4_count 36 = .ok (.iconst 0, 1) := by decide +kernel
theorem dX4_count_37 : decode cX4_count 37 = .ok (.iaload, 1) := by decide +kernel
theorem dX4_count_38 : decode cX4_count 38 = .ok (.ireturn, 1) := by decide +kernel
theorem dX4_count_39 : decode cX4_count 39 = .ok (.aload_n 0, 1) := by decide +kernel
theorem dX4_count_40 : decode cX4_count 40 = .ok (.getfield 190, 3) := by decide +kernel
theorem dX4_count_43 : decode cX4_count 43 = .ok (.ireturn, 1) := by decide +kernel
theorem dX4_count_44 : decode cX4_count 44 = .ok (.aload_n 0, 1) := by decide +kernel
theorem dX4_count_45 : decode cX4_count 45 = .ok (.iconst 3, 1) := by decide +kernel
theorem dX4_count_46 : decode cX4_count 46 = .ok (.invokevirtual 305, 3) := by decide +kernel
theorem dX4_count_49 : decode cX4_count 49 = .ok (.ireturn, 1) := by decide +kernel
theorem dX4_count_50 : decode cX4_count 50 = .ok (.aload_n 0, 1) := by decide +kernel
theorem dX4_count_51 : decode cX4_count 51 = .ok (.iconst 2, 1) := by decide +kernel
theorem dX4_count_52 : decode cX4_count 52 = .ok (.invokevirtual 305, 3) := by decide +kernel
theorem dX4_count_55 : decode cX4_count 55 = .ok (.ireturn, 1) := by decide +kernel
theorem dX4_count_56 : decode cX4_count 56 = .ok (.aload_n 0, 1) := by decide +kernel
theorem dX4_count_57 : decode cX4_count 57 = .ok (.ldc 44, 2) := by decide +kernel
theorem dX4_count_59 : decode cX4_count 59 = .ok (.invokevirtual 68, 3) := by decide +kernel
theorem dX4_count_62 : decode cX4_count 62 = .ok (.ireturn, 1) := by decide +kernel
theorem dX4_status_0 : decode cX4_status 0 = .ok (.iload_n 1, 1) := by decide +kernel
theorem dX4_status_1 : decode cX4_status 1 = .ok (.i2l, 1) := by decide +kernel
theorem dX4_status_2 : decode cX4_status 2 = .ok (.ldc2_w 308, 3) := by decide +kernel
theorem dX4_status_5 : decode cX4_status 5 = .ok (.ldc2_w 310, 3) := by decide +kernel
theorem dX4_status_8 : decode cX4_status 8 = .ok (.invokestatic 47, 3) := by decide +kernel
theorem dX4_status_11 : decode cX4_status 11 = .ok (.ifCond .ne 10, 3) := by decide +kernel
theorem dX4_status_14 : decode cX4_status 14 = .ok (.aload_n 0, 1) := by decide +kernel
theorem dX4_status_15 : decode cX4_status 15 = .ok (.ldc 44, 2) := by decide +kernel
theorem dX4_status_17 : decode cX4_status 17 = .ok (.invokevirtual 68, 3) := by decide +kernel
theorem dX4_status_20 : decode cX4_status 20 = .ok (.ireturn, 1) := by decide +kernel
theorem dX4_status_21 : decode cX4_status 21 = .ok (.iconst 0, 1) := by decide +kernel
theorem dX4_status_22 : decode cX4_status 22 = .ok (.istore_n 2, 1) := by decide +kernel
theorem dX4_status_23 : decode cX4_status 23 = .ok (.iconst 0, 1) := by decide +kernel
theorem dX4_status_24 : decode cX4_status 24 = .ok (.istore_n 3, 1) := by decide +kernel
theorem dX4_status_25 : decode cX4_status 25 = .ok (.iload_n 3, 1) := by decide +kernel
theorem dX4_status_26 : decode cX4_status 26 = .ok (.bipush 7, 2) := by decide +kernel
theorem dX4_status_28 : decode cX4_status 28 = .ok (.if_icmp .ge 31, 3) := by decide +kernel
theorem dX4_status_31 : decode cX4_status 31 = .ok (.iload_n 2, 1) := by decide +kernel
theorem dX4_status_32 : decode cX4_status 32 = .ok (.iload_n 1, 1) := by decide +kernel
theorem dX4_status_33 : decode cX4_status 33 = .ok (.ifCond .lt 8, 3) := by decide +kernel
theorem dX4_status_36 : decode cX4_status 36 = .ok (.iload_n 3, 1) := by decide +kernel
theorem dX4_status_37 : decode cX4_status 37 = .ok (.iload_n 1, 1) := by decide +kernel
theorem dX4_status_38 : decode cX4_status 38 = .ok (.if_icmp .ne 12, 3) := by decide +kernel
theorem dX4_status_41 : decode cX4_status 41 = .ok (.aload_n 0, 1) := by decide +kernel
theorem dX4_status_42 : decode cX4_status 42 = .ok (.getfield 22, 3) := by decide +kernel
theorem dX4_status_45 : decode cX4_status 45 = .ok (.iload_n 3, 1) := by decide +kernel
theorem dX4_status_46 : decode cX4_status 46 = .ok (.iaload, 1) := by decide +kernel
theorem dX4_status_47 : decode cX4_status 47 = .ok (.goto 4, 3) := by decide +kernel
theorem dX4_status_50 : decode cX4_status 50 = .ok (.iconst 0, 1) := by decide +kernel
theorem dX4_status_51 : decode cX4_status 51 = .ok (.iadd, 1) := by decide +kernel
theorem dX4_status_52 : decode cX4_status 52 = .ok (.istore_n 2, 1) := by decide +kernel
theorem dX4_status_53 : decode cX4_status 53 = .ok (.iinc 3 1, 3) := by decide +kernel
theorem dX4_status_56 : decode cX4_status 56 = .ok (.goto (-31), 3) := by decide +kernel
theorem dX4_status_59 : decode cX4_status 59 = .ok (.iload_n 2, 1) := by decide +kernel
theorem dX4_status_60 : decode cX4_status 60 = .ok (.ireturn, 1) := by decide +kernel
