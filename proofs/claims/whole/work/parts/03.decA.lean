theorem dX0_init_0 : decode cX0_init 0 = .ok (.aload_n 0, 1) := by decide +kernel
theorem dX0_init_1 : decode cX0_init 1 = .ok (.invokespecial 3, 3) := by decide +kernel
theorem dX0_init_4 : decode cX0_init 4 = .ok (.aload_n 0, 1) := by decide +kernel
theorem dX0_init_5 : decode cX0_init 5 = .ok (.iconst 0, 1) := by decide +kernel
theorem dX0_init_6 : decode cX0_init 6 = .ok (.putfield 9, 3) := by decide +kernel
theorem dX0_init_9 : decode cX0_init 9 = .ok (.aload_n 0, 1) := by decide +kernel
theorem dX0_init_10 : decode cX0_init 10 = .ok (.bipush 20, 2) := by decide +kernel
theorem dX0_init_12 : decode cX0_init 12 = .ok (.putfield 15, 3) := by decide +kernel
theorem dX0_init_15 : decode cX0_init 15 = .ok (.aload_n 0, 1) := by decide +kernel
theorem dX0_init_16 : decode cX0_init 16 = .ok (.iconst 0, 1) := by decide +kernel
theorem dX0_init_17 : decode cX0_init 17 = .ok (.putfield 18, 3) := by decide +kernel
theorem dX0_init_20 : decode cX0_init 20 = .ok (.aload_n 0, 1) := by decide +kernel
theorem dX0_init_21 : decode cX0_init 21 = .ok (.iconst 0, 1) := by decide +kernel
theorem dX0_init_22 : decode cX0_init 22 = .ok (.putfield 21, 3) := by decide +kernel
theorem dX0_init_25 : decode cX0_init 25 = .ok (.aload_n 0, 1) := by decide +kernel
theorem dX0_init_26 : decode cX0_init 26 = .ok (.bipush 8, 2) := by decide +kernel
theorem dX0_init_28 : decode cX0_init 28 = .ok (.newarray .int, 2) := by decide +kernel
theorem dX0_init_30 : decode cX0_init 30 = .ok (.putfield 24, 3) := by decide +kernel
theorem dX0_init_33 : decode cX0_init 33 = .ok (.aload_n 0, 1) := by decide +kernel
theorem dX0_init_34 : decode cX0_init 34 = .ok (.bipush 8, 2) := by decide +kernel
theorem dX0_init_36 : decode cX0_init 36 = .ok (.newarray .int, 2) := by decide +kernel
theorem dX0_init_38 : decode cX0_init 38 = .ok (.putfield 28, 3) := by decide +kernel
theorem dX0_init_41 : decode cX0_init 41 = .ok (.aload_n 0, 1) := by decide +kernel
theorem dX0_init_42 : decode cX0_init 42 = .ok (.bipush 8, 2) := by decide +kernel
theorem dX0_init_44 : decode cX0_init 44 = .ok (.newarray .int, 2) := by decide +kernel
theorem dX0_init_46 : decode cX0_init 46 = .ok (.putfield 31, 3) := by decide +kernel
theorem dX0_init_49 : decode cX0_init 49 = .ok (.aload_n 0, 1) := by decide +kernel
theorem dX0_init_50 : decode cX0_init 50 = .ok (.bipush 8, 2) := by decide +kernel
theorem dX0_init_52 : decode cX0_init 52 = .ok (.newarray .int, 2) := by decide +kernel
theorem dX0_init_54 : decode cX0_init 54 = .ok (.putfield 34, 3) := by decide +kernel
theorem dX0_init_57 : decode cX0_init 57 = .ok (.aload_n 0, 1) := by decide +kernel
theorem dX0_init_58 : decode cX0_init 58 = .ok (.bipush 6, 2) := by decide +kernel
theorem dX0_init_60 : decode cX0_init 60 = .ok (.bipush 8, 2) := by decide +kernel
theorem dX0_init_62 : decode cX0_init 62 = .ok (.multianewarray 37 2, 4) := by decide +kernel
theorem dX0_init_66 : decode cX0_init 66 = .ok (.putfield 39, 3) := by decide +kernel
theorem dX0_init_69 : decode cX0_init 69 = .ok (.aload_n 0, 1) := by decide +kernel
theorem dX0_init_70 : decode cX0_init 70 = .ok (.bipush 8, 2) := by decide +kernel
theorem dX0_init_72 : decode cX0_init 72 = .ok (.newarray .int, 2) := by decide +kernel
theorem dX0_init_74 : decode cX0_init 74 = .ok (.putfield 42, 3) := by decide +kernel
theorem dX0_init_77 : decode cX0_init 77 = .ok (.return_, 1) := by decide +kernel
theorem dX0_become_0 : decode cX0_become 0 = .ok (.aload_n 0, 1) := by decide +kernel
theorem dX0_become_1 : decode cX0_become 1 = .ok (.aload_n 1, 1) := by decide +kernel
theorem dX0_become_2 : decode cX0_become 2 = .ok (.getfield 9, 3) := by decide +kernel
theorem dX0_become_5 : decode cX0_become 5 = .ok (.putfield 9, 3) := by decide +kernel
theorem dX0_become_8 : decode cX0_become 8 = .ok (.aload_n 0, 1) := by decide +kernel
theorem dX0_become_9 : decode cX0_become 9 = .ok (.aload_n 1, 1) := by decide +kernel
theorem dX0_become_10 : decode cX0_become 10 = .ok (.getfield 15, 3) := by decide +kernel
theorem dX0_become_13 : decode cX0_become 13 = .ok (.putfield 15, 3) := by decide +kernel
theorem dX0_become_16 : decode cX0_become 16 = .ok (.aload_n 0, 1) := by decide +kernel
theorem dX0_become_17 : decode cX0_become 17 = .ok (.aload_n 1, 1) := by decide +kernel
theorem dX0_become_18 : decode cX0_become 18 = .ok (.getfield 18, 3) := by decide +kernel
theorem dX0_become_21 : decode cX0_become 21 = .ok (.putfield 18, 3) := by decide +kernel
theorem dX0_become_24 : decode cX0_become 24 = .ok (.aload_n 0, 1) := by decide +kernel
theorem dX0_become_25 : decode cX0_become 25 = .ok (.aload_n 1, 1) := by decide +kernel
theorem dX0_become_26 : decode cX0_become 26 = .ok (.getfield 21, 3) := by decide +kernel
theorem dX0_become_29 : decode cX0_become 29 = .ok (.putfield 21, 3) := by decide +kernel
theorem dX0_become_32 : decode cX0_become 32 = .ok (.aload_n 1, 1) := by decide +kernel
theorem dX0_become_33 : decode cX0_become 33 = .ok (.getfield 24, 3) := by decide +kernel
theorem dX0_become_36 : decode cX0_become 36 = .ok (.iconst 0, 1) := by decide +kernel
theorem dX0_become_37 : decode cX0_become 37 = .ok (.aload_n 0, 1) := by decide +kernel
theorem dX0_become_38 : decode cX0_become 38 = .ok (.getfield 24, 3) := by decide +kernel
theorem dX0_become_41 : decode cX0_become 41 = .ok (.iconst 0, 1) := by decide +kernel
theorem dX0_become_42 : decode cX0_become 42 = .ok (.bipush 8, 2) := by decide +kernel
theorem dX0_become_44 : decode cX0_become 44 = .ok (.invokestatic 45, 3) := by decide +kernel
theorem dX0_become_47 : decode cX0_become 47 = .ok (.aload_n 1, 1) := by decide +kernel
theorem dX0_become_48 : decode cX0_become 48 = .ok (.getfield 28, 3) := by decide +kernel
theorem dX0_become_51 : decode cX0_become 51 = .ok (.iconst 0, 1) := by decide +kernel
theorem dX0_become_52 : decode cX0_become 52 = .ok (.aload_n 0, 1) := by decide +kernel
theorem dX0_become_53 : decode cX0_become 53 = .ok (.getfield 28, 3) := by decide +kernel
theorem dX0_become_56 : decode cX0_become 56 = .ok (.iconst 0, 1) := by decide +kernel
theorem dX0_become_57 : decode cX0_become 57 = .ok (.bipush 8, 2) := by decide +kernel
theorem dX0_become_59 : decode cX0_become 59 = .ok (.invokestatic 45, 3) := by decide +kernel
theorem dX0_become_62 : decode cX0_become 62 = .ok (.aload_n 1, 1) := by decide +kernel
theorem dX0_become_63 : decode cX0_become 63 = .ok (.getfield 31, 3) := by decide +kernel
theorem dX0_become_66 : decode cX0_become 66 = .ok (.iconst 0, 1) := by decide +kernel
theorem dX0_become_67 : decode cX0_become 67 = .ok (.aload_n 0, 1) := by decide +kernel
theorem dX0_become_68 : decode cX0_become 68 = .ok (.getfield 31, 3) := by decide +kernel
theorem dX0_become_71 : decode cX0_become 71 = .ok (.iconst 0, 1) := by decide +kernel
theorem dX0_become_72 : decode cX0_become 72 = .ok (.bipush 8, 2) := by decide +kernel
theorem dX0_become_74 : decode cX0_become 74 = .ok (.invokestatic 45, 3) := by decide +kernel
theorem dX0_become_77 : decode cX0_become 77 = .ok (.aload_n 1, 1) := by decide +kernel
theorem dX0_become_78 : decode cX0_become 78 = .ok (.getfield 34, 3) := by decide +kernel
theorem dX0_become_81 : decode cX0_become 81 = .ok (.iconst 0, 1) := by decide +kernel
theorem dX0_become_82 : decode cX0_become 82 = .ok (.aload_n 0, 1) := by decide +kernel
theorem dX0_become_83 : decode cX0_become 83 = .ok (.getfield 34, 3) := by decide +kernel
theorem dX0_become_86 : decode cX0_become 86 = .ok (.iconst 0, 1) := by decide +kernel
theorem dX0_become_87 : decode cX0_become 87 = .ok (.bipush 8, 2) := by decide +kernel
theorem dX0_become_89 : decode cX0_become 89 = .ok (.invokestatic 45, 3) := by decide +kernel
theorem dX0_become_92 : decode cX0_become 92 = .ok (.iconst 0, 1) := by decide +kernel
theorem dX0_become_93 : decode cX0_become 93 = .ok (.istore_n 2, 1) := by decide +kernel
theorem dX0_become_94 : decode cX0_become 94 = .ok (.iload_n 2, 1) := by decide +kernel
theorem dX0_become_95 : decode cX0_become 95 = .ok (.bipush 6, 2) := by decide +kernel
theorem dX0_become_97 : decode cX0_become 97 = .ok (.if_icmp .ge 28, 3) := by decide +kernel
theorem dX0_become_100 : decode cX0_become 100 = .ok (.aload_n 1, 1) := by decide +kernel
theorem dX0_become_101 : decode cX0_become 101 = .ok (.getfield 39, 3) := by decide +kernel
theorem dX0_become_104 : decode cX0_become 104 = .ok (.iload_n 2, 1) := by decide +kernel
theorem dX0_become_105 : decode cX0_become 105 = .ok (.aaload, 1) := by decide +kernel
theorem dX0_become_106 : decode cX0_become 106 = .ok (.iconst 0, 1) := by decide +kernel
theorem dX0_become_107 : decode cX0_become 107 = .ok (.aload_n 0, 1) := by decide +kernel
theorem dX0_become_108 : decode cX0_become 108 = .ok (.getfield 39, 3) := by decide +kernel
theorem dX0_become_111 : decode cX0_become 111 = .ok (.iload_n 2, 1) := by decide +kernel
theorem dX0_become_112 : decode cX0_become 112 = .ok (.aaload, 1) := by decide +kernel
theorem dX0_become_113 : decode cX0_become 113 = .ok (.iconst 0, 1) := by decide +kernel
theorem dX0_become_114 : decode cX0_become 114 = .ok (.bipush 8, 2) := by decide +kernel
theorem dX0_become_116 : decode cX0_become 116 = .ok (.invokestatic 45, 3) := by decide +kernel
theorem dX0_become_119 : decode cX0_become 119 = .ok (.iinc 2 1, 3) := by decide +kernel
theorem dX0_become_122 : decode cX0_become 122 = .ok (.goto (-28), 3) := by decide +kernel
theorem dX0_become_125 : decode cX0_become 125 = .ok (.return_, 1) := by decide +kernel
theorem dX0_has_0 : decode cX0_has 0 = .ok (.iload_n 1, 1) := by decide +kernel
theorem dX0_has_1 : decode cX0_has 1 = .ok (.ifCond .lt 15, 3) := by decide +kernel
theorem dX0_has_4 : decode cX0_has 4 = .ok (.iload_n 1, 1) := by decide +kernel
theorem dX0_has_5 : decode cX0_has 5 = .ok (.aload_n 0, 1) := by decide +kernel
theorem dX0_has_6 : decode cX0_has 6 = .ok (.getfield 21, 3) := by decide +kernel
theorem dX0_has_9 : decode cX0_has 9 = .ok (.if_icmp .ge 7, 3) := by decide +kernel
theorem dX0_has_12 : decode cX0_has 12 = .ok (.iconst 1, 1) := by decide +kernel
theorem dX0_has_13 : decode cX0_has 13 = .ok (.goto 4, 3) := by decide +kernel
theorem dX0_has_16 : decode cX0_has 16 = .ok (.iconst 0, 1) := by decide +kernel
theorem dX0_has_17 : decode cX0_has 17 = .ok (.ireturn, 1) := by decide +kernel
theorem dX0_hasTwo_0 : decode cX0_hasTwo 0 = .ok (.aload_n 0, 1) := by decide +kernel
theorem dX0_hasTwo_1 : decode cX0_hasTwo 1 = .ok (.iload_n 1, 1) := by decide +kernel
theorem dX0_hasTwo_2 : decode cX0_hasTwo 2 = .ok (.invokevirtual 51, 3) := by decide +kernel
theorem dX0_hasTwo_5 : decode cX0_hasTwo 5 = .ok (.ifCond .eq 20, 3) := by decide +kernel
theorem dX0_hasTwo_8 : decode cX0_hasTwo 8 = .ok (.aload_n 0, 1) := by decide +kernel
theorem dX0_hasTwo_9 : decode cX0_hasTwo 9 = .ok (.iload_n 2, 1) := by decide +kernel
theorem dX0_hasTwo_10 : decode cX0_hasTwo 10 = .ok (.invokevirtual 51, 3) := by decide +kernel
theorem dX0_hasTwo_13 : decode cX0_hasTwo 13 = .ok (.ifCond .eq 12, 3) := by decide +kernel
theorem dX0_hasTwo_16 : decode cX0_hasTwo 16 = .ok (.iload_n 1, 1) := by decide +kernel
theorem dX0_hasTwo_17 : decode cX0_hasTwo 17 = .ok (.iload_n 2, 1) := by decide +kernel
theorem dX0_hasTwo_18 : decode cX0_hasTwo 18 = .ok (.if_icmp .eq 7, 3) := by decide +kernel
theorem dX0_hasTwo_21 : decode cX0_hasTwo 21 = .ok (.iconst 1, 1) := by decide +kernel
theorem dX0_hasTwo_22 : decode cX0_hasTwo 22 = .ok (.goto 4, 3) := by decide +kernel
theorem dX0_hasTwo_25 : decode cX0_hasTwo 25 = .ok (.iconst 0, 1) := by decide +kernel
theorem dX0_hasTwo_26 : decode cX0_hasTwo 26 = .ok (.ireturn, 1) := by decide +kernel
theorem dX0_everybody_0 : decode cX0_everybody 0 = .ok (.iconst 1, 1) := by decide +kernel
theorem dX0_everybody_1 : decode cX0_everybody 1 = .ok (.aload_n 0, 1) := by decide +kernel
theorem dX0_everybody_2 : decode cX0_everybody 2 = .ok (.getfield 21, 3) := by decide +kernel
theorem dX0_everybody_5 : decode cX0_everybody 5 = .ok (.ishl, 1) := by decide +kernel
theorem dX0_everybody_6 : decode cX0_everybody 6 = .ok (.iconst 1, 1) := by decide +kernel
theorem dX0_everybody_7 : decode cX0_everybody 7 = .ok (.isub, 1) := by decide +kernel
theorem dX0_everybody_8 : decode cX0_everybody 8 = .ok (.ireturn, 1) := by decide +kernel
theorem dX0_join_0 : decode cX0_join 0 = .ok (.aload_n 0, 1) := by decide +kernel
theorem dX0_join_1 : decode cX0_join 1 = .ok (.getfield 21, 3) := by decide +kernel
theorem dX0_join_4 : decode cX0_join 4 = .ok (.istore_n 3, 1) := by decide +kernel
theorem dX0_join_5 : decode cX0_join 5 = .ok (.aload_n 0, 1) := by decide +kernel
theorem dX0_join_6 : decode cX0_join 6 = .ok (.getfield 24, 3) := by decide +kernel
theorem dX0_join_9 : decode cX0_join 9 = .ok (.iload_n 3, 1) := by decide +kernel
theorem dX0_join_10 : decode cX0_join 10 = .ok (.iload_n 1, 1) := by decide +kernel
theorem dX0_join_11 : decode cX0_join 11 = .ok (.iastore, 1) := by decide +kernel
theorem dX0_join_12 : decode cX0_join 12 = .ok (.aload_n 0, 1) := by decide +kernel
theorem dX0_join_13 : decode cX0_join 13 = .ok (.getfield 28, 3) := by decide +kernel
theorem dX0_join_16 : decode cX0_join 16 = .ok (.iload_n 3, 1) := by decide +kernel
theorem dX0_join_17 : decode cX0_join 17 = .ok (.iload_n 2, 1) := by decide +kernel
theorem dX0_join_18 : decode cX0_join 18 = .ok (.iastore, 1) := by decide +kernel
theorem dX0_join_19 : decode cX0_join 19 = .ok (.aload_n 0, 1) := by decide +kernel
theorem dX0_join_20 : decode cX0_join 20 = .ok (.getfield 31, 3) := by decide +kernel
theorem dX0_join_23 : decode cX0_join 23 = .ok (.iload_n 3, 1) := by decide +kernel
theorem dX0_join_24 : decode cX0_join 24 = .ok (.iconst 5, 1) := by decide +kernel
theorem dX0_join_25 : decode cX0_join 25 = .ok (.iastore, 1) := by decide +kernel
theorem dX0_join_26 : decode cX0_join 26 = .ok (.aload_n 0, 1) := by decide +kernel
theorem dX0_join_27 : decode cX0_join 27 = .ok (.getfield 34, 3) := by decide +kernel
theorem dX0_join_30 : decode cX0_join 30 = .ok (.iload_n 3, 1) := by decide +kernel
theorem dX0_join_31 : decode cX0_join 31 = .ok (.iconst 0, 1) := by decide +kernel
theorem dX0_join_32 : decode cX0_join 32 = .ok (.iastore, 1) := by decide +kernel
theorem dX0_join_33 : decode cX0_join 33 = .ok (.iconst 0, 1) := by decide +kernel
theorem dX0_join_34 : decode cX0_join 34 = .ok (.istore 4, 2) := by decide +kernel
theorem dX0_join_36 : decode cX0_join 36 = .ok (.iload 4, 2) := by decide +kernel
theorem dX0_join_38 : decode cX0_join 38 = .ok (.bipush 6, 2) := by decide +kernel
theorem dX0_join_40 : decode cX0_join 40 = .ok (.if_icmp .ge 19, 3) := by decide +kernel
theorem dX0_join_43 : decode cX0_join 43 = .ok (.aload_n 0, 1) := by decide +kernel
theorem dX0_join_44 : decode cX0_join 44 = .ok (.getfield 39, 3) := by decide +kernel
theorem dX0_join_47 : decode cX0_join 47 = .ok (.iload 4, 2) := by decide +kernel
theorem dX0_join_49 : decode cX0_join 49 = .ok (.aaload, 1) := by decide +kernel
theorem dX0_join_50 : decode cX0_join 50 = .ok (.iload_n 3, 1) := by decide +kernel
theorem dX0_join_51 : decode cX0_join 51 = .ok (.iconst 0, 1) := by decide +kernel
theorem dX0_join_52 : decode cX0_join 52 = .ok (.iastore, 1) := by decide +kernel
theorem dX0_join_53 : decode cX0_join 53 = .ok (.iinc 4 1, 3) := by decide +kernel
theorem dX0_join_56 : decode cX0_join 56 = .ok (.goto (-20), 3) := by decide +kernel
theorem dX0_join_59 : decode cX0_join 59 = .ok (.aload_n 0, 1) := by decide +kernel
theorem dX0_join_60 : decode cX0_join 60 = .ok (.dup, 1) := by decide +kernel
theorem dX0_join_61 : decode cX0_join 61 = .ok (.getfield 21, 3) := by decide +kernel
theorem dX0_join_64 : decode cX0_join 64 = .ok (.iconst 1, 1) := by decide +kernel
theorem dX0_join_65 : decode cX0_join 65 = .ok (.iadd, 1) := by decide +kernel
theorem dX0_join_66 : decode cX0_join 66 = .ok (.putfield 21, 3) := by decide +kernel
theorem dX0_join_69 : decode cX0_join 69 = .ok (.iload_n 3, 1) := by decide +kernel
theorem dX0_join_70 : decode cX0_join 70 = .ok (.ireturn, 1) := by decide +kernel
theorem dX0_put_0 : decode cX0_put 0 = .ok (.iload_n 2, 1) := by decide +kernel
theorem dX0_put_1 : decode cX0_put 1 = .ok (.ifCond .ne 11, 3) := by decide +kernel
theorem dX0_put_4 : decode cX0_put 4 = .ok (.aload_n 0, 1) := by decide +kernel
theorem dX0_put_5 : decode cX0_put 5 = .ok (.iload_n 3, 1) := by decide +kernel
theorem dX0_put_6 : decode cX0_put 6 = .ok (.putfield 9, 3) := by decide +kernel
theorem dX0_put_9 : decode cX0_put 9 = .ok (.goto 25, 3) := by decide +kernel
theorem dX0_put_12 : decode cX0_put 12 = .ok (.iload_n 2, 1) := by decide +kernel
theorem dX0_put_13 : decode cX0_put 13 = .ok (.iconst 1, 1) := by decide +kernel
theorem dX0_put_14 : decode cX0_put 14 = .ok (.if_icmp .ne 13, 3) := by decide +kernel
theorem dX0_put_17 : decode cX0_put 17 = .ok (.aload_n 0, 1) := by decide +kernel
theorem dX0_put_18 : decode cX0_put 18 = .ok (.getfield 28, 3) := by decide +kernel
theorem dX0_put_21 : decode cX0_put 21 = .ok (.iload_n 1, 1) := by decide +kernel
theorem dX0_put_22 : decode cX0_put 22 = .ok (.iload_n 3, 1) := by decide +kernel
theorem dX0_put_23 : decode cX0_put 23 = .ok (.iastore, 1) := by decide +kernel
theorem dX0_put_24 : decode cX0_put 24 = .ok (.goto 10, 3) := by decide +kernel
theorem dX0_put_27 : decode cX0_put 27 = .ok (.aload_n 0, 1) := by decide +kernel
theorem dX0_put_28 : decode cX0_put 28 = .ok (.getfield 24, 3) := by decide +kernel
theorem dX0_put_31 : decode cX0_put 31 = .ok (.iload_n 1, 1) := by decide +kernel
theorem dX0_put_32 : decode cX0_put 32 = .ok (.iload_n 3, 1) := by decide +kernel
theorem dX0_put_33 : decode cX0_put 33 = .ok (.iastore, 1) := by decide +kernel
theorem dX0_put_34 : decode cX0_put 34 = .ok (.return_, 1) := by decide +kernel
theorem dX0_washes_0 : decode cX0_washes 0 = .ok (.iconst 0, 1) := by decide +kernel
theorem dX0_washes_1 : decode cX0_washes 1 = .ok (.istore_n 2, 1) := by decide +kernel
theorem dX0_washes_2 : decode cX0_washes 2 = .ok (.iconst 0, 1) := by decide +kernel
theorem dX0_washes_3 : decode cX0_washes 3 = .ok (.istore_n 3, 1) := by decide +kernel
theorem dX0_washes_4 : decode cX0_washes 4 = .ok (.iload_n 3, 1) := by decide +kernel
theorem dX0_washes_5 : decode cX0_washes 5 = .ok (.bipush 6, 2) := by decide +kernel
theorem dX0_washes_7 : decode cX0_washes 7 = .ok (.if_icmp .ge 41, 3) := by decide +kernel
theorem dX0_washes_10 : decode cX0_washes 10 = .ok (.aload_n 0, 1) := by decide +kernel
theorem dX0_washes_11 : decode cX0_washes 11 = .ok (.getfield 39, 3) := by decide +kernel
theorem dX0_washes_14 : decode cX0_washes 14 = .ok (.iload_n 3, 1) := by decide +kernel
theorem dX0_washes_15 : decode cX0_washes 15 = .ok (.aaload, 1) := by decide +kernel
theorem dX0_washes_16 : decode cX0_washes 16 = .ok (.iload_n 1, 1) := by decide +kernel
theorem dX0_washes_17 : decode cX0_washes 17 = .ok (.iaload, 1) := by decide +kernel
theorem dX0_washes_18 : decode cX0_washes 18 = .ok (.istore 4, 2) := by decide +kernel
theorem dX0_washes_20 : decode cX0_washes 20 = .ok (.aload_n 0, 1) := by decide +kernel
theorem dX0_washes_21 : decode cX0_washes 21 = .ok (.getfield 39, 3) := by decide +kernel
theorem dX0_washes_24 : decode cX0_washes 24 = .ok (.iload_n 3, 1) := by decide +kernel
theorem dX0_washes_25 : decode cX0_washes 25 = .ok (.aaload, 1) := by decide +kernel
theorem dX0_washes_26 : decode cX0_washes 26 = .ok (.iload_n 1, 1) := by decide +kernel
theorem dX0_washes_27 : decode cX0_washes 27 = .ok (.iload 4, 2) := by decide +kernel
theorem dX0_washes_29 : decode cX0_washes 29 = .ok (.iconst 3, 1) := by decide +kernel
theorem dX0_washes_30 : decode cX0_washes 30 = .ok (.idiv, 1) := by decide +kernel
theorem dX0_washes_31 : decode cX0_washes 31 = .ok (.iastore, 1) := by decide +kernel
theorem dX0_washes_32 : decode cX0_washes 32 = .ok (.iload_n 2, 1) := by decide +kernel
theorem dX0_washes_33 : decode cX0_washes 33 = .ok (.iload 4, 2) := by decide +kernel
theorem dX0_washes_35 : decode cX0_washes 35 = .ok (.iload 4, 2) := by decide +kernel
theorem dX0_washes_37 : decode cX0_washes 37 = .ok (.iconst 3, 1) := by decide +kernel
theorem dX0_washes_38 : decode cX0_washes 38 = .ok (.idiv, 1) := by decide +kernel
theorem dX0_washes_39 : decode cX0_washes 39 = .ok (.isub, 1) := by decide +kernel
theorem dX0_washes_40 : decode cX0_washes 40 = .ok (.iadd, 1) := by decide +kernel
theorem dX0_washes_41 : decode cX0_washes 41 = .ok (.istore_n 2, 1) := by decide +kernel
theorem dX0_washes_42 : decode cX0_washes 42 = .ok (.iinc 3 1, 3) := by decide +kernel
theorem dX0_washes_45 : decode cX0_washes 45 = .ok (.goto (-41), 3) := by decide +kernel
theorem dX0_washes_48 : decode cX0_washes 48 = .ok (.iload_n 2, 1) := by decide +kernel
theorem dX0_washes_49 : decode cX0_washes 49 = .ok (.ireturn, 1) := by decide +kernel
theorem dX0_sumOver_0 : decode cX0_sumOver 0 = .ok (.iconst 0, 1) := by decide +kernel
theorem dX0_sumOver_1 : decode cX0_sumOver 1 = .ok (.istore_n 2, 1) := by decide +kernel
theorem dX0_sumOver_2 : decode cX0_sumOver 2 = .ok (.iconst 0, 1) := by decide +kernel
theorem dX0_sumOver_3 : decode cX0_sumOver 3 = .ok (.istore_n 3, 1) := by decide +kernel
theorem dX0_sumOver_4 : decode cX0_sumOver 4 = .ok (.iload_n 3, 1) := by decide +kernel
theorem dX0_sumOver_5 : decode cX0_sumOver 5 = .ok (.aload_n 0, 1) := by decide +kernel
theorem dX0_sumOver_6 : decode cX0_sumOver 6 = .ok (.getfield 21, 3) := by decide +kernel
theorem dX0_sumOver_9 : decode cX0_sumOver 9 = .ok (.if_icmp .ge 15, 3) := by decide +kernel
theorem dX0_sumOver_12 : decode cX0_sumOver 12 = .ok (.iload_n 2, 1) := by decide +kernel
theorem dX0_sumOver_13 : decode cX0_sumOver 13 = .ok (.aload_n 1, 1) := by decide +kernel
theorem dX0_sumOver_14 : decode cX0_sumOver 14 = .ok (.iload_n 3, 1) := by decide +kernel
theorem dX0_sumOver_15 : decode cX0_sumOver 15 = .ok (.iaload, 1) := by decide +kernel
theorem dX0_sumOver_16 : decode cX0_sumOver 16 = .ok (.iadd, 1) := by decide +kernel
theorem dX0_sumOver_17 : decode cX0_sumOver 17 = .ok (.istore_n 2, 1) := by decide +kernel
theorem dX0_sumOver_18 : decode cX0_sumOver 18 = .ok (.iinc 3 1, 3) := by decide +kernel
theorem dX0_sumOver_21 : decode cX0_sumOver 21 = .ok (.goto (-17), 3) := by decide +kernel
theorem dX0_sumOver_24 : decode cX0_sumOver 24 = .ok (.iload_n 2, 1) := by decide +kernel
theorem dX0_sumOver_25 : decode cX0_sumOver 25 = .ok (.ireturn, 1) := by decide +kernel
theorem dX0_scentsOf_0 : decode cX0_scentsOf 0 = .ok (.iconst 0, 1) := by decide +kernel
theorem dX0_scentsOf_1 : decode cX0_scentsOf 1 = .ok (.istore_n 2, 1) := by decide +kernel
theorem dX0_scentsOf_2 : decode cX0_scentsOf 2 = .ok (.iconst 0, 1) := by decide +kernel
theorem dX0_scentsOf_3 : decode cX0_scentsOf 3 = .ok (.istore_n 3, 1) := by decide +kernel
theorem dX0_scentsOf_4 : decode cX0_scentsOf 4 = .ok (.iload_n 3, 1) := by decide +kernel
theorem dX0_scentsOf_5 : decode cX0_scentsOf 5 = .ok (.bipush 6, 2) := by decide +kernel
theorem dX0_scentsOf_7 : decode cX0_scentsOf 7 = .ok (.if_icmp .ge 20, 3) := by decide +kernel
theorem dX0_scentsOf_10 : decode cX0_scentsOf 10 = .ok (.iload_n 2, 1) := by decide +kernel
theorem dX0_scentsOf_11 : decode cX0_scentsOf 11 = .ok (.aload_n 0, 1) := by decide +kernel
theorem dX0_scentsOf_12 : decode cX0_scentsOf 12 = .ok (.getfield 39, 3) := by decide +kernel
theorem dX0_scentsOf_15 : decode cX0_scentsOf 15 = .ok (.iload_n 3, 1) := by decide +kernel
theorem dX0_scentsOf_16 : decode cX0_scentsOf 16 = .ok (.aaload, 1) := by decide +kernel
theorem dX0_scentsOf_17 : decode cX0_scentsOf 17 = .ok (.iload_n 1, 1) := by decide +kernel
theorem dX0_scentsOf_18 : decode cX0_scentsOf 18 = .ok (.iaload, 1) := by decide +kernel
theorem dX0_scentsOf_19 : decode cX0_scentsOf 19 = .ok (.iadd, 1) := by decide +kernel
theorem dX0_scentsOf_20 : decode cX0_scentsOf 20 = .ok (.istore_n 2, 1) := by decide +kernel
theorem dX0_scentsOf_21 : decode cX0_scentsOf 21 = .ok (.iinc 3 1, 3) := by decide +kernel
theorem dX0_scentsOf_24 : decode cX0_scentsOf 24 = .ok (.goto (-20), 3) := by decide +kernel
theorem dX0_scentsOf_27 : decode cX0_scentsOf 27 = .ok (.iload_n 2, 1) := by decide +kernel
theorem dX0_scentsOf_28 : decode cX0_scentsOf 28 = .ok (.ireturn, 1) := by decide +kernel
theorem dX0_scentsOfAll_0 : decode cX0_scentsOfAll 0 = .ok (.iconst 0, 1) := by decide +kernel
theorem dX0_scentsOfAll_1 : decode cX0_scentsOfAll 1 = .ok (.istore_n 1, 1) := by decide +kernel
theorem dX0_scentsOfAll_2 : decode cX0_scentsOfAll 2 = .ok (.iconst 0, 1) := by decide +kernel
theorem dX0_scentsOfAll_3 : decode cX0_scentsOfAll 3 = .ok (.istore_n 2, 1) := by decide +kernel
theorem dX0_scentsOfAll_4 : decode cX0_scentsOfAll 4 = .ok (.iload_n 2, 1) := by decide +kernel
theorem dX0_scentsOfAll_5 : decode cX0_scentsOfAll 5 = .ok (.bipush 6, 2) := by decide +kernel
theorem dX0_scentsOfAll_7 : decode cX0_scentsOfAll 7 = .ok (.if_icmp .ge 22, 3) := by decide +kernel
theorem dX0_scentsOfAll_10 : decode cX0_scentsOfAll 10 = .ok (.iload_n 1, 1) := by decide +kernel
theorem dX0_scentsOfAll_11 : decode cX0_scentsOfAll 11 = .ok (.aload_n 0, 1) := by decide +kernel
theorem dX0_scentsOfAll_12 : decode cX0_scentsOfAll 12 = .ok (.aload_n 0, 1) := by decide +kernel
theorem dX0_scentsOfAll_13 : decode cX0_scentsOfAll 13 = .ok (.getfield 39, 3) := by decide +kernel
theorem dX0_scentsOfAll_16 : decode cX0_scentsOfAll 16 = .ok (.iload_n 2, 1) := by decide +kernel
theorem dX0_scentsOfAll_17 : decode cX0_scentsOfAll 17 = .ok (.aaload, 1) := by decide +kernel
theorem dX0_scentsOfAll_18 : decode cX0_scentsOfAll 18 = .ok (.invokevirtual 55, 3) := by decide +kernel
theorem dX0_scentsOfAll_21 : decode cX0_scentsOfAll 21 = .ok (.iadd, 1) := by decide +kernel
theorem dX0_scentsOfAll_22 : decode cX0_scentsOfAll 22 = .ok (.istore_n 1, 1) := by decide +kernel
theorem dX0_scentsOfAll_23 : decode cX0_scentsOfAll 23 = .ok (.iinc 2 1, 3) := by decide +kernel
theorem dX0_scentsOfAll_26 : decode cX0_scentsOfAll 26 = .ok (.goto (-22), 3) := by decide +kernel
theorem dX0_scentsOfAll_29 : decode cX0_scentsOfAll 29 = .ok (.iload_n 1, 1) := by decide +kernel
theorem dX0_scentsOfAll_30 : decode cX0_scentsOfAll 30 = .ok (.ireturn, 1) := by decide +kernel
theorem dX0_givesOff_0 : decode cX0_givesOff 0 = .ok (.aload_n 0, 1) := by decide +kernel
theorem dX0_givesOff_1 : decode cX0_givesOff 1 = .ok (.getfield 39, 3) := by decide +kernel
theorem dX0_givesOff_4 : decode cX0_givesOff 4 = .ok (.iload_n 2, 1) := by decide +kernel
theorem dX0_givesOff_5 : decode cX0_givesOff 5 = .ok (.aaload, 1) := by decide +kernel
theorem dX0_givesOff_6 : decode cX0_givesOff 6 = .ok (.iload_n 1, 1) := by decide +kernel
theorem dX0_givesOff_7 : decode cX0_givesOff 7 = .ok (.iaload, 1) := by decide +kernel
theorem dX0_givesOff_8 : decode cX0_givesOff 8 = .ok (.istore_n 3, 1) := by decide +kernel
theorem dX0_givesOff_9 : decode cX0_givesOff 9 = .ok (.aload_n 0, 1) := by decide +kernel
theorem dX0_givesOff_10 : decode cX0_givesOff 10 = .ok (.getfield 24, 3) := by decide +kernel
theorem dX0_givesOff_13 : decode cX0_givesOff 13 = .ok (.iload_n 1, 1) := by decide +kernel
theorem dX0_givesOff_14 : decode cX0_givesOff 14 = .ok (.iaload, 1) := by decide +kernel
theorem dX0_givesOff_15 : decode cX0_givesOff 15 = .ok (.tableswitch 101 1 5 #[33, 43, 83, 52, 89], 33) := by decide +kernel
theorem dX0_givesOff_48 : decode cX0_givesOff 48 = .ok (.iload_n 2, 1) := by decide +kernel
theorem dX0_givesOff_49 : decode cX0_givesOff 49 = .ok (.ifCond .ne 7, 3) := by decide +kernel
theorem dX0_givesOff_52 : decode cX0_givesOff 52 = .ok (.iconst 0, 1) := by decide +kernel
theorem dX0_givesOff_53 : decode cX0_givesOff 53 = .ok (.goto 4, 3) := by decide +kernel
theorem dX0_givesOff_56 : decode cX0_givesOff 56 = .ok (.iload_n 3, 1) := by decide +kernel
theorem dX0_givesOff_57 : decode cX0_givesOff 57 = .ok (.ireturn, 1) := by decide +kernel
theorem dX0_givesOff_58 : decode cX0_givesOff 58 = .ok (.iload_n 3, 1) := by decide +kernel
theorem dX0_givesOff_59 : decode cX0_givesOff 59 = .ok (.bipush 10, 2) := by decide +kernel
theorem dX0_givesOff_61 : decode cX0_givesOff 61 = .ok (.isub, 1) := by decide +kernel
theorem dX0_givesOff_62 : decode cX0_givesOff 62 = .ok (.iconst 0, 1) := by decide +kernel
theorem dX0_givesOff_63 : decode cX0_givesOff 63 = .ok (.invokestatic 59, 3) := by decide +kernel
theorem dX0_givesOff_66 : decode cX0_givesOff 66 = .ok (.ireturn, 1) := by decide +kernel
theorem dX0_givesOff_67 : decode cX0_givesOff 67 = .ok (.aload_n 0, 1) := by decide +kernel
theorem dX0_givesOff_68 : decode cX0_givesOff 68 = .ok (.getfield 18, 3) := by decide +kernel
theorem dX0_givesOff_71 : decode cX0_givesOff 71 = .ok (.iconst 2, 1) := by decide +kernel
theorem dX0_givesOff_72 : decode cX0_givesOff 72 = .ok (.irem, 1) := by decide +kernel
theorem dX0_givesOff_73 : decode cX0_givesOff 73 = .ok (.ifCond .ne 16, 3) := by decide +kernel
theorem dX0_givesOff_76 : decode cX0_givesOff 76 = .ok (.iload_n 3, 1) := by decide +kernel
theorem dX0_givesOff_77 : decode cX0_givesOff 77 = .ok (.bipush 10, 2) := by decide +kernel
theorem dX0_givesOff_79 : decode cX0_givesOff 79 = .ok (.isub, 1) := by decide +kernel
theorem dX0_givesOff_80 : decode cX0_givesOff 80 = .ok (.iconst 0, 1) := by decide +kernel
theorem dX0_givesOff_81 : decode cX0_givesOff 81 = .ok (.invokestatic 59, 3) := by decide +kernel
theorem dX0_givesOff_84 : decode cX0_givesOff 84 = .ok (.iconst 2, 1) := by decide +kernel
theorem dX0_givesOff_85 : decode cX0_givesOff 85 = .ok (.idiv, 1) := by decide +kernel
theorem dX0_givesOff_86 : decode cX0_givesOff 86 = .ok (.goto 11, 3) := by decide +kernel
theorem dX0_givesOff_89 : decode cX0_givesOff 89 = .ok (.iload_n 3, 1) := by decide +kernel
theorem dX0_givesOff_90 : decode cX0_givesOff 90 = .ok (.bipush 10, 2) := by decide +kernel
theorem dX0_givesOff_92 : decode cX0_givesOff 92 = .ok (.isub, 1) := by decide +kernel
theorem dX0_givesOff_93 : decode cX0_givesOff 93 = .ok (.iconst 0, 1) := by decide +kernel
theorem dX0_givesOff_94 : decode cX0_givesOff 94 = .ok (.invokestatic 59, 3) := by decide +kernel
theorem dX0_givesOff_97 : decode cX0_givesOff 97 = .ok (.ireturn, 1) := by decide +kernel
theorem dX0_givesOff_98 : decode cX0_givesOff 98 = .ok (.iload_n 3, 1) := by decide +kernel
theorem dX0_givesOff_99 : decode cX0_givesOff 99 = .ok (.iload_n 3, 1) := by decide +kernel
theorem dX0_givesOff_100 : decode cX0_givesOff 100 = .ok (.iconst 2, 1) := by decide +kernel
theorem dX0_givesOff_101 : decode cX0_givesOff 101 = .ok (.idiv, 1) := by decide +kernel
theorem dX0_givesOff_102 : decode cX0_givesOff 102 = .ok (.iadd, 1) := by decide +kernel
theorem dX0_givesOff_103 : decode cX0_givesOff 103 = .ok (.ireturn, 1) := by decide +kernel
theorem dX0_givesOff_104 : decode cX0_givesOff 104 = .ok (.iload_n 3, 1) := by decide +kernel
theorem dX0_givesOff_105 : decode cX0_givesOff 105 = .ok (.iload_n 3, 1) := by decide +kernel
theorem dX0_givesOff_106 : decode cX0_givesOff 106 = .ok (.iconst 2, 1) := by decide +kernel
theorem dX0_givesOff_107 : decode cX0_givesOff 107 = .ok (.idiv, 1) := by decide +kernel
theorem dX0_givesOff_108 : decode cX0_givesOff 108 = .ok (.iadd, 1) := by decide +kernel
theorem dX0_givesOff_109 : decode cX0_givesOff 109 = .ok (.iconst 5, 1) := by decide +kernel
theorem dX0_givesOff_110 : decode cX0_givesOff 110 = .ok (.isub, 1) := by decide +kernel
theorem dX0_givesOff_111 : decode cX0_givesOff 111 = .ok (.iconst 0, 1) := by decide +kernel
theorem dX0_givesOff_112 : decode cX0_givesOff 112 = .ok (.invokestatic 59, 3) := by decide +kernel
theorem dX0_givesOff_115 : decode cX0_givesOff 115 = .ok (.ireturn, 1) := by decide +kernel
theorem dX0_givesOff_116 : decode cX0_givesOff 116 = .ok (.iload_n 3, 1) := by decide +kernel
theorem dX0_givesOff_117 : decode cX0_givesOff 117 = .ok (.ireturn, 1) := by decide +kernel
theorem dX0_givenOffBy_0 : decode cX0_givenOffBy 0 = .ok (.iconst 0, 1) := by decide +kernel
theorem dX0_givenOffBy_1 : decode cX0_givenOffBy 1 = .ok (.istore_n 2, 1) := by decide +kernel
theorem dX0_givenOffBy_2 : decode cX0_givenOffBy 2 = .ok (.iconst 0, 1) := by decide +kernel
theorem dX0_givenOffBy_3 : decode cX0_givenOffBy 3 = .ok (.istore_n 3, 1) := by decide +kernel
theorem dX0_givenOffBy_4 : decode cX0_givenOffBy 4 = .ok (.iload_n 3, 1) := by decide +kernel
theorem dX0_givenOffBy_5 : decode cX0_givenOffBy 5 = .ok (.bipush 6, 2) := by decide +kernel
theorem dX0_givenOffBy_7 : decode cX0_givenOffBy 7 = .ok (.if_icmp .ge 18, 3) := by decide +kernel
theorem dX0_givenOffBy_10 : decode cX0_givenOffBy 10 = .ok (.iload_n 2, 1) := by decide +kernel
theorem dX0_givenOffBy_11 : decode cX0_givenOffBy 11 = .ok (.aload_n 0, 1) := by decide +kernel
theorem dX0_givenOffBy_12 : decode cX0_givenOffBy 12 = .ok (.iload_n 1, 1) := by decide +kernel
theorem dX0_givenOffBy_13 : decode cX0_givenOffBy 13 = .ok (.iload_n 3, 1) := by decide +kernel
theorem dX0_givenOffBy_14 : decode cX0_givenOffBy 14 = .ok (.invokevirtual 65, 3) := by decide +kernel
theorem dX0_givenOffBy_17 : decode cX0_givenOffBy 17 = .ok (.iadd, 1) := by decide +kernel
theorem dX0_givenOffBy_18 : decode cX0_givenOffBy 18 = .ok (.istore_n 2, 1) := by decide +kernel
theorem dX0_givenOffBy_19 : decode cX0_givenOffBy 19 = .ok (.iinc 3 1, 3) := by decide +kernel
theorem dX0_givenOffBy_22 : decode cX0_givenOffBy 22 = .ok (.goto (-18), 3) := by decide +kernel
theorem dX0_givenOffBy_25 : decode cX0_givenOffBy 25 = .ok (.iload_n 2, 1) := by decide +kernel
theorem dX0_givenOffBy_26 : decode cX0_givenOffBy 26 = .ok (.ireturn, 1) := by decide +kernel
theorem dX0_senses_0 : decode cX0_senses 0 = .ok (.aload_n 0, 1) := by decide +kernel
theorem dX0_senses_1 : decode cX0_senses 1 = .ok (.getfield 34, 3) := by decide +kernel
theorem dX0_senses_4 : decode cX0_senses 4 = .ok (.iload_n 1, 1) := by decide +kernel
theorem dX0_senses_5 : decode cX0_senses 5 = .ok (.iaload, 1) := by decide +kernel
theorem dX0_senses_6 : decode cX0_senses 6 = .ok (.ifCond .eq 5, 3) := by decide +kernel
theorem dX0_senses_9 : decode cX0_senses 9 = .ok (.iconst 0, 1) := by decide +kernel
theorem dX0_senses_10 : decode cX0_senses 10 = .ok (.ireturn, 1) := by decide +kernel
theorem dX0_senses_11 : decode cX0_senses 11 = .ok (.iload_n 2, 1) := by decide +kernel
theorem dX0_senses_12 : decode cX0_senses 12 = .ok (.aload_n 0, 1) := by decide +kernel
theorem dX0_senses_13 : decode cX0_senses 13 = .ok (.getfield 31, 3) := by decide +kernel
theorem dX0_senses_16 : decode cX0_senses 16 = .ok (.iload_n 1, 1) := by decide +kernel
theorem dX0_senses_17 : decode cX0_senses 17 = .ok (.iaload, 1) := by decide +kernel
theorem dX0_senses_18 : decode cX0_senses 18 = .ok (.imul, 1) := by decide +kernel
theorem dX0_senses_19 : decode cX0_senses 19 = .ok (.iload_n 3, 1) := by decide +kernel
theorem dX0_senses_20 : decode cX0_senses 20 = .ok (.iconst 5, 1) := by decide +kernel
theorem dX0_senses_21 : decode cX0_senses 21 = .ok (.iadd, 1) := by decide +kernel
theorem dX0_senses_22 : decode cX0_senses 22 = .ok (.idiv, 1) := by decide +kernel
theorem dX0_senses_23 : decode cX0_senses 23 = .ok (.istore 4, 2) := by decide +kernel
theorem dX0_senses_25 : decode cX0_senses 25 = .ok (.aload_n 0, 1) := by decide +kernel
theorem dX0_senses_26 : decode cX0_senses 26 = .ok (.getfield 24, 3) := by decide +kernel
theorem dX0_senses_29 : decode cX0_senses 29 = .ok (.iload_n 1, 1) := by decide +kernel
theorem dX0_senses_30 : decode cX0_senses 30 = .ok (.iaload, 1) := by decide +kernel
theorem dX0_senses_31 : decode cX0_senses 31 = .ok (.tableswitch 65 1 5 #[33, 65, 44, 65, 49], 33) := by decide +kernel
theorem dX0_senses_64 : decode cX0_senses 64 = .ok (.iload_n 3, 1) := by decide +kernel
theorem dX0_senses_65 : decode cX0_senses 65 = .ok (.ifCond .ne 7, 3) := by decide +kernel
theorem dX0_senses_68 : decode cX0_senses 68 = .ok (.iconst 0, 1) := by decide +kernel
theorem dX0_senses_69 : decode cX0_senses 69 = .ok (.goto 5, 3) := by decide +kernel
theorem dX0_senses_72 : decode cX0_senses 72 = .ok (.iload 4, 2) := by decide +kernel
theorem dX0_senses_74 : decode cX0_senses 74 = .ok (.ireturn, 1) := by decide +kernel
theorem dX0_senses_75 : decode cX0_senses 75 = .ok (.iconst 2, 1) := by decide +kernel
theorem dX0_senses_76 : decode cX0_senses 76 = .ok (.iload 4, 2) := by decide +kernel
theorem dX0_senses_78 : decode cX0_senses 78 = .ok (.imul, 1) := by decide +kernel
theorem dX0_senses_79 : decode cX0_senses 79 = .ok (.ireturn, 1) := by decide +kernel
theorem dX0_senses_80 : decode cX0_senses 80 = .ok (.iload 4, 2) := by decide +kernel
theorem dX0_senses_82 : decode cX0_senses 82 = .ok (.ifCond .le 12, 3) := by decide +kernel
theorem dX0_senses_85 : decode cX0_senses 85 = .ok (.iconst 2, 1) := by decide +kernel
theorem dX0_senses_86 : decode cX0_senses 86 = .ok (.iload 4, 2) := by decide +kernel
theorem dX0_senses_88 : decode cX0_senses 88 = .ok (.imul, 1) := by decide +kernel
theorem dX0_senses_89 : decode cX0_senses 89 = .ok (.iconst 3, 1) := by decide +kernel
theorem dX0_senses_90 : decode cX0_senses 90 = .ok (.iadd, 1) := by decide +kernel
theorem dX0_senses_91 : decode cX0_senses 91 = .ok (.goto 4, 3) := by decide +kernel
theorem dX0_senses_94 : decode cX0_senses 94 = .ok (.iconst 0, 1) := by decide +kernel
theorem dX0_senses_95 : decode cX0_senses 95 = .ok (.ireturn, 1) := by decide +kernel
theorem dX0_senses_96 : decode cX0_senses 96 = .ok (.iload 4, 2) := by decide +kernel
theorem dX0_senses_98 : decode cX0_senses 98 = .ok (.ireturn, 1) := by decide +kernel
theorem dX0_smelt_0 : decode cX0_smelt 0 = .ok (.aload_n 0, 1) := by decide +kernel
theorem dX0_smelt_1 : decode cX0_smelt 1 = .ok (.iload_n 1, 1) := by decide +kernel
theorem dX0_smelt_2 : decode cX0_smelt 2 = .ok (.aload_n 0, 1) := by decide +kernel
theorem dX0_smelt_3 : decode cX0_smelt 3 = .ok (.iload_n 2, 1) := by decide +kernel
theorem dX0_smelt_4 : decode cX0_smelt 4 = .ok (.iload_n 3, 1) := by decide +kernel
theorem dX0_smelt_5 : decode cX0_smelt 5 = .ok (.invokevirtual 65, 3) := by decide +kernel
theorem dX0_smelt_8 : decode cX0_smelt 8 = .ok (.aload_n 0, 1) := by decide +kernel
theorem dX0_smelt_9 : decode cX0_smelt 9 = .ok (.getfield 28, 3) := by decide +kernel
theorem dX0_smelt_12 : decode cX0_smelt 12 = .ok (.iload_n 1, 1) := by decide +kernel
theorem dX0_smelt_13 : decode cX0_smelt 13 = .ok (.iaload, 1) := by decide +kernel
theorem dX0_smelt_14 : decode cX0_smelt 14 = .ok (.aload_n 0, 1) := by decide +kernel
theorem dX0_smelt_15 : decode cX0_smelt 15 = .ok (.getfield 28, 3) := by decide +kernel
theorem dX0_smelt_18 : decode cX0_smelt 18 = .ok (.iload_n 2, 1) := by decide +kernel
theorem dX0_smelt_19 : decode cX0_smelt 19 = .ok (.iaload, 1) := by decide +kernel
theorem dX0_smelt_20 : decode cX0_smelt 20 = .ok (.invokestatic 68, 3) := by decide +kernel
theorem dX0_smelt_23 : decode cX0_smelt 23 = .ok (.invokevirtual 71, 3) := by decide +kernel
theorem dX0_smelt_26 : decode cX0_smelt 26 = .ok (.istore 4, 2) := by decide +kernel
theorem dX0_smelt_28 : decode cX0_smelt 28 = .ok (.aload_n 0, 1) := by decide +kernel
theorem dX0_smelt_29 : decode cX0_smelt 29 = .ok (.aload_n 0, 1) := by decide +kernel
theorem dX0_smelt_30 : decode cX0_smelt 30 = .ok (.getfield 28, 3) := by decide +kernel
theorem dX0_smelt_33 : decode cX0_smelt 33 = .ok (.iload_n 1, 1) := by decide +kernel
theorem dX0_smelt_34 : decode cX0_smelt 34 = .ok (.iaload, 1) := by decide +kernel
theorem dX0_smelt_35 : decode cX0_smelt 35 = .ok (.aload_n 0, 1) := by decide +kernel
theorem dX0_smelt_36 : decode cX0_smelt 36 = .ok (.getfield 28, 3) := by decide +kernel
theorem dX0_smelt_39 : decode cX0_smelt 39 = .ok (.iload_n 2, 1) := by decide +kernel
theorem dX0_smelt_40 : decode cX0_smelt 40 = .ok (.iaload, 1) := by decide +kernel
theorem dX0_smelt_41 : decode cX0_smelt 41 = .ok (.invokevirtual 75, 3) := by decide +kernel
theorem dX0_smelt_44 : decode cX0_smelt 44 = .ok (.ifCond .eq 8, 3) := by decide +kernel
theorem dX0_smelt_47 : decode cX0_smelt 47 = .ok (.iconst 2, 1) := by decide +kernel
theorem dX0_smelt_48 : decode cX0_smelt 48 = .ok (.iload 4, 2) := by decide +kernel
theorem dX0_smelt_50 : decode cX0_smelt 50 = .ok (.imul, 1) := by decide +kernel
theorem dX0_smelt_51 : decode cX0_smelt 51 = .ok (.ireturn, 1) := by decide +kernel
theorem dX0_smelt_52 : decode cX0_smelt 52 = .ok (.aload_n 0, 1) := by decide +kernel
theorem dX0_smelt_53 : decode cX0_smelt 53 = .ok (.aload_n 0, 1) := by decide +kernel
theorem dX0_smelt_54 : decode cX0_smelt 54 = .ok (.getfield 28, 3) := by decide +kernel
theorem dX0_smelt_57 : decode cX0_smelt 57 = .ok (.iload_n 2, 1) := by decide +kernel
theorem dX0_smelt_58 : decode cX0_smelt 58 = .ok (.iaload, 1) := by decide +kernel
theorem dX0_smelt_59 : decode cX0_smelt 59 = .ok (.aload_n 0, 1) := by decide +kernel
theorem dX0_smelt_60 : decode cX0_smelt 60 = .ok (.getfield 28, 3) := by decide +kernel
theorem dX0_smelt_63 : decode cX0_smelt 63 = .ok (.iload_n 1, 1) := by decide +kernel
theorem dX0_smelt_64 : decode cX0_smelt 64 = .ok (.iaload, 1) := by decide +kernel
theorem dX0_smelt_65 : decode cX0_smelt 65 = .ok (.invokevirtual 75, 3) := by decide +kernel
theorem dX0_smelt_68 : decode cX0_smelt 68 = .ok (.ifCond .eq 10, 3) := by decide +kernel
theorem dX0_smelt_71 : decode cX0_smelt 71 = .ok (.iload 4, 2) := by decide +kernel
theorem dX0_smelt_73 : decode cX0_smelt 73 = .ok (.iconst 2, 1) := by decide +kernel
theorem dX0_smelt_74 : decode cX0_smelt 74 = .ok (.idiv, 1) := by decide +kernel
theorem dX0_smelt_75 : decode cX0_smelt 75 = .ok (.goto 5, 3) := by decide +kernel
theorem dX0_smelt_78 : decode cX0_smelt 78 = .ok (.iload 4, 2) := by decide +kernel
theorem dX0_smelt_80 : decode cX0_smelt 80 = .ok (.ireturn, 1) := by decide +kernel
theorem dX0_finds_0 : decode cX0_finds 0 = .ok (.aload_n 0, 1) := by decide +kernel
theorem dX0_finds_1 : decode cX0_finds 1 = .ok (.getfield 24, 3) := by decide +kernel
theorem dX0_finds_4 : decode cX0_finds 4 = .ok (.iload_n 1, 1) := by decide +kernel
theorem dX0_finds_5 : decode cX0_finds 5 = .ok (.iaload, 1) := by decide +kernel
theorem dX0_finds_6 : decode cX0_finds 6 = .ok (.iconst 2, 1) := by decide +kernel
theorem dX0_finds_7 : decode cX0_finds 7 = .ok (.invokestatic 79, 3) := by decide +kernel
theorem dX0_finds_10 : decode cX0_finds 10 = .ok (.ifCond .eq 24, 3) := by decide +kernel
theorem dX0_finds_13 : decode cX0_finds 13 = .ok (.aload_n 0, 1) := by decide +kernel
theorem dX0_finds_14 : decode cX0_finds 14 = .ok (.getfield 28, 3) := by decide +kernel
theorem dX0_finds_17 : decode cX0_finds 17 = .ok (.iload_n 1, 1) := by decide +kernel
theorem dX0_finds_18 : decode cX0_finds 18 = .ok (.iaload, 1) := by decide +kernel
theorem dX0_finds_19 : decode cX0_finds 19 = .ok (.aload_n 0, 1) := by decide +kernel
theorem dX0_finds_20 : decode cX0_finds 20 = .ok (.getfield 28, 3) := by decide +kernel
theorem dX0_finds_23 : decode cX0_finds 23 = .ok (.iload_n 2, 1) := by decide +kernel
theorem dX0_finds_24 : decode cX0_finds 24 = .ok (.iaload, 1) := by decide +kernel
theorem dX0_finds_25 : decode cX0_finds 25 = .ok (.invokestatic 68, 3) := by decide +kernel
theorem dX0_finds_28 : decode cX0_finds 28 = .ok (.iconst 1, 1) := by decide +kernel
theorem dX0_finds_29 : decode cX0_finds 29 = .ok (.if_icmp .gt 5, 3) := by decide +kernel
theorem dX0_finds_32 : decode cX0_finds 32 = .ok (.iconst 0, 1) := by decide +kernel
theorem dX0_finds_33 : decode cX0_finds 33 = .ok (.ireturn, 1) := by decide +kernel
theorem dX0_finds_34 : decode cX0_finds 34 = .ok (.iconst 0, 1) := by decide +kernel
theorem dX0_finds_35 : decode cX0_finds 35 = .ok (.istore_n 3, 1) := by decide +kernel
theorem dX0_finds_36 : decode cX0_finds 36 = .ok (.iload_n 3, 1) := by decide +kernel
theorem dX0_finds_37 : decode cX0_finds 37 = .ok (.bipush 6, 2) := by decide +kernel
theorem dX0_finds_39 : decode cX0_finds 39 = .ok (.if_icmp .ge 25, 3) := by decide +kernel
theorem dX0_finds_42 : decode cX0_finds 42 = .ok (.aload_n 0, 1) := by decide +kernel
theorem dX0_finds_43 : decode cX0_finds 43 = .ok (.iload_n 1, 1) := by decide +kernel
theorem dX0_finds_44 : decode cX0_finds 44 = .ok (.iload_n 2, 1) := by decide +kernel
theorem dX0_finds_45 : decode cX0_finds 45 = .ok (.iload_n 3, 1) := by decide +kernel
theorem dX0_finds_46 : decode cX0_finds 46 = .ok (.invokevirtual 82, 3) := by decide +kernel
theorem dX0_finds_49 : decode cX0_finds 49 = .ok (.aload_n 0, 1) := by decide +kernel
theorem dX0_finds_50 : decode cX0_finds 50 = .ok (.getfield 15, 3) := by decide +kernel
theorem dX0_finds_53 : decode cX0_finds 53 = .ok (.if_icmp .lt 5, 3) := by decide +kernel
theorem dX0_finds_56 : decode cX0_finds 56 = .ok (.iconst 1, 1) := by decide +kernel
theorem dX0_finds_57 : decode cX0_finds 57 = .ok (.ireturn, 1) := by decide +kernel
theorem dX0_finds_58 : decode cX0_finds 58 = .ok (.iinc 3 1, 3) := by decide +kernel
theorem dX0_finds_61 : decode cX0_finds 61 = .ok (.goto (-25), 3) := by decide +kernel
theorem dX0_finds_64 : decode cX0_finds 64 = .ok (.iconst 0, 1) := by decide +kernel
theorem dX0_finds_65 : decode cX0_finds 65 = .ok (.ireturn, 1) := by decide +kernel
theorem dX0_finders_0 : decode cX0_finders 0 = .ok (.iconst 0, 1) := by decide +kernel
theorem dX0_finders_1 : decode cX0_finders 1 = .ok (.istore_n 2, 1) := by decide +kernel
theorem dX0_finders_2 : decode cX0_finders 2 = .ok (.iconst 0, 1) := by decide +kernel
theorem dX0_finders_3 : decode cX0_finders 3 = .ok (.istore_n 3, 1) := by decide +kernel
theorem dX0_finders_4 : decode cX0_finders 4 = .ok (.iload_n 3, 1) := by decide +kernel
theorem dX0_finders_5 : decode cX0_finders 5 = .ok (.aload_n 0, 1) := by decide +kernel
theorem dX0_finders_6 : decode cX0_finders 6 = .ok (.getfield 21, 3) := by decide +kernel
theorem dX0_finders_9 : decode cX0_finders 9 = .ok (.if_icmp .ge 29, 3) := by decide +kernel
theorem dX0_finders_12 : decode cX0_finders 12 = .ok (.iload_n 3, 1) := by decide +kernel
theorem dX0_finders_13 : decode cX0_finders 13 = .ok (.iload_n 1, 1) := by decide +kernel
theorem dX0_finders_14 : decode cX0_finders 14 = .ok (.if_icmp .eq 18, 3) := by decide +kernel
theorem dX0_finders_17 : decode cX0_finders 17 = .ok (.aload_n 0, 1) := by decide +kernel
theorem dX0_finders_18 : decode cX0_finders 18 = .ok (.iload_n 3, 1) := by decide +kernel
theorem dX0_finders_19 : decode cX0_finders 19 = .ok (.iload_n 1, 1) := by decide +kernel
theorem dX0_finders_20 : decode cX0_finders 20 = .ok (.invokevirtual 85, 3) := by decide +kernel
theorem dX0_finders_23 : decode cX0_finders 23 = .ok (.ifCond .eq 9, 3) := by decide +kernel
theorem dX0_finders_26 : decode cX0_finders 26 = .ok (.iload_n 2, 1) := by decide +kernel
theorem dX0_finders_27 : decode cX0_finders 27 = .ok (.iconst 1, 1) := by decide +kernel
theorem dX0_finders_28 : decode cX0_finders 28 = .ok (.iload_n 3, 1) := by decide +kernel
theorem dX0_finders_29 : decode cX0_finders 29 = .ok (.ishl, 1) := by decide +kernel
theorem dX0_finders_30 : decode cX0_finders 30 = .ok (.ior, 1) := by decide +kernel
theorem dX0_finders_31 : decode cX0_finders 31 = .ok (.istore_n 2, 1) := by decide +kernel
theorem dX0_finders_32 : decode cX0_finders 32 = .ok (.iinc 3 1, 3) := by decide +kernel
theorem dX0_finders_35 : decode cX0_finders 35 = .ok (.goto (-31), 3) := by decide +kernel
theorem dX0_finders_38 : decode cX0_finders 38 = .ok (.iload_n 2, 1) := by decide +kernel
theorem dX0_finders_39 : decode cX0_finders 39 = .ok (.ireturn, 1) := by decide +kernel
theorem dX0_foundGuilty_0 : decode cX0_foundGuilty 0 = .ok (.iconst 0, 1) := by decide +kernel
theorem dX0_foundGuilty_1 : decode cX0_foundGuilty 1 = .ok (.istore_n 1, 1) := by decide +kernel
theorem dX0_foundGuilty_2 : decode cX0_foundGuilty 2 = .ok (.iconst 0, 1) := by decide +kernel
theorem dX0_foundGuilty_3 : decode cX0_foundGuilty 3 = .ok (.istore_n 2, 1) := by decide +kernel
theorem dX0_foundGuilty_4 : decode cX0_foundGuilty 4 = .ok (.iload_n 2, 1) := by decide +kernel
theorem dX0_foundGuilty_5 : decode cX0_foundGuilty 5 = .ok (.aload_n 0, 1) := by decide +kernel
theorem dX0_foundGuilty_6 : decode cX0_foundGuilty 6 = .ok (.getfield 21, 3) := by decide +kernel
theorem dX0_foundGuilty_9 : decode cX0_foundGuilty 9 = .ok (.if_icmp .ge 23, 3) := by decide +kernel
theorem dX0_foundGuilty_12 : decode cX0_foundGuilty 12 = .ok (.aload_n 0, 1) := by decide +kernel
theorem dX0_foundGuilty_13 : decode cX0_foundGuilty 13 = .ok (.iload_n 2, 1) := by decide +kernel
theorem dX0_foundGuilty_14 : decode cX0_foundGuilty 14 = .ok (.invokevirtual 88, 3) := by decide +kernel
theorem dX0_foundGuilty_17 : decode cX0_foundGuilty 17 = .ok (.ifCond .eq 9, 3) := by decide +kernel
theorem dX0_foundGuilty_20 : decode cX0_foundGuilty 20 = .ok (.iload_n 1, 1) := by decide +kernel
theorem dX0_foundGuilty_21 : decode cX0_foundGuilty 21 = .ok (.iconst 1, 1) := by decide +kernel
theorem dX0_foundGuilty_22 : decode cX0_foundGuilty 22 = .ok (.iload_n 2, 1) := by decide +kernel
theorem dX0_foundGuilty_23 : decode cX0_foundGuilty 23 = .ok (.ishl, 1) := by decide +kernel
theorem dX0_foundGuilty_24 : decode cX0_foundGuilty 24 = .ok (.ior, 1) := by decide +kernel
theorem dX0_foundGuilty_25 : decode cX0_foundGuilty 25 = .ok (.istore_n 1, 1) := by decide +kernel
theorem dX0_foundGuilty_26 : decode cX0_foundGuilty 26 = .ok (.iinc 2 1, 3) := by decide +kernel
theorem dX0_foundGuilty_29 : decode cX0_foundGuilty 29 = .ok (.goto (-25), 3) := by decide +kernel
theorem dX0_foundGuilty_32 : decode cX0_foundGuilty 32 = .ok (.iload_n 1, 1) := by decide +kernel
theorem dX0_foundGuilty_33 : decode cX0_foundGuilty 33 = .ok (.ireturn, 1) := by decide +kernel
theorem dX0_hourGoes_0 : decode cX0_hourGoes 0 = .ok (.iconst 0, 1) := by decide +kernel
theorem dX0_hourGoes_1 : decode cX0_hourGoes 1 = .ok (.istore_n 1, 1) := by decide +kernel
theorem dX0_hourGoes_2 : decode cX0_hourGoes 2 = .ok (.iload_n 1, 1) := by decide +kernel
theorem dX0_hourGoes_3 : decode cX0_hourGoes 3 = .ok (.bipush 6, 2) := by decide +kernel
theorem dX0_hourGoes_5 : decode cX0_hourGoes 5 = .ok (.if_icmp .ge 14, 3) := by decide +kernel
theorem dX0_hourGoes_8 : decode cX0_hourGoes 8 = .ok (.aload_n 0, 1) := by decide +kernel
theorem dX0_hourGoes_9 : decode cX0_hourGoes 9 = .ok (.iload_n 1, 1) := by decide +kernel
theorem dX0_hourGoes_10 : decode cX0_hourGoes 10 = .ok (.invokevirtual 92, 3) := by decide +kernel
theorem dX0_hourGoes_13 : decode cX0_hourGoes 13 = .ok (.iinc 1 1, 3) := by decide +kernel
theorem dX0_hourGoes_16 : decode cX0_hourGoes 16 = .ok (.goto (-14), 3) := by decide +kernel
theorem dX0_hourGoes_19 : decode cX0_hourGoes 19 = .ok (.aload_n 0, 1) := by decide +kernel
theorem dX0_hourGoes_20 : decode cX0_hourGoes 20 = .ok (.dup, 1) := by decide +kernel
theorem dX0_hourGoes_21 : decode cX0_hourGoes 21 = .ok (.getfield 18, 3) := by decide +kernel
theorem dX0_hourGoes_24 : decode cX0_hourGoes 24 = .ok (.iconst 1, 1) := by decide +kernel
theorem dX0_hourGoes_25 : decode cX0_hourGoes 25 = .ok (.iadd, 1) := by decide +kernel
theorem dX0_hourGoes_26 : decode cX0_hourGoes 26 = .ok (.putfield 18, 3) := by decide +kernel
theorem dX0_hourGoes_29 : decode cX0_hourGoes 29 = .ok (.return_, 1) := by decide +kernel
theorem dX0_hourGoesFor_0 : decode cX0_hourGoesFor 0 = .ok (.aload_n 0, 1) := by decide +kernel
theorem dX0_hourGoesFor_1 : decode cX0_hourGoesFor 1 = .ok (.iload_n 1, 1) := by decide +kernel
theorem dX0_hourGoesFor_2 : decode cX0_hourGoesFor 2 = .ok (.invokevirtual 92, 3) := by decide +kernel
theorem dX0_hourGoesFor_5 : decode cX0_hourGoesFor 5 = .ok (.aload_n 0, 1) := by decide +kernel
theorem dX0_hourGoesFor_6 : decode cX0_hourGoesFor 6 = .ok (.dup, 1) := by decide +kernel
theorem dX0_hourGoesFor_7 : decode cX0_hourGoesFor 7 = .ok (.getfield 18, 3) := by decide +kernel
theorem dX0_hourGoesFor_10 : decode cX0_hourGoesFor 10 = .ok (.iconst 1, 1) := by decide +kernel
theorem dX0_hourGoesFor_11 : decode cX0_hourGoesFor 11 = .ok (.iadd, 1) := by decide +kernel
theorem dX0_hourGoesFor_12 : decode cX0_hourGoesFor 12 = .ok (.putfield 18, 3) := by decide +kernel
theorem dX0_hourGoesFor_15 : decode cX0_hourGoesFor 15 = .ok (.return_, 1) := by decide +kernel
theorem dX0_fade_0 : decode cX0_fade 0 = .ok (.aload_n 0, 1) := by decide +kernel
theorem dX0_fade_1 : decode cX0_fade 1 = .ok (.getfield 39, 3) := by decide +kernel
theorem dX0_fade_4 : decode cX0_fade 4 = .ok (.iload_n 1, 1) := by decide +kernel
theorem dX0_fade_5 : decode cX0_fade 5 = .ok (.aaload, 1) := by decide +kernel
theorem dX0_fade_6 : decode cX0_fade 6 = .ok (.astore_n 2, 1) := by decide +kernel
theorem dX0_fade_7 : decode cX0_fade 7 = .ok (.iconst 0, 1) := by decide +kernel
theorem dX0_fade_8 : decode cX0_fade 8 = .ok (.istore_n 3, 1) := by decide +kernel
theorem dX0_fade_9 : decode cX0_fade 9 = .ok (.iload_n 3, 1) := by decide +kernel
theorem dX0_fade_10 : decode cX0_fade 10 = .ok (.aload_n 0, 1) := by decide +kernel
theorem dX0_fade_11 : decode cX0_fade 11 = .ok (.getfield 21, 3) := by decide +kernel
theorem dX0_fade_14 : decode cX0_fade 14 = .ok (.if_icmp .ge 52, 3) := by decide +kernel
theorem dX0_fade_17 : decode cX0_fade 17 = .ok (.aload_n 0, 1) := by decide +kernel
theorem dX0_fade_18 : decode cX0_fade 18 = .ok (.iload_n 3, 1) := by decide +kernel
theorem dX0_fade_19 : decode cX0_fade 19 = .ok (.iload_n 1, 1) := by decide +kernel
theorem dX0_fade_20 : decode cX0_fade 20 = .ok (.invokevirtual 96, 3) := by decide +kernel
theorem dX0_fade_23 : decode cX0_fade 23 = .ok (.istore 4, 2) := by decide +kernel
theorem dX0_fade_25 : decode cX0_fade 25 = .ok (.iload 4, 2) := by decide +kernel
theorem dX0_fade_27 : decode cX0_fade 27 = .ok (.ifCond .ge 7, 3) := by decide +kernel
theorem dX0_fade_30 : decode cX0_fade 30 = .ok (.iconst 0, 1) := by decide +kernel
theorem dX0_fade_31 : decode cX0_fade 31 = .ok (.goto 9, 3) := by decide +kernel
theorem dX0_fade_34 : decode cX0_fade 34 = .ok (.aload_n 2, 1) := by decide +kernel
theorem dX0_fade_35 : decode cX0_fade 35 = .ok (.iload 4, 2) := by decide +kernel
theorem dX0_fade_37 : decode cX0_fade 37 = .ok (.iaload, 1) := by decide +kernel
theorem dX0_fade_38 : decode cX0_fade 38 = .ok (.iconst 4, 1) := by decide +kernel
theorem dX0_fade_39 : decode cX0_fade 39 = .ok (.idiv, 1) := by decide +kernel
theorem dX0_fade_40 : decode cX0_fade 40 = .ok (.istore 5, 2) := by decide +kernel
theorem dX0_fade_42 : decode cX0_fade 42 = .ok (.aload_n 0, 1) := by decide +kernel
theorem dX0_fade_43 : decode cX0_fade 43 = .ok (.getfield 42, 3) := by decide +kernel
theorem dX0_fade_46 : decode cX0_fade 46 = .ok (.iload_n 3, 1) := by decide +kernel
theorem dX0_fade_47 : decode cX0_fade 47 = .ok (.iload_n 1, 1) := by decide +kernel
theorem dX0_fade_48 : decode cX0_fade 48 = .ok (.aload_n 2, 1) := by decide +kernel
theorem dX0_fade_49 : decode cX0_fade 49 = .ok (.iload_n 3, 1) := by decide +kernel
theorem dX0_fade_50 : decode cX0_fade 50 = .ok (.iaload, 1) := by decide +kernel
theorem dX0_fade_51 : decode cX0_fade 51 = .ok (.invokestatic 99, 3) := by decide +kernel
theorem dX0_fade_54 : decode cX0_fade 54 = .ok (.iload 5, 2) := by decide +kernel
theorem dX0_fade_56 : decode cX0_fade 56 = .ok (.invokestatic 59, 3) := by decide +kernel
theorem dX0_fade_59 : decode cX0_fade 59 = .ok (.iastore, 1) := by decide +kernel
theorem dX0_fade_60 : decode cX0_fade 60 = .ok (.iinc 3 1, 3) := by decide +kernel
theorem dX0_fade_63 : decode cX0_fade 63 = .ok (.goto (-54), 3) := by decide +kernel
theorem dX0_fade_66 : decode cX0_fade 66 = .ok (.aload_n 0, 1) := by decide +kernel
theorem dX0_fade_67 : decode cX0_fade 67 = .ok (.getfield 42, 3) := by decide +kernel
theorem dX0_fade_70 : decode cX0_fade 70 = .ok (.iconst 0, 1) := by decide +kernel
theorem dX0_fade_71 : decode cX0_fade 71 = .ok (.aload_n 2, 1) := by decide +kernel
theorem dX0_fade_72 : decode cX0_fade 72 = .ok (.iconst 0, 1) := by decide +kernel
theorem dX0_fade_73 : decode cX0_fade 73 = .ok (.aload_n 0, 1) := by decide +kernel
theorem dX0_fade_74 : decode cX0_fade 74 = .ok (.getfield 21, 3) := by decide +kernel
theorem dX0_fade_77 : decode cX0_fade 77 = .ok (.invokestatic 45, 3) := by decide +kernel
theorem dX0_fade_80 : decode cX0_fade 80 = .ok (.return_, 1) := by decide +kernel
theorem dX0_strongestBeside_0 : decode cX0_strongestBeside 0 = .ok (.aload_n 0, 1) := by decide +kernel
theorem dX0_strongestBeside_1 : decode cX0_strongestBeside 1 = .ok (.getfield 39, 3) := by decide +kernel
theorem dX0_strongestBeside_4 : decode cX0_strongestBeside 4 = .ok (.iload_n 2, 1) := by decide +kernel
theorem dX0_strongestBeside_5 : decode cX0_strongestBeside 5 = .ok (.aaload, 1) := by decide +kernel
theorem dX0_strongestBeside_6 : decode cX0_strongestBeside 6 = .ok (.astore_n 3, 1) := by decide +kernel
theorem dX0_strongestBeside_7 : decode cX0_strongestBeside 7 = .ok (.iconst (-1), 1) := by decide +kernel
theorem dX0_strongestBeside_8 : decode cX0_strongestBeside 8 = .ok (.istore 4, 2) := by decide +kernel
theorem dX0_strongestBeside_10 : decode cX0_strongestBeside 10 = .ok (.iconst 0, 1) := by decide +kernel
theorem dX0_strongestBeside_11 : decode cX0_strongestBeside 11 = .ok (.istore 5, 2) := by decide +kernel
theorem dX0_strongestBeside_13 : decode cX0_strongestBeside 13 = .ok (.iload 5, 2) := by decide +kernel
theorem dX0_strongestBeside_15 : decode cX0_strongestBeside 15 = .ok (.aload_n 0, 1) := by decide +kernel
theorem dX0_strongestBeside_16 : decode cX0_strongestBeside 16 = .ok (.getfield 21, 3) := by decide +kernel
theorem dX0_strongestBeside_19 : decode cX0_strongestBeside 19 = .ok (.if_icmp .ge 51, 3) := by decide +kernel
theorem dX0_strongestBeside_22 : decode cX0_strongestBeside 22 = .ok (.iload 5, 2) := by decide +kernel
theorem dX0_strongestBeside_24 : decode cX0_strongestBeside 24 = .ok (.iload_n 1, 1) := by decide +kernel
theorem dX0_strongestBeside_25 : decode cX0_strongestBeside 25 = .ok (.if_icmp .eq 39, 3) := by decide +kernel
theorem dX0_strongestBeside_28 : decode cX0_strongestBeside 28 = .ok (.aload_n 0, 1) := by decide +kernel
theorem dX0_strongestBeside_29 : decode cX0_strongestBeside 29 = .ok (.getfield 28, 3) := by decide +kernel
theorem dX0_strongestBeside_32 : decode cX0_strongestBeside 32 = .ok (.iload 5, 2) := by decide +kernel
theorem dX0_strongestBeside_34 : decode cX0_strongestBeside 34 = .ok (.iaload, 1) := by decide +kernel
theorem dX0_strongestBeside_35 : decode cX0_strongestBeside 35 = .ok (.aload_n 0, 1) := by decide +kernel
theorem dX0_strongestBeside_36 : decode cX0_strongestBeside 36 = .ok (.getfield 28, 3) := by decide +kernel
theorem dX0_strongestBeside_39 : decode cX0_strongestBeside 39 = .ok (.iload_n 1, 1) := by decide +kernel
theorem dX0_strongestBeside_40 : decode cX0_strongestBeside 40 = .ok (.iaload, 1) := by decide +kernel
theorem dX0_strongestBeside_41 : decode cX0_strongestBeside 41 = .ok (.if_icmp .ne 23, 3) := by decide +kernel
theorem dX0_strongestBeside_44 : decode cX0_strongestBeside 44 = .ok (.iload 4, 2) := by decide +kernel
theorem dX0_strongestBeside_46 : decode cX0_strongestBeside 46 = .ok (.ifCond .lt 14, 3) := by decide +kernel
theorem dX0_strongestBeside_49 : decode cX0_strongestBeside 49 = .ok (.aload_n 3, 1) := by decide +kernel
theorem dX0_strongestBeside_50 : decode cX0_strongestBeside 50 = .ok (.iload 5, 2) := by decide +kernel
theorem dX0_strongestBeside_52 : decode cX0_strongestBeside 52 = .ok (.iaload, 1) := by decide +kernel
theorem dX0_strongestBeside_53 : decode cX0_strongestBeside 53 = .ok (.aload_n 3, 1) := by decide +kernel
theorem dX0_strongestBeside_54 : decode cX0_strongestBeside 54 = .ok (.iload 4, 2) := by decide +kernel
theorem dX0_strongestBeside_56 : decode cX0_strongestBeside 56 = .ok (.iaload, 1) := by decide +kernel
theorem dX0_strongestBeside_57 : decode cX0_strongestBeside 57 = .ok (.if_icmp .le 7, 3) := by decide +kernel
theorem dX0_strongestBeside_60 : decode cX0_strongestBeside 60 = .ok (.iload 5, 2) := by decide +kernel
theorem dX0_strongestBeside_62 : decode cX0_strongestBeside 62 = .ok (.istore 4, 2) := by decide +kernel
theorem dX0_strongestBeside_64 : decode cX0_strongestBeside 64 = .ok (.iinc 5 1, 3) := by decide +kernel
theorem dX0_strongestBeside_67 : decode cX0_strongestBeside 67 = .ok (.goto (-54), 3) := by decide +kernel
theorem dX0_strongestBeside_70 : decode cX0_strongestBeside 70 = .ok (.iload 4, 2) := by decide +kernel
theorem dX0_strongestBeside_72 : decode cX0_strongestBeside 72 = .ok (.ireturn, 1) := by decide +kernel
theorem dX0_isDownwind_0 : decode cX0_isDownwind 0 = .ok (.aload_n 0, 1) := by decide +kernel
theorem dX0_isDownwind_1 : decode cX0_isDownwind 1 = .ok (.getfield 9, 3) := by decide +kernel
theorem dX0_isDownwind_4 : decode cX0_isDownwind 4 = .ok (.tableswitch 100 1 4 #[32, 49, 66, 83], 32) := by decide +kernel
theorem dX0_isDownwind_36 : decode cX0_isDownwind 36 = .ok (.iload_n 1, 1) := by decide +kernel
theorem dX0_isDownwind_37 : decode cX0_isDownwind 37 = .ok (.bipush 8, 2) := by decide +kernel
theorem dX0_isDownwind_39 : decode cX0_isDownwind 39 = .ok (.idiv, 1) := by decide +kernel
theorem dX0_isDownwind_40 : decode cX0_isDownwind 40 = .ok (.iload_n 2, 1) := by decide +kernel
theorem dX0_isDownwind_41 : decode cX0_isDownwind 41 = .ok (.bipush 8, 2) := by decide +kernel
theorem dX0_isDownwind_43 : decode cX0_isDownwind 43 = .ok (.idiv, 1) := by decide +kernel
theorem dX0_isDownwind_44 : decode cX0_isDownwind 44 = .ok (.if_icmp .ge 7, 3) := by decide +kernel
theorem dX0_isDownwind_47 : decode cX0_isDownwind 47 = .ok (.iconst 1, 1) := by decide +kernel
theorem dX0_isDownwind_48 : decode cX0_isDownwind 48 = .ok (.goto 4, 3) := by decide +kernel
theorem dX0_isDownwind_51 : decode cX0_isDownwind 51 = .ok (.iconst 0, 1) := by decide +kernel
theorem dX0_isDownwind_52 : decode cX0_isDownwind 52 = .ok (.ireturn, 1) := by decide +kernel
theorem dX0_isDownwind_53 : decode cX0_isDownwind 53 = .ok (.iload_n 1, 1) := by decide +kernel
theorem dX0_isDownwind_54 : decode cX0_isDownwind 54 = .ok (.bipush 8, 2) := by decide +kernel
theorem dX0_isDownwind_56 : decode cX0_isDownwind 56 = .ok (.irem, 1) := by decide +kernel
theorem dX0_isDownwind_57 : decode cX0_isDownwind 57 = .ok (.iload_n 2, 1) := by decide +kernel
theorem dX0_isDownwind_58 : decode cX0_isDownwind 58 = .ok (.bipush 8, 2) := by decide +kernel
theorem dX0_isDownwind_60 : decode cX0_isDownwind 60 = .ok (.irem, 1) := by decide +kernel
theorem dX0_isDownwind_61 : decode cX0_isDownwind 61 = .ok (.if_icmp .le 7, 3) := by decide +kernel
theorem dX0_isDownwind_64 : decode cX0_isDownwind 64 = .ok (.iconst 1, 1) := by decide +kernel
theorem dX0_isDownwind_65 : decode cX0_isDownwind 65 = .ok (.goto 4, 3) := by decide +kernel
theorem dX0_isDownwind_68 : decode cX0_isDownwind 68 = .ok (.iconst 0, 1) := by decide +kernel
theorem dX0_isDownwind_69 : decode cX0_isDownwind 69 = .ok (.ireturn, 1) := by decide +kernel
theorem dX0_isDownwind_70 : decode cX0_isDownwind 70 = .ok (.iload_n 1, 1) := by decide +kernel
theorem dX0_isDownwind_71 : decode cX0_isDownwind 71 = .ok (.bipush 8, 2) := by decide +kernel
theorem dX0_isDownwind_73 : decode cX0_isDownwind 73 = .ok (.idiv, 1) := by decide +kernel
theorem dX0_isDownwind_74 : decode cX0_isDownwind 74 = .ok (.iload_n 2, 1) := by decide +kernel
theorem dX0_isDownwind_75 : decode cX0_isDownwind 75 = .ok (.bipush 8, 2) := by decide +kernel
theorem dX0_isDownwind_77 : decode cX0_isDownwind 77 = .ok (.idiv, 1) := by decide +kernel
theorem dX0_isDownwind_78 : decode cX0_isDownwind 78 = .ok (.if_icmp .le 7, 3) := by decide +kernel
theorem dX0_isDownwind_81 : decode cX0_isDownwind 81 = .ok (.iconst 1, 1) := by decide +kernel
theorem dX0_isDownwind_82 : decode cX0_isDownwind 82 = .ok (.goto 4, 3) := by decide +kernel
theorem dX0_isDownwind_85 : decode cX0_isDownwind 85 = .ok (.iconst 0, 1) := by decide +kernel
theorem dX0_isDownwind_86 : decode cX0_isDownwind 86 = .ok (.ireturn, 1) := by decide +kernel
theorem dX0_isDownwind_87 : decode cX0_isDownwind 87 = .ok (.iload_n 1, 1) := by decide +kernel
theorem dX0_isDownwind_88 : decode cX0_isDownwind 88 = .ok (.bipush 8, 2) := by decide +kernel
theorem dX0_isDownwind_90 : decode cX0_isDownwind 90 = .ok (.irem, 1) := by decide +kernel
theorem dX0_isDownwind_91 : decode cX0_isDownwind 91 = .ok (.iload_n 2, 1) := by decide +kernel
theorem dX0_isDownwind_92 : decode cX0_isDownwind 92 = .ok (.bipush 8, 2) := by decide +kernel
theorem dX0_isDownwind_94 : decode cX0_isDownwind 94 = .ok (.irem, 1) := by decide +kernel
theorem dX0_isDownwind_95 : decode cX0_isDownwind 95 = .ok (.if_icmp .ge 7, 3) := by decide +kernel
theorem dX0_isDownwind_98 : decode cX0_isDownwind 98 = .ok (.iconst 1, 1) := by decide +kernel
theorem dX0_isDownwind_99 : decode cX0_isDownwind 99 = .ok (.goto 4, 3) := by decide +kernel
theorem dX0_isDownwind_102 : decode cX0_isDownwind 102 = .ok (.iconst 0, 1) := by decide +kernel
theorem dX0_isDownwind_103 : decode cX0_isDownwind 103 = .ok (.ireturn, 1) := by decide +kernel
theorem dX0_isDownwind_104 : decode cX0_isDownwind 104 = .ok (.iconst 0, 1) := by decide +kernel
theorem dX0_isDownwind_105 : decode cX0_isDownwind 105 = .ok (.ireturn, 1) := by decide +kernel
theorem dX0_apart_0 : decode cX0_apart 0 = .ok (.iload_n 0, 1) := by decide +kernel
theorem dX0_apart_1 : decode cX0_apart 1 = .ok (.bipush 8, 2) := by decide +kernel
theorem dX0_apart_3 : decode cX0_apart 3 = .ok (.idiv, 1) := by decide +kernel
theorem dX0_apart_4 : decode cX0_apart 4 = .ok (.iload_n 1, 1) := by decide +kernel
theorem dX0_apart_5 : decode cX0_apart 5 = .ok (.bipush 8, 2) := by decide +kernel
theorem dX0_apart_7 : decode cX0_apart 7 = .ok (.idiv, 1) := by decide +kernel
theorem dX0_apart_8 : decode cX0_apart 8 = .ok (.isub, 1) := by decide +kernel
theorem dX0_apart_9 : decode cX0_apart 9 = .ok (.invokestatic 102, 3) := by decide +kernel
theorem dX0_apart_12 : decode cX0_apart 12 = .ok (.iload_n 0, 1) := by decide +kernel
theorem dX0_apart_13 : decode cX0_apart 13 = .ok (.bipush 8, 2) := by decide +kernel
theorem dX0_apart_15 : decode cX0_apart 15 = .ok (.irem, 1) := by decide +kernel
theorem dX0_apart_16 : decode cX0_apart 16 = .ok (.iload_n 1, 1) := by decide +kernel
theorem dX0_apart_17 : decode cX0_apart 17 = .ok (.bipush 8, 2) := by decide +kernel
theorem dX0_apart_19 : decode cX0_apart 19 = .ok (.irem, 1) := by decide +kernel
theorem dX0_apart_20 : decode cX0_apart 20 = .ok (.isub, 1) := by decide +kernel
theorem dX0_apart_21 : decode cX0_apart 21 = .ok (.invokestatic 102, 3) := by decide +kernel
theorem dX0_apart_24 : decode cX0_apart 24 = .ok (.iadd, 1) := by decide +kernel
theorem dX0_apart_25 : decode cX0_apart 25 = .ok (.ireturn, 1) := by decide +kernel
theorem dX1_init_0 : decode cX1_init 0 = .ok (.aload_n 0, 1) := by decide +kernel
theorem dX1_init_1 : decode cX1_init 1 = .ok (.invokespecial 3, 3) := by decide +kernel
theorem dX1_init_4 : decode cX1_init 4 = .ok (.aload_n 0, 1) := by decide +kernel
theorem dX1_init_5 : decode cX1_init 5 = .ok (.iconst 0, 1) := by decide +kernel
theorem dX1_init_6 : decode cX1_init 6 = .ok (.putfield 9, 3) := by decide +kernel
theorem dX1_init_9 : decode cX1_init 9 = .ok (.aload_n 0, 1) := by decide +kernel
theorem dX1_init_10 : decode cX1_init 10 = .ok (.iconst 0, 1) := by decide +kernel
theorem dX1_init_11 : decode cX1_init 11 = .ok (.putfield 15, 3) := by decide +kernel
theorem dX1_init_14 : decode cX1_init 14 = .ok (.aload_n 0, 1) := by decide +kernel
theorem dX1_init_15 : decode cX1_init 15 = .ok (.bipush 40, 2) := by decide +kernel
theorem dX1_init_17 : decode cX1_init 17 = .ok (.newarray .long, 2) := by decide +kernel
theorem dX1_init_19 : decode cX1_init 19 = .ok (.putfield 18, 3) := by decide +kernel
theorem dX1_init_22 : decode cX1_init 22 = .ok (.return_, 1) := by decide +kernel
theorem dX1_renew_0 : decode cX1_renew 0 = .ok (.aload_n 0, 1) := by decide +kernel
theorem dX1_renew_1 : decode cX1_renew 1 = .ok (.iload_n 1, 1) := by decide +kernel
theorem dX1_renew_2 : decode cX1_renew 2 = .ok (.putfield 9, 3) := by decide +kernel
theorem dX1_renew_5 : decode cX1_renew 5 = .ok (.aload_n 0, 1) := by decide +kernel
theorem dX1_renew_6 : decode cX1_renew 6 = .ok (.iload_n 2, 1) := by decide +kernel
theorem dX1_renew_7 : decode cX1_renew 7 = .ok (.putfield 15, 3) := by decide +kernel
theorem dX1_renew_10 : decode cX1_renew 10 = .ok (.iconst 0, 1) := by decide +kernel
theorem dX1_renew_11 : decode cX1_renew 11 = .ok (.istore_n 3, 1) := by decide +kernel
theorem dX1_renew_12 : decode cX1_renew 12 = .ok (.iload_n 3, 1) := by decide +kernel
theorem dX1_renew_13 : decode cX1_renew 13 = .ok (.bipush 40, 2) := by decide +kernel
theorem dX1_renew_15 : decode cX1_renew 15 = .ok (.if_icmp .ge 16, 3) := by decide +kernel
theorem dX1_renew_18 : decode cX1_renew 18 = .ok (.aload_n 0, 1) := by decide +kernel
theorem dX1_renew_19 : decode cX1_renew 19 = .ok (.getfield 18, 3) := by decide +kernel
theorem dX1_renew_22 : decode cX1_renew 22 = .ok (.iload_n 3, 1) := by decide +kernel
theorem dX1_renew_23 : decode cX1_renew 23 = .ok (.lconst 0, 1) := by decide +kernel
theorem dX1_renew_24 : decode cX1_renew 24 = .ok (.lastore, 1) := by decide +kernel
theorem dX1_renew_25 : decode cX1_renew 25 = .ok (.iinc 3 1, 3) := by decide +kernel
theorem dX1_renew_28 : decode cX1_renew 28 = .ok (.goto (-16), 3) := by decide +kernel
theorem dX1_renew_31 : decode cX1_renew 31 = .ok (.return_, 1) := by decide +kernel
theorem dX1_put_0 : decode cX1_put 0 = .ok (.aload_n 0, 1) := by decide +kernel
theorem dX1_put_1 : decode cX1_put 1 = .ok (.getfield 18, 3) := by decide +kernel
theorem dX1_put_4 : decode cX1_put 4 = .ok (.iload_n 1, 1) := by decide +kernel
theorem dX1_put_5 : decode cX1_put 5 = .ok (.aload_n 0, 1) := by decide +kernel
theorem dX1_put_6 : decode cX1_put 6 = .ok (.getfield 9, 3) := by decide +kernel
theorem dX1_put_9 : decode cX1_put 9 = .ok (.bipush 8, 2) := by decide +kernel
theorem dX1_put_11 : decode cX1_put 11 = .ok (.if_icmp .ne 10, 3) := by decide +kernel
theorem dX1_put_14 : decode cX1_put 14 = .ok (.lload_n 2, 1) := by decide +kernel
theorem dX1_put_15 : decode cX1_put 15 = .ok (.l2i, 1) := by decide +kernel
theorem dX1_put_16 : decode cX1_put 16 = .ok (.i2b, 1) := by decide +kernel
theorem dX1_put_17 : decode cX1_put 17 = .ok (.i2l, 1) := by decide +kernel
theorem dX1_put_18 : decode cX1_put 18 = .ok (.goto 20, 3) := by decide +kernel
theorem dX1_put_21 : decode cX1_put 21 = .ok (.aload_n 0, 1) := by decide +kernel
theorem dX1_put_22 : decode cX1_put 22 = .ok (.getfield 9, 3) := by decide +kernel
theorem dX1_put_25 : decode cX1_put 25 = .ok (.bipush 16, 2) := by decide +kernel
theorem dX1_put_27 : decode cX1_put 27 = .ok (.if_icmp .ne 10, 3) := by decide +kernel
theorem dX1_put_30 : decode cX1_put 30 = .ok (.lload_n 2, 1) := by decide +kernel
theorem dX1_put_31 : decode cX1_put 31 = .ok (.l2i, 1) := by decide +kernel
theorem dX1_put_32 : decode cX1_put 32 = .ok (.i2s, 1) := by decide +kernel
theorem dX1_put_33 : decode cX1_put 33 = .ok (.i2l, 1) := by decide +kernel
theorem dX1_put_34 : decode cX1_put 34 = .ok (.goto 4, 3) := by decide +kernel
theorem dX1_put_37 : decode cX1_put 37 = .ok (.lload_n 2, 1) := by decide +kernel
theorem dX1_put_38 : decode cX1_put 38 = .ok (.lastore, 1) := by decide +kernel
theorem dX1_put_39 : decode cX1_put 39 = .ok (.return_, 1) := by decide +kernel
theorem dX1_hasRun_0 : decode cX1_hasRun 0 = .ok (.iload_n 1, 1) := by decide +kernel
theorem dX1_hasRun_1 : decode cX1_hasRun 1 = .ok (.ifCond .lt 29, 3) := by decide +kernel
theorem dX1_hasRun_4 : decode cX1_hasRun 4 = .ok (.iload_n 2, 1) := by decide +kernel
theorem dX1_hasRun_5 : decode cX1_hasRun 5 = .ok (.ifCond .lt 25, 3) := by decide +kernel
theorem dX1_hasRun_8 : decode cX1_hasRun 8 = .ok (.iload_n 1, 1) := by decide +kernel
theorem dX1_hasRun_9 : decode cX1_hasRun 9 = .ok (.aload_n 0, 1) := by decide +kernel
theorem dX1_hasRun_10 : decode cX1_hasRun 10 = .ok (.getfield 15, 3) := by decide +kernel
theorem dX1_hasRun_13 : decode cX1_hasRun 13 = .ok (.if_icmp .gt 17, 3) := by decide +kernel
theorem dX1_hasRun_16 : decode cX1_hasRun 16 = .ok (.iload_n 2, 1) := by decide +kernel
theorem dX1_hasRun_17 : decode cX1_hasRun 17 = .ok (.aload_n 0, 1) := by decide +kernel
theorem dX1_hasRun_18 : decode cX1_hasRun 18 = .ok (.getfield 15, 3) := by decide +kernel
theorem dX1_hasRun_21 : decode cX1_hasRun 21 = .ok (.iload_n 1, 1) := by decide +kernel
theorem dX1_hasRun_22 : decode cX1_hasRun 22 = .ok (.isub, 1) := by decide +kernel
theorem dX1_hasRun_23 : decode cX1_hasRun 23 = .ok (.if_icmp .gt 7, 3) := by decide +kernel
theorem dX1_hasRun_26 : decode cX1_hasRun 26 = .ok (.iconst 1, 1) := by decide +kernel
theorem dX1_hasRun_27 : decode cX1_hasRun 27 = .ok (.goto 4, 3) := by decide +kernel
theorem dX1_hasRun_30 : decode cX1_hasRun 30 = .ok (.iconst 0, 1) := by decide +kernel
theorem dX1_hasRun_31 : decode cX1_hasRun 31 = .ok (.ireturn, 1) := by decide +kernel
theorem dX2_init_0 : decode cX2_init 0 = .ok (.aload_n 0, 1) := by decide +kernel
theorem dX2_init_1 : decode cX2_init 1 = .ok (.invokespecial 3, 3) := by decide +kernel
theorem dX2_init_4 : decode cX2_init 4 = .ok (.aload_n 0, 1) := by decide +kernel
theorem dX2_init_5 : decode cX2_init 5 = .ok (.iconst 0, 1) := by decide +kernel
theorem dX2_init_6 : decode cX2_init 6 = .ok (.putfield 9, 3) := by decide +kernel
theorem dX2_init_9 : decode cX2_init 9 = .ok (.aload_n 0, 1) := by decide +kernel
theorem dX2_init_10 : decode cX2_init 10 = .ok (.bipush 120, 2) := by decide +kernel
theorem dX2_init_12 : decode cX2_init 12 = .ok (.newarray .int, 2) := by decide +kernel
theorem dX2_init_14 : decode cX2_init 14 = .ok (.putfield 15, 3) := by decide +kernel
theorem dX2_init_17 : decode cX2_init 17 = .ok (.aload_n 0, 1) := by decide +kernel
theorem dX2_init_18 : decode cX2_init 18 = .ok (.iconst 0, 1) := by decide +kernel
theorem dX2_init_19 : decode cX2_init 19 = .ok (.putfield 19, 3) := by decide +kernel
theorem dX2_init_22 : decode cX2_init 22 = .ok (.aload_n 0, 1) := by decide +kernel
theorem dX2_init_23 : decode cX2_init 23 = .ok (.iconst 0, 1) := by decide +kernel
theorem dX2_init_24 : decode cX2_init 24 = .ok (.putfield 22, 3) := by decide +kernel
theorem dX2_init_27 : decode cX2_init 27 = .ok (.aload_n 0, 1) := by decide +kernel
theorem dX2_init_28 : decode cX2_init 28 = .ok (.iconst 0, 1) := by decide +kernel
theorem dX2_init_29 : decode cX2_init 29 = .ok (.putfield 25, 3) := by decide +kernel
theorem dX2_init_32 : decode cX2_init 32 = .ok (.aload_n 0, 1) := by decide +kernel
theorem dX2_init_33 : decode cX2_init 33 = .ok (.iconst 0, 1) := by decide +kernel
theorem dX2_init_34 : decode cX2_init 34 = .ok (.putfield 28, 3) := by decide +kernel
theorem dX2_init_37 : decode cX2_init 37 = .ok (.return_, 1) := by decide +kernel
theorem dX2_append_0 : decode cX2_append 0 = .ok (.aload_n 0, 1) := by decide +kernel
theorem dX2_append_1 : decode cX2_append 1 = .ok (.getfield 15, 3) := by decide +kernel
theorem dX2_append_4 : decode cX2_append 4 = .ok (.aload_n 0, 1) := by decide +kernel
theorem dX2_append_5 : decode cX2_append 5 = .ok (.getfield 9, 3) := by decide +kernel
theorem dX2_append_8 : decode cX2_append 8 = .ok (.iload_n 1, 1) := by decide +kernel
theorem dX2_append_9 : decode cX2_append 9 = .ok (.iastore, 1) := by decide +kernel
theorem dX2_append_10 : decode cX2_append 10 = .ok (.aload_n 0, 1) := by decide +kernel
theorem dX2_append_11 : decode cX2_append 11 = .ok (.dup, 1) := by decide +kernel
theorem dX2_append_12 : decode cX2_append 12 = .ok (.getfield 9, 3) := by decide +kernel
theorem dX2_append_15 : decode cX2_append 15 = .ok (.iconst 1, 1) := by decide +kernel
theorem dX2_append_16 : decode cX2_append 16 = .ok (.iadd, 1) := by decide +kernel
theorem dX2_append_17 : decode cX2_append 17 = .ok (.putfield 9, 3) := by decide +kernel
theorem dX2_append_20 : decode cX2_append 20 = .ok (.return_, 1) := by decide +kernel
theorem dX2_tellTo_0 : decode cX2_tellTo 0 = .ok (.aload_n 0, 1) := by decide +kernel
theorem dX2_tellTo_1 : decode cX2_tellTo 1 = .ok (.iconst 0, 1) := by decide +kernel
theorem dX2_tellTo_2 : decode cX2_tellTo 2 = .ok (.putfield 19, 3) := by decide +kernel
theorem dX2_tellTo_5 : decode cX2_tellTo 5 = .ok (.iconst 1, 1) := by decide +kernel
theorem dX2_tellTo_6 : decode cX2_tellTo 6 = .ok (.istore_n 2, 1) := by decide +kernel
theorem dX2_tellTo_7 : decode cX2_tellTo 7 = .ok (.iload_n 2, 1) := by decide +kernel
theorem dX2_tellTo_8 : decode cX2_tellTo 8 = .ok (.bipush 120, 2) := by decide +kernel
theorem dX2_tellTo_10 : decode cX2_tellTo 10 = .ok (.if_icmp .gt 52, 3) := by decide +kernel
theorem dX2_tellTo_13 : decode cX2_tellTo 13 = .ok (.aload_n 0, 1) := by decide +kernel
theorem dX2_tellTo_14 : decode cX2_tellTo 14 = .ok (.invokevirtual 31, 3) := by decide +kernel
theorem dX2_tellTo_17 : decode cX2_tellTo 17 = .ok (.aload_n 0, 1) := by decide +kernel
theorem dX2_tellTo_18 : decode cX2_tellTo 18 = .ok (.aload_n 1, 1) := by decide +kernel
theorem dX2_tellTo_19 : decode cX2_tellTo 19 = .ok (.invokevirtual 34, 3) := by decide +kernel
theorem dX2_tellTo_22 : decode cX2_tellTo 22 = .ok (.ifCond .ne 10, 3) := by decide +kernel
theorem dX2_tellTo_25 : decode cX2_tellTo 25 = .ok (.iconst (-1), 1) := by decide +kernel
theorem dX2_tellTo_26 : decode cX2_tellTo 26 = .ok (.aload_n 0, 1) := by decide +kernel
theorem dX2_tellTo_27 : decode cX2_tellTo 27 = .ok (.getfield 25, 3) := by decide +kernel
theorem dX2_tellTo_30 : decode cX2_tellTo 30 = .ok (.isub, 1) := by decide +kernel
theorem dX2_tellTo_31 : decode cX2_tellTo 31 = .ok (.ireturn, 1) := by decide +kernel
theorem dX2_tellTo_32 : decode cX2_tellTo 32 = .ok (.aload_n 0, 1) := by decide +kernel
theorem dX2_tellTo_33 : decode cX2_tellTo 33 = .ok (.getfield 22, 3) := by decide +kernel
theorem dX2_tellTo_36 : decode cX2_tellTo 36 = .ok (.ifCond .ne 5, 3) := by decide +kernel
theorem dX2_tellTo_39 : decode cX2_tellTo 39 = .ok (.iload_n 2, 1) := by decide +kernel
theorem dX2_tellTo_40 : decode cX2_tellTo 40 = .ok (.ireturn, 1) := by decide +kernel
theorem dX2_tellTo_41 : decode cX2_tellTo 41 = .ok (.aload_n 0, 1) := by decide +kernel
theorem dX2_tellTo_42 : decode cX2_tellTo 42 = .ok (.getfield 22, 3) := by decide +kernel
theorem dX2_tellTo_45 : decode cX2_tellTo 45 = .ok (.iconst 3, 1) := by decide +kernel
theorem dX2_tellTo_46 : decode cX2_tellTo 46 = .ok (.if_icmp .eq 10, 3) := by decide +kernel
theorem dX2_tellTo_49 : decode cX2_tellTo 49 = .ok (.iconst (-1), 1) := by decide +kernel
theorem dX2_tellTo_50 : decode cX2_tellTo 50 = .ok (.aload_n 0, 1) := by decide +kernel
theorem dX2_tellTo_51 : decode cX2_tellTo 51 = .ok (.getfield 25, 3) := by decide +kernel
theorem dX2_tellTo_54 : decode cX2_tellTo 54 = .ok (.isub, 1) := by decide +kernel
theorem dX2_tellTo_55 : decode cX2_tellTo 55 = .ok (.ireturn, 1) := by decide +kernel
theorem dX2_tellTo_56 : decode cX2_tellTo 56 = .ok (.iinc 2 1, 3) := by decide +kernel
theorem dX2_tellTo_59 : decode cX2_tellTo 59 = .ok (.goto (-52), 3) := by decide +kernel
theorem dX2_tellTo_62 : decode cX2_tellTo 62 = .ok (.iconst (-1), 1) := by decide +kernel
theorem dX2_tellTo_63 : decode cX2_tellTo 63 = .ok (.aload_n 0, 1) := by decide +kernel
theorem dX2_tellTo_64 : decode cX2_tellTo 64 = .ok (.getfield 25, 3) := by decide +kernel
theorem dX2_tellTo_67 : decode cX2_tellTo 67 = .ok (.isub, 1) := by decide +kernel
theorem dX2_tellTo_68 : decode cX2_tellTo 68 = .ok (.ireturn, 1) := by decide +kernel
theorem dX2_takesItem_0 : decode cX2_takesItem 0 = .ok (.aload_n 0, 1) := by decide +kernel
theorem dX2_takesItem_1 : decode cX2_takesItem 1 = .ok (.ldc 38, 2) := by decide +kernel
theorem dX2_takesItem_3 : decode cX2_takesItem 3 = .ok (.invokevirtual 40, 3) := by decide +kernel
theorem dX2_takesItem_6 : decode cX2_takesItem 6 = .ok (.ifCond .eq 9, 3) := by decide +kernel
theorem dX2_takesItem_9 : decode cX2_takesItem 9 = .ok (.aload_n 0, 1) := by decide +kernel
theorem dX2_takesItem_10 : decode cX2_takesItem 10 = .ok (.aload_n 1, 1) := by decide +kernel
theorem dX2_takesItem_11 : decode cX2_takesItem 11 = .ok (.invokevirtual 44, 3) := by decide +kernel
theorem dX2_takesItem_14 : decode cX2_takesItem 14 = .ok (.ireturn, 1) := by decide +kernel
theorem dX2_takesItem_15 : decode cX2_takesItem 15 = .ok (.aload_n 0, 1) := by decide +kernel
theorem dX2_takesItem_16 : decode cX2_takesItem 16 = .ok (.ldc 47, 2) := by decide +kernel
theorem dX2_takesItem_18 : decode cX2_takesItem 18 = .ok (.invokevirtual 40, 3) := by decide +kernel
theorem dX2_takesItem_21 : decode cX2_takesItem 21 = .ok (.ifCond .eq 9, 3) := by decide +kernel
theorem dX2_takesItem_24 : decode cX2_takesItem 24 = .ok (.aload_n 0, 1) := by decide +kernel
theorem dX2_takesItem_25 : decode cX2_takesItem 25 = .ok (.aload_n 1, 1) := by decide +kernel
theorem dX2_takesItem_26 : decode cX2_takesItem 26 = .ok (.invokevirtual 49, 3) := by decide +kernel
theorem dX2_takesItem_29 : decode cX2_takesItem 29 = .ok (.ireturn, 1) := by decide +kernel
theorem dX2_takesItem_30 : decode cX2_takesItem 30 = .ok (.aload_n 0, 1) := by decide +kernel
theorem dX2_takesItem_31 : decode cX2_takesItem 31 = .ok (.aload_n 1, 1) := by decide +kernel
theorem dX2_takesItem_32 : decode cX2_takesItem 32 = .ok (.invokevirtual 52, 3) := by decide +kernel
theorem dX2_takesItem_35 : decode cX2_takesItem 35 = .ok (.istore_n 2, 1) := by decide +kernel
theorem dX2_takesItem_36 : decode cX2_takesItem 36 = .ok (.iload_n 2, 1) := by decide +kernel
theorem dX2_takesItem_37 : decode cX2_takesItem 37 = .ok (.ifCond .lt 12, 3) := by decide +kernel
theorem dX2_takesItem_40 : decode cX2_takesItem 40 = .ok (.aload_n 0, 1) := by decide +kernel
theorem dX2_takesItem_41 : decode cX2_takesItem 41 = .ok (.aload_n 1, 1) := by decide +kernel
theorem dX2_takesItem_42 : decode cX2_takesItem 42 = .ok (.iload_n 2, 1) := by decide +kernel
theorem dX2_takesItem_43 : decode cX2_takesItem 43 = .ok (.invokevirtual 56, 3) := by decide +kernel
theorem dX2_takesItem_46 : decode cX2_takesItem 46 = .ok (.ifCond .ne 5, 3) := by decide +kernel
theorem dX2_takesItem_49 : decode cX2_takesItem 49 = .ok (.iconst 0, 1) := by decide +kernel
theorem dX2_takesItem_50 : decode cX2_takesItem 50 = .ok (.ireturn, 1) := by decide +kernel
theorem dX2_takesItem_51 : decode cX2_takesItem 51 = .ok (.aload_n 0, 1) := by decide +kernel
theorem dX2_takesItem_52 : decode cX2_takesItem 52 = .ok (.aload_n 1, 1) := by decide +kernel
theorem dX2_takesItem_53 : decode cX2_takesItem 53 = .ok (.iload_n 2, 1) := by decide +kernel
theorem dX2_takesItem_54 : decode cX2_takesItem 54 = .ok (.invokevirtual 60, 3) := by decide +kernel
theorem dX2_takesItem_57 : decode cX2_takesItem 57 = .ok (.aload_n 0, 1) := by decide +kernel
theorem dX2_takesItem_58 : decode cX2_takesItem 58 = .ok (.aload_n 1, 1) := by decide +kernel
theorem dX2_takesItem_59 : decode cX2_takesItem 59 = .ok (.iload_n 2, 1) := by decide +kernel
theorem dX2_takesItem_60 : decode cX2_takesItem 60 = .ok (.invokevirtual 64, 3) := by decide +kernel
theorem dX2_takesItem_63 : decode cX2_takesItem 63 = .ok (.ireturn, 1) := by decide +kernel
theorem dX2_takesWind_0 : decode cX2_takesWind 0 = .ok (.aload_n 0, 1) := by decide +kernel
theorem dX2_takesWind_1 : decode cX2_takesWind 1 = .ok (.iconst 0, 1) := by decide +kernel
theorem dX2_takesWind_2 : decode cX2_takesWind 2 = .ok (.iconst 4, 1) := by decide +kernel
theorem dX2_takesWind_3 : decode cX2_takesWind 3 = .ok (.invokevirtual 67, 3) := by decide +kernel
theorem dX2_takesWind_6 : decode cX2_takesWind 6 = .ok (.ifCond .ne 5, 3) := by decide +kernel
theorem dX2_takesWind_9 : decode cX2_takesWind 9 = .ok (.iconst 0, 1) := by decide +kernel
theorem dX2_takesWind_10 : decode cX2_takesWind 10 = .ok (.ireturn, 1) := by decide +kernel
theorem dX2_takesWind_11 : decode cX2_takesWind 11 = .ok (.aload_n 1, 1) := by decide +kernel
theorem dX2_takesWind_12 : decode cX2_takesWind 12 = .ok (.aload_n 0, 1) := by decide +kernel
theorem dX2_takesWind_13 : decode cX2_takesWind 13 = .ok (.getfield 28, 3) := by decide +kernel
theorem dX2_takesWind_16 : decode cX2_takesWind 16 = .ok (.putfield 71, 3) := by decide +kernel
theorem dX2_takesWind_19 : decode cX2_takesWind 19 = .ok (.aload_n 0, 1) := by decide +kernel
theorem dX2_takesWind_20 : decode cX2_takesWind 20 = .ok (.invokevirtual 31, 3) := by decide +kernel
theorem dX2_takesWind_23 : decode cX2_takesWind 23 = .ok (.iconst 1, 1) := by decide +kernel
theorem dX2_takesWind_24 : decode cX2_takesWind 24 = .ok (.ireturn, 1) := by decide +kernel
theorem dX2_takesDue_0 : decode cX2_takesDue 0 = .ok (.aload_n 0, 1) := by decide +kernel
theorem dX2_takesDue_1 : decode cX2_takesDue 1 = .ok (.iconst 1, 1) := by decide +kernel
theorem dX2_takesDue_2 : decode cX2_takesDue 2 = .ok (.bipush 99, 2) := by decide +kernel
theorem dX2_takesDue_4 : decode cX2_takesDue 4 = .ok (.invokevirtual 67, 3) := by decide +kernel
theorem dX2_takesDue_7 : decode cX2_takesDue 7 = .ok (.ifCond .ne 5, 3) := by decide +kernel
theorem dX2_takesDue_10 : decode cX2_takesDue 10 = .ok (.iconst 0, 1) := by decide +kernel
theorem dX2_takesDue_11 : decode cX2_takesDue 11 = .ok (.ireturn, 1) := by decide +kernel
theorem dX2_takesDue_12 : decode cX2_takesDue 12 = .ok (.aload_n 1, 1) := by decide +kernel
theorem dX2_takesDue_13 : decode cX2_takesDue 13 = .ok (.aload_n 0, 1) := by decide +kernel
theorem dX2_takesDue_14 : decode cX2_takesDue 14 = .ok (.getfield 28, 3) := by decide +kernel
theorem dX2_takesDue_17 : decode cX2_takesDue 17 = .ok (.putfield 75, 3) := by decide +kernel
theorem dX2_takesDue_20 : decode cX2_takesDue 20 = .ok (.aload_n 0, 1) := by decide +kernel
theorem dX2_takesDue_21 : decode cX2_takesDue 21 = .ok (.invokevirtual 31, 3) := by decide +kernel
theorem dX2_takesDue_24 : decode cX2_takesDue 24 = .ok (.iconst 1, 1) := by decide +kernel
theorem dX2_takesDue_25 : decode cX2_takesDue 25 = .ok (.ireturn, 1) := by decide +kernel
theorem dX2_takesPerson_0 : decode cX2_takesPerson 0 = .ok (.aload_n 0, 1) := by decide +kernel
theorem dX2_takesPerson_1 : decode cX2_takesPerson 1 = .ok (.invokevirtual 77, 3) := by decide +kernel
theorem dX2_takesPerson_4 : decode cX2_takesPerson 4 = .ok (.istore_n 2, 1) := by decide +kernel
theorem dX2_takesPerson_5 : decode cX2_takesPerson 5 = .ok (.iload_n 2, 1) := by decide +kernel
theorem dX2_takesPerson_6 : decode cX2_takesPerson 6 = .ok (.ifCond .lt 12, 3) := by decide +kernel
theorem dX2_takesPerson_9 : decode cX2_takesPerson 9 = .ok (.aload_n 1, 1) := by decide +kernel
theorem dX2_takesPerson_10 : decode cX2_takesPerson 10 = .ok (.getfield 81, 3) := by decide +kernel
theorem dX2_takesPerson_13 : decode cX2_takesPerson 13 = .ok (.bipush 8, 2) := by decide +kernel
theorem dX2_takesPerson_15 : decode cX2_takesPerson 15 = .ok (.if_icmp .lt 5, 3) := by decide +kernel
theorem dX2_takesPerson_18 : decode cX2_takesPerson 18 = .ok (.iconst (-1), 1) := by decide +kernel
theorem dX2_takesPerson_19 : decode cX2_takesPerson 19 = .ok (.ireturn, 1) := by decide +kernel
theorem dX2_takesPerson_20 : decode cX2_takesPerson 20 = .ok (.aload_n 0, 1) := by decide +kernel
theorem dX2_takesPerson_21 : decode cX2_takesPerson 21 = .ok (.invokevirtual 31, 3) := by decide +kernel
theorem dX2_takesPerson_24 : decode cX2_takesPerson 24 = .ok (.aload_n 0, 1) := by decide +kernel
theorem dX2_takesPerson_25 : decode cX2_takesPerson 25 = .ok (.ldc 84, 2) := by decide +kernel
theorem dX2_takesPerson_27 : decode cX2_takesPerson 27 = .ok (.invokevirtual 40, 3) := by decide +kernel
theorem dX2_takesPerson_30 : decode cX2_takesPerson 30 = .ok (.ifCond .eq 13, 3) := by decide +kernel
theorem dX2_takesPerson_33 : decode cX2_takesPerson 33 = .ok (.aload_n 0, 1) := by decide +kernel
theorem dX2_takesPerson_34 : decode cX2_takesPerson 34 = .ok (.iconst 0, 1) := by decide +kernel
theorem dX2_takesPerson_35 : decode cX2_takesPerson 35 = .ok (.bipush 47, 2) := by decide +kernel
theorem dX2_takesPerson_37 : decode cX2_takesPerson 37 = .ok (.invokevirtual 67, 3) := by decide +kernel
theorem dX2_takesPerson_40 : decode cX2_takesPerson 40 = .ok (.ifCond .ne 5, 3) := by decide +kernel
theorem dX2_takesPerson_43 : decode cX2_takesPerson 43 = .ok (.iconst (-1), 1) := by decide +kernel
theorem dX2_takesPerson_44 : decode cX2_takesPerson 44 = .ok (.ireturn, 1) := by decide +kernel
theorem dX2_takesPerson_45 : decode cX2_takesPerson 45 = .ok (.aload_n 1, 1) := by decide +kernel
theorem dX2_takesPerson_46 : decode cX2_takesPerson 46 = .ok (.iload_n 2, 1) := by decide +kernel
theorem dX2_takesPerson_47 : decode cX2_takesPerson 47 = .ok (.aload_n 0, 1) := by decide +kernel
theorem dX2_takesPerson_48 : decode cX2_takesPerson 48 = .ok (.getfield 28, 3) := by decide +kernel
theorem dX2_takesPerson_51 : decode cX2_takesPerson 51 = .ok (.invokevirtual 86, 3) := by decide +kernel
theorem dX2_takesPerson_54 : decode cX2_takesPerson 54 = .ok (.istore_n 3, 1) := by decide +kernel
theorem dX2_takesPerson_55 : decode cX2_takesPerson 55 = .ok (.aload_n 0, 1) := by decide +kernel
theorem dX2_takesPerson_56 : decode cX2_takesPerson 56 = .ok (.invokevirtual 31, 3) := by decide +kernel
theorem dX2_takesPerson_59 : decode cX2_takesPerson 59 = .ok (.iload_n 3, 1) := by decide +kernel
theorem dX2_takesPerson_60 : decode cX2_takesPerson 60 = .ok (.ireturn, 1) := by decide +kernel
theorem dX2_takesNose_0 : decode cX2_takesNose 0 = .ok (.aload_n 0, 1) := by decide +kernel
theorem dX2_takesNose_1 : decode cX2_takesNose 1 = .ok (.ldc 90, 2) := by decide +kernel
theorem dX2_takesNose_3 : decode cX2_takesNose 3 = .ok (.invokevirtual 40, 3) := by decide +kernel
theorem dX2_takesNose_6 : decode cX2_takesNose 6 = .ok (.ifCond .ne 5, 3) := by decide +kernel
theorem dX2_takesNose_9 : decode cX2_takesNose 9 = .ok (.iconst 1, 1) := by decide +kernel
theorem dX2_takesNose_10 : decode cX2_takesNose 10 = .ok (.ireturn, 1) := by decide +kernel
theorem dX2_takesNose_11 : decode cX2_takesNose 11 = .ok (.aload_n 0, 1) := by decide +kernel
theorem dX2_takesNose_12 : decode cX2_takesNose 12 = .ok (.iconst 0, 1) := by decide +kernel
theorem dX2_takesNose_13 : decode cX2_takesNose 13 = .ok (.bipush 9, 2) := by decide +kernel
theorem dX2_takesNose_15 : decode cX2_takesNose 15 = .ok (.invokevirtual 67, 3) := by decide +kernel
theorem dX2_takesNose_18 : decode cX2_takesNose 18 = .ok (.ifCond .ne 5, 3) := by decide +kernel
theorem dX2_takesNose_21 : decode cX2_takesNose 21 = .ok (.iconst 0, 1) := by decide +kernel
theorem dX2_takesNose_22 : decode cX2_takesNose 22 = .ok (.ireturn, 1) := by decide +kernel
theorem dX2_takesNose_23 : decode cX2_takesNose 23 = .ok (.aload_n 1, 1) := by decide +kernel
theorem dX2_takesNose_24 : decode cX2_takesNose 24 = .ok (.getfield 92, 3) := by decide +kernel
theorem dX2_takesNose_27 : decode cX2_takesNose 27 = .ok (.iload_n 2, 1) := by decide +kernel
theorem dX2_takesNose_28 : decode cX2_takesNose 28 = .ok (.aload_n 0, 1) := by decide +kernel
theorem dX2_takesNose_29 : decode cX2_takesNose 29 = .ok (.getfield 28, 3) := by decide +kernel
theorem dX2_takesNose_32 : decode cX2_takesNose 32 = .ok (.iastore, 1) := by decide +kernel
theorem dX2_takesNose_33 : decode cX2_takesNose 33 = .ok (.aload_n 0, 1) := by decide +kernel
theorem dX2_takesNose_34 : decode cX2_takesNose 34 = .ok (.invokevirtual 31, 3) := by decide +kernel
theorem dX2_takesNose_37 : decode cX2_takesNose 37 = .ok (.iconst 1, 1) := by decide +kernel
theorem dX2_takesNose_38 : decode cX2_takesNose 38 = .ok (.ireturn, 1) := by decide +kernel
theorem dX2_takeCold_0 : decode cX2_takeCold 0 = .ok (.aload_n 0, 1) := by decide +kernel
theorem dX2_takeCold_1 : decode cX2_takeCold 1 = .ok (.ldc 95, 2) := by decide +kernel
theorem dX2_takeCold_3 : decode cX2_takeCold 3 = .ok (.invokevirtual 40, 3) := by decide +kernel
theorem dX2_takeCold_6 : decode cX2_takeCold 6 = .ok (.ifCond .eq 14, 3) := by decide +kernel
theorem dX2_takeCold_9 : decode cX2_takeCold 9 = .ok (.aload_n 1, 1) := by decide +kernel
theorem dX2_takeCold_10 : decode cX2_takeCold 10 = .ok (.getfield 97, 3) := by decide +kernel
theorem dX2_takeCold_13 : decode cX2_takeCold 13 = .ok (.iload_n 2, 1) := by decide +kernel
theorem dX2_takeCold_14 : decode cX2_takeCold 14 = .ok (.iconst 1, 1) := by decide +kernel
theorem dX2_takeCold_15 : decode cX2_takeCold 15 = .ok (.iastore, 1) := by decide +kernel
theorem dX2_takeCold_16 : decode cX2_takeCold 16 = .ok (.aload_n 0, 1) := by decide +kernel
theorem dX2_takeCold_17 : decode cX2_takeCold 17 = .ok (.invokevirtual 31, 3) := by decide +kernel
theorem dX2_takeCold_20 : decode cX2_takeCold 20 = .ok (.return_, 1) := by decide +kernel
theorem dX2_takesDeed_0 : decode cX2_takesDeed 0 = .ok (.aload_n 0, 1) := by decide +kernel
theorem dX2_takesDeed_1 : decode cX2_takesDeed 1 = .ok (.ldc 100, 2) := by decide +kernel
theorem dX2_takesDeed_3 : decode cX2_takesDeed 3 = .ok (.invokevirtual 40, 3) := by decide +kernel
theorem dX2_takesDeed_6 : decode cX2_takesDeed 6 = .ok (.ifCond .ne 5, 3) := by decide +kernel
theorem dX2_takesDeed_9 : decode cX2_takesDeed 9 = .ok (.iconst 1, 1) := by decide +kernel
theorem dX2_takesDeed_10 : decode cX2_takesDeed 10 = .ok (.ireturn, 1) := by decide +kernel
theorem dX2_takesDeed_11 : decode cX2_takesDeed 11 = .ok (.aload_n 0, 1) := by decide +kernel
theorem dX2_takesDeed_12 : decode cX2_takesDeed 12 = .ok (.iconst 0, 1) := by decide +kernel
theorem dX2_takesDeed_13 : decode cX2_takesDeed 13 = .ok (.iconst 5, 1) := by decide +kernel
theorem dX2_takesDeed_14 : decode cX2_takesDeed 14 = .ok (.invokevirtual 67, 3) := by decide +kernel
theorem dX2_takesDeed_17 : decode cX2_takesDeed 17 = .ok (.ifCond .ne 5, 3) := by decide +kernel
theorem dX2_takesDeed_20 : decode cX2_takesDeed 20 = .ok (.iconst 0, 1) := by decide +kernel
theorem dX2_takesDeed_21 : decode cX2_takesDeed 21 = .ok (.ireturn, 1) := by decide +kernel
theorem dX2_takesDeed_22 : decode cX2_takesDeed 22 = .ok (.aload_n 0, 1) := by decide +kernel
theorem dX2_takesDeed_23 : decode cX2_takesDeed 23 = .ok (.getfield 28, 3) := by decide +kernel
theorem dX2_takesDeed_26 : decode cX2_takesDeed 26 = .ok (.istore_n 3, 1) := by decide +kernel
theorem dX2_takesDeed_27 : decode cX2_takesDeed 27 = .ok (.aload_n 0, 1) := by decide +kernel
theorem dX2_takesDeed_28 : decode cX2_takesDeed 28 = .ok (.iconst 0, 1) := by decide +kernel
theorem dX2_takesDeed_29 : decode cX2_takesDeed 29 = .ok (.bipush 99, 2) := by decide +kernel
theorem dX2_takesDeed_31 : decode cX2_takesDeed 31 = .ok (.invokevirtual 67, 3) := by decide +kernel
theorem dX2_takesDeed_34 : decode cX2_takesDeed 34 = .ok (.ifCond .ne 5, 3) := by decide +kernel
theorem dX2_takesDeed_37 : decode cX2_takesDeed 37 = .ok (.iconst 0, 1) := by decide +kernel
theorem dX2_takesDeed_38 : decode cX2_takesDeed 38 = .ok (.ireturn, 1) := by decide +kernel
theorem dX2_takesDeed_39 : decode cX2_takesDeed 39 = .ok (.aload_n 1, 1) := by decide +kernel
theorem dX2_takesDeed_40 : decode cX2_takesDeed 40 = .ok (.getfield 102, 3) := by decide +kernel
theorem dX2_takesDeed_43 : decode cX2_takesDeed 43 = .ok (.iload_n 3, 1) := by decide +kernel
theorem dX2_takesDeed_44 : decode cX2_takesDeed 44 = .ok (.aaload, 1) := by decide +kernel
theorem dX2_takesDeed_45 : decode cX2_takesDeed 45 = .ok (.iload_n 2, 1) := by decide +kernel
theorem dX2_takesDeed_46 : decode cX2_takesDeed 46 = .ok (.aload_n 0, 1) := by decide +kernel
theorem dX2_takesDeed_47 : decode cX2_takesDeed 47 = .ok (.getfield 28, 3) := by decide +kernel
theorem dX2_takesDeed_50 : decode cX2_takesDeed 50 = .ok (.iastore, 1) := by decide +kernel
theorem dX2_takesDeed_51 : decode cX2_takesDeed 51 = .ok (.aload_n 0, 1) := by decide +kernel
theorem dX2_takesDeed_52 : decode cX2_takesDeed 52 = .ok (.invokevirtual 31, 3) := by decide +kernel
theorem dX2_takesDeed_55 : decode cX2_takesDeed 55 = .ok (.iconst 1, 1) := by decide +kernel
theorem dX2_takesDeed_56 : decode cX2_takesDeed 56 = .ok (.ireturn, 1) := by decide +kernel
theorem dX2_takesNumber_0 : decode cX2_takesNumber 0 = .ok (.aload_n 0, 1) := by decide +kernel
theorem dX2_takesNumber_1 : decode cX2_takesNumber 1 = .ok (.invokevirtual 31, 3) := by decide +kernel
theorem dX2_takesNumber_4 : decode cX2_takesNumber 4 = .ok (.aload_n 0, 1) := by decide +kernel
theorem dX2_takesNumber_5 : decode cX2_takesNumber 5 = .ok (.getfield 22, 3) := by decide +kernel
theorem dX2_takesNumber_8 : decode cX2_takesNumber 8 = .ok (.iconst 2, 1) := by decide +kernel
theorem dX2_takesNumber_9 : decode cX2_takesNumber 9 = .ok (.if_icmp .ne 23, 3) := by decide +kernel
theorem dX2_takesNumber_12 : decode cX2_takesNumber 12 = .ok (.aload_n 0, 1) := by decide +kernel
theorem dX2_takesNumber_13 : decode cX2_takesNumber 13 = .ok (.getfield 28, 3) := by decide +kernel
theorem dX2_takesNumber_16 : decode cX2_takesNumber 16 = .ok (.iload_n 1, 1) := by decide +kernel
theorem dX2_takesNumber_17 : decode cX2_takesNumber 17 = .ok (.if_icmp .lt 15, 3) := by decide +kernel
theorem dX2_takesNumber_20 : decode cX2_takesNumber 20 = .ok (.aload_n 0, 1) := by decide +kernel
theorem dX2_takesNumber_21 : decode cX2_takesNumber 21 = .ok (.getfield 28, 3) := by decide +kernel
theorem dX2_takesNumber_24 : decode cX2_takesNumber 24 = .ok (.iload_n 2, 1) := by decide +kernel
theorem dX2_takesNumber_25 : decode cX2_takesNumber 25 = .ok (.if_icmp .gt 7, 3) := by decide +kernel
theorem dX2_takesNumber_28 : decode cX2_takesNumber 28 = .ok (.iconst 1, 1) := by decide +kernel
theorem dX2_takesNumber_29 : decode cX2_takesNumber 29 = .ok (.goto 4, 3) := by decide +kernel
theorem dX2_takesNumber_32 : decode cX2_takesNumber 32 = .ok (.iconst 0, 1) := by decide +kernel
theorem dX2_takesNumber_33 : decode cX2_takesNumber 33 = .ok (.ireturn, 1) := by decide +kernel
theorem dX2_kindNamed_0 : decode cX2_kindNamed 0 = .ok (.iconst 0, 1) := by decide +kernel
theorem dX2_kindNamed_1 : decode cX2_kindNamed 1 = .ok (.istore_n 1, 1) := by decide +kernel
theorem dX2_kindNamed_2 : decode cX2_kindNamed 2 = .ok (.iload_n 1, 1) := by decide +kernel
theorem dX2_kindNamed_3 : decode cX2_kindNamed 3 = .ok (.bipush 6, 2) := by decide +kernel
theorem dX2_kindNamed_5 : decode cX2_kindNamed 5 = .ok (.if_icmp .ge 22, 3) := by decide +kernel
theorem dX2_kindNamed_8 : decode cX2_kindNamed 8 = .ok (.aload_n 0, 1) := by decide +kernel
theorem dX2_kindNamed_9 : decode cX2_kindNamed 9 = .ok (.iload_n 1, 1) := by decide +kernel
theorem dX2_kindNamed_10 : decode cX2_kindNamed 10 = .ok (.invokestatic 106, 3) := by decide +kernel
theorem dX2_kindNamed_13 : decode cX2_kindNamed 13 = .ok (.invokevirtual 40, 3) := by decide +kernel
theorem dX2_kindNamed_16 : decode cX2_kindNamed 16 = .ok (.ifCond .eq 5, 3) := by decide +kernel
theorem dX2_kindNamed_19 : decode cX2_kindNamed 19 = .ok (.iload_n 1, 1) := by decide +kernel
theorem dX2_kindNamed_20 : decode cX2_kindNamed 20 = .ok (.ireturn, 1) := by decide +kernel
theorem dX2_kindNamed_21 : decode cX2_kindNamed 21 = .ok (.iinc 1 1, 3) := by decide +kernel
theorem dX2_kindNamed_24 : decode cX2_kindNamed 24 = .ok (.goto (-22), 3) := by decide +kernel
theorem dX2_kindNamed_27 : decode cX2_kindNamed 27 = .ok (.iconst (-1), 1) := by decide +kernel
theorem dX2_kindNamed_28 : decode cX2_kindNamed 28 = .ok (.ireturn, 1) := by decide +kernel
theorem dX2_nameOf_0 : decode cX2_nameOf 0 = .ok (.iload_n 0, 1) := by decide +kernel
theorem dX2_nameOf_1 : decode cX2_nameOf 1 = .ok (.tableswitch 50 1 5 #[35, 38, 41, 44, 47], 35) := by decide +kernel
theorem dX2_nameOf_36 : decode cX2_nameOf 36 = .ok (.ldc 110, 2) := by decide +kernel
theorem dX2_nameOf_38 : decode cX2_nameOf 38 = .ok (.areturn, 1) := by decide +kernel
theorem dX2_nameOf_39 : decode cX2_nameOf 39 = .ok (.ldc 112, 2) := by decide +kernel
theorem dX2_nameOf_41 : decode cX2_nameOf 41 = .ok (.areturn, 1) := by decide +kernel
theorem dX2_nameOf_42 : decode cX2_nameOf 42 = .ok (.ldc 114, 2) := by decide +kernel
theorem dX2_nameOf_44 : decode cX2_nameOf 44 = .ok (.areturn, 1) := by decide +kernel
theorem dX2_nameOf_45 : decode cX2_nameOf 45 = .ok (.ldc 116, 2) := by decide +kernel
theorem dX2_nameOf_47 : decode cX2_nameOf 47 = .ok (.areturn, 1) := by decide +kernel
theorem dX2_nameOf_48 : decode cX2_nameOf 48 = .ok (.ldc 118, 2) := by decide +kernel
theorem dX2_nameOf_50 : decode cX2_nameOf 50 = .ok (.areturn, 1) := by decide +kernel
theorem dX2_nameOf_51 : decode cX2_nameOf 51 = .ok (.ldc 120, 2) := by decide +kernel
theorem dX2_nameOf_53 : decode cX2_nameOf 53 = .ok (.areturn, 1) := by decide +kernel
theorem dX2_isWord_0 : decode cX2_isWord 0 = .ok (.aload_n 0, 1) := by decide +kernel
theorem dX2_isWord_1 : decode cX2_isWord 1 = .ok (.getfield 22, 3) := by decide +kernel
theorem dX2_isWord_4 : decode cX2_isWord 4 = .ok (.iconst 1, 1) := by decide +kernel
theorem dX2_isWord_5 : decode cX2_isWord 5 = .ok (.if_icmp .ne 19, 3) := by decide +kernel
theorem dX2_isWord_8 : decode cX2_isWord 8 = .ok (.aload_n 0, 1) := by decide +kernel
theorem dX2_isWord_9 : decode cX2_isWord 9 = .ok (.getfield 19, 3) := by decide +kernel
theorem dX2_isWord_12 : decode cX2_isWord 12 = .ok (.aload_n 0, 1) := by decide +kernel
theorem dX2_isWord_13 : decode cX2_isWord 13 = .ok (.getfield 25, 3) := by decide +kernel
theorem dX2_isWord_16 : decode cX2_isWord 16 = .ok (.isub, 1) := by decide +kernel
theorem dX2_isWord_17 : decode cX2_isWord 17 = .ok (.aload_n 1, 1) := by decide +kernel
theorem dX2_isWord_18 : decode cX2_isWord 18 = .ok (.invokevirtual 122, 3) := by decide +kernel
theorem dX2_isWord_21 : decode cX2_isWord 21 = .ok (.if_icmp .eq 5, 3) := by decide +kernel
theorem dX2_isWord_24 : decode cX2_isWord 24 = .ok (.iconst 0, 1) := by decide +kernel
theorem dX2_isWord_25 : decode cX2_isWord 25 = .ok (.ireturn, 1) := by decide +kernel
theorem dX2_isWord_26 : decode cX2_isWord 26 = .ok (.iconst 0, 1) := by decide +kernel
theorem dX2_isWord_27 : decode cX2_isWord 27 = .ok (.istore_n 2, 1) := by decide +kernel
theorem dX2_isWord_28 : decode cX2_isWord 28 = .ok (.iload_n 2, 1) := by decide +kernel
theorem dX2_isWord_29 : decode cX2_isWord 29 = .ok (.aload_n 1, 1) := by decide +kernel
theorem dX2_isWord_30 : decode cX2_isWord 30 = .ok (.invokevirtual 122, 3) := by decide +kernel
theorem dX2_isWord_33 : decode cX2_isWord 33 = .ok (.if_icmp .ge 30, 3) := by decide +kernel
theorem dX2_isWord_36 : decode cX2_isWord 36 = .ok (.aload_n 0, 1) := by decide +kernel
theorem dX2_isWord_37 : decode cX2_isWord 37 = .ok (.getfield 15, 3) := by decide +kernel
theorem dX2_isWord_40 : decode cX2_isWord 40 = .ok (.aload_n 0, 1) := by decide +kernel
theorem dX2_isWord_41 : decode cX2_isWord 41 = .ok (.getfield 25, 3) := by decide +kernel
theorem dX2_isWord_44 : decode cX2_isWord 44 = .ok (.iload_n 2, 1) := by decide +kernel
theorem dX2_isWord_45 : decode cX2_isWord 45 = .ok (.iadd, 1) := by decide +kernel
theorem dX2_isWord_46 : decode cX2_isWord 46 = .ok (.iaload, 1) := by decide +kernel
theorem dX2_isWord_47 : decode cX2_isWord 47 = .ok (.aload_n 1, 1) := by decide +kernel
theorem dX2_isWord_48 : decode cX2_isWord 48 = .ok (.iload_n 2, 1) := by decide +kernel
theorem dX2_isWord_49 : decode cX2_isWord 49 = .ok (.invokevirtual 126, 3) := by decide +kernel
theorem dX2_isWord_52 : decode cX2_isWord 52 = .ok (.if_icmp .eq 5, 3) := by decide +kernel
theorem dX2_isWord_55 : decode cX2_isWord 55 = .ok (.iconst 0, 1) := by decide +kernel
theorem dX2_isWord_56 : decode cX2_isWord 56 = .ok (.ireturn, 1) := by decide +kernel
theorem dX2_isWord_57 : decode cX2_isWord 57 = .ok (.iinc 2 1, 3) := by decide +kernel
theorem dX2_isWord_60 : decode cX2_isWord 60 = .ok (.goto (-32), 3) := by decide +kernel
theorem dX2_isWord_63 : decode cX2_isWord 63 = .ok (.iconst 1, 1) := by decide +kernel
theorem dX2_isWord_64 : decode cX2_isWord 64 = .ok (.ireturn, 1) := by decide +kernel
theorem dX2_step_0 : decode cX2_step 0 = .ok (.aload_n 0, 1) := by decide +kernel
theorem dX2_step_1 : decode cX2_step 1 = .ok (.getfield 19, 3) := by decide +kernel
theorem dX2_step_4 : decode cX2_step 4 = .ok (.aload_n 0, 1) := by decide +kernel
theorem dX2_step_5 : decode cX2_step 5 = .ok (.getfield 9, 3) := by decide +kernel
theorem dX2_step_8 : decode cX2_step 8 = .ok (.if_icmp .ge 30, 3) := by decide +kernel
theorem dX2_step_11 : decode cX2_step 11 = .ok (.aload_n 0, 1) := by decide +kernel
theorem dX2_step_12 : decode cX2_step 12 = .ok (.getfield 15, 3) := by decide +kernel
theorem dX2_step_15 : decode cX2_step 15 = .ok (.aload_n 0, 1) := by decide +kernel
theorem dX2_step_16 : decode cX2_step 16 = .ok (.getfield 19, 3) := by decide +kernel
theorem dX2_step_19 : decode cX2_step 19 = .ok (.iaload, 1) := by decide +kernel
theorem dX2_step_20 : decode cX2_step 20 = .ok (.bipush 32, 2) := by decide +kernel
theorem dX2_step_22 : decode cX2_step 22 = .ok (.if_icmp .ne 16, 3) := by decide +kernel
theorem dX2_step_25 : decode cX2_step 25 = .ok (.aload_n 0, 1) := by decide +kernel
theorem dX2_step_26 : decode cX2_step 26 = .ok (.dup, 1) := by decide +kernel
theorem dX2_step_27 : decode cX2_step 27 = .ok (.getfield 19, 3) := by decide +kernel
theorem dX2_step_30 : decode cX2_step 30 = .ok (.iconst 1, 1) := by decide +kernel
theorem dX2_step_31 : decode cX2_step 31 = .ok (.iadd, 1) := by decide +kernel
theorem dX2_step_32 : decode cX2_step 32 = .ok (.putfield 19, 3) := by decide +kernel
theorem dX2_step_35 : decode cX2_step 35 = .ok (.goto (-35), 3) := by decide +kernel
theorem dX2_step_38 : decode cX2_step 38 = .ok (.aload_n 0, 1) := by decide +kernel
theorem dX2_step_39 : decode cX2_step 39 = .ok (.aload_n 0, 1) := by decide +kernel
theorem dX2_step_40 : decode cX2_step 40 = .ok (.getfield 19, 3) := by decide +kernel
theorem dX2_step_43 : decode cX2_step 43 = .ok (.putfield 25, 3) := by decide +kernel
theorem dX2_step_46 : decode cX2_step 46 = .ok (.aload_n 0, 1) := by decide +kernel
theorem dX2_step_47 : decode cX2_step 47 = .ok (.getfield 19, 3) := by decide +kernel
theorem dX2_step_50 : decode cX2_step 50 = .ok (.aload_n 0, 1) := by decide +kernel
theorem dX2_step_51 : decode cX2_step 51 = .ok (.getfield 9, 3) := by decide +kernel
theorem dX2_step_54 : decode cX2_step 54 = .ok (.if_icmp .lt 11, 3) := by decide +kernel
theorem dX2_step_57 : decode cX2_step 57 = .ok (.aload_n 0, 1) := by decide +kernel
theorem dX2_step_58 : decode cX2_step 58 = .ok (.iconst 0, 1) := by decide +kernel
theorem dX2_step_59 : decode cX2_step 59 = .ok (.putfield 22, 3) := by decide +kernel
theorem dX2_step_62 : decode cX2_step 62 = .ok (.goto 90, 3) := by decide +kernel
theorem dX2_step_65 : decode cX2_step 65 = .ok (.aload_n 0, 1) := by decide +kernel
theorem dX2_step_66 : decode cX2_step 66 = .ok (.getfield 15, 3) := by decide +kernel
theorem dX2_step_69 : decode cX2_step 69 = .ok (.aload_n 0, 1) := by decide +kernel
theorem dX2_step_70 : decode cX2_step 70 = .ok (.getfield 19, 3) := by decide +kernel
theorem dX2_step_73 : decode cX2_step 73 = .ok (.iaload, 1) := by decide +kernel
theorem dX2_step_74 : decode cX2_step 74 = .ok (.invokestatic 130, 3) := by decide +kernel
theorem dX2_step_77 : decode cX2_step 77 = .ok (.ifCond .eq 15, 3) := by decide +kernel
theorem dX2_step_80 : decode cX2_step 80 = .ok (.aload_n 0, 1) := by decide +kernel
theorem dX2_step_81 : decode cX2_step 81 = .ok (.iconst 1, 1) := by decide +kernel
theorem dX2_step_82 : decode cX2_step 82 = .ok (.putfield 22, 3) := by decide +kernel
theorem dX2_step_85 : decode cX2_step 85 = .ok (.aload_n 0, 1) := by decide +kernel
theorem dX2_step_86 : decode cX2_step 86 = .ok (.invokevirtual 134, 3) := by decide +kernel
theorem dX2_step_89 : decode cX2_step 89 = .ok (.goto 63, 3) := by decide +kernel
theorem dX2_step_92 : decode cX2_step 92 = .ok (.aload_n 0, 1) := by decide +kernel
theorem dX2_step_93 : decode cX2_step 93 = .ok (.getfield 15, 3) := by decide +kernel
theorem dX2_step_96 : decode cX2_step 96 = .ok (.aload_n 0, 1) := by decide +kernel
theorem dX2_step_97 : decode cX2_step 97 = .ok (.getfield 19, 3) := by decide +kernel
theorem dX2_step_100 : decode cX2_step 100 = .ok (.iaload, 1) := by decide +kernel
theorem dX2_step_101 : decode cX2_step 101 = .ok (.invokestatic 137, 3) := by decide +kernel
theorem dX2_step_104 : decode cX2_step 104 = .ok (.ifCond .eq 15, 3) := by decide +kernel
theorem dX2_step_107 : decode cX2_step 107 = .ok (.aload_n 0, 1) := by decide +kernel
theorem dX2_step_108 : decode cX2_step 108 = .ok (.iconst 2, 1) := by decide +kernel
theorem dX2_step_109 : decode cX2_step 109 = .ok (.putfield 22, 3) := by decide +kernel
theorem dX2_step_112 : decode cX2_step 112 = .ok (.aload_n 0, 1) := by decide +kernel
theorem dX2_step_113 : decode cX2_step 113 = .ok (.invokevirtual 140, 3) := by decide +kernel
theorem dX2_step_116 : decode cX2_step 116 = .ok (.goto 36, 3) := by decide +kernel
theorem dX2_step_119 : decode cX2_step 119 = .ok (.aload_n 0, 1) := by decide +kernel
theorem dX2_step_120 : decode cX2_step 120 = .ok (.aload_n 0, 1) := by decide +kernel
theorem dX2_step_121 : decode cX2_step 121 = .ok (.getfield 15, 3) := by decide +kernel
theorem dX2_step_124 : decode cX2_step 124 = .ok (.aload_n 0, 1) := by decide +kernel
theorem dX2_step_125 : decode cX2_step 125 = .ok (.getfield 19, 3) := by decide +kernel
theorem dX2_step_128 : decode cX2_step 128 = .ok (.iaload, 1) := by decide +kernel
theorem dX2_step_129 : decode cX2_step 129 = .ok (.bipush 59, 2) := by decide +kernel
theorem dX2_step_131 : decode cX2_step 131 = .ok (.if_icmp .ne 7, 3) := by decide +kernel
theorem dX2_step_134 : decode cX2_step 134 = .ok (.iconst 3, 1) := by decide +kernel
theorem dX2_step_135 : decode cX2_step 135 = .ok (.goto 4, 3) := by decide +kernel
theorem dX2_step_138 : decode cX2_step 138 = .ok (.iconst 4, 1) := by decide +kernel
theorem dX2_step_139 : decode cX2_step 139 = .ok (.putfield 22, 3) := by decide +kernel
theorem dX2_step_142 : decode cX2_step 142 = .ok (.aload_n 0, 1) := by decide +kernel
theorem dX2_step_143 : decode cX2_step 143 = .ok (.dup, 1) := by decide +kernel
theorem dX2_step_144 : decode cX2_step 144 = .ok (.getfield 19, 3) := by decide +kernel
theorem dX2_step_147 : decode cX2_step 147 = .ok (.iconst 1, 1) := by decide +kernel
theorem dX2_step_148 : decode cX2_step 148 = .ok (.iadd, 1) := by decide +kernel
theorem dX2_step_149 : decode cX2_step 149 = .ok (.putfield 19, 3) := by decide +kernel
theorem dX2_step_152 : decode cX2_step 152 = .ok (.return_, 1) := by decide +kernel
theorem dX2_passWord_0 : decode cX2_passWord 0 = .ok (.aload_n 0, 1) := by decide +kernel
theorem dX2_passWord_1 : decode cX2_passWord 1 = .ok (.getfield 19, 3) := by decide +kernel
theorem dX2_passWord_4 : decode cX2_passWord 4 = .ok (.aload_n 0, 1) := by decide +kernel
theorem dX2_passWord_5 : decode cX2_passWord 5 = .ok (.getfield 9, 3) := by decide +kernel
theorem dX2_passWord_8 : decode cX2_passWord 8 = .ok (.if_icmp .ge 31, 3) := by decide +kernel
theorem dX2_passWord_11 : decode cX2_passWord 11 = .ok (.aload_n 0, 1) := by decide +kernel
theorem dX2_passWord_12 : decode cX2_passWord 12 = .ok (.getfield 15, 3) := by decide +kernel
theorem dX2_passWord_15 : decode cX2_passWord 15 = .ok (.aload_n 0, 1) := by decide +kernel
theorem dX2_passWord_16 : decode cX2_passWord 16 = .ok (.getfield 19, 3) := by decide +kernel
theorem dX2_passWord_19 : decode cX2_passWord 19 = .ok (.iaload, 1) := by decide +kernel
theorem dX2_passWord_20 : decode cX2_passWord 20 = .ok (.invokestatic 130, 3) := by decide +kernel
theorem dX2_passWord_23 : decode cX2_passWord 23 = .ok (.ifCond .eq 16, 3) := by decide +kernel
theorem dX2_passWord_26 : decode cX2_passWord 26 = .ok (.aload_n 0, 1) := by decide +kernel
theorem dX2_passWord_27 : decode cX2_passWord 27 = .ok (.dup, 1) := by decide +kernel
theorem dX2_passWord_28 : decode cX2_passWord 28 = .ok (.getfield 19, 3) := by decide +kernel
theorem dX2_passWord_31 : decode cX2_passWord 31 = .ok (.iconst 1, 1) := by decide +kernel
theorem dX2_passWord_32 : decode cX2_passWord 32 = .ok (.iadd, 1) := by decide +kernel
theorem dX2_passWord_33 : decode cX2_passWord 33 = .ok (.putfield 19, 3) := by decide +kernel
theorem dX2_passWord_36 : decode cX2_passWord 36 = .ok (.goto (-36), 3) := by decide +kernel
theorem dX2_passWord_39 : decode cX2_passWord 39 = .ok (.return_, 1) := by decide +kernel
theorem dX2_passNumber_0 : decode cX2_passNumber 0 = .ok (.aload_n 0, 1) := by decide +kernel
theorem dX2_passNumber_1 : decode cX2_passNumber 1 = .ok (.iconst 0, 1) := by decide +kernel
theorem dX2_passNumber_2 : decode cX2_passNumber 2 = .ok (.putfield 28, 3) := by decide +kernel
theorem dX2_passNumber_5 : decode cX2_passNumber 5 = .ok (.aload_n 0, 1) := by decide +kernel
theorem dX2_passNumber_6 : decode cX2_passNumber 6 = .ok (.getfield 19, 3) := by decide +kernel
theorem dX2_passNumber_9 : decode cX2_passNumber 9 = .ok (.aload_n 0, 1) := by decide +kernel
theorem dX2_passNumber_10 : decode cX2_passNumber 10 = .ok (.getfield 9, 3) := by decide +kernel
theorem dX2_passNumber_13 : decode cX2_passNumber 13 = .ok (.if_icmp .ge 61, 3) := by decide +kernel
theorem dX2_passNumber_16 : decode cX2_passNumber 16 = .ok (.aload_n 0, 1) := by decide +kernel
theorem dX2_passNumber_17 : decode cX2_passNumber 17 = .ok (.getfield 15, 3) := by decide +kernel
theorem dX2_passNumber_20 : decode cX2_passNumber 20 = .ok (.aload_n 0, 1) := by decide +kernel
theorem dX2_passNumber_21 : decode cX2_passNumber 21 = .ok (.getfield 19, 3) := by decide +kernel
theorem dX2_passNumber_24 : decode cX2_passNumber 24 = .ok (.iaload, 1) := by decide +kernel
theorem dX2_passNumber_25 : decode cX2_passNumber 25 = .ok (.invokestatic 137, 3) := by decide +kernel
theorem dX2_passNumber_28 : decode cX2_passNumber 28 = .ok (.ifCond .eq 46, 3) := by decide +kernel
theorem dX2_passNumber_31 : decode cX2_passNumber 31 = .ok (.aload_n 0, 1) := by decide +kernel
theorem dX2_passNumber_32 : decode cX2_passNumber 32 = .ok (.bipush 10, 2) := by decide +kernel
theorem dX2_passNumber_34 : decode cX2_passNumber 34 = .ok (.aload_n 0, 1) := by decide +kernel
theorem dX2_passNumber_35 : decode cX2_passNumber 35 = .ok (.getfield 28, 3) := by decide +kernel
theorem dX2_passNumber_38 : decode cX2_passNumber 38 = .ok (.imul, 1) := by decide +kernel
theorem dX2_passNumber_39 : decode cX2_passNumber 39 = .ok (.aload_n 0, 1) := by decide +kernel
theorem dX2_passNumber_40 : decode cX2_passNumber 40 = .ok (.getfield 15, 3) := by decide +kernel
theorem dX2_passNumber_43 : decode cX2_passNumber 43 = .ok (.aload_n 0, 1) := by decide +kernel
theorem dX2_passNumber_44 : decode cX2_passNumber 44 = .ok (.getfield 19, 3) := by decide +kernel
theorem dX2_passNumber_47 : decode cX2_passNumber 47 = .ok (.iaload, 1) := by decide +kernel
theorem dX2_passNumber_48 : decode cX2_passNumber 48 = .ok (.iadd, 1) := by decide +kernel
theorem dX2_passNumber_49 : decode cX2_passNumber 49 = .ok (.bipush 48, 2) := by decide +kernel
theorem dX2_passNumber_51 : decode cX2_passNumber 51 = .ok (.isub, 1) := by decide +kernel
theorem dX2_passNumber_52 : decode cX2_passNumber 52 = .ok (.sipush 1000, 3) := by decide +kernel
theorem dX2_passNumber_55 : decode cX2_passNumber 55 = .ok (.invokestatic 143, 3) := by decide +kernel
theorem dX2_passNumber_58 : decode cX2_passNumber 58 = .ok (.putfield 28, 3) := by decide +kernel
theorem dX2_passNumber_61 : decode cX2_passNumber 61 = .ok (.aload_n 0, 1) := by decide +kernel
theorem dX2_passNumber_62 : decode cX2_passNumber 62 = .ok (.dup, 1) := by decide +kernel
theorem dX2_passNumber_63 : decode cX2_passNumber 63 = .ok (.getfield 19, 3) := by decide +kernel
theorem dX2_passNumber_66 : decode cX2_passNumber 66 = .ok (.iconst 1, 1) := by decide +kernel
theorem dX2_passNumber_67 : decode cX2_passNumber 67 = .ok (.iadd, 1) := by decide +kernel
theorem dX2_passNumber_68 : decode cX2_passNumber 68 = .ok (.putfield 19, 3) := by decide +kernel
theorem dX2_passNumber_71 : decode cX2_passNumber 71 = .ok (.goto (-66), 3) := by decide +kernel
theorem dX2_passNumber_74 : decode cX2_passNumber 74 = .ok (.return_, 1) := by decide +kernel
theorem dX2_isLetter_0 : decode cX2_isLetter 0 = .ok (.iload_n 0, 1) := by decide +kernel
theorem dX2_isLetter_1 : decode cX2_isLetter 1 = .ok (.bipush 97, 2) := by decide +kernel
theorem dX2_isLetter_3 : decode cX2_isLetter 3 = .ok (.if_icmp .lt 13, 3) := by decide +kernel
theorem dX2_isLetter_6 : decode cX2_isLetter 6 = .ok (.iload_n 0, 1) := by decide +kernel
theorem dX2_isLetter_7 : decode cX2_isLetter 7 = .ok (.bipush 122, 2) := by decide +kernel
theorem dX2_isLetter_9 : decode cX2_isLetter 9 = .ok (.if_icmp .gt 7, 3) := by decide +kernel
theorem dX2_isLetter_12 : decode cX2_isLetter 12 = .ok (.iconst 1, 1) := by decide +kernel
theorem dX2_isLetter_13 : decode cX2_isLetter 13 = .ok (.goto 4, 3) := by decide +kernel
theorem dX2_isLetter_16 : decode cX2_isLetter 16 = .ok (.iconst 0, 1) := by decide +kernel
theorem dX2_isLetter_17 : decode cX2_isLetter 17 = .ok (.ireturn, 1) := by decide +kernel
theorem dX2_isDigit_0 : decode cX2_isDigit 0 = .ok (.iload_n 0, 1) := by decide +kernel
theorem dX2_isDigit_1 : decode cX2_isDigit 1 = .ok (.bipush 48, 2) := by decide +kernel
theorem dX2_isDigit_3 : decode cX2_isDigit 3 = .ok (.if_icmp .lt 13, 3) := by decide +kernel
theorem dX2_isDigit_6 : decode cX2_isDigit 6 = .ok (.iload_n 0, 1) := by decide +kernel
theorem dX2_isDigit_7 : decode cX2_isDigit 7 = .ok (.bipush 57, 2) := by decide +kernel
theorem dX2_isDigit_9 : decode cX2_isDigit 9 = .ok (.if_icmp .gt 7, 3) := by decide +kernel
theorem dX2_isDigit_12 : decode cX2_isDigit 12 = .ok (.iconst 1, 1) := by decide +kernel
theorem dX2_isDigit_13 : decode cX2_isDigit 13 = .ok (.goto 4, 3) := by decide +kernel
theorem dX2_isDigit_16 : decode cX2_isDigit 16 = .ok (.iconst 0, 1) := by decide +kernel
theorem dX2_isDigit_17 : decode cX2_isDigit 17 = .ok (.ireturn, 1) := by decide +kernel
theorem dJ0_length_8abf5_0 : decode cJ0_length_8abf5 0 = .ok (.aload_n 0, 1) := by decide +kernel
theorem dJ0_length_8abf5_1 : decode cJ0_length_8abf5 1 = .ok (.getfield 9, 3) := by decide +kernel
theorem dJ0_length_8abf5_4 : decode cJ0_length_8abf5 4 = .ok (.arraylength, 1) := by decide +kernel
theorem dJ0_length_8abf5_5 : decode cJ0_length_8abf5 5 = .ok (.aload_n 0, 1) := by decide +kernel
theorem dJ0_length_8abf5_6 : decode cJ0_length_8abf5 6 = .ok (.invokevirtual 335, 3) := by decide +kernel
theorem dJ0_length_8abf5_9 : decode cJ0_length_8abf5 9 = .ok (.ishr, 1) := by decide +kernel
theorem dJ0_length_8abf5_10 : decode cJ0_length_8abf5 10 = .ok (.ireturn, 1) := by decide +kernel
theorem dJ0_charAt_5068e_0 : decode cJ0_charAt_5068e 0 = .ok (.aload_n 0, 1) := by decide +kernel
theorem dJ0_charAt_5068e_1 : decode cJ0_charAt_5068e 1 = .ok (.invokevirtual 492, 3) := by decide +kernel
theorem dJ0_charAt_5068e_4 : decode cJ0_charAt_5068e 4 = .ok (.ifCond .eq 12, 3) := by decide +kernel
theorem dJ0_charAt_5068e_7 : decode cJ0_charAt_5068e 7 = .ok (.aload_n 0, 1) := by decide +kernel
theorem dJ0_charAt_5068e_8 : decode cJ0_charAt_5068e 8 = .ok (.getfield 9, 3) := by decide +kernel
theorem dJ0_charAt_5068e_11 : decode cJ0_charAt_5068e 11 = .ok (.iload_n 1, 1) := by decide +kernel
theorem dJ0_charAt_5068e_12 : decode cJ0_charAt_5068e 12 = .ok (.invokestatic 495, 3) := by decide +kernel
theorem dJ0_charAt_5068e_15 : decode cJ0_charAt_5068e 15 = .ok (.ireturn, 1) := by decide +kernel
theorem dJ0_charAt_5068e_16 : decode cJ0_charAt_5068e 16 = .ok (.aload_n 0, 1) := by decide +kernel
theorem dJ0_charAt_5068e_17 : decode cJ0_charAt_5068e 17 = .ok (.getfield 9, 3) := by decide +kernel
theorem dJ0_charAt_5068e_20 : decode cJ0_charAt_5068e 20 = .ok (.iload_n 1, 1) := by decide +kernel
theorem dJ0_charAt_5068e_21 : decode cJ0_charAt_5068e 21 = .ok (.invokestatic 498, 3) := by decide +kernel
theorem dJ0_charAt_5068e_24 : decode cJ0_charAt_5068e 24 = .ok (.ireturn, 1) := by decide +kernel
theorem dJ0_coder_7d493_0 : decode cJ0_coder_7d493 0 = .ok (.getstatic 38, 3) := by decide +kernel
theorem dJ0_coder_7d493_3 : decode cJ0_coder_7d493 3 = .ok (.ifCond .eq 10, 3) := by decide +kernel
theorem dJ0_coder_7d493_6 : decode cJ0_coder_7d493 6 = .ok (.aload_n 0, 1) := by decide +kernel
theorem dJ0_coder_7d493_7 : decode cJ0_coder_7d493 7 = .ok (.getfield 15, 3) := by decide +kernel
theorem dJ0_coder_7d493_10 : decode cJ0_coder_7d493 10 = .ok (.goto 4, 3) := by decide +kernel
theorem dJ0_coder_7d493_13 : decode cJ0_coder_7d493 13 = .ok (.iconst 1, 1) := by decide +kernel
theorem dJ0_coder_7d493_14 : decode cJ0_coder_7d493 14 = .ok (.ireturn, 1) := by decide +kernel
theorem dJ0_isLatin1_aae02_0 : decode cJ0_isLatin1_aae02 0 = .ok (.getstatic 38, 3) := by decide +kernel
theorem dJ0_isLatin1_aae02_3 : decode cJ0_isLatin1_aae02 3 = .ok (.ifCond .eq 14, 3) := by decide +kernel
theorem dJ0_isLatin1_aae02_6 : decode cJ0_isLatin1_aae02 6 = .ok (.aload_n 0, 1) := by decide +kernel
theorem dJ0_isLatin1_aae02_7 : decode cJ0_isLatin1_aae02 7 = .ok (.getfield 15, 3) := by decide +kernel
theorem dJ0_isLatin1_aae02_10 : decode cJ0_isLatin1_aae02 10 = .ok (.ifCond .ne 7, 3) := by decide +kernel
theorem dJ0_isLatin1_aae02_13 : decode cJ0_isLatin1_aae02 13 = .ok (.iconst 1, 1) := by decide +kernel
theorem dJ0_isLatin1_aae02_14 : decode cJ0_isLatin1_aae02 14 = .ok (.goto 4, 3) := by decide +kernel
theorem dJ0_isLatin1_aae02_17 : decode cJ0_isLatin1_aae02 17 = .ok (.iconst 0, 1) := by decide +kernel
theorem dJ0_isLatin1_aae02_18 : decode cJ0_isLatin1_aae02 18 = .ok (.ireturn, 1) := by decide +kernel
theorem dJ0_checkIndex_df160_0 : decode cJ0_checkIndex_df160 0 = .ok (.iload_n 0, 1) := by decide +kernel
theorem dJ0_checkIndex_df160_1 : decode cJ0_checkIndex_df160 1 = .ok (.iload_n 1, 1) := by decide +kernel
theorem dJ0_checkIndex_df160_2 : decode cJ0_checkIndex_df160 2 = .ok (.getstatic 1053, 3) := by decide +kernel
theorem dJ0_checkIndex_df160_5 : decode cJ0_checkIndex_df160 5 = .ok (.invokestatic 1059, 3) := by decide +kernel
theorem dJ0_checkIndex_df160_8 : decode cJ0_checkIndex_df160 8 = .ok (.pop, 1) := by decide +kernel
theorem dJ0_checkIndex_df160_9 : decode cJ0_checkIndex_df160 9 = .ok (.return_, 1) := by decide +kernel
theorem dJ1_charAt_3b067_0 : decode cJ1_charAt_3b067 0 = .ok (.iload_n 1, 1) := by decide +kernel
theorem dJ1_charAt_3b067_1 : decode cJ1_charAt_3b067 1 = .ok (.aload_n 0, 1) := by decide +kernel
theorem dJ1_charAt_3b067_2 : decode cJ1_charAt_3b067 2 = .ok (.arraylength, 1) := by decide +kernel
theorem dJ1_charAt_3b067_3 : decode cJ1_charAt_3b067 3 = .ok (.invokestatic 9, 3) := by decide +kernel
theorem dJ1_charAt_3b067_6 : decode cJ1_charAt_3b067 6 = .ok (.aload_n 0, 1) := by decide +kernel
theorem dJ1_charAt_3b067_7 : decode cJ1_charAt_3b067 7 = .ok (.iload_n 1, 1) := by decide +kernel
theorem dJ1_charAt_3b067_8 : decode cJ1_charAt_3b067 8 = .ok (.baload, 1) := by decide +kernel
theorem dJ1_charAt_3b067_9 : decode cJ1_charAt_3b067 9 = .ok (.sipush 255, 3) := by decide +kernel
theorem dJ1_charAt_3b067_12 : decode cJ1_charAt_3b067 12 = .ok (.iand, 1) := by decide +kernel
theorem dJ1_charAt_3b067_13 : decode cJ1_charAt_3b067 13 = .ok (.i2c, 1) := by decide +kernel
theorem dJ1_charAt_3b067_14 : decode cJ1_charAt_3b067 14 = .ok (.ireturn, 1) := by decide +kernel
theorem dJ2_getChar_3b067_0 : decode cJ2_getChar_3b067 0 = .ok (.getstatic 44, 3) := by decide +kernel
theorem dJ2_getChar_3b067_3 : decode cJ2_getChar_3b067 3 = .ok (.ifCond .ne 25, 3) := by decide +kernel
theorem dJ2_getChar_3b067_6 : decode cJ2_getChar_3b067 6 = .ok (.iload_n 1, 1) := by decide +kernel
theorem dJ2_getChar_3b067_7 : decode cJ2_getChar_3b067 7 = .ok (.ifCond .lt 11, 3) := by decide +kernel
theorem dJ2_getChar_3b067_10 : decode cJ2_getChar_3b067 10 = .ok (.iload_n 1, 1) := by decide +kernel
theorem dJ2_getChar_3b067_11 : decode cJ2_getChar_3b067 11 = .ok (.aload_n 0, 1) := by decide +kernel
theorem dJ2_getChar_3b067_12 : decode cJ2_getChar_3b067 12 = .ok (.invokestatic 48, 3) := by decide +kernel
theorem dJ2_getChar_3b067_15 : decode cJ2_getChar_3b067 15 = .ok (.if_icmp .lt 13, 3) := by decide +kernel
theorem dJ2_getChar_3b067_18 : decode cJ2_getChar_3b067 18 = .ok (.new 52, 3) := by decide +kernel
theorem dJ2_getChar_3b067_21 : decode cJ2_getChar_3b067 21 = .ok (.dup, 1) := by decide +kernel
theorem dJ2_getChar_3b067_22 : decode cJ2_getChar_3b067 22 = .ok (.ldc 54, 2) := by decide +kernel
theorem dJ2_getChar_3b067_24 : decode cJ2_getChar_3b067 24 = .ok (.invokespecial 56, 3) := by decide +kernel
theorem dJ2_getChar_3b067_27 : decode cJ2_getChar_3b067 27 = .ok (.athrow, 1) := by decide +kernel
theorem dJ2_getChar_3b067_28 : decode cJ2_getChar_3b067 28 = .ok (.iload_n 1, 1) := by decide +kernel
theorem dJ2_getChar_3b067_29 : decode cJ2_getChar_3b067 29 = .ok (.iconst 1, 1) := by decide +kernel
theorem dJ2_getChar_3b067_30 : decode cJ2_getChar_3b067 30 = .ok (.ishl, 1) := by decide +kernel
theorem dJ2_getChar_3b067_31 : decode cJ2_getChar_3b067 31 = .ok (.istore_n 1, 1) := by decide +kernel
theorem dJ2_getChar_3b067_32 : decode cJ2_getChar_3b067 32 = .ok (.aload_n 0, 1) := by decide +kernel
theorem dJ2_getChar_3b067_33 : decode cJ2_getChar_3b067 33 = .ok (.iload_n 1, 1) := by decide +kernel
theorem dJ2_getChar_3b067_34 : decode cJ2_getChar_3b067 34 = .ok (.iinc 1 1, 3) := by decide +kernel
theorem dJ2_getChar_3b067_37 : decode cJ2_getChar_3b067 37 = .ok (.baload, 1) := by decide +kernel
theorem dJ2_getChar_3b067_38 : decode cJ2_getChar_3b067 38 = .ok (.sipush 255, 3) := by decide +kernel
theorem dJ2_getChar_3b067_41 : decode cJ2_getChar_3b067 41 = .ok (.iand, 1) := by decide +kernel
theorem dJ2_getChar_3b067_42 : decode cJ2_getChar_3b067 42 = .ok (.getstatic 59, 3) := by decide +kernel
theorem dJ2_getChar_3b067_45 : decode cJ2_getChar_3b067 45 = .ok (.ishl, 1) := by decide +kernel
theorem dJ2_getChar_3b067_46 : decode cJ2_getChar_3b067 46 = .ok (.aload_n 0, 1) := by decide +kernel
theorem dJ2_getChar_3b067_47 : decode cJ2_getChar_3b067 47 = .ok (.iload_n 1, 1) := by decide +kernel
theorem dJ2_getChar_3b067_48 : decode cJ2_getChar_3b067 48 = .ok (.baload, 1) := by decide +kernel
theorem dJ2_getChar_3b067_49 : decode cJ2_getChar_3b067 49 = .ok (.sipush 255, 3) := by decide +kernel
theorem dJ2_getChar_3b067_52 : decode cJ2_getChar_3b067 52 = .ok (.iand, 1) := by decide +kernel
theorem dJ2_getChar_3b067_53 : decode cJ2_getChar_3b067 53 = .ok (.getstatic 63, 3) := by decide +kernel
theorem dJ2_getChar_3b067_56 : decode cJ2_getChar_3b067 56 = .ok (.ishl, 1) := by decide +kernel
theorem dJ2_getChar_3b067_57 : decode cJ2_getChar_3b067 57 = .ok (.ior, 1) := by decide +kernel
theorem dJ2_getChar_3b067_58 : decode cJ2_getChar_3b067 58 = .ok (.i2c, 1) := by decide +kernel
theorem dJ2_getChar_3b067_59 : decode cJ2_getChar_3b067 59 = .ok (.ireturn, 1) := by decide +kernel
theorem dJ2_length_9d52b_0 : decode cJ2_length_9d52b 0 = .ok (.aload_n 0, 1) := by decide +kernel
theorem dJ2_length_9d52b_1 : decode cJ2_length_9d52b 1 = .ok (.arraylength, 1) := by decide +kernel
theorem dJ2_length_9d52b_2 : decode cJ2_length_9d52b 2 = .ok (.iconst 1, 1) := by decide +kernel
theorem dJ2_length_9d52b_3 : decode cJ2_length_9d52b 3 = .ok (.ishr, 1) := by decide +kernel
theorem dJ2_length_9d52b_4 : decode cJ2_length_9d52b 4 = .ok (.ireturn, 1) := by decide +kernel
theorem dJ2_charAt_3b067_0 : decode cJ2_charAt_3b067 0 = .ok (.iload_n 1, 1) := by decide +kernel
theorem dJ2_charAt_3b067_1 : decode cJ2_charAt_3b067 1 = .ok (.aload_n 0, 1) := by decide +kernel
theorem dJ2_charAt_3b067_2 : decode cJ2_charAt_3b067 2 = .ok (.invokestatic 67, 3) := by decide +kernel
theorem dJ2_charAt_3b067_5 : decode cJ2_charAt_3b067 5 = .ok (.aload_n 0, 1) := by decide +kernel
theorem dJ2_charAt_3b067_6 : decode cJ2_charAt_3b067 6 = .ok (.iload_n 1, 1) := by decide +kernel
theorem dJ2_charAt_3b067_7 : decode cJ2_charAt_3b067 7 = .ok (.invokestatic 71, 3) := by decide +kernel
theorem dJ2_charAt_3b067_10 : decode cJ2_charAt_3b067 10 = .ok (.ireturn, 1) := by decide +kernel
theorem dJ2_checkIndex_2214a_0 : decode cJ2_checkIndex_2214a 0 = .ok (.iload_n 0, 1) := by decide +kernel
theorem dJ2_checkIndex_2214a_1 : decode cJ2_checkIndex_2214a 1 = .ok (.aload_n 1, 1) := by decide +kernel
theorem dJ2_checkIndex_2214a_2 : decode cJ2_checkIndex_2214a 2 = .ok (.invokestatic 48, 3) := by decide +kernel
theorem dJ2_checkIndex_2214a_5 : decode cJ2_checkIndex_2214a 5 = .ok (.invokestatic 414, 3) := by decide +kernel
theorem dJ2_checkIndex_2214a_8 : decode cJ2_checkIndex_2214a 8 = .ok (.return_, 1) := by decide +kernel
theorem dJ3_checkIndex_8e157_0 : decode cJ3_checkIndex_8e157 0 = .ok (.iload_n 0, 1) := by decide +kernel
theorem dJ3_checkIndex_8e157_1 : decode cJ3_checkIndex_8e157 1 = .ok (.ifCond .lt 8, 3) := by decide +kernel
theorem dJ3_checkIndex_8e157_4 : decode cJ3_checkIndex_8e157 4 = .ok (.iload_n 0, 1) := by decide +kernel
theorem dJ3_checkIndex_8e157_5 : decode cJ3_checkIndex_8e157 5 = .ok (.iload_n 1, 1) := by decide +kernel
theorem dJ3_checkIndex_8e157_6 : decode cJ3_checkIndex_8e157 6 = .ok (.if_icmp .lt 10, 3) := by decide +kernel
theorem dJ3_checkIndex_8e157_9 : decode cJ3_checkIndex_8e157 9 = .ok (.aload_n 2, 1) := by decide +kernel
theorem dJ3_checkIndex_8e157_10 : decode cJ3_checkIndex_8e157 10 = .ok (.iload_n 0, 1) := by decide +kernel
theorem dJ3_checkIndex_8e157_11 : decode cJ3_checkIndex_8e157 11 = .ok (.iload_n 1, 1) := by decide +kernel
theorem dJ3_checkIndex_8e157_12 : decode cJ3_checkIndex_8e157 12 = .ok (.invokestatic 95, 3) := by decide +kernel
theorem dJ3_checkIndex_8e157_15 : decode cJ3_checkIndex_8e157 15 = .ok (.athrow, 1) := by decide +kernel
theorem dJ3_checkIndex_8e157_16 : decode cJ3_checkIndex_8e157 16 = .ok (.iload_n 0, 1) := by decide +kernel
theorem dJ3_checkIndex_8e157_17 : decode cJ3_checkIndex_8e157 17 = .ok (.ireturn, 1) := by decide +kernel
theorem dJ6_bitCount_0f7a4_0 : decode cJ6_bitCount_0f7a4 0 = .ok (.iload_n 0, 1) := by decide +kernel
theorem dJ6_bitCount_0f7a4_1 : decode cJ6_bitCount_0f7a4 1 = .ok (.iload_n 0, 1) := by decide +kernel
theorem dJ6_bitCount_0f7a4_2 : decode cJ6_bitCount_0f7a4 2 = .ok (.iconst 1, 1) := by decide +kernel
theorem dJ6_bitCount_0f7a4_3 : decode cJ6_bitCount_0f7a4 3 = .ok (.iushr, 1) := by decide +kernel
theorem dJ6_bitCount_0f7a4_4 : decode cJ6_bitCount_0f7a4 4 = .ok (.ldc_w 265, 3) := by decide +kernel
theorem dJ6_bitCount_0f7a4_7 : decode cJ6_bitCount_0f7a4 7 = .ok (.iand, 1) := by decide +kernel
theorem dJ6_bitCount_0f7a4_8 : decode cJ6_bitCount_0f7a4 8 = .ok (.isub, 1) := by decide +kernel
theorem dJ6_bitCount_0f7a4_9 : decode cJ6_bitCount_0f7a4 9 = .ok (.istore_n 0, 1) := by decide +kernel
theorem dJ6_bitCount_0f7a4_10 : decode cJ6_bitCount_0f7a4 10 = .ok (.iload_n 0, 1) := by decide +kernel
theorem dJ6_bitCount_0f7a4_11 : decode cJ6_bitCount_0f7a4 11 = .ok (.ldc_w 266, 3) := by decide +kernel
theorem dJ6_bitCount_0f7a4_14 : decode cJ6_bitCount_0f7a4 14 = .ok (.iand, 1) := by decide +kernel
theorem dJ6_bitCount_0f7a4_15 : decode cJ6_bitCount_0f7a4 15 = .ok (.iload_n 0, 1) := by decide +kernel
theorem dJ6_bitCount_0f7a4_16 : decode cJ6_bitCount_0f7a4 16 = .ok (.iconst 2, 1) := by decide +kernel
theorem dJ6_bitCount_0f7a4_17 : decode cJ6_bitCount_0f7a4 17 = .ok (.iushr, 1) := by decide +kernel
theorem dJ6_bitCount_0f7a4_18 : decode cJ6_bitCount_0f7a4 18 = .ok (.ldc_w 266, 3) := by decide +kernel
theorem dJ6_bitCount_0f7a4_21 : decode cJ6_bitCount_0f7a4 21 = .ok (.iand, 1) := by decide +kernel
theorem dJ6_bitCount_0f7a4_22 : decode cJ6_bitCount_0f7a4 22 = .ok (.iadd, 1) := by decide +kernel
theorem dJ6_bitCount_0f7a4_23 : decode cJ6_bitCount_0f7a4 23 = .ok (.istore_n 0, 1) := by decide +kernel
theorem dJ6_bitCount_0f7a4_24 : decode cJ6_bitCount_0f7a4 24 = .ok (.iload_n 0, 1) := by decide +kernel
theorem dJ6_bitCount_0f7a4_25 : decode cJ6_bitCount_0f7a4 25 = .ok (.iload_n 0, 1) := by decide +kernel
theorem dJ6_bitCount_0f7a4_26 : decode cJ6_bitCount_0f7a4 26 = .ok (.iconst 4, 1) := by decide +kernel
theorem dJ6_bitCount_0f7a4_27 : decode cJ6_bitCount_0f7a4 27 = .ok (.iushr, 1) := by decide +kernel
theorem dJ6_bitCount_0f7a4_28 : decode cJ6_bitCount_0f7a4 28 = .ok (.iadd, 1) := by decide +kernel
theorem dJ6_bitCount_0f7a4_29 : decode cJ6_bitCount_0f7a4 29 = .ok (.ldc_w 267, 3) := by decide +kernel
theorem dJ6_bitCount_0f7a4_32 : decode cJ6_bitCount_0f7a4 32 = .ok (.iand, 1) := by decide +kernel
theorem dJ6_bitCount_0f7a4_33 : decode cJ6_bitCount_0f7a4 33 = .ok (.istore_n 0, 1) := by decide +kernel
theorem dJ6_bitCount_0f7a4_34 : decode cJ6_bitCount_0f7a4 34 = .ok (.iload_n 0, 1) := by decide +kernel
theorem dJ6_bitCount_0f7a4_35 : decode cJ6_bitCount_0f7a4 35 = .ok (.iload_n 0, 1) := by decide +kernel
theorem dJ6_bitCount_0f7a4_36 : decode cJ6_bitCount_0f7a4 36 = .ok (.bipush 8, 2) := by decide +kernel
theorem dJ6_bitCount_0f7a4_38 : decode cJ6_bitCount_0f7a4 38 = .ok (.iushr, 1) := by decide +kernel
theorem dJ6_bitCount_0f7a4_39 : decode cJ6_bitCount_0f7a4 39 = .ok (.iadd, 1) := by decide +kernel
theorem dJ6_bitCount_0f7a4_40 : decode cJ6_bitCount_0f7a4 40 = .ok (.istore_n 0, 1) := by decide +kernel
theorem dJ6_bitCount_0f7a4_41 : decode cJ6_bitCount_0f7a4 41 = .ok (.iload_n 0, 1) := by decide +kernel
theorem dJ6_bitCount_0f7a4_42 : decode cJ6_bitCount_0f7a4 42 = .ok (.iload_n 0, 1) := by decide +kernel
theorem dJ6_bitCount_0f7a4_43 : decode cJ6_bitCount_0f7a4 43 = .ok (.bipush 16, 2) := by decide +kernel
theorem dJ6_bitCount_0f7a4_45 : decode cJ6_bitCount_0f7a4 45 = .ok (.iushr, 1) := by decide +kernel
theorem dJ6_bitCount_0f7a4_46 : decode cJ6_bitCount_0f7a4 46 = .ok (.iadd, 1) := by decide +kernel
theorem dJ6_bitCount_0f7a4_47 : decode cJ6_bitCount_0f7a4 47 = .ok (.istore_n 0, 1) := by decide +kernel
theorem dJ6_bitCount_0f7a4_48 : decode cJ6_bitCount_0f7a4 48 = .ok (.iload_n 0, 1) := by decide +kernel
theorem dJ6_bitCount_0f7a4_49 : decode cJ6_bitCount_0f7a4 49 = .ok (.bipush 63, 2) := by decide +kernel
theorem dJ6_bitCount_0f7a4_51 : decode cJ6_bitCount_0f7a4 51 = .ok (.iand, 1) := by decide +kernel
theorem dJ6_bitCount_0f7a4_52 : decode cJ6_bitCount_0f7a4 52 = .ok (.ireturn, 1) := by decide +kernel
theorem dJ9_abs_0f7a4_0 : decode cJ9_abs_0f7a4 0 = .ok (.iload_n 0, 1) := by decide +kernel
theorem dJ9_abs_0f7a4_1 : decode cJ9_abs_0f7a4 1 = .ok (.ifCond .ge 8, 3) := by decide +kernel
theorem dJ9_abs_0f7a4_4 : decode cJ9_abs_0f7a4 4 = .ok (.iload_n 0, 1) := by decide +kernel
theorem dJ9_abs_0f7a4_5 : decode cJ9_abs_0f7a4 5 = .ok (.ineg, 1) := by decide +kernel
theorem dJ9_abs_0f7a4_6 : decode cJ9_abs_0f7a4 6 = .ok (.goto 4, 3) := by decide +kernel
theorem dJ9_abs_0f7a4_9 : decode cJ9_abs_0f7a4 9 = .ok (.iload_n 0, 1) := by decide +kernel
theorem dJ9_abs_0f7a4_10 : decode cJ9_abs_0f7a4 10 = .ok (.ireturn, 1) := by decide +kernel
theorem dJ9_max_7cf53_0 : decode cJ9_max_7cf53 0 = .ok (.iload_n 0, 1) := by decide +kernel
theorem dJ9_max_7cf53_1 : decode cJ9_max_7cf53 1 = .ok (.iload_n 1, 1) := by decide +kernel
theorem dJ9_max_7cf53_2 : decode cJ9_max_7cf53 2 = .ok (.if_icmp .lt 7, 3) := by decide +kernel
theorem dJ9_max_7cf53_5 : decode cJ9_max_7cf53 5 = .ok (.iload_n 0, 1) := by decide +kernel
theorem dJ9_max_7cf53_6 : decode cJ9_max_7cf53 6 = .ok (.goto 4, 3) := by decide +kernel
theorem dJ9_max_7cf53_9 : decode cJ9_max_7cf53 9 = .ok (.iload_n 1, 1) := by decide +kernel
theorem dJ9_max_7cf53_10 : decode cJ9_max_7cf53 10 = .ok (.ireturn, 1) := by decide +kernel
theorem dJ9_min_7cf53_0 : decode cJ9_min_7cf53 0 = .ok (.iload_n 0, 1) := by decide +kernel
theorem dJ9_min_7cf53_1 : decode cJ9_min_7cf53 1 = .ok (.iload_n 1, 1) := by decide +kernel
theorem dJ9_min_7cf53_2 : decode cJ9_min_7cf53 2 = .ok (.if_icmp .gt 7, 3) := by decide +kernel
theorem dJ9_min_7cf53_5 : decode cJ9_min_7cf53 5 = .ok (.iload_n 0, 1) := by decide +kernel
theorem dJ9_min_7cf53_6 : decode cJ9_min_7cf53 6 = .ok (.goto 4, 3) := by decide +kernel
theorem dJ9_min_7cf53_9 : decode cJ9_min_7cf53 9 = .ok (.iload_n 1, 1) := by decide +kernel
theorem dJ9_min_7cf53_10 : decode cJ9_min_7cf53 10 = .ok (.ireturn, 1) := by decide +kernel
