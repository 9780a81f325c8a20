theorem dX4_init_0 : decode cX4_init 0 = .ok (.aload_n 0, 1) := by decide +kernel
theorem dX4_init_1 : decode cX4_init 1 = .ok (.invokespecial 1, 3) := by decide +kernel
theorem dX4_init_4 : decode cX4_init 4 = .ok (.aload_n 0, 1) := by decide +kernel
theorem dX4_init_5 : decode cX4_init 5 = .ok (.bipush 84, 2) := by decide +kernel
theorem dX4_init_7 : decode cX4_init 7 = .ok (.newarray .int, 2) := by decide +kernel
theorem dX4_init_9 : decode cX4_init 9 = .ok (.putfield 7, 3) := by decide +kernel
theorem dX4_init_12 : decode cX4_init 12 = .ok (.aload_n 0, 1) := by decide +kernel
theorem dX4_init_13 : decode cX4_init 13 = .ok (.bipush 84, 2) := by decide +kernel
theorem dX4_init_15 : decode cX4_init 15 = .ok (.newarray .int, 2) := by decide +kernel
theorem dX4_init_17 : decode cX4_init 17 = .ok (.putfield 13, 3) := by decide +kernel
theorem dX4_init_20 : decode cX4_init 20 = .ok (.aload_n 0, 1) := by decide +kernel
theorem dX4_init_21 : decode cX4_init 21 = .ok (.bipush 84, 2) := by decide +kernel
theorem dX4_init_23 : decode cX4_init 23 = .ok (.newarray .int, 2) := by decide +kernel
theorem dX4_init_25 : decode cX4_init 25 = .ok (.putfield 16, 3) := by decide +kernel
theorem dX4_init_28 : decode cX4_init 28 = .ok (.aload_n 0, 1) := by decide +kernel
theorem dX4_init_29 : decode cX4_init 29 = .ok (.bipush 84, 2) := by decide +kernel
theorem dX4_init_31 : decode cX4_init 31 = .ok (.newarray .int, 2) := by decide +kernel
theorem dX4_init_33 : decode cX4_init 33 = .ok (.putfield 19, 3) := by decide +kernel
theorem dX4_init_36 : decode cX4_init 36 = .ok (.aload_n 0, 1) := by decide +kernel
theorem dX4_init_37 : decode cX4_init 37 = .ok (.bipush 7, 2) := by decide +kernel
theorem dX4_init_39 : decode cX4_init 39 = .ok (.newarray .int, 2) := by decide +kernel
theorem dX4_init_41 : decode cX4_init 41 = .ok (.putfield 22, 3) := by decide +kernel
theorem dX4_init_44 : decode cX4_init 44 = .ok (.aload_n 0, 1) := by decide +kernel
theorem dX4_init_45 : decode cX4_init 45 = .ok (.bipush 48, 2) := by decide +kernel
theorem dX4_init_47 : decode cX4_init 47 = .ok (.newarray .int, 2) := by decide +kernel
theorem dX4_init_49 : decode cX4_init 49 = .ok (.putfield 25, 3) := by decide +kernel
theorem dX4_init_52 : decode cX4_init 52 = .ok (.aload_n 0, 1) := by decide +kernel
theorem dX4_init_53 : decode cX4_init 53 = .ok (.bipush 120, 2) := by decide +kernel
theorem dX4_init_55 : decode cX4_init 55 = .ok (.newarray .int, 2) := by decide +kernel
theorem dX4_init_57 : decode cX4_init 57 = .ok (.putfield 28, 3) := by decide +kernel
theorem dX4_init_60 : decode cX4_init 60 = .ok (.aload_n 0, 1) := by decide +kernel
theorem dX4_init_61 : decode cX4_init 61 = .ok (.iconst 4, 1) := by decide +kernel
theorem dX4_init_62 : decode cX4_init 62 = .ok (.newarray .int, 2) := by decide +kernel
theorem dX4_init_64 : decode cX4_init 64 = .ok (.putfield 31, 3) := by decide +kernel
theorem dX4_init_67 : decode cX4_init 67 = .ok (.aload_n 0, 1) := by decide +kernel
theorem dX4_init_68 : decode cX4_init 68 = .ok (.iconst 4, 1) := by decide +kernel
theorem dX4_init_69 : decode cX4_init 69 = .ok (.newarray .int, 2) := by decide +kernel
theorem dX4_init_71 : decode cX4_init 71 = .ok (.putfield 34, 3) := by decide +kernel
theorem dX4_init_74 : decode cX4_init 74 = .ok (.aload_n 0, 1) := by decide +kernel
theorem dX4_init_75 : decode cX4_init 75 = .ok (.sipush 160, 3) := by decide +kernel
theorem dX4_init_78 : decode cX4_init 78 = .ok (.newarray .long, 2) := by decide +kernel
theorem dX4_init_80 : decode cX4_init 80 = .ok (.putfield 37, 3) := by decide +kernel
theorem dX4_init_83 : decode cX4_init 83 = .ok (.aload_n 0, 1) := by decide +kernel
theorem dX4_init_84 : decode cX4_init 84 = .ok (.bipush 40, 2) := by decide +kernel
theorem dX4_init_86 : decode cX4_init 86 = .ok (.newarray .long, 2) := by decide +kernel
theorem dX4_init_88 : decode cX4_init 88 = .ok (.putfield 41, 3) := by decide +kernel
theorem dX4_init_91 : decode cX4_init 91 = .ok (.aload_n 0, 1) := by decide +kernel
theorem dX4_init_92 : decode cX4_init 92 = .ok (.getfield 7, 3) := by decide +kernel
theorem dX4_init_95 : decode cX4_init 95 = .ok (.iconst 3, 1) := by decide +kernel
theorem dX4_init_96 : decode cX4_init 96 = .ok (.bipush 20, 2) := by decide +kernel
theorem dX4_init_98 : decode cX4_init 98 = .ok (.iastore, 1) := by decide +kernel
theorem dX4_init_99 : decode cX4_init 99 = .ok (.return_, 1) := by decide +kernel
theorem dX4_in_0 : decode cX4_in 0 = .ok (.lload_n 0, 1) := by decide +kernel
theorem dX4_in_1 : decode cX4_in 1 = .ok (.lload_n 2, 1) := by decide +kernel
theorem dX4_in_2 : decode cX4_in 2 = .ok (.lcmp, 1) := by decide +kernel
theorem dX4_in_3 : decode cX4_in 3 = .ok (.ifCond .lt 14, 3) := by decide +kernel
theorem dX4_in_6 : decode cX4_in 6 = .ok (.lload_n 0, 1) := by decide +kernel
theorem dX4_in_7 : decode cX4_in 7 = .ok (.lload 4, 2) := by decide +kernel
theorem dX4_in_9 : decode cX4_in 9 = .ok (.lcmp, 1) := by decide +kernel
theorem dX4_in_10 : decode cX4_in 10 = .ok (.ifCond .gt 7, 3) := by decide +kernel
theorem dX4_in_13 : decode cX4_in 13 = .ok (.iconst 1, 1) := by decide +kernel
theorem dX4_in_14 : decode cX4_in 14 = .ok (.goto 4, 3) := by decide +kernel
theorem dX4_in_17 : decode cX4_in 17 = .ok (.iconst 0, 1) := by decide +kernel
theorem dX4_in_18 : decode cX4_in 18 = .ok (.ireturn, 1) := by decide +kernel
theorem dX4_finds_0 : decode cX4_finds 0 = .ok (.aload_n 0, 1) := by decide +kernel
theorem dX4_finds_1 : decode cX4_finds 1 = .ok (.getfield 22, 3) := by decide +kernel
theorem dX4_finds_4 : decode cX4_finds 4 = .ok (.ldc 44, 2) := by decide +kernel
theorem dX4_finds_6 : decode cX4_finds 6 = .ok (.iload_n 1, 1) := by decide +kernel
theorem dX4_finds_7 : decode cX4_finds 7 = .ok (.isub, 1) := by decide +kernel
theorem dX4_finds_8 : decode cX4_finds 8 = .ok (.dup2, 1) := by decide +kernel
theorem dX4_finds_9 : decode cX4_finds 9 = .ok (.iaload, 1) := by decide +kernel
theorem dX4_finds_10 : decode cX4_finds 10 = .ok (.iconst 1, 1) := by decide +kernel
theorem dX4_finds_11 : decode cX4_finds 11 = .ok (.iadd, 1) := by decide +kernel
theorem dX4_finds_12 : decode cX4_finds 12 = .ok (.iastore, 1) := by decide +kernel
theorem dX4_finds_13 : decode cX4_finds 13 = .ok (.iload_n 1, 1) := by decide +kernel
theorem dX4_finds_14 : decode cX4_finds 14 = .ok (.ireturn, 1) := by decide +kernel
theorem dX4_saves_0 : decode cX4_saves 0 = .ok (.iconst 0, 1) := by decide +kernel
theorem dX4_saves_1 : decode cX4_saves 1 = .ok (.istore_n 1, 1) := by decide +kernel
theorem dX4_saves_2 : decode cX4_saves 2 = .ok (.iload_n 1, 1) := by decide +kernel
theorem dX4_saves_3 : decode cX4_saves 3 = .ok (.bipush 84, 2) := by decide +kernel
theorem dX4_saves_5 : decode cX4_saves 5 = .ok (.if_icmp .ge 21, 3) := by decide +kernel
theorem dX4_saves_8 : decode cX4_saves 8 = .ok (.aload_n 0, 1) := by decide +kernel
theorem dX4_saves_9 : decode cX4_saves 9 = .ok (.getfield 16, 3) := by decide +kernel
theorem dX4_saves_12 : decode cX4_saves 12 = .ok (.iload_n 1, 1) := by decide +kernel
theorem dX4_saves_13 : decode cX4_saves 13 = .ok (.aload_n 0, 1) := by decide +kernel
theorem dX4_saves_14 : decode cX4_saves 14 = .ok (.getfield 7, 3) := by decide +kernel
theorem dX4_saves_17 : decode cX4_saves 17 = .ok (.iload_n 1, 1) := by decide +kernel
theorem dX4_saves_18 : decode cX4_saves 18 = .ok (.iaload, 1) := by decide +kernel
theorem dX4_saves_19 : decode cX4_saves 19 = .ok (.iastore, 1) := by decide +kernel
theorem dX4_saves_20 : decode cX4_saves 20 = .ok (.iinc 1 1, 3) := by decide +kernel
theorem dX4_saves_23 : decode cX4_saves 23 = .ok (.goto (-21), 3) := by decide +kernel
theorem dX4_saves_26 : decode cX4_saves 26 = .ok (.return_, 1) := by decide +kernel
theorem dX4_putsBack_0 : decode cX4_putsBack 0 = .ok (.iconst 0, 1) := by decide +kernel
theorem dX4_putsBack_1 : decode cX4_putsBack 1 = .ok (.istore_n 1, 1) := by decide +kernel
theorem dX4_putsBack_2 : decode cX4_putsBack 2 = .ok (.iload_n 1, 1) := by decide +kernel
theorem dX4_putsBack_3 : decode cX4_putsBack 3 = .ok (.bipush 84, 2) := by decide +kernel
theorem dX4_putsBack_5 : decode cX4_putsBack 5 = .ok (.if_icmp .ge 21, 3) := by decide +kernel
theorem dX4_putsBack_8 : decode cX4_putsBack 8 = .ok (.aload_n 0, 1) := by decide +kernel
theorem dX4_putsBack_9 : decode cX4_putsBack 9 = .ok (.getfield 7, 3) := by decide +kernel
theorem dX4_putsBack_12 : decode cX4_putsBack 12 = .ok (.iload_n 1, 1) := by decide +kernel
theorem dX4_putsBack_13 : decode cX4_putsBack 13 = .ok (.aload_n 0, 1) := by decide +kernel
theorem dX4_putsBack_14 : decode cX4_putsBack 14 = .ok (.getfield 16, 3) := by decide +kernel
theorem dX4_putsBack_17 : decode cX4_putsBack 17 = .ok (.iload_n 1, 1) := by decide +kernel
theorem dX4_putsBack_18 : decode cX4_putsBack 18 = .ok (.iaload, 1) := by decide +kernel
theorem dX4_putsBack_19 : decode cX4_putsBack 19 = .ok (.iastore, 1) := by decide +kernel
theorem dX4_putsBack_20 : decode cX4_putsBack 20 = .ok (.iinc 1 1, 3) := by decide +kernel
theorem dX4_putsBack_23 : decode cX4_putsBack 23 = .ok (.goto (-21), 3) := by decide +kernel
theorem dX4_putsBack_26 : decode cX4_putsBack 26 = .ok (.return_, 1) := by decide +kernel
theorem dX4_laysAside_0 : decode cX4_laysAside 0 = .ok (.iconst 0, 1) := by decide +kernel
theorem dX4_laysAside_1 : decode cX4_laysAside 1 = .ok (.istore_n 1, 1) := by decide +kernel
theorem dX4_laysAside_2 : decode cX4_laysAside 2 = .ok (.iload_n 1, 1) := by decide +kernel
theorem dX4_laysAside_3 : decode cX4_laysAside 3 = .ok (.bipush 84, 2) := by decide +kernel
theorem dX4_laysAside_5 : decode cX4_laysAside 5 = .ok (.if_icmp .ge 21, 3) := by decide +kernel
theorem dX4_laysAside_8 : decode cX4_laysAside 8 = .ok (.aload_n 0, 1) := by decide +kernel
theorem dX4_laysAside_9 : decode cX4_laysAside 9 = .ok (.getfield 19, 3) := by decide +kernel
theorem dX4_laysAside_12 : decode cX4_laysAside 12 = .ok (.iload_n 1, 1) := by decide +kernel
theorem dX4_laysAside_13 : decode cX4_laysAside 13 = .ok (.aload_n 0, 1) := by decide +kernel
theorem dX4_laysAside_14 : decode cX4_laysAside 14 = .ok (.getfield 7, 3) := by decide +kernel
theorem dX4_laysAside_17 : decode cX4_laysAside 17 = .ok (.iload_n 1, 1) := by decide +kernel
theorem dX4_laysAside_18 : decode cX4_laysAside 18 = .ok (.iaload, 1) := by decide +kernel
theorem dX4_laysAside_19 : decode cX4_laysAside 19 = .ok (.iastore, 1) := by decide +kernel
theorem dX4_laysAside_20 : decode cX4_laysAside 20 = .ok (.iinc 1 1, 3) := by decide +kernel
theorem dX4_laysAside_23 : decode cX4_laysAside 23 = .ok (.goto (-21), 3) := by decide +kernel
theorem dX4_laysAside_26 : decode cX4_laysAside 26 = .ok (.return_, 1) := by decide +kernel
theorem dX4_takesBack_0 : decode cX4_takesBack 0 = .ok (.iconst 0, 1) := by decide +kernel
theorem dX4_takesBack_1 : decode cX4_takesBack 1 = .ok (.istore_n 2, 1) := by decide +kernel
theorem dX4_takesBack_2 : decode cX4_takesBack 2 = .ok (.iload_n 2, 1) := by decide +kernel
theorem dX4_takesBack_3 : decode cX4_takesBack 3 = .ok (.bipush 84, 2) := by decide +kernel
theorem dX4_takesBack_5 : decode cX4_takesBack 5 = .ok (.if_icmp .ge 21, 3) := by decide +kernel
theorem dX4_takesBack_8 : decode cX4_takesBack 8 = .ok (.aload_n 0, 1) := by decide +kernel
theorem dX4_takesBack_9 : decode cX4_takesBack 9 = .ok (.getfield 7, 3) := by decide +kernel
theorem dX4_takesBack_12 : decode cX4_takesBack 12 = .ok (.iload_n 2, 1) := by decide +kernel
theorem dX4_takesBack_13 : decode cX4_takesBack 13 = .ok (.aload_n 0, 1) := by decide +kernel
theorem dX4_takesBack_14 : decode cX4_takesBack 14 = .ok (.getfield 19, 3) := by decide +kernel
theorem dX4_takesBack_17 : decode cX4_takesBack 17 = .ok (.iload_n 2, 1) := by decide +kernel
theorem dX4_takesBack_18 : decode cX4_takesBack 18 = .ok (.iaload, 1) := by decide +kernel
theorem dX4_takesBack_19 : decode cX4_takesBack 19 = .ok (.iastore, 1) := by decide +kernel
theorem dX4_takesBack_20 : decode cX4_takesBack 20 = .ok (.iinc 2 1, 3) := by decide +kernel
theorem dX4_takesBack_23 : decode cX4_takesBack 23 = .ok (.goto (-21), 3) := by decide +kernel
theorem dX4_takesBack_26 : decode cX4_takesBack 26 = .ok (.iload_n 1, 1) := by decide +kernel
theorem dX4_takesBack_27 : decode cX4_takesBack 27 = .ok (.ireturn, 1) := by decide +kernel
theorem dX4_becomes_0 : decode cX4_becomes 0 = .ok (.aload_n 0, 1) := by decide +kernel
theorem dX4_becomes_1 : decode cX4_becomes 1 = .ok (.getfield 7, 3) := by decide +kernel
theorem dX4_becomes_4 : decode cX4_becomes 4 = .ok (.iload_n 1, 1) := by decide +kernel
theorem dX4_becomes_5 : decode cX4_becomes 5 = .ok (.iaload, 1) := by decide +kernel
theorem dX4_becomes_6 : decode cX4_becomes 6 = .ok (.istore_n 3, 1) := by decide +kernel
theorem dX4_becomes_7 : decode cX4_becomes 7 = .ok (.aload_n 0, 1) := by decide +kernel
theorem dX4_becomes_8 : decode cX4_becomes 8 = .ok (.getfield 7, 3) := by decide +kernel
theorem dX4_becomes_11 : decode cX4_becomes 11 = .ok (.iload_n 1, 1) := by decide +kernel
theorem dX4_becomes_12 : decode cX4_becomes 12 = .ok (.iload_n 2, 1) := by decide +kernel
theorem dX4_becomes_13 : decode cX4_becomes 13 = .ok (.iastore, 1) := by decide +kernel
theorem dX4_becomes_14 : decode cX4_becomes 14 = .ok (.iload_n 3, 1) := by decide +kernel
theorem dX4_becomes_15 : decode cX4_becomes 15 = .ok (.ireturn, 1) := by decide +kernel
theorem dX4_isPlace_0 : decode cX4_isPlace 0 = .ok (.iload_n 0, 1) := by decide +kernel
theorem dX4_isPlace_1 : decode cX4_isPlace 1 = .ok (.i2l, 1) := by decide +kernel
theorem dX4_isPlace_2 : decode cX4_isPlace 2 = .ok (.lconst 0, 1) := by decide +kernel
theorem dX4_isPlace_3 : decode cX4_isPlace 3 = .ok (.ldc2_w 45, 3) := by decide +kernel
theorem dX4_isPlace_6 : decode cX4_isPlace 6 = .ok (.invokestatic 47, 3) := by decide +kernel
theorem dX4_isPlace_9 : decode cX4_isPlace 9 = .ok (.ireturn, 1) := by decide +kernel
theorem dX4_isPerson_0 : decode cX4_isPerson 0 = .ok (.iload_n 1, 1) := by decide +kernel
theorem dX4_isPerson_1 : decode cX4_isPerson 1 = .ok (.i2l, 1) := by decide +kernel
theorem dX4_isPerson_2 : decode cX4_isPerson 2 = .ok (.lconst 0, 1) := by decide +kernel
theorem dX4_isPerson_3 : decode cX4_isPerson 3 = .ok (.aload_n 0, 1) := by decide +kernel
theorem dX4_isPerson_4 : decode cX4_isPerson 4 = .ok (.getfield 7, 3) := by decide +kernel
theorem dX4_isPerson_7 : decode cX4_isPerson 7 = .ok (.iconst 0, 1) := by decide +kernel
theorem dX4_isPerson_8 : decode cX4_isPerson 8 = .ok (.iaload, 1) := by decide +kernel
theorem dX4_isPerson_9 : decode cX4_isPerson 9 = .ok (.iconst 1, 1) := by decide +kernel
theorem dX4_isPerson_10 : decode cX4_isPerson 10 = .ok (.isub, 1) := by decide +kernel
theorem dX4_isPerson_11 : decode cX4_isPerson 11 = .ok (.i2l, 1) := by decide +kernel
theorem dX4_isPerson_12 : decode cX4_isPerson 12 = .ok (.invokestatic 47, 3) := by decide +kernel
theorem dX4_isPerson_15 : decode cX4_isPerson 15 = .ok (.ireturn, 1) := by decide +kernel
theorem dX4_areTwo_0 : decode cX4_areTwo 0 = .ok (.aload_n 0, 1) := by decide +kernel
theorem dX4_areTwo_1 : decode cX4_areTwo 1 = .ok (.iload_n 1, 1) := by decide +kernel
theorem dX4_areTwo_2 : decode cX4_areTwo 2 = .ok (.invokevirtual 51, 3) := by decide +kernel
theorem dX4_areTwo_5 : decode cX4_areTwo 5 = .ok (.ifCond .eq 20, 3) := by decide +kernel
theorem dX4_areTwo_8 : decode cX4_areTwo 8 = .ok (.aload_n 0, 1) := by decide +kernel
theorem dX4_areTwo_9 : decode cX4_areTwo 9 = .ok (.iload_n 2, 1) := by decide +kernel
theorem dX4_areTwo_10 : decode cX4_areTwo 10 = .ok (.invokevirtual 51, 3) := by decide +kernel
theorem dX4_areTwo_13 : decode cX4_areTwo 13 = .ok (.ifCond .eq 12, 3) := by decide +kernel
theorem dX4_areTwo_16 : decode cX4_areTwo 16 = .ok (.iload_n 1, 1) := by decide +kernel
theorem dX4_areTwo_17 : decode cX4_areTwo 17 = .ok (.iload_n 2, 1) := by decide +kernel
theorem dX4_areTwo_18 : decode cX4_areTwo 18 = .ok (.if_icmp .eq 7, 3) := by decide +kernel
theorem dX4_areTwo_21 : decode cX4_areTwo 21 = .ok (.iconst 1, 1) := by decide +kernel
theorem dX4_areTwo_22 : decode cX4_areTwo 22 = .ok (.goto 4, 3) := by decide +kernel
theorem dX4_areTwo_25 : decode cX4_areTwo 25 = .ok (.iconst 0, 1) := by decide +kernel
theorem dX4_areTwo_26 : decode cX4_areTwo 26 = .ok (.ireturn, 1) := by decide +kernel
theorem dX4_isKind_0 : decode cX4_isKind 0 = .ok (.iload_n 0, 1) := by decide +kernel
theorem dX4_isKind_1 : decode cX4_isKind 1 = .ok (.i2l, 1) := by decide +kernel
theorem dX4_isKind_2 : decode cX4_isKind 2 = .ok (.lconst 0, 1) := by decide +kernel
theorem dX4_isKind_3 : decode cX4_isKind 3 = .ok (.ldc2_w 55, 3) := by decide +kernel
theorem dX4_isKind_6 : decode cX4_isKind 6 = .ok (.invokestatic 47, 3) := by decide +kernel
theorem dX4_isKind_9 : decode cX4_isKind 9 = .ok (.ireturn, 1) := by decide +kernel
theorem dX4_isDeed_0 : decode cX4_isDeed 0 = .ok (.iload_n 0, 1) := by decide +kernel
theorem dX4_isDeed_1 : decode cX4_isDeed 1 = .ok (.i2l, 1) := by decide +kernel
theorem dX4_isDeed_2 : decode cX4_isDeed 2 = .ok (.lconst 0, 1) := by decide +kernel
theorem dX4_isDeed_3 : decode cX4_isDeed 3 = .ok (.ldc2_w 55, 3) := by decide +kernel
theorem dX4_isDeed_6 : decode cX4_isDeed 6 = .ok (.invokestatic 47, 3) := by decide +kernel
theorem dX4_isDeed_9 : decode cX4_isDeed 9 = .ok (.ireturn, 1) := by decide +kernel
theorem dX4_spot_0 : decode cX4_spot 0 = .ok (.iconst 4, 1) := by decide +kernel
theorem dX4_spot_1 : decode cX4_spot 1 = .ok (.bipush 10, 2) := by decide +kernel
theorem dX4_spot_3 : decode cX4_spot 3 = .ok (.iload_n 0, 1) := by decide +kernel
theorem dX4_spot_4 : decode cX4_spot 4 = .ok (.imul, 1) := by decide +kernel
theorem dX4_spot_5 : decode cX4_spot 5 = .ok (.iadd, 1) := by decide +kernel
theorem dX4_spot_6 : decode cX4_spot 6 = .ok (.iload_n 1, 1) := by decide +kernel
theorem dX4_spot_7 : decode cX4_spot 7 = .ok (.iadd, 1) := by decide +kernel
theorem dX4_spot_8 : decode cX4_spot 8 = .ok (.ireturn, 1) := by decide +kernel
theorem dX4_its_0 : decode cX4_its 0 = .ok (.aload_n 0, 1) := by decide +kernel
theorem dX4_its_1 : decode cX4_its 1 = .ok (.getfield 7, 3) := by decide +kernel
theorem dX4_its_4 : decode cX4_its 4 = .ok (.iload_n 1, 1) := by decide +kernel
theorem dX4_its_5 : decode cX4_its 5 = .ok (.iload_n 2, 1) := by decide +kernel
theorem dX4_its_6 : decode cX4_its 6 = .ok (.invokestatic 57, 3) := by decide +kernel
theorem dX4_its_9 : decode cX4_its 9 = .ok (.iaload, 1) := by decide +kernel
theorem dX4_its_10 : decode cX4_its 10 = .ok (.ireturn, 1) := by decide +kernel
theorem dX4_law_0 : decode cX4_law 0 = .ok (.iload_n 1, 1) := by decide +kernel
theorem dX4_law_1 : decode cX4_law 1 = .ok (.ifCond .ne 15, 3) := by decide +kernel
theorem dX4_law_4 : decode cX4_law 4 = .ok (.iload_n 2, 1) := by decide +kernel
theorem dX4_law_5 : decode cX4_law 5 = .ok (.i2l, 1) := by decide +kernel
theorem dX4_law_6 : decode cX4_law 6 = .ok (.lconst 0, 1) := by decide +kernel
theorem dX4_law_7 : decode cX4_law 7 = .ok (.ldc2_w 61, 3) := by decide +kernel
theorem dX4_law_10 : decode cX4_law 10 = .ok (.invokestatic 47, 3) := by decide +kernel
theorem dX4_law_13 : decode cX4_law 13 = .ok (.goto 25, 3) := by decide +kernel
theorem dX4_law_16 : decode cX4_law 16 = .ok (.iload_n 1, 1) := by decide +kernel
theorem dX4_law_17 : decode cX4_law 17 = .ok (.iconst 1, 1) := by decide +kernel
theorem dX4_law_18 : decode cX4_law 18 = .ok (.if_icmp .ne 19, 3) := by decide +kernel
theorem dX4_law_21 : decode cX4_law 21 = .ok (.iload_n 2, 1) := by decide +kernel
theorem dX4_law_22 : decode cX4_law 22 = .ok (.i2l, 1) := by decide +kernel
theorem dX4_law_23 : decode cX4_law 23 = .ok (.lconst 1, 1) := by decide +kernel
theorem dX4_law_24 : decode cX4_law 24 = .ok (.ldc2_w 63, 3) := by decide +kernel
theorem dX4_law_27 : decode cX4_law 27 = .ok (.invokestatic 47, 3) := by decide +kernel
theorem dX4_law_30 : decode cX4_law 30 = .ok (.ifCond .eq 7, 3) := by decide +kernel
theorem dX4_law_33 : decode cX4_law 33 = .ok (.iconst 1, 1) := by decide +kernel
theorem dX4_law_34 : decode cX4_law 34 = .ok (.goto 4, 3) := by decide +kernel
theorem dX4_law_37 : decode cX4_law 37 = .ok (.iconst 0, 1) := by decide +kernel
theorem dX4_law_38 : decode cX4_law 38 = .ok (.istore_n 3, 1) := by decide +kernel
theorem dX4_law_39 : decode cX4_law 39 = .ok (.iload_n 3, 1) := by decide +kernel
theorem dX4_law_40 : decode cX4_law 40 = .ok (.ifCond .eq 20, 3) := by decide +kernel
theorem dX4_law_43 : decode cX4_law 43 = .ok (.aload_n 0, 1) := by decide +kernel
theorem dX4_law_44 : decode cX4_law 44 = .ok (.iload_n 1, 1) := by decide +kernel
theorem dX4_law_45 : decode cX4_law 45 = .ok (.ifCond .ne 7, 3) := by decide +kernel
theorem dX4_law_48 : decode cX4_law 48 = .ok (.iconst 2, 1) := by decide +kernel
theorem dX4_law_49 : decode cX4_law 49 = .ok (.goto 4, 3) := by decide +kernel
theorem dX4_law_52 : decode cX4_law 52 = .ok (.iconst 3, 1) := by decide +kernel
theorem dX4_law_53 : decode cX4_law 53 = .ok (.iload_n 2, 1) := by decide +kernel
theorem dX4_law_54 : decode cX4_law 54 = .ok (.invokevirtual 65, 3) := by decide +kernel
theorem dX4_law_57 : decode cX4_law 57 = .ok (.goto 9, 3) := by decide +kernel
theorem dX4_law_60 : decode cX4_law 60 = .ok (.aload_n 0, 1) := by decide +kernel
theorem dX4_law_61 : decode cX4_law 61 = .ok (.ldc 44, 2) := by decide +kernel
theorem dX4_law_63 : decode cX4_law 63 = .ok (.invokevirtual 68, 3) := by decide +kernel
theorem dX4_law_66 : decode cX4_law 66 = .ok (.ireturn, 1) := by decide +kernel
theorem dX4_adds_0 : decode cX4_adds 0 = .ok (.aload_n 0, 1) := by decide +kernel
theorem dX4_adds_1 : decode cX4_adds 1 = .ok (.getfield 7, 3) := by decide +kernel
theorem dX4_adds_4 : decode cX4_adds 4 = .ok (.iconst 0, 1) := by decide +kernel
theorem dX4_adds_5 : decode cX4_adds 5 = .ok (.iaload, 1) := by decide +kernel
theorem dX4_adds_6 : decode cX4_adds 6 = .ok (.istore_n 3, 1) := by decide +kernel
theorem dX4_adds_7 : decode cX4_adds 7 = .ok (.iconst 0, 1) := by decide +kernel
theorem dX4_adds_8 : decode cX4_adds 8 = .ok (.istore 4, 2) := by decide +kernel
theorem dX4_adds_10 : decode cX4_adds 10 = .ok (.iload 4, 2) := by decide +kernel
theorem dX4_adds_12 : decode cX4_adds 12 = .ok (.bipush 10, 2) := by decide +kernel
theorem dX4_adds_14 : decode cX4_adds 14 = .ok (.if_icmp .ge 21, 3) := by decide +kernel
theorem dX4_adds_17 : decode cX4_adds 17 = .ok (.aload_n 0, 1) := by decide +kernel
theorem dX4_adds_18 : decode cX4_adds 18 = .ok (.getfield 7, 3) := by decide +kernel
theorem dX4_adds_21 : decode cX4_adds 21 = .ok (.iload_n 3, 1) := by decide +kernel
theorem dX4_adds_22 : decode cX4_adds 22 = .ok (.iload 4, 2) := by decide +kernel
theorem dX4_adds_24 : decode cX4_adds 24 = .ok (.invokestatic 57, 3) := by decide +kernel
theorem dX4_adds_27 : decode cX4_adds 27 = .ok (.iconst 0, 1) := by decide +kernel
theorem dX4_adds_28 : decode cX4_adds 28 = .ok (.iastore, 1) := by decide +kernel
theorem dX4_adds_29 : decode cX4_adds 29 = .ok (.iinc 4 1, 3) := by decide +kernel
theorem dX4_adds_32 : decode cX4_adds 32 = .ok (.goto (-22), 3) := by decide +kernel
theorem dX4_adds_35 : decode cX4_adds 35 = .ok (.aload_n 0, 1) := by decide +kernel
theorem dX4_adds_36 : decode cX4_adds 36 = .ok (.getfield 7, 3) := by decide +kernel
theorem dX4_adds_39 : decode cX4_adds 39 = .ok (.iload_n 3, 1) := by decide +kernel
theorem dX4_adds_40 : decode cX4_adds 40 = .ok (.iconst 0, 1) := by decide +kernel
theorem dX4_adds_41 : decode cX4_adds 41 = .ok (.invokestatic 57, 3) := by decide +kernel
theorem dX4_adds_44 : decode cX4_adds 44 = .ok (.iload_n 1, 1) := by decide +kernel
theorem dX4_adds_45 : decode cX4_adds 45 = .ok (.iastore, 1) := by decide +kernel
theorem dX4_adds_46 : decode cX4_adds 46 = .ok (.aload_n 0, 1) := by decide +kernel
theorem dX4_adds_47 : decode cX4_adds 47 = .ok (.getfield 7, 3) := by decide +kernel
theorem dX4_adds_50 : decode cX4_adds 50 = .ok (.iload_n 3, 1) := by decide +kernel
theorem dX4_adds_51 : decode cX4_adds 51 = .ok (.iconst 1, 1) := by decide +kernel
theorem dX4_adds_52 : decode cX4_adds 52 = .ok (.invokestatic 57, 3) := by decide +kernel
theorem dX4_adds_55 : decode cX4_adds 55 = .ok (.iload_n 2, 1) := by decide +kernel
theorem dX4_adds_56 : decode cX4_adds 56 = .ok (.iastore, 1) := by decide +kernel
theorem dX4_adds_57 : decode cX4_adds 57 = .ok (.aload_n 0, 1) := by decide +kernel
theorem dX4_adds_58 : decode cX4_adds 58 = .ok (.getfield 7, 3) := by decide +kernel
theorem dX4_adds_61 : decode cX4_adds 61 = .ok (.iload_n 3, 1) := by decide +kernel
theorem dX4_adds_62 : decode cX4_adds 62 = .ok (.iconst 2, 1) := by decide +kernel
theorem dX4_adds_63 : decode cX4_adds 63 = .ok (.invokestatic 57, 3) := by decide +kernel
theorem dX4_adds_66 : decode cX4_adds 66 = .ok (.iconst 5, 1) := by decide +kernel
theorem dX4_adds_67 : decode cX4_adds 67 = .ok (.iastore, 1) := by decide +kernel
theorem dX4_adds_68 : decode cX4_adds 68 = .ok (.aload_n 0, 1) := by decide +kernel
theorem dX4_adds_69 : decode cX4_adds 69 = .ok (.getfield 7, 3) := by decide +kernel
theorem dX4_adds_72 : decode cX4_adds 72 = .ok (.iconst 0, 1) := by decide +kernel
theorem dX4_adds_73 : decode cX4_adds 73 = .ok (.dup2, 1) := by decide +kernel
theorem dX4_adds_74 : decode cX4_adds 74 = .ok (.iaload, 1) := by decide +kernel
theorem dX4_adds_75 : decode cX4_adds 75 = .ok (.iconst 1, 1) := by decide +kernel
theorem dX4_adds_76 : decode cX4_adds 76 = .ok (.iadd, 1) := by decide +kernel
theorem dX4_adds_77 : decode cX4_adds 77 = .ok (.iastore, 1) := by decide +kernel
theorem dX4_adds_78 : decode cX4_adds 78 = .ok (.iload_n 3, 1) := by decide +kernel
theorem dX4_adds_79 : decode cX4_adds 79 = .ok (.ireturn, 1) := by decide +kernel
theorem dX4_person_0 : decode cX4_person 0 = .ok (.iload_n 1, 1) := by decide +kernel
theorem dX4_person_1 : decode cX4_person 1 = .ok (.invokestatic 72, 3) := by decide +kernel
theorem dX4_person_4 : decode cX4_person 4 = .ok (.ifCond .eq 10, 3) := by decide +kernel
theorem dX4_person_7 : decode cX4_person 7 = .ok (.iload_n 2, 1) := by decide +kernel
theorem dX4_person_8 : decode cX4_person 8 = .ok (.invokestatic 75, 3) := by decide +kernel
theorem dX4_person_11 : decode cX4_person 11 = .ok (.ifCond .ne 10, 3) := by decide +kernel
theorem dX4_person_14 : decode cX4_person 14 = .ok (.aload_n 0, 1) := by decide +kernel
theorem dX4_person_15 : decode cX4_person 15 = .ok (.ldc 44, 2) := by decide +kernel
theorem dX4_person_17 : decode cX4_person 17 = .ok (.invokevirtual 68, 3) := by decide +kernel
theorem dX4_person_20 : decode cX4_person 20 = .ok (.ireturn, 1) := by decide +kernel
theorem dX4_person_21 : decode cX4_person 21 = .ok (.aload_n 0, 1) := by decide +kernel
theorem dX4_person_22 : decode cX4_person 22 = .ok (.getfield 7, 3) := by decide +kernel
theorem dX4_person_25 : decode cX4_person 25 = .ok (.iconst 0, 1) := by decide +kernel
theorem dX4_person_26 : decode cX4_person 26 = .ok (.iaload, 1) := by decide +kernel
theorem dX4_person_27 : decode cX4_person 27 = .ok (.bipush 8, 2) := by decide +kernel
theorem dX4_person_29 : decode cX4_person 29 = .ok (.if_icmp .ne 12, 3) := by decide +kernel
theorem dX4_person_32 : decode cX4_person 32 = .ok (.aload_n 0, 1) := by decide +kernel
theorem dX4_person_33 : decode cX4_person 33 = .ok (.ldc 78, 2) := by decide +kernel
theorem dX4_person_35 : decode cX4_person 35 = .ok (.invokevirtual 68, 3) := by decide +kernel
theorem dX4_person_38 : decode cX4_person 38 = .ok (.goto 9, 3) := by decide +kernel
theorem dX4_person_41 : decode cX4_person 41 = .ok (.aload_n 0, 1) := by decide +kernel
theorem dX4_person_42 : decode cX4_person 42 = .ok (.iload_n 1, 1) := by decide +kernel
theorem dX4_person_43 : decode cX4_person 43 = .ok (.iload_n 2, 1) := by decide +kernel
theorem dX4_person_44 : decode cX4_person 44 = .ok (.invokevirtual 79, 3) := by decide +kernel
theorem dX4_person_47 : decode cX4_person 47 = .ok (.ireturn, 1) := by decide +kernel
theorem dX4_givesOff_0 : decode cX4_givesOff 0 = .ok (.aload_n 0, 1) := by decide +kernel
theorem dX4_givesOff_1 : decode cX4_givesOff 1 = .ok (.iload_n 1, 1) := by decide +kernel
theorem dX4_givesOff_2 : decode cX4_givesOff 2 = .ok (.iconst 4, 1) := by decide +kernel
theorem dX4_givesOff_3 : decode cX4_givesOff 3 = .ok (.iload_n 2, 1) := by decide +kernel
theorem dX4_givesOff_4 : decode cX4_givesOff 4 = .ok (.iadd, 1) := by decide +kernel
theorem dX4_givesOff_5 : decode cX4_givesOff 5 = .ok (.invokevirtual 82, 3) := by decide +kernel
theorem dX4_givesOff_8 : decode cX4_givesOff 8 = .ok (.istore_n 3, 1) := by decide +kernel
theorem dX4_givesOff_9 : decode cX4_givesOff 9 = .ok (.iload_n 3, 1) := by decide +kernel
theorem dX4_givesOff_10 : decode cX4_givesOff 10 = .ok (.bipush 10, 2) := by decide +kernel
theorem dX4_givesOff_12 : decode cX4_givesOff 12 = .ok (.if_icmp .ge 7, 3) := by decide +kernel
theorem dX4_givesOff_15 : decode cX4_givesOff 15 = .ok (.iconst 0, 1) := by decide +kernel
theorem dX4_givesOff_16 : decode cX4_givesOff 16 = .ok (.goto 7, 3) := by decide +kernel
theorem dX4_givesOff_19 : decode cX4_givesOff 19 = .ok (.iload_n 3, 1) := by decide +kernel
theorem dX4_givesOff_20 : decode cX4_givesOff 20 = .ok (.bipush 10, 2) := by decide +kernel
theorem dX4_givesOff_22 : decode cX4_givesOff 22 = .ok (.isub, 1) := by decide +kernel
theorem dX4_givesOff_23 : decode cX4_givesOff 23 = .ok (.istore 4, 2) := by decide +kernel
theorem dX4_givesOff_25 : decode cX4_givesOff 25 = .ok (.iload_n 3, 1) := by decide +kernel
theorem dX4_givesOff_26 : decode cX4_givesOff 26 = .ok (.iload_n 3, 1) := by decide +kernel
theorem dX4_givesOff_27 : decode cX4_givesOff 27 = .ok (.iconst 2, 1) := by decide +kernel
theorem dX4_givesOff_28 : decode cX4_givesOff 28 = .ok (.idiv, 1) := by decide +kernel
theorem dX4_givesOff_29 : decode cX4_givesOff 29 = .ok (.iadd, 1) := by decide +kernel
theorem dX4_givesOff_30 : decode cX4_givesOff 30 = .ok (.istore 5, 2) := by decide +kernel
theorem dX4_givesOff_32 : decode cX4_givesOff 32 = .ok (.aload_n 0, 1) := by decide +kernel
theorem dX4_givesOff_33 : decode cX4_givesOff 33 = .ok (.iload_n 1, 1) := by decide +kernel
theorem dX4_givesOff_34 : decode cX4_givesOff 34 = .ok (.iconst 0, 1) := by decide +kernel
theorem dX4_givesOff_35 : decode cX4_givesOff 35 = .ok (.invokevirtual 82, 3) := by decide +kernel
theorem dX4_givesOff_38 : decode cX4_givesOff 38 = .ok (.tableswitch 86 1 5 #[34, 44, 47, 50, 71], 34) := by decide +kernel
theorem dX4_givesOff_72 : decode cX4_givesOff 72 = .ok (.iload_n 2, 1) := by decide +kernel
theorem dX4_givesOff_73 : decode cX4_givesOff 73 = .ok (.ifCond .ne 7, 3) := by decide +kernel
theorem dX4_givesOff_76 : decode cX4_givesOff 76 = .ok (.iconst 0, 1) := by decide +kernel
theorem dX4_givesOff_77 : decode cX4_givesOff 77 = .ok (.goto 4, 3) := by decide +kernel
theorem dX4_givesOff_80 : decode cX4_givesOff 80 = .ok (.iload_n 3, 1) := by decide +kernel
theorem dX4_givesOff_81 : decode cX4_givesOff 81 = .ok (.ireturn, 1) := by decide +kernel
theorem dX4_givesOff_82 : decode cX4_givesOff 82 = .ok (.iload 4, 2) := by decide +kernel
theorem dX4_givesOff_84 : decode cX4_givesOff 84 = .ok (.ireturn, 1) := by decide +kernel
theorem dX4_givesOff_85 : decode cX4_givesOff 85 = .ok (.iload 5, 2) := by decide +kernel
theorem dX4_givesOff_87 : decode cX4_givesOff 87 = .ok (.ireturn, 1) := by decide +kernel
theorem dX4_givesOff_88 : decode cX4_givesOff 88 = .ok (.aload_n 0, 1) := by decide +kernel
theorem dX4_givesOff_89 : decode cX4_givesOff 89 = .ok (.getfield 7, 3) := by decide +kernel
theorem dX4_givesOff_92 : decode cX4_givesOff 92 = .ok (.iconst 1, 1) := by decide +kernel
theorem dX4_givesOff_93 : decode cX4_givesOff 93 = .ok (.iaload, 1) := by decide +kernel
theorem dX4_givesOff_94 : decode cX4_givesOff 94 = .ok (.iconst 2, 1) := by decide +kernel
theorem dX4_givesOff_95 : decode cX4_givesOff 95 = .ok (.irem, 1) := by decide +kernel
theorem dX4_givesOff_96 : decode cX4_givesOff 96 = .ok (.ifCond .ne 10, 3) := by decide +kernel
theorem dX4_givesOff_99 : decode cX4_givesOff 99 = .ok (.iload 4, 2) := by decide +kernel
theorem dX4_givesOff_101 : decode cX4_givesOff 101 = .ok (.iconst 2, 1) := by decide +kernel
theorem dX4_givesOff_102 : decode cX4_givesOff 102 = .ok (.idiv, 1) := by decide +kernel
theorem dX4_givesOff_103 : decode cX4_givesOff 103 = .ok (.goto 5, 3) := by decide +kernel
theorem dX4_givesOff_106 : decode cX4_givesOff 106 = .ok (.iload 4, 2) := by decide +kernel
theorem dX4_givesOff_108 : decode cX4_givesOff 108 = .ok (.ireturn, 1) := by decide +kernel
theorem dX4_givesOff_109 : decode cX4_givesOff 109 = .ok (.iload 5, 2) := by decide +kernel
theorem dX4_givesOff_111 : decode cX4_givesOff 111 = .ok (.iconst 5, 1) := by decide +kernel
theorem dX4_givesOff_112 : decode cX4_givesOff 112 = .ok (.if_icmp .ge 7, 3) := by decide +kernel
theorem dX4_givesOff_115 : decode cX4_givesOff 115 = .ok (.iconst 0, 1) := by decide +kernel
theorem dX4_givesOff_116 : decode cX4_givesOff 116 = .ok (.goto 7, 3) := by decide +kernel
theorem dX4_givesOff_119 : decode cX4_givesOff 119 = .ok (.iload 5, 2) := by decide +kernel
theorem dX4_givesOff_121 : decode cX4_givesOff 121 = .ok (.iconst 5, 1) := by decide +kernel
theorem dX4_givesOff_122 : decode cX4_givesOff 122 = .ok (.isub, 1) := by decide +kernel
theorem dX4_givesOff_123 : decode cX4_givesOff 123 = .ok (.ireturn, 1) := by decide +kernel
theorem dX4_givesOff_124 : decode cX4_givesOff 124 = .ok (.iload_n 3, 1) := by decide +kernel
theorem dX4_givesOff_125 : decode cX4_givesOff 125 = .ok (.ireturn, 1) := by decide +kernel
theorem dX4_scentsOf_0 : decode cX4_scentsOf 0 = .ok (.iconst 0, 1) := by decide +kernel
theorem dX4_scentsOf_1 : decode cX4_scentsOf 1 = .ok (.istore_n 2, 1) := by decide +kernel
theorem dX4_scentsOf_2 : decode cX4_scentsOf 2 = .ok (.iconst 0, 1) := by decide +kernel
theorem dX4_scentsOf_3 : decode cX4_scentsOf 3 = .ok (.istore_n 3, 1) := by decide +kernel
theorem dX4_scentsOf_4 : decode cX4_scentsOf 4 = .ok (.iload_n 3, 1) := by decide +kernel
theorem dX4_scentsOf_5 : decode cX4_scentsOf 5 = .ok (.bipush 6, 2) := by decide +kernel
theorem dX4_scentsOf_7 : decode cX4_scentsOf 7 = .ok (.if_icmp .ge 20, 3) := by decide +kernel
theorem dX4_scentsOf_10 : decode cX4_scentsOf 10 = .ok (.iload_n 2, 1) := by decide +kernel
theorem dX4_scentsOf_11 : decode cX4_scentsOf 11 = .ok (.aload_n 0, 1) := by decide +kernel
theorem dX4_scentsOf_12 : decode cX4_scentsOf 12 = .ok (.iload_n 1, 1) := by decide +kernel
theorem dX4_scentsOf_13 : decode cX4_scentsOf 13 = .ok (.iconst 4, 1) := by decide +kernel
theorem dX4_scentsOf_14 : decode cX4_scentsOf 14 = .ok (.iload_n 3, 1) := by decide +kernel
theorem dX4_scentsOf_15 : decode cX4_scentsOf 15 = .ok (.iadd, 1) := by decide +kernel
theorem dX4_scentsOf_16 : decode cX4_scentsOf 16 = .ok (.invokevirtual 82, 3) := by decide +kernel
theorem dX4_scentsOf_19 : decode cX4_scentsOf 19 = .ok (.iadd, 1) := by decide +kernel
theorem dX4_scentsOf_20 : decode cX4_scentsOf 20 = .ok (.istore_n 2, 1) := by decide +kernel
theorem dX4_scentsOf_21 : decode cX4_scentsOf 21 = .ok (.iinc 3 1, 3) := by decide +kernel
theorem dX4_scentsOf_24 : decode cX4_scentsOf 24 = .ok (.goto (-20), 3) := by decide +kernel
theorem dX4_scentsOf_27 : decode cX4_scentsOf 27 = .ok (.iload_n 2, 1) := by decide +kernel
theorem dX4_scentsOf_28 : decode cX4_scentsOf 28 = .ok (.ireturn, 1) := by decide +kernel
theorem dX4_givesOffAll_0 : decode cX4_givesOffAll 0 = .ok (.iconst 0, 1) := by decide +kernel
theorem dX4_givesOffAll_1 : decode cX4_givesOffAll 1 = .ok (.istore_n 2, 1) := by decide +kernel
theorem dX4_givesOffAll_2 : decode cX4_givesOffAll 2 = .ok (.iconst 0, 1) := by decide +kernel
theorem dX4_givesOffAll_3 : decode cX4_givesOffAll 3 = .ok (.istore_n 3, 1) := by decide +kernel
theorem dX4_givesOffAll_4 : decode cX4_givesOffAll 4 = .ok (.iload_n 3, 1) := by decide +kernel
theorem dX4_givesOffAll_5 : decode cX4_givesOffAll 5 = .ok (.bipush 6, 2) := by decide +kernel
theorem dX4_givesOffAll_7 : decode cX4_givesOffAll 7 = .ok (.if_icmp .ge 18, 3) := by decide +kernel
theorem dX4_givesOffAll_10 : decode cX4_givesOffAll 10 = .ok (.iload_n 2, 1) := by decide +kernel
theorem dX4_givesOffAll_11 : decode cX4_givesOffAll 11 = .ok (.aload_n 0, 1) := by decide +kernel
theorem dX4_givesOffAll_12 : decode cX4_givesOffAll 12 = .ok (.iload_n 1, 1) := by decide +kernel
theorem dX4_givesOffAll_13 : decode cX4_givesOffAll 13 = .ok (.iload_n 3, 1) := by decide +kernel
theorem dX4_givesOffAll_14 : decode cX4_givesOffAll 14 = .ok (.invokevirtual 85, 3) := by decide +kernel
theorem dX4_givesOffAll_17 : decode cX4_givesOffAll 17 = .ok (.iadd, 1) := by decide +kernel
theorem dX4_givesOffAll_18 : decode cX4_givesOffAll 18 = .ok (.istore_n 2, 1) := by decide +kernel
theorem dX4_givesOffAll_19 : decode cX4_givesOffAll 19 = .ok (.iinc 3 1, 3) := by decide +kernel
theorem dX4_givesOffAll_22 : decode cX4_givesOffAll 22 = .ok (.goto (-18), 3) := by decide +kernel
theorem dX4_givesOffAll_25 : decode cX4_givesOffAll 25 = .ok (.iload_n 2, 1) := by decide +kernel
theorem dX4_givesOffAll_26 : decode cX4_givesOffAll 26 = .ok (.ireturn, 1) := by decide +kernel
theorem dX4_of_0 : decode cX4_of 0 = .ok (.aload_n 0, 1) := by decide +kernel
theorem dX4_of_1 : decode cX4_of 1 = .ok (.iload_n 1, 1) := by decide +kernel
theorem dX4_of_2 : decode cX4_of 2 = .ok (.invokevirtual 51, 3) := by decide +kernel
theorem dX4_of_5 : decode cX4_of 5 = .ok (.ifCond .eq 15, 3) := by decide +kernel
theorem dX4_of_8 : decode cX4_of 8 = .ok (.iload_n 2, 1) := by decide +kernel
theorem dX4_of_9 : decode cX4_of 9 = .ok (.i2l, 1) := by decide +kernel
theorem dX4_of_10 : decode cX4_of 10 = .ok (.lconst 0, 1) := by decide +kernel
theorem dX4_of_11 : decode cX4_of 11 = .ok (.ldc2_w 55, 3) := by decide +kernel
theorem dX4_of_14 : decode cX4_of 14 = .ok (.invokestatic 47, 3) := by decide +kernel
theorem dX4_of_17 : decode cX4_of 17 = .ok (.ifCond .ne 10, 3) := by decide +kernel
theorem dX4_of_20 : decode cX4_of 20 = .ok (.aload_n 0, 1) := by decide +kernel
theorem dX4_of_21 : decode cX4_of 21 = .ok (.ldc 44, 2) := by decide +kernel
theorem dX4_of_23 : decode cX4_of 23 = .ok (.invokevirtual 68, 3) := by decide +kernel
theorem dX4_of_26 : decode cX4_of 26 = .ok (.ireturn, 1) := by decide +kernel
theorem dX4_of_27 : decode cX4_of 27 = .ok (.iload_n 2, 1) := by decide +kernel
theorem dX4_of_28 : decode cX4_of 28 = .ok (.iconst 4, 1) := by decide +kernel
theorem dX4_of_29 : decode cX4_of 29 = .ok (.if_icmp .ge 12, 3) := by decide +kernel
theorem dX4_of_32 : decode cX4_of 32 = .ok (.aload_n 0, 1) := by decide +kernel
theorem dX4_of_33 : decode cX4_of 33 = .ok (.iload_n 1, 1) := by decide +kernel
theorem dX4_of_34 : decode cX4_of 34 = .ok (.iload_n 2, 1) := by decide +kernel
theorem dX4_of_35 : decode cX4_of 35 = .ok (.invokevirtual 82, 3) := by decide +kernel
theorem dX4_of_38 : decode cX4_of 38 = .ok (.goto 21, 3) := by decide +kernel
theorem dX4_of_41 : decode cX4_of 41 = .ok (.iload_n 2, 1) := by decide +kernel
theorem dX4_of_42 : decode cX4_of 42 = .ok (.iconst 4, 1) := by decide +kernel
theorem dX4_of_43 : decode cX4_of 43 = .ok (.if_icmp .ne 11, 3) := by decide +kernel
theorem dX4_of_46 : decode cX4_of 46 = .ok (.aload_n 0, 1) := by decide +kernel
theorem dX4_of_47 : decode cX4_of 47 = .ok (.iload_n 1, 1) := by decide +kernel
theorem dX4_of_48 : decode cX4_of 48 = .ok (.invokevirtual 88, 3) := by decide +kernel
theorem dX4_of_51 : decode cX4_of 51 = .ok (.goto 8, 3) := by decide +kernel
theorem dX4_of_54 : decode cX4_of 54 = .ok (.aload_n 0, 1) := by decide +kernel
theorem dX4_of_55 : decode cX4_of 55 = .ok (.iload_n 1, 1) := by decide +kernel
theorem dX4_of_56 : decode cX4_of 56 = .ok (.invokevirtual 91, 3) := by decide +kernel
theorem dX4_of_59 : decode cX4_of 59 = .ok (.ireturn, 1) := by decide +kernel
theorem dX4_set_0 : decode cX4_set 0 = .ok (.iload_n 2, 1) := by decide +kernel
theorem dX4_set_1 : decode cX4_set 1 = .ok (.iconst 1, 1) := by decide +kernel
theorem dX4_set_2 : decode cX4_set 2 = .ok (.if_icmp .ne 10, 3) := by decide +kernel
theorem dX4_set_5 : decode cX4_set 5 = .ok (.iload_n 3, 1) := by decide +kernel
theorem dX4_set_6 : decode cX4_set 6 = .ok (.invokestatic 75, 3) := by decide +kernel
theorem dX4_set_9 : decode cX4_set 9 = .ok (.goto 40, 3) := by decide +kernel
theorem dX4_set_12 : decode cX4_set 12 = .ok (.iload_n 2, 1) := by decide +kernel
theorem dX4_set_13 : decode cX4_set 13 = .ok (.iconst 2, 1) := by decide +kernel
theorem dX4_set_14 : decode cX4_set 14 = .ok (.if_icmp .ne 15, 3) := by decide +kernel
theorem dX4_set_17 : decode cX4_set 17 = .ok (.iload_n 3, 1) := by decide +kernel
theorem dX4_set_18 : decode cX4_set 18 = .ok (.i2l, 1) := by decide +kernel
theorem dX4_set_19 : decode cX4_set 19 = .ok (.lconst 0, 1) := by decide +kernel
theorem dX4_set_20 : decode cX4_set 20 = .ok (.ldc2_w 94, 3) := by decide +kernel
theorem dX4_set_23 : decode cX4_set 23 = .ok (.invokestatic 47, 3) := by decide +kernel
theorem dX4_set_26 : decode cX4_set 26 = .ok (.goto 23, 3) := by decide +kernel
theorem dX4_set_29 : decode cX4_set 29 = .ok (.iload_n 2, 1) := by decide +kernel
theorem dX4_set_30 : decode cX4_set 30 = .ok (.iconst 3, 1) := by decide +kernel
theorem dX4_set_31 : decode cX4_set 31 = .ok (.if_icmp .ne 17, 3) := by decide +kernel
theorem dX4_set_34 : decode cX4_set 34 = .ok (.iload_n 3, 1) := by decide +kernel
theorem dX4_set_35 : decode cX4_set 35 = .ok (.i2l, 1) := by decide +kernel
theorem dX4_set_36 : decode cX4_set 36 = .ok (.lconst 0, 1) := by decide +kernel
theorem dX4_set_37 : decode cX4_set 37 = .ok (.lconst 1, 1) := by decide +kernel
theorem dX4_set_38 : decode cX4_set 38 = .ok (.invokestatic 47, 3) := by decide +kernel
theorem dX4_set_41 : decode cX4_set 41 = .ok (.ifCond .eq 7, 3) := by decide +kernel
theorem dX4_set_44 : decode cX4_set 44 = .ok (.iconst 1, 1) := by decide +kernel
theorem dX4_set_45 : decode cX4_set 45 = .ok (.goto 4, 3) := by decide +kernel
theorem dX4_set_48 : decode cX4_set 48 = .ok (.iconst 0, 1) := by decide +kernel
theorem dX4_set_49 : decode cX4_set 49 = .ok (.istore 4, 2) := by decide +kernel
theorem dX4_set_51 : decode cX4_set 51 = .ok (.aload_n 0, 1) := by decide +kernel
theorem dX4_set_52 : decode cX4_set 52 = .ok (.iload_n 1, 1) := by decide +kernel
theorem dX4_set_53 : decode cX4_set 53 = .ok (.invokevirtual 51, 3) := by decide +kernel
theorem dX4_set_56 : decode cX4_set 56 = .ok (.ifCond .eq 21, 3) := by decide +kernel
theorem dX4_set_59 : decode cX4_set 59 = .ok (.iload 4, 2) := by decide +kernel
theorem dX4_set_61 : decode cX4_set 61 = .ok (.ifCond .eq 16, 3) := by decide +kernel
theorem dX4_set_64 : decode cX4_set 64 = .ok (.aload_n 0, 1) := by decide +kernel
theorem dX4_set_65 : decode cX4_set 65 = .ok (.iload_n 1, 1) := by decide +kernel
theorem dX4_set_66 : decode cX4_set 66 = .ok (.iload_n 2, 1) := by decide +kernel
theorem dX4_set_67 : decode cX4_set 67 = .ok (.invokestatic 57, 3) := by decide +kernel
theorem dX4_set_70 : decode cX4_set 70 = .ok (.iload_n 3, 1) := by decide +kernel
theorem dX4_set_71 : decode cX4_set 71 = .ok (.invokevirtual 65, 3) := by decide +kernel
theorem dX4_set_74 : decode cX4_set 74 = .ok (.goto 9, 3) := by decide +kernel
theorem dX4_set_77 : decode cX4_set 77 = .ok (.aload_n 0, 1) := by decide +kernel
theorem dX4_set_78 : decode cX4_set 78 = .ok (.ldc 44, 2) := by decide +kernel
theorem dX4_set_80 : decode cX4_set 80 = .ok (.invokevirtual 68, 3) := by decide +kernel
theorem dX4_set_83 : decode cX4_set 83 = .ok (.ireturn, 1) := by decide +kernel
theorem dX4_did_0 : decode cX4_did 0 = .ok (.aload_n 0, 1) := by decide +kernel
theorem dX4_did_1 : decode cX4_did 1 = .ok (.iload_n 1, 1) := by decide +kernel
theorem dX4_did_2 : decode cX4_did 2 = .ok (.invokevirtual 51, 3) := by decide +kernel
theorem dX4_did_5 : decode cX4_did 5 = .ok (.ifCond .eq 37, 3) := by decide +kernel
theorem dX4_did_8 : decode cX4_did 8 = .ok (.iload_n 2, 1) := by decide +kernel
theorem dX4_did_9 : decode cX4_did 9 = .ok (.invokestatic 96, 3) := by decide +kernel
theorem dX4_did_12 : decode cX4_did 12 = .ok (.ifCond .eq 30, 3) := by decide +kernel
theorem dX4_did_15 : decode cX4_did 15 = .ok (.iload_n 3, 1) := by decide +kernel
theorem dX4_did_16 : decode cX4_did 16 = .ok (.i2l, 1) := by decide +kernel
theorem dX4_did_17 : decode cX4_did 17 = .ok (.lconst 0, 1) := by decide +kernel
theorem dX4_did_18 : decode cX4_did 18 = .ok (.ldc2_w 63, 3) := by decide +kernel
theorem dX4_did_21 : decode cX4_did 21 = .ok (.invokestatic 47, 3) := by decide +kernel
theorem dX4_did_24 : decode cX4_did 24 = .ok (.ifCond .eq 18, 3) := by decide +kernel
theorem dX4_did_27 : decode cX4_did 27 = .ok (.aload_n 0, 1) := by decide +kernel
theorem dX4_did_28 : decode cX4_did 28 = .ok (.iload_n 1, 1) := by decide +kernel
theorem dX4_did_29 : decode cX4_did 29 = .ok (.iconst 4, 1) := by decide +kernel
theorem dX4_did_30 : decode cX4_did 30 = .ok (.iload_n 2, 1) := by decide +kernel
theorem dX4_did_31 : decode cX4_did 31 = .ok (.iadd, 1) := by decide +kernel
theorem dX4_did_32 : decode cX4_did 32 = .ok (.invokestatic 57, 3) := by decide +kernel
theorem dX4_did_35 : decode cX4_did 35 = .ok (.iload_n 3, 1) := by decide +kernel
theorem dX4_did_36 : decode cX4_did 36 = .ok (.invokevirtual 65, 3) := by decide +kernel
theorem dX4_did_39 : decode cX4_did 39 = .ok (.goto 9, 3) := by decide +kernel
theorem dX4_did_42 : decode cX4_did 42 = .ok (.aload_n 0, 1) := by decide +kernel
theorem dX4_did_43 : decode cX4_did 43 = .ok (.ldc 44, 2) := by decide +kernel
theorem dX4_did_45 : decode cX4_did 45 = .ok (.invokevirtual 68, 3) := by decide +kernel
theorem dX4_did_48 : decode cX4_did 48 = .ok (.ireturn, 1) := by decide +kernel
theorem dX4_scent_0 : decode cX4_scent 0 = .ok (.aload_n 0, 1) := by decide +kernel
theorem dX4_scent_1 : decode cX4_scent 1 = .ok (.iload_n 1, 1) := by decide +kernel
theorem dX4_scent_2 : decode cX4_scent 2 = .ok (.invokevirtual 51, 3) := by decide +kernel
theorem dX4_scent_5 : decode cX4_scent 5 = .ok (.ifCond .eq 20, 3) := by decide +kernel
theorem dX4_scent_8 : decode cX4_scent 8 = .ok (.iload_n 2, 1) := by decide +kernel
theorem dX4_scent_9 : decode cX4_scent 9 = .ok (.invokestatic 96, 3) := by decide +kernel
theorem dX4_scent_12 : decode cX4_scent 12 = .ok (.ifCond .eq 13, 3) := by decide +kernel
theorem dX4_scent_15 : decode cX4_scent 15 = .ok (.iload_n 3, 1) := by decide +kernel
theorem dX4_scent_16 : decode cX4_scent 16 = .ok (.i2l, 1) := by decide +kernel
theorem dX4_scent_17 : decode cX4_scent 17 = .ok (.lconst 0, 1) := by decide +kernel
theorem dX4_scent_18 : decode cX4_scent 18 = .ok (.lconst 1, 1) := by decide +kernel
theorem dX4_scent_19 : decode cX4_scent 19 = .ok (.invokestatic 47, 3) := by decide +kernel
theorem dX4_scent_22 : decode cX4_scent 22 = .ok (.ifCond .ne 10, 3) := by decide +kernel
theorem dX4_scent_25 : decode cX4_scent 25 = .ok (.aload_n 0, 1) := by decide +kernel
theorem dX4_scent_26 : decode cX4_scent 26 = .ok (.ldc 44, 2) := by decide +kernel
theorem dX4_scent_28 : decode cX4_scent 28 = .ok (.invokevirtual 68, 3) := by decide +kernel
theorem dX4_scent_31 : decode cX4_scent 31 = .ok (.ireturn, 1) := by decide +kernel
theorem dX4_scent_32 : decode cX4_scent 32 = .ok (.iload_n 3, 1) := by decide +kernel
theorem dX4_scent_33 : decode cX4_scent 33 = .ok (.ifCond .ne 14, 3) := by decide +kernel
theorem dX4_scent_36 : decode cX4_scent 36 = .ok (.aload_n 0, 1) := by decide +kernel
theorem dX4_scent_37 : decode cX4_scent 37 = .ok (.iload_n 1, 1) := by decide +kernel
theorem dX4_scent_38 : decode cX4_scent 38 = .ok (.iconst 4, 1) := by decide +kernel
theorem dX4_scent_39 : decode cX4_scent 39 = .ok (.iload_n 2, 1) := by decide +kernel
theorem dX4_scent_40 : decode cX4_scent 40 = .ok (.iadd, 1) := by decide +kernel
theorem dX4_scent_41 : decode cX4_scent 41 = .ok (.invokevirtual 82, 3) := by decide +kernel
theorem dX4_scent_44 : decode cX4_scent 44 = .ok (.goto 9, 3) := by decide +kernel
theorem dX4_scent_47 : decode cX4_scent 47 = .ok (.aload_n 0, 1) := by decide +kernel
theorem dX4_scent_48 : decode cX4_scent 48 = .ok (.iload_n 1, 1) := by decide +kernel
theorem dX4_scent_49 : decode cX4_scent 49 = .ok (.iload_n 2, 1) := by decide +kernel
theorem dX4_scent_50 : decode cX4_scent 50 = .ok (.invokevirtual 85, 3) := by decide +kernel
theorem dX4_scent_53 : decode cX4_scent 53 = .ok (.ireturn, 1) := by decide +kernel
theorem dX4_turn_0 : decode cX4_turn 0 = .ok (.aload_n 0, 1) := by decide +kernel
theorem dX4_turn_1 : decode cX4_turn 1 = .ok (.iload_n 1, 1) := by decide +kernel
theorem dX4_turn_2 : decode cX4_turn 2 = .ok (.invokevirtual 51, 3) := by decide +kernel
theorem dX4_turn_5 : decode cX4_turn 5 = .ok (.ifCond .eq 23, 3) := by decide +kernel
theorem dX4_turn_8 : decode cX4_turn 8 = .ok (.iload_n 2, 1) := by decide +kernel
theorem dX4_turn_9 : decode cX4_turn 9 = .ok (.invokestatic 72, 3) := by decide +kernel
theorem dX4_turn_12 : decode cX4_turn 12 = .ok (.ifCond .eq 16, 3) := by decide +kernel
theorem dX4_turn_15 : decode cX4_turn 15 = .ok (.aload_n 0, 1) := by decide +kernel
theorem dX4_turn_16 : decode cX4_turn 16 = .ok (.iload_n 1, 1) := by decide +kernel
theorem dX4_turn_17 : decode cX4_turn 17 = .ok (.iconst 0, 1) := by decide +kernel
theorem dX4_turn_18 : decode cX4_turn 18 = .ok (.invokestatic 57, 3) := by decide +kernel
theorem dX4_turn_21 : decode cX4_turn 21 = .ok (.iload_n 2, 1) := by decide +kernel
theorem dX4_turn_22 : decode cX4_turn 22 = .ok (.invokevirtual 65, 3) := by decide +kernel
theorem dX4_turn_25 : decode cX4_turn 25 = .ok (.goto 9, 3) := by decide +kernel
theorem dX4_turn_28 : decode cX4_turn 28 = .ok (.aload_n 0, 1) := by decide +kernel
theorem dX4_turn_29 : decode cX4_turn 29 = .ok (.ldc 44, 2) := by decide +kernel
theorem dX4_turn_31 : decode cX4_turn 31 = .ok (.invokevirtual 68, 3) := by decide +kernel
theorem dX4_turn_34 : decode cX4_turn 34 = .ok (.ireturn, 1) := by decide +kernel
theorem dX4_isUnder_0 : decode cX4_isUnder 0 = .ok (.iload_n 1, 1) := by decide +kernel
theorem dX4_isUnder_1 : decode cX4_isUnder 1 = .ok (.ifCond .eq 20, 3) := by decide +kernel
theorem dX4_isUnder_4 : decode cX4_isUnder 4 = .ok (.iload_n 0, 1) := by decide +kernel
theorem dX4_isUnder_5 : decode cX4_isUnder 5 = .ok (.iload_n 1, 1) := by decide +kernel
theorem dX4_isUnder_6 : decode cX4_isUnder 6 = .ok (.if_icmp .eq 15, 3) := by decide +kernel
theorem dX4_isUnder_9 : decode cX4_isUnder 9 = .ok (.iload_n 0, 1) := by decide +kernel
theorem dX4_isUnder_10 : decode cX4_isUnder 10 = .ok (.iconst 3, 1) := by decide +kernel
theorem dX4_isUnder_11 : decode cX4_isUnder 11 = .ok (.if_icmp .le 14, 3) := by decide +kernel
theorem dX4_isUnder_14 : decode cX4_isUnder 14 = .ok (.iload_n 0, 1) := by decide +kernel
theorem dX4_isUnder_15 : decode cX4_isUnder 15 = .ok (.iconst 2, 1) := by decide +kernel
theorem dX4_isUnder_16 : decode cX4_isUnder 16 = .ok (.isub, 1) := by decide +kernel
theorem dX4_isUnder_17 : decode cX4_isUnder 17 = .ok (.iload_n 1, 1) := by decide +kernel
theorem dX4_isUnder_18 : decode cX4_isUnder 18 = .ok (.if_icmp .ne 7, 3) := by decide +kernel
theorem dX4_isUnder_21 : decode cX4_isUnder 21 = .ok (.iconst 1, 1) := by decide +kernel
theorem dX4_isUnder_22 : decode cX4_isUnder 22 = .ok (.goto 4, 3) := by decide +kernel
theorem dX4_isUnder_25 : decode cX4_isUnder 25 = .ok (.iconst 0, 1) := by decide +kernel
theorem dX4_isUnder_26 : decode cX4_isUnder 26 = .ok (.ireturn, 1) := by decide +kernel
theorem dX4_as_0 : decode cX4_as 0 = .ok (.aload_n 0, 1) := by decide +kernel
theorem dX4_as_1 : decode cX4_as 1 = .ok (.iload_n 1, 1) := by decide +kernel
theorem dX4_as_2 : decode cX4_as 2 = .ok (.invokevirtual 51, 3) := by decide +kernel
theorem dX4_as_5 : decode cX4_as 5 = .ok (.ifCond .eq 10, 3) := by decide +kernel
theorem dX4_as_8 : decode cX4_as 8 = .ok (.iload_n 2, 1) := by decide +kernel
theorem dX4_as_9 : decode cX4_as 9 = .ok (.invokestatic 72, 3) := by decide +kernel
theorem dX4_as_12 : decode cX4_as 12 = .ok (.ifCond .ne 10, 3) := by decide +kernel
theorem dX4_as_15 : decode cX4_as 15 = .ok (.aload_n 0, 1) := by decide +kernel
theorem dX4_as_16 : decode cX4_as 16 = .ok (.ldc 44, 2) := by decide +kernel
theorem dX4_as_18 : decode cX4_as 18 = .ok (.invokevirtual 68, 3) := by decide +kernel
theorem dX4_as_21 : decode cX4_as 21 = .ok (.ireturn, 1) := by decide +kernel
theorem dX4_as_22 : decode cX4_as 22 = .ok (.aload_n 0, 1) := by decide +kernel
theorem dX4_as_23 : decode cX4_as 23 = .ok (.iload_n 1, 1) := by decide +kernel
theorem dX4_as_24 : decode cX4_as 24 = .ok (.iconst 0, 1) := by decide +kernel
theorem dX4_as_25 : decode cX4_as 25 = .ok (.invokevirtual 82, 3) := by decide +kernel
theorem dX4_as_28 : decode cX4_as 28 = .ok (.iload_n 2, 1) := by decide +kernel
theorem dX4_as_29 : decode cX4_as 29 = .ok (.invokestatic 99, 3) := by decide +kernel
theorem dX4_as_32 : decode cX4_as 32 = .ok (.ifCond .eq 12, 3) := by decide +kernel
theorem dX4_as_35 : decode cX4_as 35 = .ok (.aload_n 0, 1) := by decide +kernel
theorem dX4_as_36 : decode cX4_as 36 = .ok (.iload_n 1, 1) := by decide +kernel
theorem dX4_as_37 : decode cX4_as 37 = .ok (.iconst 2, 1) := by decide +kernel
theorem dX4_as_38 : decode cX4_as 38 = .ok (.invokevirtual 82, 3) := by decide +kernel
theorem dX4_as_41 : decode cX4_as 41 = .ok (.goto 9, 3) := by decide +kernel
theorem dX4_as_44 : decode cX4_as 44 = .ok (.aload_n 0, 1) := by decide +kernel
theorem dX4_as_45 : decode cX4_as 45 = .ok (.ldc 103, 2) := by decide +kernel
theorem dX4_as_47 : decode cX4_as 47 = .ok (.invokevirtual 68, 3) := by decide +kernel
theorem dX4_as_50 : decode cX4_as 50 = .ok (.ireturn, 1) := by decide +kernel
theorem dX4_washes_0 : decode cX4_washes 0 = .ok (.iconst 0, 1) := by decide +kernel
theorem dX4_washes_1 : decode cX4_washes 1 = .ok (.istore_n 2, 1) := by decide +kernel
theorem dX4_washes_2 : decode cX4_washes 2 = .ok (.iconst 0, 1) := by decide +kernel
theorem dX4_washes_3 : decode cX4_washes 3 = .ok (.istore_n 3, 1) := by decide +kernel
theorem dX4_washes_4 : decode cX4_washes 4 = .ok (.iload_n 3, 1) := by decide +kernel
theorem dX4_washes_5 : decode cX4_washes 5 = .ok (.bipush 6, 2) := by decide +kernel
theorem dX4_washes_7 : decode cX4_washes 7 = .ok (.if_icmp .ge 45, 3) := by decide +kernel
theorem dX4_washes_10 : decode cX4_washes 10 = .ok (.aload_n 0, 1) := by decide +kernel
theorem dX4_washes_11 : decode cX4_washes 11 = .ok (.iload_n 1, 1) := by decide +kernel
theorem dX4_washes_12 : decode cX4_washes 12 = .ok (.iconst 4, 1) := by decide +kernel
theorem dX4_washes_13 : decode cX4_washes 13 = .ok (.iload_n 3, 1) := by decide +kernel
theorem dX4_washes_14 : decode cX4_washes 14 = .ok (.iadd, 1) := by decide +kernel
theorem dX4_washes_15 : decode cX4_washes 15 = .ok (.invokevirtual 82, 3) := by decide +kernel
theorem dX4_washes_18 : decode cX4_washes 18 = .ok (.istore 4, 2) := by decide +kernel
theorem dX4_washes_20 : decode cX4_washes 20 = .ok (.aload_n 0, 1) := by decide +kernel
theorem dX4_washes_21 : decode cX4_washes 21 = .ok (.getfield 7, 3) := by decide +kernel
theorem dX4_washes_24 : decode cX4_washes 24 = .ok (.iload_n 1, 1) := by decide +kernel
theorem dX4_washes_25 : decode cX4_washes 25 = .ok (.iconst 4, 1) := by decide +kernel
theorem dX4_washes_26 : decode cX4_washes 26 = .ok (.iload_n 3, 1) := by decide +kernel
theorem dX4_washes_27 : decode cX4_washes 27 = .ok (.iadd, 1) := by decide +kernel
theorem dX4_washes_28 : decode cX4_washes 28 = .ok (.invokestatic 57, 3) := by decide +kernel
theorem dX4_washes_31 : decode cX4_washes 31 = .ok (.iload 4, 2) := by decide +kernel
theorem dX4_washes_33 : decode cX4_washes 33 = .ok (.iconst 3, 1) := by decide +kernel
theorem dX4_washes_34 : decode cX4_washes 34 = .ok (.idiv, 1) := by decide +kernel
theorem dX4_washes_35 : decode cX4_washes 35 = .ok (.iastore, 1) := by decide +kernel
theorem dX4_washes_36 : decode cX4_washes 36 = .ok (.iload_n 2, 1) := by decide +kernel
theorem dX4_washes_37 : decode cX4_washes 37 = .ok (.iload 4, 2) := by decide +kernel
theorem dX4_washes_39 : decode cX4_washes 39 = .ok (.iload 4, 2) := by decide +kernel
theorem dX4_washes_41 : decode cX4_washes 41 = .ok (.iconst 3, 1) := by decide +kernel
theorem dX4_washes_42 : decode cX4_washes 42 = .ok (.idiv, 1) := by decide +kernel
theorem dX4_washes_43 : decode cX4_washes 43 = .ok (.isub, 1) := by decide +kernel
theorem dX4_washes_44 : decode cX4_washes 44 = .ok (.iadd, 1) := by decide +kernel
theorem dX4_washes_45 : decode cX4_washes 45 = .ok (.istore_n 2, 1) := by decide +kernel
theorem dX4_washes_46 : decode cX4_washes 46 = .ok (.iinc 3 1, 3) := by decide +kernel
theorem dX4_washes_49 : decode cX4_washes 49 = .ok (.goto (-45), 3) := by decide +kernel
theorem dX4_washes_52 : decode cX4_washes 52 = .ok (.iload_n 2, 1) := by decide +kernel
theorem dX4_washes_53 : decode cX4_washes 53 = .ok (.ireturn, 1) := by decide +kernel
theorem dX4_wash_0 : decode cX4_wash 0 = .ok (.aload_n 0, 1) := by decide +kernel
theorem dX4_wash_1 : decode cX4_wash 1 = .ok (.iload_n 1, 1) := by decide +kernel
theorem dX4_wash_2 : decode cX4_wash 2 = .ok (.invokevirtual 51, 3) := by decide +kernel
theorem dX4_wash_5 : decode cX4_wash 5 = .ok (.ifCond .eq 11, 3) := by decide +kernel
theorem dX4_wash_8 : decode cX4_wash 8 = .ok (.aload_n 0, 1) := by decide +kernel
theorem dX4_wash_9 : decode cX4_wash 9 = .ok (.iload_n 1, 1) := by decide +kernel
theorem dX4_wash_10 : decode cX4_wash 10 = .ok (.invokevirtual 104, 3) := by decide +kernel
theorem dX4_wash_13 : decode cX4_wash 13 = .ok (.goto 9, 3) := by decide +kernel
theorem dX4_wash_16 : decode cX4_wash 16 = .ok (.aload_n 0, 1) := by decide +kernel
theorem dX4_wash_17 : decode cX4_wash 17 = .ok (.ldc 44, 2) := by decide +kernel
theorem dX4_wash_19 : decode cX4_wash 19 = .ok (.invokevirtual 68, 3) := by decide +kernel
theorem dX4_wash_22 : decode cX4_wash 22 = .ok (.ireturn, 1) := by decide +kernel
theorem dX4_grows_0 : decode cX4_grows 0 = .ok (.aload_n 0, 1) := by decide +kernel
theorem dX4_grows_1 : decode cX4_grows 1 = .ok (.getfield 7, 3) := by decide +kernel
theorem dX4_grows_4 : decode cX4_grows 4 = .ok (.iload_n 1, 1) := by decide +kernel
theorem dX4_grows_5 : decode cX4_grows 5 = .ok (.iaload, 1) := by decide +kernel
theorem dX4_grows_6 : decode cX4_grows 6 = .ok (.iload_n 2, 1) := by decide +kernel
theorem dX4_grows_7 : decode cX4_grows 7 = .ok (.if_icmp .ge 7, 3) := by decide +kernel
theorem dX4_grows_10 : decode cX4_grows 10 = .ok (.iconst 1, 1) := by decide +kernel
theorem dX4_grows_11 : decode cX4_grows 11 = .ok (.goto 4, 3) := by decide +kernel
theorem dX4_grows_14 : decode cX4_grows 14 = .ok (.iconst 0, 1) := by decide +kernel
theorem dX4_grows_15 : decode cX4_grows 15 = .ok (.istore_n 3, 1) := by decide +kernel
theorem dX4_grows_16 : decode cX4_grows 16 = .ok (.aload_n 0, 1) := by decide +kernel
theorem dX4_grows_17 : decode cX4_grows 17 = .ok (.getfield 7, 3) := by decide +kernel
theorem dX4_grows_20 : decode cX4_grows 20 = .ok (.iload_n 1, 1) := by decide +kernel
theorem dX4_grows_21 : decode cX4_grows 21 = .ok (.iload_n 3, 1) := by decide +kernel
theorem dX4_grows_22 : decode cX4_grows 22 = .ok (.iconst 1, 1) := by decide +kernel
theorem dX4_grows_23 : decode cX4_grows 23 = .ok (.if_icmp .ne 7, 3) := by decide +kernel
theorem dX4_grows_26 : decode cX4_grows 26 = .ok (.iload_n 2, 1) := by decide +kernel
theorem dX4_grows_27 : decode cX4_grows 27 = .ok (.goto 9, 3) := by decide +kernel
theorem dX4_grows_30 : decode cX4_grows 30 = .ok (.aload_n 0, 1) := by decide +kernel
theorem dX4_grows_31 : decode cX4_grows 31 = .ok (.getfield 7, 3) := by decide +kernel
theorem dX4_grows_34 : decode cX4_grows 34 = .ok (.iload_n 1, 1) := by decide +kernel
theorem dX4_grows_35 : decode cX4_grows 35 = .ok (.iaload, 1) := by decide +kernel
theorem dX4_grows_36 : decode cX4_grows 36 = .ok (.iastore, 1) := by decide +kernel
theorem dX4_grows_37 : decode cX4_grows 37 = .ok (.iload_n 3, 1) := by decide +kernel
theorem dX4_grows_38 : decode cX4_grows 38 = .ok (.ireturn, 1) := by decide +kernel
theorem dX4_meet_0 : decode cX4_meet 0 = .ok (.aload_n 0, 1) := by decide +kernel
theorem dX4_meet_1 : decode cX4_meet 1 = .ok (.iload_n 1, 1) := by decide +kernel
theorem dX4_meet_2 : decode cX4_meet 2 = .ok (.iload_n 2, 1) := by decide +kernel
theorem dX4_meet_3 : decode cX4_meet 3 = .ok (.invokevirtual 107, 3) := by decide +kernel
theorem dX4_meet_6 : decode cX4_meet 6 = .ok (.ifCond .ne 10, 3) := by decide +kernel
theorem dX4_meet_9 : decode cX4_meet 9 = .ok (.aload_n 0, 1) := by decide +kernel
theorem dX4_meet_10 : decode cX4_meet 10 = .ok (.ldc 44, 2) := by decide +kernel
theorem dX4_meet_12 : decode cX4_meet 12 = .ok (.invokevirtual 68, 3) := by decide +kernel
theorem dX4_meet_15 : decode cX4_meet 15 = .ok (.ireturn, 1) := by decide +kernel
theorem dX4_meet_16 : decode cX4_meet 16 = .ok (.iconst 0, 1) := by decide +kernel
theorem dX4_meet_17 : decode cX4_meet 17 = .ok (.istore_n 3, 1) := by decide +kernel
theorem dX4_meet_18 : decode cX4_meet 18 = .ok (.iconst 0, 1) := by decide +kernel
theorem dX4_meet_19 : decode cX4_meet 19 = .ok (.istore 4, 2) := by decide +kernel
theorem dX4_meet_21 : decode cX4_meet 21 = .ok (.iload 4, 2) := by decide +kernel
theorem dX4_meet_23 : decode cX4_meet 23 = .ok (.bipush 6, 2) := by decide +kernel
theorem dX4_meet_25 : decode cX4_meet 25 = .ok (.if_icmp .ge 81, 3) := by decide +kernel
theorem dX4_meet_28 : decode cX4_meet 28 = .ok (.aload_n 0, 1) := by decide +kernel
theorem dX4_meet_29 : decode cX4_meet 29 = .ok (.iload_n 1, 1) := by decide +kernel
theorem dX4_meet_30 : decode cX4_meet 30 = .ok (.iconst 4, 1) := by decide +kernel
theorem dX4_meet_31 : decode cX4_meet 31 = .ok (.iload 4, 2) := by decide +kernel
theorem dX4_meet_33 : decode cX4_meet 33 = .ok (.iadd, 1) := by decide +kernel
theorem dX4_meet_34 : decode cX4_meet 34 = .ok (.invokevirtual 82, 3) := by decide +kernel
theorem dX4_meet_37 : decode cX4_meet 37 = .ok (.istore 5, 2) := by decide +kernel
theorem dX4_meet_39 : decode cX4_meet 39 = .ok (.aload_n 0, 1) := by decide +kernel
theorem dX4_meet_40 : decode cX4_meet 40 = .ok (.iload_n 2, 1) := by decide +kernel
theorem dX4_meet_41 : decode cX4_meet 41 = .ok (.iconst 4, 1) := by decide +kernel
theorem dX4_meet_42 : decode cX4_meet 42 = .ok (.iload 4, 2) := by decide +kernel
theorem dX4_meet_44 : decode cX4_meet 44 = .ok (.iadd, 1) := by decide +kernel
theorem dX4_meet_45 : decode cX4_meet 45 = .ok (.invokevirtual 82, 3) := by decide +kernel
theorem dX4_meet_48 : decode cX4_meet 48 = .ok (.istore 6, 2) := by decide +kernel
theorem dX4_meet_50 : decode cX4_meet 50 = .ok (.iload 5, 2) := by decide +kernel
theorem dX4_meet_52 : decode cX4_meet 52 = .ok (.iload 6, 2) := by decide +kernel
theorem dX4_meet_54 : decode cX4_meet 54 = .ok (.if_icmp .le 8, 3) := by decide +kernel
theorem dX4_meet_57 : decode cX4_meet 57 = .ok (.iload 5, 2) := by decide +kernel
theorem dX4_meet_59 : decode cX4_meet 59 = .ok (.goto 5, 3) := by decide +kernel
theorem dX4_meet_62 : decode cX4_meet 62 = .ok (.iload 6, 2) := by decide +kernel
theorem dX4_meet_64 : decode cX4_meet 64 = .ok (.iconst 2, 1) := by decide +kernel
theorem dX4_meet_65 : decode cX4_meet 65 = .ok (.idiv, 1) := by decide +kernel
theorem dX4_meet_66 : decode cX4_meet 66 = .ok (.istore 7, 2) := by decide +kernel
theorem dX4_meet_68 : decode cX4_meet 68 = .ok (.iload_n 3, 1) := by decide +kernel
theorem dX4_meet_69 : decode cX4_meet 69 = .ok (.aload_n 0, 1) := by decide +kernel
theorem dX4_meet_70 : decode cX4_meet 70 = .ok (.iload_n 1, 1) := by decide +kernel
theorem dX4_meet_71 : decode cX4_meet 71 = .ok (.iconst 4, 1) := by decide +kernel
theorem dX4_meet_72 : decode cX4_meet 72 = .ok (.iload 4, 2) := by decide +kernel
theorem dX4_meet_74 : decode cX4_meet 74 = .ok (.iadd, 1) := by decide +kernel
theorem dX4_meet_75 : decode cX4_meet 75 = .ok (.invokestatic 57, 3) := by decide +kernel
theorem dX4_meet_78 : decode cX4_meet 78 = .ok (.iload 7, 2) := by decide +kernel
theorem dX4_meet_80 : decode cX4_meet 80 = .ok (.invokevirtual 110, 3) := by decide +kernel
theorem dX4_meet_83 : decode cX4_meet 83 = .ok (.aload_n 0, 1) := by decide +kernel
theorem dX4_meet_84 : decode cX4_meet 84 = .ok (.iload_n 2, 1) := by decide +kernel
theorem dX4_meet_85 : decode cX4_meet 85 = .ok (.iconst 4, 1) := by decide +kernel
theorem dX4_meet_86 : decode cX4_meet 86 = .ok (.iload 4, 2) := by decide +kernel
theorem dX4_meet_88 : decode cX4_meet 88 = .ok (.iadd, 1) := by decide +kernel
theorem dX4_meet_89 : decode cX4_meet 89 = .ok (.invokestatic 57, 3) := by decide +kernel
theorem dX4_meet_92 : decode cX4_meet 92 = .ok (.iload 7, 2) := by decide +kernel
theorem dX4_meet_94 : decode cX4_meet 94 = .ok (.invokevirtual 110, 3) := by decide +kernel
theorem dX4_meet_97 : decode cX4_meet 97 = .ok (.iadd, 1) := by decide +kernel
theorem dX4_meet_98 : decode cX4_meet 98 = .ok (.iadd, 1) := by decide +kernel
theorem dX4_meet_99 : decode cX4_meet 99 = .ok (.istore_n 3, 1) := by decide +kernel
theorem dX4_meet_100 : decode cX4_meet 100 = .ok (.iinc 4 1, 3) := by decide +kernel
theorem dX4_meet_103 : decode cX4_meet 103 = .ok (.goto (-82), 3) := by decide +kernel
theorem dX4_meet_106 : decode cX4_meet 106 = .ok (.iload_n 3, 1) := by decide +kernel
theorem dX4_meet_107 : decode cX4_meet 107 = .ok (.ireturn, 1) := by decide +kernel
theorem dX4_absolute_0 : decode cX4_absolute 0 = .ok (.iload_n 0, 1) := by decide +kernel
theorem dX4_absolute_1 : decode cX4_absolute 1 = .ok (.ifCond .ge 8, 3) := by decide +kernel
theorem dX4_absolute_4 : decode cX4_absolute 4 = .ok (.iload_n 0, 1) := by decide +kernel
theorem dX4_absolute_5 : decode cX4_absolute 5 = .ok (.ineg, 1) := by decide +kernel
theorem dX4_absolute_6 : decode cX4_absolute 6 = .ok (.goto 4, 3) := by decide +kernel
theorem dX4_absolute_9 : decode cX4_absolute 9 = .ok (.iload_n 0, 1) := by decide +kernel
theorem dX4_absolute_10 : decode cX4_absolute 10 = .ok (.ireturn, 1) := by decide +kernel
theorem dX4_apart_0 : decode cX4_apart 0 = .ok (.aload_n 0, 1) := by decide +kernel
theorem dX4_apart_1 : decode cX4_apart 1 = .ok (.iload_n 1, 1) := by decide +kernel
theorem dX4_apart_2 : decode cX4_apart 2 = .ok (.iconst 1, 1) := by decide +kernel
theorem dX4_apart_3 : decode cX4_apart 3 = .ok (.invokevirtual 82, 3) := by decide +kernel
theorem dX4_apart_6 : decode cX4_apart 6 = .ok (.istore_n 3, 1) := by decide +kernel
theorem dX4_apart_7 : decode cX4_apart 7 = .ok (.aload_n 0, 1) := by decide +kernel
theorem dX4_apart_8 : decode cX4_apart 8 = .ok (.iload_n 2, 1) := by decide +kernel
theorem dX4_apart_9 : decode cX4_apart 9 = .ok (.iconst 1, 1) := by decide +kernel
theorem dX4_apart_10 : decode cX4_apart 10 = .ok (.invokevirtual 82, 3) := by decide +kernel
theorem dX4_apart_13 : decode cX4_apart 13 = .ok (.istore 4, 2) := by decide +kernel
theorem dX4_apart_15 : decode cX4_apart 15 = .ok (.iload_n 3, 1) := by decide +kernel
theorem dX4_apart_16 : decode cX4_apart 16 = .ok (.bipush 8, 2) := by decide +kernel
theorem dX4_apart_18 : decode cX4_apart 18 = .ok (.idiv, 1) := by decide +kernel
theorem dX4_apart_19 : decode cX4_apart 19 = .ok (.iload 4, 2) := by decide +kernel
theorem dX4_apart_21 : decode cX4_apart 21 = .ok (.bipush 8, 2) := by decide +kernel
theorem dX4_apart_23 : decode cX4_apart 23 = .ok (.idiv, 1) := by decide +kernel
theorem dX4_apart_24 : decode cX4_apart 24 = .ok (.isub, 1) := by decide +kernel
theorem dX4_apart_25 : decode cX4_apart 25 = .ok (.invokestatic 113, 3) := by decide +kernel
theorem dX4_apart_28 : decode cX4_apart 28 = .ok (.iload_n 3, 1) := by decide +kernel
theorem dX4_apart_29 : decode cX4_apart 29 = .ok (.bipush 8, 2) := by decide +kernel
theorem dX4_apart_31 : decode cX4_apart 31 = .ok (.irem, 1) := by decide +kernel
theorem dX4_apart_32 : decode cX4_apart 32 = .ok (.iload 4, 2) := by decide +kernel
theorem dX4_apart_34 : decode cX4_apart 34 = .ok (.bipush 8, 2) := by decide +kernel
theorem dX4_apart_36 : decode cX4_apart 36 = .ok (.irem, 1) := by decide +kernel
theorem dX4_apart_37 : decode cX4_apart 37 = .ok (.isub, 1) := by decide +kernel
theorem dX4_apart_38 : decode cX4_apart 38 = .ok (.invokestatic 113, 3) := by decide +kernel
theorem dX4_apart_41 : decode cX4_apart 41 = .ok (.iadd, 1) := by decide +kernel
theorem dX4_apart_42 : decode cX4_apart 42 = .ok (.ireturn, 1) := by decide +kernel
theorem dX4_isDownwind_0 : decode cX4_isDownwind 0 = .ok (.aload_n 0, 1) := by decide +kernel
theorem dX4_isDownwind_1 : decode cX4_isDownwind 1 = .ok (.iload_n 1, 1) := by decide +kernel
theorem dX4_isDownwind_2 : decode cX4_isDownwind 2 = .ok (.iconst 1, 1) := by decide +kernel
theorem dX4_isDownwind_3 : decode cX4_isDownwind 3 = .ok (.invokevirtual 82, 3) := by decide +kernel
theorem dX4_isDownwind_6 : decode cX4_isDownwind 6 = .ok (.bipush 8, 2) := by decide +kernel
theorem dX4_isDownwind_8 : decode cX4_isDownwind 8 = .ok (.idiv, 1) := by decide +kernel
theorem dX4_isDownwind_9 : decode cX4_isDownwind 9 = .ok (.aload_n 0, 1) := by decide +kernel
theorem dX4_isDownwind_10 : decode cX4_isDownwind 10 = .ok (.iload_n 2, 1) := by decide +kernel
theorem dX4_isDownwind_11 : decode cX4_isDownwind 11 = .ok (.iconst 1, 1) := by decide +kernel
theorem dX4_isDownwind_12 : decode cX4_isDownwind 12 = .ok (.invokevirtual 82, 3) := by decide +kernel
theorem dX4_isDownwind_15 : decode cX4_isDownwind 15 = .ok (.bipush 8, 2) := by decide +kernel
theorem dX4_isDownwind_17 : decode cX4_isDownwind 17 = .ok (.idiv, 1) := by decide +kernel
theorem dX4_isDownwind_18 : decode cX4_isDownwind 18 = .ok (.isub, 1) := by decide +kernel
theorem dX4_isDownwind_19 : decode cX4_isDownwind 19 = .ok (.istore_n 3, 1) := by decide +kernel
theorem dX4_isDownwind_20 : decode cX4_isDownwind 20 = .ok (.aload_n 0, 1) := by decide +kernel
theorem dX4_isDownwind_21 : decode cX4_isDownwind 21 = .ok (.iload_n 1, 1) := by decide +kernel
theorem dX4_isDownwind_22 : decode cX4_isDownwind 22 = .ok (.iconst 1, 1) := by decide +kernel
theorem dX4_isDownwind_23 : decode cX4_isDownwind 23 = .ok (.invokevirtual 82, 3) := by decide +kernel
theorem dX4_isDownwind_26 : decode cX4_isDownwind 26 = .ok (.bipush 8, 2) := by decide +kernel
theorem dX4_isDownwind_28 : decode cX4_isDownwind 28 = .ok (.irem, 1) := by decide +kernel
theorem dX4_isDownwind_29 : decode cX4_isDownwind 29 = .ok (.aload_n 0, 1) := by decide +kernel
theorem dX4_isDownwind_30 : decode cX4_isDownwind 30 = .ok (.iload_n 2, 1) := by decide +kernel
theorem dX4_isDownwind_31 : decode cX4_isDownwind 31 = .ok (.iconst 1, 1) := by decide +kernel
theorem dX4_isDownwind_32 : decode cX4_isDownwind 32 = .ok (.invokevirtual 82, 3) := by decide +kernel
theorem dX4_isDownwind_35 : decode cX4_isDownwind 35 = .ok (.bipush 8, 2) := by decide +kernel
theorem dX4_isDownwind_37 : decode cX4_isDownwind 37 = .ok (.irem, 1) := by decide +kernel
theorem dX4_isDownwind_38 : decode cX4_isDownwind 38 = .ok (.isub, 1) := by decide +kernel
theorem dX4_isDownwind_39 : decode cX4_isDownwind 39 = .ok (.istore 4, 2) := by decide +kernel
theorem dX4_isDownwind_41 : decode cX4_isDownwind 41 = .ok (.aload_n 0, 1) := by decide +kernel
theorem dX4_isDownwind_42 : decode cX4_isDownwind 42 = .ok (.getfield 7, 3) := by decide +kernel
theorem dX4_isDownwind_45 : decode cX4_isDownwind 45 = .ok (.iconst 2, 1) := by decide +kernel
theorem dX4_isDownwind_46 : decode cX4_isDownwind 46 = .ok (.iaload, 1) := by decide +kernel
theorem dX4_isDownwind_47 : decode cX4_isDownwind 47 = .ok (.tableswitch 71 1 4 #[29, 39, 50, 60], 29) := by decide +kernel
theorem dX4_isDownwind_76 : decode cX4_isDownwind 76 = .ok (.iload_n 3, 1) := by decide +kernel
theorem dX4_isDownwind_77 : decode cX4_isDownwind 77 = .ok (.ifCond .ge 7, 3) := by decide +kernel
theorem dX4_isDownwind_80 : decode cX4_isDownwind 80 = .ok (.iconst 1, 1) := by decide +kernel
theorem dX4_isDownwind_81 : decode cX4_isDownwind 81 = .ok (.goto 4, 3) := by decide +kernel
theorem dX4_isDownwind_84 : decode cX4_isDownwind 84 = .ok (.iconst 0, 1) := by decide +kernel
theorem dX4_isDownwind_85 : decode cX4_isDownwind 85 = .ok (.ireturn, 1) := by decide +kernel
theorem dX4_isDownwind_86 : decode cX4_isDownwind 86 = .ok (.iload 4, 2) := by decide +kernel
theorem dX4_isDownwind_88 : decode cX4_isDownwind 88 = .ok (.ifCond .le 7, 3) := by decide +kernel
theorem dX4_isDownwind_91 : decode cX4_isDownwind 91 = .ok (.iconst 1, 1) := by decide +kernel
theorem dX4_isDownwind_92 : decode cX4_isDownwind 92 = .ok (.goto 4, 3) := by decide +kernel
theorem dX4_isDownwind_95 : decode cX4_isDownwind 95 = .ok (.iconst 0, 1) := by decide +kernel
theorem dX4_isDownwind_96 : decode cX4_isDownwind 96 = .ok (.ireturn, 1) := by decide +kernel
theorem dX4_isDownwind_97 : decode cX4_isDownwind 97 = .ok (.iload_n 3, 1) := by decide +kernel
theorem dX4_isDownwind_98 : decode cX4_isDownwind 98 = .ok (.ifCond .le 7, 3) := by decide +kernel
theorem dX4_isDownwind_101 : decode cX4_isDownwind 101 = .ok (.iconst 1, 1) := by decide +kernel
theorem dX4_isDownwind_102 : decode cX4_isDownwind 102 = .ok (.goto 4, 3) := by decide +kernel
theorem dX4_isDownwind_105 : decode cX4_isDownwind 105 = .ok (.iconst 0, 1) := by decide +kernel
theorem dX4_isDownwind_106 : decode cX4_isDownwind 106 = .ok (.ireturn, 1) := by decide +kernel
theorem dX4_isDownwind_107 : decode cX4_isDownwind 107 = .ok (.iload 4, 2) := by decide +kernel
theorem dX4_isDownwind_109 : decode cX4_isDownwind 109 = .ok (.ifCond .ge 7, 3) := by decide +kernel
theorem dX4_isDownwind_112 : decode cX4_isDownwind 112 = .ok (.iconst 1, 1) := by decide +kernel
theorem dX4_isDownwind_113 : decode cX4_isDownwind 113 = .ok (.goto 4, 3) := by decide +kernel
theorem dX4_isDownwind_116 : decode cX4_isDownwind 116 = .ok (.iconst 0, 1) := by decide +kernel
theorem dX4_isDownwind_117 : decode cX4_isDownwind 117 = .ok (.ireturn, 1) := by decide +kernel
theorem dX4_isDownwind_118 : decode cX4_isDownwind 118 = .ok (.iconst 0, 1) := by decide +kernel
theorem dX4_isDownwind_119 : decode cX4_isDownwind 119 = .ok (.ireturn, 1) := by decide +kernel
theorem dX4_senses_0 : decode cX4_senses 0 = .ok (.aload_n 0, 1) := by decide +kernel
theorem dX4_senses_1 : decode cX4_senses 1 = .ok (.iload_n 1, 1) := by decide +kernel
theorem dX4_senses_2 : decode cX4_senses 2 = .ok (.iconst 3, 1) := by decide +kernel
theorem dX4_senses_3 : decode cX4_senses 3 = .ok (.invokevirtual 82, 3) := by decide +kernel
theorem dX4_senses_6 : decode cX4_senses 6 = .ok (.iconst 1, 1) := by decide +kernel
theorem dX4_senses_7 : decode cX4_senses 7 = .ok (.if_icmp .ne 7, 3) := by decide +kernel
theorem dX4_senses_10 : decode cX4_senses 10 = .ok (.iconst 0, 1) := by decide +kernel
theorem dX4_senses_11 : decode cX4_senses 11 = .ok (.goto 15, 3) := by decide +kernel
theorem dX4_senses_14 : decode cX4_senses 14 = .ok (.iload_n 2, 1) := by decide +kernel
theorem dX4_senses_15 : decode cX4_senses 15 = .ok (.aload_n 0, 1) := by decide +kernel
theorem dX4_senses_16 : decode cX4_senses 16 = .ok (.iload_n 1, 1) := by decide +kernel
theorem dX4_senses_17 : decode cX4_senses 17 = .ok (.iconst 2, 1) := by decide +kernel
theorem dX4_senses_18 : decode cX4_senses 18 = .ok (.invokevirtual 82, 3) := by decide +kernel
theorem dX4_senses_21 : decode cX4_senses 21 = .ok (.imul, 1) := by decide +kernel
theorem dX4_senses_22 : decode cX4_senses 22 = .ok (.iload_n 3, 1) := by decide +kernel
theorem dX4_senses_23 : decode cX4_senses 23 = .ok (.iconst 5, 1) := by decide +kernel
theorem dX4_senses_24 : decode cX4_senses 24 = .ok (.iadd, 1) := by decide +kernel
theorem dX4_senses_25 : decode cX4_senses 25 = .ok (.idiv, 1) := by decide +kernel
theorem dX4_senses_26 : decode cX4_senses 26 = .ok (.istore 4, 2) := by decide +kernel
theorem dX4_senses_28 : decode cX4_senses 28 = .ok (.aload_n 0, 1) := by decide +kernel
theorem dX4_senses_29 : decode cX4_senses 29 = .ok (.iload_n 1, 1) := by decide +kernel
theorem dX4_senses_30 : decode cX4_senses 30 = .ok (.iconst 0, 1) := by decide +kernel
theorem dX4_senses_31 : decode cX4_senses 31 = .ok (.invokevirtual 82, 3) := by decide +kernel
theorem dX4_senses_34 : decode cX4_senses 34 = .ok (.tableswitch 66 1 5 #[34, 66, 45, 66, 50], 34) := by decide +kernel
theorem dX4_senses_68 : decode cX4_senses 68 = .ok (.iload_n 3, 1) := by decide +kernel
theorem dX4_senses_69 : decode cX4_senses 69 = .ok (.ifCond .ne 7, 3) := by decide +kernel
theorem dX4_senses_72 : decode cX4_senses 72 = .ok (.iconst 0, 1) := by decide +kernel
theorem dX4_senses_73 : decode cX4_senses 73 = .ok (.goto 5, 3) := by decide +kernel
theorem dX4_senses_76 : decode cX4_senses 76 = .ok (.iload 4, 2) := by decide +kernel
theorem dX4_senses_78 : decode cX4_senses 78 = .ok (.ireturn, 1) := by decide +kernel
theorem dX4_senses_79 : decode cX4_senses 79 = .ok (.iconst 2, 1) := by decide +kernel
theorem dX4_senses_80 : decode cX4_senses 80 = .ok (.iload 4, 2) := by decide +kernel
theorem dX4_senses_82 : decode cX4_senses 82 = .ok (.imul, 1) := by decide +kernel
theorem dX4_senses_83 : decode cX4_senses 83 = .ok (.ireturn, 1) := by decide +kernel
theorem dX4_senses_84 : decode cX4_senses 84 = .ok (.iload 4, 2) := by decide +kernel
theorem dX4_senses_86 : decode cX4_senses 86 = .ok (.ifCond .le 12, 3) := by decide +kernel
theorem dX4_senses_89 : decode cX4_senses 89 = .ok (.iconst 2, 1) := by decide +kernel
theorem dX4_senses_90 : decode cX4_senses 90 = .ok (.iload 4, 2) := by decide +kernel
theorem dX4_senses_92 : decode cX4_senses 92 = .ok (.imul, 1) := by decide +kernel
theorem dX4_senses_93 : decode cX4_senses 93 = .ok (.iconst 3, 1) := by decide +kernel
theorem dX4_senses_94 : decode cX4_senses 94 = .ok (.iadd, 1) := by decide +kernel
theorem dX4_senses_95 : decode cX4_senses 95 = .ok (.goto 4, 3) := by decide +kernel
theorem dX4_senses_98 : decode cX4_senses 98 = .ok (.iconst 0, 1) := by decide +kernel
theorem dX4_senses_99 : decode cX4_senses 99 = .ok (.ireturn, 1) := by decide +kernel
theorem dX4_senses_100 : decode cX4_senses 100 = .ok (.iload 4, 2) := by decide +kernel
theorem dX4_senses_102 : decode cX4_senses 102 = .ok (.ireturn, 1) := by decide +kernel
theorem dX4_smell_0 : decode cX4_smell 0 = .ok (.aload_n 0, 1) := by decide +kernel
theorem dX4_smell_1 : decode cX4_smell 1 = .ok (.iload_n 1, 1) := by decide +kernel
theorem dX4_smell_2 : decode cX4_smell 2 = .ok (.aload_n 0, 1) := by decide +kernel
theorem dX4_smell_3 : decode cX4_smell 3 = .ok (.iload_n 2, 1) := by decide +kernel
theorem dX4_smell_4 : decode cX4_smell 4 = .ok (.iload_n 3, 1) := by decide +kernel
theorem dX4_smell_5 : decode cX4_smell 5 = .ok (.invokevirtual 85, 3) := by decide +kernel
theorem dX4_smell_8 : decode cX4_smell 8 = .ok (.aload_n 0, 1) := by decide +kernel
theorem dX4_smell_9 : decode cX4_smell 9 = .ok (.iload_n 1, 1) := by decide +kernel
theorem dX4_smell_10 : decode cX4_smell 10 = .ok (.iload_n 2, 1) := by decide +kernel
theorem dX4_smell_11 : decode cX4_smell 11 = .ok (.invokevirtual 116, 3) := by decide +kernel
theorem dX4_smell_14 : decode cX4_smell 14 = .ok (.invokevirtual 119, 3) := by decide +kernel
theorem dX4_smell_17 : decode cX4_smell 17 = .ok (.istore 4, 2) := by decide +kernel
theorem dX4_smell_19 : decode cX4_smell 19 = .ok (.aload_n 0, 1) := by decide +kernel
theorem dX4_smell_20 : decode cX4_smell 20 = .ok (.iload_n 1, 1) := by decide +kernel
theorem dX4_smell_21 : decode cX4_smell 21 = .ok (.iload_n 2, 1) := by decide +kernel
theorem dX4_smell_22 : decode cX4_smell 22 = .ok (.invokevirtual 123, 3) := by decide +kernel
theorem dX4_smell_25 : decode cX4_smell 25 = .ok (.ifCond .eq 10, 3) := by decide +kernel
theorem dX4_smell_28 : decode cX4_smell 28 = .ok (.iconst 2, 1) := by decide +kernel
theorem dX4_smell_29 : decode cX4_smell 29 = .ok (.iload 4, 2) := by decide +kernel
theorem dX4_smell_31 : decode cX4_smell 31 = .ok (.imul, 1) := by decide +kernel
theorem dX4_smell_32 : decode cX4_smell 32 = .ok (.goto 21, 3) := by decide +kernel
theorem dX4_smell_35 : decode cX4_smell 35 = .ok (.aload_n 0, 1) := by decide +kernel
theorem dX4_smell_36 : decode cX4_smell 36 = .ok (.iload_n 2, 1) := by decide +kernel
theorem dX4_smell_37 : decode cX4_smell 37 = .ok (.iload_n 1, 1) := by decide +kernel
theorem dX4_smell_38 : decode cX4_smell 38 = .ok (.invokevirtual 123, 3) := by decide +kernel
theorem dX4_smell_41 : decode cX4_smell 41 = .ok (.ifCond .eq 10, 3) := by decide +kernel
theorem dX4_smell_44 : decode cX4_smell 44 = .ok (.iload 4, 2) := by decide +kernel
theorem dX4_smell_46 : decode cX4_smell 46 = .ok (.iconst 2, 1) := by decide +kernel
theorem dX4_smell_47 : decode cX4_smell 47 = .ok (.idiv, 1) := by decide +kernel
theorem dX4_smell_48 : decode cX4_smell 48 = .ok (.goto 5, 3) := by decide +kernel
theorem dX4_smell_51 : decode cX4_smell 51 = .ok (.iload 4, 2) := by decide +kernel
theorem dX4_smell_53 : decode cX4_smell 53 = .ok (.ireturn, 1) := by decide +kernel
theorem dX4_smells_0 : decode cX4_smells 0 = .ok (.aload_n 0, 1) := by decide +kernel
theorem dX4_smells_1 : decode cX4_smells 1 = .ok (.iload_n 1, 1) := by decide +kernel
theorem dX4_smells_2 : decode cX4_smells 2 = .ok (.iload_n 2, 1) := by decide +kernel
theorem dX4_smells_3 : decode cX4_smells 3 = .ok (.invokevirtual 107, 3) := by decide +kernel
theorem dX4_smells_6 : decode cX4_smells 6 = .ok (.ifCond .eq 20, 3) := by decide +kernel
theorem dX4_smells_9 : decode cX4_smells 9 = .ok (.iload_n 3, 1) := by decide +kernel
theorem dX4_smells_10 : decode cX4_smells 10 = .ok (.invokestatic 96, 3) := by decide +kernel
theorem dX4_smells_13 : decode cX4_smells 13 = .ok (.ifCond .eq 13, 3) := by decide +kernel
theorem dX4_smells_16 : decode cX4_smells 16 = .ok (.aload_n 0, 1) := by decide +kernel
theorem dX4_smells_17 : decode cX4_smells 17 = .ok (.iload_n 1, 1) := by decide +kernel
theorem dX4_smells_18 : decode cX4_smells 18 = .ok (.iload_n 2, 1) := by decide +kernel
theorem dX4_smells_19 : decode cX4_smells 19 = .ok (.iload_n 3, 1) := by decide +kernel
theorem dX4_smells_20 : decode cX4_smells 20 = .ok (.invokevirtual 126, 3) := by decide +kernel
theorem dX4_smells_23 : decode cX4_smells 23 = .ok (.goto 9, 3) := by decide +kernel
theorem dX4_smells_26 : decode cX4_smells 26 = .ok (.aload_n 0, 1) := by decide +kernel
theorem dX4_smells_27 : decode cX4_smells 27 = .ok (.ldc 44, 2) := by decide +kernel
theorem dX4_smells_29 : decode cX4_smells 29 = .ok (.invokevirtual 68, 3) := by decide +kernel
theorem dX4_smells_32 : decode cX4_smells 32 = .ok (.ireturn, 1) := by decide +kernel
theorem dX4_deed_0 : decode cX4_deed 0 = .ok (.aload_n 0, 1) := by decide +kernel
theorem dX4_deed_1 : decode cX4_deed 1 = .ok (.iload_n 1, 1) := by decide +kernel
theorem dX4_deed_2 : decode cX4_deed 2 = .ok (.iload_n 2, 1) := by decide +kernel
theorem dX4_deed_3 : decode cX4_deed 3 = .ok (.invokevirtual 107, 3) := by decide +kernel
theorem dX4_deed_6 : decode cX4_deed 6 = .ok (.ifCond .ne 10, 3) := by decide +kernel
theorem dX4_deed_9 : decode cX4_deed 9 = .ok (.aload_n 0, 1) := by decide +kernel
theorem dX4_deed_10 : decode cX4_deed 10 = .ok (.ldc 44, 2) := by decide +kernel
theorem dX4_deed_12 : decode cX4_deed 12 = .ok (.invokevirtual 68, 3) := by decide +kernel
theorem dX4_deed_15 : decode cX4_deed 15 = .ok (.ireturn, 1) := by decide +kernel
theorem dX4_deed_16 : decode cX4_deed 16 = .ok (.iconst (-1), 1) := by decide +kernel
theorem dX4_deed_17 : decode cX4_deed 17 = .ok (.istore_n 3, 1) := by decide +kernel
theorem dX4_deed_18 : decode cX4_deed 18 = .ok (.iconst 0, 1) := by decide +kernel
theorem dX4_deed_19 : decode cX4_deed 19 = .ok (.istore 4, 2) := by decide +kernel
theorem dX4_deed_21 : decode cX4_deed 21 = .ok (.iconst 0, 1) := by decide +kernel
theorem dX4_deed_22 : decode cX4_deed 22 = .ok (.istore 5, 2) := by decide +kernel
theorem dX4_deed_24 : decode cX4_deed 24 = .ok (.iload 5, 2) := by decide +kernel
theorem dX4_deed_26 : decode cX4_deed 26 = .ok (.bipush 6, 2) := by decide +kernel
theorem dX4_deed_28 : decode cX4_deed 28 = .ok (.if_icmp .ge 49, 3) := by decide +kernel
theorem dX4_deed_31 : decode cX4_deed 31 = .ok (.aload_n 0, 1) := by decide +kernel
theorem dX4_deed_32 : decode cX4_deed 32 = .ok (.iload_n 1, 1) := by decide +kernel
theorem dX4_deed_33 : decode cX4_deed 33 = .ok (.iload_n 2, 1) := by decide +kernel
theorem dX4_deed_34 : decode cX4_deed 34 = .ok (.iload 5, 2) := by decide +kernel
theorem dX4_deed_36 : decode cX4_deed 36 = .ok (.invokevirtual 126, 3) := by decide +kernel
theorem dX4_deed_39 : decode cX4_deed 39 = .ok (.istore 6, 2) := by decide +kernel
theorem dX4_deed_41 : decode cX4_deed 41 = .ok (.iload 6, 2) := by decide +kernel
theorem dX4_deed_43 : decode cX4_deed 43 = .ok (.iload 4, 2) := by decide +kernel
theorem dX4_deed_45 : decode cX4_deed 45 = .ok (.if_icmp .le 8, 3) := by decide +kernel
theorem dX4_deed_48 : decode cX4_deed 48 = .ok (.iload 5, 2) := by decide +kernel
theorem dX4_deed_50 : decode cX4_deed 50 = .ok (.goto 4, 3) := by decide +kernel
theorem dX4_deed_53 : decode cX4_deed 53 = .ok (.iload_n 3, 1) := by decide +kernel
theorem dX4_deed_54 : decode cX4_deed 54 = .ok (.istore_n 3, 1) := by decide +kernel
theorem dX4_deed_55 : decode cX4_deed 55 = .ok (.iload 6, 2) := by decide +kernel
theorem dX4_deed_57 : decode cX4_deed 57 = .ok (.iload 4, 2) := by decide +kernel
theorem dX4_deed_59 : decode cX4_deed 59 = .ok (.if_icmp .le 8, 3) := by decide +kernel
theorem dX4_deed_62 : decode cX4_deed 62 = .ok (.iload 6, 2) := by decide +kernel
theorem dX4_deed_64 : decode cX4_deed 64 = .ok (.goto 5, 3) := by decide +kernel
theorem dX4_deed_67 : decode cX4_deed 67 = .ok (.iload 4, 2) := by decide +kernel
theorem dX4_deed_69 : decode cX4_deed 69 = .ok (.istore 4, 2) := by decide +kernel
theorem dX4_deed_71 : decode cX4_deed 71 = .ok (.iinc 5 1, 3) := by decide +kernel
theorem dX4_deed_74 : decode cX4_deed 74 = .ok (.goto (-50), 3) := by decide +kernel
theorem dX4_deed_77 : decode cX4_deed 77 = .ok (.iload_n 3, 1) := by decide +kernel
theorem dX4_deed_78 : decode cX4_deed 78 = .ok (.ifCond .ge 12, 3) := by decide +kernel
theorem dX4_deed_81 : decode cX4_deed 81 = .ok (.aload_n 0, 1) := by decide +kernel
theorem dX4_deed_82 : decode cX4_deed 82 = .ok (.ldc 129, 2) := by decide +kernel
theorem dX4_deed_84 : decode cX4_deed 84 = .ok (.invokevirtual 68, 3) := by decide +kernel
theorem dX4_deed_87 : decode cX4_deed 87 = .ok (.goto 4, 3) := by decide +kernel
theorem dX4_deed_90 : decode cX4_deed 90 = .ok (.iload_n 3, 1) := by decide +kernel
theorem dX4_deed_91 : decode cX4_deed 91 = .ok (.ireturn, 1) := by decide +kernel
theorem dX4_isFound_0 : decode cX4_isFound 0 = .ok (.aload_n 0, 1) := by decide +kernel
theorem dX4_isFound_1 : decode cX4_isFound 1 = .ok (.iload_n 1, 1) := by decide +kernel
theorem dX4_isFound_2 : decode cX4_isFound 2 = .ok (.iconst 0, 1) := by decide +kernel
theorem dX4_isFound_3 : decode cX4_isFound 3 = .ok (.invokevirtual 82, 3) := by decide +kernel
theorem dX4_isFound_6 : decode cX4_isFound 6 = .ok (.istore_n 3, 1) := by decide +kernel
theorem dX4_isFound_7 : decode cX4_isFound 7 = .ok (.iload_n 1, 1) := by decide +kernel
theorem dX4_isFound_8 : decode cX4_isFound 8 = .ok (.iload_n 2, 1) := by decide +kernel
theorem dX4_isFound_9 : decode cX4_isFound 9 = .ok (.if_icmp .eq 23, 3) := by decide +kernel
theorem dX4_isFound_12 : decode cX4_isFound 12 = .ok (.iload_n 3, 1) := by decide +kernel
theorem dX4_isFound_13 : decode cX4_isFound 13 = .ok (.iconst 2, 1) := by decide +kernel
theorem dX4_isFound_14 : decode cX4_isFound 14 = .ok (.if_icmp .eq 8, 3) := by decide +kernel
theorem dX4_isFound_17 : decode cX4_isFound 17 = .ok (.iload_n 3, 1) := by decide +kernel
theorem dX4_isFound_18 : decode cX4_isFound 18 = .ok (.iconst 4, 1) := by decide +kernel
theorem dX4_isFound_19 : decode cX4_isFound 19 = .ok (.if_icmp .ne 15, 3) := by decide +kernel
theorem dX4_isFound_22 : decode cX4_isFound 22 = .ok (.aload_n 0, 1) := by decide +kernel
theorem dX4_isFound_23 : decode cX4_isFound 23 = .ok (.iload_n 1, 1) := by decide +kernel
theorem dX4_isFound_24 : decode cX4_isFound 24 = .ok (.iload_n 2, 1) := by decide +kernel
theorem dX4_isFound_25 : decode cX4_isFound 25 = .ok (.invokevirtual 116, 3) := by decide +kernel
theorem dX4_isFound_28 : decode cX4_isFound 28 = .ok (.iconst 1, 1) := by decide +kernel
theorem dX4_isFound_29 : decode cX4_isFound 29 = .ok (.if_icmp .gt 5, 3) := by decide +kernel
theorem dX4_isFound_32 : decode cX4_isFound 32 = .ok (.iconst 0, 1) := by decide +kernel
theorem dX4_isFound_33 : decode cX4_isFound 33 = .ok (.ireturn, 1) := by decide +kernel
theorem dX4_isFound_34 : decode cX4_isFound 34 = .ok (.iconst 0, 1) := by decide +kernel
theorem dX4_isFound_35 : decode cX4_isFound 35 = .ok (.istore 4, 2) := by decide +kernel
theorem dX4_isFound_37 : decode cX4_isFound 37 = .ok (.iconst 0, 1) := by decide +kernel
theorem dX4_isFound_38 : decode cX4_isFound 38 = .ok (.istore 5, 2) := by decide +kernel
theorem dX4_isFound_40 : decode cX4_isFound 40 = .ok (.iload 5, 2) := by decide +kernel
theorem dX4_isFound_42 : decode cX4_isFound 42 = .ok (.bipush 6, 2) := by decide +kernel
theorem dX4_isFound_44 : decode cX4_isFound 44 = .ok (.if_icmp .ge 38, 3) := by decide +kernel
theorem dX4_isFound_47 : decode cX4_isFound 47 = .ok (.iload 4, 2) := by decide +kernel
theorem dX4_isFound_49 : decode cX4_isFound 49 = .ok (.ifCond .ne 33, 3) := by decide +kernel
theorem dX4_isFound_52 : decode cX4_isFound 52 = .ok (.aload_n 0, 1) := by decide +kernel
theorem dX4_isFound_53 : decode cX4_isFound 53 = .ok (.iload_n 1, 1) := by decide +kernel
theorem dX4_isFound_54 : decode cX4_isFound 54 = .ok (.iload_n 2, 1) := by decide +kernel
theorem dX4_isFound_55 : decode cX4_isFound 55 = .ok (.iload 5, 2) := by decide +kernel
theorem dX4_isFound_57 : decode cX4_isFound 57 = .ok (.invokevirtual 126, 3) := by decide +kernel
theorem dX4_isFound_60 : decode cX4_isFound 60 = .ok (.aload_n 0, 1) := by decide +kernel
theorem dX4_isFound_61 : decode cX4_isFound 61 = .ok (.getfield 7, 3) := by decide +kernel
theorem dX4_isFound_64 : decode cX4_isFound 64 = .ok (.iconst 3, 1) := by decide +kernel
theorem dX4_isFound_65 : decode cX4_isFound 65 = .ok (.iaload, 1) := by decide +kernel
theorem dX4_isFound_66 : decode cX4_isFound 66 = .ok (.if_icmp .lt 7, 3) := by decide +kernel
theorem dX4_isFound_69 : decode cX4_isFound 69 = .ok (.iconst 1, 1) := by decide +kernel
theorem dX4_isFound_70 : decode cX4_isFound 70 = .ok (.goto 4, 3) := by decide +kernel
theorem dX4_isFound_73 : decode cX4_isFound 73 = .ok (.iconst 0, 1) := by decide +kernel
theorem dX4_isFound_74 : decode cX4_isFound 74 = .ok (.istore 4, 2) := by decide +kernel
theorem dX4_isFound_76 : decode cX4_isFound 76 = .ok (.iinc 5 1, 3) := by decide +kernel
theorem dX4_isFound_79 : decode cX4_isFound 79 = .ok (.goto (-39), 3) := by decide +kernel
theorem dX4_isFound_82 : decode cX4_isFound 82 = .ok (.iload 4, 2) := by decide +kernel
theorem dX4_isFound_84 : decode cX4_isFound 84 = .ok (.ireturn, 1) := by decide +kernel
theorem dX4_finders_0 : decode cX4_finders 0 = .ok (.iconst 0, 1) := by decide +kernel
theorem dX4_finders_1 : decode cX4_finders 1 = .ok (.istore_n 2, 1) := by decide +kernel
theorem dX4_finders_2 : decode cX4_finders 2 = .ok (.iconst 0, 1) := by decide +kernel
theorem dX4_finders_3 : decode cX4_finders 3 = .ok (.istore_n 3, 1) := by decide +kernel
theorem dX4_finders_4 : decode cX4_finders 4 = .ok (.iload_n 3, 1) := by decide +kernel
theorem dX4_finders_5 : decode cX4_finders 5 = .ok (.aload_n 0, 1) := by decide +kernel
theorem dX4_finders_6 : decode cX4_finders 6 = .ok (.getfield 7, 3) := by decide +kernel
theorem dX4_finders_9 : decode cX4_finders 9 = .ok (.iconst 0, 1) := by decide +kernel
theorem dX4_finders_10 : decode cX4_finders 10 = .ok (.iaload, 1) := by decide +kernel
theorem dX4_finders_11 : decode cX4_finders 11 = .ok (.if_icmp .ge 28, 3) := by decide +kernel
theorem dX4_finders_14 : decode cX4_finders 14 = .ok (.iload_n 2, 1) := by decide +kernel
theorem dX4_finders_15 : decode cX4_finders 15 = .ok (.aload_n 0, 1) := by decide +kernel
theorem dX4_finders_16 : decode cX4_finders 16 = .ok (.iload_n 3, 1) := by decide +kernel
theorem dX4_finders_17 : decode cX4_finders 17 = .ok (.iload_n 1, 1) := by decide +kernel
theorem dX4_finders_18 : decode cX4_finders 18 = .ok (.invokevirtual 130, 3) := by decide +kernel
theorem dX4_finders_21 : decode cX4_finders 21 = .ok (.ifCond .eq 9, 3) := by decide +kernel
theorem dX4_finders_24 : decode cX4_finders 24 = .ok (.iconst 1, 1) := by decide +kernel
theorem dX4_finders_25 : decode cX4_finders 25 = .ok (.iload_n 3, 1) := by decide +kernel
theorem dX4_finders_26 : decode cX4_finders 26 = .ok (.ishl, 1) := by decide +kernel
theorem dX4_finders_27 : decode cX4_finders 27 = .ok (.goto 4, 3) := by decide +kernel
theorem dX4_finders_30 : decode cX4_finders 30 = .ok (.iconst 0, 1) := by decide +kernel
theorem dX4_finders_31 : decode cX4_finders 31 = .ok (.ior, 1) := by decide +kernel
theorem dX4_finders_32 : decode cX4_finders 32 = .ok (.istore_n 2, 1) := by decide +kernel
theorem dX4_finders_33 : decode cX4_finders 33 = .ok (.iinc 3 1, 3) := by decide +kernel
theorem dX4_finders_36 : decode cX4_finders 36 = .ok (.goto (-32), 3) := by decide +kernel
theorem dX4_finders_39 : decode cX4_finders 39 = .ok (.iload_n 2, 1) := by decide +kernel
theorem dX4_finders_40 : decode cX4_finders 40 = .ok (.ireturn, 1) := by decide +kernel
theorem dX4_ones_0 : decode cX4_ones 0 = .ok (.iconst 0, 1) := by decide +kernel
theorem dX4_ones_1 : decode cX4_ones 1 = .ok (.istore_n 1, 1) := by decide +kernel
theorem dX4_ones_2 : decode cX4_ones 2 = .ok (.iload_n 0, 1) := by decide +kernel
theorem dX4_ones_3 : decode cX4_ones 3 = .ok (.istore_n 2, 1) := by decide +kernel
theorem dX4_ones_4 : decode cX4_ones 4 = .ok (.iload_n 2, 1) := by decide +kernel
theorem dX4_ones_5 : decode cX4_ones 5 = .ok (.ifCond .eq 15, 3) := by decide +kernel
theorem dX4_ones_8 : decode cX4_ones 8 = .ok (.iinc 1 1, 3) := by decide +kernel
theorem dX4_ones_11 : decode cX4_ones 11 = .ok (.iload_n 2, 1) := by decide +kernel
theorem dX4_ones_12 : decode cX4_ones 12 = .ok (.iload_n 2, 1) := by decide +kernel
theorem dX4_ones_13 : decode cX4_ones 13 = .ok (.iconst 1, 1) := by decide +kernel
theorem dX4_ones_14 : decode cX4_ones 14 = .ok (.isub, 1) := by decide +kernel
theorem dX4_ones_15 : decode cX4_ones 15 = .ok (.iand, 1) := by decide +kernel
theorem dX4_ones_16 : decode cX4_ones 16 = .ok (.istore_n 2, 1) := by decide +kernel
theorem dX4_ones_17 : decode cX4_ones 17 = .ok (.goto (-13), 3) := by decide +kernel
theorem dX4_ones_20 : decode cX4_ones 20 = .ok (.iload_n 1, 1) := by decide +kernel
theorem dX4_ones_21 : decode cX4_ones 21 = .ok (.ireturn, 1) := by decide +kernel
theorem dX4_findersMany_0 : decode cX4_findersMany 0 = .ok (.aload_n 0, 1) := by decide +kernel
theorem dX4_findersMany_1 : decode cX4_findersMany 1 = .ok (.iload_n 1, 1) := by decide +kernel
theorem dX4_findersMany_2 : decode cX4_findersMany 2 = .ok (.invokevirtual 133, 3) := by decide +kernel
theorem dX4_findersMany_5 : decode cX4_findersMany 5 = .ok (.invokestatic 136, 3) := by decide +kernel
theorem dX4_findersMany_8 : decode cX4_findersMany 8 = .ok (.ireturn, 1) := by decide +kernel
theorem dX4_guilty_0 : decode cX4_guilty 0 = .ok (.aload_n 0, 1) := by decide +kernel
theorem dX4_guilty_1 : decode cX4_guilty 1 = .ok (.iload_n 1, 1) := by decide +kernel
theorem dX4_guilty_2 : decode cX4_guilty 2 = .ok (.invokevirtual 51, 3) := by decide +kernel
theorem dX4_guilty_5 : decode cX4_guilty 5 = .ok (.ifCond .eq 11, 3) := by decide +kernel
theorem dX4_guilty_8 : decode cX4_guilty 8 = .ok (.aload_n 0, 1) := by decide +kernel
theorem dX4_guilty_9 : decode cX4_guilty 9 = .ok (.iload_n 1, 1) := by decide +kernel
theorem dX4_guilty_10 : decode cX4_guilty 10 = .ok (.invokevirtual 133, 3) := by decide +kernel
theorem dX4_guilty_13 : decode cX4_guilty 13 = .ok (.goto 9, 3) := by decide +kernel
theorem dX4_guilty_16 : decode cX4_guilty 16 = .ok (.aload_n 0, 1) := by decide +kernel
theorem dX4_guilty_17 : decode cX4_guilty 17 = .ok (.ldc 44, 2) := by decide +kernel
theorem dX4_guilty_19 : decode cX4_guilty 19 = .ok (.invokevirtual 68, 3) := by decide +kernel
theorem dX4_guilty_22 : decode cX4_guilty 22 = .ok (.ireturn, 1) := by decide +kernel
theorem dX4_isConvicted_0 : decode cX4_isConvicted 0 = .ok (.iconst 2, 1) := by decide +kernel
theorem dX4_isConvicted_1 : decode cX4_isConvicted 1 = .ok (.iload_n 0, 1) := by decide +kernel
theorem dX4_isConvicted_2 : decode cX4_isConvicted 2 = .ok (.iload_n 1, 1) := by decide +kernel
theorem dX4_isConvicted_3 : decode cX4_isConvicted 3 = .ok (.iand, 1) := by decide +kernel
theorem dX4_isConvicted_4 : decode cX4_isConvicted 4 = .ok (.invokestatic 136, 3) := by decide +kernel
theorem dX4_isConvicted_7 : decode cX4_isConvicted 7 = .ok (.imul, 1) := by decide +kernel
theorem dX4_isConvicted_8 : decode cX4_isConvicted 8 = .ok (.iload_n 0, 1) := by decide +kernel
theorem dX4_isConvicted_9 : decode cX4_isConvicted 9 = .ok (.invokestatic 136, 3) := by decide +kernel
theorem dX4_isConvicted_12 : decode cX4_isConvicted 12 = .ok (.if_icmp .le 7, 3) := by decide +kernel
theorem dX4_isConvicted_15 : decode cX4_isConvicted 15 = .ok (.iconst 1, 1) := by decide +kernel
theorem dX4_isConvicted_16 : decode cX4_isConvicted 16 = .ok (.goto 4, 3) := by decide +kernel
theorem dX4_isConvicted_19 : decode cX4_isConvicted 19 = .ok (.iconst 0, 1) := by decide +kernel
theorem dX4_isConvicted_20 : decode cX4_isConvicted 20 = .ok (.ireturn, 1) := by decide +kernel
theorem dX4_convicts_0 : decode cX4_convicts 0 = .ok (.iload_n 1, 1) := by decide +kernel
theorem dX4_convicts_1 : decode cX4_convicts 1 = .ok (.i2l, 1) := by decide +kernel
theorem dX4_convicts_2 : decode cX4_convicts 2 = .ok (.lconst 1, 1) := by decide +kernel
theorem dX4_convicts_3 : decode cX4_convicts 3 = .ok (.iconst 1, 1) := by decide +kernel
theorem dX4_convicts_4 : decode cX4_convicts 4 = .ok (.aload_n 0, 1) := by decide +kernel
theorem dX4_convicts_5 : decode cX4_convicts 5 = .ok (.getfield 7, 3) := by decide +kernel
theorem dX4_convicts_8 : decode cX4_convicts 8 = .ok (.iconst 0, 1) := by decide +kernel
theorem dX4_convicts_9 : decode cX4_convicts 9 = .ok (.iaload, 1) := by decide +kernel
theorem dX4_convicts_10 : decode cX4_convicts 10 = .ok (.ishl, 1) := by decide +kernel
theorem dX4_convicts_11 : decode cX4_convicts 11 = .ok (.iconst 1, 1) := by decide +kernel
theorem dX4_convicts_12 : decode cX4_convicts 12 = .ok (.isub, 1) := by decide +kernel
theorem dX4_convicts_13 : decode cX4_convicts 13 = .ok (.i2l, 1) := by decide +kernel
theorem dX4_convicts_14 : decode cX4_convicts 14 = .ok (.invokestatic 47, 3) := by decide +kernel
theorem dX4_convicts_17 : decode cX4_convicts 17 = .ok (.ifCond .eq 11, 3) := by decide +kernel
theorem dX4_convicts_20 : decode cX4_convicts 20 = .ok (.aload_n 0, 1) := by decide +kernel
theorem dX4_convicts_21 : decode cX4_convicts 21 = .ok (.iload_n 2, 1) := by decide +kernel
theorem dX4_convicts_22 : decode cX4_convicts 22 = .ok (.invokevirtual 51, 3) := by decide +kernel
theorem dX4_convicts_25 : decode cX4_convicts 25 = .ok (.ifCond .ne 10, 3) := by decide +kernel
theorem dX4_convicts_28 : decode cX4_convicts 28 = .ok (.aload_n 0, 1) := by decide +kernel
theorem dX4_convicts_29 : decode cX4_convicts 29 = .ok (.ldc 44, 2) := by decide +kernel
theorem dX4_convicts_31 : decode cX4_convicts 31 = .ok (.invokevirtual 68, 3) := by decide +kernel
theorem dX4_convicts_34 : decode cX4_convicts 34 = .ok (.ireturn, 1) := by decide +kernel
theorem dX4_convicts_35 : decode cX4_convicts 35 = .ok (.iload_n 1, 1) := by decide +kernel
theorem dX4_convicts_36 : decode cX4_convicts 36 = .ok (.iload_n 2, 1) := by decide +kernel
theorem dX4_convicts_37 : decode cX4_convicts 37 = .ok (.ishr, 1) := by decide +kernel
theorem dX4_convicts_38 : decode cX4_convicts 38 = .ok (.iconst 1, 1) := by decide +kernel
theorem dX4_convicts_39 : decode cX4_convicts 39 = .ok (.iand, 1) := by decide +kernel
theorem dX4_convicts_40 : decode cX4_convicts 40 = .ok (.iconst 1, 1) := by decide +kernel
theorem dX4_convicts_41 : decode cX4_convicts 41 = .ok (.if_icmp .ne 10, 3) := by decide +kernel
theorem dX4_convicts_44 : decode cX4_convicts 44 = .ok (.aload_n 0, 1) := by decide +kernel
theorem dX4_convicts_45 : decode cX4_convicts 45 = .ok (.ldc 139, 2) := by decide +kernel
theorem dX4_convicts_47 : decode cX4_convicts 47 = .ok (.invokevirtual 68, 3) := by decide +kernel
theorem dX4_convicts_50 : decode cX4_convicts 50 = .ok (.ireturn, 1) := by decide +kernel
theorem dX4_convicts_51 : decode cX4_convicts 51 = .ok (.iload_n 1, 1) := by decide +kernel
theorem dX4_convicts_52 : decode cX4_convicts 52 = .ok (.aload_n 0, 1) := by decide +kernel
theorem dX4_convicts_53 : decode cX4_convicts 53 = .ok (.iload_n 2, 1) := by decide +kernel
theorem dX4_convicts_54 : decode cX4_convicts 54 = .ok (.invokevirtual 133, 3) := by decide +kernel
theorem dX4_convicts_57 : decode cX4_convicts 57 = .ok (.invokestatic 140, 3) := by decide +kernel
theorem dX4_convicts_60 : decode cX4_convicts 60 = .ok (.ifCond .eq 7, 3) := by decide +kernel
theorem dX4_convicts_63 : decode cX4_convicts 63 = .ok (.iconst 1, 1) := by decide +kernel
theorem dX4_convicts_64 : decode cX4_convicts 64 = .ok (.goto 4, 3) := by decide +kernel
theorem dX4_convicts_67 : decode cX4_convicts 67 = .ok (.iconst 0, 1) := by decide +kernel
theorem dX4_convicts_68 : decode cX4_convicts 68 = .ok (.ireturn, 1) := by decide +kernel
theorem dX4_greatestBy_0 : decode cX4_greatestBy 0 = .ok (.iconst 0, 1) := by decide +kernel
theorem dX4_greatestBy_1 : decode cX4_greatestBy 1 = .ok (.istore_n 3, 1) := by decide +kernel
theorem dX4_greatestBy_2 : decode cX4_greatestBy 2 = .ok (.iconst 0, 1) := by decide +kernel
theorem dX4_greatestBy_3 : decode cX4_greatestBy 3 = .ok (.istore 4, 2) := by decide +kernel
theorem dX4_greatestBy_5 : decode cX4_greatestBy 5 = .ok (.iload 4, 2) := by decide +kernel
theorem dX4_greatestBy_7 : decode cX4_greatestBy 7 = .ok (.aload_n 0, 1) := by decide +kernel
theorem dX4_greatestBy_8 : decode cX4_greatestBy 8 = .ok (.getfield 7, 3) := by decide +kernel
theorem dX4_greatestBy_11 : decode cX4_greatestBy 11 = .ok (.iconst 0, 1) := by decide +kernel
theorem dX4_greatestBy_12 : decode cX4_greatestBy 12 = .ok (.iaload, 1) := by decide +kernel
theorem dX4_greatestBy_13 : decode cX4_greatestBy 13 = .ok (.if_icmp .ge 70, 3) := by decide +kernel
theorem dX4_greatestBy_16 : decode cX4_greatestBy 16 = .ok (.iload 4, 2) := by decide +kernel
theorem dX4_greatestBy_18 : decode cX4_greatestBy 18 = .ok (.iload_n 1, 1) := by decide +kernel
theorem dX4_greatestBy_19 : decode cX4_greatestBy 19 = .ok (.if_icmp .eq 36, 3) := by decide +kernel
theorem dX4_greatestBy_22 : decode cX4_greatestBy 22 = .ok (.aload_n 0, 1) := by decide +kernel
theorem dX4_greatestBy_23 : decode cX4_greatestBy 23 = .ok (.iload 4, 2) := by decide +kernel
theorem dX4_greatestBy_25 : decode cX4_greatestBy 25 = .ok (.iconst 1, 1) := by decide +kernel
theorem dX4_greatestBy_26 : decode cX4_greatestBy 26 = .ok (.invokevirtual 82, 3) := by decide +kernel
theorem dX4_greatestBy_29 : decode cX4_greatestBy 29 = .ok (.aload_n 0, 1) := by decide +kernel
theorem dX4_greatestBy_30 : decode cX4_greatestBy 30 = .ok (.iload_n 1, 1) := by decide +kernel
theorem dX4_greatestBy_31 : decode cX4_greatestBy 31 = .ok (.iconst 1, 1) := by decide +kernel
theorem dX4_greatestBy_32 : decode cX4_greatestBy 32 = .ok (.invokevirtual 82, 3) := by decide +kernel
theorem dX4_greatestBy_35 : decode cX4_greatestBy 35 = .ok (.if_icmp .ne 20, 3) := by decide +kernel
theorem dX4_greatestBy_38 : decode cX4_greatestBy 38 = .ok (.aload_n 0, 1) := by decide +kernel
theorem dX4_greatestBy_39 : decode cX4_greatestBy 39 = .ok (.iload 4, 2) := by decide +kernel
theorem dX4_greatestBy_41 : decode cX4_greatestBy 41 = .ok (.iconst 4, 1) := by decide +kernel
theorem dX4_greatestBy_42 : decode cX4_greatestBy 42 = .ok (.iload_n 2, 1) := by decide +kernel
theorem dX4_greatestBy_43 : decode cX4_greatestBy 43 = .ok (.iadd, 1) := by decide +kernel
theorem dX4_greatestBy_44 : decode cX4_greatestBy 44 = .ok (.invokevirtual 82, 3) := by decide +kernel
theorem dX4_greatestBy_47 : decode cX4_greatestBy 47 = .ok (.iload_n 3, 1) := by decide +kernel
theorem dX4_greatestBy_48 : decode cX4_greatestBy 48 = .ok (.if_icmp .le 7, 3) := by decide +kernel
theorem dX4_greatestBy_51 : decode cX4_greatestBy 51 = .ok (.iconst 1, 1) := by decide +kernel
theorem dX4_greatestBy_52 : decode cX4_greatestBy 52 = .ok (.goto 4, 3) := by decide +kernel
theorem dX4_greatestBy_55 : decode cX4_greatestBy 55 = .ok (.iconst 0, 1) := by decide +kernel
theorem dX4_greatestBy_56 : decode cX4_greatestBy 56 = .ok (.istore 5, 2) := by decide +kernel
theorem dX4_greatestBy_58 : decode cX4_greatestBy 58 = .ok (.iload 5, 2) := by decide +kernel
theorem dX4_greatestBy_60 : decode cX4_greatestBy 60 = .ok (.ifCond .eq 15, 3) := by decide +kernel
theorem dX4_greatestBy_63 : decode cX4_greatestBy 63 = .ok (.aload_n 0, 1) := by decide +kernel
theorem dX4_greatestBy_64 : decode cX4_greatestBy 64 = .ok (.iload 4, 2) := by decide +kernel
theorem dX4_greatestBy_66 : decode cX4_greatestBy 66 = .ok (.iconst 4, 1) := by decide +kernel
theorem dX4_greatestBy_67 : decode cX4_greatestBy 67 = .ok (.iload_n 2, 1) := by decide +kernel
theorem dX4_greatestBy_68 : decode cX4_greatestBy 68 = .ok (.iadd, 1) := by decide +kernel
theorem dX4_greatestBy_69 : decode cX4_greatestBy 69 = .ok (.invokevirtual 82, 3) := by decide +kernel
theorem dX4_greatestBy_72 : decode cX4_greatestBy 72 = .ok (.goto 4, 3) := by decide +kernel
theorem dX4_greatestBy_75 : decode cX4_greatestBy 75 = .ok (.iload_n 3, 1) := by decide +kernel
theorem dX4_greatestBy_76 : decode cX4_greatestBy 76 = .ok (.istore_n 3, 1) := by decide +kernel
theorem dX4_greatestBy_77 : decode cX4_greatestBy 77 = .ok (.iinc 4 1, 3) := by decide +kernel
theorem dX4_greatestBy_80 : decode cX4_greatestBy 80 = .ok (.goto (-75), 3) := by decide +kernel
theorem dX4_greatestBy_83 : decode cX4_greatestBy 83 = .ok (.iload_n 3, 1) := by decide +kernel
theorem dX4_greatestBy_84 : decode cX4_greatestBy 84 = .ok (.ireturn, 1) := by decide +kernel
theorem dX4_leftOf_0 : decode cX4_leftOf 0 = .ok (.aload_n 0, 1) := by decide +kernel
theorem dX4_leftOf_1 : decode cX4_leftOf 1 = .ok (.iload_n 1, 1) := by decide +kernel
theorem dX4_leftOf_2 : decode cX4_leftOf 2 = .ok (.iconst 4, 1) := by decide +kernel
theorem dX4_leftOf_3 : decode cX4_leftOf 3 = .ok (.iload_n 2, 1) := by decide +kernel
theorem dX4_leftOf_4 : decode cX4_leftOf 4 = .ok (.iadd, 1) := by decide +kernel
theorem dX4_leftOf_5 : decode cX4_leftOf 5 = .ok (.invokevirtual 82, 3) := by decide +kernel
theorem dX4_leftOf_8 : decode cX4_leftOf 8 = .ok (.istore_n 3, 1) := by decide +kernel
theorem dX4_leftOf_9 : decode cX4_leftOf 9 = .ok (.iload_n 2, 1) := by decide +kernel
theorem dX4_leftOf_10 : decode cX4_leftOf 10 = .ok (.iconst 5, 1) := by decide +kernel
theorem dX4_leftOf_11 : decode cX4_leftOf 11 = .ok (.if_icmp .ne 11, 3) := by decide +kernel
theorem dX4_leftOf_14 : decode cX4_leftOf 14 = .ok (.iload_n 3, 1) := by decide +kernel
theorem dX4_leftOf_15 : decode cX4_leftOf 15 = .ok (.iload_n 3, 1) := by decide +kernel
theorem dX4_leftOf_16 : decode cX4_leftOf 16 = .ok (.iconst 2, 1) := by decide +kernel
theorem dX4_leftOf_17 : decode cX4_leftOf 17 = .ok (.idiv, 1) := by decide +kernel
theorem dX4_leftOf_18 : decode cX4_leftOf 18 = .ok (.isub, 1) := by decide +kernel
theorem dX4_leftOf_19 : decode cX4_leftOf 19 = .ok (.goto 11, 3) := by decide +kernel
theorem dX4_leftOf_22 : decode cX4_leftOf 22 = .ok (.iload_n 3, 1) := by decide +kernel
theorem dX4_leftOf_23 : decode cX4_leftOf 23 = .ok (.iload_n 3, 1) := by decide +kernel
theorem dX4_leftOf_24 : decode cX4_leftOf 24 = .ok (.bipush 10, 2) := by decide +kernel
theorem dX4_leftOf_26 : decode cX4_leftOf 26 = .ok (.idiv, 1) := by decide +kernel
theorem dX4_leftOf_27 : decode cX4_leftOf 27 = .ok (.isub, 1) := by decide +kernel
theorem dX4_leftOf_28 : decode cX4_leftOf 28 = .ok (.iconst 1, 1) := by decide +kernel
theorem dX4_leftOf_29 : decode cX4_leftOf 29 = .ok (.isub, 1) := by decide +kernel
theorem dX4_leftOf_30 : decode cX4_leftOf 30 = .ok (.istore 4, 2) := by decide +kernel
theorem dX4_leftOf_32 : decode cX4_leftOf 32 = .ok (.iload 4, 2) := by decide +kernel
theorem dX4_leftOf_34 : decode cX4_leftOf 34 = .ok (.ifCond .ge 7, 3) := by decide +kernel
theorem dX4_leftOf_37 : decode cX4_leftOf 37 = .ok (.iconst 0, 1) := by decide +kernel
theorem dX4_leftOf_38 : decode cX4_leftOf 38 = .ok (.goto 5, 3) := by decide +kernel
theorem dX4_leftOf_41 : decode cX4_leftOf 41 = .ok (.iload 4, 2) := by decide +kernel
theorem dX4_leftOf_43 : decode cX4_leftOf 43 = .ok (.ireturn, 1) := by decide +kernel
theorem dX4_hour_0 : decode cX4_hour 0 = .ok (.iconst 0, 1) := by decide +kernel
theorem dX4_hour_1 : decode cX4_hour 1 = .ok (.istore_n 1, 1) := by decide +kernel
theorem dX4_hour_2 : decode cX4_hour 2 = .ok (.iload_n 1, 1) := by decide +kernel
theorem dX4_hour_3 : decode cX4_hour 3 = .ok (.bipush 6, 2) := by decide +kernel
theorem dX4_hour_5 : decode cX4_hour 5 = .ok (.aload_n 0, 1) := by decide +kernel
theorem dX4_hour_6 : decode cX4_hour 6 = .ok (.getfield 7, 3) := by decide +kernel
theorem dX4_hour_9 : decode cX4_hour 9 = .ok (.iconst 0, 1) := by decide +kernel
theorem dX4_hour_10 : decode cX4_hour 10 = .ok (.iaload, 1) := by decide +kernel
theorem dX4_hour_11 : decode cX4_hour 11 = .ok (.imul, 1) := by decide +kernel
theorem dX4_hour_12 : decode cX4_hour 12 = .ok (.if_icmp .ge 53, 3) := by decide +kernel
theorem dX4_hour_15 : decode cX4_hour 15 = .ok (.aload_n 0, 1) := by decide +kernel
theorem dX4_hour_16 : decode cX4_hour 16 = .ok (.iload_n 1, 1) := by decide +kernel
theorem dX4_hour_17 : decode cX4_hour 17 = .ok (.bipush 6, 2) := by decide +kernel
theorem dX4_hour_19 : decode cX4_hour 19 = .ok (.idiv, 1) := by decide +kernel
theorem dX4_hour_20 : decode cX4_hour 20 = .ok (.iload_n 1, 1) := by decide +kernel
theorem dX4_hour_21 : decode cX4_hour 21 = .ok (.bipush 6, 2) := by decide +kernel
theorem dX4_hour_23 : decode cX4_hour 23 = .ok (.irem, 1) := by decide +kernel
theorem dX4_hour_24 : decode cX4_hour 24 = .ok (.invokevirtual 143, 3) := by decide +kernel
theorem dX4_hour_27 : decode cX4_hour 27 = .ok (.istore_n 2, 1) := by decide +kernel
theorem dX4_hour_28 : decode cX4_hour 28 = .ok (.aload_n 0, 1) := by decide +kernel
theorem dX4_hour_29 : decode cX4_hour 29 = .ok (.iload_n 1, 1) := by decide +kernel
theorem dX4_hour_30 : decode cX4_hour 30 = .ok (.bipush 6, 2) := by decide +kernel
theorem dX4_hour_32 : decode cX4_hour 32 = .ok (.idiv, 1) := by decide +kernel
theorem dX4_hour_33 : decode cX4_hour 33 = .ok (.iload_n 1, 1) := by decide +kernel
theorem dX4_hour_34 : decode cX4_hour 34 = .ok (.bipush 6, 2) := by decide +kernel
theorem dX4_hour_36 : decode cX4_hour 36 = .ok (.irem, 1) := by decide +kernel
theorem dX4_hour_37 : decode cX4_hour 37 = .ok (.invokevirtual 146, 3) := by decide +kernel
theorem dX4_hour_40 : decode cX4_hour 40 = .ok (.iconst 4, 1) := by decide +kernel
theorem dX4_hour_41 : decode cX4_hour 41 = .ok (.idiv, 1) := by decide +kernel
theorem dX4_hour_42 : decode cX4_hour 42 = .ok (.istore_n 3, 1) := by decide +kernel
theorem dX4_hour_43 : decode cX4_hour 43 = .ok (.aload_n 0, 1) := by decide +kernel
theorem dX4_hour_44 : decode cX4_hour 44 = .ok (.getfield 25, 3) := by decide +kernel
theorem dX4_hour_47 : decode cX4_hour 47 = .ok (.iload_n 1, 1) := by decide +kernel
theorem dX4_hour_48 : decode cX4_hour 48 = .ok (.iload_n 3, 1) := by decide +kernel
theorem dX4_hour_49 : decode cX4_hour 49 = .ok (.iload_n 2, 1) := by decide +kernel
theorem dX4_hour_50 : decode cX4_hour 50 = .ok (.if_icmp .le 7, 3) := by decide +kernel
theorem dX4_hour_53 : decode cX4_hour 53 = .ok (.iload_n 3, 1) := by decide +kernel
theorem dX4_hour_54 : decode cX4_hour 54 = .ok (.goto 4, 3) := by decide +kernel
theorem dX4_hour_57 : decode cX4_hour 57 = .ok (.iload_n 2, 1) := by decide +kernel
theorem dX4_hour_58 : decode cX4_hour 58 = .ok (.iastore, 1) := by decide +kernel
theorem dX4_hour_59 : decode cX4_hour 59 = .ok (.iinc 1 1, 3) := by decide +kernel
theorem dX4_hour_62 : decode cX4_hour 62 = .ok (.goto (-60), 3) := by decide +kernel
theorem dX4_hour_65 : decode cX4_hour 65 = .ok (.iconst 0, 1) := by decide +kernel
theorem dX4_hour_66 : decode cX4_hour 66 = .ok (.istore_n 1, 1) := by decide +kernel
theorem dX4_hour_67 : decode cX4_hour 67 = .ok (.iload_n 1, 1) := by decide +kernel
theorem dX4_hour_68 : decode cX4_hour 68 = .ok (.bipush 6, 2) := by decide +kernel
theorem dX4_hour_70 : decode cX4_hour 70 = .ok (.aload_n 0, 1) := by decide +kernel
theorem dX4_hour_71 : decode cX4_hour 71 = .ok (.getfield 7, 3) := by decide +kernel
theorem dX4_hour_74 : decode cX4_hour 74 = .ok (.iconst 0, 1) := by decide +kernel
theorem dX4_hour_75 : decode cX4_hour 75 = .ok (.iaload, 1) := by decide +kernel
theorem dX4_hour_76 : decode cX4_hour 76 = .ok (.imul, 1) := by decide +kernel
theorem dX4_hour_77 : decode cX4_hour 77 = .ok (.if_icmp .ge 33, 3) := by decide +kernel
theorem dX4_hour_80 : decode cX4_hour 80 = .ok (.aload_n 0, 1) := by decide +kernel
theorem dX4_hour_81 : decode cX4_hour 81 = .ok (.getfield 7, 3) := by decide +kernel
theorem dX4_hour_84 : decode cX4_hour 84 = .ok (.iload_n 1, 1) := by decide +kernel
theorem dX4_hour_85 : decode cX4_hour 85 = .ok (.bipush 6, 2) := by decide +kernel
theorem dX4_hour_87 : decode cX4_hour 87 = .ok (.idiv, 1) := by decide +kernel
theorem dX4_hour_88 : decode cX4_hour 88 = .ok (.iconst 4, 1) := by decide +kernel
theorem dX4_hour_89 : decode cX4_hour 89 = .ok (.iload_n 1, 1) := by decide +kernel
theorem dX4_hour_90 : decode cX4_hour 90 = .ok (.bipush 6, 2) := by decide +kernel
theorem dX4_hour_92 : decode cX4_hour 92 = .ok (.irem, 1) := by decide +kernel
theorem dX4_hour_93 : decode cX4_hour 93 = .ok (.iadd, 1) := by decide +kernel
theorem dX4_hour_94 : decode cX4_hour 94 = .ok (.invokestatic 57, 3) := by decide +kernel
theorem dX4_hour_97 : decode cX4_hour 97 = .ok (.aload_n 0, 1) := by decide +kernel
theorem dX4_hour_98 : decode cX4_hour 98 = .ok (.getfield 25, 3) := by decide +kernel
theorem dX4_hour_101 : decode cX4_hour 101 = .ok (.iload_n 1, 1) := by decide +kernel
theorem dX4_hour_102 : decode cX4_hour 102 = .ok (.iaload, 1) := by decide +kernel
theorem dX4_hour_103 : decode cX4_hour 103 = .ok (.iastore, 1) := by decide +kernel
theorem dX4_hour_104 : decode cX4_hour 104 = .ok (.iinc 1 1, 3) := by decide +kernel
theorem dX4_hour_107 : decode cX4_hour 107 = .ok (.goto (-40), 3) := by decide +kernel
theorem dX4_hour_110 : decode cX4_hour 110 = .ok (.aload_n 0, 1) := by decide +kernel
theorem dX4_hour_111 : decode cX4_hour 111 = .ok (.getfield 7, 3) := by decide +kernel
theorem dX4_hour_114 : decode cX4_hour 114 = .ok (.iconst 1, 1) := by decide +kernel
theorem dX4_hour_115 : decode cX4_hour 115 = .ok (.dup2, 1) := by decide +kernel
theorem dX4_hour_116 : decode cX4_hour 116 = .ok (.iaload, 1) := by decide +kernel
theorem dX4_hour_117 : decode cX4_hour 117 = .ok (.iconst 1, 1) := by decide +kernel
theorem dX4_hour_118 : decode cX4_hour 118 = .ok (.iadd, 1) := by decide +kernel
theorem dX4_hour_119 : decode cX4_hour 119 = .ok (.iastore, 1) := by decide +kernel
theorem dX4_hour_120 : decode cX4_hour 120 = .ok (.return_, 1) := by decide +kernel
theorem dX4_goesOn_0 : decode cX4_goesOn 0 = .ok (.iconst 0, 1) := by decide +kernel
theorem dX4_goesOn_1 : decode cX4_goesOn 1 = .ok (.istore_n 2, 1) := by decide +kernel
theorem dX4_goesOn_2 : decode cX4_goesOn 2 = .ok (.iload_n 2, 1) := by decide +kernel
theorem dX4_goesOn_3 : decode cX4_goesOn 3 = .ok (.iload_n 1, 1) := by decide +kernel
theorem dX4_goesOn_4 : decode cX4_goesOn 4 = .ok (.if_icmp .ge 13, 3) := by decide +kernel
theorem dX4_goesOn_7 : decode cX4_goesOn 7 = .ok (.aload_n 0, 1) := by decide +kernel
theorem dX4_goesOn_8 : decode cX4_goesOn 8 = .ok (.invokevirtual 149, 3) := by decide +kernel
theorem dX4_goesOn_11 : decode cX4_goesOn 11 = .ok (.iinc 2 1, 3) := by decide +kernel
theorem dX4_goesOn_14 : decode cX4_goesOn 14 = .ok (.goto (-12), 3) := by decide +kernel
theorem dX4_goesOn_17 : decode cX4_goesOn 17 = .ok (.return_, 1) := by decide +kernel
theorem dX4_scentsAll_0 : decode cX4_scentsAll 0 = .ok (.iconst 0, 1) := by decide +kernel
theorem dX4_scentsAll_1 : decode cX4_scentsAll 1 = .ok (.istore_n 1, 1) := by decide +kernel
theorem dX4_scentsAll_2 : decode cX4_scentsAll 2 = .ok (.iconst 0, 1) := by decide +kernel
theorem dX4_scentsAll_3 : decode cX4_scentsAll 3 = .ok (.istore_n 2, 1) := by decide +kernel
theorem dX4_scentsAll_4 : decode cX4_scentsAll 4 = .ok (.iload_n 2, 1) := by decide +kernel
theorem dX4_scentsAll_5 : decode cX4_scentsAll 5 = .ok (.aload_n 0, 1) := by decide +kernel
theorem dX4_scentsAll_6 : decode cX4_scentsAll 6 = .ok (.getfield 7, 3) := by decide +kernel
theorem dX4_scentsAll_9 : decode cX4_scentsAll 9 = .ok (.iconst 0, 1) := by decide +kernel
theorem dX4_scentsAll_10 : decode cX4_scentsAll 10 = .ok (.iaload, 1) := by decide +kernel
theorem dX4_scentsAll_11 : decode cX4_scentsAll 11 = .ok (.if_icmp .ge 17, 3) := by decide +kernel
theorem dX4_scentsAll_14 : decode cX4_scentsAll 14 = .ok (.iload_n 1, 1) := by decide +kernel
theorem dX4_scentsAll_15 : decode cX4_scentsAll 15 = .ok (.aload_n 0, 1) := by decide +kernel
theorem dX4_scentsAll_16 : decode cX4_scentsAll 16 = .ok (.iload_n 2, 1) := by decide +kernel
theorem dX4_scentsAll_17 : decode cX4_scentsAll 17 = .ok (.invokevirtual 88, 3) := by decide +kernel
theorem dX4_scentsAll_20 : decode cX4_scentsAll 20 = .ok (.iadd, 1) := by decide +kernel
theorem dX4_scentsAll_21 : decode cX4_scentsAll 21 = .ok (.istore_n 1, 1) := by decide +kernel
theorem dX4_scentsAll_22 : decode cX4_scentsAll 22 = .ok (.iinc 2 1, 3) := by decide +kernel
theorem dX4_scentsAll_25 : decode cX4_scentsAll 25 = .ok (.goto (-21), 3) := by decide +kernel
theorem dX4_scentsAll_28 : decode cX4_scentsAll 28 = .ok (.iload_n 1, 1) := by decide +kernel
theorem dX4_scentsAll_29 : decode cX4_scentsAll 29 = .ok (.ireturn, 1) := by decide +kernel
theorem dX4_hours_0 : decode cX4_hours 0 = .ok (.iload_n 1, 1) := by decide +kernel
theorem dX4_hours_1 : decode cX4_hours 1 = .ok (.i2l, 1) := by decide +kernel
theorem dX4_hours_2 : decode cX4_hours 2 = .ok (.lconst 1, 1) := by decide +kernel
theorem dX4_hours_3 : decode cX4_hours 3 = .ok (.ldc2_w 152, 3) := by decide +kernel
theorem dX4_hours_6 : decode cX4_hours 6 = .ok (.invokestatic 47, 3) := by decide +kernel
theorem dX4_hours_9 : decode cX4_hours 9 = .ok (.ifCond .ne 10, 3) := by decide +kernel
theorem dX4_hours_12 : decode cX4_hours 12 = .ok (.aload_n 0, 1) := by decide +kernel
theorem dX4_hours_13 : decode cX4_hours 13 = .ok (.ldc 44, 2) := by decide +kernel
theorem dX4_hours_15 : decode cX4_hours 15 = .ok (.invokevirtual 68, 3) := by decide +kernel
theorem dX4_hours_18 : decode cX4_hours 18 = .ok (.ireturn, 1) := by decide +kernel
theorem dX4_hours_19 : decode cX4_hours 19 = .ok (.aload_n 0, 1) := by decide +kernel
theorem dX4_hours_20 : decode cX4_hours 20 = .ok (.getfield 7, 3) := by decide +kernel
theorem dX4_hours_23 : decode cX4_hours 23 = .ok (.iconst 1, 1) := by decide +kernel
theorem dX4_hours_24 : decode cX4_hours 24 = .ok (.iaload, 1) := by decide +kernel
theorem dX4_hours_25 : decode cX4_hours 25 = .ok (.iload_n 1, 1) := by decide +kernel
theorem dX4_hours_26 : decode cX4_hours 26 = .ok (.iadd, 1) := by decide +kernel
theorem dX4_hours_27 : decode cX4_hours 27 = .ok (.sipush 9999, 3) := by decide +kernel
theorem dX4_hours_30 : decode cX4_hours 30 = .ok (.if_icmp .le 10, 3) := by decide +kernel
theorem dX4_hours_33 : decode cX4_hours 33 = .ok (.aload_n 0, 1) := by decide +kernel
theorem dX4_hours_34 : decode cX4_hours 34 = .ok (.ldc 139, 2) := by decide +kernel
theorem dX4_hours_36 : decode cX4_hours 36 = .ok (.invokevirtual 68, 3) := by decide +kernel
theorem dX4_hours_39 : decode cX4_hours 39 = .ok (.ireturn, 1) := by decide +kernel
theorem dX4_hours_40 : decode cX4_hours 40 = .ok (.aload_n 0, 1) := by decide +kernel
theorem dX4_hours_41 : decode cX4_hours 41 = .ok (.iload_n 1, 1) := by decide +kernel
theorem dX4_hours_42 : decode cX4_hours 42 = .ok (.invokevirtual 154, 3) := by decide +kernel
theorem dX4_hours_45 : decode cX4_hours 45 = .ok (.aload_n 0, 1) := by decide +kernel
theorem dX4_hours_46 : decode cX4_hours 46 = .ok (.invokevirtual 158, 3) := by decide +kernel
theorem dX4_hours_49 : decode cX4_hours 49 = .ok (.ireturn, 1) := by decide +kernel
theorem dX4_allGuilty_0 : decode cX4_allGuilty 0 = .ok (.iconst 0, 1) := by decide +kernel
theorem dX4_allGuilty_1 : decode cX4_allGuilty 1 = .ok (.istore_n 1, 1) := by decide +kernel
theorem dX4_allGuilty_2 : decode cX4_allGuilty 2 = .ok (.iconst 0, 1) := by decide +kernel
theorem dX4_allGuilty_3 : decode cX4_allGuilty 3 = .ok (.istore_n 2, 1) := by decide +kernel
theorem dX4_allGuilty_4 : decode cX4_allGuilty 4 = .ok (.iload_n 2, 1) := by decide +kernel
theorem dX4_allGuilty_5 : decode cX4_allGuilty 5 = .ok (.aload_n 0, 1) := by decide +kernel
theorem dX4_allGuilty_6 : decode cX4_allGuilty 6 = .ok (.getfield 7, 3) := by decide +kernel
theorem dX4_allGuilty_9 : decode cX4_allGuilty 9 = .ok (.iconst 0, 1) := by decide +kernel
theorem dX4_allGuilty_10 : decode cX4_allGuilty 10 = .ok (.iaload, 1) := by decide +kernel
theorem dX4_allGuilty_11 : decode cX4_allGuilty 11 = .ok (.if_icmp .ge 27, 3) := by decide +kernel
theorem dX4_allGuilty_14 : decode cX4_allGuilty 14 = .ok (.iload_n 1, 1) := by decide +kernel
theorem dX4_allGuilty_15 : decode cX4_allGuilty 15 = .ok (.aload_n 0, 1) := by decide +kernel
theorem dX4_allGuilty_16 : decode cX4_allGuilty 16 = .ok (.iload_n 2, 1) := by decide +kernel
theorem dX4_allGuilty_17 : decode cX4_allGuilty 17 = .ok (.invokevirtual 133, 3) := by decide +kernel
theorem dX4_allGuilty_20 : decode cX4_allGuilty 20 = .ok (.ifCond .eq 9, 3) := by decide +kernel
theorem dX4_allGuilty_23 : decode cX4_allGuilty 23 = .ok (.iconst 1, 1) := by decide +kernel
theorem dX4_allGuilty_24 : decode cX4_allGuilty 24 = .ok (.iload_n 2, 1) := by decide +kernel
theorem dX4_allGuilty_25 : decode cX4_allGuilty 25 = .ok (.ishl, 1) := by decide +kernel
theorem dX4_allGuilty_26 : decode cX4_allGuilty 26 = .ok (.goto 4, 3) := by decide +kernel
theorem dX4_allGuilty_29 : decode cX4_allGuilty 29 = .ok (.iconst 0, 1) := by decide +kernel
theorem dX4_allGuilty_30 : decode cX4_allGuilty 30 = .ok (.ior, 1) := by decide +kernel
theorem dX4_allGuilty_31 : decode cX4_allGuilty 31 = .ok (.istore_n 1, 1) := by decide +kernel
theorem dX4_allGuilty_32 : decode cX4_allGuilty 32 = .ok (.iinc 2 1, 3) := by decide +kernel
theorem dX4_allGuilty_35 : decode cX4_allGuilty 35 = .ok (.goto (-31), 3) := by decide +kernel
theorem dX4_allGuilty_38 : decode cX4_allGuilty 38 = .ok (.iload_n 1, 1) := by decide +kernel
theorem dX4_allGuilty_39 : decode cX4_allGuilty 39 = .ok (.ireturn, 1) := by decide +kernel
theorem dX4_now_0 : decode cX4_now 0 = .ok (.iload_n 1, 1) := by decide +kernel
theorem dX4_now_1 : decode cX4_now 1 = .ok (.tableswitch 66 0 4 #[35, 42, 49, 56, 61], 35) := by decide +kernel
theorem dX4_now_36 : decode cX4_now 36 = .ok (.aload_n 0, 1) := by decide +kernel
theorem dX4_now_37 : decode cX4_now 37 = .ok (.getfield 7, 3) := by decide +kernel
theorem dX4_now_40 : decode cX4_now 40 = .ok (.iconst 1, 1) := by decide +kernel
theorem dX4_now_41 : decode cX4_now 41 = .ok (.iaload, 1) := by decide +kernel
theorem dX4_now_42 : decode cX4_now 42 = .ok (.ireturn, 1) := by decide +kernel
theorem dX4_now_43 : decode cX4_now 43 = .ok (.aload_n 0, 1) := by decide +kernel
theorem dX4_now_44 : decode cX4_now 44 = .ok (.getfield 7, 3) := by decide +kernel
theorem dX4_now_47 : decode cX4_now 47 = .ok (.iconst 2, 1) := by decide +kernel
theorem dX4_now_48 : decode cX4_now 48 = .ok (.iaload, 1) := by decide +kernel
theorem dX4_now_49 : decode cX4_now 49 = .ok (.ireturn, 1) := by decide +kernel
theorem dX4_now_50 : decode cX4_now 50 = .ok (.aload_n 0, 1) := by decide +kernel
theorem dX4_now_51 : decode cX4_now 51 = .ok (.getfield 7, 3) := by decide +kernel
theorem dX4_now_54 : decode cX4_now 54 = .ok (.iconst 3, 1) := by decide +kernel
theorem dX4_now_55 : decode cX4_now 55 = .ok (.iaload, 1) := by decide +kernel
theorem dX4_now_56 : decode cX4_now 56 = .ok (.ireturn, 1) := by decide +kernel
theorem dX4_now_57 : decode cX4_now 57 = .ok (.aload_n 0, 1) := by decide +kernel
theorem dX4_now_58 : decode cX4_now 58 = .ok (.invokevirtual 158, 3) := by decide +kernel
theorem dX4_now_61 : decode cX4_now 61 = .ok (.ireturn, 1) := by decide +kernel
theorem dX4_now_62 : decode cX4_now 62 = .ok (.aload_n 0, 1) := by decide +kernel
theorem dX4_now_63 : decode cX4_now 63 = .ok (.invokevirtual 162, 3) := by decide +kernel
theorem dX4_now_66 : decode cX4_now 66 = .ok (.ireturn, 1) := by decide +kernel
theorem dX4_now_67 : decode cX4_now 67 = .ok (.aload_n 0, 1) := by decide +kernel
theorem dX4_now_68 : decode cX4_now 68 = .ok (.ldc 44, 2) := by decide +kernel
theorem dX4_now_70 : decode cX4_now 70 = .ok (.invokevirtual 68, 3) := by decide +kernel
theorem dX4_now_73 : decode cX4_now 73 = .ok (.ireturn, 1) := by decide +kernel
theorem dX4_on_0 : decode cX4_on 0 = .ok (.aload_n 0, 1) := by decide +kernel
theorem dX4_on_1 : decode cX4_on 1 = .ok (.iload_n 1, 1) := by decide +kernel
theorem dX4_on_2 : decode cX4_on 2 = .ok (.invokevirtual 51, 3) := by decide +kernel
theorem dX4_on_5 : decode cX4_on 5 = .ok (.ifCond .eq 22, 3) := by decide +kernel
theorem dX4_on_8 : decode cX4_on 8 = .ok (.iload_n 2, 1) := by decide +kernel
theorem dX4_on_9 : decode cX4_on 9 = .ok (.invokestatic 96, 3) := by decide +kernel
theorem dX4_on_12 : decode cX4_on 12 = .ok (.ifCond .eq 15, 3) := by decide +kernel
theorem dX4_on_15 : decode cX4_on 15 = .ok (.iload_n 3, 1) := by decide +kernel
theorem dX4_on_16 : decode cX4_on 16 = .ok (.i2l, 1) := by decide +kernel
theorem dX4_on_17 : decode cX4_on 17 = .ok (.lconst 0, 1) := by decide +kernel
theorem dX4_on_18 : decode cX4_on 18 = .ok (.ldc2_w 152, 3) := by decide +kernel
theorem dX4_on_21 : decode cX4_on 21 = .ok (.invokestatic 47, 3) := by decide +kernel
theorem dX4_on_24 : decode cX4_on 24 = .ok (.ifCond .ne 10, 3) := by decide +kernel
theorem dX4_on_27 : decode cX4_on 27 = .ok (.aload_n 0, 1) := by decide +kernel
theorem dX4_on_28 : decode cX4_on 28 = .ok (.ldc 44, 2) := by decide +kernel
theorem dX4_on_30 : decode cX4_on 30 = .ok (.invokevirtual 68, 3) := by decide +kernel
theorem dX4_on_33 : decode cX4_on 33 = .ok (.ireturn, 1) := by decide +kernel
theorem dX4_on_34 : decode cX4_on 34 = .ok (.aload_n 0, 1) := by decide +kernel
theorem dX4_on_35 : decode cX4_on 35 = .ok (.invokevirtual 165, 3) := by decide +kernel
theorem dX4_on_38 : decode cX4_on 38 = .ok (.aload_n 0, 1) := by decide +kernel
theorem dX4_on_39 : decode cX4_on 39 = .ok (.iload_n 3, 1) := by decide +kernel
theorem dX4_on_40 : decode cX4_on 40 = .ok (.invokevirtual 154, 3) := by decide +kernel
theorem dX4_on_43 : decode cX4_on 43 = .ok (.aload_n 0, 1) := by decide +kernel
theorem dX4_on_44 : decode cX4_on 44 = .ok (.aload_n 0, 1) := by decide +kernel
theorem dX4_on_45 : decode cX4_on 45 = .ok (.iload_n 1, 1) := by decide +kernel
theorem dX4_on_46 : decode cX4_on 46 = .ok (.iconst 4, 1) := by decide +kernel
theorem dX4_on_47 : decode cX4_on 47 = .ok (.iload_n 2, 1) := by decide +kernel
theorem dX4_on_48 : decode cX4_on 48 = .ok (.iadd, 1) := by decide +kernel
theorem dX4_on_49 : decode cX4_on 49 = .ok (.invokevirtual 82, 3) := by decide +kernel
theorem dX4_on_52 : decode cX4_on 52 = .ok (.invokevirtual 168, 3) := by decide +kernel
theorem dX4_on_55 : decode cX4_on 55 = .ok (.ireturn, 1) := by decide +kernel
theorem dX4_clean_0 : decode cX4_clean 0 = .ok (.aload_n 0, 1) := by decide +kernel
theorem dX4_clean_1 : decode cX4_clean 1 = .ok (.iload_n 1, 1) := by decide +kernel
theorem dX4_clean_2 : decode cX4_clean 2 = .ok (.invokevirtual 51, 3) := by decide +kernel
theorem dX4_clean_5 : decode cX4_clean 5 = .ok (.ifCond .ne 10, 3) := by decide +kernel
theorem dX4_clean_8 : decode cX4_clean 8 = .ok (.aload_n 0, 1) := by decide +kernel
theorem dX4_clean_9 : decode cX4_clean 9 = .ok (.ldc 44, 2) := by decide +kernel
theorem dX4_clean_11 : decode cX4_clean 11 = .ok (.invokevirtual 68, 3) := by decide +kernel
theorem dX4_clean_14 : decode cX4_clean 14 = .ok (.ireturn, 1) := by decide +kernel
theorem dX4_clean_15 : decode cX4_clean 15 = .ok (.aload_n 0, 1) := by decide +kernel
theorem dX4_clean_16 : decode cX4_clean 16 = .ok (.invokevirtual 165, 3) := by decide +kernel
theorem dX4_clean_19 : decode cX4_clean 19 = .ok (.iconst 0, 1) := by decide +kernel
theorem dX4_clean_20 : decode cX4_clean 20 = .ok (.istore_n 2, 1) := by decide +kernel
theorem dX4_clean_21 : decode cX4_clean 21 = .ok (.iload_n 2, 1) := by decide +kernel
theorem dX4_clean_22 : decode cX4_clean 22 = .ok (.bipush 60, 2) := by decide +kernel
theorem dX4_clean_24 : decode cX4_clean 24 = .ok (.if_icmp .gt 21, 3) := by decide +kernel
theorem dX4_clean_27 : decode cX4_clean 27 = .ok (.aload_n 0, 1) := by decide +kernel
theorem dX4_clean_28 : decode cX4_clean 28 = .ok (.iload_n 1, 1) := by decide +kernel
theorem dX4_clean_29 : decode cX4_clean 29 = .ok (.invokevirtual 133, 3) := by decide +kernel
theorem dX4_clean_32 : decode cX4_clean 32 = .ok (.ifCond .eq 13, 3) := by decide +kernel
theorem dX4_clean_35 : decode cX4_clean 35 = .ok (.aload_n 0, 1) := by decide +kernel
theorem dX4_clean_36 : decode cX4_clean 36 = .ok (.invokevirtual 149, 3) := by decide +kernel
theorem dX4_clean_39 : decode cX4_clean 39 = .ok (.iinc 2 1, 3) := by decide +kernel
theorem dX4_clean_42 : decode cX4_clean 42 = .ok (.goto (-21), 3) := by decide +kernel
theorem dX4_clean_45 : decode cX4_clean 45 = .ok (.aload_n 0, 1) := by decide +kernel
theorem dX4_clean_46 : decode cX4_clean 46 = .ok (.iload_n 2, 1) := by decide +kernel
theorem dX4_clean_47 : decode cX4_clean 47 = .ok (.invokevirtual 168, 3) := by decide +kernel
theorem dX4_clean_50 : decode cX4_clean 50 = .ok (.istore_n 3, 1) := by decide +kernel
theorem dX4_clean_51 : decode cX4_clean 51 = .ok (.iload_n 3, 1) := by decide +kernel
theorem dX4_clean_52 : decode cX4_clean 52 = .ok (.bipush 60, 2) := by decide +kernel
theorem dX4_clean_54 : decode cX4_clean 54 = .ok (.if_icmp .le 12, 3) := by decide +kernel
theorem dX4_clean_57 : decode cX4_clean 57 = .ok (.aload_n 0, 1) := by decide +kernel
theorem dX4_clean_58 : decode cX4_clean 58 = .ok (.ldc 129, 2) := by decide +kernel
theorem dX4_clean_60 : decode cX4_clean 60 = .ok (.invokevirtual 68, 3) := by decide +kernel
theorem dX4_clean_63 : decode cX4_clean 63 = .ok (.goto 4, 3) := by decide +kernel
theorem dX4_clean_66 : decode cX4_clean 66 = .ok (.iload_n 3, 1) := by decide +kernel
theorem dX4_clean_67 : decode cX4_clean 67 = .ok (.ireturn, 1) := by decide +kernel
theorem dX4_leastBy_0 : decode cX4_leastBy 0 = .ok (.aload_n 0, 1) := by decide +kernel
theorem dX4_leastBy_1 : decode cX4_leastBy 1 = .ok (.getfield 7, 3) := by decide +kernel
theorem dX4_leastBy_4 : decode cX4_leastBy 4 = .ok (.iload_n 1, 1) := by decide +kernel
theorem dX4_leastBy_5 : decode cX4_leastBy 5 = .ok (.iaload, 1) := by decide +kernel
theorem dX4_leastBy_6 : decode cX4_leastBy 6 = .ok (.istore 4, 2) := by decide +kernel
theorem dX4_leastBy_8 : decode cX4_leastBy 8 = .ok (.iconst 0, 1) := by decide +kernel
theorem dX4_leastBy_9 : decode cX4_leastBy 9 = .ok (.istore 5, 2) := by decide +kernel
theorem dX4_leastBy_11 : decode cX4_leastBy 11 = .ok (.bipush 9, 2) := by decide +kernel
theorem dX4_leastBy_13 : decode cX4_leastBy 13 = .ok (.istore 6, 2) := by decide +kernel
theorem dX4_leastBy_15 : decode cX4_leastBy 15 = .ok (.iconst 0, 1) := by decide +kernel
theorem dX4_leastBy_16 : decode cX4_leastBy 16 = .ok (.istore 7, 2) := by decide +kernel
theorem dX4_leastBy_18 : decode cX4_leastBy 18 = .ok (.iload 7, 2) := by decide +kernel
theorem dX4_leastBy_20 : decode cX4_leastBy 20 = .ok (.iload_n 2, 1) := by decide +kernel
theorem dX4_leastBy_21 : decode cX4_leastBy 21 = .ok (.if_icmp .ge 56, 3) := by decide +kernel
theorem dX4_leastBy_24 : decode cX4_leastBy 24 = .ok (.aload_n 0, 1) := by decide +kernel
theorem dX4_leastBy_25 : decode cX4_leastBy 25 = .ok (.getfield 7, 3) := by decide +kernel
theorem dX4_leastBy_28 : decode cX4_leastBy 28 = .ok (.iload_n 1, 1) := by decide +kernel
theorem dX4_leastBy_29 : decode cX4_leastBy 29 = .ok (.iload 7, 2) := by decide +kernel
theorem dX4_leastBy_31 : decode cX4_leastBy 31 = .ok (.iastore, 1) := by decide +kernel
theorem dX4_leastBy_32 : decode cX4_leastBy 32 = .ok (.aload_n 0, 1) := by decide +kernel
theorem dX4_leastBy_33 : decode cX4_leastBy 33 = .ok (.iload_n 3, 1) := by decide +kernel
theorem dX4_leastBy_34 : decode cX4_leastBy 34 = .ok (.invokevirtual 171, 3) := by decide +kernel
theorem dX4_leastBy_37 : decode cX4_leastBy 37 = .ok (.istore 8, 2) := by decide +kernel
theorem dX4_leastBy_39 : decode cX4_leastBy 39 = .ok (.iload 8, 2) := by decide +kernel
theorem dX4_leastBy_41 : decode cX4_leastBy 41 = .ok (.iload 6, 2) := by decide +kernel
theorem dX4_leastBy_43 : decode cX4_leastBy 43 = .ok (.if_icmp .ge 8, 3) := by decide +kernel
theorem dX4_leastBy_46 : decode cX4_leastBy 46 = .ok (.iload 7, 2) := by decide +kernel
theorem dX4_leastBy_48 : decode cX4_leastBy 48 = .ok (.goto 5, 3) := by decide +kernel
theorem dX4_leastBy_51 : decode cX4_leastBy 51 = .ok (.iload 5, 2) := by decide +kernel
theorem dX4_leastBy_53 : decode cX4_leastBy 53 = .ok (.istore 5, 2) := by decide +kernel
theorem dX4_leastBy_55 : decode cX4_leastBy 55 = .ok (.iload 8, 2) := by decide +kernel
theorem dX4_leastBy_57 : decode cX4_leastBy 57 = .ok (.iload 6, 2) := by decide +kernel
theorem dX4_leastBy_59 : decode cX4_leastBy 59 = .ok (.if_icmp .ge 8, 3) := by decide +kernel
theorem dX4_leastBy_62 : decode cX4_leastBy 62 = .ok (.iload 8, 2) := by decide +kernel
theorem dX4_leastBy_64 : decode cX4_leastBy 64 = .ok (.goto 5, 3) := by decide +kernel
theorem dX4_leastBy_67 : decode cX4_leastBy 67 = .ok (.iload 6, 2) := by decide +kernel
theorem dX4_leastBy_69 : decode cX4_leastBy 69 = .ok (.istore 6, 2) := by decide +kernel
theorem dX4_leastBy_71 : decode cX4_leastBy 71 = .ok (.iinc 7 1, 3) := by decide +kernel
theorem dX4_leastBy_74 : decode cX4_leastBy 74 = .ok (.goto (-56), 3) := by decide +kernel
theorem dX4_leastBy_77 : decode cX4_leastBy 77 = .ok (.aload_n 0, 1) := by decide +kernel
theorem dX4_leastBy_78 : decode cX4_leastBy 78 = .ok (.getfield 7, 3) := by decide +kernel
theorem dX4_leastBy_81 : decode cX4_leastBy 81 = .ok (.iload_n 1, 1) := by decide +kernel
theorem dX4_leastBy_82 : decode cX4_leastBy 82 = .ok (.iload 4, 2) := by decide +kernel
theorem dX4_leastBy_84 : decode cX4_leastBy 84 = .ok (.iastore, 1) := by decide +kernel
theorem dX4_leastBy_85 : decode cX4_leastBy 85 = .ok (.iload 5, 2) := by decide +kernel
theorem dX4_leastBy_87 : decode cX4_leastBy 87 = .ok (.ireturn, 1) := by decide +kernel
theorem dX4_wind_0 : decode cX4_wind 0 = .ok (.aload_n 0, 1) := by decide +kernel
theorem dX4_wind_1 : decode cX4_wind 1 = .ok (.iload_n 1, 1) := by decide +kernel
theorem dX4_wind_2 : decode cX4_wind 2 = .ok (.invokevirtual 51, 3) := by decide +kernel
theorem dX4_wind_5 : decode cX4_wind 5 = .ok (.ifCond .eq 13, 3) := by decide +kernel
theorem dX4_wind_8 : decode cX4_wind 8 = .ok (.aload_n 0, 1) := by decide +kernel
theorem dX4_wind_9 : decode cX4_wind 9 = .ok (.iconst 2, 1) := by decide +kernel
theorem dX4_wind_10 : decode cX4_wind 10 = .ok (.iconst 5, 1) := by decide +kernel
theorem dX4_wind_11 : decode cX4_wind 11 = .ok (.iload_n 1, 1) := by decide +kernel
