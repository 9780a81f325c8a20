section
-- ===== PART A: goes FIRST, ahead of the names: the tables' words, and 'selects' of the private methods out of them =====
/-- a private method of a class that the tables say can be made, by its rows of tables_1 -/
def lw_okq (q : MethodName × Nat) : Prop := (q.1.cls ≠ "java/lang/invoke/MethodHandle" ∧ q.1.cls ≠ "java/lang/invoke/VarHandle") ∧ Cond.instantiable q.1.cls q.2 ∈ tables_1 ∧ Cond.privateMethod q.1 ∈ tables_1 ∧ Cond.instanceMethod q.1 ∈ tables_1
theorem lw_p0 : lw_okq (⟨"NoseJury", "tell", "(I)I"⟩, 7) := ⟨⟨by decide +kernel, by decide +kernel⟩, List.mem_of_getElem? (i := 14) (by decide +kernel), List.mem_of_getElem? (i := 154) (by decide +kernel), List.mem_of_getElem? (i := 155) (by decide +kernel)⟩
theorem lw_p1 : lw_okq (⟨"NoseJury$Hall", "isDownwind", "(II)Z"⟩, 10) := ⟨⟨by decide +kernel, by decide +kernel⟩, List.mem_of_getElem? (i := 22) (by decide +kernel), List.mem_of_getElem? (i := 263) (by decide +kernel), List.mem_of_getElem? (i := 264) (by decide +kernel)⟩
theorem lw_p2 : lw_okq (⟨"NoseJury$Hall", "fade", "(I)V"⟩, 10) := ⟨⟨by decide +kernel, by decide +kernel⟩, List.mem_of_getElem? (i := 22) (by decide +kernel), List.mem_of_getElem? (i := 312) (by decide +kernel), List.mem_of_getElem? (i := 313) (by decide +kernel)⟩
theorem lw_p3 : lw_okq (⟨"NoseJury", "fewestFind", "(III)I"⟩, 7) := ⟨⟨by decide +kernel, by decide +kernel⟩, List.mem_of_getElem? (i := 14) (by decide +kernel), List.mem_of_getElem? (i := 363) (by decide +kernel), List.mem_of_getElem? (i := 364) (by decide +kernel)⟩
theorem lw_p4 : lw_okq (⟨"NoseJury$Tape", "step", "()V"⟩, 6) := ⟨⟨by decide +kernel, by decide +kernel⟩, List.mem_of_getElem? (i := 77) (by decide +kernel), List.mem_of_getElem? (i := 429) (by decide +kernel), List.mem_of_getElem? (i := 430) (by decide +kernel)⟩
theorem lw_p5 : lw_okq (⟨"NoseJury$Tape", "passWord", "()V"⟩, 6) := ⟨⟨by decide +kernel, by decide +kernel⟩, List.mem_of_getElem? (i := 77) (by decide +kernel), List.mem_of_getElem? (i := 436) (by decide +kernel), List.mem_of_getElem? (i := 437) (by decide +kernel)⟩
theorem lw_p6 : lw_okq (⟨"NoseJury$Tape", "passNumber", "()V"⟩, 6) := ⟨⟨by decide +kernel, by decide +kernel⟩, List.mem_of_getElem? (i := 77) (by decide +kernel), List.mem_of_getElem? (i := 443) (by decide +kernel), List.mem_of_getElem? (i := 444) (by decide +kernel)⟩
theorem lw_p7 : lw_okq (⟨"NoseJury$Tape", "takesItem", "(LNoseJury$Hall;)Z"⟩, 6) := ⟨⟨by decide +kernel, by decide +kernel⟩, List.mem_of_getElem? (i := 77) (by decide +kernel), List.mem_of_getElem? (i := 450) (by decide +kernel), List.mem_of_getElem? (i := 451) (by decide +kernel)⟩
theorem lw_p8 : lw_okq (⟨"NoseJury$Tape", "isWord", "(Ljava/lang/String;)Z"⟩, 6) := ⟨⟨by decide +kernel, by decide +kernel⟩, List.mem_of_getElem? (i := 77) (by decide +kernel), List.mem_of_getElem? (i := 455) (by decide +kernel), List.mem_of_getElem? (i := 456) (by decide +kernel)⟩
theorem lw_p9 : lw_okq (⟨"NoseJury$Tape", "takesNumber", "(II)Z"⟩, 6) := ⟨⟨by decide +kernel, by decide +kernel⟩, List.mem_of_getElem? (i := 77) (by decide +kernel), List.mem_of_getElem? (i := 507) (by decide +kernel), List.mem_of_getElem? (i := 508) (by decide +kernel)⟩
theorem lw_p10 : lw_okq (⟨"NoseJury$Tape", "takesPerson", "(LNoseJury$Hall;)Z"⟩, 6) := ⟨⟨by decide +kernel, by decide +kernel⟩, List.mem_of_getElem? (i := 77) (by decide +kernel), List.mem_of_getElem? (i := 512) (by decide +kernel), List.mem_of_getElem? (i := 513) (by decide +kernel)⟩
theorem lw_p11 : lw_okq (⟨"NoseJury$Tape", "kindNamed", "()I"⟩, 6) := ⟨⟨by decide +kernel, by decide +kernel⟩, List.mem_of_getElem? (i := 77) (by decide +kernel), List.mem_of_getElem? (i := 516) (by decide +kernel), List.mem_of_getElem? (i := 517) (by decide +kernel)⟩
theorem lw_p12 : lw_okq (⟨"NoseJury$Tape", "takesDeed", "(LNoseJury$Hall;I)Z"⟩, 6) := ⟨⟨by decide +kernel, by decide +kernel⟩, List.mem_of_getElem? (i := 77) (by decide +kernel), List.mem_of_getElem? (i := 534) (by decide +kernel), List.mem_of_getElem? (i := 535) (by decide +kernel)⟩
theorem lw_p13 : lw_okq (⟨"NoseJury", "findingOfSheet", "(I)I"⟩, 7) := ⟨⟨by decide +kernel, by decide +kernel⟩, List.mem_of_getElem? (i := 14) (by decide +kernel), List.mem_of_getElem? (i := 555) (by decide +kernel), List.mem_of_getElem? (i := 556) (by decide +kernel)⟩
theorem lw_p14 : lw_okq (⟨"NoseJury", "findingOfBook", "(IIII)I"⟩, 7) := ⟨⟨by decide +kernel, by decide +kernel⟩, List.mem_of_getElem? (i := 14) (by decide +kernel), List.mem_of_getElem? (i := 582) (by decide +kernel), List.mem_of_getElem? (i := 583) (by decide +kernel)⟩
theorem lw_p15 : lw_okq (⟨"NoseJury", "isToldBy", "(LNoseJury$Sheet;III)Z"⟩, 7) := ⟨⟨by decide +kernel, by decide +kernel⟩, List.mem_of_getElem? (i := 14) (by decide +kernel), List.mem_of_getElem? (i := 590) (by decide +kernel), List.mem_of_getElem? (i := 591) (by decide +kernel)⟩
def lw_privs_1 : List (MethodName × Nat) := [(⟨"NoseJury", "tell", "(I)I"⟩, 7), (⟨"NoseJury$Hall", "isDownwind", "(II)Z"⟩, 10), (⟨"NoseJury$Hall", "fade", "(I)V"⟩, 10), (⟨"NoseJury", "fewestFind", "(III)I"⟩, 7), (⟨"NoseJury$Tape", "step", "()V"⟩, 6), (⟨"NoseJury$Tape", "passWord", "()V"⟩, 6), (⟨"NoseJury$Tape", "passNumber", "()V"⟩, 6), (⟨"NoseJury$Tape", "takesItem", "(LNoseJury$Hall;)Z"⟩, 6), (⟨"NoseJury$Tape", "isWord", "(Ljava/lang/String;)Z"⟩, 6), (⟨"NoseJury$Tape", "takesNumber", "(II)Z"⟩, 6), (⟨"NoseJury$Tape", "takesPerson", "(LNoseJury$Hall;)Z"⟩, 6), (⟨"NoseJury$Tape", "kindNamed", "()I"⟩, 6), (⟨"NoseJury$Tape", "takesDeed", "(LNoseJury$Hall;I)Z"⟩, 6), (⟨"NoseJury", "findingOfSheet", "(I)I"⟩, 7), (⟨"NoseJury", "findingOfBook", "(IIII)I"⟩, 7), (⟨"NoseJury", "isToldBy", "(LNoseJury$Sheet;III)Z"⟩, 7)]
theorem lw_r1 : ∀ q ∈ lw_privs_1, lw_okq q := List.forall_mem_cons.mpr ⟨lw_p0, List.forall_mem_cons.mpr ⟨lw_p1, List.forall_mem_cons.mpr ⟨lw_p2, List.forall_mem_cons.mpr ⟨lw_p3, List.forall_mem_cons.mpr ⟨lw_p4, List.forall_mem_cons.mpr ⟨lw_p5, List.forall_mem_cons.mpr ⟨lw_p6, List.forall_mem_cons.mpr ⟨lw_p7, List.forall_mem_cons.mpr ⟨lw_p8, List.forall_mem_cons.mpr ⟨lw_p9, List.forall_mem_cons.mpr ⟨lw_p10, List.forall_mem_cons.mpr ⟨lw_p11, List.forall_mem_cons.mpr ⟨lw_p12, List.forall_mem_cons.mpr ⟨lw_p13, List.forall_mem_cons.mpr ⟨lw_p14, List.forall_mem_cons.mpr ⟨lw_p15, fun _ h => absurd h List.not_mem_nil⟩⟩⟩⟩⟩⟩⟩⟩⟩⟩⟩⟩⟩⟩⟩⟩
theorem lw_p16 : lw_okq (⟨"NoseJuryModel", "becomes", "(II)I"⟩, 19) := ⟨⟨by decide +kernel, by decide +kernel⟩, List.mem_of_getElem? (i := 615) (by decide +kernel), List.mem_of_getElem? (i := 688) (by decide +kernel), List.mem_of_getElem? (i := 689) (by decide +kernel)⟩
theorem lw_p17 : lw_okq (⟨"NoseJuryModel", "finds", "(I)I"⟩, 19) := ⟨⟨by decide +kernel, by decide +kernel⟩, List.mem_of_getElem? (i := 615) (by decide +kernel), List.mem_of_getElem? (i := 693) (by decide +kernel), List.mem_of_getElem? (i := 694) (by decide +kernel)⟩
theorem lw_p18 : lw_okq (⟨"NoseJuryModel", "adds", "(II)I"⟩, 19) := ⟨⟨by decide +kernel, by decide +kernel⟩, List.mem_of_getElem? (i := 615) (by decide +kernel), List.mem_of_getElem? (i := 710) (by decide +kernel), List.mem_of_getElem? (i := 711) (by decide +kernel)⟩
theorem lw_p19 : lw_okq (⟨"NoseJuryModel", "isPerson", "(I)Z"⟩, 19) := ⟨⟨by decide +kernel, by decide +kernel⟩, List.mem_of_getElem? (i := 615) (by decide +kernel), List.mem_of_getElem? (i := 721) (by decide +kernel), List.mem_of_getElem? (i := 722) (by decide +kernel)⟩
theorem lw_p20 : lw_okq (⟨"NoseJuryModel", "its", "(II)I"⟩, 19) := ⟨⟨by decide +kernel, by decide +kernel⟩, List.mem_of_getElem? (i := 615) (by decide +kernel), List.mem_of_getElem? (i := 725) (by decide +kernel), List.mem_of_getElem? (i := 726) (by decide +kernel)⟩
theorem lw_p21 : lw_okq (⟨"NoseJuryModel", "scentsOf", "(I)I"⟩, 19) := ⟨⟨by decide +kernel, by decide +kernel⟩, List.mem_of_getElem? (i := 615) (by decide +kernel), List.mem_of_getElem? (i := 729) (by decide +kernel), List.mem_of_getElem? (i := 730) (by decide +kernel)⟩
theorem lw_p22 : lw_okq (⟨"NoseJuryModel", "givesOffAll", "(I)I"⟩, 19) := ⟨⟨by decide +kernel, by decide +kernel⟩, List.mem_of_getElem? (i := 615) (by decide +kernel), List.mem_of_getElem? (i := 733) (by decide +kernel), List.mem_of_getElem? (i := 734) (by decide +kernel)⟩
theorem lw_p23 : lw_okq (⟨"NoseJuryModel", "givesOff", "(II)I"⟩, 19) := ⟨⟨by decide +kernel, by decide +kernel⟩, List.mem_of_getElem? (i := 615) (by decide +kernel), List.mem_of_getElem? (i := 737) (by decide +kernel), List.mem_of_getElem? (i := 738) (by decide +kernel)⟩
theorem lw_p24 : lw_okq (⟨"NoseJuryModel", "washes", "(I)I"⟩, 19) := ⟨⟨by decide +kernel, by decide +kernel⟩, List.mem_of_getElem? (i := 615) (by decide +kernel), List.mem_of_getElem? (i := 773) (by decide +kernel), List.mem_of_getElem? (i := 774) (by decide +kernel)⟩
theorem lw_p25 : lw_okq (⟨"NoseJuryModel", "areTwo", "(II)Z"⟩, 19) := ⟨⟨by decide +kernel, by decide +kernel⟩, List.mem_of_getElem? (i := 615) (by decide +kernel), List.mem_of_getElem? (i := 781) (by decide +kernel), List.mem_of_getElem? (i := 782) (by decide +kernel)⟩
theorem lw_p26 : lw_okq (⟨"NoseJuryModel", "grows", "(II)I"⟩, 19) := ⟨⟨by decide +kernel, by decide +kernel⟩, List.mem_of_getElem? (i := 615) (by decide +kernel), List.mem_of_getElem? (i := 785) (by decide +kernel), List.mem_of_getElem? (i := 786) (by decide +kernel)⟩
theorem lw_p27 : lw_okq (⟨"NoseJuryModel", "smell", "(III)I"⟩, 19) := ⟨⟨by decide +kernel, by decide +kernel⟩, List.mem_of_getElem? (i := 615) (by decide +kernel), List.mem_of_getElem? (i := 793) (by decide +kernel), List.mem_of_getElem? (i := 794) (by decide +kernel)⟩
theorem lw_p28 : lw_okq (⟨"NoseJuryModel", "apart", "(II)I"⟩, 19) := ⟨⟨by decide +kernel, by decide +kernel⟩, List.mem_of_getElem? (i := 615) (by decide +kernel), List.mem_of_getElem? (i := 797) (by decide +kernel), List.mem_of_getElem? (i := 798) (by decide +kernel)⟩
theorem lw_p29 : lw_okq (⟨"NoseJuryModel", "senses", "(III)I"⟩, 19) := ⟨⟨by decide +kernel, by decide +kernel⟩, List.mem_of_getElem? (i := 615) (by decide +kernel), List.mem_of_getElem? (i := 804) (by decide +kernel), List.mem_of_getElem? (i := 805) (by decide +kernel)⟩
theorem lw_p30 : lw_okq (⟨"NoseJuryModel", "isDownwind", "(II)Z"⟩, 19) := ⟨⟨by decide +kernel, by decide +kernel⟩, List.mem_of_getElem? (i := 615) (by decide +kernel), List.mem_of_getElem? (i := 808) (by decide +kernel), List.mem_of_getElem? (i := 809) (by decide +kernel)⟩
theorem lw_p31 : lw_okq (⟨"NoseJuryModel", "finders", "(I)I"⟩, 19) := ⟨⟨by decide +kernel, by decide +kernel⟩, List.mem_of_getElem? (i := 615) (by decide +kernel), List.mem_of_getElem? (i := 821) (by decide +kernel), List.mem_of_getElem? (i := 822) (by decide +kernel)⟩
def lw_privs_2 : List (MethodName × Nat) := [(⟨"NoseJuryModel", "becomes", "(II)I"⟩, 19), (⟨"NoseJuryModel", "finds", "(I)I"⟩, 19), (⟨"NoseJuryModel", "adds", "(II)I"⟩, 19), (⟨"NoseJuryModel", "isPerson", "(I)Z"⟩, 19), (⟨"NoseJuryModel", "its", "(II)I"⟩, 19), (⟨"NoseJuryModel", "scentsOf", "(I)I"⟩, 19), (⟨"NoseJuryModel", "givesOffAll", "(I)I"⟩, 19), (⟨"NoseJuryModel", "givesOff", "(II)I"⟩, 19), (⟨"NoseJuryModel", "washes", "(I)I"⟩, 19), (⟨"NoseJuryModel", "areTwo", "(II)Z"⟩, 19), (⟨"NoseJuryModel", "grows", "(II)I"⟩, 19), (⟨"NoseJuryModel", "smell", "(III)I"⟩, 19), (⟨"NoseJuryModel", "apart", "(II)I"⟩, 19), (⟨"NoseJuryModel", "senses", "(III)I"⟩, 19), (⟨"NoseJuryModel", "isDownwind", "(II)Z"⟩, 19), (⟨"NoseJuryModel", "finders", "(I)I"⟩, 19)]
theorem lw_r2 : ∀ q ∈ lw_privs_2, lw_okq q := List.forall_mem_cons.mpr ⟨lw_p16, List.forall_mem_cons.mpr ⟨lw_p17, List.forall_mem_cons.mpr ⟨lw_p18, List.forall_mem_cons.mpr ⟨lw_p19, List.forall_mem_cons.mpr ⟨lw_p20, List.forall_mem_cons.mpr ⟨lw_p21, List.forall_mem_cons.mpr ⟨lw_p22, List.forall_mem_cons.mpr ⟨lw_p23, List.forall_mem_cons.mpr ⟨lw_p24, List.forall_mem_cons.mpr ⟨lw_p25, List.forall_mem_cons.mpr ⟨lw_p26, List.forall_mem_cons.mpr ⟨lw_p27, List.forall_mem_cons.mpr ⟨lw_p28, List.forall_mem_cons.mpr ⟨lw_p29, List.forall_mem_cons.mpr ⟨lw_p30, List.forall_mem_cons.mpr ⟨lw_p31, fun _ h => absurd h List.not_mem_nil⟩⟩⟩⟩⟩⟩⟩⟩⟩⟩⟩⟩⟩⟩⟩⟩
theorem lw_p32 : lw_okq (⟨"NoseJuryModel", "isFound", "(II)Z"⟩, 19) := ⟨⟨by decide +kernel, by decide +kernel⟩, List.mem_of_getElem? (i := 615) (by decide +kernel), List.mem_of_getElem? (i := 825) (by decide +kernel), List.mem_of_getElem? (i := 826) (by decide +kernel)⟩
theorem lw_p33 : lw_okq (⟨"NoseJuryModel", "goesOn", "(I)V"⟩, 19) := ⟨⟨by decide +kernel, by decide +kernel⟩, List.mem_of_getElem? (i := 615) (by decide +kernel), List.mem_of_getElem? (i := 845) (by decide +kernel), List.mem_of_getElem? (i := 846) (by decide +kernel)⟩
theorem lw_p34 : lw_okq (⟨"NoseJuryModel", "hour", "()V"⟩, 19) := ⟨⟨by decide +kernel, by decide +kernel⟩, List.mem_of_getElem? (i := 615) (by decide +kernel), List.mem_of_getElem? (i := 849) (by decide +kernel), List.mem_of_getElem? (i := 850) (by decide +kernel)⟩
theorem lw_p35 : lw_okq (⟨"NoseJuryModel", "leftOf", "(II)I"⟩, 19) := ⟨⟨by decide +kernel, by decide +kernel⟩, List.mem_of_getElem? (i := 615) (by decide +kernel), List.mem_of_getElem? (i := 853) (by decide +kernel), List.mem_of_getElem? (i := 854) (by decide +kernel)⟩
theorem lw_p36 : lw_okq (⟨"NoseJuryModel", "greatestBy", "(II)I"⟩, 19) := ⟨⟨by decide +kernel, by decide +kernel⟩, List.mem_of_getElem? (i := 615) (by decide +kernel), List.mem_of_getElem? (i := 857) (by decide +kernel), List.mem_of_getElem? (i := 858) (by decide +kernel)⟩
theorem lw_p37 : lw_okq (⟨"NoseJuryModel", "scentsAll", "()I"⟩, 19) := ⟨⟨by decide +kernel, by decide +kernel⟩, List.mem_of_getElem? (i := 615) (by decide +kernel), List.mem_of_getElem? (i := 861) (by decide +kernel), List.mem_of_getElem? (i := 862) (by decide +kernel)⟩
theorem lw_p38 : lw_okq (⟨"NoseJuryModel", "allGuilty", "()I"⟩, 19) := ⟨⟨by decide +kernel, by decide +kernel⟩, List.mem_of_getElem? (i := 615) (by decide +kernel), List.mem_of_getElem? (i := 869) (by decide +kernel), List.mem_of_getElem? (i := 870) (by decide +kernel)⟩
theorem lw_p39 : lw_okq (⟨"NoseJuryModel", "laysAside", "()V"⟩, 19) := ⟨⟨by decide +kernel, by decide +kernel⟩, List.mem_of_getElem? (i := 615) (by decide +kernel), List.mem_of_getElem? (i := 877) (by decide +kernel), List.mem_of_getElem? (i := 878) (by decide +kernel)⟩
theorem lw_p40 : lw_okq (⟨"NoseJuryModel", "takesBack", "(I)I"⟩, 19) := ⟨⟨by decide +kernel, by decide +kernel⟩, List.mem_of_getElem? (i := 615) (by decide +kernel), List.mem_of_getElem? (i := 881) (by decide +kernel), List.mem_of_getElem? (i := 882) (by decide +kernel)⟩
theorem lw_p41 : lw_okq (⟨"NoseJuryModel", "leastBy", "(III)I"⟩, 19) := ⟨⟨by decide +kernel, by decide +kernel⟩, List.mem_of_getElem? (i := 615) (by decide +kernel), List.mem_of_getElem? (i := 893) (by decide +kernel), List.mem_of_getElem? (i := 894) (by decide +kernel)⟩
theorem lw_p42 : lw_okq (⟨"NoseJuryModel", "findersMany", "(I)I"⟩, 19) := ⟨⟨by decide +kernel, by decide +kernel⟩, List.mem_of_getElem? (i := 615) (by decide +kernel), List.mem_of_getElem? (i := 897) (by decide +kernel), List.mem_of_getElem? (i := 898) (by decide +kernel)⟩
theorem lw_p43 : lw_okq (⟨"NoseJuryModel", "findJuries", "(II)V"⟩, 19) := ⟨⟨by decide +kernel, by decide +kernel⟩, List.mem_of_getElem? (i := 615) (by decide +kernel), List.mem_of_getElem? (i := 922) (by decide +kernel), List.mem_of_getElem? (i := 923) (by decide +kernel)⟩
theorem lw_p44 : lw_okq (⟨"NoseJuryModel", "saves", "()V"⟩, 19) := ⟨⟨by decide +kernel, by decide +kernel⟩, List.mem_of_getElem? (i := 615) (by decide +kernel), List.mem_of_getElem? (i := 950) (by decide +kernel), List.mem_of_getElem? (i := 951) (by decide +kernel)⟩
theorem lw_p45 : lw_okq (⟨"NoseJuryModel", "token", "()V"⟩, 19) := ⟨⟨by decide +kernel, by decide +kernel⟩, List.mem_of_getElem? (i := 615) (by decide +kernel), List.mem_of_getElem? (i := 954) (by decide +kernel), List.mem_of_getElem? (i := 955) (by decide +kernel)⟩
theorem lw_p46 : lw_okq (⟨"NoseJuryModel", "byteAt", "(I)I"⟩, 19) := ⟨⟨by decide +kernel, by decide +kernel⟩, List.mem_of_getElem? (i := 615) (by decide +kernel), List.mem_of_getElem? (i := 958) (by decide +kernel), List.mem_of_getElem? (i := 959) (by decide +kernel)⟩
theorem lw_p47 : lw_okq (⟨"NoseJuryModel", "item", "()V"⟩, 19) := ⟨⟨by decide +kernel, by decide +kernel⟩, List.mem_of_getElem? (i := 615) (by decide +kernel), List.mem_of_getElem? (i := 972) (by decide +kernel), List.mem_of_getElem? (i := 973) (by decide +kernel)⟩
def lw_privs_3 : List (MethodName × Nat) := [(⟨"NoseJuryModel", "isFound", "(II)Z"⟩, 19), (⟨"NoseJuryModel", "goesOn", "(I)V"⟩, 19), (⟨"NoseJuryModel", "hour", "()V"⟩, 19), (⟨"NoseJuryModel", "leftOf", "(II)I"⟩, 19), (⟨"NoseJuryModel", "greatestBy", "(II)I"⟩, 19), (⟨"NoseJuryModel", "scentsAll", "()I"⟩, 19), (⟨"NoseJuryModel", "allGuilty", "()I"⟩, 19), (⟨"NoseJuryModel", "laysAside", "()V"⟩, 19), (⟨"NoseJuryModel", "takesBack", "(I)I"⟩, 19), (⟨"NoseJuryModel", "leastBy", "(III)I"⟩, 19), (⟨"NoseJuryModel", "findersMany", "(I)I"⟩, 19), (⟨"NoseJuryModel", "findJuries", "(II)V"⟩, 19), (⟨"NoseJuryModel", "saves", "()V"⟩, 19), (⟨"NoseJuryModel", "token", "()V"⟩, 19), (⟨"NoseJuryModel", "byteAt", "(I)I"⟩, 19), (⟨"NoseJuryModel", "item", "()V"⟩, 19)]
theorem lw_r3 : ∀ q ∈ lw_privs_3, lw_okq q := List.forall_mem_cons.mpr ⟨lw_p32, List.forall_mem_cons.mpr ⟨lw_p33, List.forall_mem_cons.mpr ⟨lw_p34, List.forall_mem_cons.mpr ⟨lw_p35, List.forall_mem_cons.mpr ⟨lw_p36, List.forall_mem_cons.mpr ⟨lw_p37, List.forall_mem_cons.mpr ⟨lw_p38, List.forall_mem_cons.mpr ⟨lw_p39, List.forall_mem_cons.mpr ⟨lw_p40, List.forall_mem_cons.mpr ⟨lw_p41, List.forall_mem_cons.mpr ⟨lw_p42, List.forall_mem_cons.mpr ⟨lw_p43, List.forall_mem_cons.mpr ⟨lw_p44, List.forall_mem_cons.mpr ⟨lw_p45, List.forall_mem_cons.mpr ⟨lw_p46, List.forall_mem_cons.mpr ⟨lw_p47, fun _ h => absurd h List.not_mem_nil⟩⟩⟩⟩⟩⟩⟩⟩⟩⟩⟩⟩⟩⟩⟩⟩
theorem lw_p48 : lw_okq (⟨"NoseJuryModel", "kindHere", "()I"⟩, 19) := ⟨⟨by decide +kernel, by decide +kernel⟩, List.mem_of_getElem? (i := 615) (by decide +kernel), List.mem_of_getElem? (i := 976) (by decide +kernel), List.mem_of_getElem? (i := 977) (by decide +kernel)⟩
theorem lw_p49 : lw_okq (⟨"NoseJuryModel", "word", "()J"⟩, 19) := ⟨⟨by decide +kernel, by decide +kernel⟩, List.mem_of_getElem? (i := 615) (by decide +kernel), List.mem_of_getElem? (i := 980) (by decide +kernel), List.mem_of_getElem? (i := 981) (by decide +kernel)⟩
theorem lw_p50 : lw_okq (⟨"NoseJuryModel", "personItem", "(I)V"⟩, 19) := ⟨⟨by decide +kernel, by decide +kernel⟩, List.mem_of_getElem? (i := 615) (by decide +kernel), List.mem_of_getElem? (i := 992) (by decide +kernel), List.mem_of_getElem? (i := 993) (by decide +kernel)⟩
theorem lw_p51 : lw_okq (⟨"NoseJuryModel", "must", "(Z)V"⟩, 19) := ⟨⟨by decide +kernel, by decide +kernel⟩, List.mem_of_getElem? (i := 615) (by decide +kernel), List.mem_of_getElem? (i := 996) (by decide +kernel), List.mem_of_getElem? (i := 997) (by decide +kernel)⟩
theorem lw_p52 : lw_okq (⟨"NoseJuryModel", "number", "(II)V"⟩, 19) := ⟨⟨by decide +kernel, by decide +kernel⟩, List.mem_of_getElem? (i := 615) (by decide +kernel), List.mem_of_getElem? (i := 1001) (by decide +kernel), List.mem_of_getElem? (i := 1002) (by decide +kernel)⟩
theorem lw_p53 : lw_okq (⟨"NoseJuryModel", "putsBack", "()V"⟩, 19) := ⟨⟨by decide +kernel, by decide +kernel⟩, List.mem_of_getElem? (i := 615) (by decide +kernel), List.mem_of_getElem? (i := 1010) (by decide +kernel), List.mem_of_getElem? (i := 1011) (by decide +kernel)⟩
theorem lw_p54 : lw_okq (⟨"NoseJuryModel", "wrongSheet", "(I)I"⟩, 19) := ⟨⟨by decide +kernel, by decide +kernel⟩, List.mem_of_getElem? (i := 615) (by decide +kernel), List.mem_of_getElem? (i := 1027) (by decide +kernel), List.mem_of_getElem? (i := 1028) (by decide +kernel)⟩
theorem lw_p55 : lw_okq (⟨"NoseJuryModel", "wrongBook", "(IIII)I"⟩, 19) := ⟨⟨by decide +kernel, by decide +kernel⟩, List.mem_of_getElem? (i := 615) (by decide +kernel), List.mem_of_getElem? (i := 1047) (by decide +kernel), List.mem_of_getElem? (i := 1048) (by decide +kernel)⟩
theorem lw_p56 : lw_okq (⟨"NoseJuryModel", "isBook", "(IIII)Z"⟩, 19) := ⟨⟨by decide +kernel, by decide +kernel⟩, List.mem_of_getElem? (i := 615) (by decide +kernel), List.mem_of_getElem? (i := 1055) (by decide +kernel), List.mem_of_getElem? (i := 1056) (by decide +kernel)⟩
theorem lw_p57 : lw_okq (⟨"NoseJuryModel", "together", "(I)I"⟩, 19) := ⟨⟨by decide +kernel, by decide +kernel⟩, List.mem_of_getElem? (i := 615) (by decide +kernel), List.mem_of_getElem? (i := 1075) (by decide +kernel), List.mem_of_getElem? (i := 1076) (by decide +kernel)⟩
def lw_privs_4 : List (MethodName × Nat) := [(⟨"NoseJuryModel", "kindHere", "()I"⟩, 19), (⟨"NoseJuryModel", "word", "()J"⟩, 19), (⟨"NoseJuryModel", "personItem", "(I)V"⟩, 19), (⟨"NoseJuryModel", "must", "(Z)V"⟩, 19), (⟨"NoseJuryModel", "number", "(II)V"⟩, 19), (⟨"NoseJuryModel", "putsBack", "()V"⟩, 19), (⟨"NoseJuryModel", "wrongSheet", "(I)I"⟩, 19), (⟨"NoseJuryModel", "wrongBook", "(IIII)I"⟩, 19), (⟨"NoseJuryModel", "isBook", "(IIII)Z"⟩, 19), (⟨"NoseJuryModel", "together", "(I)I"⟩, 19)]
theorem lw_r4 : ∀ q ∈ lw_privs_4, lw_okq q := List.forall_mem_cons.mpr ⟨lw_p48, List.forall_mem_cons.mpr ⟨lw_p49, List.forall_mem_cons.mpr ⟨lw_p50, List.forall_mem_cons.mpr ⟨lw_p51, List.forall_mem_cons.mpr ⟨lw_p52, List.forall_mem_cons.mpr ⟨lw_p53, List.forall_mem_cons.mpr ⟨lw_p54, List.forall_mem_cons.mpr ⟨lw_p55, List.forall_mem_cons.mpr ⟨lw_p56, List.forall_mem_cons.mpr ⟨lw_p57, fun _ h => absurd h List.not_mem_nil⟩⟩⟩⟩⟩⟩⟩⟩⟩⟩
def lw_privs : List (MethodName × Nat) := lw_privs_1 ++ (lw_privs_2 ++ (lw_privs_3 ++ (lw_privs_4)))
def lw_tbl : List Cond := k2_sels lw_privs ++ tables_1
theorem lw_privs_ok : ∀ q ∈ lw_privs, lw_okq q := by
  show ∀ q ∈ lw_privs_1 ++ (lw_privs_2 ++ (lw_privs_3 ++ (lw_privs_4))), lw_okq q
  exact List.forall_mem_append.mpr ⟨lw_r1, List.forall_mem_append.mpr ⟨lw_r2, List.forall_mem_append.mpr ⟨lw_r3, lw_r4⟩⟩⟩
-- ===== end of PART A; then your names; then what follows =====
end
section
-- two words that the printed names use but do not define
def va_AOA (t : FieldType) (U : State) : Prop := (Cond.arrayOver (.array t)).before #[] U = true
theorem va_AOA.of {t : FieldType} {A : Array Value} {U : State} (h : (Cond.arrayOver (.array t)).before A U = true) : va_AOA t U := h
theorem va_AOA.use {t : FieldType} {A : Array Value} {U : State} (h : va_AOA t U) : (Cond.arrayOver (.array t)).before A U = true := h
/-! ===== BEGIN words of one list among another's, by their places ===== -/
theorem goodIn_r {big : List Cond} (ws : List Cond) (ps : List Nat) (hp : ws = ps.filterMap (fun i => big[i]?)) (h : ws.all goodWord = true) : GoodIn big ws := by
  intro w hw
  have h1 := List.all_eq_true.mp h w hw
  rw [hp] at hw
  obtain ⟨i, -, hi⟩ := List.mem_filterMap.mp hw
  have hm : w ∈ big := by first | exact List.mem_of_getElem? hi | exact List.getElem?_mem hi
  exact ⟨hm, good_of_word h1⟩
theorem goodIn_app {big a b : List Cond} (ha : GoodIn big a) (hb : GoodIn big b) : GoodIn big (a ++ b) := fun w h => (List.mem_append.mp h).elim (ha w) (hb w)
theorem goodIn_ca {big a b : List Cond} {c : Cond} (ha : GoodIn big (c :: a)) (hb : GoodIn big b) : GoodIn big (c :: (a ++ b)) := fun w h => (List.mem_cons.mp h).elim (fun e => ha w (List.mem_cons.mpr (Or.inl e))) (fun h => (List.mem_append.mp h).elim (fun h => ha w (List.mem_cons.mpr (Or.inr h))) (hb w))
theorem goodIn_sub {big ws : List Cond} (hm : ∀ w ∈ ws, w ∈ big) (h : ws.all goodWord = true) : GoodIn big ws := fun w hw => ⟨hm w hw, good_of_word (List.all_eq_true.mp h w hw)⟩
/-! ===== END ===== -/

/-! ===== BEGIN new T[n][m]: the outer array a place, the inner ones among the pooled ===== -/
/-- f, but v at every address of l -/
def vr_up {α : Type} (f : Nat → α) (l : List Nat) (v : α) : Nat → α := fun a => if a ∈ l then v else f a
theorem vr_up_in {α : Type} {f : Nat → α} {l : List Nat} {v : α} {a : Nat} (h : a ∈ l) : vr_up f l v a = v := if_pos h
theorem vr_up_ne {α : Type} {f : Nat → α} {l : List Nat} {v : α} {a : Nat} (h : a ∉ l) : vr_up f l v a = f a := if_neg h
theorem vr_rows {L l : List Nat} {f : Nat → va_E} {e : va_E} (h : ∀ a, a ∈ l → a ∉ L) : va_pl L f ++ l.map (fun a => (a, e)) = va_pl (L ++ l) (vr_up f l e) := by
  unfold va_pl
  rw [List.map_append]
  congr 1
  · apply List.map_congr_left
    intro a ha
    rw [vr_up_ne (fun q => h a q ha)]
  · apply List.map_congr_left
    intro a ha
    rw [vr_up_in ha]
theorem vr_lay {X rows : va_W} {x : Nat × va_E} {pl : va_W} {D : va_G} {cl : List vw_C} {H : Heap} (hP : va_P D cl (((X ++ pl) ++ [x]) ++ rows) H) : va_P D cl ((X ++ [x]) ++ (pl ++ rows)) H := by
  rw [List.append_assoc (X ++ pl)] at hP
  have h := va_P.swap hP
  rw [← List.append_assoc X] at h
  have h2 := va_P.swap h
  rw [List.append_assoc (X ++ [x])] at h2
  exact h2
theorem vr_layD {X rows : va_W} {x : Nat × va_E} {pl : va_W} {A : Nat → Prop} (hD : va_D A (((X ++ pl) ++ [x]) ++ rows)) : va_D A ((X ++ [x]) ++ (pl ++ rows)) := by
  rw [List.append_assoc (X ++ pl)] at hD
  have h := va_D.swap hD
  rw [← List.append_assoc X] at h
  have h2 := va_D.swap h
  rw [List.append_assoc (X ++ [x])] at h2
  exact h2
theorem vr_outer (c : ClassId) (N h0 : Nat) : ∀ i : Nat, Jvm.Free.Multi.outerC c N h0 i = arrV c N (fun j => va_rf (if j < i then some (h0 + 1 + j) else none))
  | 0 => by
    show ({ cls := c, slots := Array.replicate N .null, vm := .none } : Cell) = _
    rw [arrV_new]
    refine congrArg (arrV c N) (funext fun j => ?_)
    simp [va_rf]
  | i + 1 => by
    show (Jvm.Free.Multi.outerC c N h0 i).setSlot i (.ref (h0 + 1 + i)) = _
    rw [vr_outer c N h0 i, arrV_store]
    refine congrArg (arrV c N) (funext fun j => ?_)
    by_cases e : j = i
    · subst e
      simp [updV, va_rf]
    · by_cases h : j < i
      · simp [updV, e, h, Nat.lt_succ_of_lt h]
      · simp [updV, e, h, show ¬ j < i + 1 by omega]
section VGM
variable {p : Program} {l : Launch} {e : Env} {R : Room} {s : State} {m : MethodId} {args : Array Value} {below : List Frame} {meth : Method} {c : Code} {H : Heap} {locs : List Loc} {cells slots : Nat} {Q : State → Prop}
variable {cc : ByteArray} {pc : Nat} {ls : Array Slot} {rest : List Value} {D : va_G} {cl : List vw_C} {A : Nat → Prop} {a : Nat} {tys : List (ClassId × FieldType)} {ws : va_W} {H0 : Heap}
theorem va_mna {X : va_W} {L : List Nat} {f : Nat → va_E} {cc : ByteArray} (hexec : p.tables.exec = Jvm.exec) (hb : c.code = cc) {own : String} {index : Nat} {ty : FieldType} {cy : ClassId} (hown : s.vm.findClass own = some m.cls) (hclink : (Cond.classLink own index ("[" ++ (FieldType.array ty).toString)).before args s = true) (hover : va_AOA ty s) (harr : (Cond.arrayClass ty).before args s = true) (hcy : s.vm.findClass (FieldType.array ty).toString = some cy)
    (hK : va_K D cl tys s) (hP : va_P D cl (X ++ va_pl L f) H) (hD : va_D A (X ++ va_pl L f)) (hS : va_S A H0 H locs) (hA : ∀ q, H0.size ≤ q → A q) {n k : Int32} {N' K' : Nat} {z : vp_A} (hn : ¬ n < 0) (hk : ¬ k < 0) (hN : n.toNatClampNeg = N') (hM : k.toNatClampNeg = K')
    (hb1 : N' * 4 ≤ 536870912) (hb2 : K' * componentBytes ty ≤ 536870912) (hb3 : K' ≤ 536870912) (hdf : fits ty (defaultValue ty) = true) (hdd : (defaultValue ty).isDefault = true) (hcells : cells + (1 + N') ≤ R.cells) (hslots : slots + (N' + N' * K') ≤ R.slots) (hz : ∀ c : ClassId, Jvm.Free.Multi.innerC c K' (defaultValue ty) = vp_cell c z) (hdg : decode cc pc = .ok (.multianewarray index 2, 4))
    (kk : ∀ (q : Nat) (r : Nat → Nat) (cA : ClassId) (H1 : Heap), (∀ i j : Nat, i < N' → j < N' → r i = r j → i = j) → (∀ i : Nat, i < N' → r i ∉ L) → va_K D cl (tys ++ [(cA, .array ty)]) s →
      va_P D cl ((X ++ [(q, .inl (cA, N', .inr (.inr (.inr (.inr (fun i => if i < N' then some (r i) else none))))))]) ++ va_pl (L ++ (List.range N').map r) (vr_up f ((List.range N').map r) (.inl (cy, z)))) H1 → va_D A ((X ++ [(q, .inl (cA, N', .inr (.inr (.inr (.inr (fun i => if i < N' then some (r i) else none))))))]) ++ va_pl (L ++ (List.range N').map r) (vr_up f ((List.range N').map r) (.inl (cy, z)))) → va_S A H0 H1 locs →
      W p l e R s m args below meth c H1 locs (cells + 1 + N') (slots + N' + N' * K') Q (F0 m (pc + 4) ls (.ref q :: rest))) : W p l e R s m args below meth c H locs cells slots Q (F0 m pc ls (.int k :: .int n :: rest)) := by
  subst hN
  subst hM
  intro T hT Xs
  obtain ⟨vm₁, cA, comp, -, fA, fC, hO, -, X', step⟩ := Xs.multianewarray2F hexec hown hclink (va_AOA.use hover) harr (g := F0 m pc ls (.int k :: .int n :: rest)) rfl (by rw [hb]; exact hdg) rfl hn hk hb1 hb2 hb3 hdf hdd hcells hslots
  have ec : some cy = some comp := hcy.symm.trans fC
  cases ec
  generalize hF : Jvm.Free.Multi.fill (T.setVm vm₁) cA cy n.toNatClampNeg k.toNatClampNeg (defaultValue ty) n.toNatClampNeg = F at X' step
  have hTh : (T.setVm vm₁).heap = H := hT
  obtain ⟨f1, f2, -, -⟩ := Jvm.Free.Multi.fill_facts (T.setVm vm₁) cA cy n.toNatClampNeg k.toNatClampNeg (defaultValue ty) n.toNatClampNeg
  rw [hF, hTh] at f1 f2
  have hold : ∀ x : Nat, x < H.size → F.heap[x]? = H[x]? := fun x hx => by
    have := Jvm.Free.Multi.fill_old (T.setVm vm₁) cA cy n.toNatClampNeg k.toNatClampNeg (defaultValue ty) (a := x) (by rw [hTh]; exact hx) n.toNatClampNeg
    rw [hF, hTh] at this
    exact this
  have hrow : ∀ j : Nat, j < n.toNatClampNeg → F.heap[H.size + 1 + j]? = some (vp_cell cy z) := fun j hj => by
    have := Jvm.Free.Multi.fill_inner (T.setVm vm₁) cA cy n.toNatClampNeg k.toNatClampNeg (defaultValue ty) n.toNatClampNeg j hj
    rw [hF, hTh, hz] at this
    exact this
  have hout : Jvm.Free.Multi.outerC cA n.toNatClampNeg H.size n.toNatClampNeg = vp_cell cA (n.toNatClampNeg, .inr (.inr (.inr (.inr (fun i => if i < n.toNatClampNeg then some (H.size + 1 + i) else none))))) := by
    rw [vp_cell_q]
    exact vr_outer cA n.toNatClampNeg H.size n.toNatClampNeg
  rw [hout] at f2
  have hlt : ∀ a, a ∈ L → a < H.size := fun a ha => by
    obtain ⟨k9, hk9⟩ := va_pl_get (X := X) (f := f) ha
    exact (hP k9 _ hk9).lt
  have hnl : ∀ i : Nat, i < n.toNatClampNeg → H.size + 1 + i ∉ L := fun i _ h => by
    have := hlt _ h
    omega
  have hnm : ∀ a, a ∈ (List.range n.toNatClampNeg).map (fun i => H.size + 1 + i) → a ∉ L := fun a ha h => by
    obtain ⟨i, -, rfl⟩ := List.mem_map.mp ha
    have := hlt _ h
    omega
  have hP0 : va_P D cl (X ++ va_pl L f) F.heap := hP.kept (fun k9 x hx => hold x.1 ((hP k9 x hx).lt))
  have hP1 : va_P D cl ((X ++ va_pl L f) ++ [(H.size, .inl (cA, n.toNatClampNeg, .inr (.inr (.inr (.inr (fun i => if i < n.toNatClampNeg then some (H.size + 1 + i) else none))))))]) F.heap := hP0.app (fun k9 x hx => by
    have h0 : k9 < 1 := (List.getElem?_eq_some_iff.mp hx).1
    rw [show k9 = 0 by omega] at hx
    cases hx
    exact f2)
  have hP2 : va_P D cl (((X ++ va_pl L f) ++ [(H.size, .inl (cA, n.toNatClampNeg, .inr (.inr (.inr (.inr (fun i => if i < n.toNatClampNeg then some (H.size + 1 + i) else none))))))]) ++ ((List.range n.toNatClampNeg).map (fun i => H.size + 1 + i)).map (fun a => (a, .inl (cy, z)))) F.heap := hP1.app (fun k9 x hx => by
    obtain ⟨a, ha, rfl⟩ := List.mem_map.mp (List.mem_of_getElem? hx)
    obtain ⟨i, hi, rfl⟩ := List.mem_map.mp ha
    exact hrow i (List.mem_range.mp hi))
  have hD2 : va_D A (((X ++ va_pl L f) ++ [(H.size, .inl (cA, n.toNatClampNeg, .inr (.inr (.inr (.inr (fun i => if i < n.toNatClampNeg then some (H.size + 1 + i) else none))))))]) ++ ((List.range n.toNatClampNeg).map (fun i => H.size + 1 + i)).map (fun a => (a, .inl (cy, z)))) := by
    have hD1 := hD.push (e := .inl (cA, n.toNatClampNeg, .inr (.inr (.inr (.inr (fun i => if i < n.toNatClampNeg then some (H.size + 1 + i) else none)))))) hP rfl (hA _ hS.1)
    generalize hW1 : (X ++ va_pl L f) ++ [(H.size, .inl (cA, n.toNatClampNeg, .inr (.inr (.inr (.inr (fun i => if i < n.toNatClampNeg then some (H.size + 1 + i) else none))))))] = W1 at hD1 hP1 ⊢
    have hle : ∀ (k9 : Nat) (x : Nat × va_E), W1[k9]? = some x → x.1 ≤ H.size := fun k9 x hx => by
      rw [← hW1] at hx
      by_cases hl : k9 < (X ++ va_pl L f).length
      · rw [List.getElem?_append_left hl] at hx
        exact Nat.le_of_lt ((hP k9 x hx).lt)
      · rw [List.getElem?_append_right (by omega)] at hx
        have h0 : k9 - (X ++ va_pl L f).length < 1 := (List.getElem?_eq_some_iff.mp hx).1
        rw [show k9 - (X ++ va_pl L f).length = 0 by omega] at hx
        cases hx
        exact Nat.le_refl _
    have hr : ∀ (k9 : Nat) (x : Nat × va_E), (((List.range n.toNatClampNeg).map (fun i => H.size + 1 + i)).map (fun a => ((a, .inl (cy, z)) : Nat × va_E)))[k9]? = some x → x.1 = H.size + 1 + k9 := fun k9 x hx => by
      rw [List.getElem?_map, List.getElem?_map] at hx
      by_cases h9 : k9 < n.toNatClampNeg
      · rw [List.getElem?_range h9] at hx
        cases hx
        rfl
      · have hn0 : (List.range n.toNatClampNeg)[k9]? = none := List.getElem?_eq_none (by rw [List.length_range]; omega)
        rw [hn0] at hx
        cases hx
    refine ⟨fun i j x y hi hj hxy => ?_, fun k9 x hx => ?_⟩
    · by_cases h1 : i < W1.length <;> by_cases h2 : j < W1.length
      · rw [List.getElem?_append_left h1] at hi
        rw [List.getElem?_append_left h2] at hj
        exact hD1.1 i j x y hi hj hxy
      · rw [List.getElem?_append_left h1] at hi
        rw [List.getElem?_append_right (by omega)] at hj
        have := hle _ _ hi
        have := hr _ _ hj
        omega
      · rw [List.getElem?_append_right (by omega)] at hi
        rw [List.getElem?_append_left h2] at hj
        have := hle _ _ hj
        have := hr _ _ hi
        omega
      · rw [List.getElem?_append_right (by omega)] at hi hj
        have := hr _ _ hi
        have := hr _ _ hj
        omega
    · by_cases h1 : k9 < W1.length
      · rw [List.getElem?_append_left h1] at hx
        exact hD1.2 k9 x hx
      · rw [List.getElem?_append_right (by omega)] at hx
        have := hr _ _ hx
        exact hA _ (by have := hS.1; omega)
  have hAr : ArrOfT s cA (.array ty) := fun N9 z9 => by
    obtain ⟨-, k9, hk9, cm9, hkk9⟩ := (hO 0 0 0).1
    exact ⟨(fun q hq => by cases hq), k9, hk9, cm9, hkk9⟩
  have hK2 : va_K D cl (tys ++ [(cA, .array ty)]) s := ⟨hK.1, fun k9 x hx => by
    by_cases hl : k9 < tys.length
    · rw [List.getElem?_append_left hl] at hx
      exact hK.2 k9 x hx
    · rw [List.getElem?_append_right (by omega)] at hx
      have h0 : k9 - tys.length < 1 := (List.getElem?_eq_some_iff.mp hx).1
      rw [show k9 - tys.length = 0 by omega] at hx
      cases hx
      exact ⟨hAr, fA⟩⟩
  obtain ⟨t, a1, b1⟩ := kk H.size (fun i => H.size + 1 + i) cA F.heap (fun i j _ _ h => by have h9 : H.size + 1 + i = H.size + 1 + j := h; omega) hnl hK2 (by rw [← vr_rows hnm]; exact vr_lay hP2) (by rw [← vr_rows hnm]; exact vr_layD hD2) ⟨by rw [f1]; have := hS.1; omega, fun x h1 h2 => (hold x (Nat.lt_of_lt_of_le h1 hS.1)).trans (hS.2.1 x h1 h2), hS.2.2⟩ F rfl X'
  refine ⟨t, step t ?_, b1⟩
  have e : T.heap.size = H.size := by rw [hT]
  rw [e]
  exact a1
end VGM
/-! ===== END ===== -/

/-! ===== BEGIN printed: names, fields, word lists, decode rows ===== -/
def RX0 : String := "NoseJury$Hall"
def TX0 : u_T := fun k => match k with
  | 0 => ("NoseJury$Hall", "wind", "I", false)
  | 1 => ("NoseJury$Hall", "due", "I", false)
  | 2 => ("NoseJury$Hall", "hour", "I", false)
  | 3 => ("NoseJury$Hall", "people", "I", false)
  | 4 => ("NoseJury$Hall", "kinds", "[I", true)
  | 5 => ("NoseJury$Hall", "places", "[I", true)
  | 6 => ("NoseJury$Hall", "noses", "[I", true)
  | 7 => ("NoseJury$Hall", "colds", "[I", true)
  | 8 => ("NoseJury$Hall", "scents", "[[I", true)
  | _ => ("NoseJury$Hall", "later", "[I", true)
def tyX0 : Nat → FieldType := fun k => match k with
  | 0 => .int
  | 1 => .int
  | 2 => .int
  | 3 => .int
  | 4 => .array .int
  | 5 => .array .int
  | 6 => .array .int
  | 7 => .array .int
  | 8 => .array (.array .int)
  | _ => .array .int
abbrev wsX00 : List Cond := u_ws RX0 TX0 10
theorem nmX0 : ∀ a, a < 10 → ∀ b, b < 10 → a ≠ b → (TX0 a).2.1 ≠ (TX0 b).2.1 := by decide +kernel
theorem tyX0_ok : ∀ k, k < 10 → parseFieldDescriptor (TX0 k).2.2.1 = some (tyX0 k) := by decide +kernel
abbrev cX0_init : ByteArray := prog_2_method_1_code
def yX0_init : MethodName := ⟨RX0, "<init>", "()V"⟩
abbrev cX0_become : ByteArray := prog_2_method_2_code
def yX0_become : MethodName := ⟨RX0, "become", "(LNoseJury$Hall;)V"⟩
abbrev cX0_has : ByteArray := prog_2_method_3_code
def yX0_has : MethodName := ⟨RX0, "has", "(I)Z"⟩
abbrev cX0_hasTwo : ByteArray := prog_2_method_4_code
def yX0_hasTwo : MethodName := ⟨RX0, "hasTwo", "(II)Z"⟩
abbrev cX0_everybody : ByteArray := prog_2_method_5_code
def yX0_everybody : MethodName := ⟨RX0, "everybody", "()I"⟩
abbrev cX0_join : ByteArray := prog_2_method_6_code
def yX0_join : MethodName := ⟨RX0, "join", "(II)I"⟩
abbrev cX0_put : ByteArray := prog_2_method_7_code
def yX0_put : MethodName := ⟨RX0, "put", "(III)V"⟩
abbrev cX0_washes : ByteArray := prog_2_method_8_code
def yX0_washes : MethodName := ⟨RX0, "washes", "(I)I"⟩
abbrev cX0_sumOver : ByteArray := prog_2_method_9_code
def yX0_sumOver : MethodName := ⟨RX0, "sumOver", "([I)I"⟩
abbrev cX0_scentsOf : ByteArray := prog_2_method_10_code
def yX0_scentsOf : MethodName := ⟨RX0, "scentsOf", "(I)I"⟩
abbrev cX0_scentsOfAll : ByteArray := prog_2_method_11_code
def yX0_scentsOfAll : MethodName := ⟨RX0, "scentsOfAll", "()I"⟩
abbrev cX0_givesOff : ByteArray := prog_2_method_12_code
def yX0_givesOff : MethodName := ⟨RX0, "givesOff", "(II)I"⟩
abbrev cX0_givenOffBy : ByteArray := prog_2_method_13_code
def yX0_givenOffBy : MethodName := ⟨RX0, "givenOffBy", "(I)I"⟩
abbrev cX0_senses : ByteArray := prog_2_method_14_code
def yX0_senses : MethodName := ⟨RX0, "senses", "(III)I"⟩
abbrev cX0_smelt : ByteArray := prog_2_method_15_code
def yX0_smelt : MethodName := ⟨RX0, "smelt", "(III)I"⟩
abbrev cX0_finds : ByteArray := prog_2_method_16_code
def yX0_finds : MethodName := ⟨RX0, "finds", "(II)Z"⟩
abbrev cX0_finders : ByteArray := prog_2_method_17_code
def yX0_finders : MethodName := ⟨RX0, "finders", "(I)I"⟩
abbrev cX0_foundGuilty : ByteArray := prog_2_method_18_code
def yX0_foundGuilty : MethodName := ⟨RX0, "foundGuilty", "()I"⟩
abbrev cX0_hourGoes : ByteArray := prog_2_method_19_code
def yX0_hourGoes : MethodName := ⟨RX0, "hourGoes", "()V"⟩
abbrev cX0_hourGoesFor : ByteArray := prog_2_method_20_code
def yX0_hourGoesFor : MethodName := ⟨RX0, "hourGoesFor", "(I)V"⟩
abbrev cX0_fade : ByteArray := prog_2_method_21_code
def yX0_fade : MethodName := ⟨RX0, "fade", "(I)V"⟩
abbrev cX0_strongestBeside : ByteArray := prog_2_method_22_code
def yX0_strongestBeside : MethodName := ⟨RX0, "strongestBeside", "(II)I"⟩
abbrev cX0_isDownwind : ByteArray := prog_2_method_23_code
def yX0_isDownwind : MethodName := ⟨RX0, "isDownwind", "(II)Z"⟩
abbrev cX0_apart : ByteArray := prog_2_method_24_code
def yX0_apart : MethodName := ⟨RX0, "apart", "(II)I"⟩
def RX1 : String := "NoseJury$Sheet"
def TX1 : u_T := fun k => match k with
  | 0 => ("NoseJury$Sheet", "bits", "I", false)
  | 1 => ("NoseJury$Sheet", "size", "I", false)
  | _ => ("NoseJury$Sheet", "numbers", "[J", true)
def tyX1 : Nat → FieldType := fun k => match k with
  | 0 => .int
  | 1 => .int
  | _ => .array .long
abbrev wsX10 : List Cond := u_ws RX1 TX1 3
theorem nmX1 : ∀ a, a < 3 → ∀ b, b < 3 → a ≠ b → (TX1 a).2.1 ≠ (TX1 b).2.1 := by decide +kernel
theorem tyX1_ok : ∀ k, k < 3 → parseFieldDescriptor (TX1 k).2.2.1 = some (tyX1 k) := by decide +kernel
abbrev cX1_init : ByteArray := prog_3_method_1_code
def yX1_init : MethodName := ⟨RX1, "<init>", "()V"⟩
abbrev cX1_renew : ByteArray := prog_3_method_2_code
def yX1_renew : MethodName := ⟨RX1, "renew", "(II)V"⟩
abbrev cX1_put : ByteArray := prog_3_method_3_code
def yX1_put : MethodName := ⟨RX1, "put", "(IJ)V"⟩
abbrev cX1_hasRun : ByteArray := prog_3_method_4_code
def yX1_hasRun : MethodName := ⟨RX1, "hasRun", "(II)Z"⟩
def RX2 : String := "NoseJury$Tape"
def TX2 : u_T := fun k => match k with
  | 0 => ("NoseJury$Tape", "length", "I", false)
  | 1 => ("NoseJury$Tape", "bytes", "[I", true)
  | 2 => ("NoseJury$Tape", "next", "I", false)
  | 3 => ("NoseJury$Tape", "token", "I", false)
  | 4 => ("NoseJury$Tape", "start", "I", false)
  | _ => ("NoseJury$Tape", "value", "I", false)
def tyX2 : Nat → FieldType := fun k => match k with
  | 0 => .int
  | 1 => .array .int
  | 2 => .int
  | 3 => .int
  | 4 => .int
  | _ => .int
abbrev wsX20 : List Cond := u_ws RX2 TX2 6
theorem nmX2 : ∀ a, a < 6 → ∀ b, b < 6 → a ≠ b → (TX2 a).2.1 ≠ (TX2 b).2.1 := by decide +kernel
theorem tyX2_ok : ∀ k, k < 6 → parseFieldDescriptor (TX2 k).2.2.1 = some (tyX2 k) := by decide +kernel
abbrev cX2_init : ByteArray := prog_4_method_1_code
def yX2_init : MethodName := ⟨RX2, "<init>", "()V"⟩
abbrev cX2_append : ByteArray := prog_4_method_2_code
def yX2_append : MethodName := ⟨RX2, "append", "(I)V"⟩
abbrev cX2_tellTo : ByteArray := prog_4_method_3_code
def yX2_tellTo : MethodName := ⟨RX2, "tellTo", "(LNoseJury$Hall;)I"⟩
abbrev cX2_takesItem : ByteArray := prog_4_method_4_code
def yX2_takesItem : MethodName := ⟨RX2, "takesItem", "(LNoseJury$Hall;)Z"⟩
abbrev cX2_takesPerson : ByteArray := prog_4_method_5_code
def yX2_takesPerson : MethodName := ⟨RX2, "takesPerson", "(LNoseJury$Hall;)Z"⟩
abbrev cX2_takesDeed : ByteArray := prog_4_method_6_code
def yX2_takesDeed : MethodName := ⟨RX2, "takesDeed", "(LNoseJury$Hall;I)Z"⟩
abbrev cX2_takesNumber : ByteArray := prog_4_method_7_code
def yX2_takesNumber : MethodName := ⟨RX2, "takesNumber", "(II)Z"⟩
abbrev cX2_kindNamed : ByteArray := prog_4_method_8_code
def yX2_kindNamed : MethodName := ⟨RX2, "kindNamed", "()I"⟩
abbrev cX2_nameOf : ByteArray := prog_4_method_9_code
def yX2_nameOf : MethodName := ⟨RX2, "nameOf", "(I)Ljava/lang/String;"⟩
abbrev cX2_isWord : ByteArray := prog_4_method_10_code
def yX2_isWord : MethodName := ⟨RX2, "isWord", "(Ljava/lang/String;)Z"⟩
abbrev cX2_step : ByteArray := prog_4_method_11_code
def yX2_step : MethodName := ⟨RX2, "step", "()V"⟩
abbrev cX2_passWord : ByteArray := prog_4_method_12_code
def yX2_passWord : MethodName := ⟨RX2, "passWord", "()V"⟩
abbrev cX2_passNumber : ByteArray := prog_4_method_13_code
def yX2_passNumber : MethodName := ⟨RX2, "passNumber", "()V"⟩
abbrev cX2_isLetter : ByteArray := prog_4_method_14_code
def yX2_isLetter : MethodName := ⟨RX2, "isLetter", "(I)Z"⟩
abbrev cX2_isDigit : ByteArray := prog_4_method_15_code
def yX2_isDigit : MethodName := ⟨RX2, "isDigit", "(I)Z"⟩
def RX3 : String := "NoseJury"
def TX3 : u_T := fun k => match k with
  | 0 => ("NoseJury", "live", "LNoseJury$Hall;", true)
  | 1 => ("NoseJury", "kept", "LNoseJury$Hall;", true)
  | 2 => ("NoseJury", "trial", "LNoseJury$Hall;", true)
  | 3 => ("NoseJury", "tape", "LNoseJury$Tape;", true)
  | 4 => ("NoseJury", "sheets", "[LNoseJury$Sheet;", true)
  | 5 => ("NoseJury", "told", "[I", true)
  | _ => ("NoseJury", "anyKept", "Z", false)
def tyX3 : Nat → FieldType := fun k => match k with
  | 0 => .object "NoseJury$Hall"
  | 1 => .object "NoseJury$Hall"
  | 2 => .object "NoseJury$Hall"
  | 3 => .object "NoseJury$Tape"
  | 4 => .array (.object "NoseJury$Sheet")
  | 5 => .array .int
  | _ => .boolean
abbrev wsX30 : List Cond := u_ws RX3 TX3 7
theorem nmX3 : ∀ a, a < 7 → ∀ b, b < 7 → a ≠ b → (TX3 a).2.1 ≠ (TX3 b).2.1 := by decide +kernel
theorem tyX3_ok : ∀ k, k < 7 → parseFieldDescriptor (TX3 k).2.2.1 = some (tyX3 k) := by decide +kernel
abbrev cX3_init : ByteArray := prog_1_method_1_code
def yX3_init : MethodName := ⟨RX3, "<init>", "()V"⟩
abbrev cX3_law : ByteArray := prog_1_method_2_code
def yX3_law : MethodName := ⟨RX3, "law", "(II)I"⟩
abbrev cX3_person : ByteArray := prog_1_method_3_code
def yX3_person : MethodName := ⟨RX3, "person", "(II)I"⟩
abbrev cX3_of : ByteArray := prog_1_method_4_code
def yX3_of : MethodName := ⟨RX3, "of", "(II)I"⟩
abbrev cX3_set : ByteArray := prog_1_method_5_code
def yX3_set : MethodName := ⟨RX3, "set", "(III)I"⟩
abbrev cX3_did : ByteArray := prog_1_method_6_code
def yX3_did : MethodName := ⟨RX3, "did", "(III)I"⟩
abbrev cX3_scent : ByteArray := prog_1_method_7_code
def yX3_scent : MethodName := ⟨RX3, "scent", "(III)I"⟩
abbrev cX3_turn : ByteArray := prog_1_method_8_code
def yX3_turn : MethodName := ⟨RX3, "turn", "(II)I"⟩
abbrev cX3_as : ByteArray := prog_1_method_9_code
def yX3_as : MethodName := ⟨RX3, "as", "(II)I"⟩
abbrev cX3_wash : ByteArray := prog_1_method_10_code
def yX3_wash : MethodName := ⟨RX3, "wash", "(I)I"⟩
abbrev cX3_meet : ByteArray := prog_1_method_11_code
def yX3_meet : MethodName := ⟨RX3, "meet", "(II)I"⟩
abbrev cX3_smells : ByteArray := prog_1_method_12_code
def yX3_smells : MethodName := ⟨RX3, "smells", "(III)I"⟩
abbrev cX3_deed : ByteArray := prog_1_method_13_code
def yX3_deed : MethodName := ⟨RX3, "deed", "(II)I"⟩
abbrev cX3_guilty : ByteArray := prog_1_method_14_code
def yX3_guilty : MethodName := ⟨RX3, "guilty", "(I)I"⟩
abbrev cX3_convicts : ByteArray := prog_1_method_15_code
def yX3_convicts : MethodName := ⟨RX3, "convicts", "(II)I"⟩
abbrev cX3_hours : ByteArray := prog_1_method_16_code
def yX3_hours : MethodName := ⟨RX3, "hours", "(I)I"⟩
abbrev cX3_now : ByteArray := prog_1_method_17_code
def yX3_now : MethodName := ⟨RX3, "now", "(I)I"⟩
abbrev cX3_on : ByteArray := prog_1_method_18_code
def yX3_on : MethodName := ⟨RX3, "on", "(III)I"⟩
abbrev cX3_clean : ByteArray := prog_1_method_19_code
def yX3_clean : MethodName := ⟨RX3, "clean", "(I)I"⟩
abbrev cX3_wind : ByteArray := prog_1_method_20_code
def yX3_wind : MethodName := ⟨RX3, "wind", "(I)I"⟩
abbrev cX3_seat : ByteArray := prog_1_method_21_code
def yX3_seat : MethodName := ⟨RX3, "seat", "(I)I"⟩
abbrev cX3_bath : ByteArray := prog_1_method_22_code
def yX3_bath : MethodName := ⟨RX3, "bath", "(I)I"⟩
abbrev cX3_kind : ByteArray := prog_1_method_23_code
def yX3_kind : MethodName := ⟨RX3, "kind", "(I)I"⟩
abbrev cX3_due : ByteArray := prog_1_method_24_code
def yX3_due : MethodName := ⟨RX3, "due", "(I)I"⟩
abbrev cX3_jury : ByteArray := prog_1_method_25_code
def yX3_jury : MethodName := ⟨RX3, "jury", "(II)I"⟩
abbrev cX3_juries : ByteArray := prog_1_method_26_code
def yX3_juries : MethodName := ⟨RX3, "juries", "(II)I"⟩
abbrev cX3_from : ByteArray := prog_1_method_27_code
def yX3_from : MethodName := ⟨RX3, "from", "(II)I"⟩
abbrev cX3_nose : ByteArray := prog_1_method_28_code
def yX3_nose : MethodName := ⟨RX3, "nose", "(II)I"⟩
abbrev cX3_feed : ByteArray := prog_1_method_29_code
def yX3_feed : MethodName := ⟨RX3, "feed", "(II)I"⟩
abbrev cX3_wipe : ByteArray := prog_1_method_30_code
def yX3_wipe : MethodName := ⟨RX3, "wipe", "()I"⟩
abbrev cX3_hall : ByteArray := prog_1_method_31_code
def yX3_hall : MethodName := ⟨RX3, "hall", "()I"⟩
abbrev cX3_sheet : ByteArray := prog_1_method_32_code
def yX3_sheet : MethodName := ⟨RX3, "sheet", "(III)I"⟩
abbrev cX3_write : ByteArray := prog_1_method_33_code
def yX3_write : MethodName := ⟨RX3, "write", "(IIJ)J"⟩
abbrev cX3_copy : ByteArray := prog_1_method_34_code
def yX3_copy : MethodName := ⟨RX3, "copy", "(IIIII)I"⟩
abbrev cX3_lays : ByteArray := prog_1_method_35_code
def yX3_lays : MethodName := ⟨RX3, "lays", "(I)I"⟩
abbrev cX3_book : ByteArray := prog_1_method_36_code
def yX3_book : MethodName := ⟨RX3, "book", "(IIII)I"⟩
abbrev cX3_read : ByteArray := prog_1_method_37_code
def yX3_read : MethodName := ⟨RX3, "read", "(IIII)I"⟩
abbrev cX3_image : ByteArray := prog_1_method_38_code
def yX3_image : MethodName := ⟨RX3, "image", "()I"⟩
abbrev cX3_undo : ByteArray := prog_1_method_39_code
def yX3_undo : MethodName := ⟨RX3, "undo", "()I"⟩
abbrev cX3_tear : ByteArray := prog_1_method_40_code
def yX3_tear : MethodName := ⟨RX3, "tear", "()I"⟩
abbrev cX3_count : ByteArray := prog_1_method_41_code
def yX3_count : MethodName := ⟨RX3, "count", "(I)I"⟩
abbrev cX3_status : ByteArray := prog_1_method_42_code
def yX3_status : MethodName := ⟨RX3, "status", "(I)I"⟩
abbrev cX3_tell : ByteArray := prog_1_method_43_code
def yX3_tell : MethodName := ⟨RX3, "tell", "(I)I"⟩
abbrev cX3_fewestFind : ByteArray := prog_1_method_44_code
def yX3_fewestFind : MethodName := ⟨RX3, "fewestFind", "(III)I"⟩
abbrev cX3_isToldBy : ByteArray := prog_1_method_45_code
def yX3_isToldBy : MethodName := ⟨RX3, "isToldBy", "(LNoseJury$Sheet;III)Z"⟩
abbrev cX3_findingOfSheet : ByteArray := prog_1_method_46_code
def yX3_findingOfSheet : MethodName := ⟨RX3, "findingOfSheet", "(I)I"⟩
abbrev cX3_findingOfBook : ByteArray := prog_1_method_47_code
def yX3_findingOfBook : MethodName := ⟨RX3, "findingOfBook", "(IIII)I"⟩
abbrev cX3_exchange : ByteArray := prog_1_method_48_code
def yX3_exchange : MethodName := ⟨RX3, "exchange", "([III)I"⟩
abbrev cX3_within : ByteArray := prog_1_method_49_code
def yX3_within : MethodName := ⟨RX3, "within", "(III)Z"⟩
abbrev cX3_isKind : ByteArray := prog_1_method_50_code
def yX3_isKind : MethodName := ⟨RX3, "isKind", "(I)Z"⟩
abbrev cX3_isPlace : ByteArray := prog_1_method_51_code
def yX3_isPlace : MethodName := ⟨RX3, "isPlace", "(I)Z"⟩
abbrev cX3_isDeed : ByteArray := prog_1_method_52_code
def yX3_isDeed : MethodName := ⟨RX3, "isDeed", "(I)Z"⟩
abbrev cX3_isSheet : ByteArray := prog_1_method_53_code
def yX3_isSheet : MethodName := ⟨RX3, "isSheet", "(I)Z"⟩
abbrev cX3_isUnder : ByteArray := prog_1_method_54_code
def yX3_isUnder : MethodName := ⟨RX3, "isUnder", "(II)Z"⟩
abbrev cX3_isMajority : ByteArray := prog_1_method_55_code
def yX3_isMajority : MethodName := ⟨RX3, "isMajority", "(II)Z"⟩
abbrev cX3_isJuryAgainst : ByteArray := prog_1_method_56_code
def yX3_isJuryAgainst : MethodName := ⟨RX3, "isJuryAgainst", "(IIII)Z"⟩
abbrev cX3_faded : ByteArray := prog_1_method_57_code
def yX3_faded : MethodName := ⟨RX3, "faded", "(II)I"⟩
def RX4 : String := "NoseJuryModel"
def TX4 : u_T := fun k => match k with
  | 0 => ("NoseJuryModel", "s", "[I", true)
  | 1 => ("NoseJuryModel", "keptS", "[I", true)
  | 2 => ("NoseJuryModel", "other", "[I", true)
  | 3 => ("NoseJuryModel", "aside", "[I", true)
  | 4 => ("NoseJuryModel", "statuses", "[I", true)
  | 5 => ("NoseJuryModel", "isKept", "Z", false)
  | 6 => ("NoseJuryModel", "then", "[I", true)
  | 7 => ("NoseJuryModel", "firstJury", "I", false)
  | 8 => ("NoseJuryModel", "manyJuries", "I", false)
  | 9 => ("NoseJuryModel", "tape", "[I", true)
  | 10 => ("NoseJuryModel", "taped", "I", false)
  | 11 => ("NoseJuryModel", "from", "I", false)
  | 12 => ("NoseJuryModel", "to", "I", false)
  | 13 => ("NoseJuryModel", "value", "I", false)
  | 14 => ("NoseJuryModel", "isWrong", "Z", false)
  | 15 => ("NoseJuryModel", "bitsOf", "[I", true)
  | 16 => ("NoseJuryModel", "sizeOf", "[I", true)
  | 17 => ("NoseJuryModel", "numbers", "[J", true)
  | _ => ("NoseJuryModel", "moved", "[J", true)
def tyX4 : Nat → FieldType := fun k => match k with
  | 0 => .array .int
  | 1 => .array .int
  | 2 => .array .int
  | 3 => .array .int
  | 4 => .array .int
  | 5 => .boolean
  | 6 => .array .int
  | 7 => .int
  | 8 => .int
  | 9 => .array .int
  | 10 => .int
  | 11 => .int
  | 12 => .int
  | 13 => .int
  | 14 => .boolean
  | 15 => .array .int
  | 16 => .array .int
  | 17 => .array .long
  | _ => .array .long
abbrev wsX40 : List Cond := u_ws RX4 TX4 19
theorem nmX4 : ∀ a, a < 19 → ∀ b, b < 19 → a ≠ b → (TX4 a).2.1 ≠ (TX4 b).2.1 := by decide +kernel
theorem tyX4_ok : ∀ k, k < 19 → parseFieldDescriptor (TX4 k).2.2.1 = some (tyX4 k) := by decide +kernel
abbrev cX4_init : ByteArray := prog_6_method_1_code
def yX4_init : MethodName := ⟨RX4, "<init>", "()V"⟩
abbrev cX4_in : ByteArray := prog_6_method_2_code
def yX4_in : MethodName := ⟨RX4, "in", "(JJJ)Z"⟩
abbrev cX4_finds : ByteArray := prog_6_method_3_code
def yX4_finds : MethodName := ⟨RX4, "finds", "(I)I"⟩
abbrev cX4_saves : ByteArray := prog_6_method_4_code
def yX4_saves : MethodName := ⟨RX4, "saves", "()V"⟩
abbrev cX4_putsBack : ByteArray := prog_6_method_5_code
def yX4_putsBack : MethodName := ⟨RX4, "putsBack", "()V"⟩
abbrev cX4_laysAside : ByteArray := prog_6_method_6_code
def yX4_laysAside : MethodName := ⟨RX4, "laysAside", "()V"⟩
abbrev cX4_takesBack : ByteArray := prog_6_method_7_code
def yX4_takesBack : MethodName := ⟨RX4, "takesBack", "(I)I"⟩
abbrev cX4_becomes : ByteArray := prog_6_method_8_code
def yX4_becomes : MethodName := ⟨RX4, "becomes", "(II)I"⟩
abbrev cX4_isPlace : ByteArray := prog_6_method_9_code
def yX4_isPlace : MethodName := ⟨RX4, "isPlace", "(I)Z"⟩
abbrev cX4_isPerson : ByteArray := prog_6_method_10_code
def yX4_isPerson : MethodName := ⟨RX4, "isPerson", "(I)Z"⟩
abbrev cX4_areTwo : ByteArray := prog_6_method_11_code
def yX4_areTwo : MethodName := ⟨RX4, "areTwo", "(II)Z"⟩
abbrev cX4_isKind : ByteArray := prog_6_method_12_code
def yX4_isKind : MethodName := ⟨RX4, "isKind", "(I)Z"⟩
abbrev cX4_isDeed : ByteArray := prog_6_method_13_code
def yX4_isDeed : MethodName := ⟨RX4, "isDeed", "(I)Z"⟩
abbrev cX4_spot : ByteArray := prog_6_method_14_code
def yX4_spot : MethodName := ⟨RX4, "spot", "(II)I"⟩
abbrev cX4_its : ByteArray := prog_6_method_15_code
def yX4_its : MethodName := ⟨RX4, "its", "(II)I"⟩
abbrev cX4_law : ByteArray := prog_6_method_16_code
def yX4_law : MethodName := ⟨RX4, "law", "(II)I"⟩
abbrev cX4_adds : ByteArray := prog_6_method_17_code
def yX4_adds : MethodName := ⟨RX4, "adds", "(II)I"⟩
abbrev cX4_person : ByteArray := prog_6_method_18_code
def yX4_person : MethodName := ⟨RX4, "person", "(II)I"⟩
abbrev cX4_givesOff : ByteArray := prog_6_method_19_code
def yX4_givesOff : MethodName := ⟨RX4, "givesOff", "(II)I"⟩
abbrev cX4_scentsOf : ByteArray := prog_6_method_20_code
def yX4_scentsOf : MethodName := ⟨RX4, "scentsOf", "(I)I"⟩
abbrev cX4_givesOffAll : ByteArray := prog_6_method_21_code
def yX4_givesOffAll : MethodName := ⟨RX4, "givesOffAll", "(I)I"⟩
abbrev cX4_of : ByteArray := prog_6_method_22_code
def yX4_of : MethodName := ⟨RX4, "of", "(II)I"⟩
abbrev cX4_set : ByteArray := prog_6_method_23_code
def yX4_set : MethodName := ⟨RX4, "set", "(III)I"⟩
abbrev cX4_did : ByteArray := prog_6_method_24_code
def yX4_did : MethodName := ⟨RX4, "did", "(III)I"⟩
abbrev cX4_scent : ByteArray := prog_6_method_25_code
def yX4_scent : MethodName := ⟨RX4, "scent", "(III)I"⟩
abbrev cX4_turn : ByteArray := prog_6_method_26_code
def yX4_turn : MethodName := ⟨RX4, "turn", "(II)I"⟩
abbrev cX4_isUnder : ByteArray := prog_6_method_27_code
def yX4_isUnder : MethodName := ⟨RX4, "isUnder", "(II)Z"⟩
abbrev cX4_as : ByteArray := prog_6_method_28_code
def yX4_as : MethodName := ⟨RX4, "as", "(II)I"⟩
abbrev cX4_washes : ByteArray := prog_6_method_29_code
def yX4_washes : MethodName := ⟨RX4, "washes", "(I)I"⟩
abbrev cX4_wash : ByteArray := prog_6_method_30_code
def yX4_wash : MethodName := ⟨RX4, "wash", "(I)I"⟩
abbrev cX4_grows : ByteArray := prog_6_method_31_code
def yX4_grows : MethodName := ⟨RX4, "grows", "(II)I"⟩
abbrev cX4_meet : ByteArray := prog_6_method_32_code
def yX4_meet : MethodName := ⟨RX4, "meet", "(II)I"⟩
abbrev cX4_absolute : ByteArray := prog_6_method_33_code
def yX4_absolute : MethodName := ⟨RX4, "absolute", "(I)I"⟩
abbrev cX4_apart : ByteArray := prog_6_method_34_code
def yX4_apart : MethodName := ⟨RX4, "apart", "(II)I"⟩
abbrev cX4_isDownwind : ByteArray := prog_6_method_35_code
def yX4_isDownwind : MethodName := ⟨RX4, "isDownwind", "(II)Z"⟩
abbrev cX4_senses : ByteArray := prog_6_method_36_code
def yX4_senses : MethodName := ⟨RX4, "senses", "(III)I"⟩
abbrev cX4_smell : ByteArray := prog_6_method_37_code
def yX4_smell : MethodName := ⟨RX4, "smell", "(III)I"⟩
abbrev cX4_smells : ByteArray := prog_6_method_38_code
def yX4_smells : MethodName := ⟨RX4, "smells", "(III)I"⟩
abbrev cX4_deed : ByteArray := prog_6_method_39_code
def yX4_deed : MethodName := ⟨RX4, "deed", "(II)I"⟩
abbrev cX4_isFound : ByteArray := prog_6_method_40_code
def yX4_isFound : MethodName := ⟨RX4, "isFound", "(II)Z"⟩
abbrev cX4_finders : ByteArray := prog_6_method_41_code
def yX4_finders : MethodName := ⟨RX4, "finders", "(I)I"⟩
abbrev cX4_ones : ByteArray := prog_6_method_42_code
def yX4_ones : MethodName := ⟨RX4, "ones", "(I)I"⟩
abbrev cX4_findersMany : ByteArray := prog_6_method_43_code
def yX4_findersMany : MethodName := ⟨RX4, "findersMany", "(I)I"⟩
abbrev cX4_guilty : ByteArray := prog_6_method_44_code
def yX4_guilty : MethodName := ⟨RX4, "guilty", "(I)I"⟩
abbrev cX4_isConvicted : ByteArray := prog_6_method_45_code
def yX4_isConvicted : MethodName := ⟨RX4, "isConvicted", "(II)Z"⟩
abbrev cX4_convicts : ByteArray := prog_6_method_46_code
def yX4_convicts : MethodName := ⟨RX4, "convicts", "(II)I"⟩
abbrev cX4_greatestBy : ByteArray := prog_6_method_47_code
def yX4_greatestBy : MethodName := ⟨RX4, "greatestBy", "(II)I"⟩
abbrev cX4_leftOf : ByteArray := prog_6_method_48_code
def yX4_leftOf : MethodName := ⟨RX4, "leftOf", "(II)I"⟩
abbrev cX4_hour : ByteArray := prog_6_method_49_code
def yX4_hour : MethodName := ⟨RX4, "hour", "()V"⟩
abbrev cX4_goesOn : ByteArray := prog_6_method_50_code
def yX4_goesOn : MethodName := ⟨RX4, "goesOn", "(I)V"⟩
abbrev cX4_scentsAll : ByteArray := prog_6_method_51_code
def yX4_scentsAll : MethodName := ⟨RX4, "scentsAll", "()I"⟩
abbrev cX4_hours : ByteArray := prog_6_method_52_code
def yX4_hours : MethodName := ⟨RX4, "hours", "(I)I"⟩
abbrev cX4_allGuilty : ByteArray := prog_6_method_53_code
def yX4_allGuilty : MethodName := ⟨RX4, "allGuilty", "()I"⟩
abbrev cX4_now : ByteArray := prog_6_method_54_code
def yX4_now : MethodName := ⟨RX4, "now", "(I)I"⟩
abbrev cX4_on : ByteArray := prog_6_method_55_code
def yX4_on : MethodName := ⟨RX4, "on", "(III)I"⟩
abbrev cX4_clean : ByteArray := prog_6_method_56_code
def yX4_clean : MethodName := ⟨RX4, "clean", "(I)I"⟩
abbrev cX4_leastBy : ByteArray := prog_6_method_57_code
def yX4_leastBy : MethodName := ⟨RX4, "leastBy", "(III)I"⟩
abbrev cX4_wind : ByteArray := prog_6_method_58_code
def yX4_wind : MethodName := ⟨RX4, "wind", "(I)I"⟩
abbrev cX4_seat : ByteArray := prog_6_method_59_code
def yX4_seat : MethodName := ⟨RX4, "seat", "(I)I"⟩
abbrev cX4_kind : ByteArray := prog_6_method_60_code
def yX4_kind : MethodName := ⟨RX4, "kind", "(I)I"⟩
abbrev cX4_bath : ByteArray := prog_6_method_61_code
def yX4_bath : MethodName := ⟨RX4, "bath", "(I)I"⟩
abbrev cX4_due : ByteArray := prog_6_method_62_code
def yX4_due : MethodName := ⟨RX4, "due", "(I)I"⟩
abbrev cX4_findJuries : ByteArray := prog_6_method_63_code
def yX4_findJuries : MethodName := ⟨RX4, "findJuries", "(II)V"⟩
abbrev cX4_jury : ByteArray := prog_6_method_64_code
def yX4_jury : MethodName := ⟨RX4, "jury", "(II)I"⟩
abbrev cX4_juries : ByteArray := prog_6_method_65_code
def yX4_juries : MethodName := ⟨RX4, "juries", "(II)I"⟩
abbrev cX4_from : ByteArray := prog_6_method_66_code
def yX4_from : MethodName := ⟨RX4, "from", "(II)I"⟩
abbrev cX4_nose : ByteArray := prog_6_method_67_code
def yX4_nose : MethodName := ⟨RX4, "nose", "(II)I"⟩
abbrev cX4_feed : ByteArray := prog_6_method_68_code
def yX4_feed : MethodName := ⟨RX4, "feed", "(II)I"⟩
abbrev cX4_wipe : ByteArray := prog_6_method_69_code
def yX4_wipe : MethodName := ⟨RX4, "wipe", "()I"⟩
abbrev cX4_byteAt : ByteArray := prog_6_method_70_code
def yX4_byteAt : MethodName := ⟨RX4, "byteAt", "(I)I"⟩
abbrev cX4_isLetter : ByteArray := prog_6_method_71_code
def yX4_isLetter : MethodName := ⟨RX4, "isLetter", "(I)Z"⟩
abbrev cX4_isDigit : ByteArray := prog_6_method_72_code
def yX4_isDigit : MethodName := ⟨RX4, "isDigit", "(I)Z"⟩
abbrev cX4_token : ByteArray := prog_6_method_73_code
def yX4_token : MethodName := ⟨RX4, "token", "()V"⟩
abbrev cX4_must : ByteArray := prog_6_method_74_code
def yX4_must : MethodName := ⟨RX4, "must", "(Z)V"⟩
abbrev cX4_word : ByteArray := prog_6_method_75_code
def yX4_word : MethodName := ⟨RX4, "word", "()J"⟩
abbrev cX4_number : ByteArray := prog_6_method_76_code
def yX4_number : MethodName := ⟨RX4, "number", "(II)V"⟩
abbrev cX4_kindHere : ByteArray := prog_6_method_77_code
def yX4_kindHere : MethodName := ⟨RX4, "kindHere", "()I"⟩
abbrev cX4_personItem : ByteArray := prog_6_method_78_code
def yX4_personItem : MethodName := ⟨RX4, "personItem", "(I)V"⟩
abbrev cX4_item : ByteArray := prog_6_method_79_code
def yX4_item : MethodName := ⟨RX4, "item", "()V"⟩
abbrev cX4_hall : ByteArray := prog_6_method_80_code
def yX4_hall : MethodName := ⟨RX4, "hall", "()I"⟩
abbrev cX4_isOne : ByteArray := prog_6_method_81_code
def yX4_isOne : MethodName := ⟨RX4, "isOne", "(I)Z"⟩
abbrev cX4_sheet : ByteArray := prog_6_method_82_code
def yX4_sheet : MethodName := ⟨RX4, "sheet", "(III)I"⟩
abbrev cX4_narrowed : ByteArray := prog_6_method_83_code
def yX4_narrowed : MethodName := ⟨RX4, "narrowed", "(IJ)J"⟩
abbrev cX4_wrongSheet : ByteArray := prog_6_method_84_code
def yX4_wrongSheet : MethodName := ⟨RX4, "wrongSheet", "(I)I"⟩
abbrev cX4_write : ByteArray := prog_6_method_85_code
def yX4_write : MethodName := ⟨RX4, "write", "(IIJ)J"⟩
abbrev cX4_copy : ByteArray := prog_6_method_86_code
def yX4_copy : MethodName := ⟨RX4, "copy", "(IIIII)I"⟩
abbrev cX4_lays : ByteArray := prog_6_method_87_code
def yX4_lays : MethodName := ⟨RX4, "lays", "(I)I"⟩
abbrev cX4_wrongBook : ByteArray := prog_6_method_88_code
def yX4_wrongBook : MethodName := ⟨RX4, "wrongBook", "(IIII)I"⟩
abbrev cX4_book : ByteArray := prog_6_method_89_code
def yX4_book : MethodName := ⟨RX4, "book", "(IIII)I"⟩
abbrev cX4_isBook : ByteArray := prog_6_method_90_code
def yX4_isBook : MethodName := ⟨RX4, "isBook", "(IIII)Z"⟩
abbrev cX4_read : ByteArray := prog_6_method_91_code
def yX4_read : MethodName := ⟨RX4, "read", "(IIII)I"⟩
abbrev cX4_image : ByteArray := prog_6_method_92_code
def yX4_image : MethodName := ⟨RX4, "image", "()I"⟩
abbrev cX4_undo : ByteArray := prog_6_method_93_code
def yX4_undo : MethodName := ⟨RX4, "undo", "()I"⟩
abbrev cX4_tear : ByteArray := prog_6_method_94_code
def yX4_tear : MethodName := ⟨RX4, "tear", "()I"⟩
abbrev cX4_together : ByteArray := prog_6_method_95_code
def yX4_together : MethodName := ⟨RX4, "together", "(I)I"⟩
abbrev cX4_count : ByteArray := prog_6_method_96_code
def yX4_count : MethodName := ⟨RX4, "count", "(I)I"⟩
abbrev cX4_status : ByteArray := prog_6_method_97_code
def yX4_status : MethodName := ⟨RX4, "status", "(I)I"⟩
def RJ6 : String := "java/lang/Integer"
def TJ6 : u_T := fun k => match k with
  | _ => ("", "", "", false)
def tyJ6 : Nat → FieldType := fun k => match k with
  | _ => .int
abbrev wsJ60 : List Cond := u_ws RJ6 TJ6 0
theorem nmJ6 : ∀ a, a < 0 → ∀ b, b < 0 → a ≠ b → (TJ6 a).2.1 ≠ (TJ6 b).2.1 := by decide +kernel
theorem tyJ6_ok : ∀ k, k < 0 → parseFieldDescriptor (TJ6 k).2.2.1 = some (tyJ6 k) := by decide +kernel
abbrev cJ6_bitCount_0f7a4 : ByteArray := prog_7_method_49_code
def yJ6_bitCount_0f7a4 : MethodName := ⟨RJ6, "bitCount", "(I)I"⟩
def RJ9 : String := "java/lang/Math"
def TJ9 : u_T := fun k => match k with
  | _ => ("", "", "", false)
def tyJ9 : Nat → FieldType := fun k => match k with
  | _ => .int
abbrev wsJ90 : List Cond := u_ws RJ9 TJ9 0
theorem nmJ9 : ∀ a, a < 0 → ∀ b, b < 0 → a ≠ b → (TJ9 a).2.1 ≠ (TJ9 b).2.1 := by decide +kernel
theorem tyJ9_ok : ∀ k, k < 0 → parseFieldDescriptor (TJ9 k).2.2.1 = some (tyJ9 k) := by decide +kernel
abbrev cJ9_abs_0f7a4 : ByteArray := prog_8_method_59_code
def yJ9_abs_0f7a4 : MethodName := ⟨RJ9, "abs", "(I)I"⟩
abbrev cJ9_max_7cf53 : ByteArray := prog_8_method_65_code
def yJ9_max_7cf53 : MethodName := ⟨RJ9, "max", "(II)I"⟩
abbrev cJ9_min_7cf53 : ByteArray := prog_8_method_69_code
def yJ9_min_7cf53 : MethodName := ⟨RJ9, "min", "(II)I"⟩
def RJ0 : String := "java/lang/String"
def TJ0 : u_T := fun k => match k with
  | _ => ("", "", "", false)
def tyJ0 : Nat → FieldType := fun k => match k with
  | _ => .int
abbrev wsJ00 : List Cond := u_ws RJ0 TJ0 0
theorem nmJ0 : ∀ a, a < 0 → ∀ b, b < 0 → a ≠ b → (TJ0 a).2.1 ≠ (TJ0 b).2.1 := by decide +kernel
theorem tyJ0_ok : ∀ k, k < 0 → parseFieldDescriptor (TJ0 k).2.2.1 = some (tyJ0 k) := by decide +kernel
abbrev cJ0_length_8abf5 : ByteArray := prog_9_method_54_code
def yJ0_length_8abf5 : MethodName := ⟨RJ0, "length", "()I"⟩
abbrev cJ0_charAt_5068e : ByteArray := prog_9_method_56_code
def yJ0_charAt_5068e : MethodName := ⟨RJ0, "charAt", "(I)C"⟩
abbrev cJ0_coder_7d493 : ByteArray := prog_9_method_152_code
def yJ0_coder_7d493 : MethodName := ⟨RJ0, "coder", "()B"⟩
abbrev cJ0_isLatin1_aae02 : ByteArray := prog_9_method_154_code
def yJ0_isLatin1_aae02 : MethodName := ⟨RJ0, "isLatin1", "()Z"⟩
abbrev cJ0_checkIndex_df160 : ByteArray := prog_9_method_155_code
def yJ0_checkIndex_df160 : MethodName := ⟨RJ0, "checkIndex", "(II)V"⟩
def RJ1 : String := "java/lang/StringLatin1"
def TJ1 : u_T := fun k => match k with
  | _ => ("", "", "", false)
def tyJ1 : Nat → FieldType := fun k => match k with
  | _ => .int
abbrev wsJ10 : List Cond := u_ws RJ1 TJ1 0
theorem nmJ1 : ∀ a, a < 0 → ∀ b, b < 0 → a ≠ b → (TJ1 a).2.1 ≠ (TJ1 b).2.1 := by decide +kernel
theorem tyJ1_ok : ∀ k, k < 0 → parseFieldDescriptor (TJ1 k).2.2.1 = some (tyJ1 k) := by decide +kernel
abbrev cJ1_charAt_3b067 : ByteArray := prog_10_method_2_code
def yJ1_charAt_3b067 : MethodName := ⟨RJ1, "charAt", "([BI)C"⟩
def RJ2 : String := "java/lang/StringUTF16"
def TJ2 : u_T := fun k => match k with
  | _ => ("", "", "", false)
def tyJ2 : Nat → FieldType := fun k => match k with
  | _ => .int
abbrev wsJ20 : List Cond := u_ws RJ2 TJ2 0
theorem nmJ2 : ∀ a, a < 0 → ∀ b, b < 0 → a ≠ b → (TJ2 a).2.1 ≠ (TJ2 b).2.1 := by decide +kernel
theorem tyJ2_ok : ∀ k, k < 0 → parseFieldDescriptor (TJ2 k).2.2.1 = some (tyJ2 k) := by decide +kernel
abbrev cJ2_getChar_3b067 : ByteArray := prog_11_method_5_code
def yJ2_getChar_3b067 : MethodName := ⟨RJ2, "getChar", "([BI)C"⟩
abbrev cJ2_length_9d52b : ByteArray := prog_11_method_6_code
def yJ2_length_9d52b : MethodName := ⟨RJ2, "length", "([B)I"⟩
abbrev cJ2_charAt_3b067 : ByteArray := prog_11_method_83_code
def yJ2_charAt_3b067 : MethodName := ⟨RJ2, "charAt", "([BI)C"⟩
abbrev cJ2_checkIndex_2214a : ByteArray := prog_11_method_91_code
def yJ2_checkIndex_2214a : MethodName := ⟨RJ2, "checkIndex", "(I[B)V"⟩
def RJ10 : String := "java/lang/System"
def TJ10 : u_T := fun k => match k with
  | _ => ("", "", "", false)
def tyJ10 : Nat → FieldType := fun k => match k with
  | _ => .int
abbrev wsJ100 : List Cond := u_ws RJ10 TJ10 0
theorem nmJ10 : ∀ a, a < 0 → ∀ b, b < 0 → a ≠ b → (TJ10 a).2.1 ≠ (TJ10 b).2.1 := by decide +kernel
theorem tyJ10_ok : ∀ k, k < 0 → parseFieldDescriptor (TJ10 k).2.2.1 = some (tyJ10 k) := by decide +kernel
def RJ3 : String := "jdk/internal/util/Preconditions"
def TJ3 : u_T := fun k => match k with
  | _ => ("", "", "", false)
def tyJ3 : Nat → FieldType := fun k => match k with
  | _ => .int
abbrev wsJ30 : List Cond := u_ws RJ3 TJ3 0
theorem nmJ3 : ∀ a, a < 0 → ∀ b, b < 0 → a ≠ b → (TJ3 a).2.1 ≠ (TJ3 b).2.1 := by decide +kernel
theorem tyJ3_ok : ∀ k, k < 0 → parseFieldDescriptor (TJ3 k).2.2.1 = some (tyJ3 k) := by decide +kernel
abbrev cJ3_checkIndex_8e157 : ByteArray := prog_13_method_11_code
def yJ3_checkIndex_8e157 : MethodName := ⟨RJ3, "checkIndex", "(IILjava/util/function/BiFunction;)I"⟩
def RL : String := "NoseJuryLaw"
abbrev cL_law : ByteArray := code
def yL_law : MethodName := ⟨RL, "law", "([I)Z"⟩
def wsJ0_coder_7d493 : List Cond := .code yJ0_coder_7d493 cJ0_coder_7d493 1 (some .byte) :: ([.fieldLink RJ0 38 "java/lang/String" "COMPACT_STRINGS" "Z", .fieldLink RJ0 15 "java/lang/String" "coder" "B"])
def wsJ0_length_8abf5 : List Cond := .code yJ0_length_8abf5 cJ0_length_8abf5 1 (some .int) :: ([.fieldLink RJ0 9 "java/lang/String" "value" "[B", .methodLink RJ0 335 yJ0_coder_7d493, .instanceMethod yJ0_coder_7d493, .selects RJ0 yJ0_coder_7d493 yJ0_coder_7d493, .initialized RJ0, .code yJ0_coder_7d493 cJ0_coder_7d493 1 (some .byte), .fieldLink RJ0 38 "java/lang/String" "COMPACT_STRINGS" "Z", .fieldLink RJ0 15 "java/lang/String" "coder" "B"])
def wsJ0_isLatin1_aae02 : List Cond := .code yJ0_isLatin1_aae02 cJ0_isLatin1_aae02 1 (some .boolean) :: ([.fieldLink RJ0 38 "java/lang/String" "COMPACT_STRINGS" "Z", .fieldLink RJ0 15 "java/lang/String" "coder" "B"])
def wsJ3_checkIndex_8e157 : List Cond := .code yJ3_checkIndex_8e157 cJ3_checkIndex_8e157 3 (some .int) :: ([])
def wsJ0_checkIndex_df160 : List Cond := .code yJ0_checkIndex_df160 cJ0_checkIndex_df160 2 none :: ([.fieldLink RJ0 1053 "jdk/internal/util/Preconditions" "SIOOBE_FORMATTER" "Ljava/util/function/BiFunction;", .methodLink RJ0 1059 yJ3_checkIndex_8e157, .static yJ3_checkIndex_8e157, .initialized RJ3, .code yJ3_checkIndex_8e157 cJ3_checkIndex_8e157 3 (some .int)])
def wsJ1_charAt_3b067 : List Cond := .code yJ1_charAt_3b067 cJ1_charAt_3b067 2 (some .char) :: ([.methodLink RJ1 9 yJ0_checkIndex_df160, .static yJ0_checkIndex_df160, .initialized RJ0, .code yJ0_checkIndex_df160 cJ0_checkIndex_df160 2 none, .fieldLink RJ0 1053 "jdk/internal/util/Preconditions" "SIOOBE_FORMATTER" "Ljava/util/function/BiFunction;", .methodLink RJ0 1059 yJ3_checkIndex_8e157, .static yJ3_checkIndex_8e157, .initialized RJ3, .code yJ3_checkIndex_8e157 cJ3_checkIndex_8e157 3 (some .int)])
def wsJ2_length_9d52b : List Cond := .code yJ2_length_9d52b cJ2_length_9d52b 1 (some .int) :: ([])
def wsJ2_checkIndex_2214a : List Cond := .code yJ2_checkIndex_2214a cJ2_checkIndex_2214a 2 none :: ([.methodLink RJ2 48 yJ2_length_9d52b, .static yJ2_length_9d52b, .initialized RJ2, .code yJ2_length_9d52b cJ2_length_9d52b 1 (some .int), .methodLink RJ2 414 yJ0_checkIndex_df160, .static yJ0_checkIndex_df160, .initialized RJ0, .code yJ0_checkIndex_df160 cJ0_checkIndex_df160 2 none, .fieldLink RJ0 1053 "jdk/internal/util/Preconditions" "SIOOBE_FORMATTER" "Ljava/util/function/BiFunction;", .methodLink RJ0 1059 yJ3_checkIndex_8e157, .static yJ3_checkIndex_8e157, .initialized RJ3, .code yJ3_checkIndex_8e157 cJ3_checkIndex_8e157 3 (some .int)])
def wsJ2_getChar_3b067 : List Cond := .code yJ2_getChar_3b067 cJ2_getChar_3b067 2 (some .char) :: ([.fieldLink RJ2 44 "java/lang/StringUTF16" "$assertionsDisabled" "Z", .fieldLink RJ2 59 "java/lang/StringUTF16" "HI_BYTE_SHIFT" "I", .fieldLink RJ2 63 "java/lang/StringUTF16" "LO_BYTE_SHIFT" "I", .methodLink RJ2 48 yJ2_length_9d52b, .static yJ2_length_9d52b, .initialized RJ2, .code yJ2_length_9d52b cJ2_length_9d52b 1 (some .int)])
def wsJ2_charAt_3b067 : List Cond := .code yJ2_charAt_3b067 cJ2_charAt_3b067 2 (some .char) :: ([.methodLink RJ2 67 yJ2_checkIndex_2214a, .static yJ2_checkIndex_2214a, .initialized RJ2, .code yJ2_checkIndex_2214a cJ2_checkIndex_2214a 2 none, .methodLink RJ2 48 yJ2_length_9d52b, .static yJ2_length_9d52b, .code yJ2_length_9d52b cJ2_length_9d52b 1 (some .int), .methodLink RJ2 414 yJ0_checkIndex_df160, .static yJ0_checkIndex_df160, .initialized RJ0, .code yJ0_checkIndex_df160 cJ0_checkIndex_df160 2 none, .fieldLink RJ0 1053 "jdk/internal/util/Preconditions" "SIOOBE_FORMATTER" "Ljava/util/function/BiFunction;", .methodLink RJ0 1059 yJ3_checkIndex_8e157, .static yJ3_checkIndex_8e157, .initialized RJ3, .code yJ3_checkIndex_8e157 cJ3_checkIndex_8e157 3 (some .int), .methodLink RJ2 71 yJ2_getChar_3b067, .static yJ2_getChar_3b067, .code yJ2_getChar_3b067 cJ2_getChar_3b067 2 (some .char), .fieldLink RJ2 44 "java/lang/StringUTF16" "$assertionsDisabled" "Z", .fieldLink RJ2 59 "java/lang/StringUTF16" "HI_BYTE_SHIFT" "I", .fieldLink RJ2 63 "java/lang/StringUTF16" "LO_BYTE_SHIFT" "I"])
def wsJ0_charAt_5068e_r1 : List Cond := [Cond.fieldLink RJ0 9 "java/lang/String" "value" "[B", Cond.methodLink RJ0 492 yJ0_isLatin1_aae02, Cond.instanceMethod yJ0_isLatin1_aae02, Cond.selects RJ0 yJ0_isLatin1_aae02 yJ0_isLatin1_aae02, Cond.initialized RJ0, Cond.code yJ0_isLatin1_aae02 cJ0_isLatin1_aae02 1 (some .boolean), Cond.fieldLink RJ0 38 "java/lang/String" "COMPACT_STRINGS" "Z", Cond.fieldLink RJ0 15 "java/lang/String" "coder" "B", Cond.methodLink RJ0 495 yJ1_charAt_3b067, Cond.static yJ1_charAt_3b067, Cond.initialized RJ1, Cond.code yJ1_charAt_3b067 cJ1_charAt_3b067 2 (some .char), Cond.methodLink RJ1 9 yJ0_checkIndex_df160, Cond.static yJ0_checkIndex_df160, Cond.code yJ0_checkIndex_df160 cJ0_checkIndex_df160 2 none, Cond.fieldLink RJ0 1053 "jdk/internal/util/Preconditions" "SIOOBE_FORMATTER" "Ljava/util/function/BiFunction;", Cond.methodLink RJ0 1059 yJ3_checkIndex_8e157, Cond.static yJ3_checkIndex_8e157, Cond.initialized RJ3, Cond.code yJ3_checkIndex_8e157 cJ3_checkIndex_8e157 3 (some .int), Cond.methodLink RJ0 498 yJ2_charAt_3b067, Cond.static yJ2_charAt_3b067, Cond.initialized RJ2, Cond.code yJ2_charAt_3b067 cJ2_charAt_3b067 2 (some .char)]
def wsJ0_charAt_5068e_r2 : List Cond := [Cond.methodLink RJ2 67 yJ2_checkIndex_2214a, Cond.static yJ2_checkIndex_2214a, Cond.code yJ2_checkIndex_2214a cJ2_checkIndex_2214a 2 none, Cond.methodLink RJ2 48 yJ2_length_9d52b, Cond.static yJ2_length_9d52b, Cond.code yJ2_length_9d52b cJ2_length_9d52b 1 (some .int), Cond.methodLink RJ2 414 yJ0_checkIndex_df160, Cond.methodLink RJ2 71 yJ2_getChar_3b067, Cond.static yJ2_getChar_3b067, Cond.code yJ2_getChar_3b067 cJ2_getChar_3b067 2 (some .char), Cond.fieldLink RJ2 44 "java/lang/StringUTF16" "$assertionsDisabled" "Z", Cond.fieldLink RJ2 59 "java/lang/StringUTF16" "HI_BYTE_SHIFT" "I", Cond.fieldLink RJ2 63 "java/lang/StringUTF16" "LO_BYTE_SHIFT" "I"]
def wsJ0_charAt_5068e : List Cond := .code yJ0_charAt_5068e cJ0_charAt_5068e 2 (some .char) :: ((wsJ0_charAt_5068e_r1 ++ wsJ0_charAt_5068e_r2))
def wsJ6_bitCount_0f7a4 : List Cond := .code yJ6_bitCount_0f7a4 cJ6_bitCount_0f7a4 1 (some .int) :: ([.constant RJ6 265 (1431655765), .constant RJ6 266 (858993459), .constant RJ6 267 (252645135)])
def wsJ9_abs_0f7a4 : List Cond := .code yJ9_abs_0f7a4 cJ9_abs_0f7a4 1 (some .int) :: ([])
def wsJ9_max_7cf53 : List Cond := .code yJ9_max_7cf53 cJ9_max_7cf53 2 (some .int) :: ([])
def wsJ9_min_7cf53 : List Cond := .code yJ9_min_7cf53 cJ9_min_7cf53 2 (some .int) :: ([])
def wsL_law_r1 : List Cond := [Cond.classLink RL 7 RX3, Cond.instantiable RX3 7, Cond.initialized RX3, Cond.classLink RL 10 RX4, Cond.instantiable RX4 19, Cond.initialized RX4, Cond.constantLong RL 141 (4294967295), Cond.methodLink RL 9 yX3_init, Cond.instanceMethod yX3_init, Cond.code yX3_init cX3_init 2 none, Cond.methodLink RX3 1 objectInit, Cond.instanceMethod objectInit, Cond.code objectInit ⟨#[0xb1]⟩ 1 none, Cond.classLink RX3 7 RX0, Cond.instantiable RX0 10, Cond.initialized RX0, Cond.fieldLink RX3 10 "NoseJury" "live" "LNoseJury$Hall;", Cond.fieldLink RX3 16 "NoseJury" "kept" "LNoseJury$Hall;", Cond.fieldLink RX3 19 "NoseJury" "trial" "LNoseJury$Hall;", Cond.classLink RX3 22 RX2, Cond.instantiable RX2 6, Cond.initialized RX2, Cond.fieldLink RX3 25 "NoseJury" "tape" "LNoseJury$Tape;", Cond.classLink RX3 29 RX1]
def wsL_law_r2 : List Cond := [Cond.fieldLink RX3 31 "NoseJury" "sheets" "[LNoseJury$Sheet;", Cond.instantiable RX1 3, Cond.initialized RX1, Cond.arrayClass .int, Cond.fieldLink RX3 36 "NoseJury" "told" "[I", Cond.fieldLink RX3 40 "NoseJury" "anyKept" "Z", Cond.methodLink RX3 9 yX0_init, Cond.instanceMethod yX0_init, Cond.code yX0_init cX0_init 1 none, Cond.methodLink RX0 3 objectInit, Cond.fieldLink RX0 9 "NoseJury$Hall" "wind" "I", Cond.fieldLink RX0 15 "NoseJury$Hall" "due" "I", Cond.fieldLink RX0 18 "NoseJury$Hall" "hour" "I", Cond.fieldLink RX0 21 "NoseJury$Hall" "people" "I", Cond.fieldLink RX0 24 "NoseJury$Hall" "kinds" "[I", Cond.fieldLink RX0 28 "NoseJury$Hall" "places" "[I", Cond.fieldLink RX0 31 "NoseJury$Hall" "noses" "[I", Cond.fieldLink RX0 34 "NoseJury$Hall" "colds" "[I", Cond.classLink RX0 37 "[[I", Cond.fieldLink RX0 39 "NoseJury$Hall" "scents" "[[I", Cond.fieldLink RX0 42 "NoseJury$Hall" "later" "[I", Cond.methodLink RX3 24 yX2_init, Cond.instanceMethod yX2_init, Cond.code yX2_init cX2_init 1 none]
def wsL_law_r3 : List Cond := [Cond.methodLink RX2 3 objectInit, Cond.fieldLink RX2 9 "NoseJury$Tape" "length" "I", Cond.fieldLink RX2 15 "NoseJury$Tape" "bytes" "[I", Cond.fieldLink RX2 19 "NoseJury$Tape" "next" "I", Cond.fieldLink RX2 22 "NoseJury$Tape" "token" "I", Cond.fieldLink RX2 25 "NoseJury$Tape" "start" "I", Cond.fieldLink RX2 28 "NoseJury$Tape" "value" "I", Cond.methodLink RX3 35 yX1_init, Cond.instanceMethod yX1_init, Cond.code yX1_init cX1_init 1 none, Cond.methodLink RX1 3 objectInit, Cond.fieldLink RX1 9 "NoseJury$Sheet" "bits" "I", Cond.fieldLink RX1 15 "NoseJury$Sheet" "size" "I", Cond.arrayClass .long, Cond.fieldLink RX1 18 "NoseJury$Sheet" "numbers" "[J", Cond.methodLink RL 12 yX4_init, Cond.instanceMethod yX4_init, Cond.code yX4_init cX4_init 1 none, Cond.methodLink RX4 1 objectInit, Cond.fieldLink RX4 7 "NoseJuryModel" "s" "[I", Cond.fieldLink RX4 13 "NoseJuryModel" "keptS" "[I", Cond.fieldLink RX4 16 "NoseJuryModel" "other" "[I", Cond.fieldLink RX4 19 "NoseJuryModel" "aside" "[I", Cond.fieldLink RX4 22 "NoseJuryModel" "statuses" "[I"]
def wsL_law_r4 : List Cond := [Cond.fieldLink RX4 25 "NoseJuryModel" "then" "[I", Cond.fieldLink RX4 28 "NoseJuryModel" "tape" "[I", Cond.fieldLink RX4 31 "NoseJuryModel" "bitsOf" "[I", Cond.fieldLink RX4 34 "NoseJuryModel" "sizeOf" "[I", Cond.fieldLink RX4 37 "NoseJuryModel" "numbers" "[J", Cond.fieldLink RX4 41 "NoseJuryModel" "moved" "[J", Cond.methodLink RL 13 yX3_law, Cond.instanceMethod yX3_law, Cond.selects RX3 yX3_law yX3_law, Cond.code yX3_law cX3_law 4 (some .int), Cond.fieldLink RX3 48 "NoseJury$Hall" "wind" "I", Cond.fieldLink RX3 52 "NoseJury$Hall" "due" "I", Cond.constant RX3 55 (-1000000001), Cond.methodLink RX3 44 yX3_within, Cond.static yX3_within, Cond.code yX3_within cX3_within 3 (some .boolean), Cond.methodLink RX3 56 yX3_tell, Cond.instanceMethod yX3_tell, Cond.selects RX3 yX3_tell yX3_tell, Cond.code yX3_tell cX3_tell 3 (some .int), Cond.methodLink RL 17 yX4_law, Cond.instanceMethod yX4_law, Cond.selects RX4 yX4_law yX4_law, Cond.code yX4_law cX4_law 4 (some .int)]
def wsL_law_r5 : List Cond := [Cond.constantLong RX4 61 (4), Cond.constantLong RX4 63 (99), Cond.constant RX4 44 (-1000000001), Cond.methodLink RX4 47 yX4_in, Cond.static yX4_in, Cond.code yX4_in cX4_in 6 (some .boolean), Cond.methodLink RX4 65 yX4_becomes, Cond.instanceMethod yX4_becomes, Cond.selects RX4 yX4_becomes yX4_becomes, Cond.code yX4_becomes cX4_becomes 4 (some .int), Cond.methodLink RX4 68 yX4_finds, Cond.instanceMethod yX4_finds, Cond.selects RX4 yX4_finds yX4_finds, Cond.code yX4_finds cX4_finds 2 (some .int), Cond.methodLink RL 18 yX3_person, Cond.instanceMethod yX3_person, Cond.selects RX3 yX3_person yX3_person, Cond.code yX3_person cX3_person 3 (some .int), Cond.fieldLink RX3 67 "NoseJury$Hall" "people" "I", Cond.constant RX3 70 (-1000000002), Cond.methodLink RX3 60 yX3_isKind, Cond.static yX3_isKind, Cond.code yX3_isKind cX3_isKind 1 (some .boolean), Cond.methodLink RX3 64 yX3_isPlace]
def wsL_law_r6 : List Cond := [Cond.static yX3_isPlace, Cond.code yX3_isPlace cX3_isPlace 1 (some .boolean), Cond.methodLink RX3 71 yX0_join, Cond.instanceMethod yX0_join, Cond.selects RX0 yX0_join yX0_join, Cond.code yX0_join cX0_join 5 (some .int), Cond.methodLink RL 21 yX4_person, Cond.instanceMethod yX4_person, Cond.selects RX4 yX4_person yX4_person, Cond.code yX4_person cX4_person 3 (some .int), Cond.constant RX4 78 (-1000000002), Cond.methodLink RX4 72 yX4_isKind, Cond.static yX4_isKind, Cond.code yX4_isKind cX4_isKind 1 (some .boolean), Cond.constantLong RX4 55 (5), Cond.methodLink RX4 75 yX4_isPlace, Cond.static yX4_isPlace, Cond.code yX4_isPlace cX4_isPlace 1 (some .boolean), Cond.constantLong RX4 45 (47), Cond.methodLink RX4 79 yX4_adds, Cond.instanceMethod yX4_adds, Cond.selects RX4 yX4_adds yX4_adds, Cond.code yX4_adds cX4_adds 5 (some .int), Cond.methodLink RX4 57 yX4_spot]
def wsL_law_r7 : List Cond := [Cond.static yX4_spot, Cond.code yX4_spot cX4_spot 2 (some .int), Cond.methodLink RL 22 yX3_of, Cond.instanceMethod yX3_of, Cond.selects RX3 yX3_of yX3_of, Cond.code yX3_of cX3_of 3 (some .int), Cond.fieldLink RX3 78 "NoseJury$Hall" "kinds" "[I", Cond.fieldLink RX3 81 "NoseJury$Hall" "places" "[I", Cond.fieldLink RX3 84 "NoseJury$Hall" "noses" "[I", Cond.fieldLink RX3 87 "NoseJury$Hall" "colds" "[I", Cond.methodLink RX3 75 yX0_has, Cond.instanceMethod yX0_has, Cond.selects RX0 yX0_has yX0_has, Cond.code yX0_has cX0_has 2 (some .boolean), Cond.methodLink RX3 90 yX0_scentsOf, Cond.instanceMethod yX0_scentsOf, Cond.selects RX0 yX0_scentsOf yX0_scentsOf, Cond.code yX0_scentsOf cX0_scentsOf 4 (some .int), Cond.methodLink RX3 93 yX0_givenOffBy, Cond.instanceMethod yX0_givenOffBy, Cond.selects RX0 yX0_givenOffBy yX0_givenOffBy, Cond.code yX0_givenOffBy cX0_givenOffBy 4 (some .int), Cond.methodLink RX0 65 yX0_givesOff, Cond.instanceMethod yX0_givesOff]
def wsL_law_r8 : List Cond := [Cond.selects RX0 yX0_givesOff yX0_givesOff, Cond.code yX0_givesOff cX0_givesOff 4 (some .int), Cond.methodLink RX0 59 Lib.Math.max.name, Cond.static Lib.Math.max.name, Cond.initialized "java/lang/Math", Cond.code Lib.Math.max.name Lib.Math.max.code 2 (some .int), Cond.methodLink RL 25 yX4_of, Cond.instanceMethod yX4_of, Cond.selects RX4 yX4_of yX4_of, Cond.code yX4_of cX4_of 3 (some .int), Cond.methodLink RX4 51 yX4_isPerson, Cond.instanceMethod yX4_isPerson, Cond.selects RX4 yX4_isPerson yX4_isPerson, Cond.code yX4_isPerson cX4_isPerson 2 (some .boolean), Cond.methodLink RX4 82 yX4_its, Cond.instanceMethod yX4_its, Cond.selects RX4 yX4_its yX4_its, Cond.code yX4_its cX4_its 3 (some .int), Cond.methodLink RX4 88 yX4_scentsOf, Cond.instanceMethod yX4_scentsOf, Cond.selects RX4 yX4_scentsOf yX4_scentsOf, Cond.code yX4_scentsOf cX4_scentsOf 4 (some .int), Cond.methodLink RX4 91 yX4_givesOffAll, Cond.instanceMethod yX4_givesOffAll]
def wsL_law_r9 : List Cond := [Cond.selects RX4 yX4_givesOffAll yX4_givesOffAll, Cond.code yX4_givesOffAll cX4_givesOffAll 4 (some .int), Cond.methodLink RX4 85 yX4_givesOff, Cond.instanceMethod yX4_givesOff, Cond.selects RX4 yX4_givesOff yX4_givesOff, Cond.code yX4_givesOff cX4_givesOff 6 (some .int), Cond.methodLink RL 26 yX3_set, Cond.instanceMethod yX3_set, Cond.selects RX3 yX3_set yX3_set, Cond.code yX3_set cX3_set 4 (some .int), Cond.methodLink RX3 96 yX3_exchange, Cond.static yX3_exchange, Cond.code yX3_exchange cX3_exchange 4 (some .int), Cond.methodLink RL 30 yX4_set, Cond.instanceMethod yX4_set, Cond.selects RX4 yX4_set yX4_set, Cond.code yX4_set cX4_set 5 (some .int), Cond.constantLong RX4 94 (9), Cond.methodLink RL 31 yX3_did, Cond.instanceMethod yX3_did, Cond.selects RX3 yX3_did yX3_did, Cond.code yX3_did cX3_did 4 (some .int), Cond.fieldLink RX3 103 "NoseJury$Hall" "scents" "[[I", Cond.methodLink RX3 100 yX3_isDeed]
def wsL_law_r10 : List Cond := [Cond.static yX3_isDeed, Cond.code yX3_isDeed cX3_isDeed 1 (some .boolean), Cond.methodLink RL 34 yX4_did, Cond.instanceMethod yX4_did, Cond.selects RX4 yX4_did yX4_did, Cond.code yX4_did cX4_did 4 (some .int), Cond.methodLink RX4 96 yX4_isDeed, Cond.static yX4_isDeed, Cond.code yX4_isDeed cX4_isDeed 1 (some .boolean), Cond.methodLink RL 35 yX3_scent, Cond.instanceMethod yX3_scent, Cond.selects RX3 yX3_scent yX3_scent, Cond.code yX3_scent cX3_scent 4 (some .int), Cond.methodLink RX3 107 yX0_givesOff, Cond.methodLink RL 38 yX4_scent, Cond.instanceMethod yX4_scent, Cond.selects RX4 yX4_scent yX4_scent, Cond.code yX4_scent cX4_scent 4 (some .int), Cond.methodLink RL 39 yX3_turn, Cond.instanceMethod yX3_turn, Cond.selects RX3 yX3_turn yX3_turn, Cond.code yX3_turn cX3_turn 3 (some .int), Cond.methodLink RL 42 yX4_turn, Cond.instanceMethod yX4_turn]
def wsL_law_r11 : List Cond := [Cond.selects RX4 yX4_turn yX4_turn, Cond.code yX4_turn cX4_turn 3 (some .int), Cond.methodLink RL 43 yX3_as, Cond.instanceMethod yX3_as, Cond.selects RX3 yX3_as yX3_as, Cond.code yX3_as cX3_as 3 (some .int), Cond.constant RX3 114 (-1000000003), Cond.methodLink RX3 110 yX3_isUnder, Cond.static yX3_isUnder, Cond.code yX3_isUnder cX3_isUnder 2 (some .boolean), Cond.methodLink RL 46 yX4_as, Cond.instanceMethod yX4_as, Cond.selects RX4 yX4_as yX4_as, Cond.code yX4_as cX4_as 3 (some .int), Cond.constant RX4 103 (-1000000003), Cond.methodLink RX4 99 yX4_isUnder, Cond.static yX4_isUnder, Cond.code yX4_isUnder cX4_isUnder 2 (some .boolean), Cond.methodLink RL 47 yX3_wash, Cond.instanceMethod yX3_wash, Cond.selects RX3 yX3_wash yX3_wash, Cond.code yX3_wash cX3_wash 2 (some .int), Cond.methodLink RX3 115 yX0_washes, Cond.instanceMethod yX0_washes]
def wsL_law_r12 : List Cond := [Cond.selects RX0 yX0_washes yX0_washes, Cond.code yX0_washes cX0_washes 5 (some .int), Cond.methodLink RL 51 yX4_wash, Cond.instanceMethod yX4_wash, Cond.selects RX4 yX4_wash yX4_wash, Cond.code yX4_wash cX4_wash 2 (some .int), Cond.methodLink RX4 104 yX4_washes, Cond.instanceMethod yX4_washes, Cond.selects RX4 yX4_washes yX4_washes, Cond.code yX4_washes cX4_washes 5 (some .int), Cond.methodLink RL 52 yX3_meet, Cond.instanceMethod yX3_meet, Cond.selects RX3 yX3_meet yX3_meet, Cond.code yX3_meet cX3_meet 8 (some .int), Cond.methodLink RX3 121 Lib.Math.max.name, Cond.methodLink RX3 118 yX0_hasTwo, Cond.instanceMethod yX0_hasTwo, Cond.selects RX0 yX0_hasTwo yX0_hasTwo, Cond.code yX0_hasTwo cX0_hasTwo 3 (some .boolean), Cond.methodLink RX0 51 yX0_has, Cond.methodLink RL 55 yX4_meet, Cond.instanceMethod yX4_meet, Cond.selects RX4 yX4_meet yX4_meet, Cond.code yX4_meet cX4_meet 8 (some .int)]
def wsL_law_r13 : List Cond := [Cond.methodLink RX4 107 yX4_areTwo, Cond.instanceMethod yX4_areTwo, Cond.selects RX4 yX4_areTwo yX4_areTwo, Cond.code yX4_areTwo cX4_areTwo 3 (some .boolean), Cond.methodLink RX4 110 yX4_grows, Cond.instanceMethod yX4_grows, Cond.selects RX4 yX4_grows yX4_grows, Cond.code yX4_grows cX4_grows 4 (some .int), Cond.methodLink RL 56 yX3_smells, Cond.instanceMethod yX3_smells, Cond.selects RX3 yX3_smells yX3_smells, Cond.code yX3_smells cX3_smells 4 (some .int), Cond.methodLink RX3 126 yX0_smelt, Cond.instanceMethod yX0_smelt, Cond.selects RX0 yX0_smelt yX0_smelt, Cond.code yX0_smelt cX0_smelt 5 (some .int), Cond.methodLink RX0 68 yX0_apart, Cond.static yX0_apart, Cond.code yX0_apart cX0_apart 2 (some .int), Cond.methodLink RX0 102 Lib.Math.abs.name, Cond.static Lib.Math.abs.name, Cond.code Lib.Math.abs.name Lib.Math.abs.code 1 (some .int), Cond.methodLink RX0 71 yX0_senses, Cond.instanceMethod yX0_senses]
def wsL_law_r14 : List Cond := [Cond.selects RX0 yX0_senses yX0_senses, Cond.code yX0_senses cX0_senses 5 (some .int), Cond.methodLink RX0 75 yX0_isDownwind, Cond.instanceMethod yX0_isDownwind, Cond.selects RX0 yX0_isDownwind yX0_isDownwind, Cond.code yX0_isDownwind cX0_isDownwind 3 (some .boolean), Cond.methodLink RL 59 yX4_smells, Cond.instanceMethod yX4_smells, Cond.selects RX4 yX4_smells yX4_smells, Cond.code yX4_smells cX4_smells 4 (some .int), Cond.methodLink RX4 126 yX4_smell, Cond.instanceMethod yX4_smell, Cond.selects RX4 yX4_smell yX4_smell, Cond.code yX4_smell cX4_smell 5 (some .int), Cond.methodLink RX4 116 yX4_apart, Cond.instanceMethod yX4_apart, Cond.selects RX4 yX4_apart yX4_apart, Cond.code yX4_apart cX4_apart 5 (some .int), Cond.methodLink RX4 113 yX4_absolute, Cond.static yX4_absolute, Cond.code yX4_absolute cX4_absolute 1 (some .int), Cond.methodLink RX4 119 yX4_senses, Cond.instanceMethod yX4_senses, Cond.selects RX4 yX4_senses yX4_senses]
def wsL_law_r15 : List Cond := [Cond.code yX4_senses cX4_senses 5 (some .int), Cond.methodLink RX4 123 yX4_isDownwind, Cond.instanceMethod yX4_isDownwind, Cond.selects RX4 yX4_isDownwind yX4_isDownwind, Cond.code yX4_isDownwind cX4_isDownwind 5 (some .boolean), Cond.methodLink RL 60 yX3_deed, Cond.instanceMethod yX3_deed, Cond.selects RX3 yX3_deed yX3_deed, Cond.code yX3_deed cX3_deed 7 (some .int), Cond.constant RX3 130 (-1000000004), Cond.methodLink RL 63 yX4_deed, Cond.instanceMethod yX4_deed, Cond.selects RX4 yX4_deed yX4_deed, Cond.code yX4_deed cX4_deed 7 (some .int), Cond.constant RX4 129 (-1000000004), Cond.methodLink RL 64 yX3_guilty, Cond.instanceMethod yX3_guilty, Cond.selects RX3 yX3_guilty yX3_guilty, Cond.code yX3_guilty cX3_guilty 2 (some .int), Cond.methodLink RX3 131 yX0_finders, Cond.instanceMethod yX0_finders, Cond.selects RX0 yX0_finders yX0_finders, Cond.code yX0_finders cX0_finders 4 (some .int), Cond.methodLink RX0 85 yX0_finds]
def wsL_law_r16 : List Cond := [Cond.instanceMethod yX0_finds, Cond.selects RX0 yX0_finds yX0_finds, Cond.code yX0_finds cX0_finds 4 (some .boolean), Cond.methodLink RX0 82 yX0_smelt, Cond.methodLink RL 67 yX4_guilty, Cond.instanceMethod yX4_guilty, Cond.selects RX4 yX4_guilty yX4_guilty, Cond.code yX4_guilty cX4_guilty 2 (some .int), Cond.methodLink RX4 133 yX4_finders, Cond.instanceMethod yX4_finders, Cond.selects RX4 yX4_finders yX4_finders, Cond.code yX4_finders cX4_finders 4 (some .int), Cond.methodLink RX4 130 yX4_isFound, Cond.instanceMethod yX4_isFound, Cond.selects RX4 yX4_isFound yX4_isFound, Cond.code yX4_isFound cX4_isFound 6 (some .boolean), Cond.methodLink RL 68 yX3_convicts, Cond.instanceMethod yX3_convicts, Cond.selects RX3 yX3_convicts yX3_convicts, Cond.code yX3_convicts cX3_convicts 3 (some .int), Cond.constant RX3 138 (-1000000005), Cond.methodLink RX3 134 yX0_everybody, Cond.instanceMethod yX0_everybody, Cond.selects RX0 yX0_everybody yX0_everybody]
def wsL_law_r17 : List Cond := [Cond.code yX0_everybody cX0_everybody 1 (some .int), Cond.methodLink RX3 139 yX3_isMajority, Cond.static yX3_isMajority, Cond.code yX3_isMajority cX3_isMajority 2 (some .boolean), Cond.methodLink RX3 165 yJ6_bitCount_0f7a4, Cond.static yJ6_bitCount_0f7a4, Cond.initialized RJ6, Cond.code yJ6_bitCount_0f7a4 cJ6_bitCount_0f7a4 1 (some .int), Cond.constant RJ6 265 (1431655765), Cond.constant RJ6 266 (858993459), Cond.constant RJ6 267 (252645135), Cond.methodLink RL 71 yX4_convicts, Cond.instanceMethod yX4_convicts, Cond.selects RX4 yX4_convicts yX4_convicts, Cond.code yX4_convicts cX4_convicts 3 (some .int), Cond.constant RX4 139 (-1000000005), Cond.methodLink RX4 140 yX4_isConvicted, Cond.static yX4_isConvicted, Cond.code yX4_isConvicted cX4_isConvicted 2 (some .boolean), Cond.methodLink RX4 136 yX4_ones, Cond.static yX4_ones, Cond.code yX4_ones cX4_ones 3 (some .int), Cond.methodLink RL 72 yX3_hours, Cond.instanceMethod yX3_hours]
def wsL_law_r18 : List Cond := [Cond.selects RX3 yX3_hours yX3_hours, Cond.code yX3_hours cX3_hours 3 (some .int), Cond.fieldLink RX3 142 "NoseJury$Hall" "hour" "I", Cond.methodLink RX3 145 yX0_hourGoes, Cond.instanceMethod yX0_hourGoes, Cond.selects RX0 yX0_hourGoes yX0_hourGoes, Cond.code yX0_hourGoes cX0_hourGoes 2 none, Cond.methodLink RX0 92 yX0_fade, Cond.instanceMethod yX0_fade, Cond.selects RX0 yX0_fade yX0_fade, Cond.code yX0_fade cX0_fade 6 none, Cond.methodLink RX0 45 arraycopyName, Cond.native arraycopyName, Cond.static arraycopyName, Cond.initialized "java/lang/System", Cond.methodLink RX0 96 yX0_strongestBeside, Cond.instanceMethod yX0_strongestBeside, Cond.selects RX0 yX0_strongestBeside yX0_strongestBeside, Cond.code yX0_strongestBeside cX0_strongestBeside 6 (some .int), Cond.static yX3_faded, Cond.code yX3_faded cX3_faded 2 (some .int), Cond.methodLink RX3 148 yX0_scentsOfAll, Cond.instanceMethod yX0_scentsOfAll, Cond.selects RX0 yX0_scentsOfAll yX0_scentsOfAll]
def wsL_law_r19 : List Cond := [Cond.code yX0_scentsOfAll cX0_scentsOfAll 3 (some .int), Cond.methodLink RX0 55 yX0_sumOver, Cond.instanceMethod yX0_sumOver, Cond.selects RX0 yX0_sumOver yX0_sumOver, Cond.code yX0_sumOver cX0_sumOver 4 (some .int), Cond.methodLink RL 75 yX4_hours, Cond.instanceMethod yX4_hours, Cond.selects RX4 yX4_hours yX4_hours, Cond.code yX4_hours cX4_hours 2 (some .int), Cond.constantLong RX4 152 (60), Cond.methodLink RX4 154 yX4_goesOn, Cond.instanceMethod yX4_goesOn, Cond.selects RX4 yX4_goesOn yX4_goesOn, Cond.code yX4_goesOn cX4_goesOn 3 none, Cond.methodLink RX4 149 yX4_hour, Cond.instanceMethod yX4_hour, Cond.selects RX4 yX4_hour yX4_hour, Cond.code yX4_hour cX4_hour 4 none, Cond.methodLink RX4 143 yX4_leftOf, Cond.instanceMethod yX4_leftOf, Cond.selects RX4 yX4_leftOf yX4_leftOf, Cond.code yX4_leftOf cX4_leftOf 5 (some .int), Cond.methodLink RX4 146 yX4_greatestBy, Cond.instanceMethod yX4_greatestBy]
def wsL_law_r20 : List Cond := [Cond.selects RX4 yX4_greatestBy yX4_greatestBy, Cond.code yX4_greatestBy cX4_greatestBy 6 (some .int), Cond.methodLink RX4 158 yX4_scentsAll, Cond.instanceMethod yX4_scentsAll, Cond.selects RX4 yX4_scentsAll yX4_scentsAll, Cond.code yX4_scentsAll cX4_scentsAll 3 (some .int), Cond.methodLink RL 76 yX3_now, Cond.instanceMethod yX3_now, Cond.selects RX3 yX3_now yX3_now, Cond.code yX3_now cX3_now 2 (some .int), Cond.methodLink RX3 151 yX0_foundGuilty, Cond.instanceMethod yX0_foundGuilty, Cond.selects RX0 yX0_foundGuilty yX0_foundGuilty, Cond.code yX0_foundGuilty cX0_foundGuilty 3 (some .int), Cond.methodLink RX0 88 yX0_finders, Cond.methodLink RL 79 yX4_now, Cond.instanceMethod yX4_now, Cond.selects RX4 yX4_now yX4_now, Cond.code yX4_now cX4_now 2 (some .int), Cond.methodLink RX4 162 yX4_allGuilty, Cond.instanceMethod yX4_allGuilty, Cond.selects RX4 yX4_allGuilty yX4_allGuilty, Cond.code yX4_allGuilty cX4_allGuilty 3 (some .int), Cond.methodLink RL 80 yX3_on]
def wsL_law_r21 : List Cond := [Cond.instanceMethod yX3_on, Cond.selects RX3 yX3_on yX3_on, Cond.code yX3_on cX3_on 5 (some .int), Cond.methodLink RX3 154 yX0_become, Cond.instanceMethod yX0_become, Cond.selects RX0 yX0_become yX0_become, Cond.code yX0_become cX0_become 3 none, Cond.methodLink RX3 158 yX0_hourGoesFor, Cond.instanceMethod yX0_hourGoesFor, Cond.selects RX0 yX0_hourGoesFor yX0_hourGoesFor, Cond.code yX0_hourGoesFor cX0_hourGoesFor 2 none, Cond.methodLink RL 83 yX4_on, Cond.instanceMethod yX4_on, Cond.selects RX4 yX4_on yX4_on, Cond.code yX4_on cX4_on 4 (some .int), Cond.methodLink RX4 165 yX4_laysAside, Cond.instanceMethod yX4_laysAside, Cond.selects RX4 yX4_laysAside yX4_laysAside, Cond.code yX4_laysAside cX4_laysAside 2 none, Cond.methodLink RX4 168 yX4_takesBack, Cond.instanceMethod yX4_takesBack, Cond.selects RX4 yX4_takesBack yX4_takesBack, Cond.code yX4_takesBack cX4_takesBack 3 (some .int), Cond.methodLink RL 84 yX3_clean]
def wsL_law_r22 : List Cond := [Cond.instanceMethod yX3_clean, Cond.selects RX3 yX3_clean yX3_clean, Cond.code yX3_clean cX3_clean 3 (some .int), Cond.methodLink RL 87 yX4_clean, Cond.instanceMethod yX4_clean, Cond.selects RX4 yX4_clean yX4_clean, Cond.code yX4_clean cX4_clean 4 (some .int), Cond.methodLink RL 88 yX3_wind, Cond.instanceMethod yX3_wind, Cond.selects RX3 yX3_wind yX3_wind, Cond.code yX3_wind cX3_wind 2 (some .int), Cond.methodLink RX3 162 yX3_fewestFind, Cond.instanceMethod yX3_fewestFind, Cond.selects RX3 yX3_fewestFind yX3_fewestFind, Cond.code yX3_fewestFind cX3_fewestFind 8 (some .int), Cond.methodLink RX3 242 yX0_put, Cond.instanceMethod yX0_put, Cond.selects RX0 yX0_put yX0_put, Cond.code yX0_put cX0_put 4 none, Cond.methodLink RL 91 yX4_wind, Cond.instanceMethod yX4_wind, Cond.selects RX4 yX4_wind yX4_wind, Cond.code yX4_wind cX4_wind 2 (some .int), Cond.methodLink RX4 174 yX4_leastBy]
def wsL_law_r23 : List Cond := [Cond.instanceMethod yX4_leastBy, Cond.selects RX4 yX4_leastBy yX4_leastBy, Cond.code yX4_leastBy cX4_leastBy 9 (some .int), Cond.methodLink RX4 171 yX4_findersMany, Cond.instanceMethod yX4_findersMany, Cond.selects RX4 yX4_findersMany yX4_findersMany, Cond.code yX4_findersMany cX4_findersMany 2 (some .int), Cond.methodLink RL 92 yX3_seat, Cond.instanceMethod yX3_seat, Cond.selects RX3 yX3_seat yX3_seat, Cond.code yX3_seat cX3_seat 2 (some .int), Cond.methodLink RL 95 yX4_seat, Cond.instanceMethod yX4_seat, Cond.selects RX4 yX4_seat yX4_seat, Cond.code yX4_seat cX4_seat 2 (some .int), Cond.methodLink RL 96 yX3_bath, Cond.instanceMethod yX3_bath, Cond.selects RX3 yX3_bath yX3_bath, Cond.code yX3_bath cX3_bath 6 (some .int), Cond.methodLink RL 99 yX4_bath, Cond.instanceMethod yX4_bath, Cond.selects RX4 yX4_bath yX4_bath, Cond.code yX4_bath cX4_bath 7 (some .int), Cond.methodLink RL 100 yX3_kind]
def wsL_law_r24 : List Cond := [Cond.instanceMethod yX3_kind, Cond.selects RX3 yX3_kind yX3_kind, Cond.code yX3_kind cX3_kind 2 (some .int), Cond.methodLink RL 103 yX4_kind, Cond.instanceMethod yX4_kind, Cond.selects RX4 yX4_kind yX4_kind, Cond.code yX4_kind cX4_kind 2 (some .int), Cond.methodLink RL 104 yX3_due, Cond.instanceMethod yX3_due, Cond.selects RX3 yX3_due yX3_due, Cond.code yX3_due cX3_due 3 (some .int), Cond.methodLink RL 107 yX4_due, Cond.instanceMethod yX4_due, Cond.selects RX4 yX4_due yX4_due, Cond.code yX4_due cX4_due 4 (some .int), Cond.methodLink RL 108 yX3_jury, Cond.instanceMethod yX3_jury, Cond.selects RX3 yX3_jury yX3_jury, Cond.code yX3_jury cX3_jury 5 (some .int), Cond.methodLink RX3 170 yX3_isJuryAgainst, Cond.static yX3_isJuryAgainst, Cond.code yX3_isJuryAgainst cX3_isJuryAgainst 4 (some .boolean), Cond.methodLink RL 111 yX4_jury, Cond.instanceMethod yX4_jury]
def wsL_law_r25 : List Cond := [Cond.selects RX4 yX4_jury yX4_jury, Cond.code yX4_jury cX4_jury 3 (some .int), Cond.constantLong RX4 184 (7), Cond.fieldLink RX4 177 "NoseJuryModel" "firstJury" "I", Cond.methodLink RX4 186 yX4_findJuries, Cond.instanceMethod yX4_findJuries, Cond.selects RX4 yX4_findJuries yX4_findJuries, Cond.code yX4_findJuries cX4_findJuries 5 none, Cond.fieldLink RX4 181 "NoseJuryModel" "manyJuries" "I", Cond.methodLink RL 112 yX3_juries, Cond.instanceMethod yX3_juries, Cond.selects RX3 yX3_juries yX3_juries, Cond.code yX3_juries cX3_juries 6 (some .int), Cond.methodLink RL 115 yX4_juries, Cond.instanceMethod yX4_juries, Cond.selects RX4 yX4_juries yX4_juries, Cond.code yX4_juries cX4_juries 3 (some .int), Cond.methodLink RL 116 yX3_from, Cond.instanceMethod yX3_from, Cond.selects RX3 yX3_from yX3_from, Cond.code yX3_from cX3_from 5 (some .int), Cond.methodLink RX3 174 yX0_strongestBeside, Cond.methodLink RX3 177 yX3_faded, Cond.methodLink RL 119 yX4_from]
def wsL_law_r26 : List Cond := [Cond.instanceMethod yX4_from, Cond.selects RX4 yX4_from yX4_from, Cond.code yX4_from cX4_from 6 (some .int), Cond.methodLink RL 120 yX3_nose, Cond.instanceMethod yX3_nose, Cond.selects RX3 yX3_nose yX3_nose, Cond.code yX3_nose cX3_nose 4 (some .int), Cond.methodLink RX3 180 yX0_finds, Cond.methodLink RL 123 yX4_nose, Cond.instanceMethod yX4_nose, Cond.selects RX4 yX4_nose yX4_nose, Cond.code yX4_nose cX4_nose 6 (some .int), Cond.methodLink RL 124 yX3_feed, Cond.instanceMethod yX3_feed, Cond.selects RX3 yX3_feed yX3_feed, Cond.code yX3_feed cX3_feed 4 (some .int), Cond.fieldLink RX3 183 "NoseJury$Tape" "length" "I", Cond.methodLink RX3 186 yX2_append, Cond.instanceMethod yX2_append, Cond.selects RX2 yX2_append yX2_append, Cond.code yX2_append cX2_append 2 none, Cond.methodLink RL 127 yX4_feed, Cond.instanceMethod yX4_feed, Cond.selects RX4 yX4_feed yX4_feed]
def wsL_law_r27 : List Cond := [Cond.code yX4_feed cX4_feed 4 (some .int), Cond.fieldLink RX4 190 "NoseJuryModel" "taped" "I", Cond.methodLink RL 128 yX3_wipe, Cond.instanceMethod yX3_wipe, Cond.selects RX3 yX3_wipe yX3_wipe, Cond.code yX3_wipe cX3_wipe 2 (some .int), Cond.methodLink RL 132 yX4_wipe, Cond.instanceMethod yX4_wipe, Cond.selects RX4 yX4_wipe yX4_wipe, Cond.code yX4_wipe cX4_wipe 2 (some .int), Cond.methodLink RL 133 yX3_hall, Cond.instanceMethod yX3_hall, Cond.selects RX3 yX3_hall yX3_hall, Cond.code yX3_hall cX3_hall 2 (some .int), Cond.methodLink RX3 189 yX2_tellTo, Cond.instanceMethod yX2_tellTo, Cond.selects RX2 yX2_tellTo yX2_tellTo, Cond.code yX2_tellTo cX2_tellTo 3 (some .int), Cond.methodLink RX2 31 yX2_step, Cond.instanceMethod yX2_step, Cond.selects RX2 yX2_step yX2_step, Cond.code yX2_step cX2_step 1 none, Cond.methodLink RX2 116 yX2_isLetter, Cond.static yX2_isLetter]
def wsL_law_r28 : List Cond := [Cond.code yX2_isLetter cX2_isLetter 1 (some .boolean), Cond.methodLink RX2 120 yX2_passWord, Cond.instanceMethod yX2_passWord, Cond.selects RX2 yX2_passWord yX2_passWord, Cond.code yX2_passWord cX2_passWord 1 none, Cond.methodLink RX2 123 yX2_isDigit, Cond.static yX2_isDigit, Cond.code yX2_isDigit cX2_isDigit 1 (some .boolean), Cond.methodLink RX2 126 yX2_passNumber, Cond.instanceMethod yX2_passNumber, Cond.selects RX2 yX2_passNumber yX2_passNumber, Cond.code yX2_passNumber cX2_passNumber 1 none, Cond.methodLink RX2 129 Lib.Math.min.name, Cond.static Lib.Math.min.name, Cond.code Lib.Math.min.name Lib.Math.min.code 2 (some .int), Cond.methodLink RX2 34 yX2_takesItem, Cond.instanceMethod yX2_takesItem, Cond.selects RX2 yX2_takesItem yX2_takesItem, Cond.code yX2_takesItem cX2_takesItem 2 (some .boolean), Cond.fieldLink RX2 48 "NoseJury$Hall" "wind" "I", Cond.fieldLink RX2 54 "NoseJury$Hall" "due" "I", Cond.methodLink RX2 40 yX2_isWord, Cond.instanceMethod yX2_isWord, Cond.selects RX2 yX2_isWord yX2_isWord]
def wsL_law_r29 : List Cond := [Cond.code yX2_isWord cX2_isWord 3 (some .boolean), Cond.methodLink RX2 108 yJ0_length_8abf5, Cond.instanceMethod yJ0_length_8abf5, Cond.selects RJ0 yJ0_length_8abf5 yJ0_length_8abf5, Cond.initialized RJ0, Cond.code yJ0_length_8abf5 cJ0_length_8abf5 1 (some .int), Cond.fieldLink RJ0 9 "java/lang/String" "value" "[B", Cond.methodLink RJ0 335 yJ0_coder_7d493, Cond.instanceMethod yJ0_coder_7d493, Cond.selects RJ0 yJ0_coder_7d493 yJ0_coder_7d493, Cond.code yJ0_coder_7d493 cJ0_coder_7d493 1 (some .byte), Cond.fieldLink RJ0 38 "java/lang/String" "COMPACT_STRINGS" "Z", Cond.fieldLink RJ0 15 "java/lang/String" "coder" "B", Cond.methodLink RX2 112 yJ0_charAt_5068e, Cond.instanceMethod yJ0_charAt_5068e, Cond.selects RJ0 yJ0_charAt_5068e yJ0_charAt_5068e, Cond.code yJ0_charAt_5068e cJ0_charAt_5068e 2 (some .char), Cond.methodLink RJ0 492 yJ0_isLatin1_aae02, Cond.instanceMethod yJ0_isLatin1_aae02, Cond.selects RJ0 yJ0_isLatin1_aae02 yJ0_isLatin1_aae02, Cond.code yJ0_isLatin1_aae02 cJ0_isLatin1_aae02 1 (some .boolean), Cond.methodLink RJ0 495 yJ1_charAt_3b067, Cond.static yJ1_charAt_3b067, Cond.initialized RJ1]
def wsL_law_r30 : List Cond := [Cond.code yJ1_charAt_3b067 cJ1_charAt_3b067 2 (some .char), Cond.methodLink RJ1 9 yJ0_checkIndex_df160, Cond.static yJ0_checkIndex_df160, Cond.code yJ0_checkIndex_df160 cJ0_checkIndex_df160 2 none, Cond.fieldLink RJ0 1053 "jdk/internal/util/Preconditions" "SIOOBE_FORMATTER" "Ljava/util/function/BiFunction;", Cond.methodLink RJ0 1059 yJ3_checkIndex_8e157, Cond.static yJ3_checkIndex_8e157, Cond.initialized RJ3, Cond.code yJ3_checkIndex_8e157 cJ3_checkIndex_8e157 3 (some .int), Cond.methodLink RJ0 498 yJ2_charAt_3b067, Cond.static yJ2_charAt_3b067, Cond.initialized RJ2, Cond.code yJ2_charAt_3b067 cJ2_charAt_3b067 2 (some .char), Cond.methodLink RJ2 67 yJ2_checkIndex_2214a, Cond.static yJ2_checkIndex_2214a, Cond.code yJ2_checkIndex_2214a cJ2_checkIndex_2214a 2 none, Cond.methodLink RJ2 48 yJ2_length_9d52b, Cond.static yJ2_length_9d52b, Cond.code yJ2_length_9d52b cJ2_length_9d52b 1 (some .int), Cond.methodLink RJ2 414 yJ0_checkIndex_df160, Cond.methodLink RJ2 71 yJ2_getChar_3b067, Cond.static yJ2_getChar_3b067, Cond.code yJ2_getChar_3b067 cJ2_getChar_3b067 2 (some .char), Cond.fieldLink RJ2 44 "java/lang/StringUTF16" "$assertionsDisabled" "Z"]
def wsL_law_r31 : List Cond := [Cond.fieldLink RJ2 59 "java/lang/StringUTF16" "HI_BYTE_SHIFT" "I", Cond.fieldLink RJ2 63 "java/lang/StringUTF16" "LO_BYTE_SHIFT" "I", Cond.methodLink RX2 44 yX2_takesNumber, Cond.instanceMethod yX2_takesNumber, Cond.selects RX2 yX2_takesNumber yX2_takesNumber, Cond.code yX2_takesNumber cX2_takesNumber 3 (some .boolean), Cond.methodLink RX2 56 yX2_takesPerson, Cond.instanceMethod yX2_takesPerson, Cond.selects RX2 yX2_takesPerson yX2_takesPerson, Cond.code yX2_takesPerson cX2_takesPerson 4 (some .boolean), Cond.fieldLink RX2 63 "NoseJury$Hall" "people" "I", Cond.fieldLink RX2 74 "NoseJury$Hall" "noses" "[I", Cond.fieldLink RX2 79 "NoseJury$Hall" "colds" "[I", Cond.methodLink RX2 59 yX2_kindNamed, Cond.instanceMethod yX2_kindNamed, Cond.selects RX2 yX2_kindNamed yX2_kindNamed, Cond.code yX2_kindNamed cX2_kindNamed 2 (some .int), Cond.methodLink RX2 92 yX2_nameOf, Cond.static yX2_nameOf, Cond.code yX2_nameOf cX2_nameOf 1 (some (.object "java/lang/String")), Cond.methodLink RX2 68 yX0_join, Cond.methodLink RX2 84 yX2_takesDeed, Cond.instanceMethod yX2_takesDeed, Cond.selects RX2 yX2_takesDeed yX2_takesDeed]
def wsL_law_r32 : List Cond := [Cond.code yX2_takesDeed cX2_takesDeed 4 (some .boolean), Cond.fieldLink RX2 88 "NoseJury$Hall" "scents" "[[I", Cond.methodLink RL 136 yX4_hall, Cond.instanceMethod yX4_hall, Cond.selects RX4 yX4_hall yX4_hall, Cond.code yX4_hall cX4_hall 2 (some .int), Cond.fieldLink RX4 216 "NoseJuryModel" "isWrong" "Z", Cond.fieldLink RX4 201 "NoseJuryModel" "to" "I", Cond.fieldLink RX4 204 "NoseJuryModel" "from" "I", Cond.methodLink RX4 271 yX4_saves, Cond.instanceMethod yX4_saves, Cond.selects RX4 yX4_saves yX4_saves, Cond.code yX4_saves cX4_saves 2 none, Cond.methodLink RX4 220 yX4_token, Cond.instanceMethod yX4_token, Cond.selects RX4 yX4_token yX4_token, Cond.code yX4_token cX4_token 3 none, Cond.methodLink RX4 207 yX4_byteAt, Cond.instanceMethod yX4_byteAt, Cond.selects RX4 yX4_byteAt yX4_byteAt, Cond.code yX4_byteAt cX4_byteAt 2 (some .int), Cond.methodLink RX4 210 yX4_isLetter, Cond.static yX4_isLetter, Cond.code yX4_isLetter cX4_isLetter 1 (some .boolean)]
def wsL_law_r33 : List Cond := [Cond.constantLong RX4 193 (97), Cond.constantLong RX4 195 (122), Cond.methodLink RX4 213 yX4_isDigit, Cond.static yX4_isDigit, Cond.code yX4_isDigit cX4_isDigit 1 (some .boolean), Cond.constantLong RX4 197 (48), Cond.constantLong RX4 199 (57), Cond.methodLink RX4 274 yX4_item, Cond.instanceMethod yX4_item, Cond.selects RX4 yX4_item yX4_item, Cond.code yX4_item cX4_item 4 none, Cond.constantLong RX4 267 (763332), Cond.fieldLink RX4 227 "NoseJuryModel" "value" "I", Cond.constantLong RX4 269 (4773), Cond.methodLink RX4 261 yX4_kindHere, Cond.instanceMethod yX4_kindHere, Cond.selects RX4 yX4_kindHere yX4_kindHere, Cond.code yX4_kindHere cX4_kindHere 3 (some .int), Cond.constantLong RX4 238 (542723566), Cond.constantLong RX4 240 (114155), Cond.constantLong RX4 242 (2253324406962), Cond.constantLong RX4 244 (4583), Cond.constantLong RX4 246 (555735495858), Cond.constantLong RX4 248 (8902084)]
def wsL_law_r34 : List Cond := [Cond.methodLink RX4 234 yX4_word, Cond.instanceMethod yX4_word, Cond.selects RX4 yX4_word yX4_word, Cond.code yX4_word cX4_word 4 (some .long), Cond.constantLong RX4 223 (36028797018963967), Cond.constantLong RX4 225 (32), Cond.methodLink RX4 264 yX4_personItem, Cond.instanceMethod yX4_personItem, Cond.selects RX4 yX4_personItem yX4_personItem, Cond.code yX4_personItem cX4_personItem 4 none, Cond.constantLong RX4 250 (52), Cond.constantLong RX4 255 (474725), Cond.constantLong RX4 257 (114052), Cond.constantLong RX4 259 (4388), Cond.methodLink RX4 230 yX4_must, Cond.instanceMethod yX4_must, Cond.selects RX4 yX4_must yX4_must, Cond.code yX4_must cX4_must 2 none, Cond.methodLink RX4 252 yX4_number, Cond.instanceMethod yX4_number, Cond.selects RX4 yX4_number yX4_number, Cond.code yX4_number cX4_number 6 none, Cond.methodLink RX4 277 yX4_putsBack, Cond.instanceMethod yX4_putsBack]
def wsL_law_r35 : List Cond := [Cond.selects RX4 yX4_putsBack yX4_putsBack, Cond.code yX4_putsBack cX4_putsBack 2 none, Cond.methodLink RL 137 yX3_sheet, Cond.instanceMethod yX3_sheet, Cond.selects RX3 yX3_sheet yX3_sheet, Cond.code yX3_sheet cX3_sheet 4 (some .int), Cond.constant RX3 196 (-1000000007), Cond.fieldLink RX3 201 "NoseJury$Sheet" "size" "I", Cond.methodLink RX3 193 yX3_isSheet, Cond.static yX3_isSheet, Cond.code yX3_isSheet cX3_isSheet 1 (some .boolean), Cond.methodLink RX3 197 yX1_renew, Cond.instanceMethod yX1_renew, Cond.selects RX1 yX1_renew yX1_renew, Cond.code yX1_renew cX1_renew 4 none, Cond.methodLink RL 140 yX4_sheet, Cond.instanceMethod yX4_sheet, Cond.selects RX4 yX4_sheet yX4_sheet, Cond.code yX4_sheet cX4_sheet 5 (some .int), Cond.constant RX4 285 (-1000000007), Cond.methodLink RX4 282 yX4_isOne, Cond.static yX4_isOne, Cond.code yX4_isOne cX4_isOne 1 (some .boolean), Cond.constantLong RX4 280 (3)]
def wsL_law_r36 : List Cond := [Cond.methodLink RL 143 yX3_write, Cond.instanceMethod yX3_write, Cond.selects RX3 yX3_write yX3_write, Cond.code yX3_write cX3_write 9 (some .long), Cond.fieldLink RX3 207 "NoseJury$Sheet" "numbers" "[J", Cond.methodLink RX3 204 yX3_findingOfSheet, Cond.instanceMethod yX3_findingOfSheet, Cond.selects RX3 yX3_findingOfSheet yX3_findingOfSheet, Cond.code yX3_findingOfSheet cX3_findingOfSheet 2 (some .int), Cond.fieldLink RX3 215 "NoseJury$Sheet" "bits" "I", Cond.constant RX3 218 (-1000000006), Cond.methodLink RX3 211 yX1_put, Cond.instanceMethod yX1_put, Cond.selects RX1 yX1_put yX1_put, Cond.code yX1_put cX1_put 4 none, Cond.methodLink RL 147 yX4_write, Cond.instanceMethod yX4_write, Cond.selects RX4 yX4_write yX4_write, Cond.code yX4_write cX4_write 8 (some .long), Cond.methodLink RX4 287 yX4_wrongSheet, Cond.instanceMethod yX4_wrongSheet, Cond.selects RX4 yX4_wrongSheet yX4_wrongSheet, Cond.code yX4_wrongSheet cX4_wrongSheet 2 (some .int), Cond.constant RX4 286 (-1000000006)]
def wsL_law_r37 : List Cond := [Cond.methodLink RX4 290 yX4_narrowed, Cond.static yX4_narrowed, Cond.code yX4_narrowed cX4_narrowed 3 (some .long), Cond.methodLink RL 148 yX3_copy, Cond.instanceMethod yX3_copy, Cond.selects RX3 yX3_copy yX3_copy, Cond.code yX3_copy cX3_copy 8 (some .int), Cond.methodLink RX3 222 arraycopyName, Cond.methodLink RX3 219 yX1_hasRun, Cond.instanceMethod yX1_hasRun, Cond.selects RX1 yX1_hasRun yX1_hasRun, Cond.code yX1_hasRun cX1_hasRun 3 (some .boolean), Cond.methodLink RL 152 yX4_copy, Cond.instanceMethod yX4_copy, Cond.selects RX4 yX4_copy yX4_copy, Cond.code yX4_copy cX4_copy 7 (some .int), Cond.methodLink RL 153 yX3_lays, Cond.instanceMethod yX3_lays, Cond.selects RX3 yX3_lays yX3_lays, Cond.code yX3_lays cX3_lays 8 (some .int), Cond.constantLong RX3 228 (48), Cond.methodLink RL 156 yX4_lays, Cond.instanceMethod yX4_lays, Cond.selects RX4 yX4_lays yX4_lays]
def wsL_law_r38 : List Cond := [Cond.code yX4_lays cX4_lays 6 (some .int), Cond.methodLink RL 157 yX3_book, Cond.instanceMethod yX3_book, Cond.selects RX3 yX3_book yX3_book, Cond.code yX3_book cX3_book 8 (some .int), Cond.methodLink RX3 230 yX3_findingOfBook, Cond.instanceMethod yX3_findingOfBook, Cond.selects RX3 yX3_findingOfBook yX3_findingOfBook, Cond.code yX3_findingOfBook cX3_findingOfBook 6 (some .int), Cond.methodLink RL 161 yX4_book, Cond.instanceMethod yX4_book, Cond.selects RX4 yX4_book yX4_book, Cond.code yX4_book cX4_book 7 (some .int), Cond.methodLink RX4 294 yX4_wrongBook, Cond.instanceMethod yX4_wrongBook, Cond.selects RX4 yX4_wrongBook yX4_wrongBook, Cond.code yX4_wrongBook cX4_wrongBook 6 (some .int), Cond.methodLink RL 162 yX3_read, Cond.instanceMethod yX3_read, Cond.selects RX3 yX3_read yX3_read, Cond.code yX3_read cX3_read 8 (some .int), Cond.methodLink RX3 234 yX3_isToldBy, Cond.instanceMethod yX3_isToldBy, Cond.selects RX3 yX3_isToldBy yX3_isToldBy]
def wsL_law_r39 : List Cond := [Cond.code yX3_isToldBy cX3_isToldBy 6 (some .boolean), Cond.methodLink RL 165 yX4_read, Cond.instanceMethod yX4_read, Cond.selects RX4 yX4_read yX4_read, Cond.code yX4_read cX4_read 8 (some .int), Cond.methodLink RX4 298 yX4_isBook, Cond.instanceMethod yX4_isBook, Cond.selects RX4 yX4_isBook yX4_isBook, Cond.code yX4_isBook cX4_isBook 6 (some .boolean), Cond.methodLink RL 166 yX3_image, Cond.instanceMethod yX3_image, Cond.selects RX3 yX3_image yX3_image, Cond.code yX3_image cX3_image 1 (some .int), Cond.methodLink RL 169 yX4_image, Cond.instanceMethod yX4_image, Cond.selects RX4 yX4_image yX4_image, Cond.code yX4_image cX4_image 2 (some .int), Cond.fieldLink RX4 302 "NoseJuryModel" "isKept" "Z", Cond.methodLink RL 170 yX3_undo, Cond.instanceMethod yX3_undo, Cond.selects RX3 yX3_undo yX3_undo, Cond.code yX3_undo cX3_undo 1 (some .int), Cond.methodLink RL 173 yX4_undo, Cond.instanceMethod yX4_undo]
def wsL_law_r40 : List Cond := [Cond.selects RX4 yX4_undo yX4_undo, Cond.code yX4_undo cX4_undo 2 (some .int), Cond.methodLink RL 174 yX3_tear, Cond.instanceMethod yX3_tear, Cond.selects RX3 yX3_tear yX3_tear, Cond.code yX3_tear cX3_tear 2 (some .int), Cond.methodLink RL 177 yX4_tear, Cond.instanceMethod yX4_tear, Cond.selects RX4 yX4_tear yX4_tear, Cond.code yX4_tear cX4_tear 2 (some .int), Cond.methodLink RL 178 yX3_count, Cond.instanceMethod yX3_count, Cond.selects RX3 yX3_count yX3_count, Cond.code yX3_count cX3_count 2 (some .int), Cond.methodLink RX3 238 yX0_sumOver, Cond.methodLink RL 181 yX4_count, Cond.instanceMethod yX4_count, Cond.selects RX4 yX4_count yX4_count, Cond.code yX4_count cX4_count 2 (some .int), Cond.methodLink RX4 305 yX4_together, Cond.instanceMethod yX4_together, Cond.selects RX4 yX4_together yX4_together, Cond.code yX4_together cX4_together 4 (some .int), Cond.methodLink RL 182 yX3_status]
def wsL_law_r41 : List Cond := [Cond.instanceMethod yX3_status, Cond.selects RX3 yX3_status yX3_status, Cond.code yX3_status cX3_status 4 (some .int), Cond.methodLink RL 185 yX4_status, Cond.instanceMethod yX4_status, Cond.selects RX4 yX4_status yX4_status, Cond.code yX4_status cX4_status 4 (some .int), Cond.constantLong RX4 308 (-1), Cond.constantLong RX4 310 (6)]
def wsL_law : List Cond := (wsL_law_r1 ++ (wsL_law_r2 ++ (wsL_law_r3 ++ (wsL_law_r4 ++ (wsL_law_r5 ++ (wsL_law_r6 ++ (wsL_law_r7 ++ (wsL_law_r8 ++ (wsL_law_r9 ++ (wsL_law_r10 ++ (wsL_law_r11 ++ (wsL_law_r12 ++ (wsL_law_r13 ++ (wsL_law_r14 ++ (wsL_law_r15 ++ (wsL_law_r16 ++ (wsL_law_r17 ++ (wsL_law_r18 ++ (wsL_law_r19 ++ (wsL_law_r20 ++ (wsL_law_r21 ++ (wsL_law_r22 ++ (wsL_law_r23 ++ (wsL_law_r24 ++ (wsL_law_r25 ++ (wsL_law_r26 ++ (wsL_law_r27 ++ (wsL_law_r28 ++ (wsL_law_r29 ++ (wsL_law_r30 ++ (wsL_law_r31 ++ (wsL_law_r32 ++ (wsL_law_r33 ++ (wsL_law_r34 ++ (wsL_law_r35 ++ (wsL_law_r36 ++ (wsL_law_r37 ++ (wsL_law_r38 ++ (wsL_law_r39 ++ (wsL_law_r40 ++ wsL_law_r41)))))))))))))))))))))))))))))))))))))))) ++ wsX30 ++ wsX40 ++ wsX00 ++ wsX20 ++ wsX10 ++ ([] : List Cond)
theorem inlX0 : ∀ w ∈ wsX00, w ∈ wsL_law := fun _ h => List.mem_append_left _ (List.mem_append_left _ (List.mem_append_left _ (List.mem_append_right _ h)))
theorem inlX1 : ∀ w ∈ wsX10, w ∈ wsL_law := fun _ h => List.mem_append_left _ (List.mem_append_right _ h)
theorem inlX2 : ∀ w ∈ wsX20, w ∈ wsL_law := fun _ h => List.mem_append_left _ (List.mem_append_left _ (List.mem_append_right _ h))
theorem inlX3 : ∀ w ∈ wsX30, w ∈ wsL_law := fun _ h => List.mem_append_left _ (List.mem_append_left _ (List.mem_append_left _ (List.mem_append_left _ (List.mem_append_left _ (List.mem_append_right _ h)))))
theorem inlX4 : ∀ w ∈ wsX40, w ∈ wsL_law := fun _ h => List.mem_append_left _ (List.mem_append_left _ (List.mem_append_left _ (List.mem_append_left _ (List.mem_append_right _ h))))
abbrev vwCl : List vw_C := [(RX0, TX0, 10), (RX1, TX1, 3), (RX2, TX2, 6), (RX3, TX3, 7), (RX4, TX4, 19)]
end
section
theorem dX0_init_0 : decode cX0_init 0 = .ok (.aload_n 0, 1) := by decide +kernel
theorem dX0_init_1 : decode cX0_init 1 = .ok (.invokespecial 3, 3) := by decide +kernel
theorem dX0_init_4 : decode cX0_init 4 = .ok (.aload_n 0, 1) := by decide +kernel
theorem dX0_init_5 : decode cX0_init 5 = .ok (.iconst 0, 1) := by decide +kernel
theorem dX0_init_6 : decode cX0_init 6 = .ok (.putfield 9, 3) := by decide +kernel
theorem dX0_init_9 : decode cX0_init 9 = .ok (.aload_n 0, 1) := by decide +kernel
theorem dX0_init_10 : decode cX0_init 10 = .ok (.bipush 20, 2) := by decide +kernel
theorem dX0_init_12 : decode cX0_init 12 = .ok (.putfield 15, 3) := by decide +kernel
theorem dX0_init_15 : decode cX0_init 15 = .ok (.aload_n 0, 1) := by decide +kernel
theorem dX0_init_16 : decode cX0_init 16 = .ok (.iconst 0, 1) := by decide +kernel
theorem dX0_init_17 : decode cX0_init 17 = .ok (.putfield 18, 3) := by decide +kernel
theorem dX0_init_20 : decode cX0_init 20 = .ok (.aload_n 0, 1) := by decide +kernel
theorem dX0_init_21 : decode cX0_init 21 = .ok (.iconst 0, 1) := by decide +kernel
theorem dX0_init_22 : decode cX0_init 22 = .ok (.putfield 21, 3) := by decide +kernel
theorem dX0_init_25 : decode cX0_init 25 = .ok (.aload_n 0, 1) := by decide +kernel
theorem dX0_init_26 : decode cX0_init 26 = .ok (.bipush 8, 2) := by decide +kernel
theorem dX0_init_28 : decode cX0_init 28 = .ok (.newarray .int, 2) := by decide +kernel
theorem dX0_init_30 : decode cX0_init 30 = .ok (.putfield 24, 3) := by decide +kernel
theorem dX0_init_33 : decode cX0_init 33 = .ok (.aload_n 0, 1) := by decide +kernel
theorem dX0_init_34 : decode cX0_init 34 = .ok (.bipush 8, 2) := by decide +kernel
theorem dX0_init_36 : decode cX0_init 36 = .ok (.newarray .int, 2) := by decide +kernel
theorem dX0_init_38 : decode cX0_init 38 = .ok (.putfield 28, 3) := by decide +kernel
theorem dX0_init_41 : decode cX0_init 41 = .ok (.aload_n 0, 1) := by decide +kernel
theorem dX0_init_42 : decode cX0_init 42 = .ok (.bipush 8, 2) := by decide +kernel
theorem dX0_init_44 : decode cX0_init 44 = .ok (.newarray .int, 2) := by decide +kernel
theorem dX0_init_46 : decode cX0_init 46 = .ok (.putfield 31, 3) := by decide +kernel
theorem dX0_init_49 : decode cX0_init 49 = .ok (.aload_n 0, 1) := by decide +kernel
theorem dX0_init_50 : decode cX0_init 50 = .ok (.bipush 8, 2) := by decide +kernel
theorem dX0_init_52 : decode cX0_init 52 = .ok (.newarray .int, 2) := by decide +kernel
theorem dX0_init_54 : decode cX0_init 54 = .ok (.putfield 34, 3) := by decide +kernel
theorem dX0_init_57 : decode cX0_init 57 = .ok (.aload_n 0, 1) := by decide +kernel
theorem dX0_init_58 : decode cX0_init 58 = .ok (.bipush 6, 2) := by decide +kernel
theorem dX0_init_60 : decode cX0_init 60 = .ok (.bipush 8, 2) := by decide +kernel
theorem dX0_init_62 : decode cX0_init 62 = .ok (.multianewarray 37 2, 4) := by decide +kernel
theorem dX0_init_66 : decode cX0_init 66 = .ok (.putfield 39, 3) := by decide +kernel
theorem dX0_init_69 : decode cX0_init 69 = .ok (.aload_n 0, 1) := by decide +kernel
theorem dX0_init_70 : decode cX0_init 70 = .ok (.bipush 8, 2) := by decide +kernel
theorem dX0_init_72 : decode cX0_init 72 = .ok (.newarray .int, 2) := by decide +kernel
theorem dX0_init_74 : decode cX0_init 74 = .ok (.putfield 42, 3) := by decide +kernel
theorem dX0_init_77 : decode cX0_init 77 = .ok (.return_, 1) := by decide +kernel
theorem dX0_become_0 : decode cX0_become 0 = .ok (.aload_n 0, 1) := by decide +kernel
theorem dX0_become_1 : decode cX0_become 1 = .ok (.aload_n 1, 1) := by decide +kernel
theorem dX0_become_2 : decode cX0_become 2 = .ok (.getfield 9, 3) := by decide +kernel
theorem dX0_become_5 : decode cX0_become 5 = .ok (.putfield 9, 3) := by decide +kernel
theorem dX0_become_8 : decode cX0_become 8 = .ok (.aload_n 0, 1) := by decide +kernel
theorem dX0_become_9 : decode cX0_become 9 = .ok (.aload_n 1, 1) := by decide +kernel
theorem dX0_become_10 : decode cX0_become 10 = .ok (.getfield 15, 3) := by decide +kernel
theorem dX0_become_13 : decode cX0_become 13 = .ok (.putfield 15, 3) := by decide +kernel
theorem dX0_become_16 : decode cX0_become 16 = .ok (.aload_n 0, 1) := by decide +kernel
theorem dX0_become_17 : decode cX0_become 17 = .ok (.aload_n 1, 1) := by decide +kernel
theorem dX0_become_18 : decode cX0_become 18 = .ok (.getfield 18, 3) := by decide +kernel
theorem dX0_become_21 : decode cX0_become 21 = .ok (.putfield 18, 3) := by decide +kernel
theorem dX0_become_24 : decode cX0_become 24 = .ok (.aload_n 0, 1) := by decide +kernel
theorem dX0_become_25 : decode cX0_become 25 = .ok (.aload_n 1, 1) := by decide +kernel
theorem dX0_become_26 : decode cX0_become 26 = .ok (.getfield 21, 3) := by decide +kernel
theorem dX0_become_29 : decode cX0_become 29 = .ok (.putfield 21, 3) := by decide +kernel
theorem dX0_become_32 : decode cX0_become 32 = .ok (.aload_n 1, 1) := by decide +kernel
theorem dX0_become_33 : decode cX0_become 33 = .ok (.getfield 24, 3) := by decide +kernel
theorem dX0_become_36 : decode cX0_become 36 = .ok (.iconst 0, 1) := by decide +kernel
theorem dX0_become_37 : decode cX0_become 37 = .ok (.aload_n 0, 1) := by decide +kernel
theorem dX0_become_38 : decode cX0_become 38 = .ok (.getfield 24, 3) := by decide +kernel
theorem dX0_become_41 : decode cX0_become 41 = .ok (.iconst 0, 1) := by decide +kernel
theorem dX0_become_42 : decode cX0_become 42 = .ok (.bipush 8, 2) := by decide +kernel
theorem dX0_become_44 : decode cX0_become 44 = .ok (.invokestatic 45, 3) := by decide +kernel
theorem dX0_become_47 : decode cX0_become 47 = .ok (.aload_n 1, 1) := by decide +kernel
theorem dX0_become_48 : decode cX0_become 48 = .ok (.getfield 28, 3) := by decide +kernel
theorem dX0_become_51 : decode cX0_become 51 = .ok (.iconst 0, 1) := by decide +kernel
theorem dX0_become_52 : decode cX0_become 52 = .ok (.aload_n 0, 1) := by decide +kernel
theorem dX0_become_53 : decode cX0_become 53 = .ok (.getfield 28, 3) := by decide +kernel
theorem dX0_become_56 : decode cX0_become 56 = .ok (.iconst 0, 1) := by decide +kernel
theorem dX0_become_57 : decode cX0_become 57 = .ok (.bipush 8, 2) := by decide +kernel
theorem dX0_become_59 : decode cX0_become 59 = .ok (.invokestatic 45, 3) := by decide +kernel
theorem dX0_become_62 : decode cX0_become 62 = .ok (.aload_n 1, 1) := by decide +kernel
theorem dX0_become_63 : decode cX0_become 63 = .ok (.getfield 31, 3) := by decide +kernel
theorem dX0_become_66 : decode cX0_become 66 = .ok (.iconst 0, 1) := by decide +kernel
theorem dX0_become_67 : decode cX0_become 67 = .ok (.aload_n 0, 1) := by decide +kernel
theorem dX0_become_68 : decode cX0_become 68 = .ok (.getfield 31, 3) := by decide +kernel
theorem dX0_become_71 : decode cX0_become 71 = .ok (.iconst 0, 1) := by decide +kernel
theorem dX0_become_72 : decode cX0_become 72 = .ok (.bipush 8, 2) := by decide +kernel
theorem dX0_become_74 : decode cX0_become 74 = .ok (.invokestatic 45, 3) := by decide +kernel
theorem dX0_become_77 : decode cX0_become 77 = .ok (.aload_n 1, 1) := by decide +kernel
theorem dX0_become_78 : decode cX0_become 78 = .ok (.getfield 34, 3) := by decide +kernel
theorem dX0_become_81 : decode cX0_become 81 = .ok (.iconst 0, 1) := by decide +kernel
theorem dX0_become_82 : decode cX0_become 82 = .ok (.aload_n 0, 1) := by decide +kernel
theorem dX0_become_83 : decode cX0_become 83 = .ok (.getfield 34, 3) := by decide +kernel
theorem dX0_become_86 : decode cX0_become 86 = .ok (.iconst 0, 1) := by decide +kernel
theorem dX0_become_87 : decode cX0_become 87 = .ok (.bipush 8, 2) := by decide +kernel
theorem dX0_become_89 : decode cX0_become 89 = .ok (.invokestatic 45, 3) := by decide +kernel
theorem dX0_become_92 : decode cX0_become 92 = .ok (.iconst 0, 1) := by decide +kernel
theorem dX0_become_93 : decode cX0_become 93 = .ok (.istore_n 2, 1) := by decide +kernel
theorem dX0_become_94 : decode cX0_become 94 = .ok (.iload_n 2, 1) := by decide +kernel
theorem dX0_become_95 : decode cX0_become 95 = .ok (.bipush 6, 2) := by decide +kernel
theorem dX0_become_97 : decode cX0_become 97 = .ok (.if_icmp .ge 28, 3) := by decide +kernel
theorem dX0_become_100 : decode cX0_become 100 = .ok (.aload_n 1, 1) := by decide +kernel
theorem dX0_become_101 : decode cX0_become 101 = .ok (.getfield 39, 3) := by decide +kernel
theorem dX0_become_104 : decode cX0_become 104 = .ok (.iload_n 2, 1) := by decide +kernel
theorem dX0_become_105 : decode cX0_become 105 = .ok (.aaload, 1) := by decide +kernel
theorem dX0_become_106 : decode cX0_become 106 = .ok (.iconst 0, 1) := by decide +kernel
theorem dX0_become_107 : decode cX0_become 107 = .ok (.aload_n 0, 1) := by decide +kernel
theorem dX0_become_108 : decode cX0_become 108 = .ok (.getfield 39, 3) := by decide +kernel
theorem dX0_become_111 : decode cX0_become 111 = .ok (.iload_n 2, 1) := by decide +kernel
theorem dX0_become_112 : decode cX0_become 112 = .ok (.aaload, 1) := by decide +kernel
theorem dX0_become_113 : decode cX0_become 113 = .ok (.iconst 0, 1) := by decide +kernel
theorem dX0_become_114 : decode cX0_become 114 = .ok (.bipush 8, 2) := by decide +kernel
theorem dX0_become_116 : decode cX0_become 116 = .ok (.invokestatic 45, 3) := by decide +kernel
theorem dX0_become_119 : decode cX0_become 119 = .ok (.iinc 2 1, 3) := by decide +kernel
theorem dX0_become_122 : decode cX0_become 122 = .ok (.goto (-28), 3) := by decide +kernel
theorem dX0_become_125 : decode cX0_become 125 = .ok (.return_, 1) := by decide +kernel
theorem dX0_has_0 : decode cX0_has 0 = .ok (.iload_n 1, 1) := by decide +kernel
theorem dX0_has_1 : decode cX0_has 1 = .ok (.ifCond .lt 15, 3) := by decide +kernel
theorem dX0_has_4 : decode cX0_has 4 = .ok (.iload_n 1, 1) := by decide +kernel
theorem dX0_has_5 : decode cX0_has 5 = .ok (.aload_n 0, 1) := by decide +kernel
theorem dX0_has_6 : decode cX0_has 6 = .ok (.getfield 21, 3) := by decide +kernel
theorem dX0_has_9 : decode cX0_has 9 = .ok (.if_icmp .ge 7, 3) := by decide +kernel
theorem dX0_has_12 : decode cX0_has 12 = .ok (.iconst 1, 1) := by decide +kernel
theorem dX0_has_13 : decode cX0_has 13 = .ok (.goto 4, 3) := by decide +kernel
theorem dX0_has_16 : decode cX0_has 16 = .ok (.iconst 0, 1) := by decide +kernel
theorem dX0_has_17 : decode cX0_has 17 = .ok (.ireturn, 1) := by decide +kernel
theorem dX0_hasTwo_0 : decode cX0_hasTwo 0 = .ok (.aload_n 0, 1) := by decide +kernel
theorem dX0_hasTwo_1 : decode cX0_hasTwo 1 = .ok (.iload_n 1, 1) := by decide +kernel
theorem dX0_hasTwo_2 : decode cX0_hasTwo 2 = .ok (.invokevirtual 51, 3) := by decide +kernel
theorem dX0_hasTwo_5 : decode cX0_hasTwo 5 = .ok (.ifCond .eq 20, 3) := by decide +kernel
theorem dX0_hasTwo_8 : decode cX0_hasTwo 8 = .ok (.aload_n 0, 1) := by decide +kernel
theorem dX0_hasTwo_9 : decode cX0_hasTwo 9 = .ok (.iload_n 2, 1) := by decide +kernel
theorem dX0_hasTwo_10 : decode cX0_hasTwo 10 = .ok (.invokevirtual 51, 3) := by decide +kernel
theorem dX0_hasTwo_13 : decode cX0_hasTwo 13 = .ok (.ifCond .eq 12, 3) := by decide +kernel
theorem dX0_hasTwo_16 : decode cX0_hasTwo 16 = .ok (.iload_n 1, 1) := by decide +kernel
theorem dX0_hasTwo_17 : decode cX0_hasTwo 17 = .ok (.iload_n 2, 1) := by decide +kernel
theorem dX0_hasTwo_18 : decode cX0_hasTwo 18 = .ok (.if_icmp .eq 7, 3) := by decide +kernel
theorem dX0_hasTwo_21 : decode cX0_hasTwo 21 = .ok (.iconst 1, 1) := by decide +kernel
theorem dX0_hasTwo_22 : decode cX0_hasTwo 22 = .ok (.goto 4, 3) := by decide +kernel
theorem dX0_hasTwo_25 : decode cX0_hasTwo 25 = .ok (.iconst 0, 1) := by decide +kernel
theorem dX0_hasTwo_26 : decode cX0_hasTwo 26 = .ok (.ireturn, 1) := by decide +kernel
theorem dX0_everybody_0 : decode cX0_everybody 0 = .ok (.iconst 1, 1) := by decide +kernel
theorem dX0_everybody_1 : decode cX0_everybody 1 = .ok (.aload_n 0, 1) := by decide +kernel
theorem dX0_everybody_2 : decode cX0_everybody 2 = .ok (.getfield 21, 3) := by decide +kernel
theorem dX0_everybody_5 : decode cX0_everybody 5 = .ok (.ishl, 1) := by decide +kernel
theorem dX0_everybody_6 : decode cX0_everybody 6 = .ok (.iconst 1, 1) := by decide +kernel
theorem dX0_everybody_7 : decode cX0_everybody 7 = .ok (.isub, 1) := by decide +kernel
theorem dX0_everybody_8 : decode cX0_everybody 8 = .ok (.ireturn, 1) := by decide +kernel
theorem dX0_join_0 : decode cX0_join 0 = .ok (.aload_n 0, 1) := by decide +kernel
theorem dX0_join_1 : decode cX0_join 1 = .ok (.getfield 21, 3) := by decide +kernel
theorem dX0_join_4 : decode cX0_join 4 = .ok (.istore_n 3, 1) := by decide +kernel
theorem dX0_join_5 : decode cX0_join 5 = .ok (.aload_n 0, 1) := by decide +kernel
theorem dX0_join_6 : decode cX0_join 6 = .ok (.getfield 24, 3) := by decide +kernel
theorem dX0_join_9 : decode cX0_join 9 = .ok (.iload_n 3, 1) := by decide +kernel
theorem dX0_join_10 : decode cX0_join 10 = .ok (.iload_n 1, 1) := by decide +kernel
theorem dX0_join_11 : decode cX0_join 11 = .ok (.iastore, 1) := by decide +kernel
theorem dX0_join_12 : decode cX0_join 12 = .ok (.aload_n 0, 1) := by decide +kernel
theorem dX0_join_13 : decode cX0_join 13 = .ok (.getfield 28, 3) := by decide +kernel
theorem dX0_join_16 : decode cX0_join 16 = .ok (.iload_n 3, 1) := by decide +kernel
theorem dX0_join_17 : decode cX0_join 17 = .ok (.iload_n 2, 1) := by decide +kernel
theorem dX0_join_18 : decode cX0_join 18 = .ok (.iastore, 1) := by decide +kernel
theorem dX0_join_19 : decode cX0_join 19 = .ok (.aload_n 0, 1) := by decide +kernel
theorem dX0_join_20 : decode cX0_join 20 = .ok (.getfield 31, 3) := by decide +kernel
theorem dX0_join_23 : decode cX0_join 23 = .ok (.iload_n 3, 1) := by decide +kernel
theorem dX0_join_24 : decode cX0_join 24 = .ok (.iconst 5, 1) := by decide +kernel
theorem dX0_join_25 : decode cX0_join 25 = .ok (.iastore, 1) := by decide +kernel
theorem dX0_join_26 : decode cX0_join 26 = .ok (.aload_n 0, 1) := by decide +kernel
theorem dX0_join_27 : decode cX0_join 27 = .ok (.getfield 34, 3) := by decide +kernel
theorem dX0_join_30 : decode cX0_join 30 = .ok (.iload_n 3, 1) := by decide +kernel
theorem dX0_join_31 : decode cX0_join 31 = .ok (.iconst 0, 1) := by decide +kernel
theorem dX0_join_32 : decode cX0_join 32 = .ok (.iastore, 1) := by decide +kernel
theorem dX0_join_33 : decode cX0_join 33 = .ok (.iconst 0, 1) := by decide +kernel
theorem dX0_join_34 : decode cX0_join 34 = .ok (.istore 4, 2) := by decide +kernel
theorem dX0_join_36 : decode cX0_join 36 = .ok (.iload 4, 2) := by decide +kernel
theorem dX0_join_38 : decode cX0_join 38 = .ok (.bipush 6, 2) := by decide +kernel
theorem dX0_join_40 : decode cX0_join 40 = .ok (.if_icmp .ge 19, 3) := by decide +kernel
theorem dX0_join_43 : decode cX0_join 43 = .ok (.aload_n 0, 1) := by decide +kernel
theorem dX0_join_44 : decode cX0_join 44 = .ok (.getfield 39, 3) := by decide +kernel
theorem dX0_join_47 : decode cX0_join 47 = .ok (.iload 4, 2) := by decide +kernel
theorem dX0_join_49 : decode cX0_join 49 = .ok (.aaload, 1) := by decide +kernel
theorem dX0_join_50 : decode cX0_join 50 = .ok (.iload_n 3, 1) := by decide +kernel
theorem dX0_join_51 : decode cX0_join 51 = .ok (.iconst 0, 1) := by decide +kernel
theorem dX0_join_52 : decode cX0_join 52 = .ok (.iastore, 1) := by decide +kernel
theorem dX0_join_53 : decode cX0_join 53 = .ok (.iinc 4 1, 3) := by decide +kernel
theorem dX0_join_56 : decode cX0_join 56 = .ok (.goto (-20), 3) := by decide +kernel
theorem dX0_join_59 : decode cX0_join 59 = .ok (.aload_n 0, 1) := by decide +kernel
theorem dX0_join_60 : decode cX0_join 60 = .ok (.dup, 1) := by decide +kernel
theorem dX0_join_61 : decode cX0_join 61 = .ok (.getfield 21, 3) := by decide +kernel
theorem dX0_join_64 : decode cX0_join 64 = .ok (.iconst 1, 1) := by decide +kernel
theorem dX0_join_65 : decode cX0_join 65 = .ok (.iadd, 1) := by decide +kernel
theorem dX0_join_66 : decode cX0_join 66 = .ok (.putfield 21, 3) := by decide +kernel
theorem dX0_join_69 : decode cX0_join 69 = .ok (.iload_n 3, 1) := by decide +kernel
theorem dX0_join_70 : decode cX0_join 70 = .ok (.ireturn, 1) := by decide +kernel
theorem dX0_put_0 : decode cX0_put 0 = .ok (.iload_n 2, 1) := by decide +kernel
theorem dX0_put_1 : decode cX0_put 1 = .ok (.ifCond .ne 11, 3) := by decide +kernel
theorem dX0_put_4 : decode cX0_put 4 = .ok (.aload_n 0, 1) := by decide +kernel
theorem dX0_put_5 : decode cX0_put 5 = .ok (.iload_n 3, 1) := by decide +kernel
theorem dX0_put_6 : decode cX0_put 6 = .ok (.putfield 9, 3) := by decide +kernel
theorem dX0_put_9 : decode cX0_put 9 = .ok (.goto 25, 3) := by decide +kernel
theorem dX0_put_12 : decode cX0_put 12 = .ok (.iload_n 2, 1) := by decide +kernel
theorem dX0_put_13 : decode cX0_put 13 = .ok (.iconst 1, 1) := by decide +kernel
theorem dX0_put_14 : decode cX0_put 14 = .ok (.if_icmp .ne 13, 3) := by decide +kernel
theorem dX0_put_17 : decode cX0_put 17 = .ok (.aload_n 0, 1) := by decide +kernel
theorem dX0_put_18 : decode cX0_put 18 = .ok (.getfield 28, 3) := by decide +kernel
theorem dX0_put_21 : decode cX0_put 21 = .ok (.iload_n 1, 1) := by decide +kernel
theorem dX0_put_22 : decode cX0_put 22 = .ok (.iload_n 3, 1) := by decide +kernel
theorem dX0_put_23 : decode cX0_put 23 = .ok (.iastore, 1) := by decide +kernel
theorem dX0_put_24 : decode cX0_put 24 = .ok (.goto 10, 3) := by decide +kernel
theorem dX0_put_27 : decode cX0_put 27 = .ok (.aload_n 0, 1) := by decide +kernel
theorem dX0_put_28 : decode cX0_put 28 = .ok (.getfield 24, 3) := by decide +kernel
theorem dX0_put_31 : decode cX0_put 31 = .ok (.iload_n 1, 1) := by decide +kernel
theorem dX0_put_32 : decode cX0_put 32 = .ok (.iload_n 3, 1) := by decide +kernel
theorem dX0_put_33 : decode cX0_put 33 = .ok (.iastore, 1) := by decide +kernel
theorem dX0_put_34 : decode cX0_put 34 = .ok (.return_, 1) := by decide +kernel
theorem dX0_washes_0 : decode cX0_washes 0 = .ok (.iconst 0, 1) := by decide +kernel
theorem dX0_washes_1 : decode cX0_washes 1 = .ok (.istore_n 2, 1) := by decide +kernel
theorem dX0_washes_2 : decode cX0_washes 2 = .ok (.iconst 0, 1) := by decide +kernel
theorem dX0_washes_3 : decode cX0_washes 3 = .ok (.istore_n 3, 1) := by decide +kernel
theorem dX0_washes_4 : decode cX0_washes 4 = .ok (.iload_n 3, 1) := by decide +kernel
theorem dX0_washes_5 : decode cX0_washes 5 = .ok (.bipush 6, 2) := by decide +kernel
theorem dX0_washes_7 : decode cX0_washes 7 = .ok (.if_icmp .ge 41, 3) := by decide +kernel
theorem dX0_washes_10 : decode cX0_washes 10 = .ok (.aload_n 0, 1) := by decide +kernel
theorem dX0_washes_11 : decode cX0_washes 11 = .ok (.getfield 39, 3) := by decide +kernel
theorem dX0_washes_14 : decode cX0_washes 14 = .ok (.iload_n 3, 1) := by decide +kernel
theorem dX0_washes_15 : decode cX0_washes 15 = .ok (.aaload, 1) := by decide +kernel
theorem dX0_washes_16 : decode cX0_washes 16 = .ok (.iload_n 1, 1) := by decide +kernel
theorem dX0_washes_17 : decode cX0_washes 17 = .ok (.iaload, 1) := by decide +kernel
theorem dX0_washes_18 : decode cX0_washes 18 = .ok (.istore 4, 2) := by decide +kernel
theorem dX0_washes_20 : decode cX0_washes 20 = .ok (.aload_n 0, 1) := by decide +kernel
theorem dX0_washes_21 : decode cX0_washes 21 = .ok (.getfield 39, 3) := by decide +kernel
theorem dX0_washes_24 : decode cX0_washes 24 = .ok (.iload_n 3, 1) := by decide +kernel
theorem dX0_washes_25 : decode cX0_washes 25 = .ok (.aaload, 1) := by decide +kernel
theorem dX0_washes_26 : decode cX0_washes 26 = .ok (.iload_n 1, 1) := by decide +kernel
theorem dX0_washes_27 : decode cX0_washes 27 = .ok (.iload 4, 2) := by decide +kernel
theorem dX0_washes_29 : decode cX0_washes 29 = .ok (.iconst 3, 1) := by decide +kernel
theorem dX0_washes_30 : decode cX0_washes 30 = .ok (.idiv, 1) := by decide +kernel
theorem dX0_washes_31 : decode cX0_washes 31 = .ok (.iastore, 1) := by decide +kernel
theorem dX0_washes_32 : decode cX0_washes 32 = .ok (.iload_n 2, 1) := by decide +kernel
theorem dX0_washes_33 : decode cX0_washes 33 = .ok (.iload 4, 2) := by decide +kernel
theorem dX0_washes_35 : decode cX0_washes 35 = .ok (.iload 4, 2) := by decide +kernel
theorem dX0_washes_37 : decode cX0_washes 37 = .ok (.iconst 3, 1) := by decide +kernel
theorem dX0_washes_38 : decode cX0_washes 38 = .ok (.idiv, 1) := by decide +kernel
theorem dX0_washes_39 : decode cX0_washes 39 = .ok (.isub, 1) := by decide +kernel
theorem dX0_washes_40 : decode cX0_washes 40 = .ok (.iadd, 1) := by decide +kernel
theorem dX0_washes_41 : decode cX0_washes 41 = .ok (.istore_n 2, 1) := by decide +kernel
theorem dX0_washes_42 : decode cX0_washes 42 = .ok (.iinc 3 1, 3) := by decide +kernel
theorem dX0_washes_45 : decode cX0_washes 45 = .ok (.goto (-41), 3) := by decide +kernel
theorem dX0_washes_48 : decode cX0_washes 48 = .ok (.iload_n 2, 1) := by decide +kernel
theorem dX0_washes_49 : decode cX0_washes 49 = .ok (.ireturn, 1) := by decide +kernel
theorem dX0_sumOver_0 : decode cX0_sumOver 0 = .ok (.iconst 0, 1) := by decide +kernel
theorem dX0_sumOver_1 : decode cX0_sumOver 1 = .ok (.istore_n 2, 1) := by decide +kernel
theorem dX0_sumOver_2 : decode cX0_sumOver 2 = .ok (.iconst 0, 1) := by decide +kernel
theorem dX0_sumOver_3 : decode cX0_sumOver 3 = .ok (.istore_n 3, 1) := by decide +kernel
theorem dX0_sumOver_4 : decode cX0_sumOver 4 = .ok (.iload_n 3, 1) := by decide +kernel
theorem dX0_sumOver_5 : decode cX0_sumOver 5 = .ok (.aload_n 0, 1) := by decide +kernel
theorem dX0_sumOver_6 : decode cX0_sumOver 6 = .ok (.getfield 21, 3) := by decide +kernel
theorem dX0_sumOver_9 : decode cX0_sumOver 9 = .ok (.if_icmp .ge 15, 3) := by decide +kernel
theorem dX0_sumOver_12 : decode cX0_sumOver 12 = .ok (.iload_n 2, 1) := by decide +kernel
theorem dX0_sumOver_13 : decode cX0_sumOver 13 = .ok (.aload_n 1, 1) := by decide +kernel
theorem dX0_sumOver_14 : decode cX0_sumOver 14 = .ok (.iload_n 3, 1) := by decide +kernel
theorem dX0_sumOver_15 : decode cX0_sumOver 15 = .ok (.iaload, 1) := by decide +kernel
theorem dX0_sumOver_16 : decode cX0_sumOver 16 = .ok (.iadd, 1) := by decide +kernel
theorem dX0_sumOver_17 : decode cX0_sumOver 17 = .ok (.istore_n 2, 1) := by decide +kernel
theorem dX0_sumOver_18 : decode cX0_sumOver 18 = .ok (.iinc 3 1, 3) := by decide +kernel
theorem dX0_sumOver_21 : decode cX0_sumOver 21 = .ok (.goto (-17), 3) := by decide +kernel
theorem dX0_sumOver_24 : decode cX0_sumOver 24 = .ok (.iload_n 2, 1) := by decide +kernel
theorem dX0_sumOver_25 : decode cX0_sumOver 25 = .ok (.ireturn, 1) := by decide +kernel
theorem dX0_scentsOf_0 : decode cX0_scentsOf 0 = .ok (.iconst 0, 1) := by decide +kernel
theorem dX0_scentsOf_1 : decode cX0_scentsOf 1 = .ok (.istore_n 2, 1) := by decide +kernel
theorem dX0_scentsOf_2 : decode cX0_scentsOf 2 = .ok (.iconst 0, 1) := by decide +kernel
theorem dX0_scentsOf_3 : decode cX0_scentsOf 3 = .ok (.istore_n 3, 1) := by decide +kernel
theorem dX0_scentsOf_4 : decode cX0_scentsOf 4 = .ok (.iload_n 3, 1) := by decide +kernel
theorem dX0_scentsOf_5 : decode cX0_scentsOf 5 = .ok (.bipush 6, 2) := by decide +kernel
theorem dX0_scentsOf_7 : decode cX0_scentsOf 7 = .ok (.if_icmp .ge 20, 3) := by decide +kernel
theorem dX0_scentsOf_10 : decode cX0_scentsOf 10 = .ok (.iload_n 2, 1) := by decide +kernel
theorem dX0_scentsOf_11 : decode cX0_scentsOf 11 = .ok (.aload_n 0, 1) := by decide +kernel
theorem dX0_scentsOf_12 : decode cX0_scentsOf 12 = .ok (.getfield 39, 3) := by decide +kernel
theorem dX0_scentsOf_15 : decode cX0_scentsOf 15 = .ok (.iload_n 3, 1) := by decide +kernel
theorem dX0_scentsOf_16 : decode cX0_scentsOf 16 = .ok (.aaload, 1) := by decide +kernel
theorem dX0_scentsOf_17 : decode cX0_scentsOf 17 = .ok (.iload_n 1, 1) := by decide +kernel
theorem dX0_scentsOf_18 : decode cX0_scentsOf 18 = .ok (.iaload, 1) := by decide +kernel
theorem dX0_scentsOf_19 : decode cX0_scentsOf 19 = .ok (.iadd, 1) := by decide +kernel
theorem dX0_scentsOf_20 : decode cX0_scentsOf 20 = .ok (.istore_n 2, 1) := by decide +kernel
theorem dX0_scentsOf_21 : decode cX0_scentsOf 21 = .ok (.iinc 3 1, 3) := by decide +kernel
theorem dX0_scentsOf_24 : decode cX0_scentsOf 24 = .ok (.goto (-20), 3) := by decide +kernel
theorem dX0_scentsOf_27 : decode cX0_scentsOf 27 = .ok (.iload_n 2, 1) := by decide +kernel
theorem dX0_scentsOf_28 : decode cX0_scentsOf 28 = .ok (.ireturn, 1) := by decide +kernel
theorem dX0_scentsOfAll_0 : decode cX0_scentsOfAll 0 = .ok (.iconst 0, 1) := by decide +kernel
theorem dX0_scentsOfAll_1 : decode cX0_scentsOfAll 1 = .ok (.istore_n 1, 1) := by decide +kernel
theorem dX0_scentsOfAll_2 : decode cX0_scentsOfAll 2 = .ok (.iconst 0, 1) := by decide +kernel
theorem dX0_scentsOfAll_3 : decode cX0_scentsOfAll 3 = .ok (.istore_n 2, 1) := by decide +kernel
theorem dX0_scentsOfAll_4 : decode cX0_scentsOfAll 4 = .ok (.iload_n 2, 1) := by decide +kernel
theorem dX0_scentsOfAll_5 : decode cX0_scentsOfAll 5 = .ok (.bipush 6, 2) := by decide +kernel
theorem dX0_scentsOfAll_7 : decode cX0_scentsOfAll 7 = .ok (.if_icmp .ge 22, 3) := by decide +kernel
theorem dX0_scentsOfAll_10 : decode cX0_scentsOfAll 10 = .ok (.iload_n 1, 1) := by decide +kernel
theorem dX0_scentsOfAll_11 : decode cX0_scentsOfAll 11 = .ok (.aload_n 0, 1) := by decide +kernel
theorem dX0_scentsOfAll_12 : decode cX0_scentsOfAll 12 = .ok (.aload_n 0, 1) := by decide +kernel
theorem dX0_scentsOfAll_13 : decode cX0_scentsOfAll 13 = .ok (.getfield 39, 3) := by decide +kernel
theorem dX0_scentsOfAll_16 : decode cX0_scentsOfAll 16 = .ok (.iload_n 2, 1) := by decide +kernel
theorem dX0_scentsOfAll_17 : decode cX0_scentsOfAll 17 = .ok (.aaload, 1) := by decide +kernel
theorem dX0_scentsOfAll_18 : decode cX0_scentsOfAll 18 = .ok (.invokevirtual 55, 3) := by decide +kernel
theorem dX0_scentsOfAll_21 : decode cX0_scentsOfAll 21 = .ok (.iadd, 1) := by decide +kernel
theorem dX0_scentsOfAll_22 : decode cX0_scentsOfAll 22 = .ok (.istore_n 1, 1) := by decide +kernel
theorem dX0_scentsOfAll_23 : decode cX0_scentsOfAll 23 = .ok (.iinc 2 1, 3) := by decide +kernel
theorem dX0_scentsOfAll_26 : decode cX0_scentsOfAll 26 = .ok (.goto (-22), 3) := by decide +kernel
theorem dX0_scentsOfAll_29 : decode cX0_scentsOfAll 29 = .ok (.iload_n 1, 1) := by decide +kernel
theorem dX0_scentsOfAll_30 : decode cX0_scentsOfAll 30 = .ok (.ireturn, 1) := by decide +kernel
theorem dX0_givesOff_0 : decode cX0_givesOff 0 = .ok (.aload_n 0, 1) := by decide +kernel
theorem dX0_givesOff_1 : decode cX0_givesOff 1 = .ok (.getfield 39, 3) := by decide +kernel
theorem dX0_givesOff_4 : decode cX0_givesOff 4 = .ok (.iload_n 2, 1) := by decide +kernel
theorem dX0_givesOff_5 : decode cX0_givesOff 5 = .ok (.aaload, 1) := by decide +kernel
theorem dX0_givesOff_6 : decode cX0_givesOff 6 = .ok (.iload_n 1, 1) := by decide +kernel
theorem dX0_givesOff_7 : decode cX0_givesOff 7 = .ok (.iaload, 1) := by decide +kernel
theorem dX0_givesOff_8 : decode cX0_givesOff 8 = .ok (.istore_n 3, 1) := by decide +kernel
theorem dX0_givesOff_9 : decode cX0_givesOff 9 = .ok (.aload_n 0, 1) := by decide +kernel
theorem dX0_givesOff_10 : decode cX0_givesOff 10 = .ok (.getfield 24, 3) := by decide +kernel
theorem dX0_givesOff_13 : decode cX0_givesOff 13 = .ok (.iload_n 1, 1) := by decide +kernel
theorem dX0_givesOff_14 : decode cX0_givesOff 14 = .ok (.iaload, 1) := by decide +kernel
theorem dX0_givesOff_15 : decode cX0_givesOff 15 = .ok (.tableswitch 101 1 5 #[33, 43, 83, 52, 89], 33) := by decide +kernel
theorem dX0_givesOff_48 : decode cX0_givesOff 48 = .ok (.iload_n 2, 1) := by decide +kernel
theorem dX0_givesOff_49 : decode cX0_givesOff 49 = .ok (.ifCond .ne 7, 3) := by decide +kernel
theorem dX0_givesOff_52 : decode cX0_givesOff 52 = .ok (.iconst 0, 1) := by decide +kernel
theorem dX0_givesOff_53 : decode cX0_givesOff 53 = .ok (.goto 4, 3) := by decide +kernel
theorem dX0_givesOff_56 : decode cX0_givesOff 56 = .ok (.iload_n 3, 1) := by decide +kernel
theorem dX0_givesOff_57 : decode cX0_givesOff 57 = .ok (.ireturn, 1) := by decide +kernel
theorem dX0_givesOff_58 : decode cX0_givesOff 58 = .ok (.iload_n 3, 1) := by decide +kernel
theorem dX0_givesOff_59 : decode cX0_givesOff 59 = .ok (.bipush 10, 2) := by decide +kernel
theorem dX0_givesOff_61 : decode cX0_givesOff 61 = .ok (.isub, 1) := by decide +kernel
theorem dX0_givesOff_62 : decode cX0_givesOff 62 = .ok (.iconst 0, 1) := by decide +kernel
theorem dX0_givesOff_63 : decode cX0_givesOff 63 = .ok (.invokestatic 59, 3) := by decide +kernel
theorem dX0_givesOff_66 : decode cX0_givesOff 66 = .ok (.ireturn, 1) := by decide +kernel
theorem dX0_givesOff_67 : decode cX0_givesOff 67 = .ok (.aload_n 0, 1) := by decide +kernel
theorem dX0_givesOff_68 : decode cX0_givesOff 68 = .ok (.getfield 18, 3) := by decide +kernel
theorem dX0_givesOff_71 : decode cX0_givesOff 71 = .ok (.iconst 2, 1) := by decide +kernel
theorem dX0_givesOff_72 : decode cX0_givesOff 72 = .ok (.irem, 1) := by decide +kernel
theorem dX0_givesOff_73 : decode cX0_givesOff 73 = .ok (.ifCond .ne 16, 3) := by decide +kernel
theorem dX0_givesOff_76 : decode cX0_givesOff 76 = .ok (.iload_n 3, 1) := by decide +kernel
theorem dX0_givesOff_77 : decode cX0_givesOff 77 = .ok (.bipush 10, 2) := by decide +kernel
theorem dX0_givesOff_79 : decode cX0_givesOff 79 = .ok (.isub, 1) := by decide +kernel
theorem dX0_givesOff_80 : decode cX0_givesOff 80 = .ok (.iconst 0, 1) := by decide +kernel
theorem dX0_givesOff_81 : decode cX0_givesOff 81 = .ok (.invokestatic 59, 3) := by decide +kernel
theorem dX0_givesOff_84 : decode cX0_givesOff 84 = .ok (.iconst 2, 1) := by decide +kernel
theorem dX0_givesOff_85 : decode cX0_givesOff 85 = .ok (.idiv, 1) := by decide +kernel
theorem dX0_givesOff_86 : decode cX0_givesOff 86 = .ok (.goto 11, 3) := by decide +kernel
theorem dX0_givesOff_89 : decode cX0_givesOff 89 = .ok (.iload_n 3, 1) := by decide +kernel
theorem dX0_givesOff_90 : decode cX0_givesOff 90 = .ok (.bipush 10, 2) := by decide +kernel
theorem dX0_givesOff_92 : decode cX0_givesOff 92 = .ok (.isub, 1) := by decide +kernel
theorem dX0_givesOff_93 : decode cX0_givesOff 93 = .ok (.iconst 0, 1) := by decide +kernel
theorem dX0_givesOff_94 : decode cX0_givesOff 94 = .ok (.invokestatic 59, 3) := by decide +kernel
theorem dX0_givesOff_97 : decode cX0_givesOff 97 = .ok (.ireturn, 1) := by decide +kernel
theorem dX0_givesOff_98 : decode cX0_givesOff 98 = .ok (.iload_n 3, 1) := by decide +kernel
theorem dX0_givesOff_99 : decode cX0_givesOff 99 = .ok (.iload_n 3, 1) := by decide +kernel
theorem dX0_givesOff_100 : decode cX0_givesOff 100 = .ok (.iconst 2, 1) := by decide +kernel
theorem dX0_givesOff_101 : decode cX0_givesOff 101 = .ok (.idiv, 1) := by decide +kernel
theorem dX0_givesOff_102 : decode cX0_givesOff 102 = .ok (.iadd, 1) := by decide +kernel
theorem dX0_givesOff_103 : decode cX0_givesOff 103 = .ok (.ireturn, 1) := by decide +kernel
theorem dX0_givesOff_104 : decode cX0_givesOff 104 = .ok (.iload_n 3, 1) := by decide +kernel
theorem dX0_givesOff_105 : decode cX0_givesOff 105 = .ok (.iload_n 3, 1) := by decide +kernel
theorem dX0_givesOff_106 : decode cX0_givesOff 106 = .ok (.iconst 2, 1) := by decide +kernel
theorem dX0_givesOff_107 : decode cX0_givesOff 107 = .ok (.idiv, 1) := by decide +kernel
theorem dX0_givesOff_108 : decode cX0_givesOff 108 = .ok (.iadd, 1) := by decide +kernel
theorem dX0_givesOff_109 : decode cX0_givesOff 109 = .ok (.iconst 5, 1) := by decide +kernel
theorem dX0_givesOff_110 : decode cX0_givesOff 110 = .ok (.isub, 1) := by decide +kernel
theorem dX0_givesOff_111 : decode cX0_givesOff 111 = .ok (.iconst 0, 1) := by decide +kernel
theorem dX0_givesOff_112 : decode cX0_givesOff 112 = .ok (.invokestatic 59, 3) := by decide +kernel
theorem dX0_givesOff_115 : decode cX0_givesOff 115 = .ok (.ireturn, 1) := by decide +kernel
theorem dX0_givesOff_116 : decode cX0_givesOff 116 = .ok (.iload_n 3, 1) := by decide +kernel
theorem dX0_givesOff_117 : decode cX0_givesOff 117 = .ok (.ireturn, 1) := by decide +kernel
theorem dX0_givenOffBy_0 : decode cX0_givenOffBy 0 = .ok (.iconst 0, 1) := by decide +kernel
theorem dX0_givenOffBy_1 : decode cX0_givenOffBy 1 = .ok (.istore_n 2, 1) := by decide +kernel
theorem dX0_givenOffBy_2 : decode cX0_givenOffBy 2 = .ok (.iconst 0, 1) := by decide +kernel
theorem dX0_givenOffBy_3 : decode cX0_givenOffBy 3 = .ok (.istore_n 3, 1) := by decide +kernel
theorem dX0_givenOffBy_4 : decode cX0_givenOffBy 4 = .ok (.iload_n 3, 1) := by decide +kernel
theorem dX0_givenOffBy_5 : decode cX0_givenOffBy 5 = .ok (.bipush 6, 2) := by decide +kernel
theorem dX0_givenOffBy_7 : decode cX0_givenOffBy 7 = .ok (.if_icmp .ge 18, 3) := by decide +kernel
theorem dX0_givenOffBy_10 : decode cX0_givenOffBy 10 = .ok (.iload_n 2, 1) := by decide +kernel
theorem dX0_givenOffBy_11 : decode cX0_givenOffBy 11 = .ok (.aload_n 0, 1) := by decide +kernel
theorem dX0_givenOffBy_12 : decode cX0_givenOffBy 12 = .ok (.iload_n 1, 1) := by decide +kernel
theorem dX0_givenOffBy_13 : decode cX0_givenOffBy 13 = .ok (.iload_n 3, 1) := by decide +kernel
theorem dX0_givenOffBy_14 : decode cX0_givenOffBy 14 = .ok (.invokevirtual 65, 3) := by decide +kernel
theorem dX0_givenOffBy_17 : decode cX0_givenOffBy 17 = .ok (.iadd, 1) := by decide +kernel
theorem dX0_givenOffBy_18 : decode cX0_givenOffBy 18 = .ok (.istore_n 2, 1) := by decide +kernel
theorem dX0_givenOffBy_19 : decode cX0_givenOffBy 19 = .ok (.iinc 3 1, 3) := by decide +kernel
theorem dX0_givenOffBy_22 : decode cX0_givenOffBy 22 = .ok (.goto (-18), 3) := by decide +kernel
theorem dX0_givenOffBy_25 : decode cX0_givenOffBy 25 = .ok (.iload_n 2, 1) := by decide +kernel
theorem dX0_givenOffBy_26 : decode cX0_givenOffBy 26 = .ok (.ireturn, 1) := by decide +kernel
theorem dX0_senses_0 : decode cX0_senses 0 = .ok (.aload_n 0, 1) := by decide +kernel
theorem dX0_senses_1 : decode cX0_senses 1 = .ok (.getfield 34, 3) := by decide +kernel
theorem dX0_senses_4 : decode cX0_senses 4 = .ok (.iload_n 1, 1) := by decide +kernel
theorem dX0_senses_5 : decode cX0_senses 5 = .ok (.iaload, 1) := by decide +kernel
theorem dX0_senses_6 : decode cX0_senses 6 = .ok (.ifCond .eq 5, 3) := by decide +kernel
theorem dX0_senses_9 : decode cX0_senses 9 = .ok (.iconst 0, 1) := by decide +kernel
theorem dX0_senses_10 : decode cX0_senses 10 = .ok (.ireturn, 1) := by decide +kernel
theorem dX0_senses_11 : decode cX0_senses 11 = .ok (.iload_n 2, 1) := by decide +kernel
theorem dX0_senses_12 : decode cX0_senses 12 = .ok (.aload_n 0, 1) := by decide +kernel
theorem dX0_senses_13 : decode cX0_senses 13 = .ok (.getfield 31, 3) := by decide +kernel
theorem dX0_senses_16 : decode cX0_senses 16 = .ok (.iload_n 1, 1) := by decide +kernel
theorem dX0_senses_17 : decode cX0_senses 17 = .ok (.iaload, 1) := by decide +kernel
theorem dX0_senses_18 : decode cX0_senses 18 = .ok (.imul, 1) := by decide +kernel
theorem dX0_senses_19 : decode cX0_senses 19 = .ok (.iload_n 3, 1) := by decide +kernel
theorem dX0_senses_20 : decode cX0_senses 20 = .ok (.iconst 5, 1) := by decide +kernel
theorem dX0_senses_21 : decode cX0_senses 21 = .ok (.iadd, 1) := by decide +kernel
theorem dX0_senses_22 : decode cX0_senses 22 = .ok (.idiv, 1) := by decide +kernel
theorem dX0_senses_23 : decode cX0_senses 23 = .ok (.istore 4, 2) := by decide +kernel
theorem dX0_senses_25 : decode cX0_senses 25 = .ok (.aload_n 0, 1) := by decide +kernel
theorem dX0_senses_26 : decode cX0_senses 26 = .ok (.getfield 24, 3) := by decide +kernel
theorem dX0_senses_29 : decode cX0_senses 29 = .ok (.iload_n 1, 1) := by decide +kernel
theorem dX0_senses_30 : decode cX0_senses 30 = .ok (.iaload, 1) := by decide +kernel
theorem dX0_senses_31 : decode cX0_senses 31 = .ok (.tableswitch 65 1 5 #[33, 65, 44, 65, 49], 33) := by decide +kernel
theorem dX0_senses_64 : decode cX0_senses 64 = .ok (.iload_n 3, 1) := by decide +kernel
theorem dX0_senses_65 : decode cX0_senses 65 = .ok (.ifCond .ne 7, 3) := by decide +kernel
theorem dX0_senses_68 : decode cX0_senses 68 = .ok (.iconst 0, 1) := by decide +kernel
theorem dX0_senses_69 : decode cX0_senses 69 = .ok (.goto 5, 3) := by decide +kernel
theorem dX0_senses_72 : decode cX0_senses 72 = .ok (.iload 4, 2) := by decide +kernel
theorem dX0_senses_74 : decode cX0_senses 74 = .ok (.ireturn, 1) := by decide +kernel
theorem dX0_senses_75 : decode cX0_senses 75 = .ok (.iconst 2, 1) := by decide +kernel
theorem dX0_senses_76 : decode cX0_senses 76 = .ok (.iload 4, 2) := by decide +kernel
theorem dX0_senses_78 : decode cX0_senses 78 = .ok (.imul, 1) := by decide +kernel
theorem dX0_senses_79 : decode cX0_senses 79 = .ok (.ireturn, 1) := by decide +kernel
theorem dX0_senses_80 : decode cX0_senses 80 = .ok (.iload 4, 2) := by decide +kernel
theorem dX0_senses_82 : decode cX0_senses 82 = .ok (.ifCond .le 12, 3) := by decide +kernel
theorem dX0_senses_85 : decode cX0_senses 85 = .ok (.iconst 2, 1) := by decide +kernel
theorem dX0_senses_86 : decode cX0_senses 86 = .ok (.iload 4, 2) := by decide +kernel
theorem dX0_senses_88 : decode cX0_senses 88 = .ok (.imul, 1) := by decide +kernel
theorem dX0_senses_89 : decode cX0_senses 89 = .ok (.iconst 3, 1) := by decide +kernel
theorem dX0_senses_90 : decode cX0_senses 90 = .ok (.iadd, 1) := by decide +kernel
theorem dX0_senses_91 : decode cX0_senses 91 = .ok (.goto 4, 3) := by decide +kernel
theorem dX0_senses_94 : decode cX0_senses 94 = .ok (.iconst 0, 1) := by decide +kernel
theorem dX0_senses_95 : decode cX0_senses 95 = .ok (.ireturn, 1) := by decide +kernel
theorem dX0_senses_96 : decode cX0_senses 96 = .ok (.iload 4, 2) := by decide +kernel
theorem dX0_senses_98 : decode cX0_senses 98 = .ok (.ireturn, 1) := by decide +kernel
theorem dX0_smelt_0 : decode cX0_smelt 0 = .ok (.aload_n 0, 1) := by decide +kernel
theorem dX0_smelt_1 : decode cX0_smelt 1 = .ok (.iload_n 1, 1) := by decide +kernel
theorem dX0_smelt_2 : decode cX0_smelt 2 = .ok (.aload_n 0, 1) := by decide +kernel
theorem dX0_smelt_3 : decode cX0_smelt 3 = .ok (.iload_n 2, 1) := by decide +kernel
theorem dX0_smelt_4 : decode cX0_smelt 4 = .ok (.iload_n 3, 1) := by decide +kernel
theorem dX0_smelt_5 : decode cX0_smelt 5 = .ok (.invokevirtual 65, 3) := by decide +kernel
theorem dX0_smelt_8 : decode cX0_smelt 8 = .ok (.aload_n 0, 1) := by decide +kernel
theorem dX0_smelt_9 : decode cX0_smelt 9 = .ok (.getfield 28, 3) := by decide +kernel
theorem dX0_smelt_12 : decode cX0_smelt 12 = .ok (.iload_n 1, 1) := by decide +kernel
theorem dX0_smelt_13 : decode cX0_smelt 13 = .ok (.iaload, 1) := by decide +kernel
theorem dX0_smelt_14 : decode cX0_smelt 14 = .ok (.aload_n 0, 1) := by decide +kernel
theorem dX0_smelt_15 : decode cX0_smelt 15 = .ok (.getfield 28, 3) := by decide +kernel
theorem dX0_smelt_18 : decode cX0_smelt 18 = .ok (.iload_n 2, 1) := by decide +kernel
theorem dX0_smelt_19 : decode cX0_smelt 19 = .ok (.iaload, 1) := by decide +kernel
theorem dX0_smelt_20 : decode cX0_smelt 20 = .ok (.invokestatic 68, 3) := by decide +kernel
theorem dX0_smelt_23 : decode cX0_smelt 23 = .ok (.invokevirtual 71, 3) := by decide +kernel
theorem dX0_smelt_26 : decode cX0_smelt 26 = .ok (.istore 4, 2) := by decide +kernel
theorem dX0_smelt_28 : decode cX0_smelt 28 = .ok (.aload_n 0, 1) := by decide +kernel
theorem dX0_smelt_29 : decode cX0_smelt 29 = .ok (.aload_n 0, 1) := by decide +kernel
theorem dX0_smelt_30 : decode cX0_smelt 30 = .ok (.getfield 28, 3) := by decide +kernel
theorem dX0_smelt_33 : decode cX0_smelt 33 = .ok (.iload_n 1, 1) := by decide +kernel
theorem dX0_smelt_34 : decode cX0_smelt 34 = .ok (.iaload, 1) := by decide +kernel
theorem dX0_smelt_35 : decode cX0_smelt 35 = .ok (.aload_n 0, 1) := by decide +kernel
theorem dX0_smelt_36 : decode cX0_smelt 36 = .ok (.getfield 28, 3) := by decide +kernel
theorem dX0_smelt_39 : decode cX0_smelt 39 = .ok (.iload_n 2, 1) := by decide +kernel
theorem dX0_smelt_40 : decode cX0_smelt 40 = .ok (.iaload, 1) := by decide +kernel
theorem dX0_smelt_41 : decode cX0_smelt 41 = .ok (.invokevirtual 75, 3) := by decide +kernel
theorem dX0_smelt_44 : decode cX0_smelt 44 = .ok (.ifCond .eq 8, 3) := by decide +kernel
theorem dX0_smelt_47 : decode cX0_smelt 47 = .ok (.iconst 2, 1) := by decide +kernel
theorem dX0_smelt_48 : decode cX0_smelt 48 = .ok (.iload 4, 2) := by decide +kernel
theorem dX0_smelt_50 : decode cX0_smelt 50 = .ok (.imul, 1) := by decide +kernel
theorem dX0_smelt_51 : decode cX0_smelt 51 = .ok (.ireturn, 1) := by decide +kernel
theorem dX0_smelt_52 : decode cX0_smelt 52 = .ok (.aload_n 0, 1) := by decide +kernel
theorem dX0_smelt_53 : decode cX0_smelt 53 = .ok (.aload_n 0, 1) := by decide +kernel
theorem dX0_smelt_54 : decode cX0_smelt 54 = .ok (.getfield 28, 3) := by decide +kernel
theorem dX0_smelt_57 : decode cX0_smelt 57 = .ok (.iload_n 2, 1) := by decide +kernel
theorem dX0_smelt_58 : decode cX0_smelt 58 = .ok (.iaload, 1) := by decide +kernel
theorem dX0_smelt_59 : decode cX0_smelt 59 = .ok (.aload_n 0, 1) := by decide +kernel
theorem dX0_smelt_60 : decode cX0_smelt 60 = .ok (.getfield 28, 3) := by decide +kernel
theorem dX0_smelt_63 : decode cX0_smelt 63 = .ok (.iload_n 1, 1) := by decide +kernel
theorem dX0_smelt_64 : decode cX0_smelt 64 = .ok (.iaload, 1) := by decide +kernel
theorem dX0_smelt_65 : decode cX0_smelt 65 = .ok (.invokevirtual 75, 3) := by decide +kernel
theorem dX0_smelt_68 : decode cX0_smelt 68 = .ok (.ifCond .eq 10, 3) := by decide +kernel
theorem dX0_smelt_71 : decode cX0_smelt 71 = .ok (.iload 4, 2) := by decide +kernel
theorem dX0_smelt_73 : decode cX0_smelt 73 = .ok (.iconst 2, 1) := by decide +kernel
theorem dX0_smelt_74 : decode cX0_smelt 74 = .ok (.idiv, 1) := by decide +kernel
theorem dX0_smelt_75 : decode cX0_smelt 75 = .ok (.goto 5, 3) := by decide +kernel
theorem dX0_smelt_78 : decode cX0_smelt 78 = .ok (.iload 4, 2) := by decide +kernel
theorem dX0_smelt_80 : decode cX0_smelt 80 = .ok (.ireturn, 1) := by decide +kernel
theorem dX0_finds_0 : decode cX0_finds 0 = .ok (.aload_n 0, 1) := by decide +kernel
theorem dX0_finds_1 : decode cX0_finds 1 = .ok (.getfield 24, 3) := by decide +kernel
theorem dX0_finds_4 : decode cX0_finds 4 = .ok (.iload_n 1, 1) := by decide +kernel
theorem dX0_finds_5 : decode cX0_finds 5 = .ok (.iaload, 1) := by decide +kernel
theorem dX0_finds_6 : decode cX0_finds 6 = .ok (.iconst 2, 1) := by decide +kernel
theorem dX0_finds_7 : decode cX0_finds 7 = .ok (.invokestatic 79, 3) := by decide +kernel
theorem dX0_finds_10 : decode cX0_finds 10 = .ok (.ifCond .eq 24, 3) := by decide +kernel
theorem dX0_finds_13 : decode cX0_finds 13 = .ok (.aload_n 0, 1) := by decide +kernel
theorem dX0_finds_14 : decode cX0_finds 14 = .ok (.getfield 28, 3) := by decide +kernel
theorem dX0_finds_17 : decode cX0_finds 17 = .ok (.iload_n 1, 1) := by decide +kernel
theorem dX0_finds_18 : decode cX0_finds 18 = .ok (.iaload, 1) := by decide +kernel
theorem dX0_finds_19 : decode cX0_finds 19 = .ok (.aload_n 0, 1) := by decide +kernel
theorem dX0_finds_20 : decode cX0_finds 20 = .ok (.getfield 28, 3) := by decide +kernel
theorem dX0_finds_23 : decode cX0_finds 23 = .ok (.iload_n 2, 1) := by decide +kernel
theorem dX0_finds_24 : decode cX0_finds 24 = .ok (.iaload, 1) := by decide +kernel
theorem dX0_finds_25 : decode cX0_finds 25 = .ok (.invokestatic 68, 3) := by decide +kernel
theorem dX0_finds_28 : decode cX0_finds 28 = .ok (.iconst 1, 1) := by decide +kernel
theorem dX0_finds_29 : decode cX0_finds 29 = .ok (.if_icmp .gt 5, 3) := by decide +kernel
theorem dX0_finds_32 : decode cX0_finds 32 = .ok (.iconst 0, 1) := by decide +kernel
theorem dX0_finds_33 : decode cX0_finds 33 = .ok (.ireturn, 1) := by decide +kernel
theorem dX0_finds_34 : decode cX0_finds 34 = .ok (.iconst 0, 1) := by decide +kernel
theorem dX0_finds_35 : decode cX0_finds 35 = .ok (.istore_n 3, 1) := by decide +kernel
theorem dX0_finds_36 : decode cX0_finds 36 = .ok (.iload_n 3, 1) := by decide +kernel
theorem dX0_finds_37 : decode cX0_finds 37 = .ok (.bipush 6, 2) := by decide +kernel
theorem dX0_finds_39 : decode cX0_finds 39 = .ok (.if_icmp .ge 25, 3) := by decide +kernel
theorem dX0_finds_42 : decode cX0_finds 42 = .ok (.aload_n 0, 1) := by decide +kernel
theorem dX0_finds_43 : decode cX0_finds 43 = .ok (.iload_n 1, 1) := by decide +kernel
theorem dX0_finds_44 : decode cX0_finds 44 = .ok (.iload_n 2, 1) := by decide +kernel
theorem dX0_finds_45 : decode cX0_finds 45 = .ok (.iload_n 3, 1) := by decide +kernel
theorem dX0_finds_46 : decode cX0_finds 46 = .ok (.invokevirtual 82, 3) := by decide +kernel
theorem dX0_finds_49 : decode cX0_finds 49 = .ok (.aload_n 0, 1) := by decide +kernel
theorem dX0_finds_50 : decode cX0_finds 50 = .ok (.getfield 15, 3) := by decide +kernel
theorem dX0_finds_53 : decode cX0_finds 53 = .ok (.if_icmp .lt 5, 3) := by decide +kernel
theorem dX0_finds_56 : decode cX0_finds 56 = .ok (.iconst 1, 1) := by decide +kernel
theorem dX0_finds_57 : decode cX0_finds 57 = .ok (.ireturn, 1) := by decide +kernel
theorem dX0_finds_58 : decode cX0_finds 58 = .ok (.iinc 3 1, 3) := by decide +kernel
theorem dX0_finds_61 : decode cX0_finds 61 = .ok (.goto (-25), 3) := by decide +kernel
theorem dX0_finds_64 : decode cX0_finds 64 = .ok (.iconst 0, 1) := by decide +kernel
theorem dX0_finds_65 : decode cX0_finds 65 = .ok (.ireturn, 1) := by decide +kernel
theorem dX0_finders_0 : decode cX0_finders 0 = .ok (.iconst 0, 1) := by decide +kernel
theorem dX0_finders_1 : decode cX0_finders 1 = .ok (.istore_n 2, 1) := by decide +kernel
theorem dX0_finders_2 : decode cX0_finders 2 = .ok (.iconst 0, 1) := by decide +kernel
theorem dX0_finders_3 : decode cX0_finders 3 = .ok (.istore_n 3, 1) := by decide +kernel
theorem dX0_finders_4 : decode cX0_finders 4 = .ok (.iload_n 3, 1) := by decide +kernel
theorem dX0_finders_5 : decode cX0_finders 5 = .ok (.aload_n 0, 1) := by decide +kernel
theorem dX0_finders_6 : decode cX0_finders 6 = .ok (.getfield 21, 3) := by decide +kernel
theorem dX0_finders_9 : decode cX0_finders 9 = .ok (.if_icmp .ge 29, 3) := by decide +kernel
theorem dX0_finders_12 : decode cX0_finders 12 = .ok (.iload_n 3, 1) := by decide +kernel
theorem dX0_finders_13 : decode cX0_finders 13 = .ok (.iload_n 1, 1) := by decide +kernel
theorem dX0_finders_14 : decode cX0_finders 14 = .ok (.if_icmp .eq 18, 3) := by decide +kernel
theorem dX0_finders_17 : decode cX0_finders 17 = .ok (.aload_n 0, 1) := by decide +kernel
theorem dX0_finders_18 : decode cX0_finders 18 = .ok (.iload_n 3, 1) := by decide +kernel
theorem dX0_finders_19 : decode cX0_finders 19 = .ok (.iload_n 1, 1) := by decide +kernel
theorem dX0_finders_20 : decode cX0_finders 20 = .ok (.invokevirtual 85, 3) := by decide +kernel
theorem dX0_finders_23 : decode cX0_finders 23 = .ok (.ifCond .eq 9, 3) := by decide +kernel
theorem dX0_finders_26 : decode cX0_finders 26 = .ok (.iload_n 2, 1) := by decide +kernel
theorem dX0_finders_27 : decode cX0_finders 27 = .ok (.iconst 1, 1) := by decide +kernel
theorem dX0_finders_28 : decode cX0_finders 28 = .ok (.iload_n 3, 1) := by decide +kernel
theorem dX0_finders_29 : decode cX0_finders 29 = .ok (.ishl, 1) := by decide +kernel
theorem dX0_finders_30 : decode cX0_finders 30 = .ok (.ior, 1) := by decide +kernel
theorem dX0_finders_31 : decode cX0_finders 31 = .ok (.istore_n 2, 1) := by decide +kernel
theorem dX0_finders_32 : decode cX0_finders 32 = .ok (.iinc 3 1, 3) := by decide +kernel
theorem dX0_finders_35 : decode cX0_finders 35 = .ok (.goto (-31), 3) := by decide +kernel
theorem dX0_finders_38 : decode cX0_finders 38 = .ok (.iload_n 2, 1) := by decide +kernel
theorem dX0_finders_39 : decode cX0_finders 39 = .ok (.ireturn, 1) := by decide +kernel
theorem dX0_foundGuilty_0 : decode cX0_foundGuilty 0 = .ok (.iconst 0, 1) := by decide +kernel
theorem dX0_foundGuilty_1 : decode cX0_foundGuilty 1 = .ok (.istore_n 1, 1) := by decide +kernel
theorem dX0_foundGuilty_2 : decode cX0_foundGuilty 2 = .ok (.iconst 0, 1) := by decide +kernel
theorem dX0_foundGuilty_3 : decode cX0_foundGuilty 3 = .ok (.istore_n 2, 1) := by decide +kernel
theorem dX0_foundGuilty_4 : decode cX0_foundGuilty 4 = .ok (.iload_n 2, 1) := by decide +kernel
theorem dX0_foundGuilty_5 : decode cX0_foundGuilty 5 = .ok (.aload_n 0, 1) := by decide +kernel
theorem dX0_foundGuilty_6 : decode cX0_foundGuilty 6 = .ok (.getfield 21, 3) := by decide +kernel
theorem dX0_foundGuilty_9 : decode cX0_foundGuilty 9 = .ok (.if_icmp .ge 23, 3) := by decide +kernel
theorem dX0_foundGuilty_12 : decode cX0_foundGuilty 12 = .ok (.aload_n 0, 1) := by decide +kernel
theorem dX0_foundGuilty_13 : decode cX0_foundGuilty 13 = .ok (.iload_n 2, 1) := by decide +kernel
theorem dX0_foundGuilty_14 : decode cX0_foundGuilty 14 = .ok (.invokevirtual 88, 3) := by decide +kernel
theorem dX0_foundGuilty_17 : decode cX0_foundGuilty 17 = .ok (.ifCond .eq 9, 3) := by decide +kernel
theorem dX0_foundGuilty_20 : decode cX0_foundGuilty 20 = .ok (.iload_n 1, 1) := by decide +kernel
theorem dX0_foundGuilty_21 : decode cX0_foundGuilty 21 = .ok (.iconst 1, 1) := by decide +kernel
theorem dX0_foundGuilty_22 : decode cX0_foundGuilty 22 = .ok (.iload_n 2, 1) := by decide +kernel
theorem dX0_foundGuilty_23 : decode cX0_foundGuilty 23 = .ok (.ishl, 1) := by decide +kernel
theorem dX0_foundGuilty_24 : decode cX0_foundGuilty 24 = .ok (.ior, 1) := by decide +kernel
theorem dX0_foundGuilty_25 : decode cX0_foundGuilty 25 = .ok (.istore_n 1, 1) := by decide +kernel
theorem dX0_foundGuilty_26 : decode cX0_foundGuilty 26 = .ok (.iinc 2 1, 3) := by decide +kernel
theorem dX0_foundGuilty_29 : decode cX0_foundGuilty 29 = .ok (.goto (-25), 3) := by decide +kernel
theorem dX0_foundGuilty_32 : decode cX0_foundGuilty 32 = .ok (.iload_n 1, 1) := by decide +kernel
theorem dX0_foundGuilty_33 : decode cX0_foundGuilty 33 = .ok (.ireturn, 1) := by decide +kernel
theorem dX0_hourGoes_0 : decode cX0_hourGoes 0 = .ok (.iconst 0, 1) := by decide +kernel
theorem dX0_hourGoes_1 : decode cX0_hourGoes 1 = .ok (.istore_n 1, 1) := by decide +kernel
theorem dX0_hourGoes_2 : decode cX0_hourGoes 2 = .ok (.iload_n 1, 1) := by decide +kernel
theorem dX0_hourGoes_3 : decode cX0_hourGoes 3 = .ok (.bipush 6, 2) := by decide +kernel
theorem dX0_hourGoes_5 : decode cX0_hourGoes 5 = .ok (.if_icmp .ge 14, 3) := by decide +kernel
theorem dX0_hourGoes_8 : decode cX0_hourGoes 8 = .ok (.aload_n 0, 1) := by decide +kernel
theorem dX0_hourGoes_9 : decode cX0_hourGoes 9 = .ok (.iload_n 1, 1) := by decide +kernel
theorem dX0_hourGoes_10 : decode cX0_hourGoes 10 = .ok (.invokevirtual 92, 3) := by decide +kernel
theorem dX0_hourGoes_13 : decode cX0_hourGoes 13 = .ok (.iinc 1 1, 3) := by decide +kernel
theorem dX0_hourGoes_16 : decode cX0_hourGoes 16 = .ok (.goto (-14), 3) := by decide +kernel
theorem dX0_hourGoes_19 : decode cX0_hourGoes 19 = .ok (.aload_n 0, 1) := by decide +kernel
theorem dX0_hourGoes_20 : decode cX0_hourGoes 20 = .ok (.dup, 1) := by decide +kernel
theorem dX0_hourGoes_21 : decode cX0_hourGoes 21 = .ok (.getfield 18, 3) := by decide +kernel
theorem dX0_hourGoes_24 : decode cX0_hourGoes 24 = .ok (.iconst 1, 1) := by decide +kernel
theorem dX0_hourGoes_25 : decode cX0_hourGoes 25 = .ok (.iadd, 1) := by decide +kernel
theorem dX0_hourGoes_26 : decode cX0_hourGoes 26 = .ok (.putfield 18, 3) := by decide +kernel
theorem dX0_hourGoes_29 : decode cX0_hourGoes 29 = .ok (.return_, 1) := by decide +kernel
theorem dX0_hourGoesFor_0 : decode cX0_hourGoesFor 0 = .ok (.aload_n 0, 1) := by decide +kernel
theorem dX0_hourGoesFor_1 : decode cX0_hourGoesFor 1 = .ok (.iload_n 1, 1) := by decide +kernel
theorem dX0_hourGoesFor_2 : decode cX0_hourGoesFor 2 = .ok (.invokevirtual 92, 3) := by decide +kernel
theorem dX0_hourGoesFor_5 : decode cX0_hourGoesFor 5 = .ok (.aload_n 0, 1) := by decide +kernel
theorem dX0_hourGoesFor_6 : decode cX0_hourGoesFor 6 = .ok (.dup, 1) := by decide +kernel
theorem dX0_hourGoesFor_7 : decode cX0_hourGoesFor 7 = .ok (.getfield 18, 3) := by decide +kernel
theorem dX0_hourGoesFor_10 : decode cX0_hourGoesFor 10 = .ok (.iconst 1, 1) := by decide +kernel
theorem dX0_hourGoesFor_11 : decode cX0_hourGoesFor 11 = .ok (.iadd, 1) := by decide +kernel
theorem dX0_hourGoesFor_12 : decode cX0_hourGoesFor 12 = .ok (.putfield 18, 3) := by decide +kernel
theorem dX0_hourGoesFor_15 : decode cX0_hourGoesFor 15 = .ok (.return_, 1) := by decide +kernel
theorem dX0_fade_0 : decode cX0_fade 0 = .ok (.aload_n 0, 1) := by decide +kernel
theorem dX0_fade_1 : decode cX0_fade 1 = .ok (.getfield 39, 3) := by decide +kernel
theorem dX0_fade_4 : decode cX0_fade 4 = .ok (.iload_n 1, 1) := by decide +kernel
theorem dX0_fade_5 : decode cX0_fade 5 = .ok (.aaload, 1) := by decide +kernel
theorem dX0_fade_6 : decode cX0_fade 6 = .ok (.astore_n 2, 1) := by decide +kernel
theorem dX0_fade_7 : decode cX0_fade 7 = .ok (.iconst 0, 1) := by decide +kernel
theorem dX0_fade_8 : decode cX0_fade 8 = .ok (.istore_n 3, 1) := by decide +kernel
theorem dX0_fade_9 : decode cX0_fade 9 = .ok (.iload_n 3, 1) := by decide +kernel
theorem dX0_fade_10 : decode cX0_fade 10 = .ok (.aload_n 0, 1) := by decide +kernel
theorem dX0_fade_11 : decode cX0_fade 11 = .ok (.getfield 21, 3) := by decide +kernel
theorem dX0_fade_14 : decode cX0_fade 14 = .ok (.if_icmp .ge 52, 3) := by decide +kernel
theorem dX0_fade_17 : decode cX0_fade 17 = .ok (.aload_n 0, 1) := by decide +kernel
theorem dX0_fade_18 : decode cX0_fade 18 = .ok (.iload_n 3, 1) := by decide +kernel
theorem dX0_fade_19 : decode cX0_fade 19 = .ok (.iload_n 1, 1) := by decide +kernel
theorem dX0_fade_20 : decode cX0_fade 20 = .ok (.invokevirtual 96, 3) := by decide +kernel
theorem dX0_fade_23 : decode cX0_fade 23 = .ok (.istore 4, 2) := by decide +kernel
theorem dX0_fade_25 : decode cX0_fade 25 = .ok (.iload 4, 2) := by decide +kernel
theorem dX0_fade_27 : decode cX0_fade 27 = .ok (.ifCond .ge 7, 3) := by decide +kernel
theorem dX0_fade_30 : decode cX0_fade 30 = .ok (.iconst 0, 1) := by decide +kernel
theorem dX0_fade_31 : decode cX0_fade 31 = .ok (.goto 9, 3) := by decide +kernel
theorem dX0_fade_34 : decode cX0_fade 34 = .ok (.aload_n 2, 1) := by decide +kernel
theorem dX0_fade_35 : decode cX0_fade 35 = .ok (.iload 4, 2) := by decide +kernel
theorem dX0_fade_37 : decode cX0_fade 37 = .ok (.iaload, 1) := by decide +kernel
theorem dX0_fade_38 : decode cX0_fade 38 = .ok (.iconst 4, 1) := by decide +kernel
theorem dX0_fade_39 : decode cX0_fade 39 = .ok (.idiv, 1) := by decide +kernel
theorem dX0_fade_40 : decode cX0_fade 40 = .ok (.istore 5, 2) := by decide +kernel
theorem dX0_fade_42 : decode cX0_fade 42 = .ok (.aload_n 0, 1) := by decide +kernel
theorem dX0_fade_43 : decode cX0_fade 43 = .ok (.getfield 42, 3) := by decide +kernel
theorem dX0_fade_46 : decode cX0_fade 46 = .ok (.iload_n 3, 1) := by decide +kernel
theorem dX0_fade_47 : decode cX0_fade 47 = .ok (.iload_n 1, 1) := by decide +kernel
theorem dX0_fade_48 : decode cX0_fade 48 = .ok (.aload_n 2, 1) := by decide +kernel
theorem dX0_fade_49 : decode cX0_fade 49 = .ok (.iload_n 3, 1) := by decide +kernel
theorem dX0_fade_50 : decode cX0_fade 50 = .ok (.iaload, 1) := by decide +kernel
theorem dX0_fade_51 : decode cX0_fade 51 = .ok (.invokestatic 99, 3) := by decide +kernel
theorem dX0_fade_54 : decode cX0_fade 54 = .ok (.iload 5, 2) := by decide +kernel
theorem dX0_fade_56 : decode cX0_fade 56 = .ok (.invokestatic 59, 3) := by decide +kernel
theorem dX0_fade_59 : decode cX0_fade 59 = .ok (.iastore, 1) := by decide +kernel
theorem dX0_fade_60 : decode cX0_fade 60 = .ok (.iinc 3 1, 3) := by decide +kernel
theorem dX0_fade_63 : decode cX0_fade 63 = .ok (.goto (-54), 3) := by decide +kernel
theorem dX0_fade_66 : decode cX0_fade 66 = .ok (.aload_n 0, 1) := by decide +kernel
theorem dX0_fade_67 : decode cX0_fade 67 = .ok (.getfield 42, 3) := by decide +kernel
theorem dX0_fade_70 : decode cX0_fade 70 = .ok (.iconst 0, 1) := by decide +kernel
theorem dX0_fade_71 : decode cX0_fade 71 = .ok (.aload_n 2, 1) := by decide +kernel
theorem dX0_fade_72 : decode cX0_fade 72 = .ok (.iconst 0, 1) := by decide +kernel
theorem dX0_fade_73 : decode cX0_fade 73 = .ok (.aload_n 0, 1) := by decide +kernel
theorem dX0_fade_74 : decode cX0_fade 74 = .ok (.getfield 21, 3) := by decide +kernel
theorem dX0_fade_77 : decode cX0_fade 77 = .ok (.invokestatic 45, 3) := by decide +kernel
theorem dX0_fade_80 : decode cX0_fade 80 = .ok (.return_, 1) := by decide +kernel
theorem dX0_strongestBeside_0 : decode cX0_strongestBeside 0 = .ok (.aload_n 0, 1) := by decide +kernel
theorem dX0_strongestBeside_1 : decode cX0_strongestBeside 1 = .ok (.getfield 39, 3) := by decide +kernel
theorem dX0_strongestBeside_4 : decode cX0_strongestBeside 4 = .ok (.iload_n 2, 1) := by decide +kernel
theorem dX0_strongestBeside_5 : decode cX0_strongestBeside 5 = .ok (.aaload, 1) := by decide +kernel
theorem dX0_strongestBeside_6 : decode cX0_strongestBeside 6 = .ok (.astore_n 3, 1) := by decide +kernel
theorem dX0_strongestBeside_7 : decode cX0_strongestBeside 7 = .ok (.iconst (-1), 1) := by decide +kernel
theorem dX0_strongestBeside_8 : decode cX0_strongestBeside 8 = .ok (.istore 4, 2) := by decide +kernel
theorem dX0_strongestBeside_10 : decode cX0_strongestBeside 10 = .ok (.iconst 0, 1) := by decide +kernel
theorem dX0_strongestBeside_11 : decode cX0_strongestBeside 11 = .ok (.istore 5, 2) := by decide +kernel
theorem dX0_strongestBeside_13 : decode cX0_strongestBeside 13 = .ok (.iload 5, 2) := by decide +kernel
theorem dX0_strongestBeside_15 : decode cX0_strongestBeside 15 = .ok (.aload_n 0, 1) := by decide +kernel
theorem dX0_strongestBeside_16 : decode cX0_strongestBeside 16 = .ok (.getfield 21, 3) := by decide +kernel
theorem dX0_strongestBeside_19 : decode cX0_strongestBeside 19 = .ok (.if_icmp .ge 51, 3) := by decide +kernel
theorem dX0_strongestBeside_22 : decode cX0_strongestBeside 22 = .ok (.iload 5, 2) := by decide +kernel
theorem dX0_strongestBeside_24 : decode cX0_strongestBeside 24 = .ok (.iload_n 1, 1) := by decide +kernel
theorem dX0_strongestBeside_25 : decode cX0_strongestBeside 25 = .ok (.if_icmp .eq 39, 3) := by decide +kernel
theorem dX0_strongestBeside_28 : decode cX0_strongestBeside 28 = .ok (.aload_n 0, 1) := by decide +kernel
theorem dX0_strongestBeside_29 : decode cX0_strongestBeside 29 = .ok (.getfield 28, 3) := by decide +kernel
theorem dX0_strongestBeside_32 : decode cX0_strongestBeside 32 = .ok (.iload 5, 2) := by decide +kernel
theorem dX0_strongestBeside_34 : decode cX0_strongestBeside 34 = .ok (.iaload, 1) := by decide +kernel
theorem dX0_strongestBeside_35 : decode cX0_strongestBeside 35 = .ok (.aload_n 0, 1) := by decide +kernel
theorem dX0_strongestBeside_36 : decode cX0_strongestBeside 36 = .ok (.getfield 28, 3) := by decide +kernel
theorem dX0_strongestBeside_39 : decode cX0_strongestBeside 39 = .ok (.iload_n 1, 1) := by decide +kernel
theorem dX0_strongestBeside_40 : decode cX0_strongestBeside 40 = .ok (.iaload, 1) := by decide +kernel
theorem dX0_strongestBeside_41 : decode cX0_strongestBeside 41 = .ok (.if_icmp .ne 23, 3) := by decide +kernel
theorem dX0_strongestBeside_44 : decode cX0_strongestBeside 44 = .ok (.iload 4, 2) := by decide +kernel
theorem dX0_strongestBeside_46 : decode cX0_strongestBeside 46 = .ok (.ifCond .lt 14, 3) := by decide +kernel
theorem dX0_strongestBeside_49 : decode cX0_strongestBeside 49 = .ok (.aload_n 3, 1) := by decide +kernel
theorem dX0_strongestBeside_50 : decode cX0_strongestBeside 50 = .ok (.iload 5, 2) := by decide +kernel
theorem dX0_strongestBeside_52 : decode cX0_strongestBeside 52 = .ok (.iaload, 1) := by decide +kernel
theorem dX0_strongestBeside_53 : decode cX0_strongestBeside 53 = .ok (.aload_n 3, 1) := by decide +kernel
theorem dX0_strongestBeside_54 : decode cX0_strongestBeside 54 = .ok (.iload 4, 2) := by decide +kernel
theorem dX0_strongestBeside_56 : decode cX0_strongestBeside 56 = .ok (.iaload, 1) := by decide +kernel
theorem dX0_strongestBeside_57 : decode cX0_strongestBeside 57 = .ok (.if_icmp .le 7, 3) := by decide +kernel
theorem dX0_strongestBeside_60 : decode cX0_strongestBeside 60 = .ok (.iload 5, 2) := by decide +kernel
theorem dX0_strongestBeside_62 : decode cX0_strongestBeside 62 = .ok (.istore 4, 2) := by decide +kernel
theorem dX0_strongestBeside_64 : decode cX0_strongestBeside 64 = .ok (.iinc 5 1, 3) := by decide +kernel
theorem dX0_strongestBeside_67 : decode cX0_strongestBeside 67 = .ok (.goto (-54), 3) := by decide +kernel
theorem dX0_strongestBeside_70 : decode cX0_strongestBeside 70 = .ok (.iload 4, 2) := by decide +kernel
theorem dX0_strongestBeside_72 : decode cX0_strongestBeside 72 = .ok (.ireturn, 1) := by decide +kernel
theorem dX0_isDownwind_0 : decode cX0_isDownwind 0 = .ok (.aload_n 0, 1) := by decide +kernel
theorem dX0_isDownwind_1 : decode cX0_isDownwind 1 = .ok (.getfield 9, 3) := by decide +kernel
theorem dX0_isDownwind_4 : decode cX0_isDownwind 4 = .ok (.tableswitch 100 1 4 #[32, 49, 66, 83], 32) := by decide +kernel
theorem dX0_isDownwind_36 : decode cX0_isDownwind 36 = .ok (.iload_n 1, 1) := by decide +kernel
theorem dX0_isDownwind_37 : decode cX0_isDownwind 37 = .ok (.bipush 8, 2) := by decide +kernel
theorem dX0_isDownwind_39 : decode cX0_isDownwind 39 = .ok (.idiv, 1) := by decide +kernel
theorem dX0_isDownwind_40 : decode cX0_isDownwind 40 = .ok (.iload_n 2, 1) := by decide +kernel
theorem dX0_isDownwind_41 : decode cX0_isDownwind 41 = .ok (.bipush 8, 2) := by decide +kernel
theorem dX0_isDownwind_43 : decode cX0_isDownwind 43 = .ok (.idiv, 1) := by decide +kernel
theorem dX0_isDownwind_44 : decode cX0_isDownwind 44 = .ok (.if_icmp .ge 7, 3) := by decide +kernel
theorem dX0_isDownwind_47 : decode cX0_isDownwind 47 = .ok (.iconst 1, 1) := by decide +kernel
theorem dX0_isDownwind_48 : decode cX0_isDownwind 48 = .ok (.goto 4, 3) := by decide +kernel
theorem dX0_isDownwind_51 : decode cX0_isDownwind 51 = .ok (.iconst 0, 1) := by decide +kernel
theorem dX0_isDownwind_52 : decode cX0_isDownwind 52 = .ok (.ireturn, 1) := by decide +kernel
theorem dX0_isDownwind_53 : decode cX0_isDownwind 53 = .ok (.iload_n 1, 1) := by decide +kernel
theorem dX0_isDownwind_54 : decode cX0_isDownwind 54 = .ok (.bipush 8, 2) := by decide +kernel
theorem dX0_isDownwind_56 : decode cX0_isDownwind 56 = .ok (.irem, 1) := by decide +kernel
theorem dX0_isDownwind_57 : decode cX0_isDownwind 57 = .ok (.iload_n 2, 1) := by decide +kernel
theorem dX0_isDownwind_58 : decode cX0_isDownwind 58 = .ok (.bipush 8, 2) := by decide +kernel
theorem dX0_isDownwind_60 : decode cX0_isDownwind 60 = .ok (.irem, 1) := by decide +kernel
theorem dX0_isDownwind_61 : decode cX0_isDownwind 61 = .ok (.if_icmp .le 7, 3) := by decide +kernel
theorem dX0_isDownwind_64 : decode cX0_isDownwind 64 = .ok (.iconst 1, 1) := by decide +kernel
theorem dX0_isDownwind_65 : decode cX0_isDownwind 65 = .ok (.goto 4, 3) := by decide +kernel
theorem dX0_isDownwind_68 : decode cX0_isDownwind 68 = .ok (.iconst 0, 1) := by decide +kernel
theorem dX0_isDownwind_69 : decode cX0_isDownwind 69 = .ok (.ireturn, 1) := by decide +kernel
theorem dX0_isDownwind_70 : decode cX0_isDownwind 70 = .ok (.iload_n 1, 1) := by decide +kernel
theorem dX0_isDownwind_71 : decode cX0_isDownwind 71 = .ok (.bipush 8, 2) := by decide +kernel
theorem dX0_isDownwind_73 : decode cX0_isDownwind 73 = .ok (.idiv, 1) := by decide +kernel
theorem dX0_isDownwind_74 : decode cX0_isDownwind 74 = .ok (.iload_n 2, 1) := by decide +kernel
theorem dX0_isDownwind_75 : decode cX0_isDownwind 75 = .ok (.bipush 8, 2) := by decide +kernel
theorem dX0_isDownwind_77 : decode cX0_isDownwind 77 = .ok (.idiv, 1) := by decide +kernel
theorem dX0_isDownwind_78 : decode cX0_isDownwind 78 = .ok (.if_icmp .le 7, 3) := by decide +kernel
theorem dX0_isDownwind_81 : decode cX0_isDownwind 81 = .ok (.iconst 1, 1) := by decide +kernel
theorem dX0_isDownwind_82 : decode cX0_isDownwind 82 = .ok (.goto 4, 3) := by decide +kernel
theorem dX0_isDownwind_85 : decode cX0_isDownwind 85 = .ok (.iconst 0, 1) := by decide +kernel
theorem dX0_isDownwind_86 : decode cX0_isDownwind 86 = .ok (.ireturn, 1) := by decide +kernel
theorem dX0_isDownwind_87 : decode cX0_isDownwind 87 = .ok (.iload_n 1, 1) := by decide +kernel
theorem dX0_isDownwind_88 : decode cX0_isDownwind 88 = .ok (.bipush 8, 2) := by decide +kernel
theorem dX0_isDownwind_90 : decode cX0_isDownwind 90 = .ok (.irem, 1) := by decide +kernel
theorem dX0_isDownwind_91 : decode cX0_isDownwind 91 = .ok (.iload_n 2, 1) := by decide +kernel
theorem dX0_isDownwind_92 : decode cX0_isDownwind 92 = .ok (.bipush 8, 2) := by decide +kernel
theorem dX0_isDownwind_94 : decode cX0_isDownwind 94 = .ok (.irem, 1) := by decide +kernel
theorem dX0_isDownwind_95 : decode cX0_isDownwind 95 = .ok (.if_icmp .ge 7, 3) := by decide +kernel
theorem dX0_isDownwind_98 : decode cX0_isDownwind 98 = .ok (.iconst 1, 1) := by decide +kernel
theorem dX0_isDownwind_99 : decode cX0_isDownwind 99 = .ok (.goto 4, 3) := by decide +kernel
theorem dX0_isDownwind_102 : decode cX0_isDownwind 102 = .ok (.iconst 0, 1) := by decide +kernel
theorem dX0_isDownwind_103 : decode cX0_isDownwind 103 = .ok (.ireturn, 1) := by decide +kernel
theorem dX0_isDownwind_104 : decode cX0_isDownwind 104 = .ok (.iconst 0, 1) := by decide +kernel
theorem dX0_isDownwind_105 : decode cX0_isDownwind 105 = .ok (.ireturn, 1) := by decide +kernel
theorem dX0_apart_0 : decode cX0_apart 0 = .ok (.iload_n 0, 1) := by decide +kernel
theorem dX0_apart_1 : decode cX0_apart 1 = .ok (.bipush 8, 2) := by decide +kernel
theorem dX0_apart_3 : decode cX0_apart 3 = .ok (.idiv, 1) := by decide +kernel
theorem dX0_apart_4 : decode cX0_apart 4 = .ok (.iload_n 1, 1) := by decide +kernel
theorem dX0_apart_5 : decode cX0_apart 5 = .ok (.bipush 8, 2) := by decide +kernel
theorem dX0_apart_7 : decode cX0_apart 7 = .ok (.idiv, 1) := by decide +kernel
theorem dX0_apart_8 : decode cX0_apart 8 = .ok (.isub, 1) := by decide +kernel
theorem dX0_apart_9 : decode cX0_apart 9 = .ok (.invokestatic 102, 3) := by decide +kernel
theorem dX0_apart_12 : decode cX0_apart 12 = .ok (.iload_n 0, 1) := by decide +kernel
theorem dX0_apart_13 : decode cX0_apart 13 = .ok (.bipush 8, 2) := by decide +kernel
theorem dX0_apart_15 : decode cX0_apart 15 = .ok (.irem, 1) := by decide +kernel
theorem dX0_apart_16 : decode cX0_apart 16 = .ok (.iload_n 1, 1) := by decide +kernel
theorem dX0_apart_17 : decode cX0_apart 17 = .ok (.bipush 8, 2) := by decide +kernel
theorem dX0_apart_19 : decode cX0_apart 19 = .ok (.irem, 1) := by decide +kernel
theorem dX0_apart_20 : decode cX0_apart 20 = .ok (.isub, 1) := by decide +kernel
theorem dX0_apart_21 : decode cX0_apart 21 = .ok (.invokestatic 102, 3) := by decide +kernel
theorem dX0_apart_24 : decode cX0_apart 24 = .ok (.iadd, 1) := by decide +kernel
theorem dX0_apart_25 : decode cX0_apart 25 = .ok (.ireturn, 1) := by decide +kernel
theorem dX1_init_0 : decode cX1_init 0 = .ok (.aload_n 0, 1) := by decide +kernel
theorem dX1_init_1 : decode cX1_init 1 = .ok (.invokespecial 3, 3) := by decide +kernel
theorem dX1_init_4 : decode cX1_init 4 = .ok (.aload_n 0, 1) := by decide +kernel
theorem dX1_init_5 : decode cX1_init 5 = .ok (.iconst 0, 1) := by decide +kernel
theorem dX1_init_6 : decode cX1_init 6 = .ok (.putfield 9, 3) := by decide +kernel
theorem dX1_init_9 : decode cX1_init 9 = .ok (.aload_n 0, 1) := by decide +kernel
theorem dX1_init_10 : decode cX1_init 10 = .ok (.iconst 0, 1) := by decide +kernel
theorem dX1_init_11 : decode cX1_init 11 = .ok (.putfield 15, 3) := by decide +kernel
theorem dX1_init_14 : decode cX1_init 14 = .ok (.aload_n 0, 1) := by decide +kernel
theorem dX1_init_15 : decode cX1_init 15 = .ok (.bipush 40, 2) := by decide +kernel
theorem dX1_init_17 : decode cX1_init 17 = .ok (.newarray .long, 2) := by decide +kernel
theorem dX1_init_19 : decode cX1_init 19 = .ok (.putfield 18, 3) := by decide +kernel
theorem dX1_init_22 : decode cX1_init 22 = .ok (.return_, 1) := by decide +kernel
theorem dX1_renew_0 : decode cX1_renew 0 = .ok (.aload_n 0, 1) := by decide +kernel
theorem dX1_renew_1 : decode cX1_renew 1 = .ok (.iload_n 1, 1) := by decide +kernel
theorem dX1_renew_2 : decode cX1_renew 2 = .ok (.putfield 9, 3) := by decide +kernel
theorem dX1_renew_5 : decode cX1_renew 5 = .ok (.aload_n 0, 1) := by decide +kernel
theorem dX1_renew_6 : decode cX1_renew 6 = .ok (.iload_n 2, 1) := by decide +kernel
theorem dX1_renew_7 : decode cX1_renew 7 = .ok (.putfield 15, 3) := by decide +kernel
theorem dX1_renew_10 : decode cX1_renew 10 = .ok (.iconst 0, 1) := by decide +kernel
theorem dX1_renew_11 : decode cX1_renew 11 = .ok (.istore_n 3, 1) := by decide +kernel
theorem dX1_renew_12 : decode cX1_renew 12 = .ok (.iload_n 3, 1) := by decide +kernel
theorem dX1_renew_13 : decode cX1_renew 13 = .ok (.bipush 40, 2) := by decide +kernel
theorem dX1_renew_15 : decode cX1_renew 15 = .ok (.if_icmp .ge 16, 3) := by decide +kernel
theorem dX1_renew_18 : decode cX1_renew 18 = .ok (.aload_n 0, 1) := by decide +kernel
theorem dX1_renew_19 : decode cX1_renew 19 = .ok (.getfield 18, 3) := by decide +kernel
theorem dX1_renew_22 : decode cX1_renew 22 = .ok (.iload_n 3, 1) := by decide +kernel
theorem dX1_renew_23 : decode cX1_renew 23 = .ok (.lconst 0, 1) := by decide +kernel
theorem dX1_renew_24 : decode cX1_renew 24 = .ok (.lastore, 1) := by decide +kernel
theorem dX1_renew_25 : decode cX1_renew 25 = .ok (.iinc 3 1, 3) := by decide +kernel
theorem dX1_renew_28 : decode cX1_renew 28 = .ok (.goto (-16), 3) := by decide +kernel
theorem dX1_renew_31 : decode cX1_renew 31 = .ok (.return_, 1) := by decide +kernel
theorem dX1_put_0 : decode cX1_put 0 = .ok (.aload_n 0, 1) := by decide +kernel
theorem dX1_put_1 : decode cX1_put 1 = .ok (.getfield 18, 3) := by decide +kernel
theorem dX1_put_4 : decode cX1_put 4 = .ok (.iload_n 1, 1) := by decide +kernel
theorem dX1_put_5 : decode cX1_put 5 = .ok (.aload_n 0, 1) := by decide +kernel
theorem dX1_put_6 : decode cX1_put 6 = .ok (.getfield 9, 3) := by decide +kernel
theorem dX1_put_9 : decode cX1_put 9 = .ok (.bipush 8, 2) := by decide +kernel
theorem dX1_put_11 : decode cX1_put 11 = .ok (.if_icmp .ne 10, 3) := by decide +kernel
theorem dX1_put_14 : decode cX1_put 14 = .ok (.lload_n 2, 1) := by decide +kernel
theorem dX1_put_15 : decode cX1_put 15 = .ok (.l2i, 1) := by decide +kernel
theorem dX1_put_16 : decode cX1_put 16 = .ok (.i2b, 1) := by decide +kernel
theorem dX1_put_17 : decode cX1_put 17 = .ok (.i2l, 1) := by decide +kernel
theorem dX1_put_18 : decode cX1_put 18 = .ok (.goto 20, 3) := by decide +kernel
theorem dX1_put_21 : decode cX1_put 21 = .ok (.aload_n 0, 1) := by decide +kernel
theorem dX1_put_22 : decode cX1_put 22 = .ok (.getfield 9, 3) := by decide +kernel
theorem dX1_put_25 : decode cX1_put 25 = .ok (.bipush 16, 2) := by decide +kernel
theorem dX1_put_27 : decode cX1_put 27 = .ok (.if_icmp .ne 10, 3) := by decide +kernel
theorem dX1_put_30 : decode cX1_put 30 = .ok (.lload_n 2, 1) := by decide +kernel
theorem dX1_put_31 : decode cX1_put 31 = .ok (.l2i, 1) := by decide +kernel
theorem dX1_put_32 : decode cX1_put 32 = .ok (.i2s, 1) := by decide +kernel
theorem dX1_put_33 : decode cX1_put 33 = .ok (.i2l, 1) := by decide +kernel
theorem dX1_put_34 : decode cX1_put 34 = .ok (.goto 4, 3) := by decide +kernel
theorem dX1_put_37 : decode cX1_put 37 = .ok (.lload_n 2, 1) := by decide +kernel
theorem dX1_put_38 : decode cX1_put 38 = .ok (.lastore, 1) := by decide +kernel
theorem dX1_put_39 : decode cX1_put 39 = .ok (.return_, 1) := by decide +kernel
theorem dX1_hasRun_0 : decode cX1_hasRun 0 = .ok (.iload_n 1, 1) := by decide +kernel
theorem dX1_hasRun_1 : decode cX1_hasRun 1 = .ok (.ifCond .lt 29, 3) := by decide +kernel
theorem dX1_hasRun_4 : decode cX1_hasRun 4 = .ok (.iload_n 2, 1) := by decide +kernel
theorem dX1_hasRun_5 : decode cX1_hasRun 5 = .ok (.ifCond .lt 25, 3) := by decide +kernel
theorem dX1_hasRun_8 : decode cX1_hasRun 8 = .ok (.iload_n 1, 1) := by decide +kernel
theorem dX1_hasRun_9 : decode cX1_hasRun 9 = .ok (.aload_n 0, 1) := by decide +kernel
theorem dX1_hasRun_10 : decode cX1_hasRun 10 = .ok (.getfield 15, 3) := by decide +kernel
theorem dX1_hasRun_13 : decode cX1_hasRun 13 = .ok (.if_icmp .gt 17, 3) := by decide +kernel
theorem dX1_hasRun_16 : decode cX1_hasRun 16 = .ok (.iload_n 2, 1) := by decide +kernel
theorem dX1_hasRun_17 : decode cX1_hasRun 17 = .ok (.aload_n 0, 1) := by decide +kernel
theorem dX1_hasRun_18 : decode cX1_hasRun 18 = .ok (.getfield 15, 3) := by decide +kernel
theorem dX1_hasRun_21 : decode cX1_hasRun 21 = .ok (.iload_n 1, 1) := by decide +kernel
theorem dX1_hasRun_22 : decode cX1_hasRun 22 = .ok (.isub, 1) := by decide +kernel
theorem dX1_hasRun_23 : decode cX1_hasRun 23 = .ok (.if_icmp .gt 7, 3) := by decide +kernel
theorem dX1_hasRun_26 : decode cX1_hasRun 26 = .ok (.iconst 1, 1) := by decide +kernel
theorem dX1_hasRun_27 : decode cX1_hasRun 27 = .ok (.goto 4, 3) := by decide +kernel
theorem dX1_hasRun_30 : decode cX1_hasRun 30 = .ok (.iconst 0, 1) := by decide +kernel
theorem dX1_hasRun_31 : decode cX1_hasRun 31 = .ok (.ireturn, 1) := by decide +kernel
theorem dX2_init_0 : decode cX2_init 0 = .ok (.aload_n 0, 1) := by decide +kernel
theorem dX2_init_1 : decode cX2_init 1 = .ok (.invokespecial 3, 3) := by decide +kernel
theorem dX2_init_4 : decode cX2_init 4 = .ok (.aload_n 0, 1) := by decide +kernel
theorem dX2_init_5 : decode cX2_init 5 = .ok (.iconst 0, 1) := by decide +kernel
theorem dX2_init_6 : decode cX2_init 6 = .ok (.putfield 9, 3) := by decide +kernel
theorem dX2_init_9 : decode cX2_init 9 = .ok (.aload_n 0, 1) := by decide +kernel
theorem dX2_init_10 : decode cX2_init 10 = .ok (.bipush 120, 2) := by decide +kernel
theorem dX2_init_12 : decode cX2_init 12 = .ok (.newarray .int, 2) := by decide +kernel
theorem dX2_init_14 : decode cX2_init 14 = .ok (.putfield 15, 3) := by decide +kernel
theorem dX2_init_17 : decode cX2_init 17 = .ok (.aload_n 0, 1) := by decide +kernel
theorem dX2_init_18 : decode cX2_init 18 = .ok (.iconst 0, 1) := by decide +kernel
theorem dX2_init_19 : decode cX2_init 19 = .ok (.putfield 19, 3) := by decide +kernel
theorem dX2_init_22 : decode cX2_init 22 = .ok (.aload_n 0, 1) := by decide +kernel
theorem dX2_init_23 : decode cX2_init 23 = .ok (.iconst 0, 1) := by decide +kernel
theorem dX2_init_24 : decode cX2_init 24 = .ok (.putfield 22, 3) := by decide +kernel
theorem dX2_init_27 : decode cX2_init 27 = .ok (.aload_n 0, 1) := by decide +kernel
theorem dX2_init_28 : decode cX2_init 28 = .ok (.iconst 0, 1) := by decide +kernel
theorem dX2_init_29 : decode cX2_init 29 = .ok (.putfield 25, 3) := by decide +kernel
theorem dX2_init_32 : decode cX2_init 32 = .ok (.aload_n 0, 1) := by decide +kernel
theorem dX2_init_33 : decode cX2_init 33 = .ok (.iconst 0, 1) := by decide +kernel
theorem dX2_init_34 : decode cX2_init 34 = .ok (.putfield 28, 3) := by decide +kernel
theorem dX2_init_37 : decode cX2_init 37 = .ok (.return_, 1) := by decide +kernel
theorem dX2_append_0 : decode cX2_append 0 = .ok (.aload_n 0, 1) := by decide +kernel
theorem dX2_append_1 : decode cX2_append 1 = .ok (.getfield 15, 3) := by decide +kernel
theorem dX2_append_4 : decode cX2_append 4 = .ok (.aload_n 0, 1) := by decide +kernel
theorem dX2_append_5 : decode cX2_append 5 = .ok (.getfield 9, 3) := by decide +kernel
theorem dX2_append_8 : decode cX2_append 8 = .ok (.iload_n 1, 1) := by decide +kernel
theorem dX2_append_9 : decode cX2_append 9 = .ok (.iastore, 1) := by decide +kernel
theorem dX2_append_10 : decode cX2_append 10 = .ok (.aload_n 0, 1) := by decide +kernel
theorem dX2_append_11 : decode cX2_append 11 = .ok (.dup, 1) := by decide +kernel
theorem dX2_append_12 : decode cX2_append 12 = .ok (.getfield 9, 3) := by decide +kernel
theorem dX2_append_15 : decode cX2_append 15 = .ok (.iconst 1, 1) := by decide +kernel
theorem dX2_append_16 : decode cX2_append 16 = .ok (.iadd, 1) := by decide +kernel
theorem dX2_append_17 : decode cX2_append 17 = .ok (.putfield 9, 3) := by decide +kernel
theorem dX2_append_20 : decode cX2_append 20 = .ok (.return_, 1) := by decide +kernel
theorem dX2_tellTo_0 : decode cX2_tellTo 0 = .ok (.aload_n 0, 1) := by decide +kernel
theorem dX2_tellTo_1 : decode cX2_tellTo 1 = .ok (.iconst 0, 1) := by decide +kernel
theorem dX2_tellTo_2 : decode cX2_tellTo 2 = .ok (.putfield 19, 3) := by decide +kernel
theorem dX2_tellTo_5 : decode cX2_tellTo 5 = .ok (.iconst 1, 1) := by decide +kernel
theorem dX2_tellTo_6 : decode cX2_tellTo 6 = .ok (.istore_n 2, 1) := by decide +kernel
theorem dX2_tellTo_7 : decode cX2_tellTo 7 = .ok (.iload_n 2, 1) := by decide +kernel
theorem dX2_tellTo_8 : decode cX2_tellTo 8 = .ok (.bipush 120, 2) := by decide +kernel
theorem dX2_tellTo_10 : decode cX2_tellTo 10 = .ok (.if_icmp .gt 52, 3) := by decide +kernel
theorem dX2_tellTo_13 : decode cX2_tellTo 13 = .ok (.aload_n 0, 1) := by decide +kernel
theorem dX2_tellTo_14 : decode cX2_tellTo 14 = .ok (.invokevirtual 31, 3) := by decide +kernel
theorem dX2_tellTo_17 : decode cX2_tellTo 17 = .ok (.aload_n 0, 1) := by decide +kernel
theorem dX2_tellTo_18 : decode cX2_tellTo 18 = .ok (.aload_n 1, 1) := by decide +kernel
theorem dX2_tellTo_19 : decode cX2_tellTo 19 = .ok (.invokevirtual 34, 3) := by decide +kernel
theorem dX2_tellTo_22 : decode cX2_tellTo 22 = .ok (.ifCond .ne 10, 3) := by decide +kernel
theorem dX2_tellTo_25 : decode cX2_tellTo 25 = .ok (.iconst (-1), 1) := by decide +kernel
theorem dX2_tellTo_26 : decode cX2_tellTo 26 = .ok (.aload_n 0, 1) := by decide +kernel
theorem dX2_tellTo_27 : decode cX2_tellTo 27 = .ok (.getfield 25, 3) := by decide +kernel
theorem dX2_tellTo_30 : decode cX2_tellTo 30 = .ok (.isub, 1) := by decide +kernel
theorem dX2_tellTo_31 : decode cX2_tellTo 31 = .ok (.ireturn, 1) := by decide +kernel
theorem dX2_tellTo_32 : decode cX2_tellTo 32 = .ok (.aload_n 0, 1) := by decide +kernel
theorem dX2_tellTo_33 : decode cX2_tellTo 33 = .ok (.getfield 22, 3) := by decide +kernel
theorem dX2_tellTo_36 : decode cX2_tellTo 36 = .ok (.ifCond .ne 5, 3) := by decide +kernel
theorem dX2_tellTo_39 : decode cX2_tellTo 39 = .ok (.iload_n 2, 1) := by decide +kernel
theorem dX2_tellTo_40 : decode cX2_tellTo 40 = .ok (.ireturn, 1) := by decide +kernel
theorem dX2_tellTo_41 : decode cX2_tellTo 41 = .ok (.aload_n 0, 1) := by decide +kernel
theorem dX2_tellTo_42 : decode cX2_tellTo 42 = .ok (.getfield 22, 3) := by decide +kernel
theorem dX2_tellTo_45 : decode cX2_tellTo 45 = .ok (.iconst 3, 1) := by decide +kernel
theorem dX2_tellTo_46 : decode cX2_tellTo 46 = .ok (.if_icmp .eq 10, 3) := by decide +kernel
theorem dX2_tellTo_49 : decode cX2_tellTo 49 = .ok (.iconst (-1), 1) := by decide +kernel
theorem dX2_tellTo_50 : decode cX2_tellTo 50 = .ok (.aload_n 0, 1) := by decide +kernel
theorem dX2_tellTo_51 : decode cX2_tellTo 51 = .ok (.getfield 25, 3) := by decide +kernel
theorem dX2_tellTo_54 : decode cX2_tellTo 54 = .ok (.isub, 1) := by decide +kernel
theorem dX2_tellTo_55 : decode cX2_tellTo 55 = .ok (.ireturn, 1) := by decide +kernel
theorem dX2_tellTo_56 : decode cX2_tellTo 56 = .ok (.iinc 2 1, 3) := by decide +kernel
theorem dX2_tellTo_59 : decode cX2_tellTo 59 = .ok (.goto (-52), 3) := by decide +kernel
theorem dX2_tellTo_62 : decode cX2_tellTo 62 = .ok (.iconst (-1), 1) := by decide +kernel
theorem dX2_tellTo_63 : decode cX2_tellTo 63 = .ok (.aload_n 0, 1) := by decide +kernel
theorem dX2_tellTo_64 : decode cX2_tellTo 64 = .ok (.getfield 25, 3) := by decide +kernel
theorem dX2_tellTo_67 : decode cX2_tellTo 67 = .ok (.isub, 1) := by decide +kernel
theorem dX2_tellTo_68 : decode cX2_tellTo 68 = .ok (.ireturn, 1) := by decide +kernel
theorem dX2_takesItem_0 : decode cX2_takesItem 0 = .ok (.aload_n 0, 1) := by decide +kernel
theorem dX2_takesItem_1 : decode cX2_takesItem 1 = .ok (.ldc 38, 2) := by decide +kernel
theorem dX2_takesItem_3 : decode cX2_takesItem 3 = .ok (.invokevirtual 40, 3) := by decide +kernel
theorem dX2_takesItem_6 : decode cX2_takesItem 6 = .ok (.ifCond .eq 28, 3) := by decide +kernel
theorem dX2_takesItem_9 : decode cX2_takesItem 9 = .ok (.aload_n 0, 1) := by decide +kernel
theorem dX2_takesItem_10 : decode cX2_takesItem 10 = .ok (.iconst 0, 1) := by decide +kernel
theorem dX2_takesItem_11 : decode cX2_takesItem 11 = .ok (.iconst 4, 1) := by decide +kernel
theorem dX2_takesItem_12 : decode cX2_takesItem 12 = .ok (.invokevirtual 44, 3) := by decide +kernel
theorem dX2_takesItem_15 : decode cX2_takesItem 15 = .ok (.ifCond .ne 5, 3) := by decide +kernel
theorem dX2_takesItem_18 : decode cX2_takesItem 18 = .ok (.iconst 0, 1) := by decide +kernel
theorem dX2_takesItem_19 : decode cX2_takesItem 19 = .ok (.ireturn, 1) := by decide +kernel
theorem dX2_takesItem_20 : decode cX2_takesItem 20 = .ok (.aload_n 1, 1) := by decide +kernel
theorem dX2_takesItem_21 : decode cX2_takesItem 21 = .ok (.aload_n 0, 1) := by decide +kernel
theorem dX2_takesItem_22 : decode cX2_takesItem 22 = .ok (.getfield 28, 3) := by decide +kernel
theorem dX2_takesItem_25 : decode cX2_takesItem 25 = .ok (.putfield 48, 3) := by decide +kernel
theorem dX2_takesItem_28 : decode cX2_takesItem 28 = .ok (.aload_n 0, 1) := by decide +kernel
theorem dX2_takesItem_29 : decode cX2_takesItem 29 = .ok (.invokevirtual 31, 3) := by decide +kernel
theorem dX2_takesItem_32 : decode cX2_takesItem 32 = .ok (.iconst 1, 1) := by decide +kernel
theorem dX2_takesItem_33 : decode cX2_takesItem 33 = .ok (.ireturn, 1) := by decide +kernel
theorem dX2_takesItem_34 : decode cX2_takesItem 34 = .ok (.aload_n 0, 1) := by decide +kernel
theorem dX2_takesItem_35 : decode cX2_takesItem 35 = .ok (.ldc 52, 2) := by decide +kernel
theorem dX2_takesItem_37 : decode cX2_takesItem 37 = .ok (.invokevirtual 40, 3) := by decide +kernel
theorem dX2_takesItem_40 : decode cX2_takesItem 40 = .ok (.ifCond .eq 29, 3) := by decide +kernel
theorem dX2_takesItem_43 : decode cX2_takesItem 43 = .ok (.aload_n 0, 1) := by decide +kernel
theorem dX2_takesItem_44 : decode cX2_takesItem 44 = .ok (.iconst 1, 1) := by decide +kernel
theorem dX2_takesItem_45 : decode cX2_takesItem 45 = .ok (.bipush 99, 2) := by decide +kernel
theorem dX2_takesItem_47 : decode cX2_takesItem 47 = .ok (.invokevirtual 44, 3) := by decide +kernel
theorem dX2_takesItem_50 : decode cX2_takesItem 50 = .ok (.ifCond .ne 5, 3) := by decide +kernel
theorem dX2_takesItem_53 : decode cX2_takesItem 53 = .ok (.iconst 0, 1) := by decide +kernel
theorem dX2_takesItem_54 : decode cX2_takesItem 54 = .ok (.ireturn, 1) := by decide +kernel
theorem dX2_takesItem_55 : decode cX2_takesItem 55 = .ok (.aload_n 1, 1) := by decide +kernel
theorem dX2_takesItem_56 : decode cX2_takesItem 56 = .ok (.aload_n 0, 1) := by decide +kernel
theorem dX2_takesItem_57 : decode cX2_takesItem 57 = .ok (.getfield 28, 3) := by decide +kernel
theorem dX2_takesItem_60 : decode cX2_takesItem 60 = .ok (.putfield 54, 3) := by decide +kernel
theorem dX2_takesItem_63 : decode cX2_takesItem 63 = .ok (.aload_n 0, 1) := by decide +kernel
theorem dX2_takesItem_64 : decode cX2_takesItem 64 = .ok (.invokevirtual 31, 3) := by decide +kernel
theorem dX2_takesItem_67 : decode cX2_takesItem 67 = .ok (.iconst 1, 1) := by decide +kernel
theorem dX2_takesItem_68 : decode cX2_takesItem 68 = .ok (.ireturn, 1) := by decide +kernel
theorem dX2_takesItem_69 : decode cX2_takesItem 69 = .ok (.aload_n 0, 1) := by decide +kernel
theorem dX2_takesItem_70 : decode cX2_takesItem 70 = .ok (.aload_n 1, 1) := by decide +kernel
theorem dX2_takesItem_71 : decode cX2_takesItem 71 = .ok (.invokevirtual 56, 3) := by decide +kernel
theorem dX2_takesItem_74 : decode cX2_takesItem 74 = .ok (.ireturn, 1) := by decide +kernel
theorem dX2_takesPerson_0 : decode cX2_takesPerson 0 = .ok (.aload_n 0, 1) := by decide +kernel
theorem dX2_takesPerson_1 : decode cX2_takesPerson 1 = .ok (.invokevirtual 59, 3) := by decide +kernel
theorem dX2_takesPerson_4 : decode cX2_takesPerson 4 = .ok (.istore_n 2, 1) := by decide +kernel
theorem dX2_takesPerson_5 : decode cX2_takesPerson 5 = .ok (.iload_n 2, 1) := by decide +kernel
theorem dX2_takesPerson_6 : decode cX2_takesPerson 6 = .ok (.ifCond .lt 12, 3) := by decide +kernel
theorem dX2_takesPerson_9 : decode cX2_takesPerson 9 = .ok (.aload_n 1, 1) := by decide +kernel
theorem dX2_takesPerson_10 : decode cX2_takesPerson 10 = .ok (.getfield 63, 3) := by decide +kernel
theorem dX2_takesPerson_13 : decode cX2_takesPerson 13 = .ok (.bipush 8, 2) := by decide +kernel
theorem dX2_takesPerson_15 : decode cX2_takesPerson 15 = .ok (.if_icmp .lt 5, 3) := by decide +kernel
theorem dX2_takesPerson_18 : decode cX2_takesPerson 18 = .ok (.iconst 0, 1) := by decide +kernel
theorem dX2_takesPerson_19 : decode cX2_takesPerson 19 = .ok (.ireturn, 1) := by decide +kernel
theorem dX2_takesPerson_20 : decode cX2_takesPerson 20 = .ok (.aload_n 0, 1) := by decide +kernel
theorem dX2_takesPerson_21 : decode cX2_takesPerson 21 = .ok (.invokevirtual 31, 3) := by decide +kernel
theorem dX2_takesPerson_24 : decode cX2_takesPerson 24 = .ok (.aload_n 0, 1) := by decide +kernel
theorem dX2_takesPerson_25 : decode cX2_takesPerson 25 = .ok (.ldc 66, 2) := by decide +kernel
theorem dX2_takesPerson_27 : decode cX2_takesPerson 27 = .ok (.invokevirtual 40, 3) := by decide +kernel
theorem dX2_takesPerson_30 : decode cX2_takesPerson 30 = .ok (.ifCond .eq 13, 3) := by decide +kernel
theorem dX2_takesPerson_33 : decode cX2_takesPerson 33 = .ok (.aload_n 0, 1) := by decide +kernel
theorem dX2_takesPerson_34 : decode cX2_takesPerson 34 = .ok (.iconst 0, 1) := by decide +kernel
theorem dX2_takesPerson_35 : decode cX2_takesPerson 35 = .ok (.bipush 47, 2) := by decide +kernel
theorem dX2_takesPerson_37 : decode cX2_takesPerson 37 = .ok (.invokevirtual 44, 3) := by decide +kernel
theorem dX2_takesPerson_40 : decode cX2_takesPerson 40 = .ok (.ifCond .ne 5, 3) := by decide +kernel
theorem dX2_takesPerson_43 : decode cX2_takesPerson 43 = .ok (.iconst 0, 1) := by decide +kernel
theorem dX2_takesPerson_44 : decode cX2_takesPerson 44 = .ok (.ireturn, 1) := by decide +kernel
theorem dX2_takesPerson_45 : decode cX2_takesPerson 45 = .ok (.aload_n 1, 1) := by decide +kernel
theorem dX2_takesPerson_46 : decode cX2_takesPerson 46 = .ok (.iload_n 2, 1) := by decide +kernel
theorem dX2_takesPerson_47 : decode cX2_takesPerson 47 = .ok (.aload_n 0, 1) := by decide +kernel
theorem dX2_takesPerson_48 : decode cX2_takesPerson 48 = .ok (.getfield 28, 3) := by decide +kernel
theorem dX2_takesPerson_51 : decode cX2_takesPerson 51 = .ok (.invokevirtual 68, 3) := by decide +kernel
theorem dX2_takesPerson_54 : decode cX2_takesPerson 54 = .ok (.istore_n 3, 1) := by decide +kernel
theorem dX2_takesPerson_55 : decode cX2_takesPerson 55 = .ok (.aload_n 0, 1) := by decide +kernel
theorem dX2_takesPerson_56 : decode cX2_takesPerson 56 = .ok (.invokevirtual 31, 3) := by decide +kernel
theorem dX2_takesPerson_59 : decode cX2_takesPerson 59 = .ok (.aload_n 0, 1) := by decide +kernel
theorem dX2_takesPerson_60 : decode cX2_takesPerson 60 = .ok (.ldc 72, 2) := by decide +kernel
theorem dX2_takesPerson_62 : decode cX2_takesPerson 62 = .ok (.invokevirtual 40, 3) := by decide +kernel
theorem dX2_takesPerson_65 : decode cX2_takesPerson 65 = .ok (.ifCond .eq 29, 3) := by decide +kernel
theorem dX2_takesPerson_68 : decode cX2_takesPerson 68 = .ok (.aload_n 0, 1) := by decide +kernel
theorem dX2_takesPerson_69 : decode cX2_takesPerson 69 = .ok (.iconst 0, 1) := by decide +kernel
theorem dX2_takesPerson_70 : decode cX2_takesPerson 70 = .ok (.bipush 9, 2) := by decide +kernel
theorem dX2_takesPerson_72 : decode cX2_takesPerson 72 = .ok (.invokevirtual 44, 3) := by decide +kernel
theorem dX2_takesPerson_75 : decode cX2_takesPerson 75 = .ok (.ifCond .ne 5, 3) := by decide +kernel
theorem dX2_takesPerson_78 : decode cX2_takesPerson 78 = .ok (.iconst 0, 1) := by decide +kernel
theorem dX2_takesPerson_79 : decode cX2_takesPerson 79 = .ok (.ireturn, 1) := by decide +kernel
theorem dX2_takesPerson_80 : decode cX2_takesPerson 80 = .ok (.aload_n 1, 1) := by decide +kernel
theorem dX2_takesPerson_81 : decode cX2_takesPerson 81 = .ok (.getfield 74, 3) := by decide +kernel
theorem dX2_takesPerson_84 : decode cX2_takesPerson 84 = .ok (.iload_n 3, 1) := by decide +kernel
theorem dX2_takesPerson_85 : decode cX2_takesPerson 85 = .ok (.aload_n 0, 1) := by decide +kernel
theorem dX2_takesPerson_86 : decode cX2_takesPerson 86 = .ok (.getfield 28, 3) := by decide +kernel
theorem dX2_takesPerson_89 : decode cX2_takesPerson 89 = .ok (.iastore, 1) := by decide +kernel
theorem dX2_takesPerson_90 : decode cX2_takesPerson 90 = .ok (.aload_n 0, 1) := by decide +kernel
theorem dX2_takesPerson_91 : decode cX2_takesPerson 91 = .ok (.invokevirtual 31, 3) := by decide +kernel
theorem dX2_takesPerson_94 : decode cX2_takesPerson 94 = .ok (.aload_n 0, 1) := by decide +kernel
theorem dX2_takesPerson_95 : decode cX2_takesPerson 95 = .ok (.ldc 77, 2) := by decide +kernel
theorem dX2_takesPerson_97 : decode cX2_takesPerson 97 = .ok (.invokevirtual 40, 3) := by decide +kernel
theorem dX2_takesPerson_100 : decode cX2_takesPerson 100 = .ok (.ifCond .eq 14, 3) := by decide +kernel
theorem dX2_takesPerson_103 : decode cX2_takesPerson 103 = .ok (.aload_n 1, 1) := by decide +kernel
theorem dX2_takesPerson_104 : decode cX2_takesPerson 104 = .ok (.getfield 79, 3) := by decide +kernel
theorem dX2_takesPerson_107 : decode cX2_takesPerson 107 = .ok (.iload_n 3, 1) := by decide +kernel
theorem dX2_takesPerson_108 : decode cX2_takesPerson 108 = .ok (.iconst 1, 1) := by decide +kernel
theorem dX2_takesPerson_109 : decode cX2_takesPerson 109 = .ok (.iastore, 1) := by decide +kernel
theorem dX2_takesPerson_110 : decode cX2_takesPerson 110 = .ok (.aload_n 0, 1) := by decide +kernel
theorem dX2_takesPerson_111 : decode cX2_takesPerson 111 = .ok (.invokevirtual 31, 3) := by decide +kernel
theorem dX2_takesPerson_114 : decode cX2_takesPerson 114 = .ok (.aload_n 0, 1) := by decide +kernel
theorem dX2_takesPerson_115 : decode cX2_takesPerson 115 = .ok (.ldc 82, 2) := by decide +kernel
theorem dX2_takesPerson_117 : decode cX2_takesPerson 117 = .ok (.invokevirtual 40, 3) := by decide +kernel
theorem dX2_takesPerson_120 : decode cX2_takesPerson 120 = .ok (.ifCond .eq 12, 3) := by decide +kernel
theorem dX2_takesPerson_123 : decode cX2_takesPerson 123 = .ok (.aload_n 0, 1) := by decide +kernel
theorem dX2_takesPerson_124 : decode cX2_takesPerson 124 = .ok (.aload_n 1, 1) := by decide +kernel
theorem dX2_takesPerson_125 : decode cX2_takesPerson 125 = .ok (.iload_n 3, 1) := by decide +kernel
theorem dX2_takesPerson_126 : decode cX2_takesPerson 126 = .ok (.invokevirtual 84, 3) := by decide +kernel
theorem dX2_takesPerson_129 : decode cX2_takesPerson 129 = .ok (.ifCond .eq 7, 3) := by decide +kernel
theorem dX2_takesPerson_132 : decode cX2_takesPerson 132 = .ok (.iconst 1, 1) := by decide +kernel
theorem dX2_takesPerson_133 : decode cX2_takesPerson 133 = .ok (.goto 4, 3) := by decide +kernel
theorem dX2_takesPerson_136 : decode cX2_takesPerson 136 = .ok (.iconst 0, 1) := by decide +kernel
theorem dX2_takesPerson_137 : decode cX2_takesPerson 137 = .ok (.ireturn, 1) := by decide +kernel
theorem dX2_takesDeed_0 : decode cX2_takesDeed 0 = .ok (.aload_n 0, 1) := by decide +kernel
theorem dX2_takesDeed_1 : decode cX2_takesDeed 1 = .ok (.iconst 0, 1) := by decide +kernel
theorem dX2_takesDeed_2 : decode cX2_takesDeed 2 = .ok (.iconst 5, 1) := by decide +kernel
theorem dX2_takesDeed_3 : decode cX2_takesDeed 3 = .ok (.invokevirtual 44, 3) := by decide +kernel
theorem dX2_takesDeed_6 : decode cX2_takesDeed 6 = .ok (.ifCond .ne 5, 3) := by decide +kernel
theorem dX2_takesDeed_9 : decode cX2_takesDeed 9 = .ok (.iconst 0, 1) := by decide +kernel
theorem dX2_takesDeed_10 : decode cX2_takesDeed 10 = .ok (.ireturn, 1) := by decide +kernel
theorem dX2_takesDeed_11 : decode cX2_takesDeed 11 = .ok (.aload_n 0, 1) := by decide +kernel
theorem dX2_takesDeed_12 : decode cX2_takesDeed 12 = .ok (.getfield 28, 3) := by decide +kernel
theorem dX2_takesDeed_15 : decode cX2_takesDeed 15 = .ok (.istore_n 3, 1) := by decide +kernel
theorem dX2_takesDeed_16 : decode cX2_takesDeed 16 = .ok (.aload_n 0, 1) := by decide +kernel
theorem dX2_takesDeed_17 : decode cX2_takesDeed 17 = .ok (.iconst 0, 1) := by decide +kernel
theorem dX2_takesDeed_18 : decode cX2_takesDeed 18 = .ok (.bipush 99, 2) := by decide +kernel
theorem dX2_takesDeed_20 : decode cX2_takesDeed 20 = .ok (.invokevirtual 44, 3) := by decide +kernel
theorem dX2_takesDeed_23 : decode cX2_takesDeed 23 = .ok (.ifCond .ne 5, 3) := by decide +kernel
theorem dX2_takesDeed_26 : decode cX2_takesDeed 26 = .ok (.iconst 0, 1) := by decide +kernel
theorem dX2_takesDeed_27 : decode cX2_takesDeed 27 = .ok (.ireturn, 1) := by decide +kernel
theorem dX2_takesDeed_28 : decode cX2_takesDeed 28 = .ok (.aload_n 1, 1) := by decide +kernel
theorem dX2_takesDeed_29 : decode cX2_takesDeed 29 = .ok (.getfield 88, 3) := by decide +kernel
theorem dX2_takesDeed_32 : decode cX2_takesDeed 32 = .ok (.iload_n 3, 1) := by decide +kernel
theorem dX2_takesDeed_33 : decode cX2_takesDeed 33 = .ok (.aaload, 1) := by decide +kernel
theorem dX2_takesDeed_34 : decode cX2_takesDeed 34 = .ok (.iload_n 2, 1) := by decide +kernel
theorem dX2_takesDeed_35 : decode cX2_takesDeed 35 = .ok (.aload_n 0, 1) := by decide +kernel
theorem dX2_takesDeed_36 : decode cX2_takesDeed 36 = .ok (.getfield 28, 3) := by decide +kernel
theorem dX2_takesDeed_39 : decode cX2_takesDeed 39 = .ok (.iastore, 1) := by decide +kernel
theorem dX2_takesDeed_40 : decode cX2_takesDeed 40 = .ok (.aload_n 0, 1) := by decide +kernel
theorem dX2_takesDeed_41 : decode cX2_takesDeed 41 = .ok (.invokevirtual 31, 3) := by decide +kernel
theorem dX2_takesDeed_44 : decode cX2_takesDeed 44 = .ok (.iconst 1, 1) := by decide +kernel
theorem dX2_takesDeed_45 : decode cX2_takesDeed 45 = .ok (.ireturn, 1) := by decide +kernel
theorem dX2_takesNumber_0 : decode cX2_takesNumber 0 = .ok (.aload_n 0, 1) := by decide +kernel
theorem dX2_takesNumber_1 : decode cX2_takesNumber 1 = .ok (.invokevirtual 31, 3) := by decide +kernel
theorem dX2_takesNumber_4 : decode cX2_takesNumber 4 = .ok (.aload_n 0, 1) := by decide +kernel
theorem dX2_takesNumber_5 : decode cX2_takesNumber 5 = .ok (.getfield 22, 3) := by decide +kernel
theorem dX2_takesNumber_8 : decode cX2_takesNumber 8 = .ok (.iconst 2, 1) := by decide +kernel
theorem dX2_takesNumber_9 : decode cX2_takesNumber 9 = .ok (.if_icmp .ne 23, 3) := by decide +kernel
theorem dX2_takesNumber_12 : decode cX2_takesNumber 12 = .ok (.aload_n 0, 1) := by decide +kernel
theorem dX2_takesNumber_13 : decode cX2_takesNumber 13 = .ok (.getfield 28, 3) := by decide +kernel
theorem dX2_takesNumber_16 : decode cX2_takesNumber 16 = .ok (.iload_n 1, 1) := by decide +kernel
theorem dX2_takesNumber_17 : decode cX2_takesNumber 17 = .ok (.if_icmp .lt 15, 3) := by decide +kernel
theorem dX2_takesNumber_20 : decode cX2_takesNumber 20 = .ok (.aload_n 0, 1) := by decide +kernel
theorem dX2_takesNumber_21 : decode cX2_takesNumber 21 = .ok (.getfield 28, 3) := by decide +kernel
theorem dX2_takesNumber_24 : decode cX2_takesNumber 24 = .ok (.iload_n 2, 1) := by decide +kernel
theorem dX2_takesNumber_25 : decode cX2_takesNumber 25 = .ok (.if_icmp .gt 7, 3) := by decide +kernel
theorem dX2_takesNumber_28 : decode cX2_takesNumber 28 = .ok (.iconst 1, 1) := by decide +kernel
theorem dX2_takesNumber_29 : decode cX2_takesNumber 29 = .ok (.goto 4, 3) := by decide +kernel
theorem dX2_takesNumber_32 : decode cX2_takesNumber 32 = .ok (.iconst 0, 1) := by decide +kernel
theorem dX2_takesNumber_33 : decode cX2_takesNumber 33 = .ok (.ireturn, 1) := by decide +kernel
theorem dX2_kindNamed_0 : decode cX2_kindNamed 0 = .ok (.iconst 0, 1) := by decide +kernel
theorem dX2_kindNamed_1 : decode cX2_kindNamed 1 = .ok (.istore_n 1, 1) := by decide +kernel
theorem dX2_kindNamed_2 : decode cX2_kindNamed 2 = .ok (.iload_n 1, 1) := by decide +kernel
theorem dX2_kindNamed_3 : decode cX2_kindNamed 3 = .ok (.bipush 6, 2) := by decide +kernel
theorem dX2_kindNamed_5 : decode cX2_kindNamed 5 = .ok (.if_icmp .ge 22, 3) := by decide +kernel
theorem dX2_kindNamed_8 : decode cX2_kindNamed 8 = .ok (.aload_n 0, 1) := by decide +kernel
theorem dX2_kindNamed_9 : decode cX2_kindNamed 9 = .ok (.iload_n 1, 1) := by decide +kernel
theorem dX2_kindNamed_10 : decode cX2_kindNamed 10 = .ok (.invokestatic 92, 3) := by decide +kernel
theorem dX2_kindNamed_13 : decode cX2_kindNamed 13 = .ok (.invokevirtual 40, 3) := by decide +kernel
theorem dX2_kindNamed_16 : decode cX2_kindNamed 16 = .ok (.ifCond .eq 5, 3) := by decide +kernel
theorem dX2_kindNamed_19 : decode cX2_kindNamed 19 = .ok (.iload_n 1, 1) := by decide +kernel
theorem dX2_kindNamed_20 : decode cX2_kindNamed 20 = .ok (.ireturn, 1) := by decide +kernel
theorem dX2_kindNamed_21 : decode cX2_kindNamed 21 = .ok (.iinc 1 1, 3) := by decide +kernel
theorem dX2_kindNamed_24 : decode cX2_kindNamed 24 = .ok (.goto (-22), 3) := by decide +kernel
theorem dX2_kindNamed_27 : decode cX2_kindNamed 27 = .ok (.iconst (-1), 1) := by decide +kernel
theorem dX2_kindNamed_28 : decode cX2_kindNamed 28 = .ok (.ireturn, 1) := by decide +kernel
theorem dX2_nameOf_0 : decode cX2_nameOf 0 = .ok (.iload_n 0, 1) := by decide +kernel
theorem dX2_nameOf_1 : decode cX2_nameOf 1 = .ok (.tableswitch 50 1 5 #[35, 38, 41, 44, 47], 35) := by decide +kernel
theorem dX2_nameOf_36 : decode cX2_nameOf 36 = .ok (.ldc 96, 2) := by decide +kernel
theorem dX2_nameOf_38 : decode cX2_nameOf 38 = .ok (.areturn, 1) := by decide +kernel
theorem dX2_nameOf_39 : decode cX2_nameOf 39 = .ok (.ldc 98, 2) := by decide +kernel
theorem dX2_nameOf_41 : decode cX2_nameOf 41 = .ok (.areturn, 1) := by decide +kernel
theorem dX2_nameOf_42 : decode cX2_nameOf 42 = .ok (.ldc 100, 2) := by decide +kernel
theorem dX2_nameOf_44 : decode cX2_nameOf 44 = .ok (.areturn, 1) := by decide +kernel
theorem dX2_nameOf_45 : decode cX2_nameOf 45 = .ok (.ldc 102, 2) := by decide +kernel
theorem dX2_nameOf_47 : decode cX2_nameOf 47 = .ok (.areturn, 1) := by decide +kernel
theorem dX2_nameOf_48 : decode cX2_nameOf 48 = .ok (.ldc 104, 2) := by decide +kernel
theorem dX2_nameOf_50 : decode cX2_nameOf 50 = .ok (.areturn, 1) := by decide +kernel
theorem dX2_nameOf_51 : decode cX2_nameOf 51 = .ok (.ldc 106, 2) := by decide +kernel
theorem dX2_nameOf_53 : decode cX2_nameOf 53 = .ok (.areturn, 1) := by decide +kernel
theorem dX2_isWord_0 : decode cX2_isWord 0 = .ok (.aload_n 0, 1) := by decide +kernel
theorem dX2_isWord_1 : decode cX2_isWord 1 = .ok (.getfield 22, 3) := by decide +kernel
theorem dX2_isWord_4 : decode cX2_isWord 4 = .ok (.iconst 1, 1) := by decide +kernel
theorem dX2_isWord_5 : decode cX2_isWord 5 = .ok (.if_icmp .ne 19, 3) := by decide +kernel
theorem dX2_isWord_8 : decode cX2_isWord 8 = .ok (.aload_n 0, 1) := by decide +kernel
theorem dX2_isWord_9 : decode cX2_isWord 9 = .ok (.getfield 19, 3) := by decide +kernel
theorem dX2_isWord_12 : decode cX2_isWord 12 = .ok (.aload_n 0, 1) := by decide +kernel
theorem dX2_isWord_13 : decode cX2_isWord 13 = .ok (.getfield 25, 3) := by decide +kernel
theorem dX2_isWord_16 : decode cX2_isWord 16 = .ok (.isub, 1) := by decide +kernel
theorem dX2_isWord_17 : decode cX2_isWord 17 = .ok (.aload_n 1, 1) := by decide +kernel
theorem dX2_isWord_18 : decode cX2_isWord 18 = .ok (.invokevirtual 108, 3) := by decide +kernel
theorem dX2_isWord_21 : decode cX2_isWord 21 = .ok (.if_icmp .eq 5, 3) := by decide +kernel
theorem dX2_isWord_24 : decode cX2_isWord 24 = .ok (.iconst 0, 1) := by decide +kernel
theorem dX2_isWord_25 : decode cX2_isWord 25 = .ok (.ireturn, 1) := by decide +kernel
theorem dX2_isWord_26 : decode cX2_isWord 26 = .ok (.iconst 0, 1) := by decide +kernel
theorem dX2_isWord_27 : decode cX2_isWord 27 = .ok (.istore_n 2, 1) := by decide +kernel
theorem dX2_isWord_28 : decode cX2_isWord 28 = .ok (.iload_n 2, 1) := by decide +kernel
theorem dX2_isWord_29 : decode cX2_isWord 29 = .ok (.aload_n 1, 1) := by decide +kernel
theorem dX2_isWord_30 : decode cX2_isWord 30 = .ok (.invokevirtual 108, 3) := by decide +kernel
theorem dX2_isWord_33 : decode cX2_isWord 33 = .ok (.if_icmp .ge 30, 3) := by decide +kernel
theorem dX2_isWord_36 : decode cX2_isWord 36 = .ok (.aload_n 0, 1) := by decide +kernel
theorem dX2_isWord_37 : decode cX2_isWord 37 = .ok (.getfield 15, 3) := by decide +kernel
theorem dX2_isWord_40 : decode cX2_isWord 40 = .ok (.aload_n 0, 1) := by decide +kernel
theorem dX2_isWord_41 : decode cX2_isWord 41 = .ok (.getfield 25, 3) := by decide +kernel
theorem dX2_isWord_44 : decode cX2_isWord 44 = .ok (.iload_n 2, 1) := by decide +kernel
theorem dX2_isWord_45 : decode cX2_isWord 45 = .ok (.iadd, 1) := by decide +kernel
theorem dX2_isWord_46 : decode cX2_isWord 46 = .ok (.iaload, 1) := by decide +kernel
theorem dX2_isWord_47 : decode cX2_isWord 47 = .ok (.aload_n 1, 1) := by decide +kernel
theorem dX2_isWord_48 : decode cX2_isWord 48 = .ok (.iload_n 2, 1) := by decide +kernel
theorem dX2_isWord_49 : decode cX2_isWord 49 = .ok (.invokevirtual 112, 3) := by decide +kernel
theorem dX2_isWord_52 : decode cX2_isWord 52 = .ok (.if_icmp .eq 5, 3) := by decide +kernel
theorem dX2_isWord_55 : decode cX2_isWord 55 = .ok (.iconst 0, 1) := by decide +kernel
theorem dX2_isWord_56 : decode cX2_isWord 56 = .ok (.ireturn, 1) := by decide +kernel
theorem dX2_isWord_57 : decode cX2_isWord 57 = .ok (.iinc 2 1, 3) := by decide +kernel
theorem dX2_isWord_60 : decode cX2_isWord 60 = .ok (.goto (-32), 3) := by decide +kernel
theorem dX2_isWord_63 : decode cX2_isWord 63 = .ok (.iconst 1, 1) := by decide +kernel
theorem dX2_isWord_64 : decode cX2_isWord 64 = .ok (.ireturn, 1) := by decide +kernel
theorem dX2_step_0 : decode cX2_step 0 = .ok (.aload_n 0, 1) := by decide +kernel
theorem dX2_step_1 : decode cX2_step 1 = .ok (.getfield 19, 3) := by decide +kernel
theorem dX2_step_4 : decode cX2_step 4 = .ok (.aload_n 0, 1) := by decide +kernel
theorem dX2_step_5 : decode cX2_step 5 = .ok (.getfield 9, 3) := by decide +kernel
theorem dX2_step_8 : decode cX2_step 8 = .ok (.if_icmp .ge 30, 3) := by decide +kernel
theorem dX2_step_11 : decode cX2_step 11 = .ok (.aload_n 0, 1) := by decide +kernel
theorem dX2_step_12 : decode cX2_step 12 = .ok (.getfield 15, 3) := by decide +kernel
theorem dX2_step_15 : decode cX2_step 15 = .ok (.aload_n 0, 1) := by decide +kernel
theorem dX2_step_16 : decode cX2_step 16 = .ok (.getfield 19, 3) := by decide +kernel
theorem dX2_step_19 : decode cX2_step 19 = .ok (.iaload, 1) := by decide +kernel
theorem dX2_step_20 : decode cX2_step 20 = .ok (.bipush 32, 2) := by decide +kernel
theorem dX2_step_22 : decode cX2_step 22 = .ok (.if_icmp .ne 16, 3) := by decide +kernel
theorem dX2_step_25 : decode cX2_step 25 = .ok (.aload_n 0, 1) := by decide +kernel
theorem dX2_step_26 : decode cX2_step 26 = .ok (.dup, 1) := by decide +kernel
theorem dX2_step_27 : decode cX2_step 27 = .ok (.getfield 19, 3) := by decide +kernel
theorem dX2_step_30 : decode cX2_step 30 = .ok (.iconst 1, 1) := by decide +kernel
theorem dX2_step_31 : decode cX2_step 31 = .ok (.iadd, 1) := by decide +kernel
theorem dX2_step_32 : decode cX2_step 32 = .ok (.putfield 19, 3) := by decide +kernel
theorem dX2_step_35 : decode cX2_step 35 = .ok (.goto (-35), 3) := by decide +kernel
theorem dX2_step_38 : decode cX2_step 38 = .ok (.aload_n 0, 1) := by decide +kernel
theorem dX2_step_39 : decode cX2_step 39 = .ok (.aload_n 0, 1) := by decide +kernel
theorem dX2_step_40 : decode cX2_step 40 = .ok (.getfield 19, 3) := by decide +kernel
theorem dX2_step_43 : decode cX2_step 43 = .ok (.putfield 25, 3) := by decide +kernel
theorem dX2_step_46 : decode cX2_step 46 = .ok (.aload_n 0, 1) := by decide +kernel
theorem dX2_step_47 : decode cX2_step 47 = .ok (.getfield 19, 3) := by decide +kernel
theorem dX2_step_50 : decode cX2_step 50 = .ok (.aload_n 0, 1) := by decide +kernel
theorem dX2_step_51 : decode cX2_step 51 = .ok (.getfield 9, 3) := by decide +kernel
theorem dX2_step_54 : decode cX2_step 54 = .ok (.if_icmp .lt 11, 3) := by decide +kernel
theorem dX2_step_57 : decode cX2_step 57 = .ok (.aload_n 0, 1) := by decide +kernel
theorem dX2_step_58 : decode cX2_step 58 = .ok (.iconst 0, 1) := by decide +kernel
theorem dX2_step_59 : decode cX2_step 59 = .ok (.putfield 22, 3) := by decide +kernel
theorem dX2_step_62 : decode cX2_step 62 = .ok (.goto 90, 3) := by decide +kernel
theorem dX2_step_65 : decode cX2_step 65 = .ok (.aload_n 0, 1) := by decide +kernel
theorem dX2_step_66 : decode cX2_step 66 = .ok (.getfield 15, 3) := by decide +kernel
theorem dX2_step_69 : decode cX2_step 69 = .ok (.aload_n 0, 1) := by decide +kernel
theorem dX2_step_70 : decode cX2_step 70 = .ok (.getfield 19, 3) := by decide +kernel
theorem dX2_step_73 : decode cX2_step 73 = .ok (.iaload, 1) := by decide +kernel
theorem dX2_step_74 : decode cX2_step 74 = .ok (.invokestatic 116, 3) := by decide +kernel
theorem dX2_step_77 : decode cX2_step 77 = .ok (.ifCond .eq 15, 3) := by decide +kernel
theorem dX2_step_80 : decode cX2_step 80 = .ok (.aload_n 0, 1) := by decide +kernel
theorem dX2_step_81 : decode cX2_step 81 = .ok (.iconst 1, 1) := by decide +kernel
theorem dX2_step_82 : decode cX2_step 82 = .ok (.putfield 22, 3) := by decide +kernel
theorem dX2_step_85 : decode cX2_step 85 = .ok (.aload_n 0, 1) := by decide +kernel
theorem dX2_step_86 : decode cX2_step 86 = .ok (.invokevirtual 120, 3) := by decide +kernel
theorem dX2_step_89 : decode cX2_step 89 = .ok (.goto 63, 3) := by decide +kernel
theorem dX2_step_92 : decode cX2_step 92 = .ok (.aload_n 0, 1) := by decide +kernel
theorem dX2_step_93 : decode cX2_step 93 = .ok (.getfield 15, 3) := by decide +kernel
theorem dX2_step_96 : decode cX2_step 96 = .ok (.aload_n 0, 1) := by decide +kernel
theorem dX2_step_97 : decode cX2_step 97 = .ok (.getfield 19, 3) := by decide +kernel
theorem dX2_step_100 : decode cX2_step 100 = .ok (.iaload, 1) := by decide +kernel
theorem dX2_step_101 : decode cX2_step 101 = .ok (.invokestatic 123, 3) := by decide +kernel
theorem dX2_step_104 : decode cX2_step 104 = .ok (.ifCond .eq 15, 3) := by decide +kernel
theorem dX2_step_107 : decode cX2_step 107 = .ok (.aload_n 0, 1) := by decide +kernel
theorem dX2_step_108 : decode cX2_step 108 = .ok (.iconst 2, 1) := by decide +kernel
theorem dX2_step_109 : decode cX2_step 109 = .ok (.putfield 22, 3) := by decide +kernel
theorem dX2_step_112 : decode cX2_step 112 = .ok (.aload_n 0, 1) := by decide +kernel
theorem dX2_step_113 : decode cX2_step 113 = .ok (.invokevirtual 126, 3) := by decide +kernel
theorem dX2_step_116 : decode cX2_step 116 = .ok (.goto 36, 3) := by decide +kernel
theorem dX2_step_119 : decode cX2_step 119 = .ok (.aload_n 0, 1) := by decide +kernel
theorem dX2_step_120 : decode cX2_step 120 = .ok (.aload_n 0, 1) := by decide +kernel
theorem dX2_step_121 : decode cX2_step 121 = .ok (.getfield 15, 3) := by decide +kernel
theorem dX2_step_124 : decode cX2_step 124 = .ok (.aload_n 0, 1) := by decide +kernel
theorem dX2_step_125 : decode cX2_step 125 = .ok (.getfield 19, 3) := by decide +kernel
theorem dX2_step_128 : decode cX2_step 128 = .ok (.iaload, 1) := by decide +kernel
theorem dX2_step_129 : decode cX2_step 129 = .ok (.bipush 59, 2) := by decide +kernel
theorem dX2_step_131 : decode cX2_step 131 = .ok (.if_icmp .ne 7, 3) := by decide +kernel
theorem dX2_step_134 : decode cX2_step 134 = .ok (.iconst 3, 1) := by decide +kernel
theorem dX2_step_135 : decode cX2_step 135 = .ok (.goto 4, 3) := by decide +kernel
theorem dX2_step_138 : decode cX2_step 138 = .ok (.iconst 4, 1) := by decide +kernel
theorem dX2_step_139 : decode cX2_step 139 = .ok (.putfield 22, 3) := by decide +kernel
theorem dX2_step_142 : decode cX2_step 142 = .ok (.aload_n 0, 1) := by decide +kernel
theorem dX2_step_143 : decode cX2_step 143 = .ok (.dup, 1) := by decide +kernel
theorem dX2_step_144 : decode cX2_step 144 = .ok (.getfield 19, 3) := by decide +kernel
theorem dX2_step_147 : decode cX2_step 147 = .ok (.iconst 1, 1) := by decide +kernel
theorem dX2_step_148 : decode cX2_step 148 = .ok (.iadd, 1) := by decide +kernel
theorem dX2_step_149 : decode cX2_step 149 = .ok (.putfield 19, 3) := by decide +kernel
theorem dX2_step_152 : decode cX2_step 152 = .ok (.return_, 1) := by decide +kernel
theorem dX2_passWord_0 : decode cX2_passWord 0 = .ok (.aload_n 0, 1) := by decide +kernel
theorem dX2_passWord_1 : decode cX2_passWord 1 = .ok (.getfield 19, 3) := by decide +kernel
theorem dX2_passWord_4 : decode cX2_passWord 4 = .ok (.aload_n 0, 1) := by decide +kernel
theorem dX2_passWord_5 : decode cX2_passWord 5 = .ok (.getfield 9, 3) := by decide +kernel
theorem dX2_passWord_8 : decode cX2_passWord 8 = .ok (.if_icmp .ge 31, 3) := by decide +kernel
theorem dX2_passWord_11 : decode cX2_passWord 11 = .ok (.aload_n 0, 1) := by decide +kernel
theorem dX2_passWord_12 : decode cX2_passWord 12 = .ok (.getfield 15, 3) := by decide +kernel
theorem dX2_passWord_15 : decode cX2_passWord 15 = .ok (.aload_n 0, 1) := by decide +kernel
theorem dX2_passWord_16 : decode cX2_passWord 16 = .ok (.getfield 19, 3) := by decide +kernel
theorem dX2_passWord_19 : decode cX2_passWord 19 = .ok (.iaload, 1) := by decide +kernel
theorem dX2_passWord_20 : decode cX2_passWord 20 = .ok (.invokestatic 116, 3) := by decide +kernel
theorem dX2_passWord_23 : decode cX2_passWord 23 = .ok (.ifCond .eq 16, 3) := by decide +kernel
theorem dX2_passWord_26 : decode cX2_passWord 26 = .ok (.aload_n 0, 1) := by decide +kernel
theorem dX2_passWord_27 : decode cX2_passWord 27 = .ok (.dup, 1) := by decide +kernel
theorem dX2_passWord_28 : decode cX2_passWord 28 = .ok (.getfield 19, 3) := by decide +kernel
theorem dX2_passWord_31 : decode cX2_passWord 31 = .ok (.iconst 1, 1) := by decide +kernel
theorem dX2_passWord_32 : decode cX2_passWord 32 = .ok (.iadd, 1) := by decide +kernel
theorem dX2_passWord_33 : decode cX2_passWord 33 = .ok (.putfield 19, 3) := by decide +kernel
theorem dX2_passWord_36 : decode cX2_passWord 36 = .ok (.goto (-36), 3) := by decide +kernel
theorem dX2_passWord_39 : decode cX2_passWord 39 = .ok (.return_, 1) := by decide +kernel
theorem dX2_passNumber_0 : decode cX2_passNumber 0 = .ok (.aload_n 0, 1) := by decide +kernel
theorem dX2_passNumber_1 : decode cX2_passNumber 1 = .ok (.iconst 0, 1) := by decide +kernel
theorem dX2_passNumber_2 : decode cX2_passNumber 2 = .ok (.putfield 28, 3) := by decide +kernel
theorem dX2_passNumber_5 : decode cX2_passNumber 5 = .ok (.aload_n 0, 1) := by decide +kernel
theorem dX2_passNumber_6 : decode cX2_passNumber 6 = .ok (.getfield 19, 3) := by decide +kernel
theorem dX2_passNumber_9 : decode cX2_passNumber 9 = .ok (.aload_n 0, 1) := by decide +kernel
theorem dX2_passNumber_10 : decode cX2_passNumber 10 = .ok (.getfield 9, 3) := by decide +kernel
theorem dX2_passNumber_13 : decode cX2_passNumber 13 = .ok (.if_icmp .ge 61, 3) := by decide +kernel
theorem dX2_passNumber_16 : decode cX2_passNumber 16 = .ok (.aload_n 0, 1) := by decide +kernel
theorem dX2_passNumber_17 : decode cX2_passNumber 17 = .ok (.getfield 15, 3) := by decide +kernel
theorem dX2_passNumber_20 : decode cX2_passNumber 20 = .ok (.aload_n 0, 1) := by decide +kernel
theorem dX2_passNumber_21 : decode cX2_passNumber 21 = .ok (.getfield 19, 3) := by decide +kernel
theorem dX2_passNumber_24 : decode cX2_passNumber 24 = .ok (.iaload, 1) := by decide +kernel
theorem dX2_passNumber_25 : decode cX2_passNumber 25 = .ok (.invokestatic 123, 3) := by decide +kernel
theorem dX2_passNumber_28 : decode cX2_passNumber 28 = .ok (.ifCond .eq 46, 3) := by decide +kernel
theorem dX2_passNumber_31 : decode cX2_passNumber 31 = .ok (.aload_n 0, 1) := by decide +kernel
theorem dX2_passNumber_32 : decode cX2_passNumber 32 = .ok (.bipush 10, 2) := by decide +kernel
theorem dX2_passNumber_34 : decode cX2_passNumber 34 = .ok (.aload_n 0, 1) := by decide +kernel
theorem dX2_passNumber_35 : decode cX2_passNumber 35 = .ok (.getfield 28, 3) := by decide +kernel
theorem dX2_passNumber_38 : decode cX2_passNumber 38 = .ok (.imul, 1) := by decide +kernel
theorem dX2_passNumber_39 : decode cX2_passNumber 39 = .ok (.aload_n 0, 1) := by decide +kernel
theorem dX2_passNumber_40 : decode cX2_passNumber 40 = .ok (.getfield 15, 3) := by decide +kernel
theorem dX2_passNumber_43 : decode cX2_passNumber 43 = .ok (.aload_n 0, 1) := by decide +kernel
theorem dX2_passNumber_44 : decode cX2_passNumber 44 = .ok (.getfield 19, 3) := by decide +kernel
theorem dX2_passNumber_47 : decode cX2_passNumber 47 = .ok (.iaload, 1) := by decide +kernel
theorem dX2_passNumber_48 : decode cX2_passNumber 48 = .ok (.iadd, 1) := by decide +kernel
theorem dX2_passNumber_49 : decode cX2_passNumber 49 = .ok (.bipush 48, 2) := by decide +kernel
theorem dX2_passNumber_51 : decode cX2_passNumber 51 = .ok (.isub, 1) := by decide +kernel
theorem dX2_passNumber_52 : decode cX2_passNumber 52 = .ok (.sipush 1000, 3) := by decide +kernel
theorem dX2_passNumber_55 : decode cX2_passNumber 55 = .ok (.invokestatic 129, 3) := by decide +kernel
theorem dX2_passNumber_58 : decode cX2_passNumber 58 = .ok (.putfield 28, 3) := by decide +kernel
theorem dX2_passNumber_61 : decode cX2_passNumber 61 = .ok (.aload_n 0, 1) := by decide +kernel
theorem dX2_passNumber_62 : decode cX2_passNumber 62 = .ok (.dup, 1) := by decide +kernel
theorem dX2_passNumber_63 : decode cX2_passNumber 63 = .ok (.getfield 19, 3) := by decide +kernel
theorem dX2_passNumber_66 : decode cX2_passNumber 66 = .ok (.iconst 1, 1) := by decide +kernel
theorem dX2_passNumber_67 : decode cX2_passNumber 67 = .ok (.iadd, 1) := by decide +kernel
theorem dX2_passNumber_68 : decode cX2_passNumber 68 = .ok (.putfield 19, 3) := by decide +kernel
theorem dX2_passNumber_71 : decode cX2_passNumber 71 = .ok (.goto (-66), 3) := by decide +kernel
theorem dX2_passNumber_74 : decode cX2_passNumber 74 = .ok (.return_, 1) := by decide +kernel
theorem dX2_isLetter_0 : decode cX2_isLetter 0 = .ok (.iload_n 0, 1) := by decide +kernel
theorem dX2_isLetter_1 : decode cX2_isLetter 1 = .ok (.bipush 97, 2) := by decide +kernel
theorem dX2_isLetter_3 : decode cX2_isLetter 3 = .ok (.if_icmp .lt 13, 3) := by decide +kernel
theorem dX2_isLetter_6 : decode cX2_isLetter 6 = .ok (.iload_n 0, 1) := by decide +kernel
theorem dX2_isLetter_7 : decode cX2_isLetter 7 = .ok (.bipush 122, 2) := by decide +kernel
theorem dX2_isLetter_9 : decode cX2_isLetter 9 = .ok (.if_icmp .gt 7, 3) := by decide +kernel
theorem dX2_isLetter_12 : decode cX2_isLetter 12 = .ok (.iconst 1, 1) := by decide +kernel
theorem dX2_isLetter_13 : decode cX2_isLetter 13 = .ok (.goto 4, 3) := by decide +kernel
theorem dX2_isLetter_16 : decode cX2_isLetter 16 = .ok (.iconst 0, 1) := by decide +kernel
theorem dX2_isLetter_17 : decode cX2_isLetter 17 = .ok (.ireturn, 1) := by decide +kernel
theorem dX2_isDigit_0 : decode cX2_isDigit 0 = .ok (.iload_n 0, 1) := by decide +kernel
theorem dX2_isDigit_1 : decode cX2_isDigit 1 = .ok (.bipush 48, 2) := by decide +kernel
theorem dX2_isDigit_3 : decode cX2_isDigit 3 = .ok (.if_icmp .lt 13, 3) := by decide +kernel
theorem dX2_isDigit_6 : decode cX2_isDigit 6 = .ok (.iload_n 0, 1) := by decide +kernel
theorem dX2_isDigit_7 : decode cX2_isDigit 7 = .ok (.bipush 57, 2) := by decide +kernel
theorem dX2_isDigit_9 : decode cX2_isDigit 9 = .ok (.if_icmp .gt 7, 3) := by decide +kernel
theorem dX2_isDigit_12 : decode cX2_isDigit 12 = .ok (.iconst 1, 1) := by decide +kernel
theorem dX2_isDigit_13 : decode cX2_isDigit 13 = .ok (.goto 4, 3) := by decide +kernel
theorem dX2_isDigit_16 : decode cX2_isDigit 16 = .ok (.iconst 0, 1) := by decide +kernel
theorem dX2_isDigit_17 : decode cX2_isDigit 17 = .ok (.ireturn, 1) := by decide +kernel
theorem dJ0_length_8abf5_0 : decode cJ0_length_8abf5 0 = .ok (.aload_n 0, 1) := by decide +kernel
theorem dJ0_length_8abf5_1 : decode cJ0_length_8abf5 1 = .ok (.getfield 9, 3) := by decide +kernel
theorem dJ0_length_8abf5_4 : decode cJ0_length_8abf5 4 = .ok (.arraylength, 1) := by decide +kernel
theorem dJ0_length_8abf5_5 : decode cJ0_length_8abf5 5 = .ok (.aload_n 0, 1) := by decide +kernel
theorem dJ0_length_8abf5_6 : decode cJ0_length_8abf5 6 = .ok (.invokevirtual 335, 3) := by decide +kernel
theorem dJ0_length_8abf5_9 : decode cJ0_length_8abf5 9 = .ok (.ishr, 1) := by decide +kernel
theorem dJ0_length_8abf5_10 : decode cJ0_length_8abf5 10 = .ok (.ireturn, 1) := by decide +kernel
theorem dJ0_charAt_5068e_0 : decode cJ0_charAt_5068e 0 = .ok (.aload_n 0, 1) := by decide +kernel
theorem dJ0_charAt_5068e_1 : decode cJ0_charAt_5068e 1 = .ok (.invokevirtual 492, 3) := by decide +kernel
theorem dJ0_charAt_5068e_4 : decode cJ0_charAt_5068e 4 = .ok (.ifCond .eq 12, 3) := by decide +kernel
theorem dJ0_charAt_5068e_7 : decode cJ0_charAt_5068e 7 = .ok (.aload_n 0, 1) := by decide +kernel
theorem dJ0_charAt_5068e_8 : decode cJ0_charAt_5068e 8 = .ok (.getfield 9, 3) := by decide +kernel
theorem dJ0_charAt_5068e_11 : decode cJ0_charAt_5068e 11 = .ok (.iload_n 1, 1) := by decide +kernel
theorem dJ0_charAt_5068e_12 : decode cJ0_charAt_5068e 12 = .ok (.invokestatic 495, 3) := by decide +kernel
theorem dJ0_charAt_5068e_15 : decode cJ0_charAt_5068e 15 = .ok (.ireturn, 1) := by decide +kernel
theorem dJ0_charAt_5068e_16 : decode cJ0_charAt_5068e 16 = .ok (.aload_n 0, 1) := by decide +kernel
theorem dJ0_charAt_5068e_17 : decode cJ0_charAt_5068e 17 = .ok (.getfield 9, 3) := by decide +kernel
theorem dJ0_charAt_5068e_20 : decode cJ0_charAt_5068e 20 = .ok (.iload_n 1, 1) := by decide +kernel
theorem dJ0_charAt_5068e_21 : decode cJ0_charAt_5068e 21 = .ok (.invokestatic 498, 3) := by decide +kernel
theorem dJ0_charAt_5068e_24 : decode cJ0_charAt_5068e 24 = .ok (.ireturn, 1) := by decide +kernel
theorem dJ0_coder_7d493_0 : decode cJ0_coder_7d493 0 = .ok (.getstatic 38, 3) := by decide +kernel
theorem dJ0_coder_7d493_3 : decode cJ0_coder_7d493 3 = .ok (.ifCond .eq 10, 3) := by decide +kernel
theorem dJ0_coder_7d493_6 : decode cJ0_coder_7d493 6 = .ok (.aload_n 0, 1) := by decide +kernel
theorem dJ0_coder_7d493_7 : decode cJ0_coder_7d493 7 = .ok (.getfield 15, 3) := by decide +kernel
theorem dJ0_coder_7d493_10 : decode cJ0_coder_7d493 10 = .ok (.goto 4, 3) := by decide +kernel
theorem dJ0_coder_7d493_13 : decode cJ0_coder_7d493 13 = .ok (.iconst 1, 1) := by decide +kernel
theorem dJ0_coder_7d493_14 : decode cJ0_coder_7d493 14 = .ok (.ireturn, 1) := by decide +kernel
theorem dJ0_isLatin1_aae02_0 : decode cJ0_isLatin1_aae02 0 = .ok (.getstatic 38, 3) := by decide +kernel
theorem dJ0_isLatin1_aae02_3 : decode cJ0_isLatin1_aae02 3 = .ok (.ifCond .eq 14, 3) := by decide +kernel
theorem dJ0_isLatin1_aae02_6 : decode cJ0_isLatin1_aae02 6 = .ok (.aload_n 0, 1) := by decide +kernel
theorem dJ0_isLatin1_aae02_7 : decode cJ0_isLatin1_aae02 7 = .ok (.getfield 15, 3) := by decide +kernel
theorem dJ0_isLatin1_aae02_10 : decode cJ0_isLatin1_aae02 10 = .ok (.ifCond .ne 7, 3) := by decide +kernel
theorem dJ0_isLatin1_aae02_13 : decode cJ0_isLatin1_aae02 13 = .ok (.iconst 1, 1) := by decide +kernel
theorem dJ0_isLatin1_aae02_14 : decode cJ0_isLatin1_aae02 14 = .ok (.goto 4, 3) := by decide +kernel
theorem dJ0_isLatin1_aae02_17 : decode cJ0_isLatin1_aae02 17 = .ok (.iconst 0, 1) := by decide +kernel
theorem dJ0_isLatin1_aae02_18 : decode cJ0_isLatin1_aae02 18 = .ok (.ireturn, 1) := by decide +kernel
theorem dJ0_checkIndex_df160_0 : decode cJ0_checkIndex_df160 0 = .ok (.iload_n 0, 1) := by decide +kernel
theorem dJ0_checkIndex_df160_1 : decode cJ0_checkIndex_df160 1 = .ok (.iload_n 1, 1) := by decide +kernel
theorem dJ0_checkIndex_df160_2 : decode cJ0_checkIndex_df160 2 = .ok (.getstatic 1053, 3) := by decide +kernel
theorem dJ0_checkIndex_df160_5 : decode cJ0_checkIndex_df160 5 = .ok (.invokestatic 1059, 3) := by decide +kernel
theorem dJ0_checkIndex_df160_8 : decode cJ0_checkIndex_df160 8 = .ok (.pop, 1) := by decide +kernel
theorem dJ0_checkIndex_df160_9 : decode cJ0_checkIndex_df160 9 = .ok (.return_, 1) := by decide +kernel
theorem dJ1_charAt_3b067_0 : decode cJ1_charAt_3b067 0 = .ok (.iload_n 1, 1) := by decide +kernel
theorem dJ1_charAt_3b067_1 : decode cJ1_charAt_3b067 1 = .ok (.aload_n 0, 1) := by decide +kernel
theorem dJ1_charAt_3b067_2 : decode cJ1_charAt_3b067 2 = .ok (.arraylength, 1) := by decide +kernel
theorem dJ1_charAt_3b067_3 : decode cJ1_charAt_3b067 3 = .ok (.invokestatic 9, 3) := by decide +kernel
theorem dJ1_charAt_3b067_6 : decode cJ1_charAt_3b067 6 = .ok (.aload_n 0, 1) := by decide +kernel
theorem dJ1_charAt_3b067_7 : decode cJ1_charAt_3b067 7 = .ok (.iload_n 1, 1) := by decide +kernel
theorem dJ1_charAt_3b067_8 : decode cJ1_charAt_3b067 8 = .ok (.baload, 1) := by decide +kernel
theorem dJ1_charAt_3b067_9 : decode cJ1_charAt_3b067 9 = .ok (.sipush 255, 3) := by decide +kernel
theorem dJ1_charAt_3b067_12 : decode cJ1_charAt_3b067 12 = .ok (.iand, 1) := by decide +kernel
theorem dJ1_charAt_3b067_13 : decode cJ1_charAt_3b067 13 = .ok (.i2c, 1) := by decide +kernel
theorem dJ1_charAt_3b067_14 : decode cJ1_charAt_3b067 14 = .ok (.ireturn, 1) := by decide +kernel
theorem dJ2_getChar_3b067_0 : decode cJ2_getChar_3b067 0 = .ok (.getstatic 44, 3) := by decide +kernel
theorem dJ2_getChar_3b067_3 : decode cJ2_getChar_3b067 3 = .ok (.ifCond .ne 25, 3) := by decide +kernel
theorem dJ2_getChar_3b067_6 : decode cJ2_getChar_3b067 6 = .ok (.iload_n 1, 1) := by decide +kernel
theorem dJ2_getChar_3b067_7 : decode cJ2_getChar_3b067 7 = .ok (.ifCond .lt 11, 3) := by decide +kernel
theorem dJ2_getChar_3b067_10 : decode cJ2_getChar_3b067 10 = .ok (.iload_n 1, 1) := by decide +kernel
theorem dJ2_getChar_3b067_11 : decode cJ2_getChar_3b067 11 = .ok (.aload_n 0, 1) := by decide +kernel
theorem dJ2_getChar_3b067_12 : decode cJ2_getChar_3b067 12 = .ok (.invokestatic 48, 3) := by decide +kernel
theorem dJ2_getChar_3b067_15 : decode cJ2_getChar_3b067 15 = .ok (.if_icmp .lt 13, 3) := by decide +kernel
theorem dJ2_getChar_3b067_18 : decode cJ2_getChar_3b067 18 = .ok (.new 52, 3) := by decide +kernel
theorem dJ2_getChar_3b067_21 : decode cJ2_getChar_3b067 21 = .ok (.dup, 1) := by decide +kernel
theorem dJ2_getChar_3b067_22 : decode cJ2_getChar_3b067 22 = .ok (.ldc 54, 2) := by decide +kernel
theorem dJ2_getChar_3b067_24 : decode cJ2_getChar_3b067 24 = .ok (.invokespecial 56, 3) := by decide +kernel
theorem dJ2_getChar_3b067_27 : decode cJ2_getChar_3b067 27 = .ok (.athrow, 1) := by decide +kernel
theorem dJ2_getChar_3b067_28 : decode cJ2_getChar_3b067 28 = .ok (.iload_n 1, 1) := by decide +kernel
theorem dJ2_getChar_3b067_29 : decode cJ2_getChar_3b067 29 = .ok (.iconst 1, 1) := by decide +kernel
theorem dJ2_getChar_3b067_30 : decode cJ2_getChar_3b067 30 = .ok (.ishl, 1) := by decide +kernel
theorem dJ2_getChar_3b067_31 : decode cJ2_getChar_3b067 31 = .ok (.istore_n 1, 1) := by decide +kernel
theorem dJ2_getChar_3b067_32 : decode cJ2_getChar_3b067 32 = .ok (.aload_n 0, 1) := by decide +kernel
theorem dJ2_getChar_3b067_33 : decode cJ2_getChar_3b067 33 = .ok (.iload_n 1, 1) := by decide +kernel
theorem dJ2_getChar_3b067_34 : decode cJ2_getChar_3b067 34 = .ok (.iinc 1 1, 3) := by decide +kernel
theorem dJ2_getChar_3b067_37 : decode cJ2_getChar_3b067 37 = .ok (.baload, 1) := by decide +kernel
theorem dJ2_getChar_3b067_38 : decode cJ2_getChar_3b067 38 = .ok (.sipush 255, 3) := by decide +kernel
theorem dJ2_getChar_3b067_41 : decode cJ2_getChar_3b067 41 = .ok (.iand, 1) := by decide +kernel
theorem dJ2_getChar_3b067_42 : decode cJ2_getChar_3b067 42 = .ok (.getstatic 59, 3) := by decide +kernel
theorem dJ2_getChar_3b067_45 : decode cJ2_getChar_3b067 45 = .ok (.ishl, 1) := by decide +kernel
theorem dJ2_getChar_3b067_46 : decode cJ2_getChar_3b067 46 = .ok (.aload_n 0, 1) := by decide +kernel
theorem dJ2_getChar_3b067_47 : decode cJ2_getChar_3b067 47 = .ok (.iload_n 1, 1) := by decide +kernel
theorem dJ2_getChar_3b067_48 : decode cJ2_getChar_3b067 48 = .ok (.baload, 1) := by decide +kernel
theorem dJ2_getChar_3b067_49 : decode cJ2_getChar_3b067 49 = .ok (.sipush 255, 3) := by decide +kernel
theorem dJ2_getChar_3b067_52 : decode cJ2_getChar_3b067 52 = .ok (.iand, 1) := by decide +kernel
theorem dJ2_getChar_3b067_53 : decode cJ2_getChar_3b067 53 = .ok (.getstatic 63, 3) := by decide +kernel
theorem dJ2_getChar_3b067_56 : decode cJ2_getChar_3b067 56 = .ok (.ishl, 1) := by decide +kernel
theorem dJ2_getChar_3b067_57 : decode cJ2_getChar_3b067 57 = .ok (.ior, 1) := by decide +kernel
theorem dJ2_getChar_3b067_58 : decode cJ2_getChar_3b067 58 = .ok (.i2c, 1) := by decide +kernel
theorem dJ2_getChar_3b067_59 : decode cJ2_getChar_3b067 59 = .ok (.ireturn, 1) := by decide +kernel
theorem dJ2_length_9d52b_0 : decode cJ2_length_9d52b 0 = .ok (.aload_n 0, 1) := by decide +kernel
theorem dJ2_length_9d52b_1 : decode cJ2_length_9d52b 1 = .ok (.arraylength, 1) := by decide +kernel
theorem dJ2_length_9d52b_2 : decode cJ2_length_9d52b 2 = .ok (.iconst 1, 1) := by decide +kernel
theorem dJ2_length_9d52b_3 : decode cJ2_length_9d52b 3 = .ok (.ishr, 1) := by decide +kernel
theorem dJ2_length_9d52b_4 : decode cJ2_length_9d52b 4 = .ok (.ireturn, 1) := by decide +kernel
theorem dJ2_charAt_3b067_0 : decode cJ2_charAt_3b067 0 = .ok (.iload_n 1, 1) := by decide +kernel
theorem dJ2_charAt_3b067_1 : decode cJ2_charAt_3b067 1 = .ok (.aload_n 0, 1) := by decide +kernel
theorem dJ2_charAt_3b067_2 : decode cJ2_charAt_3b067 2 = .ok (.invokestatic 67, 3) := by decide +kernel
theorem dJ2_charAt_3b067_5 : decode cJ2_charAt_3b067 5 = .ok (.aload_n 0, 1) := by decide +kernel
theorem dJ2_charAt_3b067_6 : decode cJ2_charAt_3b067 6 = .ok (.iload_n 1, 1) := by decide +kernel
theorem dJ2_charAt_3b067_7 : decode cJ2_charAt_3b067 7 = .ok (.invokestatic 71, 3) := by decide +kernel
theorem dJ2_charAt_3b067_10 : decode cJ2_charAt_3b067 10 = .ok (.ireturn, 1) := by decide +kernel
theorem dJ2_checkIndex_2214a_0 : decode cJ2_checkIndex_2214a 0 = .ok (.iload_n 0, 1) := by decide +kernel
theorem dJ2_checkIndex_2214a_1 : decode cJ2_checkIndex_2214a 1 = .ok (.aload_n 1, 1) := by decide +kernel
theorem dJ2_checkIndex_2214a_2 : decode cJ2_checkIndex_2214a 2 = .ok (.invokestatic 48, 3) := by decide +kernel
theorem dJ2_checkIndex_2214a_5 : decode cJ2_checkIndex_2214a 5 = .ok (.invokestatic 414, 3) := by decide +kernel
theorem dJ2_checkIndex_2214a_8 : decode cJ2_checkIndex_2214a 8 = .ok (.return_, 1) := by decide +kernel
theorem dJ3_checkIndex_8e157_0 : decode cJ3_checkIndex_8e157 0 = .ok (.iload_n 0, 1) := by decide +kernel
theorem dJ3_checkIndex_8e157_1 : decode cJ3_checkIndex_8e157 1 = .ok (.ifCond .lt 8, 3) := by decide +kernel
theorem dJ3_checkIndex_8e157_4 : decode cJ3_checkIndex_8e157 4 = .ok (.iload_n 0, 1) := by decide +kernel
theorem dJ3_checkIndex_8e157_5 : decode cJ3_checkIndex_8e157 5 = .ok (.iload_n 1, 1) := by decide +kernel
theorem dJ3_checkIndex_8e157_6 : decode cJ3_checkIndex_8e157 6 = .ok (.if_icmp .lt 10, 3) := by decide +kernel
theorem dJ3_checkIndex_8e157_9 : decode cJ3_checkIndex_8e157 9 = .ok (.aload_n 2, 1) := by decide +kernel
theorem dJ3_checkIndex_8e157_10 : decode cJ3_checkIndex_8e157 10 = .ok (.iload_n 0, 1) := by decide +kernel
theorem dJ3_checkIndex_8e157_11 : decode cJ3_checkIndex_8e157 11 = .ok (.iload_n 1, 1) := by decide +kernel
theorem dJ3_checkIndex_8e157_12 : decode cJ3_checkIndex_8e157 12 = .ok (.invokestatic 95, 3) := by decide +kernel
theorem dJ3_checkIndex_8e157_15 : decode cJ3_checkIndex_8e157 15 = .ok (.athrow, 1) := by decide +kernel
theorem dJ3_checkIndex_8e157_16 : decode cJ3_checkIndex_8e157 16 = .ok (.iload_n 0, 1) := by decide +kernel
theorem dJ3_checkIndex_8e157_17 : decode cJ3_checkIndex_8e157 17 = .ok (.ireturn, 1) := by decide +kernel
theorem dJ6_bitCount_0f7a4_0 : decode cJ6_bitCount_0f7a4 0 = .ok (.iload_n 0, 1) := by decide +kernel
theorem dJ6_bitCount_0f7a4_1 : decode cJ6_bitCount_0f7a4 1 = .ok (.iload_n 0, 1) := by decide +kernel
theorem dJ6_bitCount_0f7a4_2 : decode cJ6_bitCount_0f7a4 2 = .ok (.iconst 1, 1) := by decide +kernel
theorem dJ6_bitCount_0f7a4_3 : decode cJ6_bitCount_0f7a4 3 = .ok (.iushr, 1) := by decide +kernel
theorem dJ6_bitCount_0f7a4_4 : decode cJ6_bitCount_0f7a4 4 = .ok (.ldc_w 265, 3) := by decide +kernel
theorem dJ6_bitCount_0f7a4_7 : decode cJ6_bitCount_0f7a4 7 = .ok (.iand, 1) := by decide +kernel
theorem dJ6_bitCount_0f7a4_8 : decode cJ6_bitCount_0f7a4 8 = .ok (.isub, 1) := by decide +kernel
theorem dJ6_bitCount_0f7a4_9 : decode cJ6_bitCount_0f7a4 9 = .ok (.istore_n 0, 1) := by decide +kernel
theorem dJ6_bitCount_0f7a4_10 : decode cJ6_bitCount_0f7a4 10 = .ok (.iload_n 0, 1) := by decide +kernel
theorem dJ6_bitCount_0f7a4_11 : decode cJ6_bitCount_0f7a4 11 = .ok (.ldc_w 266, 3) := by decide +kernel
theorem dJ6_bitCount_0f7a4_14 : decode cJ6_bitCount_0f7a4 14 = .ok (.iand, 1) := by decide +kernel
theorem dJ6_bitCount_0f7a4_15 : decode cJ6_bitCount_0f7a4 15 = .ok (.iload_n 0, 1) := by decide +kernel
theorem dJ6_bitCount_0f7a4_16 : decode cJ6_bitCount_0f7a4 16 = .ok (.iconst 2, 1) := by decide +kernel
theorem dJ6_bitCount_0f7a4_17 : decode cJ6_bitCount_0f7a4 17 = .ok (.iushr, 1) := by decide +kernel
theorem dJ6_bitCount_0f7a4_18 : decode cJ6_bitCount_0f7a4 18 = .ok (.ldc_w 266, 3) := by decide +kernel
theorem dJ6_bitCount_0f7a4_21 : decode cJ6_bitCount_0f7a4 21 = .ok (.iand, 1) := by decide +kernel
theorem dJ6_bitCount_0f7a4_22 : decode cJ6_bitCount_0f7a4 22 = .ok (.iadd, 1) := by decide +kernel
theorem dJ6_bitCount_0f7a4_23 : decode cJ6_bitCount_0f7a4 23 = .ok (.istore_n 0, 1) := by decide +kernel
theorem dJ6_bitCount_0f7a4_24 : decode cJ6_bitCount_0f7a4 24 = .ok (.iload_n 0, 1) := by decide +kernel
theorem dJ6_bitCount_0f7a4_25 : decode cJ6_bitCount_0f7a4 25 = .ok (.iload_n 0, 1) := by decide +kernel
theorem dJ6_bitCount_0f7a4_26 : decode cJ6_bitCount_0f7a4 26 = .ok (.iconst 4, 1) := by decide +kernel
theorem dJ6_bitCount_0f7a4_27 : decode cJ6_bitCount_0f7a4 27 = .ok (.iushr, 1) := by decide +kernel
theorem dJ6_bitCount_0f7a4_28 : decode cJ6_bitCount_0f7a4 28 = .ok (.iadd, 1) := by decide +kernel
theorem dJ6_bitCount_0f7a4_29 : decode cJ6_bitCount_0f7a4 29 = .ok (.ldc_w 267, 3) := by decide +kernel
theorem dJ6_bitCount_0f7a4_32 : decode cJ6_bitCount_0f7a4 32 = .ok (.iand, 1) := by decide +kernel
theorem dJ6_bitCount_0f7a4_33 : decode cJ6_bitCount_0f7a4 33 = .ok (.istore_n 0, 1) := by decide +kernel
theorem dJ6_bitCount_0f7a4_34 : decode cJ6_bitCount_0f7a4 34 = .ok (.iload_n 0, 1) := by decide +kernel
theorem dJ6_bitCount_0f7a4_35 : decode cJ6_bitCount_0f7a4 35 = .ok (.iload_n 0, 1) := by decide +kernel
theorem dJ6_bitCount_0f7a4_36 : decode cJ6_bitCount_0f7a4 36 = .ok (.bipush 8, 2) := by decide +kernel
theorem dJ6_bitCount_0f7a4_38 : decode cJ6_bitCount_0f7a4 38 = .ok (.iushr, 1) := by decide +kernel
theorem dJ6_bitCount_0f7a4_39 : decode cJ6_bitCount_0f7a4 39 = .ok (.iadd, 1) := by decide +kernel
theorem dJ6_bitCount_0f7a4_40 : decode cJ6_bitCount_0f7a4 40 = .ok (.istore_n 0, 1) := by decide +kernel
theorem dJ6_bitCount_0f7a4_41 : decode cJ6_bitCount_0f7a4 41 = .ok (.iload_n 0, 1) := by decide +kernel
theorem dJ6_bitCount_0f7a4_42 : decode cJ6_bitCount_0f7a4 42 = .ok (.iload_n 0, 1) := by decide +kernel
theorem dJ6_bitCount_0f7a4_43 : decode cJ6_bitCount_0f7a4 43 = .ok (.bipush 16, 2) := by decide +kernel
theorem dJ6_bitCount_0f7a4_45 : decode cJ6_bitCount_0f7a4 45 = .ok (.iushr, 1) := by decide +kernel
theorem dJ6_bitCount_0f7a4_46 : decode cJ6_bitCount_0f7a4 46 = .ok (.iadd, 1) := by decide +kernel
theorem dJ6_bitCount_0f7a4_47 : decode cJ6_bitCount_0f7a4 47 = .ok (.istore_n 0, 1) := by decide +kernel
theorem dJ6_bitCount_0f7a4_48 : decode cJ6_bitCount_0f7a4 48 = .ok (.iload_n 0, 1) := by decide +kernel
theorem dJ6_bitCount_0f7a4_49 : decode cJ6_bitCount_0f7a4 49 = .ok (.bipush 63, 2) := by decide +kernel
theorem dJ6_bitCount_0f7a4_51 : decode cJ6_bitCount_0f7a4 51 = .ok (.iand, 1) := by decide +kernel
theorem dJ6_bitCount_0f7a4_52 : decode cJ6_bitCount_0f7a4 52 = .ok (.ireturn, 1) := by decide +kernel
theorem dJ9_abs_0f7a4_0 : decode cJ9_abs_0f7a4 0 = .ok (.iload_n 0, 1) := by decide +kernel
theorem dJ9_abs_0f7a4_1 : decode cJ9_abs_0f7a4 1 = .ok (.ifCond .ge 8, 3) := by decide +kernel
theorem dJ9_abs_0f7a4_4 : decode cJ9_abs_0f7a4 4 = .ok (.iload_n 0, 1) := by decide +kernel
theorem dJ9_abs_0f7a4_5 : decode cJ9_abs_0f7a4 5 = .ok (.ineg, 1) := by decide +kernel
theorem dJ9_abs_0f7a4_6 : decode cJ9_abs_0f7a4 6 = .ok (.goto 4, 3) := by decide +kernel
theorem dJ9_abs_0f7a4_9 : decode cJ9_abs_0f7a4 9 = .ok (.iload_n 0, 1) := by decide +kernel
theorem dJ9_abs_0f7a4_10 : decode cJ9_abs_0f7a4 10 = .ok (.ireturn, 1) := by decide +kernel
theorem dJ9_max_7cf53_0 : decode cJ9_max_7cf53 0 = .ok (.iload_n 0, 1) := by decide +kernel
theorem dJ9_max_7cf53_1 : decode cJ9_max_7cf53 1 = .ok (.iload_n 1, 1) := by decide +kernel
theorem dJ9_max_7cf53_2 : decode cJ9_max_7cf53 2 = .ok (.if_icmp .lt 7, 3) := by decide +kernel
theorem dJ9_max_7cf53_5 : decode cJ9_max_7cf53 5 = .ok (.iload_n 0, 1) := by decide +kernel
theorem dJ9_max_7cf53_6 : decode cJ9_max_7cf53 6 = .ok (.goto 4, 3) := by decide +kernel
theorem dJ9_max_7cf53_9 : decode cJ9_max_7cf53 9 = .ok (.iload_n 1, 1) := by decide +kernel
theorem dJ9_max_7cf53_10 : decode cJ9_max_7cf53 10 = .ok (.ireturn, 1) := by decide +kernel
theorem dJ9_min_7cf53_0 : decode cJ9_min_7cf53 0 = .ok (.iload_n 0, 1) := by decide +kernel
theorem dJ9_min_7cf53_1 : decode cJ9_min_7cf53 1 = .ok (.iload_n 1, 1) := by decide +kernel
theorem dJ9_min_7cf53_2 : decode cJ9_min_7cf53 2 = .ok (.if_icmp .gt 7, 3) := by decide +kernel
theorem dJ9_min_7cf53_5 : decode cJ9_min_7cf53 5 = .ok (.iload_n 0, 1) := by decide +kernel
theorem dJ9_min_7cf53_6 : decode cJ9_min_7cf53 6 = .ok (.goto 4, 3) := by decide +kernel
theorem dJ9_min_7cf53_9 : decode cJ9_min_7cf53 9 = .ok (.iload_n 1, 1) := by decide +kernel
theorem dJ9_min_7cf53_10 : decode cJ9_min_7cf53 10 = .ok (.ireturn, 1) := by decide +kernel
end
section
theorem dX3_init_0 : decode cX3_init 0 = .ok (.aload_n 0, 1) := by decide +kernel
theorem dX3_init_1 : decode cX3_init 1 = .ok (.invokespecial 1, 3) := by decide +kernel
theorem dX3_init_4 : decode cX3_init 4 = .ok (.aload_n 0, 1) := by decide +kernel
theorem dX3_init_5 : decode cX3_init 5 = .ok (.new 7, 3) := by decide +kernel
theorem dX3_init_8 : decode cX3_init 8 = .ok (.dup, 1) := by decide +kernel
theorem dX3_init_9 : decode cX3_init 9 = .ok (.invokespecial 9, 3) := by decide +kernel
theorem dX3_init_12 : decode cX3_init 12 = .ok (.putfield 10, 3) := by decide +kernel
theorem dX3_init_15 : decode cX3_init 15 = .ok (.aload_n 0, 1) := by decide +kernel
theorem dX3_init_16 : decode cX3_init 16 = .ok (.new 7, 3) := by decide +kernel
theorem dX3_init_19 : decode cX3_init 19 = .ok (.dup, 1) := by decide +kernel
theorem dX3_init_20 : decode cX3_init 20 = .ok (.invokespecial 9, 3) := by decide +kernel
theorem dX3_init_23 : decode cX3_init 23 = .ok (.putfield 16, 3) := by decide +kernel
theorem dX3_init_26 : decode cX3_init 26 = .ok (.aload_n 0, 1) := by decide +kernel
theorem dX3_init_27 : decode cX3_init 27 = .ok (.new 7, 3) := by decide +kernel
theorem dX3_init_30 : decode cX3_init 30 = .ok (.dup, 1) := by decide +kernel
theorem dX3_init_31 : decode cX3_init 31 = .ok (.invokespecial 9, 3) := by decide +kernel
theorem dX3_init_34 : decode cX3_init 34 = .ok (.putfield 19, 3) := by decide +kernel
theorem dX3_init_37 : decode cX3_init 37 = .ok (.aload_n 0, 1) := by decide +kernel
theorem dX3_init_38 : decode cX3_init 38 = .ok (.new 22, 3) := by decide +kernel
theorem dX3_init_41 : decode cX3_init 41 = .ok (.dup, 1) := by decide +kernel
theorem dX3_init_42 : decode cX3_init 42 = .ok (.invokespecial 24, 3) := by decide +kernel
theorem dX3_init_45 : decode cX3_init 45 = .ok (.putfield 25, 3) := by decide +kernel
theorem dX3_init_48 : decode cX3_init 48 = .ok (.aload_n 0, 1) := by decide +kernel
theorem dX3_init_49 : decode cX3_init 49 = .ok (.iconst 4, 1) := by decide +kernel
theorem dX3_init_50 : decode cX3_init 50 = .ok (.anewarray 29, 3) := by decide +kernel
theorem dX3_init_53 : decode cX3_init 53 = .ok (.putfield 31, 3) := by decide +kernel
theorem dX3_init_56 : decode cX3_init 56 = .ok (.iconst 0, 1) := by decide +kernel
theorem dX3_init_57 : decode cX3_init 57 = .ok (.istore_n 1, 1) := by decide +kernel
theorem dX3_init_58 : decode cX3_init 58 = .ok (.iload_n 1, 1) := by decide +kernel
theorem dX3_init_59 : decode cX3_init 59 = .ok (.iconst 4, 1) := by decide +kernel
theorem dX3_init_60 : decode cX3_init 60 = .ok (.if_icmp .ge 22, 3) := by decide +kernel
theorem dX3_init_63 : decode cX3_init 63 = .ok (.aload_n 0, 1) := by decide +kernel
theorem dX3_init_64 : decode cX3_init 64 = .ok (.getfield 31, 3) := by decide +kernel
theorem dX3_init_67 : decode cX3_init 67 = .ok (.iload_n 1, 1) := by decide +kernel
theorem dX3_init_68 : decode cX3_init 68 = .ok (.new 29, 3) := by decide +kernel
theorem dX3_init_71 : decode cX3_init 71 = .ok (.dup, 1) := by decide +kernel
theorem dX3_init_72 : decode cX3_init 72 = .ok (.invokespecial 35, 3) := by decide +kernel
theorem dX3_init_75 : decode cX3_init 75 = .ok (.aastore, 1) := by decide +kernel
theorem dX3_init_76 : decode cX3_init 76 = .ok (.iinc 1 1, 3) := by decide +kernel
theorem dX3_init_79 : decode cX3_init 79 = .ok (.goto (-21), 3) := by decide +kernel
theorem dX3_init_82 : decode cX3_init 82 = .ok (.aload_n 0, 1) := by decide +kernel
theorem dX3_init_83 : decode cX3_init 83 = .ok (.bipush 7, 2) := by decide +kernel
theorem dX3_init_85 : decode cX3_init 85 = .ok (.newarray .int, 2) := by decide +kernel
theorem dX3_init_87 : decode cX3_init 87 = .ok (.putfield 36, 3) := by decide +kernel
theorem dX3_init_90 : decode cX3_init 90 = .ok (.aload_n 0, 1) := by decide +kernel
theorem dX3_init_91 : decode cX3_init 91 = .ok (.iconst 0, 1) := by decide +kernel
theorem dX3_init_92 : decode cX3_init 92 = .ok (.putfield 40, 3) := by decide +kernel
theorem dX3_init_95 : decode cX3_init 95 = .ok (.return_, 1) := by decide +kernel
theorem dX3_law_0 : decode cX3_law 0 = .ok (.iload_n 1, 1) := by decide +kernel
theorem dX3_law_1 : decode cX3_law 1 = .ok (.ifCond .ne 30, 3) := by decide +kernel
theorem dX3_law_4 : decode cX3_law 4 = .ok (.iload_n 2, 1) := by decide +kernel
theorem dX3_law_5 : decode cX3_law 5 = .ok (.iconst 0, 1) := by decide +kernel
theorem dX3_law_6 : decode cX3_law 6 = .ok (.iconst 4, 1) := by decide +kernel
theorem dX3_law_7 : decode cX3_law 7 = .ok (.invokestatic 44, 3) := by decide +kernel
theorem dX3_law_10 : decode cX3_law 10 = .ok (.ifCond .eq 21, 3) := by decide +kernel
theorem dX3_law_13 : decode cX3_law 13 = .ok (.aload_n 0, 1) := by decide +kernel
theorem dX3_law_14 : decode cX3_law 14 = .ok (.getfield 10, 3) := by decide +kernel
theorem dX3_law_17 : decode cX3_law 17 = .ok (.getfield 48, 3) := by decide +kernel
theorem dX3_law_20 : decode cX3_law 20 = .ok (.istore_n 3, 1) := by decide +kernel
theorem dX3_law_21 : decode cX3_law 21 = .ok (.aload_n 0, 1) := by decide +kernel
theorem dX3_law_22 : decode cX3_law 22 = .ok (.getfield 10, 3) := by decide +kernel
theorem dX3_law_25 : decode cX3_law 25 = .ok (.iload_n 2, 1) := by decide +kernel
theorem dX3_law_26 : decode cX3_law 26 = .ok (.putfield 48, 3) := by decide +kernel
theorem dX3_law_29 : decode cX3_law 29 = .ok (.iload_n 3, 1) := by decide +kernel
theorem dX3_law_30 : decode cX3_law 30 = .ok (.ireturn, 1) := by decide +kernel
theorem dX3_law_31 : decode cX3_law 31 = .ok (.iload_n 1, 1) := by decide +kernel
theorem dX3_law_32 : decode cX3_law 32 = .ok (.iconst 1, 1) := by decide +kernel
theorem dX3_law_33 : decode cX3_law 33 = .ok (.if_icmp .ne 31, 3) := by decide +kernel
theorem dX3_law_36 : decode cX3_law 36 = .ok (.iload_n 2, 1) := by decide +kernel
theorem dX3_law_37 : decode cX3_law 37 = .ok (.iconst 1, 1) := by decide +kernel
theorem dX3_law_38 : decode cX3_law 38 = .ok (.bipush 99, 2) := by decide +kernel
theorem dX3_law_40 : decode cX3_law 40 = .ok (.invokestatic 44, 3) := by decide +kernel
theorem dX3_law_43 : decode cX3_law 43 = .ok (.ifCond .eq 21, 3) := by decide +kernel
theorem dX3_law_46 : decode cX3_law 46 = .ok (.aload_n 0, 1) := by decide +kernel
theorem dX3_law_47 : decode cX3_law 47 = .ok (.getfield 10, 3) := by decide +kernel
theorem dX3_law_50 : decode cX3_law 50 = .ok (.getfield 52, 3) := by decide +kernel
theorem dX3_law_53 : decode cX3_law 53 = .ok (.istore_n 3, 1) := by decide +kernel
theorem dX3_law_54 : decode cX3_law 54 = .ok (.aload_n 0, 1) := by decide +kernel
theorem dX3_law_55 : decode cX3_law 55 = .ok (.getfield 10, 3) := by decide +kernel
theorem dX3_law_58 : decode cX3_law 58 = .ok (.iload_n 2, 1) := by decide +kernel
theorem dX3_law_59 : decode cX3_law 59 = .ok (.putfield 52, 3) := by decide +kernel
theorem dX3_law_62 : decode cX3_law 62 = .ok (.iload_n 3, 1) := by decide +kernel
theorem dX3_law_63 : decode cX3_law 63 = .ok (.ireturn, 1) := by decide +kernel
theorem dX3_law_64 : decode cX3_law 64 = .ok (.aload_n 0, 1) := by decide +kernel
theorem dX3_law_65 : decode cX3_law 65 = .ok (.ldc 55, 2) := by decide +kernel
theorem dX3_law_67 : decode cX3_law 67 = .ok (.invokevirtual 56, 3) := by decide +kernel
theorem dX3_law_70 : decode cX3_law 70 = .ok (.ireturn, 1) := by decide +kernel
theorem dX3_person_0 : decode cX3_person 0 = .ok (.iload_n 1, 1) := by decide +kernel
theorem dX3_person_1 : decode cX3_person 1 = .ok (.invokestatic 60, 3) := by decide +kernel
theorem dX3_person_4 : decode cX3_person 4 = .ok (.ifCond .eq 10, 3) := by decide +kernel
theorem dX3_person_7 : decode cX3_person 7 = .ok (.iload_n 2, 1) := by decide +kernel
theorem dX3_person_8 : decode cX3_person 8 = .ok (.invokestatic 64, 3) := by decide +kernel
theorem dX3_person_11 : decode cX3_person 11 = .ok (.ifCond .ne 10, 3) := by decide +kernel
theorem dX3_person_14 : decode cX3_person 14 = .ok (.aload_n 0, 1) := by decide +kernel
theorem dX3_person_15 : decode cX3_person 15 = .ok (.ldc 55, 2) := by decide +kernel
theorem dX3_person_17 : decode cX3_person 17 = .ok (.invokevirtual 56, 3) := by decide +kernel
theorem dX3_person_20 : decode cX3_person 20 = .ok (.ireturn, 1) := by decide +kernel
theorem dX3_person_21 : decode cX3_person 21 = .ok (.aload_n 0, 1) := by decide +kernel
theorem dX3_person_22 : decode cX3_person 22 = .ok (.getfield 10, 3) := by decide +kernel
theorem dX3_person_25 : decode cX3_person 25 = .ok (.getfield 67, 3) := by decide +kernel
theorem dX3_person_28 : decode cX3_person 28 = .ok (.bipush 8, 2) := by decide +kernel
theorem dX3_person_30 : decode cX3_person 30 = .ok (.if_icmp .lt 10, 3) := by decide +kernel
theorem dX3_person_33 : decode cX3_person 33 = .ok (.aload_n 0, 1) := by decide +kernel
theorem dX3_person_34 : decode cX3_person 34 = .ok (.ldc 70, 2) := by decide +kernel
theorem dX3_person_36 : decode cX3_person 36 = .ok (.invokevirtual 56, 3) := by decide +kernel
theorem dX3_person_39 : decode cX3_person 39 = .ok (.ireturn, 1) := by decide +kernel
theorem dX3_person_40 : decode cX3_person 40 = .ok (.aload_n 0, 1) := by decide +kernel
theorem dX3_person_41 : decode cX3_person 41 = .ok (.getfield 10, 3) := by decide +kernel
theorem dX3_person_44 : decode cX3_person 44 = .ok (.iload_n 1, 1) := by decide +kernel
theorem dX3_person_45 : decode cX3_person 45 = .ok (.iload_n 2, 1) := by decide +kernel
theorem dX3_person_46 : decode cX3_person 46 = .ok (.invokevirtual 71, 3) := by decide +kernel
theorem dX3_person_49 : decode cX3_person 49 = .ok (.ireturn, 1) := by decide +kernel
theorem dX3_of_0 : decode cX3_of 0 = .ok (.aload_n 0, 1) := by decide +kernel
theorem dX3_of_1 : decode cX3_of 1 = .ok (.getfield 10, 3) := by decide +kernel
theorem dX3_of_4 : decode cX3_of 4 = .ok (.iload_n 1, 1) := by decide +kernel
theorem dX3_of_5 : decode cX3_of 5 = .ok (.invokevirtual 75, 3) := by decide +kernel
theorem dX3_of_8 : decode cX3_of 8 = .ok (.ifCond .ne 10, 3) := by decide +kernel
theorem dX3_of_11 : decode cX3_of 11 = .ok (.aload_n 0, 1) := by decide +kernel
theorem dX3_of_12 : decode cX3_of 12 = .ok (.ldc 55, 2) := by decide +kernel
theorem dX3_of_14 : decode cX3_of 14 = .ok (.invokevirtual 56, 3) := by decide +kernel
theorem dX3_of_17 : decode cX3_of 17 = .ok (.ireturn, 1) := by decide +kernel
theorem dX3_of_18 : decode cX3_of 18 = .ok (.iload_n 2, 1) := by decide +kernel
theorem dX3_of_19 : decode cX3_of 19 = .ok (.tableswitch 95 0 5 #[37, 47, 57, 67, 77, 86], 37) := by decide +kernel
theorem dX3_of_56 : decode cX3_of 56 = .ok (.aload_n 0, 1) := by decide +kernel
theorem dX3_of_57 : decode cX3_of 57 = .ok (.getfield 10, 3) := by decide +kernel
theorem dX3_of_60 : decode cX3_of 60 = .ok (.getfield 78, 3) := by decide +kernel
theorem dX3_of_63 : decode cX3_of 63 = .ok (.iload_n 1, 1) := by decide +kernel
theorem dX3_of_64 : decode cX3_of 64 = .ok (.iaload, 1) := by decide +kernel
theorem dX3_of_65 : decode cX3_of 65 = .ok (.ireturn, 1) := by decide +kernel
theorem dX3_of_66 : decode cX3_of 66 = .ok (.aload_n 0, 1) := by decide +kernel
theorem dX3_of_67 : decode cX3_of 67 = .ok (.getfield 10, 3) := by decide +kernel
theorem dX3_of_70 : decode cX3_of 70 = .ok (.getfield 81, 3) := by decide +kernel
theorem dX3_of_73 : decode cX3_of 73 = .ok (.iload_n 1, 1) := by decide +kernel
theorem dX3_of_74 : decode cX3_of 74 = .ok (.iaload, 1) := by decide +kernel
theorem dX3_of_75 : decode cX3_of 75 = .ok (.ireturn, 1) := by decide +kernel
theorem dX3_of_76 : decode cX3_of 76 = .ok (.aload_n 0, 1) := by decide +kernel
theorem dX3_of_77 : decode cX3_of 77 = .ok (.getfield 10, 3) := by decide +kernel
theorem dX3_of_80 : decode cX3_of 80 = .ok (.getfield 84, 3) := by decide +kernel
theorem dX3_of_83 : decode cX3_of 83 = .ok (.iload_n 1, 1) := by decide +kernel
theorem dX3_of_84 : decode cX3_of 84 = .ok (.iaload, 1) := by decide +kernel
theorem dX3_of_85 : decode cX3_of 85 = .ok (.ireturn, 1) := by decide +kernel
theorem dX3_of_86 : decode cX3_of 86 = .ok (.aload_n 0, 1) := by decide +kernel
theorem dX3_of_87 : decode cX3_of 87 = .ok (.getfield 10, 3) := by decide +kernel
theorem dX3_of_90 : decode cX3_of 90 = .ok (.getfield 87, 3) := by decide +kernel
theorem dX3_of_93 : decode cX3_of 93 = .ok (.iload_n 1, 1) := by decide +kernel
theorem dX3_of_94 : decode cX3_of 94 = .ok (.iaload, 1) := by decide +kernel
theorem dX3_of_95 : decode cX3_of 95 = .ok (.ireturn, 1) := by decide +kernel
theorem dX3_of_96 : decode cX3_of 96 = .ok (.aload_n 0, 1) := by decide +kernel
theorem dX3_of_97 : decode cX3_of 97 = .ok (.getfield 10, 3) := by decide +kernel
theorem dX3_of_100 : decode cX3_of 100 = .ok (.iload_n 1, 1) := by decide +kernel
theorem dX3_of_101 : decode cX3_of 101 = .ok (.invokevirtual 90, 3) := by decide +kernel
theorem dX3_of_104 : decode cX3_of 104 = .ok (.ireturn, 1) := by decide +kernel
theorem dX3_of_105 : decode cX3_of 105 = .ok (.aload_n 0, 1) := by decide +kernel
theorem dX3_of_106 : decode cX3_of 106 = .ok (.getfield 10, 3) := by decide +kernel
theorem dX3_of_109 : decode cX3_of 109 = .ok (.iload_n 1, 1) := by decide +kernel
theorem dX3_of_110 : decode cX3_of 110 = .ok (.invokevirtual 93, 3) := by decide +kernel
theorem dX3_of_113 : decode cX3_of 113 = .ok (.ireturn, 1) := by decide +kernel
theorem dX3_of_114 : decode cX3_of 114 = .ok (.aload_n 0, 1) := by decide +kernel
theorem dX3_of_115 : decode cX3_of 115 = .ok (.ldc 55, 2) := by decide +kernel
theorem dX3_of_117 : decode cX3_of 117 = .ok (.invokevirtual 56, 3) := by decide +kernel
theorem dX3_of_120 : decode cX3_of 120 = .ok (.ireturn, 1) := by decide +kernel
theorem dX3_set_0 : decode cX3_set 0 = .ok (.aload_n 0, 1) := by decide +kernel
theorem dX3_set_1 : decode cX3_set 1 = .ok (.getfield 10, 3) := by decide +kernel
theorem dX3_set_4 : decode cX3_set 4 = .ok (.iload_n 1, 1) := by decide +kernel
theorem dX3_set_5 : decode cX3_set 5 = .ok (.invokevirtual 75, 3) := by decide +kernel
theorem dX3_set_8 : decode cX3_set 8 = .ok (.ifCond .ne 10, 3) := by decide +kernel
theorem dX3_set_11 : decode cX3_set 11 = .ok (.aload_n 0, 1) := by decide +kernel
theorem dX3_set_12 : decode cX3_set 12 = .ok (.ldc 55, 2) := by decide +kernel
theorem dX3_set_14 : decode cX3_set 14 = .ok (.invokevirtual 56, 3) := by decide +kernel
theorem dX3_set_17 : decode cX3_set 17 = .ok (.ireturn, 1) := by decide +kernel
theorem dX3_set_18 : decode cX3_set 18 = .ok (.iload_n 2, 1) := by decide +kernel
theorem dX3_set_19 : decode cX3_set 19 = .ok (.iconst 1, 1) := by decide +kernel
theorem dX3_set_20 : decode cX3_set 20 = .ok (.if_icmp .ne 23, 3) := by decide +kernel
theorem dX3_set_23 : decode cX3_set 23 = .ok (.iload_n 3, 1) := by decide +kernel
theorem dX3_set_24 : decode cX3_set 24 = .ok (.invokestatic 64, 3) := by decide +kernel
theorem dX3_set_27 : decode cX3_set 27 = .ok (.ifCond .eq 16, 3) := by decide +kernel
theorem dX3_set_30 : decode cX3_set 30 = .ok (.aload_n 0, 1) := by decide +kernel
theorem dX3_set_31 : decode cX3_set 31 = .ok (.getfield 10, 3) := by decide +kernel
theorem dX3_set_34 : decode cX3_set 34 = .ok (.getfield 81, 3) := by decide +kernel
theorem dX3_set_37 : decode cX3_set 37 = .ok (.iload_n 1, 1) := by decide +kernel
theorem dX3_set_38 : decode cX3_set 38 = .ok (.iload_n 3, 1) := by decide +kernel
theorem dX3_set_39 : decode cX3_set 39 = .ok (.invokestatic 96, 3) := by decide +kernel
theorem dX3_set_42 : decode cX3_set 42 = .ok (.ireturn, 1) := by decide +kernel
theorem dX3_set_43 : decode cX3_set 43 = .ok (.iload_n 2, 1) := by decide +kernel
theorem dX3_set_44 : decode cX3_set 44 = .ok (.iconst 2, 1) := by decide +kernel
theorem dX3_set_45 : decode cX3_set 45 = .ok (.if_icmp .ne 26, 3) := by decide +kernel
theorem dX3_set_48 : decode cX3_set 48 = .ok (.iload_n 3, 1) := by decide +kernel
theorem dX3_set_49 : decode cX3_set 49 = .ok (.iconst 0, 1) := by decide +kernel
theorem dX3_set_50 : decode cX3_set 50 = .ok (.bipush 9, 2) := by decide +kernel
theorem dX3_set_52 : decode cX3_set 52 = .ok (.invokestatic 44, 3) := by decide +kernel
theorem dX3_set_55 : decode cX3_set 55 = .ok (.ifCond .eq 16, 3) := by decide +kernel
theorem dX3_set_58 : decode cX3_set 58 = .ok (.aload_n 0, 1) := by decide +kernel
theorem dX3_set_59 : decode cX3_set 59 = .ok (.getfield 10, 3) := by decide +kernel
theorem dX3_set_62 : decode cX3_set 62 = .ok (.getfield 84, 3) := by decide +kernel
theorem dX3_set_65 : decode cX3_set 65 = .ok (.iload_n 1, 1) := by decide +kernel
theorem dX3_set_66 : decode cX3_set 66 = .ok (.iload_n 3, 1) := by decide +kernel
theorem dX3_set_67 : decode cX3_set 67 = .ok (.invokestatic 96, 3) := by decide +kernel
theorem dX3_set_70 : decode cX3_set 70 = .ok (.ireturn, 1) := by decide +kernel
theorem dX3_set_71 : decode cX3_set 71 = .ok (.iload_n 2, 1) := by decide +kernel
theorem dX3_set_72 : decode cX3_set 72 = .ok (.iconst 3, 1) := by decide +kernel
theorem dX3_set_73 : decode cX3_set 73 = .ok (.if_icmp .ne 25, 3) := by decide +kernel
theorem dX3_set_76 : decode cX3_set 76 = .ok (.iload_n 3, 1) := by decide +kernel
theorem dX3_set_77 : decode cX3_set 77 = .ok (.iconst 0, 1) := by decide +kernel
theorem dX3_set_78 : decode cX3_set 78 = .ok (.iconst 1, 1) := by decide +kernel
theorem dX3_set_79 : decode cX3_set 79 = .ok (.invokestatic 44, 3) := by decide +kernel
theorem dX3_set_82 : decode cX3_set 82 = .ok (.ifCond .eq 16, 3) := by decide +kernel
theorem dX3_set_85 : decode cX3_set 85 = .ok (.aload_n 0, 1) := by decide +kernel
theorem dX3_set_86 : decode cX3_set 86 = .ok (.getfield 10, 3) := by decide +kernel
theorem dX3_set_89 : decode cX3_set 89 = .ok (.getfield 87, 3) := by decide +kernel
theorem dX3_set_92 : decode cX3_set 92 = .ok (.iload_n 1, 1) := by decide +kernel
theorem dX3_set_93 : decode cX3_set 93 = .ok (.iload_n 3, 1) := by decide +kernel
theorem dX3_set_94 : decode cX3_set 94 = .ok (.invokestatic 96, 3) := by decide +kernel
theorem dX3_set_97 : decode cX3_set 97 = .ok (.ireturn, 1) := by decide +kernel
theorem dX3_set_98 : decode cX3_set 98 = .ok (.aload_n 0, 1) := by decide +kernel
theorem dX3_set_99 : decode cX3_set 99 = .ok (.ldc 55, 2) := by decide +kernel
theorem dX3_set_101 : decode cX3_set 101 = .ok (.invokevirtual 56, 3) := by decide +kernel
theorem dX3_set_104 : decode cX3_set 104 = .ok (.ireturn, 1) := by decide +kernel
theorem dX3_did_0 : decode cX3_did 0 = .ok (.aload_n 0, 1) := by decide +kernel
theorem dX3_did_1 : decode cX3_did 1 = .ok (.getfield 10, 3) := by decide +kernel
theorem dX3_did_4 : decode cX3_did 4 = .ok (.iload_n 1, 1) := by decide +kernel
theorem dX3_did_5 : decode cX3_did 5 = .ok (.invokevirtual 75, 3) := by decide +kernel
theorem dX3_did_8 : decode cX3_did 8 = .ok (.ifCond .eq 20, 3) := by decide +kernel
theorem dX3_did_11 : decode cX3_did 11 = .ok (.iload_n 2, 1) := by decide +kernel
theorem dX3_did_12 : decode cX3_did 12 = .ok (.invokestatic 100, 3) := by decide +kernel
theorem dX3_did_15 : decode cX3_did 15 = .ok (.ifCond .eq 13, 3) := by decide +kernel
theorem dX3_did_18 : decode cX3_did 18 = .ok (.iload_n 3, 1) := by decide +kernel
theorem dX3_did_19 : decode cX3_did 19 = .ok (.iconst 0, 1) := by decide +kernel
theorem dX3_did_20 : decode cX3_did 20 = .ok (.bipush 99, 2) := by decide +kernel
theorem dX3_did_22 : decode cX3_did 22 = .ok (.invokestatic 44, 3) := by decide +kernel
theorem dX3_did_25 : decode cX3_did 25 = .ok (.ifCond .ne 10, 3) := by decide +kernel
theorem dX3_did_28 : decode cX3_did 28 = .ok (.aload_n 0, 1) := by decide +kernel
theorem dX3_did_29 : decode cX3_did 29 = .ok (.ldc 55, 2) := by decide +kernel
theorem dX3_did_31 : decode cX3_did 31 = .ok (.invokevirtual 56, 3) := by decide +kernel
theorem dX3_did_34 : decode cX3_did 34 = .ok (.ireturn, 1) := by decide +kernel
theorem dX3_did_35 : decode cX3_did 35 = .ok (.aload_n 0, 1) := by decide +kernel
theorem dX3_did_36 : decode cX3_did 36 = .ok (.getfield 10, 3) := by decide +kernel
theorem dX3_did_39 : decode cX3_did 39 = .ok (.getfield 103, 3) := by decide +kernel
theorem dX3_did_42 : decode cX3_did 42 = .ok (.iload_n 2, 1) := by decide +kernel
theorem dX3_did_43 : decode cX3_did 43 = .ok (.aaload, 1) := by decide +kernel
theorem dX3_did_44 : decode cX3_did 44 = .ok (.iload_n 1, 1) := by decide +kernel
theorem dX3_did_45 : decode cX3_did 45 = .ok (.iload_n 3, 1) := by decide +kernel
theorem dX3_did_46 : decode cX3_did 46 = .ok (.invokestatic 96, 3) := by decide +kernel
theorem dX3_did_49 : decode cX3_did 49 = .ok (.ireturn, 1) := by decide +kernel
theorem dX3_scent_0 : decode cX3_scent 0 = .ok (.aload_n 0, 1) := by decide +kernel
theorem dX3_scent_1 : decode cX3_scent 1 = .ok (.getfield 10, 3) := by decide +kernel
theorem dX3_scent_4 : decode cX3_scent 4 = .ok (.iload_n 1, 1) := by decide +kernel
theorem dX3_scent_5 : decode cX3_scent 5 = .ok (.invokevirtual 75, 3) := by decide +kernel
theorem dX3_scent_8 : decode cX3_scent 8 = .ok (.ifCond .eq 19, 3) := by decide +kernel
theorem dX3_scent_11 : decode cX3_scent 11 = .ok (.iload_n 2, 1) := by decide +kernel
theorem dX3_scent_12 : decode cX3_scent 12 = .ok (.invokestatic 100, 3) := by decide +kernel
theorem dX3_scent_15 : decode cX3_scent 15 = .ok (.ifCond .eq 12, 3) := by decide +kernel
theorem dX3_scent_18 : decode cX3_scent 18 = .ok (.iload_n 3, 1) := by decide +kernel
theorem dX3_scent_19 : decode cX3_scent 19 = .ok (.iconst 0, 1) := by decide +kernel
theorem dX3_scent_20 : decode cX3_scent 20 = .ok (.iconst 1, 1) := by decide +kernel
theorem dX3_scent_21 : decode cX3_scent 21 = .ok (.invokestatic 44, 3) := by decide +kernel
theorem dX3_scent_24 : decode cX3_scent 24 = .ok (.ifCond .ne 10, 3) := by decide +kernel
theorem dX3_scent_27 : decode cX3_scent 27 = .ok (.aload_n 0, 1) := by decide +kernel
theorem dX3_scent_28 : decode cX3_scent 28 = .ok (.ldc 55, 2) := by decide +kernel
theorem dX3_scent_30 : decode cX3_scent 30 = .ok (.invokevirtual 56, 3) := by decide +kernel
theorem dX3_scent_33 : decode cX3_scent 33 = .ok (.ireturn, 1) := by decide +kernel
theorem dX3_scent_34 : decode cX3_scent 34 = .ok (.iload_n 3, 1) := by decide +kernel
theorem dX3_scent_35 : decode cX3_scent 35 = .ok (.ifCond .ne 17, 3) := by decide +kernel
theorem dX3_scent_38 : decode cX3_scent 38 = .ok (.aload_n 0, 1) := by decide +kernel
theorem dX3_scent_39 : decode cX3_scent 39 = .ok (.getfield 10, 3) := by decide +kernel
theorem dX3_scent_42 : decode cX3_scent 42 = .ok (.getfield 103, 3) := by decide +kernel
theorem dX3_scent_45 : decode cX3_scent 45 = .ok (.iload_n 2, 1) := by decide +kernel
theorem dX3_scent_46 : decode cX3_scent 46 = .ok (.aaload, 1) := by decide +kernel
theorem dX3_scent_47 : decode cX3_scent 47 = .ok (.iload_n 1, 1) := by decide +kernel
theorem dX3_scent_48 : decode cX3_scent 48 = .ok (.iaload, 1) := by decide +kernel
theorem dX3_scent_49 : decode cX3_scent 49 = .ok (.goto 12, 3) := by decide +kernel
theorem dX3_scent_52 : decode cX3_scent 52 = .ok (.aload_n 0, 1) := by decide +kernel
theorem dX3_scent_53 : decode cX3_scent 53 = .ok (.getfield 10, 3) := by decide +kernel
theorem dX3_scent_56 : decode cX3_scent 56 = .ok (.iload_n 1, 1) := by decide +kernel
theorem dX3_scent_57 : decode cX3_scent 57 = .ok (.iload_n 2, 1) := by decide +kernel
theorem dX3_scent_58 : decode cX3_scent 58 = .ok (.invokevirtual 107, 3) := by decide +kernel
theorem dX3_scent_61 : decode cX3_scent 61 = .ok (.ireturn, 1) := by decide +kernel
theorem dX3_turn_0 : decode cX3_turn 0 = .ok (.aload_n 0, 1) := by decide +kernel
theorem dX3_turn_1 : decode cX3_turn 1 = .ok (.getfield 10, 3) := by decide +kernel
theorem dX3_turn_4 : decode cX3_turn 4 = .ok (.iload_n 1, 1) := by decide +kernel
theorem dX3_turn_5 : decode cX3_turn 5 = .ok (.invokevirtual 75, 3) := by decide +kernel
theorem dX3_turn_8 : decode cX3_turn 8 = .ok (.ifCond .eq 10, 3) := by decide +kernel
theorem dX3_turn_11 : decode cX3_turn 11 = .ok (.iload_n 2, 1) := by decide +kernel
theorem dX3_turn_12 : decode cX3_turn 12 = .ok (.invokestatic 60, 3) := by decide +kernel
theorem dX3_turn_15 : decode cX3_turn 15 = .ok (.ifCond .ne 10, 3) := by decide +kernel
theorem dX3_turn_18 : decode cX3_turn 18 = .ok (.aload_n 0, 1) := by decide +kernel
theorem dX3_turn_19 : decode cX3_turn 19 = .ok (.ldc 55, 2) := by decide +kernel
theorem dX3_turn_21 : decode cX3_turn 21 = .ok (.invokevirtual 56, 3) := by decide +kernel
theorem dX3_turn_24 : decode cX3_turn 24 = .ok (.ireturn, 1) := by decide +kernel
theorem dX3_turn_25 : decode cX3_turn 25 = .ok (.aload_n 0, 1) := by decide +kernel
theorem dX3_turn_26 : decode cX3_turn 26 = .ok (.getfield 10, 3) := by decide +kernel
theorem dX3_turn_29 : decode cX3_turn 29 = .ok (.getfield 78, 3) := by decide +kernel
theorem dX3_turn_32 : decode cX3_turn 32 = .ok (.iload_n 1, 1) := by decide +kernel
theorem dX3_turn_33 : decode cX3_turn 33 = .ok (.iload_n 2, 1) := by decide +kernel
theorem dX3_turn_34 : decode cX3_turn 34 = .ok (.invokestatic 96, 3) := by decide +kernel
theorem dX3_turn_37 : decode cX3_turn 37 = .ok (.ireturn, 1) := by decide +kernel
theorem dX3_as_0 : decode cX3_as 0 = .ok (.aload_n 0, 1) := by decide +kernel
theorem dX3_as_1 : decode cX3_as 1 = .ok (.getfield 10, 3) := by decide +kernel
theorem dX3_as_4 : decode cX3_as 4 = .ok (.iload_n 1, 1) := by decide +kernel
theorem dX3_as_5 : decode cX3_as 5 = .ok (.invokevirtual 75, 3) := by decide +kernel
theorem dX3_as_8 : decode cX3_as 8 = .ok (.ifCond .eq 10, 3) := by decide +kernel
theorem dX3_as_11 : decode cX3_as 11 = .ok (.iload_n 2, 1) := by decide +kernel
theorem dX3_as_12 : decode cX3_as 12 = .ok (.invokestatic 60, 3) := by decide +kernel
theorem dX3_as_15 : decode cX3_as 15 = .ok (.ifCond .ne 10, 3) := by decide +kernel
theorem dX3_as_18 : decode cX3_as 18 = .ok (.aload_n 0, 1) := by decide +kernel
theorem dX3_as_19 : decode cX3_as 19 = .ok (.ldc 55, 2) := by decide +kernel
theorem dX3_as_21 : decode cX3_as 21 = .ok (.invokevirtual 56, 3) := by decide +kernel
theorem dX3_as_24 : decode cX3_as 24 = .ok (.ireturn, 1) := by decide +kernel
theorem dX3_as_25 : decode cX3_as 25 = .ok (.aload_n 0, 1) := by decide +kernel
theorem dX3_as_26 : decode cX3_as 26 = .ok (.getfield 10, 3) := by decide +kernel
theorem dX3_as_29 : decode cX3_as 29 = .ok (.getfield 78, 3) := by decide +kernel
theorem dX3_as_32 : decode cX3_as 32 = .ok (.iload_n 1, 1) := by decide +kernel
theorem dX3_as_33 : decode cX3_as 33 = .ok (.iaload, 1) := by decide +kernel
theorem dX3_as_34 : decode cX3_as 34 = .ok (.iload_n 2, 1) := by decide +kernel
theorem dX3_as_35 : decode cX3_as 35 = .ok (.invokestatic 110, 3) := by decide +kernel
theorem dX3_as_38 : decode cX3_as 38 = .ok (.ifCond .ne 10, 3) := by decide +kernel
theorem dX3_as_41 : decode cX3_as 41 = .ok (.aload_n 0, 1) := by decide +kernel
theorem dX3_as_42 : decode cX3_as 42 = .ok (.ldc 114, 2) := by decide +kernel
theorem dX3_as_44 : decode cX3_as 44 = .ok (.invokevirtual 56, 3) := by decide +kernel
theorem dX3_as_47 : decode cX3_as 47 = .ok (.ireturn, 1) := by decide +kernel
theorem dX3_as_48 : decode cX3_as 48 = .ok (.aload_n 0, 1) := by decide +kernel
theorem dX3_as_49 : decode cX3_as 49 = .ok (.getfield 10, 3) := by decide +kernel
theorem dX3_as_52 : decode cX3_as 52 = .ok (.getfield 84, 3) := by decide +kernel
theorem dX3_as_55 : decode cX3_as 55 = .ok (.iload_n 1, 1) := by decide +kernel
theorem dX3_as_56 : decode cX3_as 56 = .ok (.iaload, 1) := by decide +kernel
theorem dX3_as_57 : decode cX3_as 57 = .ok (.ireturn, 1) := by decide +kernel
theorem dX3_wash_0 : decode cX3_wash 0 = .ok (.aload_n 0, 1) := by decide +kernel
theorem dX3_wash_1 : decode cX3_wash 1 = .ok (.getfield 10, 3) := by decide +kernel
theorem dX3_wash_4 : decode cX3_wash 4 = .ok (.iload_n 1, 1) := by decide +kernel
theorem dX3_wash_5 : decode cX3_wash 5 = .ok (.invokevirtual 75, 3) := by decide +kernel
theorem dX3_wash_8 : decode cX3_wash 8 = .ok (.ifCond .ne 10, 3) := by decide +kernel
theorem dX3_wash_11 : decode cX3_wash 11 = .ok (.aload_n 0, 1) := by decide +kernel
theorem dX3_wash_12 : decode cX3_wash 12 = .ok (.ldc 55, 2) := by decide +kernel
theorem dX3_wash_14 : decode cX3_wash 14 = .ok (.invokevirtual 56, 3) := by decide +kernel
theorem dX3_wash_17 : decode cX3_wash 17 = .ok (.ireturn, 1) := by decide +kernel
theorem dX3_wash_18 : decode cX3_wash 18 = .ok (.aload_n 0, 1) := by decide +kernel
theorem dX3_wash_19 : decode cX3_wash 19 = .ok (.getfield 10, 3) := by decide +kernel
theorem dX3_wash_22 : decode cX3_wash 22 = .ok (.iload_n 1, 1) := by decide +kernel
theorem dX3_wash_23 : decode cX3_wash 23 = .ok (.invokevirtual 115, 3) := by decide +kernel
theorem dX3_wash_26 : decode cX3_wash 26 = .ok (.ireturn, 1) := by decide +kernel
theorem dX3_meet_0 : decode cX3_meet 0 = .ok (.aload_n 0, 1) := by decide +kernel
theorem dX3_meet_1 : decode cX3_meet 1 = .ok (.getfield 10, 3) := by decide +kernel
theorem dX3_meet_4 : decode cX3_meet 4 = .ok (.iload_n 1, 1) := by decide +kernel
theorem dX3_meet_5 : decode cX3_meet 5 = .ok (.iload_n 2, 1) := by decide +kernel
theorem dX3_meet_6 : decode cX3_meet 6 = .ok (.invokevirtual 118, 3) := by decide +kernel
theorem dX3_meet_9 : decode cX3_meet 9 = .ok (.ifCond .ne 10, 3) := by decide +kernel
theorem dX3_meet_12 : decode cX3_meet 12 = .ok (.aload_n 0, 1) := by decide +kernel
theorem dX3_meet_13 : decode cX3_meet 13 = .ok (.ldc 55, 2) := by decide +kernel
theorem dX3_meet_15 : decode cX3_meet 15 = .ok (.invokevirtual 56, 3) := by decide +kernel
theorem dX3_meet_18 : decode cX3_meet 18 = .ok (.ireturn, 1) := by decide +kernel
theorem dX3_meet_19 : decode cX3_meet 19 = .ok (.iconst 0, 1) := by decide +kernel
theorem dX3_meet_20 : decode cX3_meet 20 = .ok (.istore_n 3, 1) := by decide +kernel
theorem dX3_meet_21 : decode cX3_meet 21 = .ok (.iconst 0, 1) := by decide +kernel
theorem dX3_meet_22 : decode cX3_meet 22 = .ok (.istore 4, 2) := by decide +kernel
theorem dX3_meet_24 : decode cX3_meet 24 = .ok (.iload 4, 2) := by decide +kernel
theorem dX3_meet_26 : decode cX3_meet 26 = .ok (.bipush 6, 2) := by decide +kernel
theorem dX3_meet_28 : decode cX3_meet 28 = .ok (.if_icmp .ge 74, 3) := by decide +kernel
theorem dX3_meet_31 : decode cX3_meet 31 = .ok (.aload_n 0, 1) := by decide +kernel
theorem dX3_meet_32 : decode cX3_meet 32 = .ok (.getfield 10, 3) := by decide +kernel
theorem dX3_meet_35 : decode cX3_meet 35 = .ok (.getfield 103, 3) := by decide +kernel
theorem dX3_meet_38 : decode cX3_meet 38 = .ok (.iload 4, 2) := by decide +kernel
theorem dX3_meet_40 : decode cX3_meet 40 = .ok (.aaload, 1) := by decide +kernel
theorem dX3_meet_41 : decode cX3_meet 41 = .ok (.astore 5, 2) := by decide +kernel
theorem dX3_meet_43 : decode cX3_meet 43 = .ok (.aload 5, 2) := by decide +kernel
theorem dX3_meet_45 : decode cX3_meet 45 = .ok (.iload_n 1, 1) := by decide +kernel
theorem dX3_meet_46 : decode cX3_meet 46 = .ok (.iaload, 1) := by decide +kernel
theorem dX3_meet_47 : decode cX3_meet 47 = .ok (.aload 5, 2) := by decide +kernel
theorem dX3_meet_49 : decode cX3_meet 49 = .ok (.iload_n 2, 1) := by decide +kernel
theorem dX3_meet_50 : decode cX3_meet 50 = .ok (.iaload, 1) := by decide +kernel
theorem dX3_meet_51 : decode cX3_meet 51 = .ok (.invokestatic 121, 3) := by decide +kernel
theorem dX3_meet_54 : decode cX3_meet 54 = .ok (.iconst 2, 1) := by decide +kernel
theorem dX3_meet_55 : decode cX3_meet 55 = .ok (.idiv, 1) := by decide +kernel
theorem dX3_meet_56 : decode cX3_meet 56 = .ok (.istore 6, 2) := by decide +kernel
theorem dX3_meet_58 : decode cX3_meet 58 = .ok (.aload 5, 2) := by decide +kernel
theorem dX3_meet_60 : decode cX3_meet 60 = .ok (.iload_n 1, 1) := by decide +kernel
theorem dX3_meet_61 : decode cX3_meet 61 = .ok (.iaload, 1) := by decide +kernel
theorem dX3_meet_62 : decode cX3_meet 62 = .ok (.aload 5, 2) := by decide +kernel
theorem dX3_meet_64 : decode cX3_meet 64 = .ok (.iload_n 2, 1) := by decide +kernel
theorem dX3_meet_65 : decode cX3_meet 65 = .ok (.iaload, 1) := by decide +kernel
theorem dX3_meet_66 : decode cX3_meet 66 = .ok (.if_icmp .ge 7, 3) := by decide +kernel
theorem dX3_meet_69 : decode cX3_meet 69 = .ok (.iload_n 1, 1) := by decide +kernel
theorem dX3_meet_70 : decode cX3_meet 70 = .ok (.goto 4, 3) := by decide +kernel
theorem dX3_meet_73 : decode cX3_meet 73 = .ok (.iload_n 2, 1) := by decide +kernel
theorem dX3_meet_74 : decode cX3_meet 74 = .ok (.istore 7, 2) := by decide +kernel
theorem dX3_meet_76 : decode cX3_meet 76 = .ok (.aload 5, 2) := by decide +kernel
theorem dX3_meet_78 : decode cX3_meet 78 = .ok (.iload 7, 2) := by decide +kernel
theorem dX3_meet_80 : decode cX3_meet 80 = .ok (.iaload, 1) := by decide +kernel
theorem dX3_meet_81 : decode cX3_meet 81 = .ok (.iload 6, 2) := by decide +kernel
theorem dX3_meet_83 : decode cX3_meet 83 = .ok (.if_icmp .ge 13, 3) := by decide +kernel
theorem dX3_meet_86 : decode cX3_meet 86 = .ok (.aload 5, 2) := by decide +kernel
theorem dX3_meet_88 : decode cX3_meet 88 = .ok (.iload 7, 2) := by decide +kernel
theorem dX3_meet_90 : decode cX3_meet 90 = .ok (.iload 6, 2) := by decide +kernel
theorem dX3_meet_92 : decode cX3_meet 92 = .ok (.iastore, 1) := by decide +kernel
theorem dX3_meet_93 : decode cX3_meet 93 = .ok (.iinc 3 1, 3) := by decide +kernel
theorem dX3_meet_96 : decode cX3_meet 96 = .ok (.iinc 4 1, 3) := by decide +kernel
theorem dX3_meet_99 : decode cX3_meet 99 = .ok (.goto (-75), 3) := by decide +kernel
theorem dX3_meet_102 : decode cX3_meet 102 = .ok (.iload_n 3, 1) := by decide +kernel
theorem dX3_meet_103 : decode cX3_meet 103 = .ok (.ireturn, 1) := by decide +kernel
theorem dX3_smells_0 : decode cX3_smells 0 = .ok (.aload_n 0, 1) := by decide +kernel
theorem dX3_smells_1 : decode cX3_smells 1 = .ok (.getfield 10, 3) := by decide +kernel
theorem dX3_smells_4 : decode cX3_smells 4 = .ok (.iload_n 1, 1) := by decide +kernel
theorem dX3_smells_5 : decode cX3_smells 5 = .ok (.iload_n 2, 1) := by decide +kernel
theorem dX3_smells_6 : decode cX3_smells 6 = .ok (.invokevirtual 118, 3) := by decide +kernel
theorem dX3_smells_9 : decode cX3_smells 9 = .ok (.ifCond .eq 10, 3) := by decide +kernel
theorem dX3_smells_12 : decode cX3_smells 12 = .ok (.iload_n 3, 1) := by decide +kernel
theorem dX3_smells_13 : decode cX3_smells 13 = .ok (.invokestatic 100, 3) := by decide +kernel
theorem dX3_smells_16 : decode cX3_smells 16 = .ok (.ifCond .ne 10, 3) := by decide +kernel
theorem dX3_smells_19 : decode cX3_smells 19 = .ok (.aload_n 0, 1) := by decide +kernel
theorem dX3_smells_20 : decode cX3_smells 20 = .ok (.ldc 55, 2) := by decide +kernel
theorem dX3_smells_22 : decode cX3_smells 22 = .ok (.invokevirtual 56, 3) := by decide +kernel
theorem dX3_smells_25 : decode cX3_smells 25 = .ok (.ireturn, 1) := by decide +kernel
theorem dX3_smells_26 : decode cX3_smells 26 = .ok (.aload_n 0, 1) := by decide +kernel
theorem dX3_smells_27 : decode cX3_smells 27 = .ok (.getfield 10, 3) := by decide +kernel
theorem dX3_smells_30 : decode cX3_smells 30 = .ok (.iload_n 1, 1) := by decide +kernel
theorem dX3_smells_31 : decode cX3_smells 31 = .ok (.iload_n 2, 1) := by decide +kernel
theorem dX3_smells_32 : decode cX3_smells 32 = .ok (.iload_n 3, 1) := by decide +kernel
theorem dX3_smells_33 : decode cX3_smells 33 = .ok (.invokevirtual 126, 3) := by decide +kernel
theorem dX3_smells_36 : decode cX3_smells 36 = .ok (.ireturn, 1) := by decide +kernel
theorem dX3_deed_0 : decode cX3_deed 0 = .ok (.aload_n 0, 1) := by decide +kernel
theorem dX3_deed_1 : decode cX3_deed 1 = .ok (.getfield 10, 3) := by decide +kernel
theorem dX3_deed_4 : decode cX3_deed 4 = .ok (.iload_n 1, 1) := by decide +kernel
theorem dX3_deed_5 : decode cX3_deed 5 = .ok (.iload_n 2, 1) := by decide +kernel
theorem dX3_deed_6 : decode cX3_deed 6 = .ok (.invokevirtual 118, 3) := by decide +kernel
theorem dX3_deed_9 : decode cX3_deed 9 = .ok (.ifCond .ne 10, 3) := by decide +kernel
theorem dX3_deed_12 : decode cX3_deed 12 = .ok (.aload_n 0, 1) := by decide +kernel
theorem dX3_deed_13 : decode cX3_deed 13 = .ok (.ldc 55, 2) := by decide +kernel
theorem dX3_deed_15 : decode cX3_deed 15 = .ok (.invokevirtual 56, 3) := by decide +kernel
theorem dX3_deed_18 : decode cX3_deed 18 = .ok (.ireturn, 1) := by decide +kernel
theorem dX3_deed_19 : decode cX3_deed 19 = .ok (.iconst (-1), 1) := by decide +kernel
theorem dX3_deed_20 : decode cX3_deed 20 = .ok (.istore_n 3, 1) := by decide +kernel
theorem dX3_deed_21 : decode cX3_deed 21 = .ok (.iconst 0, 1) := by decide +kernel
theorem dX3_deed_22 : decode cX3_deed 22 = .ok (.istore 4, 2) := by decide +kernel
theorem dX3_deed_24 : decode cX3_deed 24 = .ok (.iconst 0, 1) := by decide +kernel
theorem dX3_deed_25 : decode cX3_deed 25 = .ok (.istore 5, 2) := by decide +kernel
theorem dX3_deed_27 : decode cX3_deed 27 = .ok (.iload 5, 2) := by decide +kernel
theorem dX3_deed_29 : decode cX3_deed 29 = .ok (.bipush 6, 2) := by decide +kernel
theorem dX3_deed_31 : decode cX3_deed 31 = .ok (.if_icmp .ge 36, 3) := by decide +kernel
theorem dX3_deed_34 : decode cX3_deed 34 = .ok (.aload_n 0, 1) := by decide +kernel
theorem dX3_deed_35 : decode cX3_deed 35 = .ok (.getfield 10, 3) := by decide +kernel
theorem dX3_deed_38 : decode cX3_deed 38 = .ok (.iload_n 1, 1) := by decide +kernel
theorem dX3_deed_39 : decode cX3_deed 39 = .ok (.iload_n 2, 1) := by decide +kernel
theorem dX3_deed_40 : decode cX3_deed 40 = .ok (.iload 5, 2) := by decide +kernel
theorem dX3_deed_42 : decode cX3_deed 42 = .ok (.invokevirtual 126, 3) := by decide +kernel
theorem dX3_deed_45 : decode cX3_deed 45 = .ok (.istore 6, 2) := by decide +kernel
theorem dX3_deed_47 : decode cX3_deed 47 = .ok (.iload 6, 2) := by decide +kernel
theorem dX3_deed_49 : decode cX3_deed 49 = .ok (.iload 4, 2) := by decide +kernel
theorem dX3_deed_51 : decode cX3_deed 51 = .ok (.if_icmp .le 10, 3) := by decide +kernel
theorem dX3_deed_54 : decode cX3_deed 54 = .ok (.iload 6, 2) := by decide +kernel
theorem dX3_deed_56 : decode cX3_deed 56 = .ok (.istore 4, 2) := by decide +kernel
theorem dX3_deed_58 : decode cX3_deed 58 = .ok (.iload 5, 2) := by decide +kernel
theorem dX3_deed_60 : decode cX3_deed 60 = .ok (.istore_n 3, 1) := by decide +kernel
theorem dX3_deed_61 : decode cX3_deed 61 = .ok (.iinc 5 1, 3) := by decide +kernel
theorem dX3_deed_64 : decode cX3_deed 64 = .ok (.goto (-37), 3) := by decide +kernel
theorem dX3_deed_67 : decode cX3_deed 67 = .ok (.iload_n 3, 1) := by decide +kernel
theorem dX3_deed_68 : decode cX3_deed 68 = .ok (.ifCond .ge 12, 3) := by decide +kernel
theorem dX3_deed_71 : decode cX3_deed 71 = .ok (.aload_n 0, 1) := by decide +kernel
theorem dX3_deed_72 : decode cX3_deed 72 = .ok (.ldc 130, 2) := by decide +kernel
theorem dX3_deed_74 : decode cX3_deed 74 = .ok (.invokevirtual 56, 3) := by decide +kernel
theorem dX3_deed_77 : decode cX3_deed 77 = .ok (.goto 4, 3) := by decide +kernel
theorem dX3_deed_80 : decode cX3_deed 80 = .ok (.iload_n 3, 1) := by decide +kernel
theorem dX3_deed_81 : decode cX3_deed 81 = .ok (.ireturn, 1) := by decide +kernel
theorem dX3_guilty_0 : decode cX3_guilty 0 = .ok (.aload_n 0, 1) := by decide +kernel
theorem dX3_guilty_1 : decode cX3_guilty 1 = .ok (.getfield 10, 3) := by decide +kernel
theorem dX3_guilty_4 : decode cX3_guilty 4 = .ok (.iload_n 1, 1) := by decide +kernel
theorem dX3_guilty_5 : decode cX3_guilty 5 = .ok (.invokevirtual 75, 3) := by decide +kernel
theorem dX3_guilty_8 : decode cX3_guilty 8 = .ok (.ifCond .ne 10, 3) := by decide +kernel
theorem dX3_guilty_11 : decode cX3_guilty 11 = .ok (.aload_n 0, 1) := by decide +kernel
theorem dX3_guilty_12 : decode cX3_guilty 12 = .ok (.ldc 55, 2) := by decide +kernel
theorem dX3_guilty_14 : decode cX3_guilty 14 = .ok (.invokevirtual 56, 3) := by decide +kernel
theorem dX3_guilty_17 : decode cX3_guilty 17 = .ok (.ireturn, 1) := by decide +kernel
theorem dX3_guilty_18 : decode cX3_guilty 18 = .ok (.aload_n 0, 1) := by decide +kernel
theorem dX3_guilty_19 : decode cX3_guilty 19 = .ok (.getfield 10, 3) := by decide +kernel
theorem dX3_guilty_22 : decode cX3_guilty 22 = .ok (.iload_n 1, 1) := by decide +kernel
theorem dX3_guilty_23 : decode cX3_guilty 23 = .ok (.invokevirtual 131, 3) := by decide +kernel
theorem dX3_guilty_26 : decode cX3_guilty 26 = .ok (.ireturn, 1) := by decide +kernel
theorem dX3_convicts_0 : decode cX3_convicts 0 = .ok (.iload_n 1, 1) := by decide +kernel
theorem dX3_convicts_1 : decode cX3_convicts 1 = .ok (.iconst 1, 1) := by decide +kernel
theorem dX3_convicts_2 : decode cX3_convicts 2 = .ok (.aload_n 0, 1) := by decide +kernel
theorem dX3_convicts_3 : decode cX3_convicts 3 = .ok (.getfield 10, 3) := by decide +kernel
theorem dX3_convicts_6 : decode cX3_convicts 6 = .ok (.invokevirtual 134, 3) := by decide +kernel
theorem dX3_convicts_9 : decode cX3_convicts 9 = .ok (.invokestatic 44, 3) := by decide +kernel
theorem dX3_convicts_12 : decode cX3_convicts 12 = .ok (.ifCond .eq 14, 3) := by decide +kernel
theorem dX3_convicts_15 : decode cX3_convicts 15 = .ok (.aload_n 0, 1) := by decide +kernel
theorem dX3_convicts_16 : decode cX3_convicts 16 = .ok (.getfield 10, 3) := by decide +kernel
theorem dX3_convicts_19 : decode cX3_convicts 19 = .ok (.iload_n 2, 1) := by decide +kernel
theorem dX3_convicts_20 : decode cX3_convicts 20 = .ok (.invokevirtual 75, 3) := by decide +kernel
theorem dX3_convicts_23 : decode cX3_convicts 23 = .ok (.ifCond .ne 10, 3) := by decide +kernel
theorem dX3_convicts_26 : decode cX3_convicts 26 = .ok (.aload_n 0, 1) := by decide +kernel
theorem dX3_convicts_27 : decode cX3_convicts 27 = .ok (.ldc 55, 2) := by decide +kernel
theorem dX3_convicts_29 : decode cX3_convicts 29 = .ok (.invokevirtual 56, 3) := by decide +kernel
theorem dX3_convicts_32 : decode cX3_convicts 32 = .ok (.ireturn, 1) := by decide +kernel
theorem dX3_convicts_33 : decode cX3_convicts 33 = .ok (.iload_n 1, 1) := by decide +kernel
theorem dX3_convicts_34 : decode cX3_convicts 34 = .ok (.iconst 1, 1) := by decide +kernel
theorem dX3_convicts_35 : decode cX3_convicts 35 = .ok (.iload_n 2, 1) := by decide +kernel
theorem dX3_convicts_36 : decode cX3_convicts 36 = .ok (.ishl, 1) := by decide +kernel
theorem dX3_convicts_37 : decode cX3_convicts 37 = .ok (.iand, 1) := by decide +kernel
theorem dX3_convicts_38 : decode cX3_convicts 38 = .ok (.ifCond .eq 10, 3) := by decide +kernel
theorem dX3_convicts_41 : decode cX3_convicts 41 = .ok (.aload_n 0, 1) := by decide +kernel
theorem dX3_convicts_42 : decode cX3_convicts 42 = .ok (.ldc 138, 2) := by decide +kernel
theorem dX3_convicts_44 : decode cX3_convicts 44 = .ok (.invokevirtual 56, 3) := by decide +kernel
theorem dX3_convicts_47 : decode cX3_convicts 47 = .ok (.ireturn, 1) := by decide +kernel
theorem dX3_convicts_48 : decode cX3_convicts 48 = .ok (.iload_n 1, 1) := by decide +kernel
theorem dX3_convicts_49 : decode cX3_convicts 49 = .ok (.aload_n 0, 1) := by decide +kernel
theorem dX3_convicts_50 : decode cX3_convicts 50 = .ok (.getfield 10, 3) := by decide +kernel
theorem dX3_convicts_53 : decode cX3_convicts 53 = .ok (.iload_n 2, 1) := by decide +kernel
theorem dX3_convicts_54 : decode cX3_convicts 54 = .ok (.invokevirtual 131, 3) := by decide +kernel
theorem dX3_convicts_57 : decode cX3_convicts 57 = .ok (.invokestatic 139, 3) := by decide +kernel
theorem dX3_convicts_60 : decode cX3_convicts 60 = .ok (.ifCond .eq 7, 3) := by decide +kernel
theorem dX3_convicts_63 : decode cX3_convicts 63 = .ok (.iconst 1, 1) := by decide +kernel
theorem dX3_convicts_64 : decode cX3_convicts 64 = .ok (.goto 4, 3) := by decide +kernel
theorem dX3_convicts_67 : decode cX3_convicts 67 = .ok (.iconst 0, 1) := by decide +kernel
theorem dX3_convicts_68 : decode cX3_convicts 68 = .ok (.ireturn, 1) := by decide +kernel
theorem dX3_hours_0 : decode cX3_hours 0 = .ok (.iload_n 1, 1) := by decide +kernel
theorem dX3_hours_1 : decode cX3_hours 1 = .ok (.iconst 1, 1) := by decide +kernel
theorem dX3_hours_2 : decode cX3_hours 2 = .ok (.bipush 60, 2) := by decide +kernel
theorem dX3_hours_4 : decode cX3_hours 4 = .ok (.invokestatic 44, 3) := by decide +kernel
theorem dX3_hours_7 : decode cX3_hours 7 = .ok (.ifCond .ne 10, 3) := by decide +kernel
theorem dX3_hours_10 : decode cX3_hours 10 = .ok (.aload_n 0, 1) := by decide +kernel
theorem dX3_hours_11 : decode cX3_hours 11 = .ok (.ldc 55, 2) := by decide +kernel
theorem dX3_hours_13 : decode cX3_hours 13 = .ok (.invokevirtual 56, 3) := by decide +kernel
theorem dX3_hours_16 : decode cX3_hours 16 = .ok (.ireturn, 1) := by decide +kernel
theorem dX3_hours_17 : decode cX3_hours 17 = .ok (.aload_n 0, 1) := by decide +kernel
theorem dX3_hours_18 : decode cX3_hours 18 = .ok (.getfield 10, 3) := by decide +kernel
theorem dX3_hours_21 : decode cX3_hours 21 = .ok (.getfield 142, 3) := by decide +kernel
theorem dX3_hours_24 : decode cX3_hours 24 = .ok (.iload_n 1, 1) := by decide +kernel
theorem dX3_hours_25 : decode cX3_hours 25 = .ok (.iadd, 1) := by decide +kernel
theorem dX3_hours_26 : decode cX3_hours 26 = .ok (.sipush 9999, 3) := by decide +kernel
theorem dX3_hours_29 : decode cX3_hours 29 = .ok (.if_icmp .le 10, 3) := by decide +kernel
theorem dX3_hours_32 : decode cX3_hours 32 = .ok (.aload_n 0, 1) := by decide +kernel
theorem dX3_hours_33 : decode cX3_hours 33 = .ok (.ldc 138, 2) := by decide +kernel
theorem dX3_hours_35 : decode cX3_hours 35 = .ok (.invokevirtual 56, 3) := by decide +kernel
theorem dX3_hours_38 : decode cX3_hours 38 = .ok (.ireturn, 1) := by decide +kernel
theorem dX3_hours_39 : decode cX3_hours 39 = .ok (.iconst 0, 1) := by decide +kernel
theorem dX3_hours_40 : decode cX3_hours 40 = .ok (.istore_n 2, 1) := by decide +kernel
theorem dX3_hours_41 : decode cX3_hours 41 = .ok (.iload_n 2, 1) := by decide +kernel
theorem dX3_hours_42 : decode cX3_hours 42 = .ok (.iload_n 1, 1) := by decide +kernel
theorem dX3_hours_43 : decode cX3_hours 43 = .ok (.if_icmp .ge 16, 3) := by decide +kernel
theorem dX3_hours_46 : decode cX3_hours 46 = .ok (.aload_n 0, 1) := by decide +kernel
theorem dX3_hours_47 : decode cX3_hours 47 = .ok (.getfield 10, 3) := by decide +kernel
theorem dX3_hours_50 : decode cX3_hours 50 = .ok (.invokevirtual 145, 3) := by decide +kernel
theorem dX3_hours_53 : decode cX3_hours 53 = .ok (.iinc 2 1, 3) := by decide +kernel
theorem dX3_hours_56 : decode cX3_hours 56 = .ok (.goto (-15), 3) := by decide +kernel
theorem dX3_hours_59 : decode cX3_hours 59 = .ok (.aload_n 0, 1) := by decide +kernel
theorem dX3_hours_60 : decode cX3_hours 60 = .ok (.getfield 10, 3) := by decide +kernel
theorem dX3_hours_63 : decode cX3_hours 63 = .ok (.invokevirtual 148, 3) := by decide +kernel
theorem dX3_hours_66 : decode cX3_hours 66 = .ok (.ireturn, 1) := by decide +kernel
theorem dX3_now_0 : decode cX3_now 0 = .ok (.iload_n 1, 1) := by decide +kernel
theorem dX3_now_1 : decode cX3_now 1 = .ok (.tableswitch 75 0 4 #[35, 43, 51, 59, 67], 35) := by decide +kernel
theorem dX3_now_36 : decode cX3_now 36 = .ok (.aload_n 0, 1) := by decide +kernel
theorem dX3_now_37 : decode cX3_now 37 = .ok (.getfield 10, 3) := by decide +kernel
theorem dX3_now_40 : decode cX3_now 40 = .ok (.getfield 142, 3) := by decide +kernel
theorem dX3_now_43 : decode cX3_now 43 = .ok (.ireturn, 1) := by decide +kernel
theorem dX3_now_44 : decode cX3_now 44 = .ok (.aload_n 0, 1) := by decide +kernel
theorem dX3_now_45 : decode cX3_now 45 = .ok (.getfield 10, 3) := by decide +kernel
theorem dX3_now_48 : decode cX3_now 48 = .ok (.getfield 48, 3) := by decide +kernel
theorem dX3_now_51 : decode cX3_now 51 = .ok (.ireturn, 1) := by decide +kernel
theorem dX3_now_52 : decode cX3_now 52 = .ok (.aload_n 0, 1) := by decide +kernel
theorem dX3_now_53 : decode cX3_now 53 = .ok (.getfield 10, 3) := by decide +kernel
theorem dX3_now_56 : decode cX3_now 56 = .ok (.getfield 52, 3) := by decide +kernel
theorem dX3_now_59 : decode cX3_now 59 = .ok (.ireturn, 1) := by decide +kernel
theorem dX3_now_60 : decode cX3_now 60 = .ok (.aload_n 0, 1) := by decide +kernel
theorem dX3_now_61 : decode cX3_now 61 = .ok (.getfield 10, 3) := by decide +kernel
theorem dX3_now_64 : decode cX3_now 64 = .ok (.invokevirtual 148, 3) := by decide +kernel
theorem dX3_now_67 : decode cX3_now 67 = .ok (.ireturn, 1) := by decide +kernel
theorem dX3_now_68 : decode cX3_now 68 = .ok (.aload_n 0, 1) := by decide +kernel
theorem dX3_now_69 : decode cX3_now 69 = .ok (.getfield 10, 3) := by decide +kernel
theorem dX3_now_72 : decode cX3_now 72 = .ok (.invokevirtual 151, 3) := by decide +kernel
theorem dX3_now_75 : decode cX3_now 75 = .ok (.ireturn, 1) := by decide +kernel
theorem dX3_now_76 : decode cX3_now 76 = .ok (.aload_n 0, 1) := by decide +kernel
theorem dX3_now_77 : decode cX3_now 77 = .ok (.ldc 55, 2) := by decide +kernel
theorem dX3_now_79 : decode cX3_now 79 = .ok (.invokevirtual 56, 3) := by decide +kernel
theorem dX3_now_82 : decode cX3_now 82 = .ok (.ireturn, 1) := by decide +kernel
theorem dX3_on_0 : decode cX3_on 0 = .ok (.aload_n 0, 1) := by decide +kernel
theorem dX3_on_1 : decode cX3_on 1 = .ok (.getfield 10, 3) := by decide +kernel
theorem dX3_on_4 : decode cX3_on 4 = .ok (.iload_n 1, 1) := by decide +kernel
theorem dX3_on_5 : decode cX3_on 5 = .ok (.invokevirtual 75, 3) := by decide +kernel
theorem dX3_on_8 : decode cX3_on 8 = .ok (.ifCond .eq 20, 3) := by decide +kernel
theorem dX3_on_11 : decode cX3_on 11 = .ok (.iload_n 2, 1) := by decide +kernel
theorem dX3_on_12 : decode cX3_on 12 = .ok (.invokestatic 100, 3) := by decide +kernel
theorem dX3_on_15 : decode cX3_on 15 = .ok (.ifCond .eq 13, 3) := by decide +kernel
theorem dX3_on_18 : decode cX3_on 18 = .ok (.iload_n 3, 1) := by decide +kernel
theorem dX3_on_19 : decode cX3_on 19 = .ok (.iconst 0, 1) := by decide +kernel
theorem dX3_on_20 : decode cX3_on 20 = .ok (.bipush 60, 2) := by decide +kernel
theorem dX3_on_22 : decode cX3_on 22 = .ok (.invokestatic 44, 3) := by decide +kernel
theorem dX3_on_25 : decode cX3_on 25 = .ok (.ifCond .ne 10, 3) := by decide +kernel
theorem dX3_on_28 : decode cX3_on 28 = .ok (.aload_n 0, 1) := by decide +kernel
theorem dX3_on_29 : decode cX3_on 29 = .ok (.ldc 55, 2) := by decide +kernel
theorem dX3_on_31 : decode cX3_on 31 = .ok (.invokevirtual 56, 3) := by decide +kernel
theorem dX3_on_34 : decode cX3_on 34 = .ok (.ireturn, 1) := by decide +kernel
theorem dX3_on_35 : decode cX3_on 35 = .ok (.aload_n 0, 1) := by decide +kernel
theorem dX3_on_36 : decode cX3_on 36 = .ok (.getfield 19, 3) := by decide +kernel
theorem dX3_on_39 : decode cX3_on 39 = .ok (.aload_n 0, 1) := by decide +kernel
theorem dX3_on_40 : decode cX3_on 40 = .ok (.getfield 10, 3) := by decide +kernel
theorem dX3_on_43 : decode cX3_on 43 = .ok (.invokevirtual 154, 3) := by decide +kernel
theorem dX3_on_46 : decode cX3_on 46 = .ok (.iconst 0, 1) := by decide +kernel
theorem dX3_on_47 : decode cX3_on 47 = .ok (.istore 4, 2) := by decide +kernel
theorem dX3_on_49 : decode cX3_on 49 = .ok (.iload 4, 2) := by decide +kernel
theorem dX3_on_51 : decode cX3_on 51 = .ok (.iload_n 3, 1) := by decide +kernel
theorem dX3_on_52 : decode cX3_on 52 = .ok (.if_icmp .ge 17, 3) := by decide +kernel
theorem dX3_on_55 : decode cX3_on 55 = .ok (.aload_n 0, 1) := by decide +kernel
theorem dX3_on_56 : decode cX3_on 56 = .ok (.getfield 19, 3) := by decide +kernel
theorem dX3_on_59 : decode cX3_on 59 = .ok (.iload_n 2, 1) := by decide +kernel
theorem dX3_on_60 : decode cX3_on 60 = .ok (.invokevirtual 158, 3) := by decide +kernel
theorem dX3_on_63 : decode cX3_on 63 = .ok (.iinc 4 1, 3) := by decide +kernel
theorem dX3_on_66 : decode cX3_on 66 = .ok (.goto (-17), 3) := by decide +kernel
theorem dX3_on_69 : decode cX3_on 69 = .ok (.aload_n 0, 1) := by decide +kernel
theorem dX3_on_70 : decode cX3_on 70 = .ok (.getfield 19, 3) := by decide +kernel
theorem dX3_on_73 : decode cX3_on 73 = .ok (.getfield 103, 3) := by decide +kernel
theorem dX3_on_76 : decode cX3_on 76 = .ok (.iload_n 2, 1) := by decide +kernel
theorem dX3_on_77 : decode cX3_on 77 = .ok (.aaload, 1) := by decide +kernel
theorem dX3_on_78 : decode cX3_on 78 = .ok (.iload_n 1, 1) := by decide +kernel
theorem dX3_on_79 : decode cX3_on 79 = .ok (.iaload, 1) := by decide +kernel
theorem dX3_on_80 : decode cX3_on 80 = .ok (.ireturn, 1) := by decide +kernel
theorem dX3_clean_0 : decode cX3_clean 0 = .ok (.aload_n 0, 1) := by decide +kernel
theorem dX3_clean_1 : decode cX3_clean 1 = .ok (.getfield 10, 3) := by decide +kernel
theorem dX3_clean_4 : decode cX3_clean 4 = .ok (.iload_n 1, 1) := by decide +kernel
theorem dX3_clean_5 : decode cX3_clean 5 = .ok (.invokevirtual 75, 3) := by decide +kernel
theorem dX3_clean_8 : decode cX3_clean 8 = .ok (.ifCond .ne 10, 3) := by decide +kernel
theorem dX3_clean_11 : decode cX3_clean 11 = .ok (.aload_n 0, 1) := by decide +kernel
theorem dX3_clean_12 : decode cX3_clean 12 = .ok (.ldc 55, 2) := by decide +kernel
theorem dX3_clean_14 : decode cX3_clean 14 = .ok (.invokevirtual 56, 3) := by decide +kernel
theorem dX3_clean_17 : decode cX3_clean 17 = .ok (.ireturn, 1) := by decide +kernel
theorem dX3_clean_18 : decode cX3_clean 18 = .ok (.aload_n 0, 1) := by decide +kernel
theorem dX3_clean_19 : decode cX3_clean 19 = .ok (.getfield 19, 3) := by decide +kernel
theorem dX3_clean_22 : decode cX3_clean 22 = .ok (.aload_n 0, 1) := by decide +kernel
theorem dX3_clean_23 : decode cX3_clean 23 = .ok (.getfield 10, 3) := by decide +kernel
theorem dX3_clean_26 : decode cX3_clean 26 = .ok (.invokevirtual 154, 3) := by decide +kernel
theorem dX3_clean_29 : decode cX3_clean 29 = .ok (.iconst 0, 1) := by decide +kernel
theorem dX3_clean_30 : decode cX3_clean 30 = .ok (.istore_n 2, 1) := by decide +kernel
theorem dX3_clean_31 : decode cX3_clean 31 = .ok (.iload_n 2, 1) := by decide +kernel
theorem dX3_clean_32 : decode cX3_clean 32 = .ok (.bipush 60, 2) := by decide +kernel
theorem dX3_clean_34 : decode cX3_clean 34 = .ok (.if_icmp .gt 29, 3) := by decide +kernel
theorem dX3_clean_37 : decode cX3_clean 37 = .ok (.aload_n 0, 1) := by decide +kernel
theorem dX3_clean_38 : decode cX3_clean 38 = .ok (.getfield 19, 3) := by decide +kernel
theorem dX3_clean_41 : decode cX3_clean 41 = .ok (.iload_n 1, 1) := by decide +kernel
theorem dX3_clean_42 : decode cX3_clean 42 = .ok (.invokevirtual 131, 3) := by decide +kernel
theorem dX3_clean_45 : decode cX3_clean 45 = .ok (.ifCond .ne 5, 3) := by decide +kernel
theorem dX3_clean_48 : decode cX3_clean 48 = .ok (.iload_n 2, 1) := by decide +kernel
theorem dX3_clean_49 : decode cX3_clean 49 = .ok (.ireturn, 1) := by decide +kernel
theorem dX3_clean_50 : decode cX3_clean 50 = .ok (.aload_n 0, 1) := by decide +kernel
theorem dX3_clean_51 : decode cX3_clean 51 = .ok (.getfield 19, 3) := by decide +kernel
theorem dX3_clean_54 : decode cX3_clean 54 = .ok (.invokevirtual 145, 3) := by decide +kernel
theorem dX3_clean_57 : decode cX3_clean 57 = .ok (.iinc 2 1, 3) := by decide +kernel
theorem dX3_clean_60 : decode cX3_clean 60 = .ok (.goto (-29), 3) := by decide +kernel
theorem dX3_clean_63 : decode cX3_clean 63 = .ok (.aload_n 0, 1) := by decide +kernel
theorem dX3_clean_64 : decode cX3_clean 64 = .ok (.ldc 130, 2) := by decide +kernel
theorem dX3_clean_66 : decode cX3_clean 66 = .ok (.invokevirtual 56, 3) := by decide +kernel
theorem dX3_clean_69 : decode cX3_clean 69 = .ok (.ireturn, 1) := by decide +kernel
theorem dX3_wind_0 : decode cX3_wind 0 = .ok (.aload_n 0, 1) := by decide +kernel
theorem dX3_wind_1 : decode cX3_wind 1 = .ok (.getfield 10, 3) := by decide +kernel
theorem dX3_wind_4 : decode cX3_wind 4 = .ok (.iload_n 1, 1) := by decide +kernel
theorem dX3_wind_5 : decode cX3_wind 5 = .ok (.invokevirtual 75, 3) := by decide +kernel
theorem dX3_wind_8 : decode cX3_wind 8 = .ok (.ifCond .eq 13, 3) := by decide +kernel
theorem dX3_wind_11 : decode cX3_wind 11 = .ok (.aload_n 0, 1) := by decide +kernel
theorem dX3_wind_12 : decode cX3_wind 12 = .ok (.iload_n 1, 1) := by decide +kernel
theorem dX3_wind_13 : decode cX3_wind 13 = .ok (.iconst 0, 1) := by decide +kernel
theorem dX3_wind_14 : decode cX3_wind 14 = .ok (.iconst 5, 1) := by decide +kernel
theorem dX3_wind_15 : decode cX3_wind 15 = .ok (.invokevirtual 162, 3) := by decide +kernel
theorem dX3_wind_18 : decode cX3_wind 18 = .ok (.goto 9, 3) := by decide +kernel
theorem dX3_wind_21 : decode cX3_wind 21 = .ok (.aload_n 0, 1) := by decide +kernel
theorem dX3_wind_22 : decode cX3_wind 22 = .ok (.ldc 55, 2) := by decide +kernel
theorem dX3_wind_24 : decode cX3_wind 24 = .ok (.invokevirtual 56, 3) := by decide +kernel
theorem dX3_wind_27 : decode cX3_wind 27 = .ok (.ireturn, 1) := by decide +kernel
theorem dX3_seat_0 : decode cX3_seat 0 = .ok (.aload_n 0, 1) := by decide +kernel
theorem dX3_seat_1 : decode cX3_seat 1 = .ok (.getfield 10, 3) := by decide +kernel
theorem dX3_seat_4 : decode cX3_seat 4 = .ok (.iload_n 1, 1) := by decide +kernel
theorem dX3_seat_5 : decode cX3_seat 5 = .ok (.invokevirtual 75, 3) := by decide +kernel
theorem dX3_seat_8 : decode cX3_seat 8 = .ok (.ifCond .eq 14, 3) := by decide +kernel
theorem dX3_seat_11 : decode cX3_seat 11 = .ok (.aload_n 0, 1) := by decide +kernel
theorem dX3_seat_12 : decode cX3_seat 12 = .ok (.iload_n 1, 1) := by decide +kernel
theorem dX3_seat_13 : decode cX3_seat 13 = .ok (.iconst 1, 1) := by decide +kernel
theorem dX3_seat_14 : decode cX3_seat 14 = .ok (.bipush 48, 2) := by decide +kernel
theorem dX3_seat_16 : decode cX3_seat 16 = .ok (.invokevirtual 162, 3) := by decide +kernel
theorem dX3_seat_19 : decode cX3_seat 19 = .ok (.goto 9, 3) := by decide +kernel
theorem dX3_seat_22 : decode cX3_seat 22 = .ok (.aload_n 0, 1) := by decide +kernel
theorem dX3_seat_23 : decode cX3_seat 23 = .ok (.ldc 55, 2) := by decide +kernel
theorem dX3_seat_25 : decode cX3_seat 25 = .ok (.invokevirtual 56, 3) := by decide +kernel
theorem dX3_seat_28 : decode cX3_seat 28 = .ok (.ireturn, 1) := by decide +kernel
theorem dX3_bath_0 : decode cX3_bath 0 = .ok (.aload_n 0, 1) := by decide +kernel
theorem dX3_bath_1 : decode cX3_bath 1 = .ok (.getfield 10, 3) := by decide +kernel
theorem dX3_bath_4 : decode cX3_bath 4 = .ok (.iload_n 1, 1) := by decide +kernel
theorem dX3_bath_5 : decode cX3_bath 5 = .ok (.invokevirtual 75, 3) := by decide +kernel
theorem dX3_bath_8 : decode cX3_bath 8 = .ok (.ifCond .ne 10, 3) := by decide +kernel
theorem dX3_bath_11 : decode cX3_bath 11 = .ok (.aload_n 0, 1) := by decide +kernel
theorem dX3_bath_12 : decode cX3_bath 12 = .ok (.ldc 55, 2) := by decide +kernel
theorem dX3_bath_14 : decode cX3_bath 14 = .ok (.invokevirtual 56, 3) := by decide +kernel
theorem dX3_bath_17 : decode cX3_bath 17 = .ok (.ireturn, 1) := by decide +kernel
theorem dX3_bath_18 : decode cX3_bath 18 = .ok (.aload_n 0, 1) := by decide +kernel
theorem dX3_bath_19 : decode cX3_bath 19 = .ok (.getfield 19, 3) := by decide +kernel
theorem dX3_bath_22 : decode cX3_bath 22 = .ok (.aload_n 0, 1) := by decide +kernel
theorem dX3_bath_23 : decode cX3_bath 23 = .ok (.getfield 10, 3) := by decide +kernel
theorem dX3_bath_26 : decode cX3_bath 26 = .ok (.invokevirtual 154, 3) := by decide +kernel
theorem dX3_bath_29 : decode cX3_bath 29 = .ok (.aload_n 0, 1) := by decide +kernel
theorem dX3_bath_30 : decode cX3_bath 30 = .ok (.getfield 19, 3) := by decide +kernel
theorem dX3_bath_33 : decode cX3_bath 33 = .ok (.invokevirtual 145, 3) := by decide +kernel
theorem dX3_bath_36 : decode cX3_bath 36 = .ok (.aload_n 0, 1) := by decide +kernel
theorem dX3_bath_37 : decode cX3_bath 37 = .ok (.getfield 19, 3) := by decide +kernel
theorem dX3_bath_40 : decode cX3_bath 40 = .ok (.iload_n 1, 1) := by decide +kernel
theorem dX3_bath_41 : decode cX3_bath 41 = .ok (.invokevirtual 131, 3) := by decide +kernel
theorem dX3_bath_44 : decode cX3_bath 44 = .ok (.invokestatic 165, 3) := by decide +kernel
theorem dX3_bath_47 : decode cX3_bath 47 = .ok (.istore_n 2, 1) := by decide +kernel
theorem dX3_bath_48 : decode cX3_bath 48 = .ok (.iconst (-1), 1) := by decide +kernel
theorem dX3_bath_49 : decode cX3_bath 49 = .ok (.istore_n 3, 1) := by decide +kernel
theorem dX3_bath_50 : decode cX3_bath 50 = .ok (.iconst 0, 1) := by decide +kernel
theorem dX3_bath_51 : decode cX3_bath 51 = .ok (.istore 4, 2) := by decide +kernel
theorem dX3_bath_53 : decode cX3_bath 53 = .ok (.iload 4, 2) := by decide +kernel
theorem dX3_bath_55 : decode cX3_bath 55 = .ok (.aload_n 0, 1) := by decide +kernel
theorem dX3_bath_56 : decode cX3_bath 56 = .ok (.getfield 10, 3) := by decide +kernel
theorem dX3_bath_59 : decode cX3_bath 59 = .ok (.getfield 67, 3) := by decide +kernel
theorem dX3_bath_62 : decode cX3_bath 62 = .ok (.if_icmp .ge 62, 3) := by decide +kernel
theorem dX3_bath_65 : decode cX3_bath 65 = .ok (.aload_n 0, 1) := by decide +kernel
theorem dX3_bath_66 : decode cX3_bath 66 = .ok (.getfield 19, 3) := by decide +kernel
theorem dX3_bath_69 : decode cX3_bath 69 = .ok (.aload_n 0, 1) := by decide +kernel
theorem dX3_bath_70 : decode cX3_bath 70 = .ok (.getfield 10, 3) := by decide +kernel
theorem dX3_bath_73 : decode cX3_bath 73 = .ok (.invokevirtual 154, 3) := by decide +kernel
theorem dX3_bath_76 : decode cX3_bath 76 = .ok (.aload_n 0, 1) := by decide +kernel
theorem dX3_bath_77 : decode cX3_bath 77 = .ok (.getfield 19, 3) := by decide +kernel
theorem dX3_bath_80 : decode cX3_bath 80 = .ok (.iload 4, 2) := by decide +kernel
theorem dX3_bath_82 : decode cX3_bath 82 = .ok (.invokevirtual 115, 3) := by decide +kernel
theorem dX3_bath_85 : decode cX3_bath 85 = .ok (.pop, 1) := by decide +kernel
theorem dX3_bath_86 : decode cX3_bath 86 = .ok (.aload_n 0, 1) := by decide +kernel
theorem dX3_bath_87 : decode cX3_bath 87 = .ok (.getfield 19, 3) := by decide +kernel
theorem dX3_bath_90 : decode cX3_bath 90 = .ok (.invokevirtual 145, 3) := by decide +kernel
theorem dX3_bath_93 : decode cX3_bath 93 = .ok (.aload_n 0, 1) := by decide +kernel
theorem dX3_bath_94 : decode cX3_bath 94 = .ok (.getfield 19, 3) := by decide +kernel
theorem dX3_bath_97 : decode cX3_bath 97 = .ok (.iload_n 1, 1) := by decide +kernel
theorem dX3_bath_98 : decode cX3_bath 98 = .ok (.invokevirtual 131, 3) := by decide +kernel
theorem dX3_bath_101 : decode cX3_bath 101 = .ok (.invokestatic 165, 3) := by decide +kernel
theorem dX3_bath_104 : decode cX3_bath 104 = .ok (.istore 5, 2) := by decide +kernel
theorem dX3_bath_106 : decode cX3_bath 106 = .ok (.iload 5, 2) := by decide +kernel
theorem dX3_bath_108 : decode cX3_bath 108 = .ok (.iload_n 2, 1) := by decide +kernel
theorem dX3_bath_109 : decode cX3_bath 109 = .ok (.if_icmp .ge 9, 3) := by decide +kernel
theorem dX3_bath_112 : decode cX3_bath 112 = .ok (.iload 5, 2) := by decide +kernel
theorem dX3_bath_114 : decode cX3_bath 114 = .ok (.istore_n 2, 1) := by decide +kernel
theorem dX3_bath_115 : decode cX3_bath 115 = .ok (.iload 4, 2) := by decide +kernel
theorem dX3_bath_117 : decode cX3_bath 117 = .ok (.istore_n 3, 1) := by decide +kernel
theorem dX3_bath_118 : decode cX3_bath 118 = .ok (.iinc 4 1, 3) := by decide +kernel
theorem dX3_bath_121 : decode cX3_bath 121 = .ok (.goto (-68), 3) := by decide +kernel
theorem dX3_bath_124 : decode cX3_bath 124 = .ok (.iload_n 3, 1) := by decide +kernel
theorem dX3_bath_125 : decode cX3_bath 125 = .ok (.ifCond .ge 12, 3) := by decide +kernel
theorem dX3_bath_128 : decode cX3_bath 128 = .ok (.aload_n 0, 1) := by decide +kernel
theorem dX3_bath_129 : decode cX3_bath 129 = .ok (.ldc 130, 2) := by decide +kernel
theorem dX3_bath_131 : decode cX3_bath 131 = .ok (.invokevirtual 56, 3) := by decide +kernel
theorem dX3_bath_134 : decode cX3_bath 134 = .ok (.goto 4, 3) := by decide +kernel
theorem dX3_bath_137 : decode cX3_bath 137 = .ok (.iload_n 3, 1) := by decide +kernel
theorem dX3_bath_138 : decode cX3_bath 138 = .ok (.ireturn, 1) := by decide +kernel
theorem dX3_kind_0 : decode cX3_kind 0 = .ok (.aload_n 0, 1) := by decide +kernel
theorem dX3_kind_1 : decode cX3_kind 1 = .ok (.getfield 10, 3) := by decide +kernel
theorem dX3_kind_4 : decode cX3_kind 4 = .ok (.iload_n 1, 1) := by decide +kernel
theorem dX3_kind_5 : decode cX3_kind 5 = .ok (.invokevirtual 75, 3) := by decide +kernel
theorem dX3_kind_8 : decode cX3_kind 8 = .ok (.ifCond .eq 14, 3) := by decide +kernel
theorem dX3_kind_11 : decode cX3_kind 11 = .ok (.aload_n 0, 1) := by decide +kernel
theorem dX3_kind_12 : decode cX3_kind 12 = .ok (.iload_n 1, 1) := by decide +kernel
theorem dX3_kind_13 : decode cX3_kind 13 = .ok (.iconst 2, 1) := by decide +kernel
theorem dX3_kind_14 : decode cX3_kind 14 = .ok (.bipush 6, 2) := by decide +kernel
theorem dX3_kind_16 : decode cX3_kind 16 = .ok (.invokevirtual 162, 3) := by decide +kernel
theorem dX3_kind_19 : decode cX3_kind 19 = .ok (.goto 9, 3) := by decide +kernel
theorem dX3_kind_22 : decode cX3_kind 22 = .ok (.aload_n 0, 1) := by decide +kernel
theorem dX3_kind_23 : decode cX3_kind 23 = .ok (.ldc 55, 2) := by decide +kernel
theorem dX3_kind_25 : decode cX3_kind 25 = .ok (.invokevirtual 56, 3) := by decide +kernel
theorem dX3_kind_28 : decode cX3_kind 28 = .ok (.ireturn, 1) := by decide +kernel
theorem dX3_due_0 : decode cX3_due 0 = .ok (.aload_n 0, 1) := by decide +kernel
theorem dX3_due_1 : decode cX3_due 1 = .ok (.getfield 10, 3) := by decide +kernel
theorem dX3_due_4 : decode cX3_due 4 = .ok (.iload_n 1, 1) := by decide +kernel
theorem dX3_due_5 : decode cX3_due 5 = .ok (.invokevirtual 75, 3) := by decide +kernel
theorem dX3_due_8 : decode cX3_due 8 = .ok (.ifCond .ne 10, 3) := by decide +kernel
theorem dX3_due_11 : decode cX3_due 11 = .ok (.aload_n 0, 1) := by decide +kernel
theorem dX3_due_12 : decode cX3_due 12 = .ok (.ldc 55, 2) := by decide +kernel
theorem dX3_due_14 : decode cX3_due 14 = .ok (.invokevirtual 56, 3) := by decide +kernel
theorem dX3_due_17 : decode cX3_due 17 = .ok (.ireturn, 1) := by decide +kernel
theorem dX3_due_18 : decode cX3_due 18 = .ok (.aload_n 0, 1) := by decide +kernel
theorem dX3_due_19 : decode cX3_due 19 = .ok (.getfield 19, 3) := by decide +kernel
theorem dX3_due_22 : decode cX3_due 22 = .ok (.aload_n 0, 1) := by decide +kernel
theorem dX3_due_23 : decode cX3_due 23 = .ok (.getfield 10, 3) := by decide +kernel
theorem dX3_due_26 : decode cX3_due 26 = .ok (.invokevirtual 154, 3) := by decide +kernel
theorem dX3_due_29 : decode cX3_due 29 = .ok (.iconst 1, 1) := by decide +kernel
theorem dX3_due_30 : decode cX3_due 30 = .ok (.istore_n 2, 1) := by decide +kernel
theorem dX3_due_31 : decode cX3_due 31 = .ok (.iload_n 2, 1) := by decide +kernel
theorem dX3_due_32 : decode cX3_due 32 = .ok (.bipush 99, 2) := by decide +kernel
theorem dX3_due_34 : decode cX3_due 34 = .ok (.if_icmp .gt 30, 3) := by decide +kernel
theorem dX3_due_37 : decode cX3_due 37 = .ok (.aload_n 0, 1) := by decide +kernel
theorem dX3_due_38 : decode cX3_due 38 = .ok (.getfield 19, 3) := by decide +kernel
theorem dX3_due_41 : decode cX3_due 41 = .ok (.iload_n 2, 1) := by decide +kernel
theorem dX3_due_42 : decode cX3_due 42 = .ok (.putfield 52, 3) := by decide +kernel
theorem dX3_due_45 : decode cX3_due 45 = .ok (.aload_n 0, 1) := by decide +kernel
theorem dX3_due_46 : decode cX3_due 46 = .ok (.getfield 19, 3) := by decide +kernel
theorem dX3_due_49 : decode cX3_due 49 = .ok (.iload_n 1, 1) := by decide +kernel
theorem dX3_due_50 : decode cX3_due 50 = .ok (.invokevirtual 131, 3) := by decide +kernel
theorem dX3_due_53 : decode cX3_due 53 = .ok (.ifCond .ne 5, 3) := by decide +kernel
theorem dX3_due_56 : decode cX3_due 56 = .ok (.iload_n 2, 1) := by decide +kernel
theorem dX3_due_57 : decode cX3_due 57 = .ok (.ireturn, 1) := by decide +kernel
theorem dX3_due_58 : decode cX3_due 58 = .ok (.iinc 2 1, 3) := by decide +kernel
theorem dX3_due_61 : decode cX3_due 61 = .ok (.goto (-30), 3) := by decide +kernel
theorem dX3_due_64 : decode cX3_due 64 = .ok (.aload_n 0, 1) := by decide +kernel
theorem dX3_due_65 : decode cX3_due 65 = .ok (.ldc 130, 2) := by decide +kernel
theorem dX3_due_67 : decode cX3_due 67 = .ok (.invokevirtual 56, 3) := by decide +kernel
theorem dX3_due_70 : decode cX3_due 70 = .ok (.ireturn, 1) := by decide +kernel
theorem dX3_jury_0 : decode cX3_jury 0 = .ok (.aload_n 0, 1) := by decide +kernel
theorem dX3_jury_1 : decode cX3_jury 1 = .ok (.getfield 10, 3) := by decide +kernel
theorem dX3_jury_4 : decode cX3_jury 4 = .ok (.iload_n 1, 1) := by decide +kernel
theorem dX3_jury_5 : decode cX3_jury 5 = .ok (.invokevirtual 75, 3) := by decide +kernel
theorem dX3_jury_8 : decode cX3_jury 8 = .ok (.ifCond .eq 13, 3) := by decide +kernel
theorem dX3_jury_11 : decode cX3_jury 11 = .ok (.iload_n 2, 1) := by decide +kernel
theorem dX3_jury_12 : decode cX3_jury 12 = .ok (.iconst 1, 1) := by decide +kernel
theorem dX3_jury_13 : decode cX3_jury 13 = .ok (.bipush 7, 2) := by decide +kernel
theorem dX3_jury_15 : decode cX3_jury 15 = .ok (.invokestatic 44, 3) := by decide +kernel
theorem dX3_jury_18 : decode cX3_jury 18 = .ok (.ifCond .ne 10, 3) := by decide +kernel
theorem dX3_jury_21 : decode cX3_jury 21 = .ok (.aload_n 0, 1) := by decide +kernel
theorem dX3_jury_22 : decode cX3_jury 22 = .ok (.ldc 55, 2) := by decide +kernel
theorem dX3_jury_24 : decode cX3_jury 24 = .ok (.invokevirtual 56, 3) := by decide +kernel
theorem dX3_jury_27 : decode cX3_jury 27 = .ok (.ireturn, 1) := by decide +kernel
theorem dX3_jury_28 : decode cX3_jury 28 = .ok (.aload_n 0, 1) := by decide +kernel
theorem dX3_jury_29 : decode cX3_jury 29 = .ok (.getfield 10, 3) := by decide +kernel
theorem dX3_jury_32 : decode cX3_jury 32 = .ok (.iload_n 1, 1) := by decide +kernel
theorem dX3_jury_33 : decode cX3_jury 33 = .ok (.invokevirtual 131, 3) := by decide +kernel
theorem dX3_jury_36 : decode cX3_jury 36 = .ok (.istore_n 3, 1) := by decide +kernel
theorem dX3_jury_37 : decode cX3_jury 37 = .ok (.iconst 1, 1) := by decide +kernel
theorem dX3_jury_38 : decode cX3_jury 38 = .ok (.istore 4, 2) := by decide +kernel
theorem dX3_jury_40 : decode cX3_jury 40 = .ok (.iload 4, 2) := by decide +kernel
theorem dX3_jury_42 : decode cX3_jury 42 = .ok (.aload_n 0, 1) := by decide +kernel
theorem dX3_jury_43 : decode cX3_jury 43 = .ok (.getfield 10, 3) := by decide +kernel
theorem dX3_jury_46 : decode cX3_jury 46 = .ok (.invokevirtual 134, 3) := by decide +kernel
theorem dX3_jury_49 : decode cX3_jury 49 = .ok (.if_icmp .gt 23, 3) := by decide +kernel
theorem dX3_jury_52 : decode cX3_jury 52 = .ok (.iload 4, 2) := by decide +kernel
theorem dX3_jury_54 : decode cX3_jury 54 = .ok (.iload_n 1, 1) := by decide +kernel
theorem dX3_jury_55 : decode cX3_jury 55 = .ok (.iload_n 2, 1) := by decide +kernel
theorem dX3_jury_56 : decode cX3_jury 56 = .ok (.iload_n 3, 1) := by decide +kernel
theorem dX3_jury_57 : decode cX3_jury 57 = .ok (.invokestatic 170, 3) := by decide +kernel
theorem dX3_jury_60 : decode cX3_jury 60 = .ok (.ifCond .eq 6, 3) := by decide +kernel
theorem dX3_jury_63 : decode cX3_jury 63 = .ok (.iload 4, 2) := by decide +kernel
theorem dX3_jury_65 : decode cX3_jury 65 = .ok (.ireturn, 1) := by decide +kernel
theorem dX3_jury_66 : decode cX3_jury 66 = .ok (.iinc 4 1, 3) := by decide +kernel
theorem dX3_jury_69 : decode cX3_jury 69 = .ok (.goto (-29), 3) := by decide +kernel
theorem dX3_jury_72 : decode cX3_jury 72 = .ok (.aload_n 0, 1) := by decide +kernel
theorem dX3_jury_73 : decode cX3_jury 73 = .ok (.ldc 130, 2) := by decide +kernel
theorem dX3_jury_75 : decode cX3_jury 75 = .ok (.invokevirtual 56, 3) := by decide +kernel
theorem dX3_jury_78 : decode cX3_jury 78 = .ok (.ireturn, 1) := by decide +kernel
theorem dX3_juries_0 : decode cX3_juries 0 = .ok (.aload_n 0, 1) := by decide +kernel
theorem dX3_juries_1 : decode cX3_juries 1 = .ok (.getfield 10, 3) := by decide +kernel
theorem dX3_juries_4 : decode cX3_juries 4 = .ok (.iload_n 1, 1) := by decide +kernel
theorem dX3_juries_5 : decode cX3_juries 5 = .ok (.invokevirtual 75, 3) := by decide +kernel
theorem dX3_juries_8 : decode cX3_juries 8 = .ok (.ifCond .eq 13, 3) := by decide +kernel
theorem dX3_juries_11 : decode cX3_juries 11 = .ok (.iload_n 2, 1) := by decide +kernel
theorem dX3_juries_12 : decode cX3_juries 12 = .ok (.iconst 1, 1) := by decide +kernel
theorem dX3_juries_13 : decode cX3_juries 13 = .ok (.bipush 7, 2) := by decide +kernel
theorem dX3_juries_15 : decode cX3_juries 15 = .ok (.invokestatic 44, 3) := by decide +kernel
theorem dX3_juries_18 : decode cX3_juries 18 = .ok (.ifCond .ne 10, 3) := by decide +kernel
theorem dX3_juries_21 : decode cX3_juries 21 = .ok (.aload_n 0, 1) := by decide +kernel
theorem dX3_juries_22 : decode cX3_juries 22 = .ok (.ldc 55, 2) := by decide +kernel
theorem dX3_juries_24 : decode cX3_juries 24 = .ok (.invokevirtual 56, 3) := by decide +kernel
theorem dX3_juries_27 : decode cX3_juries 27 = .ok (.ireturn, 1) := by decide +kernel
theorem dX3_juries_28 : decode cX3_juries 28 = .ok (.aload_n 0, 1) := by decide +kernel
theorem dX3_juries_29 : decode cX3_juries 29 = .ok (.getfield 10, 3) := by decide +kernel
theorem dX3_juries_32 : decode cX3_juries 32 = .ok (.iload_n 1, 1) := by decide +kernel
theorem dX3_juries_33 : decode cX3_juries 33 = .ok (.invokevirtual 131, 3) := by decide +kernel
theorem dX3_juries_36 : decode cX3_juries 36 = .ok (.istore_n 3, 1) := by decide +kernel
theorem dX3_juries_37 : decode cX3_juries 37 = .ok (.iconst 0, 1) := by decide +kernel
theorem dX3_juries_38 : decode cX3_juries 38 = .ok (.istore 4, 2) := by decide +kernel
theorem dX3_juries_40 : decode cX3_juries 40 = .ok (.iconst 1, 1) := by decide +kernel
theorem dX3_juries_41 : decode cX3_juries 41 = .ok (.istore 5, 2) := by decide +kernel
theorem dX3_juries_43 : decode cX3_juries 43 = .ok (.iload 5, 2) := by decide +kernel
theorem dX3_juries_45 : decode cX3_juries 45 = .ok (.aload_n 0, 1) := by decide +kernel
theorem dX3_juries_46 : decode cX3_juries 46 = .ok (.getfield 10, 3) := by decide +kernel
theorem dX3_juries_49 : decode cX3_juries 49 = .ok (.invokevirtual 134, 3) := by decide +kernel
theorem dX3_juries_52 : decode cX3_juries 52 = .ok (.if_icmp .gt 23, 3) := by decide +kernel
theorem dX3_juries_55 : decode cX3_juries 55 = .ok (.iload 5, 2) := by decide +kernel
theorem dX3_juries_57 : decode cX3_juries 57 = .ok (.iload_n 1, 1) := by decide +kernel
theorem dX3_juries_58 : decode cX3_juries 58 = .ok (.iload_n 2, 1) := by decide +kernel
theorem dX3_juries_59 : decode cX3_juries 59 = .ok (.iload_n 3, 1) := by decide +kernel
theorem dX3_juries_60 : decode cX3_juries 60 = .ok (.invokestatic 170, 3) := by decide +kernel
theorem dX3_juries_63 : decode cX3_juries 63 = .ok (.ifCond .eq 6, 3) := by decide +kernel
theorem dX3_juries_66 : decode cX3_juries 66 = .ok (.iinc 4 1, 3) := by decide +kernel
theorem dX3_juries_69 : decode cX3_juries 69 = .ok (.iinc 5 1, 3) := by decide +kernel
theorem dX3_juries_72 : decode cX3_juries 72 = .ok (.goto (-29), 3) := by decide +kernel
theorem dX3_juries_75 : decode cX3_juries 75 = .ok (.iload 4, 2) := by decide +kernel
theorem dX3_juries_77 : decode cX3_juries 77 = .ok (.ireturn, 1) := by decide +kernel
theorem dX3_from_0 : decode cX3_from 0 = .ok (.aload_n 0, 1) := by decide +kernel
theorem dX3_from_1 : decode cX3_from 1 = .ok (.getfield 10, 3) := by decide +kernel
theorem dX3_from_4 : decode cX3_from 4 = .ok (.iload_n 1, 1) := by decide +kernel
theorem dX3_from_5 : decode cX3_from 5 = .ok (.invokevirtual 75, 3) := by decide +kernel
theorem dX3_from_8 : decode cX3_from 8 = .ok (.ifCond .eq 10, 3) := by decide +kernel
theorem dX3_from_11 : decode cX3_from 11 = .ok (.iload_n 2, 1) := by decide +kernel
theorem dX3_from_12 : decode cX3_from 12 = .ok (.invokestatic 100, 3) := by decide +kernel
theorem dX3_from_15 : decode cX3_from 15 = .ok (.ifCond .ne 10, 3) := by decide +kernel
theorem dX3_from_18 : decode cX3_from 18 = .ok (.aload_n 0, 1) := by decide +kernel
theorem dX3_from_19 : decode cX3_from 19 = .ok (.ldc 55, 2) := by decide +kernel
theorem dX3_from_21 : decode cX3_from 21 = .ok (.invokevirtual 56, 3) := by decide +kernel
theorem dX3_from_24 : decode cX3_from 24 = .ok (.ireturn, 1) := by decide +kernel
theorem dX3_from_25 : decode cX3_from 25 = .ok (.aload_n 0, 1) := by decide +kernel
theorem dX3_from_26 : decode cX3_from 26 = .ok (.getfield 10, 3) := by decide +kernel
theorem dX3_from_29 : decode cX3_from 29 = .ok (.iload_n 1, 1) := by decide +kernel
theorem dX3_from_30 : decode cX3_from 30 = .ok (.iload_n 2, 1) := by decide +kernel
theorem dX3_from_31 : decode cX3_from 31 = .ok (.invokevirtual 174, 3) := by decide +kernel
theorem dX3_from_34 : decode cX3_from 34 = .ok (.istore_n 3, 1) := by decide +kernel
theorem dX3_from_35 : decode cX3_from 35 = .ok (.iload_n 3, 1) := by decide +kernel
theorem dX3_from_36 : decode cX3_from 36 = .ok (.ifCond .ge 10, 3) := by decide +kernel
theorem dX3_from_39 : decode cX3_from 39 = .ok (.aload_n 0, 1) := by decide +kernel
theorem dX3_from_40 : decode cX3_from 40 = .ok (.ldc 130, 2) := by decide +kernel
theorem dX3_from_42 : decode cX3_from 42 = .ok (.invokevirtual 56, 3) := by decide +kernel
theorem dX3_from_45 : decode cX3_from 45 = .ok (.ireturn, 1) := by decide +kernel
theorem dX3_from_46 : decode cX3_from 46 = .ok (.aload_n 0, 1) := by decide +kernel
theorem dX3_from_47 : decode cX3_from 47 = .ok (.getfield 10, 3) := by decide +kernel
theorem dX3_from_50 : decode cX3_from 50 = .ok (.getfield 103, 3) := by decide +kernel
theorem dX3_from_53 : decode cX3_from 53 = .ok (.iload_n 2, 1) := by decide +kernel
theorem dX3_from_54 : decode cX3_from 54 = .ok (.aaload, 1) := by decide +kernel
theorem dX3_from_55 : decode cX3_from 55 = .ok (.astore 4, 2) := by decide +kernel
theorem dX3_from_57 : decode cX3_from 57 = .ok (.aload 4, 2) := by decide +kernel
theorem dX3_from_59 : decode cX3_from 59 = .ok (.iload_n 3, 1) := by decide +kernel
theorem dX3_from_60 : decode cX3_from 60 = .ok (.iaload, 1) := by decide +kernel
theorem dX3_from_61 : decode cX3_from 61 = .ok (.iconst 4, 1) := by decide +kernel
theorem dX3_from_62 : decode cX3_from 62 = .ok (.idiv, 1) := by decide +kernel
theorem dX3_from_63 : decode cX3_from 63 = .ok (.iload_n 2, 1) := by decide +kernel
theorem dX3_from_64 : decode cX3_from 64 = .ok (.aload 4, 2) := by decide +kernel
theorem dX3_from_66 : decode cX3_from 66 = .ok (.iload_n 1, 1) := by decide +kernel
theorem dX3_from_67 : decode cX3_from 67 = .ok (.iaload, 1) := by decide +kernel
theorem dX3_from_68 : decode cX3_from 68 = .ok (.invokestatic 177, 3) := by decide +kernel
theorem dX3_from_71 : decode cX3_from 71 = .ok (.if_icmp .le 7, 3) := by decide +kernel
theorem dX3_from_74 : decode cX3_from 74 = .ok (.iload_n 3, 1) := by decide +kernel
theorem dX3_from_75 : decode cX3_from 75 = .ok (.goto 9, 3) := by decide +kernel
theorem dX3_from_78 : decode cX3_from 78 = .ok (.aload_n 0, 1) := by decide +kernel
theorem dX3_from_79 : decode cX3_from 79 = .ok (.ldc 130, 2) := by decide +kernel
theorem dX3_from_81 : decode cX3_from 81 = .ok (.invokevirtual 56, 3) := by decide +kernel
theorem dX3_from_84 : decode cX3_from 84 = .ok (.ireturn, 1) := by decide +kernel
theorem dX3_nose_0 : decode cX3_nose 0 = .ok (.aload_n 0, 1) := by decide +kernel
theorem dX3_nose_1 : decode cX3_nose 1 = .ok (.getfield 10, 3) := by decide +kernel
theorem dX3_nose_4 : decode cX3_nose 4 = .ok (.iload_n 1, 1) := by decide +kernel
theorem dX3_nose_5 : decode cX3_nose 5 = .ok (.iload_n 2, 1) := by decide +kernel
theorem dX3_nose_6 : decode cX3_nose 6 = .ok (.invokevirtual 118, 3) := by decide +kernel
theorem dX3_nose_9 : decode cX3_nose 9 = .ok (.ifCond .ne 10, 3) := by decide +kernel
theorem dX3_nose_12 : decode cX3_nose 12 = .ok (.aload_n 0, 1) := by decide +kernel
theorem dX3_nose_13 : decode cX3_nose 13 = .ok (.ldc 55, 2) := by decide +kernel
theorem dX3_nose_15 : decode cX3_nose 15 = .ok (.invokevirtual 56, 3) := by decide +kernel
theorem dX3_nose_18 : decode cX3_nose 18 = .ok (.ireturn, 1) := by decide +kernel
theorem dX3_nose_19 : decode cX3_nose 19 = .ok (.aload_n 0, 1) := by decide +kernel
theorem dX3_nose_20 : decode cX3_nose 20 = .ok (.getfield 19, 3) := by decide +kernel
theorem dX3_nose_23 : decode cX3_nose 23 = .ok (.aload_n 0, 1) := by decide +kernel
theorem dX3_nose_24 : decode cX3_nose 24 = .ok (.getfield 10, 3) := by decide +kernel
theorem dX3_nose_27 : decode cX3_nose 27 = .ok (.invokevirtual 154, 3) := by decide +kernel
theorem dX3_nose_30 : decode cX3_nose 30 = .ok (.aload_n 0, 1) := by decide +kernel
theorem dX3_nose_31 : decode cX3_nose 31 = .ok (.getfield 19, 3) := by decide +kernel
theorem dX3_nose_34 : decode cX3_nose 34 = .ok (.getfield 87, 3) := by decide +kernel
theorem dX3_nose_37 : decode cX3_nose 37 = .ok (.iload_n 1, 1) := by decide +kernel
theorem dX3_nose_38 : decode cX3_nose 38 = .ok (.iconst 0, 1) := by decide +kernel
theorem dX3_nose_39 : decode cX3_nose 39 = .ok (.iastore, 1) := by decide +kernel
theorem dX3_nose_40 : decode cX3_nose 40 = .ok (.iconst 0, 1) := by decide +kernel
theorem dX3_nose_41 : decode cX3_nose 41 = .ok (.istore_n 3, 1) := by decide +kernel
theorem dX3_nose_42 : decode cX3_nose 42 = .ok (.iload_n 3, 1) := by decide +kernel
theorem dX3_nose_43 : decode cX3_nose 43 = .ok (.bipush 9, 2) := by decide +kernel
theorem dX3_nose_45 : decode cX3_nose 45 = .ok (.if_icmp .gt 33, 3) := by decide +kernel
theorem dX3_nose_48 : decode cX3_nose 48 = .ok (.aload_n 0, 1) := by decide +kernel
theorem dX3_nose_49 : decode cX3_nose 49 = .ok (.getfield 19, 3) := by decide +kernel
theorem dX3_nose_52 : decode cX3_nose 52 = .ok (.getfield 84, 3) := by decide +kernel
theorem dX3_nose_55 : decode cX3_nose 55 = .ok (.iload_n 1, 1) := by decide +kernel
theorem dX3_nose_56 : decode cX3_nose 56 = .ok (.iload_n 3, 1) := by decide +kernel
theorem dX3_nose_57 : decode cX3_nose 57 = .ok (.iastore, 1) := by decide +kernel
theorem dX3_nose_58 : decode cX3_nose 58 = .ok (.aload_n 0, 1) := by decide +kernel
theorem dX3_nose_59 : decode cX3_nose 59 = .ok (.getfield 19, 3) := by decide +kernel
theorem dX3_nose_62 : decode cX3_nose 62 = .ok (.iload_n 1, 1) := by decide +kernel
theorem dX3_nose_63 : decode cX3_nose 63 = .ok (.iload_n 2, 1) := by decide +kernel
theorem dX3_nose_64 : decode cX3_nose 64 = .ok (.invokevirtual 180, 3) := by decide +kernel
theorem dX3_nose_67 : decode cX3_nose 67 = .ok (.ifCond .eq 5, 3) := by decide +kernel
theorem dX3_nose_70 : decode cX3_nose 70 = .ok (.iload_n 3, 1) := by decide +kernel
theorem dX3_nose_71 : decode cX3_nose 71 = .ok (.ireturn, 1) := by decide +kernel
theorem dX3_nose_72 : decode cX3_nose 72 = .ok (.iinc 3 1, 3) := by decide +kernel
theorem dX3_nose_75 : decode cX3_nose 75 = .ok (.goto (-33), 3) := by decide +kernel
theorem dX3_nose_78 : decode cX3_nose 78 = .ok (.aload_n 0, 1) := by decide +kernel
theorem dX3_nose_79 : decode cX3_nose 79 = .ok (.ldc 130, 2) := by decide +kernel
theorem dX3_nose_81 : decode cX3_nose 81 = .ok (.invokevirtual 56, 3) := by decide +kernel
theorem dX3_nose_84 : decode cX3_nose 84 = .ok (.ireturn, 1) := by decide +kernel
theorem dX3_feed_0 : decode cX3_feed 0 = .ok (.iload_n 2, 1) := by decide +kernel
theorem dX3_feed_1 : decode cX3_feed 1 = .ok (.iconst 1, 1) := by decide +kernel
theorem dX3_feed_2 : decode cX3_feed 2 = .ok (.iconst 4, 1) := by decide +kernel
theorem dX3_feed_3 : decode cX3_feed 3 = .ok (.invokestatic 44, 3) := by decide +kernel
theorem dX3_feed_6 : decode cX3_feed 6 = .ok (.ifCond .ne 10, 3) := by decide +kernel
theorem dX3_feed_9 : decode cX3_feed 9 = .ok (.aload_n 0, 1) := by decide +kernel
theorem dX3_feed_10 : decode cX3_feed 10 = .ok (.ldc 55, 2) := by decide +kernel
theorem dX3_feed_12 : decode cX3_feed 12 = .ok (.invokevirtual 56, 3) := by decide +kernel
theorem dX3_feed_15 : decode cX3_feed 15 = .ok (.ireturn, 1) := by decide +kernel
theorem dX3_feed_16 : decode cX3_feed 16 = .ok (.aload_n 0, 1) := by decide +kernel
theorem dX3_feed_17 : decode cX3_feed 17 = .ok (.getfield 25, 3) := by decide +kernel
theorem dX3_feed_20 : decode cX3_feed 20 = .ok (.getfield 183, 3) := by decide +kernel
theorem dX3_feed_23 : decode cX3_feed 23 = .ok (.iload_n 2, 1) := by decide +kernel
theorem dX3_feed_24 : decode cX3_feed 24 = .ok (.iadd, 1) := by decide +kernel
theorem dX3_feed_25 : decode cX3_feed 25 = .ok (.bipush 120, 2) := by decide +kernel
theorem dX3_feed_27 : decode cX3_feed 27 = .ok (.if_icmp .le 10, 3) := by decide +kernel
theorem dX3_feed_30 : decode cX3_feed 30 = .ok (.aload_n 0, 1) := by decide +kernel
theorem dX3_feed_31 : decode cX3_feed 31 = .ok (.ldc 70, 2) := by decide +kernel
theorem dX3_feed_33 : decode cX3_feed 33 = .ok (.invokevirtual 56, 3) := by decide +kernel
theorem dX3_feed_36 : decode cX3_feed 36 = .ok (.ireturn, 1) := by decide +kernel
theorem dX3_feed_37 : decode cX3_feed 37 = .ok (.iload_n 2, 1) := by decide +kernel
theorem dX3_feed_38 : decode cX3_feed 38 = .ok (.iconst 1, 1) := by decide +kernel
theorem dX3_feed_39 : decode cX3_feed 39 = .ok (.isub, 1) := by decide +kernel
theorem dX3_feed_40 : decode cX3_feed 40 = .ok (.istore_n 3, 1) := by decide +kernel
theorem dX3_feed_41 : decode cX3_feed 41 = .ok (.iload_n 3, 1) := by decide +kernel
theorem dX3_feed_42 : decode cX3_feed 42 = .ok (.ifCond .lt 26, 3) := by decide +kernel
theorem dX3_feed_45 : decode cX3_feed 45 = .ok (.aload_n 0, 1) := by decide +kernel
theorem dX3_feed_46 : decode cX3_feed 46 = .ok (.getfield 25, 3) := by decide +kernel
theorem dX3_feed_49 : decode cX3_feed 49 = .ok (.iload_n 1, 1) := by decide +kernel
theorem dX3_feed_50 : decode cX3_feed 50 = .ok (.bipush 8, 2) := by decide +kernel
theorem dX3_feed_52 : decode cX3_feed 52 = .ok (.iload_n 3, 1) := by decide +kernel
theorem dX3_feed_53 : decode cX3_feed 53 = .ok (.imul, 1) := by decide +kernel
theorem dX3_feed_54 : decode cX3_feed 54 = .ok (.iushr, 1) := by decide +kernel
theorem dX3_feed_55 : decode cX3_feed 55 = .ok (.sipush 255, 3) := by decide +kernel
theorem dX3_feed_58 : decode cX3_feed 58 = .ok (.iand, 1) := by decide +kernel
theorem dX3_feed_59 : decode cX3_feed 59 = .ok (.invokevirtual 186, 3) := by decide +kernel
theorem dX3_feed_62 : decode cX3_feed 62 = .ok (.iinc 3 (-1), 3) := by decide +kernel
theorem dX3_feed_65 : decode cX3_feed 65 = .ok (.goto (-24), 3) := by decide +kernel
theorem dX3_feed_68 : decode cX3_feed 68 = .ok (.aload_n 0, 1) := by decide +kernel
theorem dX3_feed_69 : decode cX3_feed 69 = .ok (.getfield 25, 3) := by decide +kernel
theorem dX3_feed_72 : decode cX3_feed 72 = .ok (.getfield 183, 3) := by decide +kernel
theorem dX3_feed_75 : decode cX3_feed 75 = .ok (.ireturn, 1) := by decide +kernel
theorem dX3_wipe_0 : decode cX3_wipe 0 = .ok (.aload_n 0, 1) := by decide +kernel
theorem dX3_wipe_1 : decode cX3_wipe 1 = .ok (.getfield 25, 3) := by decide +kernel
theorem dX3_wipe_4 : decode cX3_wipe 4 = .ok (.getfield 183, 3) := by decide +kernel
theorem dX3_wipe_7 : decode cX3_wipe 7 = .ok (.istore_n 1, 1) := by decide +kernel
theorem dX3_wipe_8 : decode cX3_wipe 8 = .ok (.aload_n 0, 1) := by decide +kernel
theorem dX3_wipe_9 : decode cX3_wipe 9 = .ok (.getfield 25, 3) := by decide +kernel
theorem dX3_wipe_12 : decode cX3_wipe 12 = .ok (.iconst 0, 1) := by decide +kernel
theorem dX3_wipe_13 : decode cX3_wipe 13 = .ok (.putfield 183, 3) := by decide +kernel
theorem dX3_wipe_16 : decode cX3_wipe 16 = .ok (.iload_n 1, 1) := by decide +kernel
theorem dX3_wipe_17 : decode cX3_wipe 17 = .ok (.ireturn, 1) := by decide +kernel
theorem dX3_hall_0 : decode cX3_hall 0 = .ok (.aload_n 0, 1) := by decide +kernel
theorem dX3_hall_1 : decode cX3_hall 1 = .ok (.getfield 19, 3) := by decide +kernel
theorem dX3_hall_4 : decode cX3_hall 4 = .ok (.aload_n 0, 1) := by decide +kernel
theorem dX3_hall_5 : decode cX3_hall 5 = .ok (.getfield 10, 3) := by decide +kernel
theorem dX3_hall_8 : decode cX3_hall 8 = .ok (.invokevirtual 154, 3) := by decide +kernel
theorem dX3_hall_11 : decode cX3_hall 11 = .ok (.aload_n 0, 1) := by decide +kernel
theorem dX3_hall_12 : decode cX3_hall 12 = .ok (.getfield 25, 3) := by decide +kernel
theorem dX3_hall_15 : decode cX3_hall 15 = .ok (.aload_n 0, 1) := by decide +kernel
theorem dX3_hall_16 : decode cX3_hall 16 = .ok (.getfield 19, 3) := by decide +kernel
theorem dX3_hall_19 : decode cX3_hall 19 = .ok (.invokevirtual 189, 3) := by decide +kernel
theorem dX3_hall_22 : decode cX3_hall 22 = .ok (.istore_n 1, 1) := by decide +kernel
theorem dX3_hall_23 : decode cX3_hall 23 = .ok (.iload_n 1, 1) := by decide +kernel
theorem dX3_hall_24 : decode cX3_hall 24 = .ok (.ifCond .lt 14, 3) := by decide +kernel
theorem dX3_hall_27 : decode cX3_hall 27 = .ok (.aload_n 0, 1) := by decide +kernel
theorem dX3_hall_28 : decode cX3_hall 28 = .ok (.getfield 10, 3) := by decide +kernel
theorem dX3_hall_31 : decode cX3_hall 31 = .ok (.aload_n 0, 1) := by decide +kernel
theorem dX3_hall_32 : decode cX3_hall 32 = .ok (.getfield 19, 3) := by decide +kernel
theorem dX3_hall_35 : decode cX3_hall 35 = .ok (.invokevirtual 154, 3) := by decide +kernel
theorem dX3_hall_38 : decode cX3_hall 38 = .ok (.aload_n 0, 1) := by decide +kernel
theorem dX3_hall_39 : decode cX3_hall 39 = .ok (.getfield 25, 3) := by decide +kernel
theorem dX3_hall_42 : decode cX3_hall 42 = .ok (.iconst 0, 1) := by decide +kernel
theorem dX3_hall_43 : decode cX3_hall 43 = .ok (.putfield 183, 3) := by decide +kernel
theorem dX3_hall_46 : decode cX3_hall 46 = .ok (.iload_n 1, 1) := by decide +kernel
theorem dX3_hall_47 : decode cX3_hall 47 = .ok (.ireturn, 1) := by decide +kernel
theorem dX3_sheet_0 : decode cX3_sheet 0 = .ok (.iload_n 1, 1) := by decide +kernel
theorem dX3_sheet_1 : decode cX3_sheet 1 = .ok (.invokestatic 193, 3) := by decide +kernel
theorem dX3_sheet_4 : decode cX3_sheet 4 = .ok (.ifCond .eq 25, 3) := by decide +kernel
theorem dX3_sheet_7 : decode cX3_sheet 7 = .ok (.iload_n 2, 1) := by decide +kernel
theorem dX3_sheet_8 : decode cX3_sheet 8 = .ok (.ifCond .eq 28, 3) := by decide +kernel
theorem dX3_sheet_11 : decode cX3_sheet 11 = .ok (.iload_n 2, 1) := by decide +kernel
theorem dX3_sheet_12 : decode cX3_sheet 12 = .ok (.bipush 8, 2) := by decide +kernel
theorem dX3_sheet_14 : decode cX3_sheet 14 = .ok (.if_icmp .eq 22, 3) := by decide +kernel
theorem dX3_sheet_17 : decode cX3_sheet 17 = .ok (.iload_n 2, 1) := by decide +kernel
theorem dX3_sheet_18 : decode cX3_sheet 18 = .ok (.bipush 16, 2) := by decide +kernel
theorem dX3_sheet_20 : decode cX3_sheet 20 = .ok (.if_icmp .eq 16, 3) := by decide +kernel
theorem dX3_sheet_23 : decode cX3_sheet 23 = .ok (.iload_n 2, 1) := by decide +kernel
theorem dX3_sheet_24 : decode cX3_sheet 24 = .ok (.bipush 64, 2) := by decide +kernel
theorem dX3_sheet_26 : decode cX3_sheet 26 = .ok (.if_icmp .eq 10, 3) := by decide +kernel
theorem dX3_sheet_29 : decode cX3_sheet 29 = .ok (.aload_n 0, 1) := by decide +kernel
theorem dX3_sheet_30 : decode cX3_sheet 30 = .ok (.ldc 55, 2) := by decide +kernel
theorem dX3_sheet_32 : decode cX3_sheet 32 = .ok (.invokevirtual 56, 3) := by decide +kernel
theorem dX3_sheet_35 : decode cX3_sheet 35 = .ok (.ireturn, 1) := by decide +kernel
theorem dX3_sheet_36 : decode cX3_sheet 36 = .ok (.iload_n 3, 1) := by decide +kernel
theorem dX3_sheet_37 : decode cX3_sheet 37 = .ok (.ifCond .ge 10, 3) := by decide +kernel
theorem dX3_sheet_40 : decode cX3_sheet 40 = .ok (.aload_n 0, 1) := by decide +kernel
theorem dX3_sheet_41 : decode cX3_sheet 41 = .ok (.ldc 196, 2) := by decide +kernel
theorem dX3_sheet_43 : decode cX3_sheet 43 = .ok (.invokevirtual 56, 3) := by decide +kernel
theorem dX3_sheet_46 : decode cX3_sheet 46 = .ok (.ireturn, 1) := by decide +kernel
theorem dX3_sheet_47 : decode cX3_sheet 47 = .ok (.iload_n 3, 1) := by decide +kernel
theorem dX3_sheet_48 : decode cX3_sheet 48 = .ok (.bipush 40, 2) := by decide +kernel
theorem dX3_sheet_50 : decode cX3_sheet 50 = .ok (.if_icmp .le 10, 3) := by decide +kernel
theorem dX3_sheet_53 : decode cX3_sheet 53 = .ok (.aload_n 0, 1) := by decide +kernel
theorem dX3_sheet_54 : decode cX3_sheet 54 = .ok (.ldc 55, 2) := by decide +kernel
theorem dX3_sheet_56 : decode cX3_sheet 56 = .ok (.invokevirtual 56, 3) := by decide +kernel
theorem dX3_sheet_59 : decode cX3_sheet 59 = .ok (.ireturn, 1) := by decide +kernel
theorem dX3_sheet_60 : decode cX3_sheet 60 = .ok (.aload_n 0, 1) := by decide +kernel
theorem dX3_sheet_61 : decode cX3_sheet 61 = .ok (.getfield 31, 3) := by decide +kernel
theorem dX3_sheet_64 : decode cX3_sheet 64 = .ok (.iload_n 1, 1) := by decide +kernel
theorem dX3_sheet_65 : decode cX3_sheet 65 = .ok (.aaload, 1) := by decide +kernel
theorem dX3_sheet_66 : decode cX3_sheet 66 = .ok (.iload_n 2, 1) := by decide +kernel
theorem dX3_sheet_67 : decode cX3_sheet 67 = .ok (.iload_n 2, 1) := by decide +kernel
theorem dX3_sheet_68 : decode cX3_sheet 68 = .ok (.ifCond .ne 7, 3) := by decide +kernel
theorem dX3_sheet_71 : decode cX3_sheet 71 = .ok (.iconst 0, 1) := by decide +kernel
theorem dX3_sheet_72 : decode cX3_sheet 72 = .ok (.goto 4, 3) := by decide +kernel
theorem dX3_sheet_75 : decode cX3_sheet 75 = .ok (.iload_n 3, 1) := by decide +kernel
theorem dX3_sheet_76 : decode cX3_sheet 76 = .ok (.invokevirtual 197, 3) := by decide +kernel
theorem dX3_sheet_79 : decode cX3_sheet 79 = .ok (.aload_n 0, 1) := by decide +kernel
theorem dX3_sheet_80 : decode cX3_sheet 80 = .ok (.getfield 31, 3) := by decide +kernel
theorem dX3_sheet_83 : decode cX3_sheet 83 = .ok (.iload_n 1, 1) := by decide +kernel
theorem dX3_sheet_84 : decode cX3_sheet 84 = .ok (.aaload, 1) := by decide +kernel
theorem dX3_sheet_85 : decode cX3_sheet 85 = .ok (.getfield 201, 3) := by decide +kernel
theorem dX3_sheet_88 : decode cX3_sheet 88 = .ok (.ireturn, 1) := by decide +kernel
theorem dX3_write_0 : decode cX3_write 0 = .ok (.aload_n 0, 1) := by decide +kernel
theorem dX3_write_1 : decode cX3_write 1 = .ok (.iload_n 1, 1) := by decide +kernel
theorem dX3_write_2 : decode cX3_write 2 = .ok (.invokevirtual 204, 3) := by decide +kernel
theorem dX3_write_5 : decode cX3_write 5 = .ok (.istore 5, 2) := by decide +kernel
theorem dX3_write_7 : decode cX3_write 7 = .ok (.iload 5, 2) := by decide +kernel
theorem dX3_write_9 : decode cX3_write 9 = .ok (.ifCond .eq 11, 3) := by decide +kernel
theorem dX3_write_12 : decode cX3_write 12 = .ok (.aload_n 0, 1) := by decide +kernel
theorem dX3_write_13 : decode cX3_write 13 = .ok (.iload 5, 2) := by decide +kernel
theorem dX3_write_15 : decode cX3_write 15 = .ok (.invokevirtual 56, 3) := by decide +kernel
theorem dX3_write_18 : decode cX3_write 18 = .ok (.i2l, 1) := by decide +kernel
theorem dX3_write_19 : decode cX3_write 19 = .ok (.lreturn, 1) := by decide +kernel
theorem dX3_write_20 : decode cX3_write 20 = .ok (.aload_n 0, 1) := by decide +kernel
theorem dX3_write_21 : decode cX3_write 21 = .ok (.getfield 31, 3) := by decide +kernel
theorem dX3_write_24 : decode cX3_write 24 = .ok (.iload_n 1, 1) := by decide +kernel
theorem dX3_write_25 : decode cX3_write 25 = .ok (.aaload, 1) := by decide +kernel
theorem dX3_write_26 : decode cX3_write 26 = .ok (.astore 6, 2) := by decide +kernel
theorem dX3_write_28 : decode cX3_write 28 = .ok (.iload_n 2, 1) := by decide +kernel
theorem dX3_write_29 : decode cX3_write 29 = .ok (.iconst 0, 1) := by decide +kernel
theorem dX3_write_30 : decode cX3_write 30 = .ok (.aload 6, 2) := by decide +kernel
theorem dX3_write_32 : decode cX3_write 32 = .ok (.getfield 201, 3) := by decide +kernel
theorem dX3_write_35 : decode cX3_write 35 = .ok (.iconst 1, 1) := by decide +kernel
theorem dX3_write_36 : decode cX3_write 36 = .ok (.isub, 1) := by decide +kernel
theorem dX3_write_37 : decode cX3_write 37 = .ok (.invokestatic 44, 3) := by decide +kernel
theorem dX3_write_40 : decode cX3_write 40 = .ok (.ifCond .ne 11, 3) := by decide +kernel
theorem dX3_write_43 : decode cX3_write 43 = .ok (.aload_n 0, 1) := by decide +kernel
theorem dX3_write_44 : decode cX3_write 44 = .ok (.ldc 55, 2) := by decide +kernel
theorem dX3_write_46 : decode cX3_write 46 = .ok (.invokevirtual 56, 3) := by decide +kernel
theorem dX3_write_49 : decode cX3_write 49 = .ok (.i2l, 1) := by decide +kernel
theorem dX3_write_50 : decode cX3_write 50 = .ok (.lreturn, 1) := by decide +kernel
theorem dX3_write_51 : decode cX3_write 51 = .ok (.aload 6, 2) := by decide +kernel
theorem dX3_write_53 : decode cX3_write 53 = .ok (.getfield 207, 3) := by decide +kernel
theorem dX3_write_56 : decode cX3_write 56 = .ok (.iload_n 2, 1) := by decide +kernel
theorem dX3_write_57 : decode cX3_write 57 = .ok (.laload, 1) := by decide +kernel
theorem dX3_write_58 : decode cX3_write 58 = .ok (.lstore 7, 2) := by decide +kernel
theorem dX3_write_60 : decode cX3_write 60 = .ok (.aload 6, 2) := by decide +kernel
theorem dX3_write_62 : decode cX3_write 62 = .ok (.iload_n 2, 1) := by decide +kernel
theorem dX3_write_63 : decode cX3_write 63 = .ok (.lload_n 3, 1) := by decide +kernel
theorem dX3_write_64 : decode cX3_write 64 = .ok (.invokevirtual 211, 3) := by decide +kernel
theorem dX3_write_67 : decode cX3_write 67 = .ok (.lload 7, 2) := by decide +kernel
theorem dX3_write_69 : decode cX3_write 69 = .ok (.lreturn, 1) := by decide +kernel
theorem dX3_copy_0 : decode cX3_copy 0 = .ok (.iload_n 1, 1) := by decide +kernel
theorem dX3_copy_1 : decode cX3_copy 1 = .ok (.invokestatic 193, 3) := by decide +kernel
theorem dX3_copy_4 : decode cX3_copy 4 = .ok (.ifCond .eq 10, 3) := by decide +kernel
theorem dX3_copy_7 : decode cX3_copy 7 = .ok (.iload_n 3, 1) := by decide +kernel
theorem dX3_copy_8 : decode cX3_copy 8 = .ok (.invokestatic 193, 3) := by decide +kernel
theorem dX3_copy_11 : decode cX3_copy 11 = .ok (.ifCond .ne 10, 3) := by decide +kernel
theorem dX3_copy_14 : decode cX3_copy 14 = .ok (.aload_n 0, 1) := by decide +kernel
theorem dX3_copy_15 : decode cX3_copy 15 = .ok (.ldc 55, 2) := by decide +kernel
theorem dX3_copy_17 : decode cX3_copy 17 = .ok (.invokevirtual 56, 3) := by decide +kernel
theorem dX3_copy_20 : decode cX3_copy 20 = .ok (.ireturn, 1) := by decide +kernel
theorem dX3_copy_21 : decode cX3_copy 21 = .ok (.aload_n 0, 1) := by decide +kernel
theorem dX3_copy_22 : decode cX3_copy 22 = .ok (.getfield 31, 3) := by decide +kernel
theorem dX3_copy_25 : decode cX3_copy 25 = .ok (.iload_n 1, 1) := by decide +kernel
theorem dX3_copy_26 : decode cX3_copy 26 = .ok (.aaload, 1) := by decide +kernel
theorem dX3_copy_27 : decode cX3_copy 27 = .ok (.astore 6, 2) := by decide +kernel
theorem dX3_copy_29 : decode cX3_copy 29 = .ok (.aload_n 0, 1) := by decide +kernel
theorem dX3_copy_30 : decode cX3_copy 30 = .ok (.getfield 31, 3) := by decide +kernel
theorem dX3_copy_33 : decode cX3_copy 33 = .ok (.iload_n 3, 1) := by decide +kernel
theorem dX3_copy_34 : decode cX3_copy 34 = .ok (.aaload, 1) := by decide +kernel
theorem dX3_copy_35 : decode cX3_copy 35 = .ok (.astore 7, 2) := by decide +kernel
theorem dX3_copy_37 : decode cX3_copy 37 = .ok (.aload 6, 2) := by decide +kernel
theorem dX3_copy_39 : decode cX3_copy 39 = .ok (.getfield 215, 3) := by decide +kernel
theorem dX3_copy_42 : decode cX3_copy 42 = .ok (.ifCond .eq 11, 3) := by decide +kernel
theorem dX3_copy_45 : decode cX3_copy 45 = .ok (.aload 7, 2) := by decide +kernel
theorem dX3_copy_47 : decode cX3_copy 47 = .ok (.getfield 215, 3) := by decide +kernel
theorem dX3_copy_50 : decode cX3_copy 50 = .ok (.ifCond .ne 10, 3) := by decide +kernel
theorem dX3_copy_53 : decode cX3_copy 53 = .ok (.aload_n 0, 1) := by decide +kernel
theorem dX3_copy_54 : decode cX3_copy 54 = .ok (.ldc 218, 2) := by decide +kernel
theorem dX3_copy_56 : decode cX3_copy 56 = .ok (.invokevirtual 56, 3) := by decide +kernel
theorem dX3_copy_59 : decode cX3_copy 59 = .ok (.ireturn, 1) := by decide +kernel
theorem dX3_copy_60 : decode cX3_copy 60 = .ok (.aload 6, 2) := by decide +kernel
theorem dX3_copy_62 : decode cX3_copy 62 = .ok (.getfield 215, 3) := by decide +kernel
theorem dX3_copy_65 : decode cX3_copy 65 = .ok (.aload 7, 2) := by decide +kernel
theorem dX3_copy_67 : decode cX3_copy 67 = .ok (.getfield 215, 3) := by decide +kernel
theorem dX3_copy_70 : decode cX3_copy 70 = .ok (.if_icmp .eq 10, 3) := by decide +kernel
theorem dX3_copy_73 : decode cX3_copy 73 = .ok (.aload_n 0, 1) := by decide +kernel
theorem dX3_copy_74 : decode cX3_copy 74 = .ok (.ldc 114, 2) := by decide +kernel
theorem dX3_copy_76 : decode cX3_copy 76 = .ok (.invokevirtual 56, 3) := by decide +kernel
theorem dX3_copy_79 : decode cX3_copy 79 = .ok (.ireturn, 1) := by decide +kernel
theorem dX3_copy_80 : decode cX3_copy 80 = .ok (.aload 6, 2) := by decide +kernel
theorem dX3_copy_82 : decode cX3_copy 82 = .ok (.iload_n 2, 1) := by decide +kernel
theorem dX3_copy_83 : decode cX3_copy 83 = .ok (.iload 5, 2) := by decide +kernel
theorem dX3_copy_85 : decode cX3_copy 85 = .ok (.invokevirtual 219, 3) := by decide +kernel
theorem dX3_copy_88 : decode cX3_copy 88 = .ok (.ifCond .eq 15, 3) := by decide +kernel
theorem dX3_copy_91 : decode cX3_copy 91 = .ok (.aload 7, 2) := by decide +kernel
theorem dX3_copy_93 : decode cX3_copy 93 = .ok (.iload 4, 2) := by decide +kernel
theorem dX3_copy_95 : decode cX3_copy 95 = .ok (.iload 5, 2) := by decide +kernel
theorem dX3_copy_97 : decode cX3_copy 97 = .ok (.invokevirtual 219, 3) := by decide +kernel
theorem dX3_copy_100 : decode cX3_copy 100 = .ok (.ifCond .ne 10, 3) := by decide +kernel
theorem dX3_copy_103 : decode cX3_copy 103 = .ok (.aload_n 0, 1) := by decide +kernel
theorem dX3_copy_104 : decode cX3_copy 104 = .ok (.ldc 55, 2) := by decide +kernel
theorem dX3_copy_106 : decode cX3_copy 106 = .ok (.invokevirtual 56, 3) := by decide +kernel
theorem dX3_copy_109 : decode cX3_copy 109 = .ok (.ireturn, 1) := by decide +kernel
theorem dX3_copy_110 : decode cX3_copy 110 = .ok (.aload 6, 2) := by decide +kernel
theorem dX3_copy_112 : decode cX3_copy 112 = .ok (.getfield 207, 3) := by decide +kernel
theorem dX3_copy_115 : decode cX3_copy 115 = .ok (.iload_n 2, 1) := by decide +kernel
theorem dX3_copy_116 : decode cX3_copy 116 = .ok (.aload 7, 2) := by decide +kernel
theorem dX3_copy_118 : decode cX3_copy 118 = .ok (.getfield 207, 3) := by decide +kernel
theorem dX3_copy_121 : decode cX3_copy 121 = .ok (.iload 4, 2) := by decide +kernel
theorem dX3_copy_123 : decode cX3_copy 123 = .ok (.iload 5, 2) := by decide +kernel
theorem dX3_copy_125 : decode cX3_copy 125 = .ok (.invokestatic 222, 3) := by decide +kernel
theorem dX3_copy_128 : decode cX3_copy 128 = .ok (.iload 5, 2) := by decide +kernel
theorem dX3_copy_130 : decode cX3_copy 130 = .ok (.ireturn, 1) := by decide +kernel
theorem dX3_lays_0 : decode cX3_lays 0 = .ok (.aload_n 0, 1) := by decide +kernel
theorem dX3_lays_1 : decode cX3_lays 1 = .ok (.iload_n 1, 1) := by decide +kernel
theorem dX3_lays_2 : decode cX3_lays 2 = .ok (.invokevirtual 204, 3) := by decide +kernel
theorem dX3_lays_5 : decode cX3_lays 5 = .ok (.istore_n 2, 1) := by decide +kernel
theorem dX3_lays_6 : decode cX3_lays 6 = .ok (.iload_n 2, 1) := by decide +kernel
theorem dX3_lays_7 : decode cX3_lays 7 = .ok (.ifCond .eq 9, 3) := by decide +kernel
theorem dX3_lays_10 : decode cX3_lays 10 = .ok (.aload_n 0, 1) := by decide +kernel
theorem dX3_lays_11 : decode cX3_lays 11 = .ok (.iload_n 2, 1) := by decide +kernel
theorem dX3_lays_12 : decode cX3_lays 12 = .ok (.invokevirtual 56, 3) := by decide +kernel
theorem dX3_lays_15 : decode cX3_lays 15 = .ok (.ireturn, 1) := by decide +kernel
theorem dX3_lays_16 : decode cX3_lays 16 = .ok (.aload_n 0, 1) := by decide +kernel
theorem dX3_lays_17 : decode cX3_lays 17 = .ok (.getfield 31, 3) := by decide +kernel
theorem dX3_lays_20 : decode cX3_lays 20 = .ok (.iload_n 1, 1) := by decide +kernel
theorem dX3_lays_21 : decode cX3_lays 21 = .ok (.aaload, 1) := by decide +kernel
theorem dX3_lays_22 : decode cX3_lays 22 = .ok (.astore_n 3, 1) := by decide +kernel
theorem dX3_lays_23 : decode cX3_lays 23 = .ok (.iconst 0, 1) := by decide +kernel
theorem dX3_lays_24 : decode cX3_lays 24 = .ok (.istore 4, 2) := by decide +kernel
theorem dX3_lays_26 : decode cX3_lays 26 = .ok (.iconst 0, 1) := by decide +kernel
theorem dX3_lays_27 : decode cX3_lays 27 = .ok (.istore 5, 2) := by decide +kernel
theorem dX3_lays_29 : decode cX3_lays 29 = .ok (.iload 5, 2) := by decide +kernel
theorem dX3_lays_31 : decode cX3_lays 31 = .ok (.aload_n 3, 1) := by decide +kernel
theorem dX3_lays_32 : decode cX3_lays 32 = .ok (.getfield 201, 3) := by decide +kernel
theorem dX3_lays_35 : decode cX3_lays 35 = .ok (.if_icmp .ge 62, 3) := by decide +kernel
theorem dX3_lays_38 : decode cX3_lays 38 = .ok (.iload 5, 2) := by decide +kernel
theorem dX3_lays_40 : decode cX3_lays 40 = .ok (.aload_n 0, 1) := by decide +kernel
theorem dX3_lays_41 : decode cX3_lays 41 = .ok (.getfield 10, 3) := by decide +kernel
theorem dX3_lays_44 : decode cX3_lays 44 = .ok (.getfield 67, 3) := by decide +kernel
theorem dX3_lays_47 : decode cX3_lays 47 = .ok (.if_icmp .ge 50, 3) := by decide +kernel
theorem dX3_lays_50 : decode cX3_lays 50 = .ok (.aload_n 3, 1) := by decide +kernel
theorem dX3_lays_51 : decode cX3_lays 51 = .ok (.getfield 207, 3) := by decide +kernel
theorem dX3_lays_54 : decode cX3_lays 54 = .ok (.iload 5, 2) := by decide +kernel
theorem dX3_lays_56 : decode cX3_lays 56 = .ok (.laload, 1) := by decide +kernel
theorem dX3_lays_57 : decode cX3_lays 57 = .ok (.lstore 6, 2) := by decide +kernel
theorem dX3_lays_59 : decode cX3_lays 59 = .ok (.lload 6, 2) := by decide +kernel
theorem dX3_lays_61 : decode cX3_lays 61 = .ok (.lconst 0, 1) := by decide +kernel
theorem dX3_lays_62 : decode cX3_lays 62 = .ok (.lcmp, 1) := by decide +kernel
theorem dX3_lays_63 : decode cX3_lays 63 = .ok (.ifCond .lt 28, 3) := by decide +kernel
theorem dX3_lays_66 : decode cX3_lays 66 = .ok (.lload 6, 2) := by decide +kernel
theorem dX3_lays_68 : decode cX3_lays 68 = .ok (.ldc2_w 228, 3) := by decide +kernel
theorem dX3_lays_71 : decode cX3_lays 71 = .ok (.lcmp, 1) := by decide +kernel
theorem dX3_lays_72 : decode cX3_lays 72 = .ok (.ifCond .ge 19, 3) := by decide +kernel
theorem dX3_lays_75 : decode cX3_lays 75 = .ok (.aload_n 0, 1) := by decide +kernel
theorem dX3_lays_76 : decode cX3_lays 76 = .ok (.getfield 10, 3) := by decide +kernel
theorem dX3_lays_79 : decode cX3_lays 79 = .ok (.getfield 81, 3) := by decide +kernel
theorem dX3_lays_82 : decode cX3_lays 82 = .ok (.iload 5, 2) := by decide +kernel
theorem dX3_lays_84 : decode cX3_lays 84 = .ok (.lload 6, 2) := by decide +kernel
theorem dX3_lays_86 : decode cX3_lays 86 = .ok (.l2i, 1) := by decide +kernel
theorem dX3_lays_87 : decode cX3_lays 87 = .ok (.iastore, 1) := by decide +kernel
theorem dX3_lays_88 : decode cX3_lays 88 = .ok (.iinc 4 1, 3) := by decide +kernel
theorem dX3_lays_91 : decode cX3_lays 91 = .ok (.iinc 5 1, 3) := by decide +kernel
theorem dX3_lays_94 : decode cX3_lays 94 = .ok (.goto (-65), 3) := by decide +kernel
theorem dX3_lays_97 : decode cX3_lays 97 = .ok (.iload 4, 2) := by decide +kernel
theorem dX3_lays_99 : decode cX3_lays 99 = .ok (.ireturn, 1) := by decide +kernel
theorem dX3_book_0 : decode cX3_book 0 = .ok (.aload_n 0, 1) := by decide +kernel
theorem dX3_book_1 : decode cX3_book 1 = .ok (.iload_n 1, 1) := by decide +kernel
theorem dX3_book_2 : decode cX3_book 2 = .ok (.iload_n 2, 1) := by decide +kernel
theorem dX3_book_3 : decode cX3_book 3 = .ok (.iload_n 3, 1) := by decide +kernel
theorem dX3_book_4 : decode cX3_book 4 = .ok (.iload 4, 2) := by decide +kernel
theorem dX3_book_6 : decode cX3_book 6 = .ok (.invokevirtual 230, 3) := by decide +kernel
theorem dX3_book_9 : decode cX3_book 9 = .ok (.istore 5, 2) := by decide +kernel
theorem dX3_book_11 : decode cX3_book 11 = .ok (.iload 5, 2) := by decide +kernel
theorem dX3_book_13 : decode cX3_book 13 = .ok (.ifCond .eq 10, 3) := by decide +kernel
theorem dX3_book_16 : decode cX3_book 16 = .ok (.aload_n 0, 1) := by decide +kernel
theorem dX3_book_17 : decode cX3_book 17 = .ok (.iload 5, 2) := by decide +kernel
theorem dX3_book_19 : decode cX3_book 19 = .ok (.invokevirtual 56, 3) := by decide +kernel
theorem dX3_book_22 : decode cX3_book 22 = .ok (.ireturn, 1) := by decide +kernel
theorem dX3_book_23 : decode cX3_book 23 = .ok (.aload_n 0, 1) := by decide +kernel
theorem dX3_book_24 : decode cX3_book 24 = .ok (.getfield 31, 3) := by decide +kernel
theorem dX3_book_27 : decode cX3_book 27 = .ok (.iload_n 1, 1) := by decide +kernel
theorem dX3_book_28 : decode cX3_book 28 = .ok (.aaload, 1) := by decide +kernel
theorem dX3_book_29 : decode cX3_book 29 = .ok (.astore 6, 2) := by decide +kernel
theorem dX3_book_31 : decode cX3_book 31 = .ok (.aload_n 0, 1) := by decide +kernel
theorem dX3_book_32 : decode cX3_book 32 = .ok (.getfield 19, 3) := by decide +kernel
theorem dX3_book_35 : decode cX3_book 35 = .ok (.aload_n 0, 1) := by decide +kernel
theorem dX3_book_36 : decode cX3_book 36 = .ok (.getfield 10, 3) := by decide +kernel
theorem dX3_book_39 : decode cX3_book 39 = .ok (.invokevirtual 154, 3) := by decide +kernel
theorem dX3_book_42 : decode cX3_book 42 = .ok (.iconst 0, 1) := by decide +kernel
theorem dX3_book_43 : decode cX3_book 43 = .ok (.istore 7, 2) := by decide +kernel
theorem dX3_book_45 : decode cX3_book 45 = .ok (.iload 7, 2) := by decide +kernel
theorem dX3_book_47 : decode cX3_book 47 = .ok (.aload 6, 2) := by decide +kernel
theorem dX3_book_49 : decode cX3_book 49 = .ok (.getfield 201, 3) := by decide +kernel
theorem dX3_book_52 : decode cX3_book 52 = .ok (.if_icmp .ge 37, 3) := by decide +kernel
theorem dX3_book_55 : decode cX3_book 55 = .ok (.aload 6, 2) := by decide +kernel
theorem dX3_book_57 : decode cX3_book 57 = .ok (.iload 7, 2) := by decide +kernel
theorem dX3_book_59 : decode cX3_book 59 = .ok (.aload_n 0, 1) := by decide +kernel
theorem dX3_book_60 : decode cX3_book 60 = .ok (.getfield 19, 3) := by decide +kernel
theorem dX3_book_63 : decode cX3_book 63 = .ok (.iload_n 2, 1) := by decide +kernel
theorem dX3_book_64 : decode cX3_book 64 = .ok (.iload_n 3, 1) := by decide +kernel
theorem dX3_book_65 : decode cX3_book 65 = .ok (.iload 4, 2) := by decide +kernel
theorem dX3_book_67 : decode cX3_book 67 = .ok (.invokevirtual 126, 3) := by decide +kernel
theorem dX3_book_70 : decode cX3_book 70 = .ok (.i2l, 1) := by decide +kernel
theorem dX3_book_71 : decode cX3_book 71 = .ok (.invokevirtual 211, 3) := by decide +kernel
theorem dX3_book_74 : decode cX3_book 74 = .ok (.aload_n 0, 1) := by decide +kernel
theorem dX3_book_75 : decode cX3_book 75 = .ok (.getfield 19, 3) := by decide +kernel
theorem dX3_book_78 : decode cX3_book 78 = .ok (.iload 4, 2) := by decide +kernel
theorem dX3_book_80 : decode cX3_book 80 = .ok (.invokevirtual 158, 3) := by decide +kernel
theorem dX3_book_83 : decode cX3_book 83 = .ok (.iinc 7 1, 3) := by decide +kernel
theorem dX3_book_86 : decode cX3_book 86 = .ok (.goto (-41), 3) := by decide +kernel
theorem dX3_book_89 : decode cX3_book 89 = .ok (.aload 6, 2) := by decide +kernel
theorem dX3_book_91 : decode cX3_book 91 = .ok (.getfield 201, 3) := by decide +kernel
theorem dX3_book_94 : decode cX3_book 94 = .ok (.ireturn, 1) := by decide +kernel
theorem dX3_read_0 : decode cX3_read 0 = .ok (.aload_n 0, 1) := by decide +kernel
theorem dX3_read_1 : decode cX3_read 1 = .ok (.iload_n 1, 1) := by decide +kernel
theorem dX3_read_2 : decode cX3_read 2 = .ok (.iload_n 2, 1) := by decide +kernel
theorem dX3_read_3 : decode cX3_read 3 = .ok (.iload_n 3, 1) := by decide +kernel
theorem dX3_read_4 : decode cX3_read 4 = .ok (.iload 4, 2) := by decide +kernel
theorem dX3_read_6 : decode cX3_read 6 = .ok (.invokevirtual 230, 3) := by decide +kernel
theorem dX3_read_9 : decode cX3_read 9 = .ok (.istore 5, 2) := by decide +kernel
theorem dX3_read_11 : decode cX3_read 11 = .ok (.iload 5, 2) := by decide +kernel
theorem dX3_read_13 : decode cX3_read 13 = .ok (.ifCond .eq 10, 3) := by decide +kernel
theorem dX3_read_16 : decode cX3_read 16 = .ok (.aload_n 0, 1) := by decide +kernel
theorem dX3_read_17 : decode cX3_read 17 = .ok (.iload 5, 2) := by decide +kernel
theorem dX3_read_19 : decode cX3_read 19 = .ok (.invokevirtual 56, 3) := by decide +kernel
theorem dX3_read_22 : decode cX3_read 22 = .ok (.ireturn, 1) := by decide +kernel
theorem dX3_read_23 : decode cX3_read 23 = .ok (.iconst 0, 1) := by decide +kernel
theorem dX3_read_24 : decode cX3_read 24 = .ok (.istore 6, 2) := by decide +kernel
theorem dX3_read_26 : decode cX3_read 26 = .ok (.iconst 0, 1) := by decide +kernel
theorem dX3_read_27 : decode cX3_read 27 = .ok (.istore 7, 2) := by decide +kernel
theorem dX3_read_29 : decode cX3_read 29 = .ok (.iload 7, 2) := by decide +kernel
theorem dX3_read_31 : decode cX3_read 31 = .ok (.bipush 99, 2) := by decide +kernel
theorem dX3_read_33 : decode cX3_read 33 = .ok (.if_icmp .gt 54, 3) := by decide +kernel
theorem dX3_read_36 : decode cX3_read 36 = .ok (.aload_n 0, 1) := by decide +kernel
theorem dX3_read_37 : decode cX3_read 37 = .ok (.getfield 19, 3) := by decide +kernel
theorem dX3_read_40 : decode cX3_read 40 = .ok (.aload_n 0, 1) := by decide +kernel
theorem dX3_read_41 : decode cX3_read 41 = .ok (.getfield 10, 3) := by decide +kernel
theorem dX3_read_44 : decode cX3_read 44 = .ok (.invokevirtual 154, 3) := by decide +kernel
theorem dX3_read_47 : decode cX3_read 47 = .ok (.aload_n 0, 1) := by decide +kernel
theorem dX3_read_48 : decode cX3_read 48 = .ok (.getfield 19, 3) := by decide +kernel
theorem dX3_read_51 : decode cX3_read 51 = .ok (.getfield 103, 3) := by decide +kernel
theorem dX3_read_54 : decode cX3_read 54 = .ok (.iload 4, 2) := by decide +kernel
theorem dX3_read_56 : decode cX3_read 56 = .ok (.aaload, 1) := by decide +kernel
theorem dX3_read_57 : decode cX3_read 57 = .ok (.iload_n 3, 1) := by decide +kernel
theorem dX3_read_58 : decode cX3_read 58 = .ok (.iload 7, 2) := by decide +kernel
theorem dX3_read_60 : decode cX3_read 60 = .ok (.iastore, 1) := by decide +kernel
theorem dX3_read_61 : decode cX3_read 61 = .ok (.aload_n 0, 1) := by decide +kernel
theorem dX3_read_62 : decode cX3_read 62 = .ok (.aload_n 0, 1) := by decide +kernel
theorem dX3_read_63 : decode cX3_read 63 = .ok (.getfield 31, 3) := by decide +kernel
theorem dX3_read_66 : decode cX3_read 66 = .ok (.iload_n 1, 1) := by decide +kernel
theorem dX3_read_67 : decode cX3_read 67 = .ok (.aaload, 1) := by decide +kernel
theorem dX3_read_68 : decode cX3_read 68 = .ok (.iload_n 2, 1) := by decide +kernel
theorem dX3_read_69 : decode cX3_read 69 = .ok (.iload_n 3, 1) := by decide +kernel
theorem dX3_read_70 : decode cX3_read 70 = .ok (.iload 4, 2) := by decide +kernel
theorem dX3_read_72 : decode cX3_read 72 = .ok (.invokevirtual 234, 3) := by decide +kernel
theorem dX3_read_75 : decode cX3_read 75 = .ok (.ifCond .eq 6, 3) := by decide +kernel
theorem dX3_read_78 : decode cX3_read 78 = .ok (.iinc 6 1, 3) := by decide +kernel
theorem dX3_read_81 : decode cX3_read 81 = .ok (.iinc 7 1, 3) := by decide +kernel
theorem dX3_read_84 : decode cX3_read 84 = .ok (.goto (-55), 3) := by decide +kernel
theorem dX3_read_87 : decode cX3_read 87 = .ok (.iload 6, 2) := by decide +kernel
theorem dX3_read_89 : decode cX3_read 89 = .ok (.ireturn, 1) := by decide +kernel
theorem dX3_image_0 : decode cX3_image 0 = .ok (.aload_n 0, 1) := by decide +kernel
theorem dX3_image_1 : decode cX3_image 1 = .ok (.getfield 16, 3) := by decide +kernel
theorem dX3_image_4 : decode cX3_image 4 = .ok (.aload_n 0, 1) := by decide +kernel
theorem dX3_image_5 : decode cX3_image 5 = .ok (.getfield 10, 3) := by decide +kernel
theorem dX3_image_8 : decode cX3_image 8 = .ok (.invokevirtual 154, 3) := by decide +kernel
theorem dX3_image_11 : decode cX3_image 11 = .ok (.aload_n 0, 1) := by decide +kernel
theorem dX3_image_12 : decode cX3_image 12 = .ok (.iconst 1, 1) := by decide +kernel
theorem dX3_image_13 : decode cX3_image 13 = .ok (.putfield 40, 3) := by decide +kernel
theorem dX3_image_16 : decode cX3_image 16 = .ok (.iconst 1, 1) := by decide +kernel
theorem dX3_image_17 : decode cX3_image 17 = .ok (.ireturn, 1) := by decide +kernel
theorem dX3_undo_0 : decode cX3_undo 0 = .ok (.aload_n 0, 1) := by decide +kernel
theorem dX3_undo_1 : decode cX3_undo 1 = .ok (.getfield 40, 3) := by decide +kernel
theorem dX3_undo_4 : decode cX3_undo 4 = .ok (.ifCond .ne 10, 3) := by decide +kernel
theorem dX3_undo_7 : decode cX3_undo 7 = .ok (.aload_n 0, 1) := by decide +kernel
theorem dX3_undo_8 : decode cX3_undo 8 = .ok (.ldc 130, 2) := by decide +kernel
theorem dX3_undo_10 : decode cX3_undo 10 = .ok (.invokevirtual 56, 3) := by decide +kernel
theorem dX3_undo_13 : decode cX3_undo 13 = .ok (.ireturn, 1) := by decide +kernel
theorem dX3_undo_14 : decode cX3_undo 14 = .ok (.aload_n 0, 1) := by decide +kernel
theorem dX3_undo_15 : decode cX3_undo 15 = .ok (.getfield 10, 3) := by decide +kernel
theorem dX3_undo_18 : decode cX3_undo 18 = .ok (.aload_n 0, 1) := by decide +kernel
theorem dX3_undo_19 : decode cX3_undo 19 = .ok (.getfield 16, 3) := by decide +kernel
theorem dX3_undo_22 : decode cX3_undo 22 = .ok (.invokevirtual 154, 3) := by decide +kernel
theorem dX3_undo_25 : decode cX3_undo 25 = .ok (.aload_n 0, 1) := by decide +kernel
theorem dX3_undo_26 : decode cX3_undo 26 = .ok (.getfield 10, 3) := by decide +kernel
theorem dX3_undo_29 : decode cX3_undo 29 = .ok (.getfield 67, 3) := by decide +kernel
theorem dX3_undo_32 : decode cX3_undo 32 = .ok (.ireturn, 1) := by decide +kernel
theorem dX3_tear_0 : decode cX3_tear 0 = .ok (.aload_n 0, 1) := by decide +kernel
theorem dX3_tear_1 : decode cX3_tear 1 = .ok (.getfield 40, 3) := by decide +kernel
theorem dX3_tear_4 : decode cX3_tear 4 = .ok (.ifCond .eq 7, 3) := by decide +kernel
theorem dX3_tear_7 : decode cX3_tear 7 = .ok (.iconst 1, 1) := by decide +kernel
theorem dX3_tear_8 : decode cX3_tear 8 = .ok (.goto 4, 3) := by decide +kernel
theorem dX3_tear_11 : decode cX3_tear 11 = .ok (.iconst 0, 1) := by decide +kernel
theorem dX3_tear_12 : decode cX3_tear 12 = .ok (.istore_n 1, 1) := by decide +kernel
theorem dX3_tear_13 : decode cX3_tear 13 = .ok (.aload_n 0, 1) := by decide +kernel
theorem dX3_tear_14 : decode cX3_tear 14 = .ok (.iconst 0, 1) := by decide +kernel
theorem dX3_tear_15 : decode cX3_tear 15 = .ok (.putfield 40, 3) := by decide +kernel
theorem dX3_tear_18 : decode cX3_tear 18 = .ok (.iload_n 1, 1) := by decide +kernel
theorem dX3_tear_19 : decode cX3_tear 19 = .ok (.ireturn, 1) := by decide +kernel
theorem dX3_count_0 : decode cX3_count 0 = .ok (.iload_n 1, 1) := by decide +kernel
theorem dX3_count_1 : decode cX3_count 1 = .ok (.tableswitch 77 0 3 #[31, 39, 47, 62], 31) := by decide +kernel
theorem dX3_count_32 : decode cX3_count 32 = .ok (.aload_n 0, 1) := by decide +kernel
theorem dX3_count_33 : decode cX3_count 33 = .ok (.getfield 10, 3) := by decide +kernel
theorem dX3_count_36 : decode cX3_count 36 = .ok (.getfield 67, 3) := by decide +kernel
theorem dX3_count_39 : decode cX3_count 39 = .ok (.ireturn, 1) := by decide +kernel
theorem dX3_count_40 : decode cX3_count 40 = .ok (.aload_n 0, 1) := by decide +kernel
theorem dX3_count_41 : decode cX3_count 41 = .ok (.getfield 25, 3) := by decide +kernel
theorem dX3_count_44 : decode cX3_count 44 = .ok (.getfield 183, 3) := by decide +kernel
theorem dX3_count_47 : decode cX3_count 47 = .ok (.ireturn, 1) := by decide +kernel
theorem dX3_count_48 : decode cX3_count 48 = .ok (.aload_n 0, 1) := by decide +kernel
theorem dX3_count_49 : decode cX3_count 49 = .ok (.getfield 10, 3) := by decide +kernel
theorem dX3_count_52 : decode cX3_count 52 = .ok (.aload_n 0, 1) := by decide +kernel
theorem dX3_count_53 : decode cX3_count 53 = .ok (.getfield 10, 3) := by decide +kernel
theorem dX3_count_56 : decode cX3_count 56 = .ok (.getfield 87, 3) := by decide +kernel
theorem dX3_count_59 : decode cX3_count 59 = .ok (.invokevirtual 238, 3) := by decide +kernel
theorem dX3_count_62 : decode cX3_count 62 = .ok (.ireturn, 1) := by decide +kernel
theorem dX3_count_63 : decode cX3_count 63 = .ok (.aload_n 0, 1) := by decide +kernel
theorem dX3_count_64 : decode cX3_count 64 = .ok (.getfield 10, 3) := by decide +kernel
theorem dX3_count_67 : decode cX3_count 67 = .ok (.aload_n 0, 1) := by decide +kernel
theorem dX3_count_68 : decode cX3_count 68 = .ok (.getfield 10, 3) := by decide +kernel
theorem dX3_count_71 : decode cX3_count 71 = .ok (.getfield 84, 3) := by decide +kernel
theorem dX3_count_74 : decode cX3_count 74 = .ok (.invokevirtual 238, 3) := by decide +kernel
theorem dX3_count_77 : decode cX3_count 77 = .ok (.ireturn, 1) := by decide +kernel
theorem dX3_count_78 : decode cX3_count 78 = .ok (.aload_n 0, 1) := by decide +kernel
theorem dX3_count_79 : decode cX3_count 79 = .ok (.ldc 55, 2) := by decide +kernel
theorem dX3_count_81 : decode cX3_count 81 = .ok (.invokevirtual 56, 3) := by decide +kernel
theorem dX3_count_84 : decode cX3_count 84 = .ok (.ireturn, 1) := by decide +kernel
theorem dX3_status_0 : decode cX3_status 0 = .ok (.iload_n 1, 1) := by decide +kernel
theorem dX3_status_1 : decode cX3_status 1 = .ok (.iconst 0, 1) := by decide +kernel
theorem dX3_status_2 : decode cX3_status 2 = .ok (.bipush 6, 2) := by decide +kernel
theorem dX3_status_4 : decode cX3_status 4 = .ok (.invokestatic 44, 3) := by decide +kernel
theorem dX3_status_7 : decode cX3_status 7 = .ok (.ifCond .eq 10, 3) := by decide +kernel
theorem dX3_status_10 : decode cX3_status 10 = .ok (.aload_n 0, 1) := by decide +kernel
theorem dX3_status_11 : decode cX3_status 11 = .ok (.getfield 36, 3) := by decide +kernel
theorem dX3_status_14 : decode cX3_status 14 = .ok (.iload_n 1, 1) := by decide +kernel
theorem dX3_status_15 : decode cX3_status 15 = .ok (.iaload, 1) := by decide +kernel
theorem dX3_status_16 : decode cX3_status 16 = .ok (.ireturn, 1) := by decide +kernel
theorem dX3_status_17 : decode cX3_status 17 = .ok (.iload_n 1, 1) := by decide +kernel
theorem dX3_status_18 : decode cX3_status 18 = .ok (.iconst (-1), 1) := by decide +kernel
theorem dX3_status_19 : decode cX3_status 19 = .ok (.if_icmp .eq 10, 3) := by decide +kernel
theorem dX3_status_22 : decode cX3_status 22 = .ok (.aload_n 0, 1) := by decide +kernel
theorem dX3_status_23 : decode cX3_status 23 = .ok (.ldc 55, 2) := by decide +kernel
theorem dX3_status_25 : decode cX3_status 25 = .ok (.invokevirtual 56, 3) := by decide +kernel
theorem dX3_status_28 : decode cX3_status 28 = .ok (.ireturn, 1) := by decide +kernel
theorem dX3_status_29 : decode cX3_status 29 = .ok (.iconst 0, 1) := by decide +kernel
theorem dX3_status_30 : decode cX3_status 30 = .ok (.istore_n 2, 1) := by decide +kernel
theorem dX3_status_31 : decode cX3_status 31 = .ok (.iconst 0, 1) := by decide +kernel
theorem dX3_status_32 : decode cX3_status 32 = .ok (.istore_n 3, 1) := by decide +kernel
theorem dX3_status_33 : decode cX3_status 33 = .ok (.iload_n 3, 1) := by decide +kernel
theorem dX3_status_34 : decode cX3_status 34 = .ok (.bipush 7, 2) := by decide +kernel
theorem dX3_status_36 : decode cX3_status 36 = .ok (.if_icmp .ge 18, 3) := by decide +kernel
theorem dX3_status_39 : decode cX3_status 39 = .ok (.iload_n 2, 1) := by decide +kernel
theorem dX3_status_40 : decode cX3_status 40 = .ok (.aload_n 0, 1) := by decide +kernel
theorem dX3_status_41 : decode cX3_status 41 = .ok (.getfield 36, 3) := by decide +kernel
theorem dX3_status_44 : decode cX3_status 44 = .ok (.iload_n 3, 1) := by decide +kernel
theorem dX3_status_45 : decode cX3_status 45 = .ok (.iaload, 1) := by decide +kernel
theorem dX3_status_46 : decode cX3_status 46 = .ok (.iadd, 1) := by decide +kernel
theorem dX3_status_47 : decode cX3_status 47 = .ok (.istore_n 2, 1) := by decide +kernel
theorem dX3_status_48 : decode cX3_status 48 = .ok (.iinc 3 1, 3) := by decide +kernel
theorem dX3_status_51 : decode cX3_status 51 = .ok (.goto (-18), 3) := by decide +kernel
theorem dX3_status_54 : decode cX3_status 54 = .ok (.iload_n 2, 1) := by decide +kernel
theorem dX3_status_55 : decode cX3_status 55 = .ok (.ireturn, 1) := by decide +kernel
theorem dX3_tell_0 : decode cX3_tell 0 = .ok (.ldc 55, 2) := by decide +kernel
theorem dX3_tell_2 : decode cX3_tell 2 = .ok (.iload_n 1, 1) := by decide +kernel
theorem dX3_tell_3 : decode cX3_tell 3 = .ok (.isub, 1) := by decide +kernel
theorem dX3_tell_4 : decode cX3_tell 4 = .ok (.istore_n 2, 1) := by decide +kernel
theorem dX3_tell_5 : decode cX3_tell 5 = .ok (.iload_n 2, 1) := by decide +kernel
theorem dX3_tell_6 : decode cX3_tell 6 = .ok (.iconst 0, 1) := by decide +kernel
theorem dX3_tell_7 : decode cX3_tell 7 = .ok (.bipush 6, 2) := by decide +kernel
theorem dX3_tell_9 : decode cX3_tell 9 = .ok (.invokestatic 44, 3) := by decide +kernel
theorem dX3_tell_12 : decode cX3_tell 12 = .ok (.ifCond .eq 13, 3) := by decide +kernel
theorem dX3_tell_15 : decode cX3_tell 15 = .ok (.aload_n 0, 1) := by decide +kernel
theorem dX3_tell_16 : decode cX3_tell 16 = .ok (.getfield 36, 3) := by decide +kernel
theorem dX3_tell_19 : decode cX3_tell 19 = .ok (.iload_n 2, 1) := by decide +kernel
theorem dX3_tell_20 : decode cX3_tell 20 = .ok (.dup2, 1) := by decide +kernel
theorem dX3_tell_21 : decode cX3_tell 21 = .ok (.iaload, 1) := by decide +kernel
theorem dX3_tell_22 : decode cX3_tell 22 = .ok (.iconst 1, 1) := by decide +kernel
theorem dX3_tell_23 : decode cX3_tell 23 = .ok (.iadd, 1) := by decide +kernel
theorem dX3_tell_24 : decode cX3_tell 24 = .ok (.iastore, 1) := by decide +kernel
theorem dX3_tell_25 : decode cX3_tell 25 = .ok (.iload_n 1, 1) := by decide +kernel
theorem dX3_tell_26 : decode cX3_tell 26 = .ok (.ireturn, 1) := by decide +kernel
theorem dX3_fewestFind_0 : decode cX3_fewestFind 0 = .ok (.aload_n 0, 1) := by decide +kernel
theorem dX3_fewestFind_1 : decode cX3_fewestFind 1 = .ok (.getfield 19, 3) := by decide +kernel
theorem dX3_fewestFind_4 : decode cX3_fewestFind 4 = .ok (.aload_n 0, 1) := by decide +kernel
theorem dX3_fewestFind_5 : decode cX3_fewestFind 5 = .ok (.getfield 10, 3) := by decide +kernel
theorem dX3_fewestFind_8 : decode cX3_fewestFind 8 = .ok (.invokevirtual 154, 3) := by decide +kernel
theorem dX3_fewestFind_11 : decode cX3_fewestFind 11 = .ok (.bipush 9, 2) := by decide +kernel
theorem dX3_fewestFind_13 : decode cX3_fewestFind 13 = .ok (.istore 4, 2) := by decide +kernel
theorem dX3_fewestFind_15 : decode cX3_fewestFind 15 = .ok (.iconst 0, 1) := by decide +kernel
theorem dX3_fewestFind_16 : decode cX3_fewestFind 16 = .ok (.istore 5, 2) := by decide +kernel
theorem dX3_fewestFind_18 : decode cX3_fewestFind 18 = .ok (.iconst 0, 1) := by decide +kernel
theorem dX3_fewestFind_19 : decode cX3_fewestFind 19 = .ok (.istore 6, 2) := by decide +kernel
theorem dX3_fewestFind_21 : decode cX3_fewestFind 21 = .ok (.iload 6, 2) := by decide +kernel
theorem dX3_fewestFind_23 : decode cX3_fewestFind 23 = .ok (.iload_n 3, 1) := by decide +kernel
theorem dX3_fewestFind_24 : decode cX3_fewestFind 24 = .ok (.if_icmp .ge 48, 3) := by decide +kernel
theorem dX3_fewestFind_27 : decode cX3_fewestFind 27 = .ok (.aload_n 0, 1) := by decide +kernel
theorem dX3_fewestFind_28 : decode cX3_fewestFind 28 = .ok (.getfield 19, 3) := by decide +kernel
theorem dX3_fewestFind_31 : decode cX3_fewestFind 31 = .ok (.iload_n 1, 1) := by decide +kernel
theorem dX3_fewestFind_32 : decode cX3_fewestFind 32 = .ok (.iload_n 2, 1) := by decide +kernel
theorem dX3_fewestFind_33 : decode cX3_fewestFind 33 = .ok (.iload 6, 2) := by decide +kernel
theorem dX3_fewestFind_35 : decode cX3_fewestFind 35 = .ok (.invokevirtual 242, 3) := by decide +kernel
theorem dX3_fewestFind_38 : decode cX3_fewestFind 38 = .ok (.aload_n 0, 1) := by decide +kernel
theorem dX3_fewestFind_39 : decode cX3_fewestFind 39 = .ok (.getfield 19, 3) := by decide +kernel
theorem dX3_fewestFind_42 : decode cX3_fewestFind 42 = .ok (.iload_n 1, 1) := by decide +kernel
theorem dX3_fewestFind_43 : decode cX3_fewestFind 43 = .ok (.invokevirtual 131, 3) := by decide +kernel
theorem dX3_fewestFind_46 : decode cX3_fewestFind 46 = .ok (.invokestatic 165, 3) := by decide +kernel
theorem dX3_fewestFind_49 : decode cX3_fewestFind 49 = .ok (.istore 7, 2) := by decide +kernel
theorem dX3_fewestFind_51 : decode cX3_fewestFind 51 = .ok (.iload 7, 2) := by decide +kernel
theorem dX3_fewestFind_53 : decode cX3_fewestFind 53 = .ok (.iload 4, 2) := by decide +kernel
theorem dX3_fewestFind_55 : decode cX3_fewestFind 55 = .ok (.if_icmp .ge 11, 3) := by decide +kernel
theorem dX3_fewestFind_58 : decode cX3_fewestFind 58 = .ok (.iload 7, 2) := by decide +kernel
theorem dX3_fewestFind_60 : decode cX3_fewestFind 60 = .ok (.istore 4, 2) := by decide +kernel
theorem dX3_fewestFind_62 : decode cX3_fewestFind 62 = .ok (.iload 6, 2) := by decide +kernel
theorem dX3_fewestFind_64 : decode cX3_fewestFind 64 = .ok (.istore 5, 2) := by decide +kernel
theorem dX3_fewestFind_66 : decode cX3_fewestFind 66 = .ok (.iinc 6 1, 3) := by decide +kernel
theorem dX3_fewestFind_69 : decode cX3_fewestFind 69 = .ok (.goto (-48), 3) := by decide +kernel
theorem dX3_fewestFind_72 : decode cX3_fewestFind 72 = .ok (.iload 5, 2) := by decide +kernel
theorem dX3_fewestFind_74 : decode cX3_fewestFind 74 = .ok (.ireturn, 1) := by decide +kernel
theorem dX3_isToldBy_0 : decode cX3_isToldBy 0 = .ok (.iconst 0, 1) := by decide +kernel
theorem dX3_isToldBy_1 : decode cX3_isToldBy 1 = .ok (.istore 5, 2) := by decide +kernel
theorem dX3_isToldBy_3 : decode cX3_isToldBy 3 = .ok (.iload 5, 2) := by decide +kernel
theorem dX3_isToldBy_5 : decode cX3_isToldBy 5 = .ok (.aload_n 1, 1) := by decide +kernel
theorem dX3_isToldBy_6 : decode cX3_isToldBy 6 = .ok (.getfield 201, 3) := by decide +kernel
theorem dX3_isToldBy_9 : decode cX3_isToldBy 9 = .ok (.if_icmp .ge 43, 3) := by decide +kernel
theorem dX3_isToldBy_12 : decode cX3_isToldBy 12 = .ok (.aload_n 1, 1) := by decide +kernel
theorem dX3_isToldBy_13 : decode cX3_isToldBy 13 = .ok (.getfield 207, 3) := by decide +kernel
theorem dX3_isToldBy_16 : decode cX3_isToldBy 16 = .ok (.iload 5, 2) := by decide +kernel
theorem dX3_isToldBy_18 : decode cX3_isToldBy 18 = .ok (.laload, 1) := by decide +kernel
theorem dX3_isToldBy_19 : decode cX3_isToldBy 19 = .ok (.aload_n 0, 1) := by decide +kernel
theorem dX3_isToldBy_20 : decode cX3_isToldBy 20 = .ok (.getfield 19, 3) := by decide +kernel
theorem dX3_isToldBy_23 : decode cX3_isToldBy 23 = .ok (.iload_n 2, 1) := by decide +kernel
theorem dX3_isToldBy_24 : decode cX3_isToldBy 24 = .ok (.iload_n 3, 1) := by decide +kernel
theorem dX3_isToldBy_25 : decode cX3_isToldBy 25 = .ok (.iload 4, 2) := by decide +kernel
theorem dX3_isToldBy_27 : decode cX3_isToldBy 27 = .ok (.invokevirtual 126, 3) := by decide +kernel
theorem dX3_isToldBy_30 : decode cX3_isToldBy 30 = .ok (.i2l, 1) := by decide +kernel
theorem dX3_isToldBy_31 : decode cX3_isToldBy 31 = .ok (.lcmp, 1) := by decide +kernel
theorem dX3_isToldBy_32 : decode cX3_isToldBy 32 = .ok (.ifCond .eq 5, 3) := by decide +kernel
theorem dX3_isToldBy_35 : decode cX3_isToldBy 35 = .ok (.iconst 0, 1) := by decide +kernel
theorem dX3_isToldBy_36 : decode cX3_isToldBy 36 = .ok (.ireturn, 1) := by decide +kernel
theorem dX3_isToldBy_37 : decode cX3_isToldBy 37 = .ok (.aload_n 0, 1) := by decide +kernel
theorem dX3_isToldBy_38 : decode cX3_isToldBy 38 = .ok (.getfield 19, 3) := by decide +kernel
theorem dX3_isToldBy_41 : decode cX3_isToldBy 41 = .ok (.iload 4, 2) := by decide +kernel
theorem dX3_isToldBy_43 : decode cX3_isToldBy 43 = .ok (.invokevirtual 158, 3) := by decide +kernel
theorem dX3_isToldBy_46 : decode cX3_isToldBy 46 = .ok (.iinc 5 1, 3) := by decide +kernel
theorem dX3_isToldBy_49 : decode cX3_isToldBy 49 = .ok (.goto (-46), 3) := by decide +kernel
theorem dX3_isToldBy_52 : decode cX3_isToldBy 52 = .ok (.iconst 1, 1) := by decide +kernel
theorem dX3_isToldBy_53 : decode cX3_isToldBy 53 = .ok (.ireturn, 1) := by decide +kernel
theorem dX3_findingOfSheet_0 : decode cX3_findingOfSheet 0 = .ok (.iload_n 1, 1) := by decide +kernel
theorem dX3_findingOfSheet_1 : decode cX3_findingOfSheet 1 = .ok (.invokestatic 193, 3) := by decide +kernel
theorem dX3_findingOfSheet_4 : decode cX3_findingOfSheet 4 = .ok (.ifCond .ne 6, 3) := by decide +kernel
theorem dX3_findingOfSheet_7 : decode cX3_findingOfSheet 7 = .ok (.ldc 55, 2) := by decide +kernel
theorem dX3_findingOfSheet_9 : decode cX3_findingOfSheet 9 = .ok (.ireturn, 1) := by decide +kernel
theorem dX3_findingOfSheet_10 : decode cX3_findingOfSheet 10 = .ok (.aload_n 0, 1) := by decide +kernel
theorem dX3_findingOfSheet_11 : decode cX3_findingOfSheet 11 = .ok (.getfield 31, 3) := by decide +kernel
theorem dX3_findingOfSheet_14 : decode cX3_findingOfSheet 14 = .ok (.iload_n 1, 1) := by decide +kernel
theorem dX3_findingOfSheet_15 : decode cX3_findingOfSheet 15 = .ok (.aaload, 1) := by decide +kernel
theorem dX3_findingOfSheet_16 : decode cX3_findingOfSheet 16 = .ok (.getfield 215, 3) := by decide +kernel
theorem dX3_findingOfSheet_19 : decode cX3_findingOfSheet 19 = .ok (.ifCond .ne 8, 3) := by decide +kernel
theorem dX3_findingOfSheet_22 : decode cX3_findingOfSheet 22 = .ok (.ldc 218, 2) := by decide +kernel
theorem dX3_findingOfSheet_24 : decode cX3_findingOfSheet 24 = .ok (.goto 4, 3) := by decide +kernel
theorem dX3_findingOfSheet_27 : decode cX3_findingOfSheet 27 = .ok (.iconst 0, 1) := by decide +kernel
theorem dX3_findingOfSheet_28 : decode cX3_findingOfSheet 28 = .ok (.ireturn, 1) := by decide +kernel
theorem dX3_findingOfBook_0 : decode cX3_findingOfBook 0 = .ok (.aload_n 0, 1) := by decide +kernel
theorem dX3_findingOfBook_1 : decode cX3_findingOfBook 1 = .ok (.iload_n 1, 1) := by decide +kernel
theorem dX3_findingOfBook_2 : decode cX3_findingOfBook 2 = .ok (.invokevirtual 204, 3) := by decide +kernel
theorem dX3_findingOfBook_5 : decode cX3_findingOfBook 5 = .ok (.istore 5, 2) := by decide +kernel
theorem dX3_findingOfBook_7 : decode cX3_findingOfBook 7 = .ok (.iload 5, 2) := by decide +kernel
theorem dX3_findingOfBook_9 : decode cX3_findingOfBook 9 = .ok (.ifCond .eq 6, 3) := by decide +kernel
theorem dX3_findingOfBook_12 : decode cX3_findingOfBook 12 = .ok (.iload 5, 2) := by decide +kernel
theorem dX3_findingOfBook_14 : decode cX3_findingOfBook 14 = .ok (.ireturn, 1) := by decide +kernel
theorem dX3_findingOfBook_15 : decode cX3_findingOfBook 15 = .ok (.aload_n 0, 1) := by decide +kernel
theorem dX3_findingOfBook_16 : decode cX3_findingOfBook 16 = .ok (.getfield 10, 3) := by decide +kernel
theorem dX3_findingOfBook_19 : decode cX3_findingOfBook 19 = .ok (.iload_n 2, 1) := by decide +kernel
theorem dX3_findingOfBook_20 : decode cX3_findingOfBook 20 = .ok (.iload_n 3, 1) := by decide +kernel
theorem dX3_findingOfBook_21 : decode cX3_findingOfBook 21 = .ok (.invokevirtual 118, 3) := by decide +kernel
theorem dX3_findingOfBook_24 : decode cX3_findingOfBook 24 = .ok (.ifCond .eq 15, 3) := by decide +kernel
theorem dX3_findingOfBook_27 : decode cX3_findingOfBook 27 = .ok (.iload 4, 2) := by decide +kernel
theorem dX3_findingOfBook_29 : decode cX3_findingOfBook 29 = .ok (.invokestatic 100, 3) := by decide +kernel
theorem dX3_findingOfBook_32 : decode cX3_findingOfBook 32 = .ok (.ifCond .eq 7, 3) := by decide +kernel
theorem dX3_findingOfBook_35 : decode cX3_findingOfBook 35 = .ok (.iconst 0, 1) := by decide +kernel
theorem dX3_findingOfBook_36 : decode cX3_findingOfBook 36 = .ok (.goto 5, 3) := by decide +kernel
theorem dX3_findingOfBook_39 : decode cX3_findingOfBook 39 = .ok (.ldc 55, 2) := by decide +kernel
theorem dX3_findingOfBook_41 : decode cX3_findingOfBook 41 = .ok (.ireturn, 1) := by decide +kernel
theorem dX3_exchange_0 : decode cX3_exchange 0 = .ok (.aload_n 0, 1) := by decide +kernel
theorem dX3_exchange_1 : decode cX3_exchange 1 = .ok (.iload_n 1, 1) := by decide +kernel
theorem dX3_exchange_2 : decode cX3_exchange 2 = .ok (.iaload, 1) := by decide +kernel
theorem dX3_exchange_3 : decode cX3_exchange 3 = .ok (.istore_n 3, 1) := by decide +kernel
theorem dX3_exchange_4 : decode cX3_exchange 4 = .ok (.aload_n 0, 1) := by decide +kernel
theorem dX3_exchange_5 : decode cX3_exchange 5 = .ok (.iload_n 1, 1) := by decide +kernel
theorem dX3_exchange_6 : decode cX3_exchange 6 = .ok (.iload_n 2, 1) := by decide +kernel
theorem dX3_exchange_7 : decode cX3_exchange 7 = .ok (.iastore, 1) := by decide +kernel
theorem dX3_exchange_8 : decode cX3_exchange 8 = .ok (.iload_n 3, 1) := by decide +kernel
theorem dX3_exchange_9 : decode cX3_exchange 9 = .ok (.ireturn, 1) := by decide +kernel
theorem dX3_within_0 : decode cX3_within 0 = .ok (.iload_n 0, 1) := by decide +kernel
theorem dX3_within_1 : decode cX3_within 1 = .ok (.iload_n 1, 1) := by decide +kernel
theorem dX3_within_2 : decode cX3_within 2 = .ok (.if_icmp .lt 12, 3) := by decide +kernel
theorem dX3_within_5 : decode cX3_within 5 = .ok (.iload_n 0, 1) := by decide +kernel
theorem dX3_within_6 : decode cX3_within 6 = .ok (.iload_n 2, 1) := by decide +kernel
theorem dX3_within_7 : decode cX3_within 7 = .ok (.if_icmp .gt 7, 3) := by decide +kernel
theorem dX3_within_10 : decode cX3_within 10 = .ok (.iconst 1, 1) := by decide +kernel
theorem dX3_within_11 : decode cX3_within 11 = .ok (.goto 4, 3) := by decide +kernel
theorem dX3_within_14 : decode cX3_within 14 = .ok (.iconst 0, 1) := by decide +kernel
theorem dX3_within_15 : decode cX3_within 15 = .ok (.ireturn, 1) := by decide +kernel
theorem dX3_isKind_0 : decode cX3_isKind 0 = .ok (.iload_n 0, 1) := by decide +kernel
theorem dX3_isKind_1 : decode cX3_isKind 1 = .ok (.iconst 0, 1) := by decide +kernel
theorem dX3_isKind_2 : decode cX3_isKind 2 = .ok (.iconst 5, 1) := by decide +kernel
theorem dX3_isKind_3 : decode cX3_isKind 3 = .ok (.invokestatic 44, 3) := by decide +kernel
theorem dX3_isKind_6 : decode cX3_isKind 6 = .ok (.ireturn, 1) := by decide +kernel
theorem dX3_isPlace_0 : decode cX3_isPlace 0 = .ok (.iload_n 0, 1) := by decide +kernel
theorem dX3_isPlace_1 : decode cX3_isPlace 1 = .ok (.iconst 0, 1) := by decide +kernel
theorem dX3_isPlace_2 : decode cX3_isPlace 2 = .ok (.bipush 47, 2) := by decide +kernel
theorem dX3_isPlace_4 : decode cX3_isPlace 4 = .ok (.invokestatic 44, 3) := by decide +kernel
theorem dX3_isPlace_7 : decode cX3_isPlace 7 = .ok (.ireturn, 1) := by decide +kernel
theorem dX3_isDeed_0 : decode cX3_isDeed 0 = .ok (.iload_n 0, 1) := by decide +kernel
theorem dX3_isDeed_1 : decode cX3_isDeed 1 = .ok (.iconst 0, 1) := by decide +kernel
theorem dX3_isDeed_2 : decode cX3_isDeed 2 = .ok (.iconst 5, 1) := by decide +kernel
theorem dX3_isDeed_3 : decode cX3_isDeed 3 = .ok (.invokestatic 44, 3) := by decide +kernel
theorem dX3_isDeed_6 : decode cX3_isDeed 6 = .ok (.ireturn, 1) := by decide +kernel
theorem dX3_isSheet_0 : decode cX3_isSheet 0 = .ok (.iload_n 0, 1) := by decide +kernel
theorem dX3_isSheet_1 : decode cX3_isSheet 1 = .ok (.iconst 0, 1) := by decide +kernel
theorem dX3_isSheet_2 : decode cX3_isSheet 2 = .ok (.iconst 3, 1) := by decide +kernel
theorem dX3_isSheet_3 : decode cX3_isSheet 3 = .ok (.invokestatic 44, 3) := by decide +kernel
theorem dX3_isSheet_6 : decode cX3_isSheet 6 = .ok (.ireturn, 1) := by decide +kernel
theorem dX3_isUnder_0 : decode cX3_isUnder 0 = .ok (.iload_n 1, 1) := by decide +kernel
theorem dX3_isUnder_1 : decode cX3_isUnder 1 = .ok (.tableswitch 65 0 3 #[31, 65, 33, 49], 31) := by decide +kernel
theorem dX3_isUnder_32 : decode cX3_isUnder 32 = .ok (.iconst 1, 1) := by decide +kernel
theorem dX3_isUnder_33 : decode cX3_isUnder 33 = .ok (.ireturn, 1) := by decide +kernel
theorem dX3_isUnder_34 : decode cX3_isUnder 34 = .ok (.iload_n 0, 1) := by decide +kernel
theorem dX3_isUnder_35 : decode cX3_isUnder 35 = .ok (.iconst 2, 1) := by decide +kernel
theorem dX3_isUnder_36 : decode cX3_isUnder 36 = .ok (.if_icmp .eq 8, 3) := by decide +kernel
theorem dX3_isUnder_39 : decode cX3_isUnder 39 = .ok (.iload_n 0, 1) := by decide +kernel
theorem dX3_isUnder_40 : decode cX3_isUnder 40 = .ok (.iconst 4, 1) := by decide +kernel
theorem dX3_isUnder_41 : decode cX3_isUnder 41 = .ok (.if_icmp .ne 7, 3) := by decide +kernel
theorem dX3_isUnder_44 : decode cX3_isUnder 44 = .ok (.iconst 1, 1) := by decide +kernel
theorem dX3_isUnder_45 : decode cX3_isUnder 45 = .ok (.goto 4, 3) := by decide +kernel
theorem dX3_isUnder_48 : decode cX3_isUnder 48 = .ok (.iconst 0, 1) := by decide +kernel
theorem dX3_isUnder_49 : decode cX3_isUnder 49 = .ok (.ireturn, 1) := by decide +kernel
theorem dX3_isUnder_50 : decode cX3_isUnder 50 = .ok (.iload_n 0, 1) := by decide +kernel
theorem dX3_isUnder_51 : decode cX3_isUnder 51 = .ok (.iconst 3, 1) := by decide +kernel
theorem dX3_isUnder_52 : decode cX3_isUnder 52 = .ok (.if_icmp .eq 8, 3) := by decide +kernel
theorem dX3_isUnder_55 : decode cX3_isUnder 55 = .ok (.iload_n 0, 1) := by decide +kernel
theorem dX3_isUnder_56 : decode cX3_isUnder 56 = .ok (.iconst 5, 1) := by decide +kernel
theorem dX3_isUnder_57 : decode cX3_isUnder 57 = .ok (.if_icmp .ne 7, 3) := by decide +kernel
theorem dX3_isUnder_60 : decode cX3_isUnder 60 = .ok (.iconst 1, 1) := by decide +kernel
theorem dX3_isUnder_61 : decode cX3_isUnder 61 = .ok (.goto 4, 3) := by decide +kernel
theorem dX3_isUnder_64 : decode cX3_isUnder 64 = .ok (.iconst 0, 1) := by decide +kernel
theorem dX3_isUnder_65 : decode cX3_isUnder 65 = .ok (.ireturn, 1) := by decide +kernel
theorem dX3_isUnder_66 : decode cX3_isUnder 66 = .ok (.iload_n 0, 1) := by decide +kernel
theorem dX3_isUnder_67 : decode cX3_isUnder 67 = .ok (.iload_n 1, 1) := by decide +kernel
theorem dX3_isUnder_68 : decode cX3_isUnder 68 = .ok (.if_icmp .ne 7, 3) := by decide +kernel
theorem dX3_isUnder_71 : decode cX3_isUnder 71 = .ok (.iconst 1, 1) := by decide +kernel
theorem dX3_isUnder_72 : decode cX3_isUnder 72 = .ok (.goto 4, 3) := by decide +kernel
theorem dX3_isUnder_75 : decode cX3_isUnder 75 = .ok (.iconst 0, 1) := by decide +kernel
theorem dX3_isUnder_76 : decode cX3_isUnder 76 = .ok (.ireturn, 1) := by decide +kernel
theorem dX3_isMajority_0 : decode cX3_isMajority 0 = .ok (.iconst 2, 1) := by decide +kernel
theorem dX3_isMajority_1 : decode cX3_isMajority 1 = .ok (.iload_n 0, 1) := by decide +kernel
theorem dX3_isMajority_2 : decode cX3_isMajority 2 = .ok (.iload_n 1, 1) := by decide +kernel
theorem dX3_isMajority_3 : decode cX3_isMajority 3 = .ok (.iand, 1) := by decide +kernel
theorem dX3_isMajority_4 : decode cX3_isMajority 4 = .ok (.invokestatic 165, 3) := by decide +kernel
theorem dX3_isMajority_7 : decode cX3_isMajority 7 = .ok (.imul, 1) := by decide +kernel
theorem dX3_isMajority_8 : decode cX3_isMajority 8 = .ok (.iload_n 0, 1) := by decide +kernel
theorem dX3_isMajority_9 : decode cX3_isMajority 9 = .ok (.invokestatic 165, 3) := by decide +kernel
theorem dX3_isMajority_12 : decode cX3_isMajority 12 = .ok (.if_icmp .le 7, 3) := by decide +kernel
theorem dX3_isMajority_15 : decode cX3_isMajority 15 = .ok (.iconst 1, 1) := by decide +kernel
theorem dX3_isMajority_16 : decode cX3_isMajority 16 = .ok (.goto 4, 3) := by decide +kernel
theorem dX3_isMajority_19 : decode cX3_isMajority 19 = .ok (.iconst 0, 1) := by decide +kernel
theorem dX3_isMajority_20 : decode cX3_isMajority 20 = .ok (.ireturn, 1) := by decide +kernel
theorem dX3_isJuryAgainst_0 : decode cX3_isJuryAgainst 0 = .ok (.iload_n 0, 1) := by decide +kernel
theorem dX3_isJuryAgainst_1 : decode cX3_isJuryAgainst 1 = .ok (.iconst 1, 1) := by decide +kernel
theorem dX3_isJuryAgainst_2 : decode cX3_isJuryAgainst 2 = .ok (.iload_n 1, 1) := by decide +kernel
theorem dX3_isJuryAgainst_3 : decode cX3_isJuryAgainst 3 = .ok (.ishl, 1) := by decide +kernel
theorem dX3_isJuryAgainst_4 : decode cX3_isJuryAgainst 4 = .ok (.iand, 1) := by decide +kernel
theorem dX3_isJuryAgainst_5 : decode cX3_isJuryAgainst 5 = .ok (.ifCond .ne 23, 3) := by decide +kernel
theorem dX3_isJuryAgainst_8 : decode cX3_isJuryAgainst 8 = .ok (.iload_n 0, 1) := by decide +kernel
theorem dX3_isJuryAgainst_9 : decode cX3_isJuryAgainst 9 = .ok (.invokestatic 165, 3) := by decide +kernel
theorem dX3_isJuryAgainst_12 : decode cX3_isJuryAgainst 12 = .ok (.iload_n 2, 1) := by decide +kernel
theorem dX3_isJuryAgainst_13 : decode cX3_isJuryAgainst 13 = .ok (.if_icmp .ne 15, 3) := by decide +kernel
theorem dX3_isJuryAgainst_16 : decode cX3_isJuryAgainst 16 = .ok (.iload_n 0, 1) := by decide +kernel
theorem dX3_isJuryAgainst_17 : decode cX3_isJuryAgainst 17 = .ok (.iload_n 3, 1) := by decide +kernel
theorem dX3_isJuryAgainst_18 : decode cX3_isJuryAgainst 18 = .ok (.invokestatic 139, 3) := by decide +kernel
theorem dX3_isJuryAgainst_21 : decode cX3_isJuryAgainst 21 = .ok (.ifCond .eq 7, 3) := by decide +kernel
theorem dX3_isJuryAgainst_24 : decode cX3_isJuryAgainst 24 = .ok (.iconst 1, 1) := by decide +kernel
theorem dX3_isJuryAgainst_25 : decode cX3_isJuryAgainst 25 = .ok (.goto 4, 3) := by decide +kernel
theorem dX3_isJuryAgainst_28 : decode cX3_isJuryAgainst 28 = .ok (.iconst 0, 1) := by decide +kernel
theorem dX3_isJuryAgainst_29 : decode cX3_isJuryAgainst 29 = .ok (.ireturn, 1) := by decide +kernel
theorem dX3_faded_0 : decode cX3_faded 0 = .ok (.iload_n 0, 1) := by decide +kernel
theorem dX3_faded_1 : decode cX3_faded 1 = .ok (.iconst 5, 1) := by decide +kernel
theorem dX3_faded_2 : decode cX3_faded 2 = .ok (.if_icmp .ne 11, 3) := by decide +kernel
theorem dX3_faded_5 : decode cX3_faded 5 = .ok (.iload_n 1, 1) := by decide +kernel
theorem dX3_faded_6 : decode cX3_faded 6 = .ok (.iload_n 1, 1) := by decide +kernel
theorem dX3_faded_7 : decode cX3_faded 7 = .ok (.iconst 2, 1) := by decide +kernel
theorem dX3_faded_8 : decode cX3_faded 8 = .ok (.idiv, 1) := by decide +kernel
theorem dX3_faded_9 : decode cX3_faded 9 = .ok (.isub, 1) := by decide +kernel
theorem dX3_faded_10 : decode cX3_faded 10 = .ok (.goto 15, 3) := by decide +kernel
theorem dX3_faded_13 : decode cX3_faded 13 = .ok (.iload_n 1, 1) := by decide +kernel
theorem dX3_faded_14 : decode cX3_faded 14 = .ok (.iload_n 1, 1) := by decide +kernel
theorem dX3_faded_15 : decode cX3_faded 15 = .ok (.bipush 10, 2) := by decide +kernel
theorem dX3_faded_17 : decode cX3_faded 17 = .ok (.idiv, 1) := by decide +kernel
theorem dX3_faded_18 : decode cX3_faded 18 = .ok (.isub, 1) := by decide +kernel
theorem dX3_faded_19 : decode cX3_faded 19 = .ok (.iconst 1, 1) := by decide +kernel
theorem dX3_faded_20 : decode cX3_faded 20 = .ok (.isub, 1) := by decide +kernel
theorem dX3_faded_21 : decode cX3_faded 21 = .ok (.iconst 0, 1) := by decide +kernel
theorem dX3_faded_22 : decode cX3_faded 22 = .ok (.invokestatic 121, 3) := by decide +kernel
theorem dX3_faded_25 : decode cX3_faded 25 = .ok (.ireturn, 1) := by decide +kernel
end
section
theorem dX4_init_0 : decode cX4_init 0 = .ok (.aload_n 0, 1) := by decide +kernel
theorem dX4_init_1 : decode cX4_init 1 = .ok (.invokespecial 1, 3) := by decide +kernel
theorem dX4_init_4 : decode cX4_init 4 = .ok (.aload_n 0, 1) := by decide +kernel
theorem dX4_init_5 : decode cX4_init 5 = .ok (.bipush 84, 2) := by decide +kernel
theorem dX4_init_7 : decode cX4_init 7 = .ok (.newarray .int, 2) := by decide +kernel
theorem dX4_init_9 : decode cX4_init 9 = .ok (.putfield 7, 3) := by decide +kernel
theorem dX4_init_12 : decode cX4_init 12 = .ok (.aload_n 0, 1) := by decide +kernel
theorem dX4_init_13 : decode cX4_init 13 = .ok (.bipush 84, 2) := by decide +kernel
theorem dX4_init_15 : decode cX4_init 15 = .ok (.newarray .int, 2) := by decide +kernel
theorem dX4_init_17 : decode cX4_init 17 = .ok (.putfield 13, 3) := by decide +kernel
theorem dX4_init_20 : decode cX4_init 20 = .ok (.aload_n 0, 1) := by decide +kernel
theorem dX4_init_21 : decode cX4_init 21 = .ok (.bipush 84, 2) := by decide +kernel
theorem dX4_init_23 : decode cX4_init 23 = .ok (.newarray .int, 2) := by decide +kernel
theorem dX4_init_25 : decode cX4_init 25 = .ok (.putfield 16, 3) := by decide +kernel
theorem dX4_init_28 : decode cX4_init 28 = .ok (.aload_n 0, 1) := by decide +kernel
theorem dX4_init_29 : decode cX4_init 29 = .ok (.bipush 84, 2) := by decide +kernel
theorem dX4_init_31 : decode cX4_init 31 = .ok (.newarray .int, 2) := by decide +kernel
theorem dX4_init_33 : decode cX4_init 33 = .ok (.putfield 19, 3) := by decide +kernel
theorem dX4_init_36 : decode cX4_init 36 = .ok (.aload_n 0, 1) := by decide +kernel
theorem dX4_init_37 : decode cX4_init 37 = .ok (.bipush 7, 2) := by decide +kernel
theorem dX4_init_39 : decode cX4_init 39 = .ok (.newarray .int, 2) := by decide +kernel
theorem dX4_init_41 : decode cX4_init 41 = .ok (.putfield 22, 3) := by decide +kernel
theorem dX4_init_44 : decode cX4_init 44 = .ok (.aload_n 0, 1) := by decide +kernel
theorem dX4_init_45 : decode cX4_init 45 = .ok (.bipush 48, 2) := by decide +kernel
theorem dX4_init_47 : decode cX4_init 47 = .ok (.newarray .int, 2) := by decide +kernel
theorem dX4_init_49 : decode cX4_init 49 = .ok (.putfield 25, 3) := by decide +kernel
theorem dX4_init_52 : decode cX4_init 52 = .ok (.aload_n 0, 1) := by decide +kernel
theorem dX4_init_53 : decode cX4_init 53 = .ok (.bipush 120, 2) := by decide +kernel
theorem dX4_init_55 : decode cX4_init 55 = .ok (.newarray .int, 2) := by decide +kernel
theorem dX4_init_57 : decode cX4_init 57 = .ok (.putfield 28, 3) := by decide +kernel
theorem dX4_init_60 : decode cX4_init 60 = .ok (.aload_n 0, 1) := by decide +kernel
theorem dX4_init_61 : decode cX4_init 61 = .ok (.iconst 4, 1) := by decide +kernel
theorem dX4_init_62 : decode cX4_init 62 = .ok (.newarray .int, 2) := by decide +kernel
theorem dX4_init_64 : decode cX4_init 64 = .ok (.putfield 31, 3) := by decide +kernel
theorem dX4_init_67 : decode cX4_init 67 = .ok (.aload_n 0, 1) := by decide +kernel
theorem dX4_init_68 : decode cX4_init 68 = .ok (.iconst 4, 1) := by decide +kernel
theorem dX4_init_69 : decode cX4_init 69 = .ok (.newarray .int, 2) := by decide +kernel
theorem dX4_init_71 : decode cX4_init 71 = .ok (.putfield 34, 3) := by decide +kernel
theorem dX4_init_74 : decode cX4_init 74 = .ok (.aload_n 0, 1) := by decide +kernel
theorem dX4_init_75 : decode cX4_init 75 = .ok (.sipush 160, 3) := by decide +kernel
theorem dX4_init_78 : decode cX4_init 78 = .ok (.newarray .long, 2) := by decide +kernel
theorem dX4_init_80 : decode cX4_init 80 = .ok (.putfield 37, 3) := by decide +kernel
theorem dX4_init_83 : decode cX4_init 83 = .ok (.aload_n 0, 1) := by decide +kernel
theorem dX4_init_84 : decode cX4_init 84 = .ok (.bipush 40, 2) := by decide +kernel
theorem dX4_init_86 : decode cX4_init 86 = .ok (.newarray .long, 2) := by decide +kernel
theorem dX4_init_88 : decode cX4_init 88 = .ok (.putfield 41, 3) := by decide +kernel
theorem dX4_init_91 : decode cX4_init 91 = .ok (.aload_n 0, 1) := by decide +kernel
theorem dX4_init_92 : decode cX4_init 92 = .ok (.getfield 7, 3) := by decide +kernel
theorem dX4_init_95 : decode cX4_init 95 = .ok (.iconst 3, 1) := by decide +kernel
theorem dX4_init_96 : decode cX4_init 96 = .ok (.bipush 20, 2) := by decide +kernel
theorem dX4_init_98 : decode cX4_init 98 = .ok (.iastore, 1) := by decide +kernel
theorem dX4_init_99 : decode cX4_init 99 = .ok (.return_, 1) := by decide +kernel
theorem dX4_in_0 : decode cX4_in 0 = .ok (.lload_n 0, 1) := by decide +kernel
theorem dX4_in_1 : decode cX4_in 1 = .ok (.lload_n 2, 1) := by decide +kernel
theorem dX4_in_2 : decode cX4_in 2 = .ok (.lcmp, 1) := by decide +kernel
theorem dX4_in_3 : decode cX4_in 3 = .ok (.ifCond .lt 14, 3) := by decide +kernel
theorem dX4_in_6 : decode cX4_in 6 = .ok (.lload_n 0, 1) := by decide +kernel
theorem dX4_in_7 : decode cX4_in 7 = .ok (.lload 4, 2) := by decide +kernel
theorem dX4_in_9 : decode cX4_in 9 = .ok (.lcmp, 1) := by decide +kernel
theorem dX4_in_10 : decode cX4_in 10 = .ok (.ifCond .gt 7, 3) := by decide +kernel
theorem dX4_in_13 : decode cX4_in 13 = .ok (.iconst 1, 1) := by decide +kernel
theorem dX4_in_14 : decode cX4_in 14 = .ok (.goto 4, 3) := by decide +kernel
theorem dX4_in_17 : decode cX4_in 17 = .ok (.iconst 0, 1) := by decide +kernel
theorem dX4_in_18 : decode cX4_in 18 = .ok (.ireturn, 1) := by decide +kernel
theorem dX4_finds_0 : decode cX4_finds 0 = .ok (.aload_n 0, 1) := by decide +kernel
theorem dX4_finds_1 : decode cX4_finds 1 = .ok (.getfield 22, 3) := by decide +kernel
theorem dX4_finds_4 : decode cX4_finds 4 = .ok (.ldc 44, 2) := by decide +kernel
theorem dX4_finds_6 : decode cX4_finds 6 = .ok (.iload_n 1, 1) := by decide +kernel
theorem dX4_finds_7 : decode cX4_finds 7 = .ok (.isub, 1) := by decide +kernel
theorem dX4_finds_8 : decode cX4_finds 8 = .ok (.dup2, 1) := by decide +kernel
theorem dX4_finds_9 : decode cX4_finds 9 = .ok (.iaload, 1) := by decide +kernel
theorem dX4_finds_10 : decode cX4_finds 10 = .ok (.iconst 1, 1) := by decide +kernel
theorem dX4_finds_11 : decode cX4_finds 11 = .ok (.iadd, 1) := by decide +kernel
theorem dX4_finds_12 : decode cX4_finds 12 = .ok (.iastore, 1) := by decide +kernel
theorem dX4_finds_13 : decode cX4_finds 13 = .ok (.iload_n 1, 1) := by decide +kernel
theorem dX4_finds_14 : decode cX4_finds 14 = .ok (.ireturn, 1) := by decide +kernel
theorem dX4_saves_0 : decode cX4_saves 0 = .ok (.iconst 0, 1) := by decide +kernel
theorem dX4_saves_1 : decode cX4_saves 1 = .ok (.istore_n 1, 1) := by decide +kernel
theorem dX4_saves_2 : decode cX4_saves 2 = .ok (.iload_n 1, 1) := by decide +kernel
theorem dX4_saves_3 : decode cX4_saves 3 = .ok (.bipush 84, 2) := by decide +kernel
theorem dX4_saves_5 : decode cX4_saves 5 = .ok (.if_icmp .ge 21, 3) := by decide +kernel
theorem dX4_saves_8 : decode cX4_saves 8 = .ok (.aload_n 0, 1) := by decide +kernel
theorem dX4_saves_9 : decode cX4_saves 9 = .ok (.getfield 16, 3) := by decide +kernel
theorem dX4_saves_12 : decode cX4_saves 12 = .ok (.iload_n 1, 1) := by decide +kernel
theorem dX4_saves_13 : decode cX4_saves 13 = .ok (.aload_n 0, 1) := by decide +kernel
theorem dX4_saves_14 : decode cX4_saves 14 = .ok (.getfield 7, 3) := by decide +kernel
theorem dX4_saves_17 : decode cX4_saves 17 = .ok (.iload_n 1, 1) := by decide +kernel
theorem dX4_saves_18 : decode cX4_saves 18 = .ok (.iaload, 1) := by decide +kernel
theorem dX4_saves_19 : decode cX4_saves 19 = .ok (.iastore, 1) := by decide +kernel
theorem dX4_saves_20 : decode cX4_saves 20 = .ok (.iinc 1 1, 3) := by decide +kernel
theorem dX4_saves_23 : decode cX4_saves 23 = .ok (.goto (-21), 3) := by decide +kernel
theorem dX4_saves_26 : decode cX4_saves 26 = .ok (.return_, 1) := by decide +kernel
theorem dX4_putsBack_0 : decode cX4_putsBack 0 = .ok (.iconst 0, 1) := by decide +kernel
theorem dX4_putsBack_1 : decode cX4_putsBack 1 = .ok (.istore_n 1, 1) := by decide +kernel
theorem dX4_putsBack_2 : decode cX4_putsBack 2 = .ok (.iload_n 1, 1) := by decide +kernel
theorem dX4_putsBack_3 : decode cX4_putsBack 3 = .ok (.bipush 84, 2) := by decide +kernel
theorem dX4_putsBack_5 : decode cX4_putsBack 5 = .ok (.if_icmp .ge 21, 3) := by decide +kernel
theorem dX4_putsBack_8 : decode cX4_putsBack 8 = .ok (.aload_n 0, 1) := by decide +kernel
theorem dX4_putsBack_9 : decode cX4_putsBack 9 = .ok (.getfield 7, 3) := by decide +kernel
theorem dX4_putsBack_12 : decode cX4_putsBack 12 = .ok (.iload_n 1, 1) := by decide +kernel
theorem dX4_putsBack_13 : decode cX4_putsBack 13 = .ok (.aload_n 0, 1) := by decide +kernel
theorem dX4_putsBack_14 : decode cX4_putsBack 14 = .ok (.getfield 16, 3) := by decide +kernel
theorem dX4_putsBack_17 : decode cX4_putsBack 17 = .ok (.iload_n 1, 1) := by decide +kernel
theorem dX4_putsBack_18 : decode cX4_putsBack 18 = .ok (.iaload, 1) := by decide +kernel
theorem dX4_putsBack_19 : decode cX4_putsBack 19 = .ok (.iastore, 1) := by decide +kernel
theorem dX4_putsBack_20 : decode cX4_putsBack 20 = .ok (.iinc 1 1, 3) := by decide +kernel
theorem dX4_putsBack_23 : decode cX4_putsBack 23 = .ok (.goto (-21), 3) := by decide +kernel
theorem dX4_putsBack_26 : decode cX4_putsBack 26 = .ok (.return_, 1) := by decide +kernel
theorem dX4_laysAside_0 : decode cX4_laysAside 0 = .ok (.iconst 0, 1) := by decide +kernel
theorem dX4_laysAside_1 : decode cX4_laysAside 1 = .ok (.istore_n 1, 1) := by decide +kernel
theorem dX4_laysAside_2 : decode cX4_laysAside 2 = .ok (.iload_n 1, 1) := by decide +kernel
theorem dX4_laysAside_3 : decode cX4_laysAside 3 = .ok (.bipush 84, 2) := by decide +kernel
theorem dX4_laysAside_5 : decode cX4_laysAside 5 = .ok (.if_icmp .ge 21, 3) := by decide +kernel
theorem dX4_laysAside_8 : decode cX4_laysAside 8 = .ok (.aload_n 0, 1) := by decide +kernel
theorem dX4_laysAside_9 : decode cX4_laysAside 9 = .ok (.getfield 19, 3) := by decide +kernel
theorem dX4_laysAside_12 : decode cX4_laysAside 12 = .ok (.iload_n 1, 1) := by decide +kernel
theorem dX4_laysAside_13 : decode cX4_laysAside 13 = .ok (.aload_n 0, 1) := by decide +kernel
theorem dX4_laysAside_14 : decode cX4_laysAside 14 = .ok (.getfield 7, 3) := by decide +kernel
theorem dX4_laysAside_17 : decode cX4_laysAside 17 = .ok (.iload_n 1, 1) := by decide +kernel
theorem dX4_laysAside_18 : decode cX4_laysAside 18 = .ok (.iaload, 1) := by decide +kernel
theorem dX4_laysAside_19 : decode cX4_laysAside 19 = .ok (.iastore, 1) := by decide +kernel
theorem dX4_laysAside_20 : decode cX4_laysAside 20 = .ok (.iinc 1 1, 3) := by decide +kernel
theorem dX4_laysAside_23 : decode cX4_laysAside 23 = .ok (.goto (-21), 3) := by decide +kernel
theorem dX4_laysAside_26 : decode cX4_laysAside 26 = .ok (.return_, 1) := by decide +kernel
theorem dX4_takesBack_0 : decode cX4_takesBack 0 = .ok (.iconst 0, 1) := by decide +kernel
theorem dX4_takesBack_1 : decode cX4_takesBack 1 = .ok (.istore_n 2, 1) := by decide +kernel
theorem dX4_takesBack_2 : decode cX4_takesBack 2 = .ok (.iload_n 2, 1) := by decide +kernel
theorem dX4_takesBack_3 : decode cX4_takesBack 3 = .ok (.bipush 84, 2) := by decide +kernel
theorem dX4_takesBack_5 : decode cX4_takesBack 5 = .ok (.if_icmp .ge 21, 3) := by decide +kernel
theorem dX4_takesBack_8 : decode cX4_takesBack 8 = .ok (.aload_n 0, 1) := by decide +kernel
theorem dX4_takesBack_9 : decode cX4_takesBack 9 = .ok (.getfield 7, 3) := by decide +kernel
theorem dX4_takesBack_12 : decode cX4_takesBack 12 = .ok (.iload_n 2, 1) := by decide +kernel
theorem dX4_takesBack_13 : decode cX4_takesBack 13 = .ok (.aload_n 0, 1) := by decide +kernel
theorem dX4_takesBack_14 : decode cX4_takesBack 14 = .ok (.getfield 19, 3) := by decide +kernel
theorem dX4_takesBack_17 : decode cX4_takesBack 17 = .ok (.iload_n 2, 1) := by decide +kernel
theorem dX4_takesBack_18 : decode cX4_takesBack 18 = .ok (.iaload, 1) := by decide +kernel
theorem dX4_takesBack_19 : decode cX4_takesBack 19 = .ok (.iastore, 1) := by decide +kernel
theorem dX4_takesBack_20 : decode cX4_takesBack 20 = .ok (.iinc 2 1, 3) := by decide +kernel
theorem dX4_takesBack_23 : decode cX4_takesBack 23 = .ok (.goto (-21), 3) := by decide +kernel
theorem dX4_takesBack_26 : decode cX4_takesBack 26 = .ok (.iload_n 1, 1) := by decide +kernel
theorem dX4_takesBack_27 : decode cX4_takesBack 27 = .ok (.ireturn, 1) := by decide +kernel
theorem dX4_becomes_0 : decode cX4_becomes 0 = .ok (.aload_n 0, 1) := by decide +kernel
theorem dX4_becomes_1 : decode cX4_becomes 1 = .ok (.getfield 7, 3) := by decide +kernel
theorem dX4_becomes_4 : decode cX4_becomes 4 = .ok (.iload_n 1, 1) := by decide +kernel
theorem dX4_becomes_5 : decode cX4_becomes 5 = .ok (.iaload, 1) := by decide +kernel
theorem dX4_becomes_6 : decode cX4_becomes 6 = .ok (.istore_n 3, 1) := by decide +kernel
theorem dX4_becomes_7 : decode cX4_becomes 7 = .ok (.aload_n 0, 1) := by decide +kernel
theorem dX4_becomes_8 : decode cX4_becomes 8 = .ok (.getfield 7, 3) := by decide +kernel
theorem dX4_becomes_11 : decode cX4_becomes 11 = .ok (.iload_n 1, 1) := by decide +kernel
theorem dX4_becomes_12 : decode cX4_becomes 12 = .ok (.iload_n 2, 1) := by decide +kernel
theorem dX4_becomes_13 : decode cX4_becomes 13 = .ok (.iastore, 1) := by decide +kernel
theorem dX4_becomes_14 : decode cX4_becomes 14 = .ok (.iload_n 3, 1) := by decide +kernel
theorem dX4_becomes_15 : decode cX4_becomes 15 = .ok (.ireturn, 1) := by decide +kernel
theorem dX4_isPlace_0 : decode cX4_isPlace 0 = .ok (.iload_n 0, 1) := by decide +kernel
theorem dX4_isPlace_1 : decode cX4_isPlace 1 = .ok (.i2l, 1) := by decide +kernel
theorem dX4_isPlace_2 : decode cX4_isPlace 2 = .ok (.lconst 0, 1) := by decide +kernel
theorem dX4_isPlace_3 : decode cX4_isPlace 3 = .ok (.ldc2_w 45, 3) := by decide +kernel
theorem dX4_isPlace_6 : decode cX4_isPlace 6 = .ok (.invokestatic 47, 3) := by decide +kernel
theorem dX4_isPlace_9 : decode cX4_isPlace 9 = .ok (.ireturn, 1) := by decide +kernel
theorem dX4_isPerson_0 : decode cX4_isPerson 0 = .ok (.iload_n 1, 1) := by decide +kernel
theorem dX4_isPerson_1 : decode cX4_isPerson 1 = .ok (.i2l, 1) := by decide +kernel
theorem dX4_isPerson_2 : decode cX4_isPerson 2 = .ok (.lconst 0, 1) := by decide +kernel
theorem dX4_isPerson_3 : decode cX4_isPerson 3 = .ok (.aload_n 0, 1) := by decide +kernel
theorem dX4_isPerson_4 : decode cX4_isPerson 4 = .ok (.getfield 7, 3) := by decide +kernel
theorem dX4_isPerson_7 : decode cX4_isPerson 7 = .ok (.iconst 0, 1) := by decide +kernel
theorem dX4_isPerson_8 : decode cX4_isPerson 8 = .ok (.iaload, 1) := by decide +kernel
theorem dX4_isPerson_9 : decode cX4_isPerson 9 = .ok (.iconst 1, 1) := by decide +kernel
theorem dX4_isPerson_10 : decode cX4_isPerson 10 = .ok (.isub, 1) := by decide +kernel
theorem dX4_isPerson_11 : decode cX4_isPerson 11 = .ok (.i2l, 1) := by decide +kernel
theorem dX4_isPerson_12 : decode cX4_isPerson 12 = .ok (.invokestatic 47, 3) := by decide +kernel
theorem dX4_isPerson_15 : decode cX4_isPerson 15 = .ok (.ireturn, 1) := by decide +kernel
theorem dX4_areTwo_0 : decode cX4_areTwo 0 = .ok (.aload_n 0, 1) := by decide +kernel
theorem dX4_areTwo_1 : decode cX4_areTwo 1 = .ok (.iload_n 1, 1) := by decide +kernel
theorem dX4_areTwo_2 : decode cX4_areTwo 2 = .ok (.invokevirtual 51, 3) := by decide +kernel
theorem dX4_areTwo_5 : decode cX4_areTwo 5 = .ok (.ifCond .eq 20, 3) := by decide +kernel
theorem dX4_areTwo_8 : decode cX4_areTwo 8 = .ok (.aload_n 0, 1) := by decide +kernel
theorem dX4_areTwo_9 : decode cX4_areTwo 9 = .ok (.iload_n 2, 1) := by decide +kernel
theorem dX4_areTwo_10 : decode cX4_areTwo 10 = .ok (.invokevirtual 51, 3) := by decide +kernel
theorem dX4_areTwo_13 : decode cX4_areTwo 13 = .ok (.ifCond .eq 12, 3) := by decide +kernel
theorem dX4_areTwo_16 : decode cX4_areTwo 16 = .ok (.iload_n 1, 1) := by decide +kernel
theorem dX4_areTwo_17 : decode cX4_areTwo 17 = .ok (.iload_n 2, 1) := by decide +kernel
theorem dX4_areTwo_18 : decode cX4_areTwo 18 = .ok (.if_icmp .eq 7, 3) := by decide +kernel
theorem dX4_areTwo_21 : decode cX4_areTwo 21 = .ok (.iconst 1, 1) := by decide +kernel
theorem dX4_areTwo_22 : decode cX4_areTwo 22 = .ok (.goto 4, 3) := by decide +kernel
theorem dX4_areTwo_25 : decode cX4_areTwo 25 = .ok (.iconst 0, 1) := by decide +kernel
theorem dX4_areTwo_26 : decode cX4_areTwo 26 = .ok (.ireturn, 1) := by decide +kernel
theorem dX4_isKind_0 : decode cX4_isKind 0 = .ok (.iload_n 0, 1) := by decide +kernel
theorem dX4_isKind_1 : decode cX4_isKind 1 = .ok (.i2l, 1) := by decide +kernel
theorem dX4_isKind_2 : decode cX4_isKind 2 = .ok (.lconst 0, 1) := by decide +kernel
theorem dX4_isKind_3 : decode cX4_isKind 3 = .ok (.ldc2_w 55, 3) := by decide +kernel
theorem dX4_isKind_6 : decode cX4_isKind 6 = .ok (.invokestatic 47, 3) := by decide +kernel
theorem dX4_isKind_9 : decode cX4_isKind 9 = .ok (.ireturn, 1) := by decide +kernel
theorem dX4_isDeed_0 : decode cX4_isDeed 0 = .ok (.iload_n 0, 1) := by decide +kernel
theorem dX4_isDeed_1 : decode cX4_isDeed 1 = .ok (.i2l, 1) := by decide +kernel
theorem dX4_isDeed_2 : decode cX4_isDeed 2 = .ok (.lconst 0, 1) := by decide +kernel
theorem dX4_isDeed_3 : decode cX4_isDeed 3 = .ok (.ldc2_w 55, 3) := by decide +kernel
theorem dX4_isDeed_6 : decode cX4_isDeed 6 = .ok (.invokestatic 47, 3) := by decide +kernel
theorem dX4_isDeed_9 : decode cX4_isDeed 9 = .ok (.ireturn, 1) := by decide +kernel
theorem dX4_spot_0 : decode cX4_spot 0 = .ok (.iconst 4, 1) := by decide +kernel
theorem dX4_spot_1 : decode cX4_spot 1 = .ok (.bipush 10, 2) := by decide +kernel
theorem dX4_spot_3 : decode cX4_spot 3 = .ok (.iload_n 0, 1) := by decide +kernel
theorem dX4_spot_4 : decode cX4_spot 4 = .ok (.imul, 1) := by decide +kernel
theorem dX4_spot_5 : decode cX4_spot 5 = .ok (.iadd, 1) := by decide +kernel
theorem dX4_spot_6 : decode cX4_spot 6 = .ok (.iload_n 1, 1) := by decide +kernel
theorem dX4_spot_7 : decode cX4_spot 7 = .ok (.iadd, 1) := by decide +kernel
theorem dX4_spot_8 : decode cX4_spot 8 = .ok (.ireturn, 1) := by decide +kernel
theorem dX4_its_0 : decode cX4_its 0 = .ok (.aload_n 0, 1) := by decide +kernel
theorem dX4_its_1 : decode cX4_its 1 = .ok (.getfield 7, 3) := by decide +kernel
theorem dX4_its_4 : decode cX4_its 4 = .ok (.iload_n 1, 1) := by decide +kernel
theorem dX4_its_5 : decode cX4_its 5 = .ok (.iload_n 2, 1) := by decide +kernel
theorem dX4_its_6 : decode cX4_its 6 = .ok (.invokestatic 57, 3) := by decide +kernel
theorem dX4_its_9 : decode cX4_its 9 = .ok (.iaload, 1) := by decide +kernel
theorem dX4_its_10 : decode cX4_its 10 = .ok (.ireturn, 1) := by decide +kernel
theorem dX4_law_0 : decode cX4_law 0 = .ok (.iload_n 1, 1) := by decide +kernel
theorem dX4_law_1 : decode cX4_law 1 = .ok (.ifCond .ne 15, 3) := by decide +kernel
theorem dX4_law_4 : decode cX4_law 4 = .ok (.iload_n 2, 1) := by decide +kernel
theorem dX4_law_5 : decode cX4_law 5 = .ok (.i2l, 1) := by decide +kernel
theorem dX4_law_6 : decode cX4_law 6 = .ok (.lconst 0, 1) := by decide +kernel
theorem dX4_law_7 : decode cX4_law 7 = .ok (.ldc2_w 61, 3) := by decide +kernel
theorem dX4_law_10 : decode cX4_law 10 = .ok (.invokestatic 47, 3) := by decide +kernel
theorem dX4_law_13 : decode cX4_law 13 = .ok (.goto 25, 3) := by decide +kernel
theorem dX4_law_16 : decode cX4_law 16 = .ok (.iload_n 1, 1) := by decide +kernel
theorem dX4_law_17 : decode cX4_law 17 = .ok (.iconst 1, 1) := by decide +kernel
theorem dX4_law_18 : decode cX4_law 18 = .ok (.if_icmp .ne 19, 3) := by decide +kernel
theorem dX4_law_21 : decode cX4_law 21 = .ok (.iload_n 2, 1) := by decide +kernel
theorem dX4_law_22 : decode cX4_law 22 = .ok (.i2l, 1) := by decide +kernel
theorem dX4_law_23 : decode cX4_law 23 = .ok (.lconst 1, 1) := by decide +kernel
theorem dX4_law_24 : decode cX4_law 24 = .ok (.ldc2_w 63, 3) := by decide +kernel
theorem dX4_law_27 : decode cX4_law 27 = .ok (.invokestatic 47, 3) := by decide +kernel
theorem dX4_law_30 : decode cX4_law 30 = .ok (.ifCond .eq 7, 3) := by decide +kernel
theorem dX4_law_33 : decode cX4_law 33 = .ok (.iconst 1, 1) := by decide +kernel
theorem dX4_law_34 : decode cX4_law 34 = .ok (.goto 4, 3) := by decide +kernel
theorem dX4_law_37 : decode cX4_law 37 = .ok (.iconst 0, 1) := by decide +kernel
theorem dX4_law_38 : decode cX4_law 38 = .ok (.istore_n 3, 1) := by decide +kernel
theorem dX4_law_39 : decode cX4_law 39 = .ok (.iload_n 3, 1) := by decide +kernel
theorem dX4_law_40 : decode cX4_law 40 = .ok (.ifCond .eq 20, 3) := by decide +kernel
theorem dX4_law_43 : decode cX4_law 43 = .ok (.aload_n 0, 1) := by decide +kernel
theorem dX4_law_44 : decode cX4_law 44 = .ok (.iload_n 1, 1) := by decide +kernel
theorem dX4_law_45 : decode cX4_law 45 = .ok (.ifCond .ne 7, 3) := by decide +kernel
theorem dX4_law_48 : decode cX4_law 48 = .ok (.iconst 2, 1) := by decide +kernel
theorem dX4_law_49 : decode cX4_law 49 = .ok (.goto 4, 3) := by decide +kernel
theorem dX4_law_52 : decode cX4_law 52 = .ok (.iconst 3, 1) := by decide +kernel
theorem dX4_law_53 : decode cX4_law 53 = .ok (.iload_n 2, 1) := by decide +kernel
theorem dX4_law_54 : decode cX4_law 54 = .ok (.invokevirtual 65, 3) := by decide +kernel
theorem dX4_law_57 : decode cX4_law 57 = .ok (.goto 9, 3) := by decide +kernel
theorem dX4_law_60 : decode cX4_law 60 = .ok (.aload_n 0, 1) := by decide +kernel
theorem dX4_law_61 : decode cX4_law 61 = .ok (.ldc 44, 2) := by decide +kernel
theorem dX4_law_63 : decode cX4_law 63 = .ok (.invokevirtual 68, 3) := by decide +kernel
theorem dX4_law_66 : decode cX4_law 66 = .ok (.ireturn, 1) := by decide +kernel
theorem dX4_adds_0 : decode cX4_adds 0 = .ok (.aload_n 0, 1) := by decide +kernel
theorem dX4_adds_1 : decode cX4_adds 1 = .ok (.getfield 7, 3) := by decide +kernel
theorem dX4_adds_4 : decode cX4_adds 4 = .ok (.iconst 0, 1) := by decide +kernel
theorem dX4_adds_5 : decode cX4_adds 5 = .ok (.iaload, 1) := by decide +kernel
theorem dX4_adds_6 : decode cX4_adds 6 = .ok (.istore_n 3, 1) := by decide +kernel
theorem dX4_adds_7 : decode cX4_adds 7 = .ok (.iconst 0, 1) := by decide +kernel
theorem dX4_adds_8 : decode cX4_adds 8 = .ok (.istore 4, 2) := by decide +kernel
theorem dX4_adds_10 : decode cX4_adds 10 = .ok (.iload 4, 2) := by decide +kernel
theorem dX4_adds_12 : decode cX4_adds 12 = .ok (.bipush 10, 2) := by decide +kernel
theorem dX4_adds_14 : decode cX4_adds 14 = .ok (.if_icmp .ge 21, 3) := by decide +kernel
theorem dX4_adds_17 : decode cX4_adds 17 = .ok (.aload_n 0, 1) := by decide +kernel
theorem dX4_adds_18 : decode cX4_adds 18 = .ok (.getfield 7, 3) := by decide +kernel
theorem dX4_adds_21 : decode cX4_adds 21 = .ok (.iload_n 3, 1) := by decide +kernel
theorem dX4_adds_22 : decode cX4_adds 22 = .ok (.iload 4, 2) := by decide +kernel
theorem dX4_adds_24 : decode cX4_adds 24 = .ok (.invokestatic 57, 3) := by decide +kernel
theorem dX4_adds_27 : decode cX4_adds 27 = .ok (.iconst 0, 1) := by decide +kernel
theorem dX4_adds_28 : decode cX4_adds 28 = .ok (.iastore, 1) := by decide +kernel
theorem dX4_adds_29 : decode cX4_adds 29 = .ok (.iinc 4 1, 3) := by decide +kernel
theorem dX4_adds_32 : decode cX4_adds 32 = .ok (.goto (-22), 3) := by decide +kernel
theorem dX4_adds_35 : decode cX4_adds 35 = .ok (.aload_n 0, 1) := by decide +kernel
theorem dX4_adds_36 : decode cX4_adds 36 = .ok (.getfield 7, 3) := by decide +kernel
theorem dX4_adds_39 : decode cX4_adds 39 = .ok (.iload_n 3, 1) := by decide +kernel
theorem dX4_adds_40 : decode cX4_adds 40 = .ok (.iconst 0, 1) := by decide +kernel
theorem dX4_adds_41 : decode cX4_adds 41 = .ok (.invokestatic 57, 3) := by decide +kernel
theorem dX4_adds_44 : decode cX4_adds 44 = .ok (.iload_n 1, 1) := by decide +kernel
theorem dX4_adds_45 : decode cX4_adds 45 = .ok (.iastore, 1) := by decide +kernel
theorem dX4_adds_46 : decode cX4_adds 46 = .ok (.aload_n 0, 1) := by decide +kernel
theorem dX4_adds_47 : decode cX4_adds 47 = .ok (.getfield 7, 3) := by decide +kernel
theorem dX4_adds_50 : decode cX4_adds 50 = .ok (.iload_n 3, 1) := by decide +kernel
theorem dX4_adds_51 : decode cX4_adds 51 = .ok (.iconst 1, 1) := by decide +kernel
theorem dX4_adds_52 : decode cX4_adds 52 = .ok (.invokestatic 57, 3) := by decide +kernel
theorem dX4_adds_55 : decode cX4_adds 55 = .ok (.iload_n 2, 1) := by decide +kernel
theorem dX4_adds_56 : decode cX4_adds 56 = .ok (.iastore, 1) := by decide +kernel
theorem dX4_adds_57 : decode cX4_adds 57 = .ok (.aload_n 0, 1) := by decide +kernel
theorem dX4_adds_58 : decode cX4_adds 58 = .ok (.getfield 7, 3) := by decide +kernel
theorem dX4_adds_61 : decode cX4_adds 61 = .ok (.iload_n 3, 1) := by decide +kernel
theorem dX4_adds_62 : decode cX4_adds 62 = .ok (.iconst 2, 1) := by decide +kernel
theorem dX4_adds_63 : decode cX4_adds 63 = .ok (.invokestatic 57, 3) := by decide +kernel
theorem dX4_adds_66 : decode cX4_adds 66 = .ok (.iconst 5, 1) := by decide +kernel
theorem dX4_adds_67 : decode cX4_adds 67 = .ok (.iastore, 1) := by decide +kernel
theorem dX4_adds_68 : decode cX4_adds 68 = .ok (.aload_n 0, 1) := by decide +kernel
theorem dX4_adds_69 : decode cX4_adds 69 = .ok (.getfield 7, 3) := by decide +kernel
theorem dX4_adds_72 : decode cX4_adds 72 = .ok (.iconst 0, 1) := by decide +kernel
theorem dX4_adds_73 : decode cX4_adds 73 = .ok (.dup2, 1) := by decide +kernel
theorem dX4_adds_74 : decode cX4_adds 74 = .ok (.iaload, 1) := by decide +kernel
theorem dX4_adds_75 : decode cX4_adds 75 = .ok (.iconst 1, 1) := by decide +kernel
theorem dX4_adds_76 : decode cX4_adds 76 = .ok (.iadd, 1) := by decide +kernel
theorem dX4_adds_77 : decode cX4_adds 77 = .ok (.iastore, 1) := by decide +kernel
theorem dX4_adds_78 : decode cX4_adds 78 = .ok (.iload_n 3, 1) := by decide +kernel
theorem dX4_adds_79 : decode cX4_adds 79 = .ok (.ireturn, 1) := by decide +kernel
theorem dX4_person_0 : decode cX4_person 0 = .ok (.iload_n 1, 1) := by decide +kernel
theorem dX4_person_1 : decode cX4_person 1 = .ok (.invokestatic 72, 3) := by decide +kernel
theorem dX4_person_4 : decode cX4_person 4 = .ok (.ifCond .eq 10, 3) := by decide +kernel
theorem dX4_person_7 : decode cX4_person 7 = .ok (.iload_n 2, 1) := by decide +kernel
theorem dX4_person_8 : decode cX4_person 8 = .ok (.invokestatic 75, 3) := by decide +kernel
theorem dX4_person_11 : decode cX4_person 11 = .ok (.ifCond .ne 10, 3) := by decide +kernel
theorem dX4_person_14 : decode cX4_person 14 = .ok (.aload_n 0, 1) := by decide +kernel
theorem dX4_person_15 : decode cX4_person 15 = .ok (.ldc 44, 2) := by decide +kernel
theorem dX4_person_17 : decode cX4_person 17 = .ok (.invokevirtual 68, 3) := by decide +kernel
theorem dX4_person_20 : decode cX4_person 20 = .ok (.ireturn, 1) := by decide +kernel
theorem dX4_person_21 : decode cX4_person 21 = .ok (.aload_n 0, 1) := by decide +kernel
theorem dX4_person_22 : decode cX4_person 22 = .ok (.getfield 7, 3) := by decide +kernel
theorem dX4_person_25 : decode cX4_person 25 = .ok (.iconst 0, 1) := by decide +kernel
theorem dX4_person_26 : decode cX4_person 26 = .ok (.iaload, 1) := by decide +kernel
theorem dX4_person_27 : decode cX4_person 27 = .ok (.bipush 8, 2) := by decide +kernel
theorem dX4_person_29 : decode cX4_person 29 = .ok (.if_icmp .ne 12, 3) := by decide +kernel
theorem dX4_person_32 : decode cX4_person 32 = .ok (.aload_n 0, 1) := by decide +kernel
theorem dX4_person_33 : decode cX4_person 33 = .ok (.ldc 78, 2) := by decide +kernel
theorem dX4_person_35 : decode cX4_person 35 = .ok (.invokevirtual 68, 3) := by decide +kernel
theorem dX4_person_38 : decode cX4_person 38 = .ok (.goto 9, 3) := by decide +kernel
theorem dX4_person_41 : decode cX4_person 41 = .ok (.aload_n 0, 1) := by decide +kernel
theorem dX4_person_42 : decode cX4_person 42 = .ok (.iload_n 1, 1) := by decide +kernel
theorem dX4_person_43 : decode cX4_person 43 = .ok (.iload_n 2, 1) := by decide +kernel
theorem dX4_person_44 : decode cX4_person 44 = .ok (.invokevirtual 79, 3) := by decide +kernel
theorem dX4_person_47 : decode cX4_person 47 = .ok (.ireturn, 1) := by decide +kernel
theorem dX4_givesOff_0 : decode cX4_givesOff 0 = .ok (.aload_n 0, 1) := by decide +kernel
theorem dX4_givesOff_1 : decode cX4_givesOff 1 = .ok (.iload_n 1, 1) := by decide +kernel
theorem dX4_givesOff_2 : decode cX4_givesOff 2 = .ok (.iconst 4, 1) := by decide +kernel
theorem dX4_givesOff_3 : decode cX4_givesOff 3 = .ok (.iload_n 2, 1) := by decide +kernel
theorem dX4_givesOff_4 : decode cX4_givesOff 4 = .ok (.iadd, 1) := by decide +kernel
theorem dX4_givesOff_5 : decode cX4_givesOff 5 = .ok (.invokevirtual 82, 3) := by decide +kernel
theorem dX4_givesOff_8 : decode cX4_givesOff 8 = .ok (.istore_n 3, 1) := by decide +kernel
theorem dX4_givesOff_9 : decode cX4_givesOff 9 = .ok (.iload_n 3, 1) := by decide +kernel
theorem dX4_givesOff_10 : decode cX4_givesOff 10 = .ok (.bipush 10, 2) := by decide +kernel
theorem dX4_givesOff_12 : decode cX4_givesOff 12 = .ok (.if_icmp .ge 7, 3) := by decide +kernel
theorem dX4_givesOff_15 : decode cX4_givesOff 15 = .ok (.iconst 0, 1) := by decide +kernel
theorem dX4_givesOff_16 : decode cX4_givesOff 16 = .ok (.goto 7, 3) := by decide +kernel
theorem dX4_givesOff_19 : decode cX4_givesOff 19 = .ok (.iload_n 3, 1) := by decide +kernel
theorem dX4_givesOff_20 : decode cX4_givesOff 20 = .ok (.bipush 10, 2) := by decide +kernel
theorem dX4_givesOff_22 : decode cX4_givesOff 22 = .ok (.isub, 1) := by decide +kernel
theorem dX4_givesOff_23 : decode cX4_givesOff 23 = .ok (.istore 4, 2) := by decide +kernel
theorem dX4_givesOff_25 : decode cX4_givesOff 25 = .ok (.iload_n 3, 1) := by decide +kernel
theorem dX4_givesOff_26 : decode cX4_givesOff 26 = .ok (.iload_n 3, 1) := by decide +kernel
theorem dX4_givesOff_27 : decode cX4_givesOff 27 = .ok (.iconst 2, 1) := by decide +kernel
theorem dX4_givesOff_28 : decode cX4_givesOff 28 = .ok (.idiv, 1) := by decide +kernel
theorem dX4_givesOff_29 : decode cX4_givesOff 29 = .ok (.iadd, 1) := by decide +kernel
theorem dX4_givesOff_30 : decode cX4_givesOff 30 = .ok (.istore 5, 2) := by decide +kernel
theorem dX4_givesOff_32 : decode cX4_givesOff 32 = .ok (.aload_n 0, 1) := by decide +kernel
theorem dX4_givesOff_33 : decode cX4_givesOff 33 = .ok (.iload_n 1, 1) := by decide +kernel
theorem dX4_givesOff_34 : decode cX4_givesOff 34 = .ok (.iconst 0, 1) := by decide +kernel
theorem dX4_givesOff_35 : decode cX4_givesOff 35 = .ok (.invokevirtual 82, 3) := by decide +kernel
theorem dX4_givesOff_38 : decode cX4_givesOff 38 = .ok (.tableswitch 86 1 5 #[34, 44, 47, 50, 71], 34) := by decide +kernel
theorem dX4_givesOff_72 : decode cX4_givesOff 72 = .ok (.iload_n 2, 1) := by decide +kernel
theorem dX4_givesOff_73 : decode cX4_givesOff 73 = .ok (.ifCond .ne 7, 3) := by decide +kernel
theorem dX4_givesOff_76 : decode cX4_givesOff 76 = .ok (.iconst 0, 1) := by decide +kernel
theorem dX4_givesOff_77 : decode cX4_givesOff 77 = .ok (.goto 4, 3) := by decide +kernel
theorem dX4_givesOff_80 : decode cX4_givesOff 80 = .ok (.iload_n 3, 1) := by decide +kernel
theorem dX4_givesOff_81 : decode cX4_givesOff 81 = .ok (.ireturn, 1) := by decide +kernel
theorem dX4_givesOff_82 : decode cX4_givesOff 82 = .ok (.iload 4, 2) := by decide +kernel
theorem dX4_givesOff_84 : decode cX4_givesOff 84 = .ok (.ireturn, 1) := by decide +kernel
theorem dX4_givesOff_85 : decode cX4_givesOff 85 = .ok (.iload 5, 2) := by decide +kernel
theorem dX4_givesOff_87 : decode cX4_givesOff 87 = .ok (.ireturn, 1) := by decide +kernel
theorem dX4_givesOff_88 : decode cX4_givesOff 88 = .ok (.aload_n 0, 1) := by decide +kernel
theorem dX4_givesOff_89 : decode cX4_givesOff 89 = .ok (.getfield 7, 3) := by decide +kernel
theorem dX4_givesOff_92 : decode cX4_givesOff 92 = .ok (.iconst 1, 1) := by decide +kernel
theorem dX4_givesOff_93 : decode cX4_givesOff 93 = .ok (.iaload, 1) := by decide +kernel
theorem dX4_givesOff_94 : decode cX4_givesOff 94 = .ok (.iconst 2, 1) := by decide +kernel
theorem dX4_givesOff_95 : decode cX4_givesOff 95 = .ok (.irem, 1) := by decide +kernel
theorem dX4_givesOff_96 : decode cX4_givesOff 96 = .ok (.ifCond .ne 10, 3) := by decide +kernel
theorem dX4_givesOff_99 : decode cX4_givesOff 99 = .ok (.iload 4, 2) := by decide +kernel
theorem dX4_givesOff_101 : decode cX4_givesOff 101 = .ok (.iconst 2, 1) := by decide +kernel
theorem dX4_givesOff_102 : decode cX4_givesOff 102 = .ok (.idiv, 1) := by decide +kernel
theorem dX4_givesOff_103 : decode cX4_givesOff 103 = .ok (.goto 5, 3) := by decide +kernel
theorem dX4_givesOff_106 : decode cX4_givesOff 106 = .ok (.iload 4, 2) := by decide +kernel
theorem dX4_givesOff_108 : decode cX4_givesOff 108 = .ok (.ireturn, 1) := by decide +kernel
theorem dX4_givesOff_109 : decode cX4_givesOff 109 = .ok (.iload 5, 2) := by decide +kernel
theorem dX4_givesOff_111 : decode cX4_givesOff 111 = .ok (.iconst 5, 1) := by decide +kernel
theorem dX4_givesOff_112 : decode cX4_givesOff 112 = .ok (.if_icmp .ge 7, 3) := by decide +kernel
theorem dX4_givesOff_115 : decode cX4_givesOff 115 = .ok (.iconst 0, 1) := by decide +kernel
theorem dX4_givesOff_116 : decode cX4_givesOff 116 = .ok (.goto 7, 3) := by decide +kernel
theorem dX4_givesOff_119 : decode cX4_givesOff 119 = .ok (.iload 5, 2) := by decide +kernel
theorem dX4_givesOff_121 : decode cX4_givesOff 121 = .ok (.iconst 5, 1) := by decide +kernel
theorem dX4_givesOff_122 : decode cX4_givesOff 122 = .ok (.isub, 1) := by decide +kernel
theorem dX4_givesOff_123 : decode cX4_givesOff 123 = .ok (.ireturn, 1) := by decide +kernel
theorem dX4_givesOff_124 : decode cX4_givesOff 124 = .ok (.iload_n 3, 1) := by decide +kernel
theorem dX4_givesOff_125 : decode cX4_givesOff 125 = .ok (.ireturn, 1) := by decide +kernel
theorem dX4_scentsOf_0 : decode cX4_scentsOf 0 = .ok (.iconst 0, 1) := by decide +kernel
theorem dX4_scentsOf_1 : decode cX4_scentsOf 1 = .ok (.istore_n 2, 1) := by decide +kernel
theorem dX4_scentsOf_2 : decode cX4_scentsOf 2 = .ok (.iconst 0, 1) := by decide +kernel
theorem dX4_scentsOf_3 : decode cX4_scentsOf 3 = .ok (.istore_n 3, 1) := by decide +kernel
theorem dX4_scentsOf_4 : decode cX4_scentsOf 4 = .ok (.iload_n 3, 1) := by decide +kernel
theorem dX4_scentsOf_5 : decode cX4_scentsOf 5 = .ok (.bipush 6, 2) := by decide +kernel
theorem dX4_scentsOf_7 : decode cX4_scentsOf 7 = .ok (.if_icmp .ge 20, 3) := by decide +kernel
theorem dX4_scentsOf_10 : decode cX4_scentsOf 10 = .ok (.iload_n 2, 1) := by decide +kernel
theorem dX4_scentsOf_11 : decode cX4_scentsOf 11 = .ok (.aload_n 0, 1) := by decide +kernel
theorem dX4_scentsOf_12 : decode cX4_scentsOf 12 = .ok (.iload_n 1, 1) := by decide +kernel
theorem dX4_scentsOf_13 : decode cX4_scentsOf 13 = .ok (.iconst 4, 1) := by decide +kernel
theorem dX4_scentsOf_14 : decode cX4_scentsOf 14 = .ok (.iload_n 3, 1) := by decide +kernel
theorem dX4_scentsOf_15 : decode cX4_scentsOf 15 = .ok (.iadd, 1) := by decide +kernel
theorem dX4_scentsOf_16 : decode cX4_scentsOf 16 = .ok (.invokevirtual 82, 3) := by decide +kernel
theorem dX4_scentsOf_19 : decode cX4_scentsOf 19 = .ok (.iadd, 1) := by decide +kernel
theorem dX4_scentsOf_20 : decode cX4_scentsOf 20 = .ok (.istore_n 2, 1) := by decide +kernel
theorem dX4_scentsOf_21 : decode cX4_scentsOf 21 = .ok (.iinc 3 1, 3) := by decide +kernel
theorem dX4_scentsOf_24 : decode cX4_scentsOf 24 = .ok (.goto (-20), 3) := by decide +kernel
theorem dX4_scentsOf_27 : decode cX4_scentsOf 27 = .ok (.iload_n 2, 1) := by decide +kernel
theorem dX4_scentsOf_28 : decode cX4_scentsOf 28 = .ok (.ireturn, 1) := by decide +kernel
theorem dX4_givesOffAll_0 : decode cX4_givesOffAll 0 = .ok (.iconst 0, 1) := by decide +kernel
theorem dX4_givesOffAll_1 : decode cX4_givesOffAll 1 = .ok (.istore_n 2, 1) := by decide +kernel
theorem dX4_givesOffAll_2 : decode cX4_givesOffAll 2 = .ok (.iconst 0, 1) := by decide +kernel
theorem dX4_givesOffAll_3 : decode cX4_givesOffAll 3 = .ok (.istore_n 3, 1) := by decide +kernel
theorem dX4_givesOffAll_4 : decode cX4_givesOffAll 4 = .ok (.iload_n 3, 1) := by decide +kernel
theorem dX4_givesOffAll_5 : decode cX4_givesOffAll 5 = .ok (.bipush 6, 2) := by decide +kernel
theorem dX4_givesOffAll_7 : decode cX4_givesOffAll 7 = .ok (.if_icmp .ge 18, 3) := by decide +kernel
theorem dX4_givesOffAll_10 : decode cX4_givesOffAll 10 = .ok (.iload_n 2, 1) := by decide +kernel
theorem dX4_givesOffAll_11 : decode cX4_givesOffAll 11 = .ok (.aload_n 0, 1) := by decide +kernel
theorem dX4_givesOffAll_12 : decode cX4_givesOffAll 12 = .ok (.iload_n 1, 1) := by decide +kernel
theorem dX4_givesOffAll_13 : decode cX4_givesOffAll 13 = .ok (.iload_n 3, 1) := by decide +kernel
theorem dX4_givesOffAll_14 : decode cX4_givesOffAll 14 = .ok (.invokevirtual 85, 3) := by decide +kernel
theorem dX4_givesOffAll_17 : decode cX4_givesOffAll 17 = .ok (.iadd, 1) := by decide +kernel
theorem dX4_givesOffAll_18 : decode cX4_givesOffAll 18 = .ok (.istore_n 2, 1) := by decide +kernel
theorem dX4_givesOffAll_19 : decode cX4_givesOffAll 19 = .ok (.iinc 3 1, 3) := by decide +kernel
theorem dX4_givesOffAll_22 : decode cX4_givesOffAll 22 = .ok (.goto (-18), 3) := by decide +kernel
theorem dX4_givesOffAll_25 : decode cX4_givesOffAll 25 = .ok (.iload_n 2, 1) := by decide +kernel
theorem dX4_givesOffAll_26 : decode cX4_givesOffAll 26 = .ok (.ireturn, 1) := by decide +kernel
theorem dX4_of_0 : decode cX4_of 0 = .ok (.aload_n 0, 1) := by decide +kernel
theorem dX4_of_1 : decode cX4_of 1 = .ok (.iload_n 1, 1) := by decide +kernel
theorem dX4_of_2 : decode cX4_of 2 = .ok (.invokevirtual 51, 3) := by decide +kernel
theorem dX4_of_5 : decode cX4_of 5 = .ok (.ifCond .eq 15, 3) := by decide +kernel
theorem dX4_of_8 : decode cX4_of 8 = .ok (.iload_n 2, 1) := by decide +kernel
theorem dX4_of_9 : decode cX4_of 9 = .ok (.i2l, 1) := by decide +kernel
theorem dX4_of_10 : decode cX4_of 10 = .ok (.lconst 0, 1) := by decide +kernel
theorem dX4_of_11 : decode cX4_of 11 = .ok (.ldc2_w 55, 3) := by decide +kernel
theorem dX4_of_14 : decode cX4_of 14 = .ok (.invokestatic 47, 3) := by decide +kernel
theorem dX4_of_17 : decode cX4_of 17 = .ok (.ifCond .ne 10, 3) := by decide +kernel
theorem dX4_of_20 : decode cX4_of 20 = .ok (.aload_n 0, 1) := by decide +kernel
theorem dX4_of_21 : decode cX4_of 21 = .ok (.ldc 44, 2) := by decide +kernel
theorem dX4_of_23 : decode cX4_of 23 = .ok (.invokevirtual 68, 3) := by decide +kernel
theorem dX4_of_26 : decode cX4_of 26 = .ok (.ireturn, 1) := by decide +kernel
theorem dX4_of_27 : decode cX4_of 27 = .ok (.iload_n 2, 1) := by decide +kernel
theorem dX4_of_28 : decode cX4_of 28 = .ok (.iconst 4, 1) := by decide +kernel
theorem dX4_of_29 : decode cX4_of 29 = .ok (.if_icmp .ge 12, 3) := by decide +kernel
theorem dX4_of_32 : decode cX4_of 32 = .ok (.aload_n 0, 1) := by decide +kernel
theorem dX4_of_33 : decode cX4_of 33 = .ok (.iload_n 1, 1) := by decide +kernel
theorem dX4_of_34 : decode cX4_of 34 = .ok (.iload_n 2, 1) := by decide +kernel
theorem dX4_of_35 : decode cX4_of 35 = .ok (.invokevirtual 82, 3) := by decide +kernel
theorem dX4_of_38 : decode cX4_of 38 = .ok (.goto 21, 3) := by decide +kernel
theorem dX4_of_41 : decode cX4_of 41 = .ok (.iload_n 2, 1) := by decide +kernel
theorem dX4_of_42 : decode cX4_of 42 = .ok (.iconst 4, 1) := by decide +kernel
theorem dX4_of_43 : decode cX4_of 43 = .ok (.if_icmp .ne 11, 3) := by decide +kernel
theorem dX4_of_46 : decode cX4_of 46 = .ok (.aload_n 0, 1) := by decide +kernel
theorem dX4_of_47 : decode cX4_of 47 = .ok (.iload_n 1, 1) := by decide +kernel
theorem dX4_of_48 : decode cX4_of 48 = .ok (.invokevirtual 88, 3) := by decide +kernel
theorem dX4_of_51 : decode cX4_of 51 = .ok (.goto 8, 3) := by decide +kernel
theorem dX4_of_54 : decode cX4_of 54 = .ok (.aload_n 0, 1) := by decide +kernel
theorem dX4_of_55 : decode cX4_of 55 = .ok (.iload_n 1, 1) := by decide +kernel
theorem dX4_of_56 : decode cX4_of 56 = .ok (.invokevirtual 91, 3) := by decide +kernel
theorem dX4_of_59 : decode cX4_of 59 = .ok (.ireturn, 1) := by decide +kernel
theorem dX4_set_0 : decode cX4_set 0 = .ok (.iload_n 2, 1) := by decide +kernel
theorem dX4_set_1 : decode cX4_set 1 = .ok (.iconst 1, 1) := by decide +kernel
theorem dX4_set_2 : decode cX4_set 2 = .ok (.if_icmp .ne 10, 3) := by decide +kernel
theorem dX4_set_5 : decode cX4_set 5 = .ok (.iload_n 3, 1) := by decide +kernel
theorem dX4_set_6 : decode cX4_set 6 = .ok (.invokestatic 75, 3) := by decide +kernel
theorem dX4_set_9 : decode cX4_set 9 = .ok (.goto 40, 3) := by decide +kernel
theorem dX4_set_12 : decode cX4_set 12 = .ok (.iload_n 2, 1) := by decide +kernel
theorem dX4_set_13 : decode cX4_set 13 = .ok (.iconst 2, 1) := by decide +kernel
theorem dX4_set_14 : decode cX4_set 14 = .ok (.if_icmp .ne 15, 3) := by decide +kernel
theorem dX4_set_17 : decode cX4_set 17 = .ok (.iload_n 3, 1) := by decide +kernel
theorem dX4_set_18 : decode cX4_set 18 = .ok (.i2l, 1) := by decide +kernel
theorem dX4_set_19 : decode cX4_set 19 = .ok (.lconst 0, 1) := by decide +kernel
theorem dX4_set_20 : decode cX4_set 20 = .ok (.ldc2_w 94, 3) := by decide +kernel
theorem dX4_set_23 : decode cX4_set 23 = .ok (.invokestatic 47, 3) := by decide +kernel
theorem dX4_set_26 : decode cX4_set 26 = .ok (.goto 23, 3) := by decide +kernel
theorem dX4_set_29 : decode cX4_set 29 = .ok (.iload_n 2, 1) := by decide +kernel
theorem dX4_set_30 : decode cX4_set 30 = .ok (.iconst 3, 1) := by decide +kernel
theorem dX4_set_31 : decode cX4_set 31 = .ok (.if_icmp .ne 17, 3) := by decide +kernel
theorem dX4_set_34 : decode cX4_set 34 = .ok (.iload_n 3, 1) := by decide +kernel
theorem dX4_set_35 : decode cX4_set 35 = .ok (.i2l, 1) := by decide +kernel
theorem dX4_set_36 : decode cX4_set 36 = .ok (.lconst 0, 1) := by decide +kernel
theorem dX4_set_37 : decode cX4_set 37 = .ok (.lconst 1, 1) := by decide +kernel
theorem dX4_set_38 : decode cX4_set 38 = .ok (.invokestatic 47, 3) := by decide +kernel
theorem dX4_set_41 : decode cX4_set 41 = .ok (.ifCond .eq 7, 3) := by decide +kernel
theorem dX4_set_44 : decode cX4_set 44 = .ok (.iconst 1, 1) := by decide +kernel
theorem dX4_set_45 : decode cX4_set 45 = .ok (.goto 4, 3) := by decide +kernel
theorem dX4_set_48 : decode cX4_set 48 = .ok (.iconst 0, 1) := by decide +kernel
theorem dX4_set_49 : decode cX4_set 49 = .ok (.istore 4, 2) := by decide +kernel
theorem dX4_set_51 : decode cX4_set 51 = .ok (.aload_n 0, 1) := by decide +kernel
theorem dX4_set_52 : decode cX4_set 52 = .ok (.iload_n 1, 1) := by decide +kernel
theorem dX4_set_53 : decode cX4_set 53 = .ok (.invokevirtual 51, 3) := by decide +kernel
theorem dX4_set_56 : decode cX4_set 56 = .ok (.ifCond .eq 21, 3) := by decide +kernel
theorem dX4_set_59 : decode cX4_set 59 = .ok (.iload 4, 2) := by decide +kernel
theorem dX4_set_61 : decode cX4_set 61 = .ok (.ifCond .eq 16, 3) := by decide +kernel
theorem dX4_set_64 : decode cX4_set 64 = .ok (.aload_n 0, 1) := by decide +kernel
theorem dX4_set_65 : decode cX4_set 65 = .ok (.iload_n 1, 1) := by decide +kernel
theorem dX4_set_66 : decode cX4_set 66 = .ok (.iload_n 2, 1) := by decide +kernel
theorem dX4_set_67 : decode cX4_set 67 = .ok (.invokestatic 57, 3) := by decide +kernel
theorem dX4_set_70 : decode cX4_set 70 = .ok (.iload_n 3, 1) := by decide +kernel
theorem dX4_set_71 : decode cX4_set 71 = .ok (.invokevirtual 65, 3) := by decide +kernel
theorem dX4_set_74 : decode cX4_set 74 = .ok (.goto 9, 3) := by decide +kernel
theorem dX4_set_77 : decode cX4_set 77 = .ok (.aload_n 0, 1) := by decide +kernel
theorem dX4_set_78 : decode cX4_set 78 = .ok (.ldc 44, 2) := by decide +kernel
theorem dX4_set_80 : decode cX4_set 80 = .ok (.invokevirtual 68, 3) := by decide +kernel
theorem dX4_set_83 : decode cX4_set 83 = .ok (.ireturn, 1) := by decide +kernel
theorem dX4_did_0 : decode cX4_did 0 = .ok (.aload_n 0, 1) := by decide +kernel
theorem dX4_did_1 : decode cX4_did 1 = .ok (.iload_n 1, 1) := by decide +kernel
theorem dX4_did_2 : decode cX4_did 2 = .ok (.invokevirtual 51, 3) := by decide +kernel
theorem dX4_did_5 : decode cX4_did 5 = .ok (.ifCond .eq 37, 3) := by decide +kernel
theorem dX4_did_8 : decode cX4_did 8 = .ok (.iload_n 2, 1) := by decide +kernel
theorem dX4_did_9 : decode cX4_did 9 = .ok (.invokestatic 96, 3) := by decide +kernel
theorem dX4_did_12 : decode cX4_did 12 = .ok (.ifCond .eq 30, 3) := by decide +kernel
theorem dX4_did_15 : decode cX4_did 15 = .ok (.iload_n 3, 1) := by decide +kernel
theorem dX4_did_16 : decode cX4_did 16 = .ok (.i2l, 1) := by decide +kernel
theorem dX4_did_17 : decode cX4_did 17 = .ok (.lconst 0, 1) := by decide +kernel
theorem dX4_did_18 : decode cX4_did 18 = .ok (.ldc2_w 63, 3) := by decide +kernel
theorem dX4_did_21 : decode cX4_did 21 = .ok (.invokestatic 47, 3) := by decide +kernel
theorem dX4_did_24 : decode cX4_did 24 = .ok (.ifCond .eq 18, 3) := by decide +kernel
theorem dX4_did_27 : decode cX4_did 27 = .ok (.aload_n 0, 1) := by decide +kernel
theorem dX4_did_28 : decode cX4_did 28 = .ok (.iload_n 1, 1) := by decide +kernel
theorem dX4_did_29 : decode cX4_did 29 = .ok (.iconst 4, 1) := by decide +kernel
theorem dX4_did_30 : decode cX4_did 30 = .ok (.iload_n 2, 1) := by decide +kernel
theorem dX4_did_31 : decode cX4_did 31 = .ok (.iadd, 1) := by decide +kernel
theorem dX4_did_32 : decode cX4_did 32 = .ok (.invokestatic 57, 3) := by decide +kernel
theorem dX4_did_35 : decode cX4_did 35 = .ok (.iload_n 3, 1) := by decide +kernel
theorem dX4_did_36 : decode cX4_did 36 = .ok (.invokevirtual 65, 3) := by decide +kernel
theorem dX4_did_39 : decode cX4_did 39 = .ok (.goto 9, 3) := by decide +kernel
theorem dX4_did_42 : decode cX4_did 42 = .ok (.aload_n 0, 1) := by decide +kernel
theorem dX4_did_43 : decode cX4_did 43 = .ok (.ldc 44, 2) := by decide +kernel
theorem dX4_did_45 : decode cX4_did 45 = .ok (.invokevirtual 68, 3) := by decide +kernel
theorem dX4_did_48 : decode cX4_did 48 = .ok (.ireturn, 1) := by decide +kernel
theorem dX4_scent_0 : decode cX4_scent 0 = .ok (.aload_n 0, 1) := by decide +kernel
theorem dX4_scent_1 : decode cX4_scent 1 = .ok (.iload_n 1, 1) := by decide +kernel
theorem dX4_scent_2 : decode cX4_scent 2 = .ok (.invokevirtual 51, 3) := by decide +kernel
theorem dX4_scent_5 : decode cX4_scent 5 = .ok (.ifCond .eq 20, 3) := by decide +kernel
theorem dX4_scent_8 : decode cX4_scent 8 = .ok (.iload_n 2, 1) := by decide +kernel
theorem dX4_scent_9 : decode cX4_scent 9 = .ok (.invokestatic 96, 3) := by decide +kernel
theorem dX4_scent_12 : decode cX4_scent 12 = .ok (.ifCond .eq 13, 3) := by decide +kernel
theorem dX4_scent_15 : decode cX4_scent 15 = .ok (.iload_n 3, 1) := by decide +kernel
theorem dX4_scent_16 : decode cX4_scent 16 = .ok (.i2l, 1) := by decide +kernel
theorem dX4_scent_17 : decode cX4_scent 17 = .ok (.lconst 0, 1) := by decide +kernel
theorem dX4_scent_18 : decode cX4_scent 18 = .ok (.lconst 1, 1) := by decide +kernel
theorem dX4_scent_19 : decode cX4_scent 19 = .ok (.invokestatic 47, 3) := by decide +kernel
theorem dX4_scent_22 : decode cX4_scent 22 = .ok (.ifCond .ne 10, 3) := by decide +kernel
theorem dX4_scent_25 : decode cX4_scent 25 = .ok (.aload_n 0, 1) := by decide +kernel
theorem dX4_scent_26 : decode cX4_scent 26 = .ok (.ldc 44, 2) := by decide +kernel
theorem dX4_scent_28 : decode cX4_scent 28 = .ok (.invokevirtual 68, 3) := by decide +kernel
theorem dX4_scent_31 : decode cX4_scent 31 = .ok (.ireturn, 1) := by decide +kernel
theorem dX4_scent_32 : decode cX4_scent 32 = .ok (.iload_n 3, 1) := by decide +kernel
theorem dX4_scent_33 : decode cX4_scent 33 = .ok (.ifCond .ne 14, 3) := by decide +kernel
theorem dX4_scent_36 : decode cX4_scent 36 = .ok (.aload_n 0, 1) := by decide +kernel
theorem dX4_scent_37 : decode cX4_scent 37 = .ok (.iload_n 1, 1) := by decide +kernel
theorem dX4_scent_38 : decode cX4_scent 38 = .ok (.iconst 4, 1) := by decide +kernel
theorem dX4_scent_39 : decode cX4_scent 39 = .ok (.iload_n 2, 1) := by decide +kernel
theorem dX4_scent_40 : decode cX4_scent 40 = .ok (.iadd, 1) := by decide +kernel
theorem dX4_scent_41 : decode cX4_scent 41 = .ok (.invokevirtual 82, 3) := by decide +kernel
theorem dX4_scent_44 : decode cX4_scent 44 = .ok (.goto 9, 3) := by decide +kernel
theorem dX4_scent_47 : decode cX4_scent 47 = .ok (.aload_n 0, 1) := by decide +kernel
theorem dX4_scent_48 : decode cX4_scent 48 = .ok (.iload_n 1, 1) := by decide +kernel
theorem dX4_scent_49 : decode cX4_scent 49 = .ok (.iload_n 2, 1) := by decide +kernel
theorem dX4_scent_50 : decode cX4_scent 50 = .ok (.invokevirtual 85, 3) := by decide +kernel
theorem dX4_scent_53 : decode cX4_scent 53 = .ok (.ireturn, 1) := by decide +kernel
theorem dX4_turn_0 : decode cX4_turn 0 = .ok (.aload_n 0, 1) := by decide +kernel
theorem dX4_turn_1 : decode cX4_turn 1 = .ok (.iload_n 1, 1) := by decide +kernel
theorem dX4_turn_2 : decode cX4_turn 2 = .ok (.invokevirtual 51, 3) := by decide +kernel
theorem dX4_turn_5 : decode cX4_turn 5 = .ok (.ifCond .eq 23, 3) := by decide +kernel
theorem dX4_turn_8 : decode cX4_turn 8 = .ok (.iload_n 2, 1) := by decide +kernel
theorem dX4_turn_9 : decode cX4_turn 9 = .ok (.invokestatic 72, 3) := by decide +kernel
theorem dX4_turn_12 : decode cX4_turn 12 = .ok (.ifCond .eq 16, 3) := by decide +kernel
theorem dX4_turn_15 : decode cX4_turn 15 = .ok (.aload_n 0, 1) := by decide +kernel
theorem dX4_turn_16 : decode cX4_turn 16 = .ok (.iload_n 1, 1) := by decide +kernel
theorem dX4_turn_17 : decode cX4_turn 17 = .ok (.iconst 0, 1) := by decide +kernel
theorem dX4_turn_18 : decode cX4_turn 18 = .ok (.invokestatic 57, 3) := by decide +kernel
theorem dX4_turn_21 : decode cX4_turn 21 = .ok (.iload_n 2, 1) := by decide +kernel
theorem dX4_turn_22 : decode cX4_turn 22 = .ok (.invokevirtual 65, 3) := by decide +kernel
theorem dX4_turn_25 : decode cX4_turn 25 = .ok (.goto 9, 3) := by decide +kernel
theorem dX4_turn_28 : decode cX4_turn 28 = .ok (.aload_n 0, 1) := by decide +kernel
theorem dX4_turn_29 : decode cX4_turn 29 = .ok (.ldc 44, 2) := by decide +kernel
theorem dX4_turn_31 : decode cX4_turn 31 = .ok (.invokevirtual 68, 3) := by decide +kernel
theorem dX4_turn_34 : decode cX4_turn 34 = .ok (.ireturn, 1) := by decide +kernel
theorem dX4_isUnder_0 : decode cX4_isUnder 0 = .ok (.iload_n 1, 1) := by decide +kernel
theorem dX4_isUnder_1 : decode cX4_isUnder 1 = .ok (.ifCond .eq 20, 3) := by decide +kernel
theorem dX4_isUnder_4 : decode cX4_isUnder 4 = .ok (.iload_n 0, 1) := by decide +kernel
theorem dX4_isUnder_5 : decode cX4_isUnder 5 = .ok (.iload_n 1, 1) := by decide +kernel
theorem dX4_isUnder_6 : decode cX4_isUnder 6 = .ok (.if_icmp .eq 15, 3) := by decide +kernel
theorem dX4_isUnder_9 : decode cX4_isUnder 9 = .ok (.iload_n 0, 1) := by decide +kernel
theorem dX4_isUnder_10 : decode cX4_isUnder 10 = .ok (.iconst 3, 1) := by decide +kernel
theorem dX4_isUnder_11 : decode cX4_isUnder 11 = .ok (.if_icmp .le 14, 3) := by decide +kernel
theorem dX4_isUnder_14 : decode cX4_isUnder 14 = .ok (.iload_n 0, 1) := by decide +kernel
theorem dX4_isUnder_15 : decode cX4_isUnder 15 = .ok (.iconst 2, 1) := by decide +kernel
theorem dX4_isUnder_16 : decode cX4_isUnder 16 = .ok (.isub, 1) := by decide +kernel
theorem dX4_isUnder_17 : decode cX4_isUnder 17 = .ok (.iload_n 1, 1) := by decide +kernel
theorem dX4_isUnder_18 : decode cX4_isUnder 18 = .ok (.if_icmp .ne 7, 3) := by decide +kernel
theorem dX4_isUnder_21 : decode cX4_isUnder 21 = .ok (.iconst 1, 1) := by decide +kernel
theorem dX4_isUnder_22 : decode cX4_isUnder 22 = .ok (.goto 4, 3) := by decide +kernel
theorem dX4_isUnder_25 : decode cX4_isUnder 25 = .ok (.iconst 0, 1) := by decide +kernel
theorem dX4_isUnder_26 : decode cX4_isUnder 26 = .ok (.ireturn, 1) := by decide +kernel
theorem dX4_as_0 : decode cX4_as 0 = .ok (.aload_n 0, 1) := by decide +kernel
theorem dX4_as_1 : decode cX4_as 1 = .ok (.iload_n 1, 1) := by decide +kernel
theorem dX4_as_2 : decode cX4_as 2 = .ok (.invokevirtual 51, 3) := by decide +kernel
theorem dX4_as_5 : decode cX4_as 5 = .ok (.ifCond .eq 10, 3) := by decide +kernel
theorem dX4_as_8 : decode cX4_as 8 = .ok (.iload_n 2, 1) := by decide +kernel
theorem dX4_as_9 : decode cX4_as 9 = .ok (.invokestatic 72, 3) := by decide +kernel
theorem dX4_as_12 : decode cX4_as 12 = .ok (.ifCond .ne 10, 3) := by decide +kernel
theorem dX4_as_15 : decode cX4_as 15 = .ok (.aload_n 0, 1) := by decide +kernel
theorem dX4_as_16 : decode cX4_as 16 = .ok (.ldc 44, 2) := by decide +kernel
theorem dX4_as_18 : decode cX4_as 18 = .ok (.invokevirtual 68, 3) := by decide +kernel
theorem dX4_as_21 : decode cX4_as 21 = .ok (.ireturn, 1) := by decide +kernel
theorem dX4_as_22 : decode cX4_as 22 = .ok (.aload_n 0, 1) := by decide +kernel
theorem dX4_as_23 : decode cX4_as 23 = .ok (.iload_n 1, 1) := by decide +kernel
theorem dX4_as_24 : decode cX4_as 24 = .ok (.iconst 0, 1) := by decide +kernel
theorem dX4_as_25 : decode cX4_as 25 = .ok (.invokevirtual 82, 3) := by decide +kernel
theorem dX4_as_28 : decode cX4_as 28 = .ok (.iload_n 2, 1) := by decide +kernel
theorem dX4_as_29 : decode cX4_as 29 = .ok (.invokestatic 99, 3) := by decide +kernel
theorem dX4_as_32 : decode cX4_as 32 = .ok (.ifCond .eq 12, 3) := by decide +kernel
theorem dX4_as_35 : decode cX4_as 35 = .ok (.aload_n 0, 1) := by decide +kernel
theorem dX4_as_36 : decode cX4_as 36 = .ok (.iload_n 1, 1) := by decide +kernel
theorem dX4_as_37 : decode cX4_as 37 = .ok (.iconst 2, 1) := by decide +kernel
theorem dX4_as_38 : decode cX4_as 38 = .ok (.invokevirtual 82, 3) := by decide +kernel
theorem dX4_as_41 : decode cX4_as 41 = .ok (.goto 9, 3) := by decide +kernel
theorem dX4_as_44 : decode cX4_as 44 = .ok (.aload_n 0, 1) := by decide +kernel
theorem dX4_as_45 : decode cX4_as 45 = .ok (.ldc 103, 2) := by decide +kernel
theorem dX4_as_47 : decode cX4_as 47 = .ok (.invokevirtual 68, 3) := by decide +kernel
theorem dX4_as_50 : decode cX4_as 50 = .ok (.ireturn, 1) := by decide +kernel
theorem dX4_washes_0 : decode cX4_washes 0 = .ok (.iconst 0, 1) := by decide +kernel
theorem dX4_washes_1 : decode cX4_washes 1 = .ok (.istore_n 2, 1) := by decide +kernel
theorem dX4_washes_2 : decode cX4_washes 2 = .ok (.iconst 0, 1) := by decide +kernel
theorem dX4_washes_3 : decode cX4_washes 3 = .ok (.istore_n 3, 1) := by decide +kernel
theorem dX4_washes_4 : decode cX4_washes 4 = .ok (.iload_n 3, 1) := by decide +kernel
theorem dX4_washes_5 : decode cX4_washes 5 = .ok (.bipush 6, 2) := by decide +kernel
theorem dX4_washes_7 : decode cX4_washes 7 = .ok (.if_icmp .ge 45, 3) := by decide +kernel
theorem dX4_washes_10 : decode cX4_washes 10 = .ok (.aload_n 0, 1) := by decide +kernel
theorem dX4_washes_11 : decode cX4_washes 11 = .ok (.iload_n 1, 1) := by decide +kernel
theorem dX4_washes_12 : decode cX4_washes 12 = .ok (.iconst 4, 1) := by decide +kernel
theorem dX4_washes_13 : decode cX4_washes 13 = .ok (.iload_n 3, 1) := by decide +kernel
theorem dX4_washes_14 : decode cX4_washes 14 = .ok (.iadd, 1) := by decide +kernel
theorem dX4_washes_15 : decode cX4_washes 15 = .ok (.invokevirtual 82, 3) := by decide +kernel
theorem dX4_washes_18 : decode cX4_washes 18 = .ok (.istore 4, 2) := by decide +kernel
theorem dX4_washes_20 : decode cX4_washes 20 = .ok (.aload_n 0, 1) := by decide +kernel
theorem dX4_washes_21 : decode cX4_washes 21 = .ok (.getfield 7, 3) := by decide +kernel
theorem dX4_washes_24 : decode cX4_washes 24 = .ok (.iload_n 1, 1) := by decide +kernel
theorem dX4_washes_25 : decode cX4_washes 25 = .ok (.iconst 4, 1) := by decide +kernel
theorem dX4_washes_26 : decode cX4_washes 26 = .ok (.iload_n 3, 1) := by decide +kernel
theorem dX4_washes_27 : decode cX4_washes 27 = .ok (.iadd, 1) := by decide +kernel
theorem dX4_washes_28 : decode cX4_washes 28 = .ok (.invokestatic 57, 3) := by decide +kernel
theorem dX4_washes_31 : decode cX4_washes 31 = .ok (.iload 4, 2) := by decide +kernel
theorem dX4_washes_33 : decode cX4_washes 33 = .ok (.iconst 3, 1) := by decide +kernel
theorem dX4_washes_34 : decode cX4_washes 34 = .ok (.idiv, 1) := by decide +kernel
theorem dX4_washes_35 : decode cX4_washes 35 = .ok (.iastore, 1) := by decide +kernel
theorem dX4_washes_36 : decode cX4_washes 36 = .ok (.iload_n 2, 1) := by decide +kernel
theorem dX4_washes_37 : decode cX4_washes 37 = .ok (.iload 4, 2) := by decide +kernel
theorem dX4_washes_39 : decode cX4_washes 39 = .ok (.iload 4, 2) := by decide +kernel
theorem dX4_washes_41 : decode cX4_washes 41 = .ok (.iconst 3, 1) := by decide +kernel
theorem dX4_washes_42 : decode cX4_washes 42 = .ok (.idiv, 1) := by decide +kernel
theorem dX4_washes_43 : decode cX4_washes 43 = .ok (.isub, 1) := by decide +kernel
theorem dX4_washes_44 : decode cX4_washes 44 = .ok (.iadd, 1) := by decide +kernel
theorem dX4_washes_45 : decode cX4_washes 45 = .ok (.istore_n 2, 1) := by decide +kernel
theorem dX4_washes_46 : decode cX4_washes 46 = .ok (.iinc 3 1, 3) := by decide +kernel
theorem dX4_washes_49 : decode cX4_washes 49 = .ok (.goto (-45), 3) := by decide +kernel
theorem dX4_washes_52 : decode cX4_washes 52 = .ok (.iload_n 2, 1) := by decide +kernel
theorem dX4_washes_53 : decode cX4_washes 53 = .ok (.ireturn, 1) := by decide +kernel
theorem dX4_wash_0 : decode cX4_wash 0 = .ok (.aload_n 0, 1) := by decide +kernel
theorem dX4_wash_1 : decode cX4_wash 1 = .ok (.iload_n 1, 1) := by decide +kernel
theorem dX4_wash_2 : decode cX4_wash 2 = .ok (.invokevirtual 51, 3) := by decide +kernel
theorem dX4_wash_5 : decode cX4_wash 5 = .ok (.ifCond .eq 11, 3) := by decide +kernel
theorem dX4_wash_8 : decode cX4_wash 8 = .ok (.aload_n 0, 1) := by decide +kernel
theorem dX4_wash_9 : decode cX4_wash 9 = .ok (.iload_n 1, 1) := by decide +kernel
theorem dX4_wash_10 : decode cX4_wash 10 = .ok (.invokevirtual 104, 3) := by decide +kernel
theorem dX4_wash_13 : decode cX4_wash 13 = .ok (.goto 9, 3) := by decide +kernel
theorem dX4_wash_16 : decode cX4_wash 16 = .ok (.aload_n 0, 1) := by decide +kernel
theorem dX4_wash_17 : decode cX4_wash 17 = .ok (.ldc 44, 2) := by decide +kernel
theorem dX4_wash_19 : decode cX4_wash 19 = .ok (.invokevirtual 68, 3) := by decide +kernel
theorem dX4_wash_22 : decode cX4_wash 22 = .ok (.ireturn, 1) := by decide +kernel
theorem dX4_grows_0 : decode cX4_grows 0 = .ok (.aload_n 0, 1) := by decide +kernel
theorem dX4_grows_1 : decode cX4_grows 1 = .ok (.getfield 7, 3) := by decide +kernel
theorem dX4_grows_4 : decode cX4_grows 4 = .ok (.iload_n 1, 1) := by decide +kernel
theorem dX4_grows_5 : decode cX4_grows 5 = .ok (.iaload, 1) := by decide +kernel
theorem dX4_grows_6 : decode cX4_grows 6 = .ok (.iload_n 2, 1) := by decide +kernel
theorem dX4_grows_7 : decode cX4_grows 7 = .ok (.if_icmp .ge 7, 3) := by decide +kernel
theorem dX4_grows_10 : decode cX4_grows 10 = .ok (.iconst 1, 1) := by decide +kernel
theorem dX4_grows_11 : decode cX4_grows 11 = .ok (.goto 4, 3) := by decide +kernel
theorem dX4_grows_14 : decode cX4_grows 14 = .ok (.iconst 0, 1) := by decide +kernel
theorem dX4_grows_15 : decode cX4_grows 15 = .ok (.istore_n 3, 1) := by decide +kernel
theorem dX4_grows_16 : decode cX4_grows 16 = .ok (.aload_n 0, 1) := by decide +kernel
theorem dX4_grows_17 : decode cX4_grows 17 = .ok (.getfield 7, 3) := by decide +kernel
theorem dX4_grows_20 : decode cX4_grows 20 = .ok (.iload_n 1, 1) := by decide +kernel
theorem dX4_grows_21 : decode cX4_grows 21 = .ok (.iload_n 3, 1) := by decide +kernel
theorem dX4_grows_22 : decode cX4_grows 22 = .ok (.iconst 1, 1) := by decide +kernel
theorem dX4_grows_23 : decode cX4_grows 23 = .ok (.if_icmp .ne 7, 3) := by decide +kernel
theorem dX4_grows_26 : decode cX4_grows 26 = .ok (.iload_n 2, 1) := by decide +kernel
theorem dX4_grows_27 : decode cX4_grows 27 = .ok (.goto 9, 3) := by decide +kernel
theorem dX4_grows_30 : decode cX4_grows 30 = .ok (.aload_n 0, 1) := by decide +kernel
theorem dX4_grows_31 : decode cX4_grows 31 = .ok (.getfield 7, 3) := by decide +kernel
theorem dX4_grows_34 : decode cX4_grows 34 = .ok (.iload_n 1, 1) := by decide +kernel
theorem dX4_grows_35 : decode cX4_grows 35 = .ok (.iaload, 1) := by decide +kernel
theorem dX4_grows_36 : decode cX4_grows 36 = .ok (.iastore, 1) := by decide +kernel
theorem dX4_grows_37 : decode cX4_grows 37 = .ok (.iload_n 3, 1) := by decide +kernel
theorem dX4_grows_38 : decode cX4_grows 38 = .ok (.ireturn, 1) := by decide +kernel
theorem dX4_meet_0 : decode cX4_meet 0 = .ok (.aload_n 0, 1) := by decide +kernel
theorem dX4_meet_1 : decode cX4_meet 1 = .ok (.iload_n 1, 1) := by decide +kernel
theorem dX4_meet_2 : decode cX4_meet 2 = .ok (.iload_n 2, 1) := by decide +kernel
theorem dX4_meet_3 : decode cX4_meet 3 = .ok (.invokevirtual 107, 3) := by decide +kernel
theorem dX4_meet_6 : decode cX4_meet 6 = .ok (.ifCond .ne 10, 3) := by decide +kernel
theorem dX4_meet_9 : decode cX4_meet 9 = .ok (.aload_n 0, 1) := by decide +kernel
theorem dX4_meet_10 : decode cX4_meet 10 = .ok (.ldc 44, 2) := by decide +kernel
theorem dX4_meet_12 : decode cX4_meet 12 = .ok (.invokevirtual 68, 3) := by decide +kernel
theorem dX4_meet_15 : decode cX4_meet 15 = .ok (.ireturn, 1) := by decide +kernel
theorem dX4_meet_16 : decode cX4_meet 16 = .ok (.iconst 0, 1) := by decide +kernel
theorem dX4_meet_17 : decode cX4_meet 17 = .ok (.istore_n 3, 1) := by decide +kernel
theorem dX4_meet_18 : decode cX4_meet 18 = .ok (.iconst 0, 1) := by decide +kernel
theorem dX4_meet_19 : decode cX4_meet 19 = .ok (.istore 4, 2) := by decide +kernel
theorem dX4_meet_21 : decode cX4_meet 21 = .ok (.iload 4, 2) := by decide +kernel
theorem dX4_meet_23 : decode cX4_meet 23 = .ok (.bipush 6, 2) := by decide +kernel
theorem dX4_meet_25 : decode cX4_meet 25 = .ok (.if_icmp .ge 81, 3) := by decide +kernel
theorem dX4_meet_28 : decode cX4_meet 28 = .ok (.aload_n 0, 1) := by decide +kernel
theorem dX4_meet_29 : decode cX4_meet 29 = .ok (.iload_n 1, 1) := by decide +kernel
theorem dX4_meet_30 : decode cX4_meet 30 = .ok (.iconst 4, 1) := by decide +kernel
theorem dX4_meet_31 : decode cX4_meet 31 = .ok (.iload 4, 2) := by decide +kernel
theorem dX4_meet_33 : decode cX4_meet 33 = .ok (.iadd, 1) := by decide +kernel
theorem dX4_meet_34 : decode cX4_meet 34 = .ok (.invokevirtual 82, 3) := by decide +kernel
theorem dX4_meet_37 : decode cX4_meet 37 = .ok (.istore 5, 2) := by decide +kernel
theorem dX4_meet_39 : decode cX4_meet 39 = .ok (.aload_n 0, 1) := by decide +kernel
theorem dX4_meet_40 : decode cX4_meet 40 = .ok (.iload_n 2, 1) := by decide +kernel
theorem dX4_meet_41 : decode cX4_meet 41 = .ok (.iconst 4, 1) := by decide +kernel
theorem dX4_meet_42 : decode cX4_meet 42 = .ok (.iload 4, 2) := by decide +kernel
theorem dX4_meet_44 : decode cX4_meet 44 = .ok (.iadd, 1) := by decide +kernel
theorem dX4_meet_45 : decode cX4_meet 45 = .ok (.invokevirtual 82, 3) := by decide +kernel
theorem dX4_meet_48 : decode cX4_meet 48 = .ok (.istore 6, 2) := by decide +kernel
theorem dX4_meet_50 : decode cX4_meet 50 = .ok (.iload 5, 2) := by decide +kernel
theorem dX4_meet_52 : decode cX4_meet 52 = .ok (.iload 6, 2) := by decide +kernel
theorem dX4_meet_54 : decode cX4_meet 54 = .ok (.if_icmp .le 8, 3) := by decide +kernel
theorem dX4_meet_57 : decode cX4_meet 57 = .ok (.iload 5, 2) := by decide +kernel
theorem dX4_meet_59 : decode cX4_meet 59 = .ok (.goto 5, 3) := by decide +kernel
theorem dX4_meet_62 : decode cX4_meet 62 = .ok (.iload 6, 2) := by decide +kernel
theorem dX4_meet_64 : decode cX4_meet 64 = .ok (.iconst 2, 1) := by decide +kernel
theorem dX4_meet_65 : decode cX4_meet 65 = .ok (.idiv, 1) := by decide +kernel
theorem dX4_meet_66 : decode cX4_meet 66 = .ok (.istore 7, 2) := by decide +kernel
theorem dX4_meet_68 : decode cX4_meet 68 = .ok (.iload_n 3, 1) := by decide +kernel
theorem dX4_meet_69 : decode cX4_meet 69 = .ok (.aload_n 0, 1) := by decide +kernel
theorem dX4_meet_70 : decode cX4_meet 70 = .ok (.iload_n 1, 1) := by decide +kernel
theorem dX4_meet_71 : decode cX4_meet 71 = .ok (.iconst 4, 1) := by decide +kernel
theorem dX4_meet_72 : decode cX4_meet 72 = .ok (.iload 4, 2) := by decide +kernel
theorem dX4_meet_74 : decode cX4_meet 74 = .ok (.iadd, 1) := by decide +kernel
theorem dX4_meet_75 : decode cX4_meet 75 = .ok (.invokestatic 57, 3) := by decide +kernel
theorem dX4_meet_78 : decode cX4_meet 78 = .ok (.iload 7, 2) := by decide +kernel
theorem dX4_meet_80 : decode cX4_meet 80 = .ok (.invokevirtual 110, 3) := by decide +kernel
theorem dX4_meet_83 : decode cX4_meet 83 = .ok (.aload_n 0, 1) := by decide +kernel
theorem dX4_meet_84 : decode cX4_meet 84 = .ok (.iload_n 2, 1) := by decide +kernel
theorem dX4_meet_85 : decode cX4_meet 85 = .ok (.iconst 4, 1) := by decide +kernel
theorem dX4_meet_86 : decode cX4_meet 86 = .ok (.iload 4, 2) := by decide +kernel
theorem dX4_meet_88 : decode cX4_meet 88 = .ok (.iadd, 1) := by decide +kernel
theorem dX4_meet_89 : decode cX4_meet 89 = .ok (.invokestatic 57, 3) := by decide +kernel
theorem dX4_meet_92 : decode cX4_meet 92 = .ok (.iload 7, 2) := by decide +kernel
theorem dX4_meet_94 : decode cX4_meet 94 = .ok (.invokevirtual 110, 3) := by decide +kernel
theorem dX4_meet_97 : decode cX4_meet 97 = .ok (.iadd, 1) := by decide +kernel
theorem dX4_meet_98 : decode cX4_meet 98 = .ok (.iadd, 1) := by decide +kernel
theorem dX4_meet_99 : decode cX4_meet 99 = .ok (.istore_n 3, 1) := by decide +kernel
theorem dX4_meet_100 : decode cX4_meet 100 = .ok (.iinc 4 1, 3) := by decide +kernel
theorem dX4_meet_103 : decode cX4_meet 103 = .ok (.goto (-82), 3) := by decide +kernel
theorem dX4_meet_106 : decode cX4_meet 106 = .ok (.iload_n 3, 1) := by decide +kernel
theorem dX4_meet_107 : decode cX4_meet 107 = .ok (.ireturn, 1) := by decide +kernel
theorem dX4_absolute_0 : decode cX4_absolute 0 = .ok (.iload_n 0, 1) := by decide +kernel
theorem dX4_absolute_1 : decode cX4_absolute 1 = .ok (.ifCond .ge 8, 3) := by decide +kernel
theorem dX4_absolute_4 : decode cX4_absolute 4 = .ok (.iload_n 0, 1) := by decide +kernel
theorem dX4_absolute_5 : decode cX4_absolute 5 = .ok (.ineg, 1) := by decide +kernel
theorem dX4_absolute_6 : decode cX4_absolute 6 = .ok (.goto 4, 3) := by decide +kernel
theorem dX4_absolute_9 : decode cX4_absolute 9 = .ok (.iload_n 0, 1) := by decide +kernel
theorem dX4_absolute_10 : decode cX4_absolute 10 = .ok (.ireturn, 1) := by decide +kernel
theorem dX4_apart_0 : decode cX4_apart 0 = .ok (.aload_n 0, 1) := by decide +kernel
theorem dX4_apart_1 : decode cX4_apart 1 = .ok (.iload_n 1, 1) := by decide +kernel
theorem dX4_apart_2 : decode cX4_apart 2 = .ok (.iconst 1, 1) := by decide +kernel
theorem dX4_apart_3 : decode cX4_apart 3 = .ok (.invokevirtual 82, 3) := by decide +kernel
theorem dX4_apart_6 : decode cX4_apart 6 = .ok (.istore_n 3, 1) := by decide +kernel
theorem dX4_apart_7 : decode cX4_apart 7 = .ok (.aload_n 0, 1) := by decide +kernel
theorem dX4_apart_8 : decode cX4_apart 8 = .ok (.iload_n 2, 1) := by decide +kernel
theorem dX4_apart_9 : decode cX4_apart 9 = .ok (.iconst 1, 1) := by decide +kernel
theorem dX4_apart_10 : decode cX4_apart 10 = .ok (.invokevirtual 82, 3) := by decide +kernel
theorem dX4_apart_13 : decode cX4_apart 13 = .ok (.istore 4, 2) := by decide +kernel
theorem dX4_apart_15 : decode cX4_apart 15 = .ok (.iload_n 3, 1) := by decide +kernel
theorem dX4_apart_16 : decode cX4_apart 16 = .ok (.bipush 8, 2) := by decide +kernel
theorem dX4_apart_18 : decode cX4_apart 18 = .ok (.idiv, 1) := by decide +kernel
theorem dX4_apart_19 : decode cX4_apart 19 = .ok (.iload 4, 2) := by decide +kernel
theorem dX4_apart_21 : decode cX4_apart 21 = .ok (.bipush 8, 2) := by decide +kernel
theorem dX4_apart_23 : decode cX4_apart 23 = .ok (.idiv, 1) := by decide +kernel
theorem dX4_apart_24 : decode cX4_apart 24 = .ok (.isub, 1) := by decide +kernel
theorem dX4_apart_25 : decode cX4_apart 25 = .ok (.invokestatic 113, 3) := by decide +kernel
theorem dX4_apart_28 : decode cX4_apart 28 = .ok (.iload_n 3, 1) := by decide +kernel
theorem dX4_apart_29 : decode cX4_apart 29 = .ok (.bipush 8, 2) := by decide +kernel
theorem dX4_apart_31 : decode cX4_apart 31 = .ok (.irem, 1) := by decide +kernel
theorem dX4_apart_32 : decode cX4_apart 32 = .ok (.iload 4, 2) := by decide +kernel
theorem dX4_apart_34 : decode cX4_apart 34 = .ok (.bipush 8, 2) := by decide +kernel
theorem dX4_apart_36 : decode cX4_apart 36 = .ok (.irem, 1) := by decide +kernel
theorem dX4_apart_37 : decode cX4_apart 37 = .ok (.isub, 1) := by decide +kernel
theorem dX4_apart_38 : decode cX4_apart 38 = .ok (.invokestatic 113, 3) := by decide +kernel
theorem dX4_apart_41 : decode cX4_apart 41 = .ok (.iadd, 1) := by decide +kernel
theorem dX4_apart_42 : decode cX4_apart 42 = .ok (.ireturn, 1) := by decide +kernel
theorem dX4_isDownwind_0 : decode cX4_isDownwind 0 = .ok (.aload_n 0, 1) := by decide +kernel
theorem dX4_isDownwind_1 : decode cX4_isDownwind 1 = .ok (.iload_n 1, 1) := by decide +kernel
theorem dX4_isDownwind_2 : decode cX4_isDownwind 2 = .ok (.iconst 1, 1) := by decide +kernel
theorem dX4_isDownwind_3 : decode cX4_isDownwind 3 = .ok (.invokevirtual 82, 3) := by decide +kernel
theorem dX4_isDownwind_6 : decode cX4_isDownwind 6 = .ok (.bipush 8, 2) := by decide +kernel
theorem dX4_isDownwind_8 : decode cX4_isDownwind 8 = .ok (.idiv, 1) := by decide +kernel
theorem dX4_isDownwind_9 : decode cX4_isDownwind 9 = .ok (.aload_n 0, 1) := by decide +kernel
theorem dX4_isDownwind_10 : decode cX4_isDownwind 10 = .ok (.iload_n 2, 1) := by decide +kernel
theorem dX4_isDownwind_11 : decode cX4_isDownwind 11 = .ok (.iconst 1, 1) := by decide +kernel
theorem dX4_isDownwind_12 : decode cX4_isDownwind 12 = .ok (.invokevirtual 82, 3) := by decide +kernel
theorem dX4_isDownwind_15 : decode cX4_isDownwind 15 = .ok (.bipush 8, 2) := by decide +kernel
theorem dX4_isDownwind_17 : decode cX4_isDownwind 17 = .ok (.idiv, 1) := by decide +kernel
theorem dX4_isDownwind_18 : decode cX4_isDownwind 18 = .ok (.isub, 1) := by decide +kernel
theorem dX4_isDownwind_19 : decode cX4_isDownwind 19 = .ok (.istore_n 3, 1) := by decide +kernel
theorem dX4_isDownwind_20 : decode cX4_isDownwind 20 = .ok (.aload_n 0, 1) := by decide +kernel
theorem dX4_isDownwind_21 : decode cX4_isDownwind 21 = .ok (.iload_n 1, 1) := by decide +kernel
theorem dX4_isDownwind_22 : decode cX4_isDownwind 22 = .ok (.iconst 1, 1) := by decide +kernel
theorem dX4_isDownwind_23 : decode cX4_isDownwind 23 = .ok (.invokevirtual 82, 3) := by decide +kernel
theorem dX4_isDownwind_26 : decode cX4_isDownwind 26 = .ok (.bipush 8, 2) := by decide +kernel
theorem dX4_isDownwind_28 : decode cX4_isDownwind 28 = .ok (.irem, 1) := by decide +kernel
theorem dX4_isDownwind_29 : decode cX4_isDownwind 29 = .ok (.aload_n 0, 1) := by decide +kernel
theorem dX4_isDownwind_30 : decode cX4_isDownwind 30 = .ok (.iload_n 2, 1) := by decide +kernel
theorem dX4_isDownwind_31 : decode cX4_isDownwind 31 = .ok (.iconst 1, 1) := by decide +kernel
theorem dX4_isDownwind_32 : decode cX4_isDownwind 32 = .ok (.invokevirtual 82, 3) := by decide +kernel
theorem dX4_isDownwind_35 : decode cX4_isDownwind 35 = .ok (.bipush 8, 2) := by decide +kernel
theorem dX4_isDownwind_37 : decode cX4_isDownwind 37 = .ok (.irem, 1) := by decide +kernel
theorem dX4_isDownwind_38 : decode cX4_isDownwind 38 = .ok (.isub, 1) := by decide +kernel
theorem dX4_isDownwind_39 : decode cX4_isDownwind 39 = .ok (.istore 4, 2) := by decide +kernel
theorem dX4_isDownwind_41 : decode cX4_isDownwind 41 = .ok (.aload_n 0, 1) := by decide +kernel
theorem dX4_isDownwind_42 : decode cX4_isDownwind 42 = .ok (.getfield 7, 3) := by decide +kernel
theorem dX4_isDownwind_45 : decode cX4_isDownwind 45 = .ok (.iconst 2, 1) := by decide +kernel
theorem dX4_isDownwind_46 : decode cX4_isDownwind 46 = .ok (.iaload, 1) := by decide +kernel
theorem dX4_isDownwind_47 : decode cX4_isDownwind 47 = .ok (.tableswitch 71 1 4 #[29, 39, 50, 60], 29) := by decide +kernel
theorem dX4_isDownwind_76 : decode cX4_isDownwind 76 = .ok (.iload_n 3, 1) := by decide +kernel
theorem dX4_isDownwind_77 : decode cX4_isDownwind 77 = .ok (.ifCond .ge 7, 3) := by decide +kernel
theorem dX4_isDownwind_80 : decode cX4_isDownwind 80 = .ok (.iconst 1, 1) := by decide +kernel
theorem dX4_isDownwind_81 : decode cX4_isDownwind 81 = .ok (.goto 4, 3) := by decide +kernel
theorem dX4_isDownwind_84 : decode cX4_isDownwind 84 = .ok (.iconst 0, 1) := by decide +kernel
theorem dX4_isDownwind_85 : decode cX4_isDownwind 85 = .ok (.ireturn, 1) := by decide +kernel
theorem dX4_isDownwind_86 : decode cX4_isDownwind 86 = .ok (.iload 4, 2) := by decide +kernel
theorem dX4_isDownwind_88 : decode cX4_isDownwind 88 = .ok (.ifCond .le 7, 3) := by decide +kernel
theorem dX4_isDownwind_91 : decode cX4_isDownwind 91 = .ok (.iconst 1, 1) := by decide +kernel
theorem dX4_isDownwind_92 : decode cX4_isDownwind 92 = .ok (.goto 4, 3) := by decide +kernel
theorem dX4_isDownwind_95 : decode cX4_isDownwind 95 = .ok (.iconst 0, 1) := by decide +kernel
theorem dX4_isDownwind_96 : decode cX4_isDownwind 96 = .ok (.ireturn, 1) := by decide +kernel
theorem dX4_isDownwind_97 : decode cX4_isDownwind 97 = .ok (.iload_n 3, 1) := by decide +kernel
theorem dX4_isDownwind_98 : decode cX4_isDownwind 98 = .ok (.ifCond .le 7, 3) := by decide +kernel
theorem dX4_isDownwind_101 : decode cX4_isDownwind 101 = .ok (.iconst 1, 1) := by decide +kernel
theorem dX4_isDownwind_102 : decode cX4_isDownwind 102 = .ok (.goto 4, 3) := by decide +kernel
theorem dX4_isDownwind_105 : decode cX4_isDownwind 105 = .ok (.iconst 0, 1) := by decide +kernel
theorem dX4_isDownwind_106 : decode cX4_isDownwind 106 = .ok (.ireturn, 1) := by decide +kernel
theorem dX4_isDownwind_107 : decode cX4_isDownwind 107 = .ok (.iload 4, 2) := by decide +kernel
theorem dX4_isDownwind_109 : decode cX4_isDownwind 109 = .ok (.ifCond .ge 7, 3) := by decide +kernel
theorem dX4_isDownwind_112 : decode cX4_isDownwind 112 = .ok (.iconst 1, 1) := by decide +kernel
theorem dX4_isDownwind_113 : decode cX4_isDownwind 113 = .ok (.goto 4, 3) := by decide +kernel
theorem dX4_isDownwind_116 : decode cX4_isDownwind 116 = .ok (.iconst 0, 1) := by decide +kernel
theorem dX4_isDownwind_117 : decode cX4_isDownwind 117 = .ok (.ireturn, 1) := by decide +kernel
theorem dX4_isDownwind_118 : decode cX4_isDownwind 118 = .ok (.iconst 0, 1) := by decide +kernel
theorem dX4_isDownwind_119 : decode cX4_isDownwind 119 = .ok (.ireturn, 1) := by decide +kernel
theorem dX4_senses_0 : decode cX4_senses 0 = .ok (.aload_n 0, 1) := by decide +kernel
theorem dX4_senses_1 : decode cX4_senses 1 = .ok (.iload_n 1, 1) := by decide +kernel
theorem dX4_senses_2 : decode cX4_senses 2 = .ok (.iconst 3, 1) := by decide +kernel
theorem dX4_senses_3 : decode cX4_senses 3 = .ok (.invokevirtual 82, 3) := by decide +kernel
theorem dX4_senses_6 : decode cX4_senses 6 = .ok (.iconst 1, 1) := by decide +kernel
theorem dX4_senses_7 : decode cX4_senses 7 = .ok (.if_icmp .ne 7, 3) := by decide +kernel
theorem dX4_senses_10 : decode cX4_senses 10 = .ok (.iconst 0, 1) := by decide +kernel
theorem dX4_senses_11 : decode cX4_senses 11 = .ok (.goto 15, 3) := by decide +kernel
theorem dX4_senses_14 : decode cX4_senses 14 = .ok (.iload_n 2, 1) := by decide +kernel
theorem dX4_senses_15 : decode cX4_senses 15 = .ok (.aload_n 0, 1) := by decide +kernel
theorem dX4_senses_16 : decode cX4_senses 16 = .ok (.iload_n 1, 1) := by decide +kernel
theorem dX4_senses_17 : decode cX4_senses 17 = .ok (.iconst 2, 1) := by decide +kernel
theorem dX4_senses_18 : decode cX4_senses 18 = .ok (.invokevirtual 82, 3) := by decide +kernel
theorem dX4_senses_21 : decode cX4_senses 21 = .ok (.imul, 1) := by decide +kernel
theorem dX4_senses_22 : decode cX4_senses 22 = .ok (.iload_n 3, 1) := by decide +kernel
theorem dX4_senses_23 : decode cX4_senses 23 = .ok (.iconst 5, 1) := by decide +kernel
theorem dX4_senses_24 : decode cX4_senses 24 = .ok (.iadd, 1) := by decide +kernel
theorem dX4_senses_25 : decode cX4_senses 25 = .ok (.idiv, 1) := by decide +kernel
theorem dX4_senses_26 : decode cX4_senses 26 = .ok (.istore 4, 2) := by decide +kernel
theorem dX4_senses_28 : decode cX4_senses 28 = .ok (.aload_n 0, 1) := by decide +kernel
theorem dX4_senses_29 : decode cX4_senses 29 = .ok (.iload_n 1, 1) := by decide +kernel
theorem dX4_senses_30 : decode cX4_senses 30 = .ok (.iconst 0, 1) := by decide +kernel
theorem dX4_senses_31 : decode cX4_senses 31 = .ok (.invokevirtual 82, 3) := by decide +kernel
theorem dX4_senses_34 : decode cX4_senses 34 = .ok (.tableswitch 66 1 5 #[34, 66, 45, 66, 50], 34) := by decide +kernel
theorem dX4_senses_68 : decode cX4_senses 68 = .ok (.iload_n 3, 1) := by decide +kernel
theorem dX4_senses_69 : decode cX4_senses 69 = .ok (.ifCond .ne 7, 3) := by decide +kernel
theorem dX4_senses_72 : decode cX4_senses 72 = .ok (.iconst 0, 1) := by decide +kernel
theorem dX4_senses_73 : decode cX4_senses 73 = .ok (.goto 5, 3) := by decide +kernel
theorem dX4_senses_76 : decode cX4_senses 76 = .ok (.iload 4, 2) := by decide +kernel
theorem dX4_senses_78 : decode cX4_senses 78 = .ok (.ireturn, 1) := by decide +kernel
theorem dX4_senses_79 : decode cX4_senses 79 = .ok (.iconst 2, 1) := by decide +kernel
theorem dX4_senses_80 : decode cX4_senses 80 = .ok (.iload 4, 2) := by decide +kernel
theorem dX4_senses_82 : decode cX4_senses 82 = .ok (.imul, 1) := by decide +kernel
theorem dX4_senses_83 : decode cX4_senses 83 = .ok (.ireturn, 1) := by decide +kernel
theorem dX4_senses_84 : decode cX4_senses 84 = .ok (.iload 4, 2) := by decide +kernel
theorem dX4_senses_86 : decode cX4_senses 86 = .ok (.ifCond .le 12, 3) := by decide +kernel
theorem dX4_senses_89 : decode cX4_senses 89 = .ok (.iconst 2, 1) := by decide +kernel
theorem dX4_senses_90 : decode cX4_senses 90 = .ok (.iload 4, 2) := by decide +kernel
theorem dX4_senses_92 : decode cX4_senses 92 = .ok (.imul, 1) := by decide +kernel
theorem dX4_senses_93 : decode cX4_senses 93 = .ok (.iconst 3, 1) := by decide +kernel
theorem dX4_senses_94 : decode cX4_senses 94 = .ok (.iadd, 1) := by decide +kernel
theorem dX4_senses_95 : decode cX4_senses 95 = .ok (.goto 4, 3) := by decide +kernel
theorem dX4_senses_98 : decode cX4_senses 98 = .ok (.iconst 0, 1) := by decide +kernel
theorem dX4_senses_99 : decode cX4_senses 99 = .ok (.ireturn, 1) := by decide +kernel
theorem dX4_senses_100 : decode cX4_senses 100 = .ok (.iload 4, 2) := by decide +kernel
theorem dX4_senses_102 : decode cX4_senses 102 = .ok (.ireturn, 1) := by decide +kernel
theorem dX4_smell_0 : decode cX4_smell 0 = .ok (.aload_n 0, 1) := by decide +kernel
theorem dX4_smell_1 : decode cX4_smell 1 = .ok (.iload_n 1, 1) := by decide +kernel
theorem dX4_smell_2 : decode cX4_smell 2 = .ok (.aload_n 0, 1) := by decide +kernel
theorem dX4_smell_3 : decode cX4_smell 3 = .ok (.iload_n 2, 1) := by decide +kernel
theorem dX4_smell_4 : decode cX4_smell 4 = .ok (.iload_n 3, 1) := by decide +kernel
theorem dX4_smell_5 : decode cX4_smell 5 = .ok (.invokevirtual 85, 3) := by decide +kernel
theorem dX4_smell_8 : decode cX4_smell 8 = .ok (.aload_n 0, 1) := by decide +kernel
theorem dX4_smell_9 : decode cX4_smell 9 = .ok (.iload_n 1, 1) := by decide +kernel
theorem dX4_smell_10 : decode cX4_smell 10 = .ok (.iload_n 2, 1) := by decide +kernel
theorem dX4_smell_11 : decode cX4_smell 11 = .ok (.invokevirtual 116, 3) := by decide +kernel
theorem dX4_smell_14 : decode cX4_smell 14 = .ok (.invokevirtual 119, 3) := by decide +kernel
theorem dX4_smell_17 : decode cX4_smell 17 = .ok (.istore 4, 2) := by decide +kernel
theorem dX4_smell_19 : decode cX4_smell 19 = .ok (.aload_n 0, 1) := by decide +kernel
theorem dX4_smell_20 : decode cX4_smell 20 = .ok (.iload_n 1, 1) := by decide +kernel
theorem dX4_smell_21 : decode cX4_smell 21 = .ok (.iload_n 2, 1) := by decide +kernel
theorem dX4_smell_22 : decode cX4_smell 22 = .ok (.invokevirtual 123, 3) := by decide +kernel
theorem dX4_smell_25 : decode cX4_smell 25 = .ok (.ifCond .eq 10, 3) := by decide +kernel
theorem dX4_smell_28 : decode cX4_smell 28 = .ok (.iconst 2, 1) := by decide +kernel
theorem dX4_smell_29 : decode cX4_smell 29 = .ok (.iload 4, 2) := by decide +kernel
theorem dX4_smell_31 : decode cX4_smell 31 = .ok (.imul, 1) := by decide +kernel
theorem dX4_smell_32 : decode cX4_smell 32 = .ok (.goto 21, 3) := by decide +kernel
theorem dX4_smell_35 : decode cX4_smell 35 = .ok (.aload_n 0, 1) := by decide +kernel
theorem dX4_smell_36 : decode cX4_smell 36 = .ok (.iload_n 2, 1) := by decide +kernel
theorem dX4_smell_37 : decode cX4_smell 37 = .ok (.iload_n 1, 1) := by decide +kernel
theorem dX4_smell_38 : decode cX4_smell 38 = .ok (.invokevirtual 123, 3) := by decide +kernel
theorem dX4_smell_41 : decode cX4_smell 41 = .ok (.ifCond .eq 10, 3) := by decide +kernel
theorem dX4_smell_44 : decode cX4_smell 44 = .ok (.iload 4, 2) := by decide +kernel
theorem dX4_smell_46 : decode cX4_smell 46 = .ok (.iconst 2, 1) := by decide +kernel
theorem dX4_smell_47 : decode cX4_smell 47 = .ok (.idiv, 1) := by decide +kernel
theorem dX4_smell_48 : decode cX4_smell 48 = .ok (.goto 5, 3) := by decide +kernel
theorem dX4_smell_51 : decode cX4_smell 51 = .ok (.iload 4, 2) := by decide +kernel
theorem dX4_smell_53 : decode cX4_smell 53 = .ok (.ireturn, 1) := by decide +kernel
theorem dX4_smells_0 : decode cX4_smells 0 = .ok (.aload_n 0, 1) := by decide +kernel
theorem dX4_smells_1 : decode cX4_smells 1 = .ok (.iload_n 1, 1) := by decide +kernel
theorem dX4_smells_2 : decode cX4_smells 2 = .ok (.iload_n 2, 1) := by decide +kernel
theorem dX4_smells_3 : decode cX4_smells 3 = .ok (.invokevirtual 107, 3) := by decide +kernel
theorem dX4_smells_6 : decode cX4_smells 6 = .ok (.ifCond .eq 20, 3) := by decide +kernel
theorem dX4_smells_9 : decode cX4_smells 9 = .ok (.iload_n 3, 1) := by decide +kernel
theorem dX4_smells_10 : decode cX4_smells 10 = .ok (.invokestatic 96, 3) := by decide +kernel
theorem dX4_smells_13 : decode cX4_smells 13 = .ok (.ifCond .eq 13, 3) := by decide +kernel
theorem dX4_smells_16 : decode cX4_smells 16 = .ok (.aload_n 0, 1) := by decide +kernel
theorem dX4_smells_17 : decode cX4_smells 17 = .ok (.iload_n 1, 1) := by decide +kernel
theorem dX4_smells_18 : decode cX4_smells 18 = .ok (.iload_n 2, 1) := by decide +kernel
theorem dX4_smells_19 : decode cX4_smells 19 = .ok (.iload_n 3, 1) := by decide +kernel
theorem dX4_smells_20 : decode cX4_smells 20 = .ok (.invokevirtual 126, 3) := by decide +kernel
theorem dX4_smells_23 : decode cX4_smells 23 = .ok (.goto 9, 3) := by decide +kernel
theorem dX4_smells_26 : decode cX4_smells 26 = .ok (.aload_n 0, 1) := by decide +kernel
theorem dX4_smells_27 : decode cX4_smells 27 = .ok (.ldc 44, 2) := by decide +kernel
theorem dX4_smells_29 : decode cX4_smells 29 = .ok (.invokevirtual 68, 3) := by decide +kernel
theorem dX4_smells_32 : decode cX4_smells 32 = .ok (.ireturn, 1) := by decide +kernel
theorem dX4_deed_0 : decode cX4_deed 0 = .ok (.aload_n 0, 1) := by decide +kernel
theorem dX4_deed_1 : decode cX4_deed 1 = .ok (.iload_n 1, 1) := by decide +kernel
theorem dX4_deed_2 : decode cX4_deed 2 = .ok (.iload_n 2, 1) := by decide +kernel
theorem dX4_deed_3 : decode cX4_deed 3 = .ok (.invokevirtual 107, 3) := by decide +kernel
theorem dX4_deed_6 : decode cX4_deed 6 = .ok (.ifCond .ne 10, 3) := by decide +kernel
theorem dX4_deed_9 : decode cX4_deed 9 = .ok (.aload_n 0, 1) := by decide +kernel
theorem dX4_deed_10 : decode cX4_deed 10 = .ok (.ldc 44, 2) := by decide +kernel
theorem dX4_deed_12 : decode cX4_deed 12 = .ok (.invokevirtual 68, 3) := by decide +kernel
theorem dX4_deed_15 : decode cX4_deed 15 = .ok (.ireturn, 1) := by decide +kernel
theorem dX4_deed_16 : decode cX4_deed 16 = .ok (.iconst (-1), 1) := by decide +kernel
theorem dX4_deed_17 : decode cX4_deed 17 = .ok (.istore_n 3, 1) := by decide +kernel
theorem dX4_deed_18 : decode cX4_deed 18 = .ok (.iconst 0, 1) := by decide +kernel
theorem dX4_deed_19 : decode cX4_deed 19 = .ok (.istore 4, 2) := by decide +kernel
theorem dX4_deed_21 : decode cX4_deed 21 = .ok (.iconst 0, 1) := by decide +kernel
theorem dX4_deed_22 : decode cX4_deed 22 = .ok (.istore 5, 2) := by decide +kernel
theorem dX4_deed_24 : decode cX4_deed 24 = .ok (.iload 5, 2) := by decide +kernel
theorem dX4_deed_26 : decode cX4_deed 26 = .ok (.bipush 6, 2) := by decide +kernel
theorem dX4_deed_28 : decode cX4_deed 28 = .ok (.if_icmp .ge 49, 3) := by decide +kernel
theorem dX4_deed_31 : decode cX4_deed 31 = .ok (.aload_n 0, 1) := by decide +kernel
theorem dX4_deed_32 : decode cX4_deed 32 = .ok (.iload_n 1, 1) := by decide +kernel
theorem dX4_deed_33 : decode cX4_deed 33 = .ok (.iload_n 2, 1) := by decide +kernel
theorem dX4_deed_34 : decode cX4_deed 34 = .ok (.iload 5, 2) := by decide +kernel
theorem dX4_deed_36 : decode cX4_deed 36 = .ok (.invokevirtual 126, 3) := by decide +kernel
theorem dX4_deed_39 : decode cX4_deed 39 = .ok (.istore 6, 2) := by decide +kernel
theorem dX4_deed_41 : decode cX4_deed 41 = .ok (.iload 6, 2) := by decide +kernel
theorem dX4_deed_43 : decode cX4_deed 43 = .ok (.iload 4, 2) := by decide +kernel
theorem dX4_deed_45 : decode cX4_deed 45 = .ok (.if_icmp .le 8, 3) := by decide +kernel
theorem dX4_deed_48 : decode cX4_deed 48 = .ok (.iload 5, 2) := by decide +kernel
theorem dX4_deed_50 : decode cX4_deed 50 = .ok (.goto 4, 3) := by decide +kernel
theorem dX4_deed_53 : decode cX4_deed 53 = .ok (.iload_n 3, 1) := by decide +kernel
theorem dX4_deed_54 : decode cX4_deed 54 = .ok (.istore_n 3, 1) := by decide +kernel
theorem dX4_deed_55 : decode cX4_deed 55 = .ok (.iload 6, 2) := by decide +kernel
theorem dX4_deed_57 : decode cX4_deed 57 = .ok (.iload 4, 2) := by decide +kernel
theorem dX4_deed_59 : decode cX4_deed 59 = .ok (.if_icmp .le 8, 3) := by decide +kernel
theorem dX4_deed_62 : decode cX4_deed 62 = .ok (.iload 6, 2) := by decide +kernel
theorem dX4_deed_64 : decode cX4_deed 64 = .ok (.goto 5, 3) := by decide +kernel
theorem dX4_deed_67 : decode cX4_deed 67 = .ok (.iload 4, 2) := by decide +kernel
theorem dX4_deed_69 : decode cX4_deed 69 = .ok (.istore 4, 2) := by decide +kernel
theorem dX4_deed_71 : decode cX4_deed 71 = .ok (.iinc 5 1, 3) := by decide +kernel
theorem dX4_deed_74 : decode cX4_deed 74 = .ok (.goto (-50), 3) := by decide +kernel
theorem dX4_deed_77 : decode cX4_deed 77 = .ok (.iload_n 3, 1) := by decide +kernel
theorem dX4_deed_78 : decode cX4_deed 78 = .ok (.ifCond .ge 12, 3) := by decide +kernel
theorem dX4_deed_81 : decode cX4_deed 81 = .ok (.aload_n 0, 1) := by decide +kernel
theorem dX4_deed_82 : decode cX4_deed 82 = .ok (.ldc 129, 2) := by decide +kernel
theorem dX4_deed_84 : decode cX4_deed 84 = .ok (.invokevirtual 68, 3) := by decide +kernel
theorem dX4_deed_87 : decode cX4_deed 87 = .ok (.goto 4, 3) := by decide +kernel
theorem dX4_deed_90 : decode cX4_deed 90 = .ok (.iload_n 3, 1) := by decide +kernel
theorem dX4_deed_91 : decode cX4_deed 91 = .ok (.ireturn, 1) := by decide +kernel
theorem dX4_isFound_0 : decode cX4_isFound 0 = .ok (.aload_n 0, 1) := by decide +kernel
theorem dX4_isFound_1 : decode cX4_isFound 1 = .ok (.iload_n 1, 1) := by decide +kernel
theorem dX4_isFound_2 : decode cX4_isFound 2 = .ok (.iconst 0, 1) := by decide +kernel
theorem dX4_isFound_3 : decode cX4_isFound 3 = .ok (.invokevirtual 82, 3) := by decide +kernel
theorem dX4_isFound_6 : decode cX4_isFound 6 = .ok (.istore_n 3, 1) := by decide +kernel
theorem dX4_isFound_7 : decode cX4_isFound 7 = .ok (.iload_n 1, 1) := by decide +kernel
theorem dX4_isFound_8 : decode cX4_isFound 8 = .ok (.iload_n 2, 1) := by decide +kernel
theorem dX4_isFound_9 : decode cX4_isFound 9 = .ok (.if_icmp .eq 23, 3) := by decide +kernel
theorem dX4_isFound_12 : decode cX4_isFound 12 = .ok (.iload_n 3, 1) := by decide +kernel
theorem dX4_isFound_13 : decode cX4_isFound 13 = .ok (.iconst 2, 1) := by decide +kernel
theorem dX4_isFound_14 : decode cX4_isFound 14 = .ok (.if_icmp .eq 8, 3) := by decide +kernel
theorem dX4_isFound_17 : decode cX4_isFound 17 = .ok (.iload_n 3, 1) := by decide +kernel
theorem dX4_isFound_18 : decode cX4_isFound 18 = .ok (.iconst 4, 1) := by decide +kernel
theorem dX4_isFound_19 : decode cX4_isFound 19 = .ok (.if_icmp .ne 15, 3) := by decide +kernel
theorem dX4_isFound_22 : decode cX4_isFound 22 = .ok (.aload_n 0, 1) := by decide +kernel
theorem dX4_isFound_23 : decode cX4_isFound 23 = .ok (.iload_n 1, 1) := by decide +kernel
theorem dX4_isFound_24 : decode cX4_isFound 24 = .ok (.iload_n 2, 1) := by decide +kernel
theorem dX4_isFound_25 : decode cX4_isFound 25 = .ok (.invokevirtual 116, 3) := by decide +kernel
theorem dX4_isFound_28 : decode cX4_isFound 28 = .ok (.iconst 1, 1) := by decide +kernel
theorem dX4_isFound_29 : decode cX4_isFound 29 = .ok (.if_icmp .gt 5, 3) := by decide +kernel
theorem dX4_isFound_32 : decode cX4_isFound 32 = .ok (.iconst 0, 1) := by decide +kernel
theorem dX4_isFound_33 : decode cX4_isFound 33 = .ok (.ireturn, 1) := by decide +kernel
theorem dX4_isFound_34 : decode cX4_isFound 34 = .ok (.iconst 0, 1) := by decide +kernel
theorem dX4_isFound_35 : decode cX4_isFound 35 = .ok (.istore 4, 2) := by decide +kernel
theorem dX4_isFound_37 : decode cX4_isFound 37 = .ok (.iconst 0, 1) := by decide +kernel
theorem dX4_isFound_38 : decode cX4_isFound 38 = .ok (.istore 5, 2) := by decide +kernel
theorem dX4_isFound_40 : decode cX4_isFound 40 = .ok (.iload 5, 2) := by decide +kernel
theorem dX4_isFound_42 : decode cX4_isFound 42 = .ok (.bipush 6, 2) := by decide +kernel
theorem dX4_isFound_44 : decode cX4_isFound 44 = .ok (.if_icmp .ge 38, 3) := by decide +kernel
theorem dX4_isFound_47 : decode cX4_isFound 47 = .ok (.iload 4, 2) := by decide +kernel
theorem dX4_isFound_49 : decode cX4_isFound 49 = .ok (.ifCond .ne 33, 3) := by decide +kernel
theorem dX4_isFound_52 : decode cX4_isFound 52 = .ok (.aload_n 0, 1) := by decide +kernel
theorem dX4_isFound_53 : decode cX4_isFound 53 = .ok (.iload_n 1, 1) := by decide +kernel
theorem dX4_isFound_54 : decode cX4_isFound 54 = .ok (.iload_n 2, 1) := by decide +kernel
theorem dX4_isFound_55 : decode cX4_isFound 55 = .ok (.iload 5, 2) := by decide +kernel
theorem dX4_isFound_57 : decode cX4_isFound 57 = .ok (.invokevirtual 126, 3) := by decide +kernel
theorem dX4_isFound_60 : decode cX4_isFound 60 = .ok (.aload_n 0, 1) := by decide +kernel
theorem dX4_isFound_61 : decode cX4_isFound 61 = .ok (.getfield 7, 3) := by decide +kernel
theorem dX4_isFound_64 : decode cX4_isFound 64 = .ok (.iconst 3, 1) := by decide +kernel
theorem dX4_isFound_65 : decode cX4_isFound 65 = .ok (.iaload, 1) := by decide +kernel
theorem dX4_isFound_66 : decode cX4_isFound 66 = .ok (.if_icmp .lt 7, 3) := by decide +kernel
theorem dX4_isFound_69 : decode cX4_isFound 69 = .ok (.iconst 1, 1) := by decide +kernel
theorem dX4_isFound_70 : decode cX4_isFound 70 = .ok (.goto 4, 3) := by decide +kernel
theorem dX4_isFound_73 : decode cX4_isFound 73 = .ok (.iconst 0, 1) := by decide +kernel
theorem dX4_isFound_74 : decode cX4_isFound 74 = .ok (.istore 4, 2) := by decide +kernel
theorem dX4_isFound_76 : decode cX4_isFound 76 = .ok (.iinc 5 1, 3) := by decide +kernel
theorem dX4_isFound_79 : decode cX4_isFound 79 = .ok (.goto (-39), 3) := by decide +kernel
theorem dX4_isFound_82 : decode cX4_isFound 82 = .ok (.iload 4, 2) := by decide +kernel
theorem dX4_isFound_84 : decode cX4_isFound 84 = .ok (.ireturn, 1) := by decide +kernel
theorem dX4_finders_0 : decode cX4_finders 0 = .ok (.iconst 0, 1) := by decide +kernel
theorem dX4_finders_1 : decode cX4_finders 1 = .ok (.istore_n 2, 1) := by decide +kernel
theorem dX4_finders_2 : decode cX4_finders 2 = .ok (.iconst 0, 1) := by decide +kernel
theorem dX4_finders_3 : decode cX4_finders 3 = .ok (.istore_n 3, 1) := by decide +kernel
theorem dX4_finders_4 : decode cX4_finders 4 = .ok (.iload_n 3, 1) := by decide +kernel
theorem dX4_finders_5 : decode cX4_finders 5 = .ok (.aload_n 0, 1) := by decide +kernel
theorem dX4_finders_6 : decode cX4_finders 6 = .ok (.getfield 7, 3) := by decide +kernel
theorem dX4_finders_9 : decode cX4_finders 9 = .ok (.iconst 0, 1) := by decide +kernel
theorem dX4_finders_10 : decode cX4_finders 10 = .ok (.iaload, 1) := by decide +kernel
theorem dX4_finders_11 : decode cX4_finders 11 = .ok (.if_icmp .ge 28, 3) := by decide +kernel
theorem dX4_finders_14 : decode cX4_finders 14 = .ok (.iload_n 2, 1) := by decide +kernel
theorem dX4_finders_15 : decode cX4_finders 15 = .ok (.aload_n 0, 1) := by decide +kernel
theorem dX4_finders_16 : decode cX4_finders 16 = .ok (.iload_n 3, 1) := by decide +kernel
theorem dX4_finders_17 : decode cX4_finders 17 = .ok (.iload_n 1, 1) := by decide +kernel
theorem dX4_finders_18 : decode cX4_finders 18 = .ok (.invokevirtual 130, 3) := by decide +kernel
theorem dX4_finders_21 : decode cX4_finders 21 = .ok (.ifCond .eq 9, 3) := by decide +kernel
theorem dX4_finders_24 : decode cX4_finders 24 = .ok (.iconst 1, 1) := by decide +kernel
theorem dX4_finders_25 : decode cX4_finders 25 = .ok (.iload_n 3, 1) := by decide +kernel
theorem dX4_finders_26 : decode cX4_finders 26 = .ok (.ishl, 1) := by decide +kernel
theorem dX4_finders_27 : decode cX4_finders 27 = .ok (.goto 4, 3) := by decide +kernel
theorem dX4_finders_30 : decode cX4_finders 30 = .ok (.iconst 0, 1) := by decide +kernel
theorem dX4_finders_31 : decode cX4_finders 31 = .ok (.ior, 1) := by decide +kernel
theorem dX4_finders_32 : decode cX4_finders 32 = .ok (.istore_n 2, 1) := by decide +kernel
theorem dX4_finders_33 : decode cX4_finders 33 = .ok (.iinc 3 1, 3) := by decide +kernel
theorem dX4_finders_36 : decode cX4_finders 36 = .ok (.goto (-32), 3) := by decide +kernel
theorem dX4_finders_39 : decode cX4_finders 39 = .ok (.iload_n 2, 1) := by decide +kernel
theorem dX4_finders_40 : decode cX4_finders 40 = .ok (.ireturn, 1) := by decide +kernel
theorem dX4_ones_0 : decode cX4_ones 0 = .ok (.iconst 0, 1) := by decide +kernel
theorem dX4_ones_1 : decode cX4_ones 1 = .ok (.istore_n 1, 1) := by decide +kernel
theorem dX4_ones_2 : decode cX4_ones 2 = .ok (.iload_n 0, 1) := by decide +kernel
theorem dX4_ones_3 : decode cX4_ones 3 = .ok (.istore_n 2, 1) := by decide +kernel
theorem dX4_ones_4 : decode cX4_ones 4 = .ok (.iload_n 2, 1) := by decide +kernel
theorem dX4_ones_5 : decode cX4_ones 5 = .ok (.ifCond .eq 15, 3) := by decide +kernel
theorem dX4_ones_8 : decode cX4_ones 8 = .ok (.iinc 1 1, 3) := by decide +kernel
theorem dX4_ones_11 : decode cX4_ones 11 = .ok (.iload_n 2, 1) := by decide +kernel
theorem dX4_ones_12 : decode cX4_ones 12 = .ok (.iload_n 2, 1) := by decide +kernel
theorem dX4_ones_13 : decode cX4_ones 13 = .ok (.iconst 1, 1) := by decide +kernel
theorem dX4_ones_14 : decode cX4_ones 14 = .ok (.isub, 1) := by decide +kernel
theorem dX4_ones_15 : decode cX4_ones 15 = .ok (.iand, 1) := by decide +kernel
theorem dX4_ones_16 : decode cX4_ones 16 = .ok (.istore_n 2, 1) := by decide +kernel
theorem dX4_ones_17 : decode cX4_ones 17 = .ok (.goto (-13), 3) := by decide +kernel
theorem dX4_ones_20 : decode cX4_ones 20 = .ok (.iload_n 1, 1) := by decide +kernel
theorem dX4_ones_21 : decode cX4_ones 21 = .ok (.ireturn, 1) := by decide +kernel
theorem dX4_findersMany_0 : decode cX4_findersMany 0 = .ok (.aload_n 0, 1) := by decide +kernel
theorem dX4_findersMany_1 : decode cX4_findersMany 1 = .ok (.iload_n 1, 1) := by decide +kernel
theorem dX4_findersMany_2 : decode cX4_findersMany 2 = .ok (.invokevirtual 133, 3) := by decide +kernel
theorem dX4_findersMany_5 : decode cX4_findersMany 5 = .ok (.invokestatic 136, 3) := by decide +kernel
theorem dX4_findersMany_8 : decode cX4_findersMany 8 = .ok (.ireturn, 1) := by decide +kernel
theorem dX4_guilty_0 : decode cX4_guilty 0 = .ok (.aload_n 0, 1) := by decide +kernel
theorem dX4_guilty_1 : decode cX4_guilty 1 = .ok (.iload_n 1, 1) := by decide +kernel
theorem dX4_guilty_2 : decode cX4_guilty 2 = .ok (.invokevirtual 51, 3) := by decide +kernel
theorem dX4_guilty_5 : decode cX4_guilty 5 = .ok (.ifCond .eq 11, 3) := by decide +kernel
theorem dX4_guilty_8 : decode cX4_guilty 8 = .ok (.aload_n 0, 1) := by decide +kernel
theorem dX4_guilty_9 : decode cX4_guilty 9 = .ok (.iload_n 1, 1) := by decide +kernel
theorem dX4_guilty_10 : decode cX4_guilty 10 = .ok (.invokevirtual 133, 3) := by decide +kernel
theorem dX4_guilty_13 : decode cX4_guilty 13 = .ok (.goto 9, 3) := by decide +kernel
theorem dX4_guilty_16 : decode cX4_guilty 16 = .ok (.aload_n 0, 1) := by decide +kernel
theorem dX4_guilty_17 : decode cX4_guilty 17 = .ok (.ldc 44, 2) := by decide +kernel
theorem dX4_guilty_19 : decode cX4_guilty 19 = .ok (.invokevirtual 68, 3) := by decide +kernel
theorem dX4_guilty_22 : decode cX4_guilty 22 = .ok (.ireturn, 1) := by decide +kernel
theorem dX4_isConvicted_0 : decode cX4_isConvicted 0 = .ok (.iconst 2, 1) := by decide +kernel
theorem dX4_isConvicted_1 : decode cX4_isConvicted 1 = .ok (.iload_n 0, 1) := by decide +kernel
theorem dX4_isConvicted_2 : decode cX4_isConvicted 2 = .ok (.iload_n 1, 1) := by decide +kernel
theorem dX4_isConvicted_3 : decode cX4_isConvicted 3 = .ok (.iand, 1) := by decide +kernel
theorem dX4_isConvicted_4 : decode cX4_isConvicted 4 = .ok (.invokestatic 136, 3) := by decide +kernel
theorem dX4_isConvicted_7 : decode cX4_isConvicted 7 = .ok (.imul, 1) := by decide +kernel
theorem dX4_isConvicted_8 : decode cX4_isConvicted 8 = .ok (.iload_n 0, 1) := by decide +kernel
theorem dX4_isConvicted_9 : decode cX4_isConvicted 9 = .ok (.invokestatic 136, 3) := by decide +kernel
theorem dX4_isConvicted_12 : decode cX4_isConvicted 12 = .ok (.if_icmp .le 7, 3) := by decide +kernel
theorem dX4_isConvicted_15 : decode cX4_isConvicted 15 = .ok (.iconst 1, 1) := by decide +kernel
theorem dX4_isConvicted_16 : decode cX4_isConvicted 16 = .ok (.goto 4, 3) := by decide +kernel
theorem dX4_isConvicted_19 : decode cX4_isConvicted 19 = .ok (.iconst 0, 1) := by decide +kernel
theorem dX4_isConvicted_20 : decode cX4_isConvicted 20 = .ok (.ireturn, 1) := by decide +kernel
theorem dX4_convicts_0 : decode cX4_convicts 0 = .ok (.iload_n 1, 1) := by decide +kernel
theorem dX4_convicts_1 : decode cX4_convicts 1 = .ok (.i2l, 1) := by decide +kernel
theorem dX4_convicts_2 : decode cX4_convicts 2 = .ok (.lconst 1, 1) := by decide +kernel
theorem dX4_convicts_3 : decode cX4_convicts 3 = .ok (.iconst 1, 1) := by decide +kernel
theorem dX4_convicts_4 : decode cX4_convicts 4 = .ok (.aload_n 0, 1) := by decide +kernel
theorem dX4_convicts_5 : decode cX4_convicts 5 = .ok (.getfield 7, 3) := by decide +kernel
theorem dX4_convicts_8 : decode cX4_convicts 8 = .ok (.iconst 0, 1) := by decide +kernel
theorem dX4_convicts_9 : decode cX4_convicts 9 = .ok (.iaload, 1) := by decide +kernel
theorem dX4_convicts_10 : decode cX4_convicts 10 = .ok (.ishl, 1) := by decide +kernel
theorem dX4_convicts_11 : decode cX4_convicts 11 = .ok (.iconst 1, 1) := by decide +kernel
theorem dX4_convicts_12 : decode cX4_convicts 12 = .ok (.isub, 1) := by decide +kernel
theorem dX4_convicts_13 : decode cX4_convicts 13 = .ok (.i2l, 1) := by decide +kernel
theorem dX4_convicts_14 : decode cX4_convicts 14 = .ok (.invokestatic 47, 3) := by decide +kernel
theorem dX4_convicts_17 : decode cX4_convicts 17 = .ok (.ifCond .eq 11, 3) := by decide +kernel
theorem dX4_convicts_20 : decode cX4_convicts 20 = .ok (.aload_n 0, 1) := by decide +kernel
theorem dX4_convicts_21 : decode cX4_convicts 21 = .ok (.iload_n 2, 1) := by decide +kernel
theorem dX4_convicts_22 : decode cX4_convicts 22 = .ok (.invokevirtual 51, 3) := by decide +kernel
theorem dX4_convicts_25 : decode cX4_convicts 25 = .ok (.ifCond .ne 10, 3) := by decide +kernel
theorem dX4_convicts_28 : decode cX4_convicts 28 = .ok (.aload_n 0, 1) := by decide +kernel
theorem dX4_convicts_29 : decode cX4_convicts 29 = .ok (.ldc 44, 2) := by decide +kernel
theorem dX4_convicts_31 : decode cX4_convicts 31 = .ok (.invokevirtual 68, 3) := by decide +kernel
theorem dX4_convicts_34 : decode cX4_convicts 34 = .ok (.ireturn, 1) := by decide +kernel
theorem dX4_convicts_35 : decode cX4_convicts 35 = .ok (.iload_n 1, 1) := by decide +kernel
theorem dX4_convicts_36 : decode cX4_convicts 36 = .ok (.iload_n 2, 1) := by decide +kernel
theorem dX4_convicts_37 : decode cX4_convicts 37 = .ok (.ishr, 1) := by decide +kernel
theorem dX4_convicts_38 : decode cX4_convicts 38 = .ok (.iconst 1, 1) := by decide +kernel
theorem dX4_convicts_39 : decode cX4_convicts 39 = .ok (.iand, 1) := by decide +kernel
theorem dX4_convicts_40 : decode cX4_convicts 40 = .ok (.iconst 1, 1) := by decide +kernel
theorem dX4_convicts_41 : decode cX4_convicts 41 = .ok (.if_icmp .ne 10, 3) := by decide +kernel
theorem dX4_convicts_44 : decode cX4_convicts 44 = .ok (.aload_n 0, 1) := by decide +kernel
theorem dX4_convicts_45 : decode cX4_convicts 45 = .ok (.ldc 139, 2) := by decide +kernel
theorem dX4_convicts_47 : decode cX4_convicts 47 = .ok (.invokevirtual 68, 3) := by decide +kernel
theorem dX4_convicts_50 : decode cX4_convicts 50 = .ok (.ireturn, 1) := by decide +kernel
theorem dX4_convicts_51 : decode cX4_convicts 51 = .ok (.iload_n 1, 1) := by decide +kernel
theorem dX4_convicts_52 : decode cX4_convicts 52 = .ok (.aload_n 0, 1) := by decide +kernel
theorem dX4_convicts_53 : decode cX4_convicts 53 = .ok (.iload_n 2, 1) := by decide +kernel
theorem dX4_convicts_54 : decode cX4_convicts 54 = .ok (.invokevirtual 133, 3) := by decide +kernel
theorem dX4_convicts_57 : decode cX4_convicts 57 = .ok (.invokestatic 140, 3) := by decide +kernel
theorem dX4_convicts_60 : decode cX4_convicts 60 = .ok (.ifCond .eq 7, 3) := by decide +kernel
theorem dX4_convicts_63 : decode cX4_convicts 63 = .ok (.iconst 1, 1) := by decide +kernel
theorem dX4_convicts_64 : decode cX4_convicts 64 = .ok (.goto 4, 3) := by decide +kernel
theorem dX4_convicts_67 : decode cX4_convicts 67 = .ok (.iconst 0, 1) := by decide +kernel
theorem dX4_convicts_68 : decode cX4_convicts 68 = .ok (.ireturn, 1) := by decide +kernel
theorem dX4_greatestBy_0 : decode cX4_greatestBy 0 = .ok (.iconst 0, 1) := by decide +kernel
theorem dX4_greatestBy_1 : decode cX4_greatestBy 1 = .ok (.istore_n 3, 1) := by decide +kernel
theorem dX4_greatestBy_2 : decode cX4_greatestBy 2 = .ok (.iconst 0, 1) := by decide +kernel
theorem dX4_greatestBy_3 : decode cX4_greatestBy 3 = .ok (.istore 4, 2) := by decide +kernel
theorem dX4_greatestBy_5 : decode cX4_greatestBy 5 = .ok (.iload 4, 2) := by decide +kernel
theorem dX4_greatestBy_7 : decode cX4_greatestBy 7 = .ok (.aload_n 0, 1) := by decide +kernel
theorem dX4_greatestBy_8 : decode cX4_greatestBy 8 = .ok (.getfield 7, 3) := by decide +kernel
theorem dX4_greatestBy_11 : decode cX4_greatestBy 11 = .ok (.iconst 0, 1) := by decide +kernel
theorem dX4_greatestBy_12 : decode cX4_greatestBy 12 = .ok (.iaload, 1) := by decide +kernel
theorem dX4_greatestBy_13 : decode cX4_greatestBy 13 = .ok (.if_icmp .ge 70, 3) := by decide +kernel
theorem dX4_greatestBy_16 : decode cX4_greatestBy 16 = .ok (.iload 4, 2) := by decide +kernel
theorem dX4_greatestBy_18 : decode cX4_greatestBy 18 = .ok (.iload_n 1, 1) := by decide +kernel
theorem dX4_greatestBy_19 : decode cX4_greatestBy 19 = .ok (.if_icmp .eq 36, 3) := by decide +kernel
theorem dX4_greatestBy_22 : decode cX4_greatestBy 22 = .ok (.aload_n 0, 1) := by decide +kernel
theorem dX4_greatestBy_23 : decode cX4_greatestBy 23 = .ok (.iload 4, 2) := by decide +kernel
theorem dX4_greatestBy_25 : decode cX4_greatestBy 25 = .ok (.iconst 1, 1) := by decide +kernel
theorem dX4_greatestBy_26 : decode cX4_greatestBy 26 = .ok (.invokevirtual 82, 3) := by decide +kernel
theorem dX4_greatestBy_29 : decode cX4_greatestBy 29 = .ok (.aload_n 0, 1) := by decide +kernel
theorem dX4_greatestBy_30 : decode cX4_greatestBy 30 = .ok (.iload_n 1, 1) := by decide +kernel
theorem dX4_greatestBy_31 : decode cX4_greatestBy 31 = .ok (.iconst 1, 1) := by decide +kernel
theorem dX4_greatestBy_32 : decode cX4_greatestBy 32 = .ok (.invokevirtual 82, 3) := by decide +kernel
theorem dX4_greatestBy_35 : decode cX4_greatestBy 35 = .ok (.if_icmp .ne 20, 3) := by decide +kernel
theorem dX4_greatestBy_38 : decode cX4_greatestBy 38 = .ok (.aload_n 0, 1) := by decide +kernel
theorem dX4_greatestBy_39 : decode cX4_greatestBy 39 = .ok (.iload 4, 2) := by decide +kernel
theorem dX4_greatestBy_41 : decode cX4_greatestBy 41 = .ok (.iconst 4, 1) := by decide +kernel
theorem dX4_greatestBy_42 : decode cX4_greatestBy 42 = .ok (.iload_n 2, 1) := by decide +kernel
theorem dX4_greatestBy_43 : decode cX4_greatestBy 43 = .ok (.iadd, 1) := by decide +kernel
theorem dX4_greatestBy_44 : decode cX4_greatestBy 44 = .ok (.invokevirtual 82, 3) := by decide +kernel
theorem dX4_greatestBy_47 : decode cX4_greatestBy 47 = .ok (.iload_n 3, 1) := by decide +kernel
theorem dX4_greatestBy_48 : decode cX4_greatestBy 48 = .ok (.if_icmp .le 7, 3) := by decide +kernel
theorem dX4_greatestBy_51 : decode cX4_greatestBy 51 = .ok (.iconst 1, 1) := by decide +kernel
theorem dX4_greatestBy_52 : decode cX4_greatestBy 52 = .ok (.goto 4, 3) := by decide +kernel
theorem dX4_greatestBy_55 : decode cX4_greatestBy 55 = .ok (.iconst 0, 1) := by decide +kernel
theorem dX4_greatestBy_56 : decode cX4_greatestBy 56 = .ok (.istore 5, 2) := by decide +kernel
theorem dX4_greatestBy_58 : decode cX4_greatestBy 58 = .ok (.iload 5, 2) := by decide +kernel
theorem dX4_greatestBy_60 : decode cX4_greatestBy 60 = .ok (.ifCond .eq 15, 3) := by decide +kernel
theorem dX4_greatestBy_63 : decode cX4_greatestBy 63 = .ok (.aload_n 0, 1) := by decide +kernel
theorem dX4_greatestBy_64 : decode cX4_greatestBy 64 = .ok (.iload 4, 2) := by decide +kernel
theorem dX4_greatestBy_66 : decode cX4_greatestBy 66 = .ok (.iconst 4, 1) := by decide +kernel
theorem dX4_greatestBy_67 : decode cX4_greatestBy 67 = .ok (.iload_n 2, 1) := by decide +kernel
theorem dX4_greatestBy_68 : decode cX4_greatestBy 68 = .ok (.iadd, 1) := by decide +kernel
theorem dX4_greatestBy_69 : decode cX4_greatestBy 69 = .ok (.invokevirtual 82, 3) := by decide +kernel
theorem dX4_greatestBy_72 : decode cX4_greatestBy 72 = .ok (.goto 4, 3) := by decide +kernel
theorem dX4_greatestBy_75 : decode cX4_greatestBy 75 = .ok (.iload_n 3, 1) := by decide +kernel
theorem dX4_greatestBy_76 : decode cX4_greatestBy 76 = .ok (.istore_n 3, 1) := by decide +kernel
theorem dX4_greatestBy_77 : decode cX4_greatestBy 77 = .ok (.iinc 4 1, 3) := by decide +kernel
theorem dX4_greatestBy_80 : decode cX4_greatestBy 80 = .ok (.goto (-75), 3) := by decide +kernel
theorem dX4_greatestBy_83 : decode cX4_greatestBy 83 = .ok (.iload_n 3, 1) := by decide +kernel
theorem dX4_greatestBy_84 : decode cX4_greatestBy 84 = .ok (.ireturn, 1) := by decide +kernel
theorem dX4_leftOf_0 : decode cX4_leftOf 0 = .ok (.aload_n 0, 1) := by decide +kernel
theorem dX4_leftOf_1 : decode cX4_leftOf 1 = .ok (.iload_n 1, 1) := by decide +kernel
theorem dX4_leftOf_2 : decode cX4_leftOf 2 = .ok (.iconst 4, 1) := by decide +kernel
theorem dX4_leftOf_3 : decode cX4_leftOf 3 = .ok (.iload_n 2, 1) := by decide +kernel
theorem dX4_leftOf_4 : decode cX4_leftOf 4 = .ok (.iadd, 1) := by decide +kernel
theorem dX4_leftOf_5 : decode cX4_leftOf 5 = .ok (.invokevirtual 82, 3) := by decide +kernel
theorem dX4_leftOf_8 : decode cX4_leftOf 8 = .ok (.istore_n 3, 1) := by decide +kernel
theorem dX4_leftOf_9 : decode cX4_leftOf 9 = .ok (.iload_n 2, 1) := by decide +kernel
theorem dX4_leftOf_10 : decode cX4_leftOf 10 = .ok (.iconst 5, 1) := by decide +kernel
theorem dX4_leftOf_11 : decode cX4_leftOf 11 = .ok (.if_icmp .ne 11, 3) := by decide +kernel
theorem dX4_leftOf_14 : decode cX4_leftOf 14 = .ok (.iload_n 3, 1) := by decide +kernel
theorem dX4_leftOf_15 : decode cX4_leftOf 15 = .ok (.iload_n 3, 1) := by decide +kernel
theorem dX4_leftOf_16 : decode cX4_leftOf 16 = .ok (.iconst 2, 1) := by decide +kernel
theorem dX4_leftOf_17 : decode cX4_leftOf 17 = .ok (.idiv, 1) := by decide +kernel
theorem dX4_leftOf_18 : decode cX4_leftOf 18 = .ok (.isub, 1) := by decide +kernel
theorem dX4_leftOf_19 : decode cX4_leftOf 19 = .ok (.goto 11, 3) := by decide +kernel
theorem dX4_leftOf_22 : decode cX4_leftOf 22 = .ok (.iload_n 3, 1) := by decide +kernel
theorem dX4_leftOf_23 : decode cX4_leftOf 23 = .ok (.iload_n 3, 1) := by decide +kernel
theorem dX4_leftOf_24 : decode cX4_leftOf 24 = .ok (.bipush 10, 2) := by decide +kernel
theorem dX4_leftOf_26 : decode cX4_leftOf 26 = .ok (.idiv, 1) := by decide +kernel
theorem dX4_leftOf_27 : decode cX4_leftOf 27 = .ok (.isub, 1) := by decide +kernel
theorem dX4_leftOf_28 : decode cX4_leftOf 28 = .ok (.iconst 1, 1) := by decide +kernel
theorem dX4_leftOf_29 : decode cX4_leftOf 29 = .ok (.isub, 1) := by decide +kernel
theorem dX4_leftOf_30 : decode cX4_leftOf 30 = .ok (.istore 4, 2) := by decide +kernel
theorem dX4_leftOf_32 : decode cX4_leftOf 32 = .ok (.iload 4, 2) := by decide +kernel
theorem dX4_leftOf_34 : decode cX4_leftOf 34 = .ok (.ifCond .ge 7, 3) := by decide +kernel
theorem dX4_leftOf_37 : decode cX4_leftOf 37 = .ok (.iconst 0, 1) := by decide +kernel
theorem dX4_leftOf_38 : decode cX4_leftOf 38 = .ok (.goto 5, 3) := by decide +kernel
theorem dX4_leftOf_41 : decode cX4_leftOf 41 = .ok (.iload 4, 2) := by decide +kernel
theorem dX4_leftOf_43 : decode cX4_leftOf 43 = .ok (.ireturn, 1) := by decide +kernel
theorem dX4_hour_0 : decode cX4_hour 0 = .ok (.iconst 0, 1) := by decide +kernel
theorem dX4_hour_1 : decode cX4_hour 1 = .ok (.istore_n 1, 1) := by decide +kernel
theorem dX4_hour_2 : decode cX4_hour 2 = .ok (.iload_n 1, 1) := by decide +kernel
theorem dX4_hour_3 : decode cX4_hour 3 = .ok (.bipush 6, 2) := by decide +kernel
theorem dX4_hour_5 : decode cX4_hour 5 = .ok (.aload_n 0, 1) := by decide +kernel
theorem dX4_hour_6 : decode cX4_hour 6 = .ok (.getfield 7, 3) := by decide +kernel
theorem dX4_hour_9 : decode cX4_hour 9 = .ok (.iconst 0, 1) := by decide +kernel
theorem dX4_hour_10 : decode cX4_hour 10 = .ok (.iaload, 1) := by decide +kernel
theorem dX4_hour_11 : decode cX4_hour 11 = .ok (.imul, 1) := by decide +kernel
theorem dX4_hour_12 : decode cX4_hour 12 = .ok (.if_icmp .ge 53, 3) := by decide +kernel
theorem dX4_hour_15 : decode cX4_hour 15 = .ok (.aload_n 0, 1) := by decide +kernel
theorem dX4_hour_16 : decode cX4_hour 16 = .ok (.iload_n 1, 1) := by decide +kernel
theorem dX4_hour_17 : decode cX4_hour 17 = .ok (.bipush 6, 2) := by decide +kernel
theorem dX4_hour_19 : decode cX4_hour 19 = .ok (.idiv, 1) := by decide +kernel
theorem dX4_hour_20 : decode cX4_hour 20 = .ok (.iload_n 1, 1) := by decide +kernel
theorem dX4_hour_21 : decode cX4_hour 21 = .ok (.bipush 6, 2) := by decide +kernel
theorem dX4_hour_23 : decode cX4_hour 23 = .ok (.irem, 1) := by decide +kernel
theorem dX4_hour_24 : decode cX4_hour 24 = .ok (.invokevirtual 143, 3) := by decide +kernel
theorem dX4_hour_27 : decode cX4_hour 27 = .ok (.istore_n 2, 1) := by decide +kernel
theorem dX4_hour_28 : decode cX4_hour 28 = .ok (.aload_n 0, 1) := by decide +kernel
theorem dX4_hour_29 : decode cX4_hour 29 = .ok (.iload_n 1, 1) := by decide +kernel
theorem dX4_hour_30 : decode cX4_hour 30 = .ok (.bipush 6, 2) := by decide +kernel
theorem dX4_hour_32 : decode cX4_hour 32 = .ok (.idiv, 1) := by decide +kernel
theorem dX4_hour_33 : decode cX4_hour 33 = .ok (.iload_n 1, 1) := by decide +kernel
theorem dX4_hour_34 : decode cX4_hour 34 = .ok (.bipush 6, 2) := by decide +kernel
theorem dX4_hour_36 : decode cX4_hour 36 = .ok (.irem, 1) := by decide +kernel
theorem dX4_hour_37 : decode cX4_hour 37 = .ok (.invokevirtual 146, 3) := by decide +kernel
theorem dX4_hour_40 : decode cX4_hour 40 = .ok (.iconst 4, 1) := by decide +kernel
theorem dX4_hour_41 : decode cX4_hour 41 = .ok (.idiv, 1) := by decide +kernel
theorem dX4_hour_42 : decode cX4_hour 42 = .ok (.istore_n 3, 1) := by decide +kernel
theorem dX4_hour_43 : decode cX4_hour 43 = .ok (.aload_n 0, 1) := by decide +kernel
theorem dX4_hour_44 : decode cX4_hour 44 = .ok (.getfield 25, 3) := by decide +kernel
theorem dX4_hour_47 : decode cX4_hour 47 = .ok (.iload_n 1, 1) := by decide +kernel
theorem dX4_hour_48 : decode cX4_hour 48 = .ok (.iload_n 3, 1) := by decide +kernel
theorem dX4_hour_49 : decode cX4_hour 49 = .ok (.iload_n 2, 1) := by decide +kernel
theorem dX4_hour_50 : decode cX4_hour 50 = .ok (.if_icmp .le 7, 3) := by decide +kernel
theorem dX4_hour_53 : decode cX4_hour 53 = .ok (.iload_n 3, 1) := by decide +kernel
theorem dX4_hour_54 : decode cX4_hour 54 = .ok (.goto 4, 3) := by decide +kernel
theorem dX4_hour_57 : decode cX4_hour 57 = .ok (.iload_n 2, 1) := by decide +kernel
theorem dX4_hour_58 : decode cX4_hour 58 = .ok (.iastore, 1) := by decide +kernel
theorem dX4_hour_59 : decode cX4_hour 59 = .ok (.iinc 1 1, 3) := by decide +kernel
theorem dX4_hour_62 : decode cX4_hour 62 = .ok (.goto (-60), 3) := by decide +kernel
theorem dX4_hour_65 : decode cX4_hour 65 = .ok (.iconst 0, 1) := by decide +kernel
theorem dX4_hour_66 : decode cX4_hour 66 = .ok (.istore_n 1, 1) := by decide +kernel
theorem dX4_hour_67 : decode cX4_hour 67 = .ok (.iload_n 1, 1) := by decide +kernel
theorem dX4_hour_68 : decode cX4_hour 68 = .ok (.bipush 6, 2) := by decide +kernel
theorem dX4_hour_70 : decode cX4_hour 70 = .ok (.aload_n 0, 1) := by decide +kernel
theorem dX4_hour_71 : decode cX4_hour 71 = .ok (.getfield 7, 3) := by decide +kernel
theorem dX4_hour_74 : decode cX4_hour 74 = .ok (.iconst 0, 1) := by decide +kernel
theorem dX4_hour_75 : decode cX4_hour 75 = .ok (.iaload, 1) := by decide +kernel
theorem dX4_hour_76 : decode cX4_hour 76 = .ok (.imul, 1) := by decide +kernel
theorem dX4_hour_77 : decode cX4_hour 77 = .ok (.if_icmp .ge 33, 3) := by decide +kernel
theorem dX4_hour_80 : decode cX4_hour 80 = .ok (.aload_n 0, 1) := by decide +kernel
theorem dX4_hour_81 : decode cX4_hour 81 = .ok (.getfield 7, 3) := by decide +kernel
theorem dX4_hour_84 : decode cX4_hour 84 = .ok (.iload_n 1, 1) := by decide +kernel
theorem dX4_hour_85 : decode cX4_hour 85 = .ok (.bipush 6, 2) := by decide +kernel
theorem dX4_hour_87 : decode cX4_hour 87 = .ok (.idiv, 1) := by decide +kernel
theorem dX4_hour_88 : decode cX4_hour 88 = .ok (.iconst 4, 1) := by decide +kernel
theorem dX4_hour_89 : decode cX4_hour 89 = .ok (.iload_n 1, 1) := by decide +kernel
theorem dX4_hour_90 : decode cX4_hour 90 = .ok (.bipush 6, 2) := by decide +kernel
theorem dX4_hour_92 : decode cX4_hour 92 = .ok (.irem, 1) := by decide +kernel
theorem dX4_hour_93 : decode cX4_hour 93 = .ok (.iadd, 1) := by decide +kernel
theorem dX4_hour_94 : decode cX4_hour 94 = .ok (.invokestatic 57, 3) := by decide +kernel
theorem dX4_hour_97 : decode cX4_hour 97 = .ok (.aload_n 0, 1) := by decide +kernel
theorem dX4_hour_98 : decode cX4_hour 98 = .ok (.getfield 25, 3) := by decide +kernel
theorem dX4_hour_101 : decode cX4_hour 101 = .ok (.iload_n 1, 1) := by decide +kernel
theorem dX4_hour_102 : decode cX4_hour 102 = .ok (.iaload, 1) := by decide +kernel
theorem dX4_hour_103 : decode cX4_hour 103 = .ok (.iastore, 1) := by decide +kernel
theorem dX4_hour_104 : decode cX4_hour 104 = .ok (.iinc 1 1, 3) := by decide +kernel
theorem dX4_hour_107 : decode cX4_hour 107 = .ok (.goto (-40), 3) := by decide +kernel
theorem dX4_hour_110 : decode cX4_hour 110 = .ok (.aload_n 0, 1) := by decide +kernel
theorem dX4_hour_111 : decode cX4_hour 111 = .ok (.getfield 7, 3) := by decide +kernel
theorem dX4_hour_114 : decode cX4_hour 114 = .ok (.iconst 1, 1) := by decide +kernel
theorem dX4_hour_115 : decode cX4_hour 115 = .ok (.dup2, 1) := by decide +kernel
theorem dX4_hour_116 : decode cX4_hour 116 = .ok (.iaload, 1) := by decide +kernel
theorem dX4_hour_117 : decode cX4_hour 117 = .ok (.iconst 1, 1) := by decide +kernel
theorem dX4_hour_118 : decode cX4_hour 118 = .ok (.iadd, 1) := by decide +kernel
theorem dX4_hour_119 : decode cX4_hour 119 = .ok (.iastore, 1) := by decide +kernel
theorem dX4_hour_120 : decode cX4_hour 120 = .ok (.return_, 1) := by decide +kernel
theorem dX4_goesOn_0 : decode cX4_goesOn 0 = .ok (.iconst 0, 1) := by decide +kernel
theorem dX4_goesOn_1 : decode cX4_goesOn 1 = .ok (.istore_n 2, 1) := by decide +kernel
theorem dX4_goesOn_2 : decode cX4_goesOn 2 = .ok (.iload_n 2, 1) := by decide +kernel
theorem dX4_goesOn_3 : decode cX4_goesOn 3 = .ok (.iload_n 1, 1) := by decide +kernel
theorem dX4_goesOn_4 : decode cX4_goesOn 4 = .ok (.if_icmp .ge 13, 3) := by decide +kernel
theorem dX4_goesOn_7 : decode cX4_goesOn 7 = .ok (.aload_n 0, 1) := by decide +kernel
theorem dX4_goesOn_8 : decode cX4_goesOn 8 = .ok (.invokevirtual 149, 3) := by decide +kernel
theorem dX4_goesOn_11 : decode cX4_goesOn 11 = .ok (.iinc 2 1, 3) := by decide +kernel
theorem dX4_goesOn_14 : decode cX4_goesOn 14 = .ok (.goto (-12), 3) := by decide +kernel
theorem dX4_goesOn_17 : decode cX4_goesOn 17 = .ok (.return_, 1) := by decide +kernel
theorem dX4_scentsAll_0 : decode cX4_scentsAll 0 = .ok (.iconst 0, 1) := by decide +kernel
theorem dX4_scentsAll_1 : decode cX4_scentsAll 1 = .ok (.istore_n 1, 1) := by decide +kernel
theorem dX4_scentsAll_2 : decode cX4_scentsAll 2 = .ok (.iconst 0, 1) := by decide +kernel
theorem dX4_scentsAll_3 : decode cX4_scentsAll 3 = .ok (.istore_n 2, 1) := by decide +kernel
theorem dX4_scentsAll_4 : decode cX4_scentsAll 4 = .ok (.iload_n 2, 1) := by decide +kernel
theorem dX4_scentsAll_5 : decode cX4_scentsAll 5 = .ok (.aload_n 0, 1) := by decide +kernel
theorem dX4_scentsAll_6 : decode cX4_scentsAll 6 = .ok (.getfield 7, 3) := by decide +kernel
theorem dX4_scentsAll_9 : decode cX4_scentsAll 9 = .ok (.iconst 0, 1) := by decide +kernel
theorem dX4_scentsAll_10 : decode cX4_scentsAll 10 = .ok (.iaload, 1) := by decide +kernel
theorem dX4_scentsAll_11 : decode cX4_scentsAll 11 = .ok (.if_icmp .ge 17, 3) := by decide +kernel
theorem dX4_scentsAll_14 : decode cX4_scentsAll 14 = .ok (.iload_n 1, 1) := by decide +kernel
theorem dX4_scentsAll_15 : decode cX4_scentsAll 15 = .ok (.aload_n 0, 1) := by decide +kernel
theorem dX4_scentsAll_16 : decode cX4_scentsAll 16 = .ok (.iload_n 2, 1) := by decide +kernel
theorem dX4_scentsAll_17 : decode cX4_scentsAll 17 = .ok (.invokevirtual 88, 3) := by decide +kernel
theorem dX4_scentsAll_20 : decode cX4_scentsAll 20 = .ok (.iadd, 1) := by decide +kernel
theorem dX4_scentsAll_21 : decode cX4_scentsAll 21 = .ok (.istore_n 1, 1) := by decide +kernel
theorem dX4_scentsAll_22 : decode cX4_scentsAll 22 = .ok (.iinc 2 1, 3) := by decide +kernel
theorem dX4_scentsAll_25 : decode cX4_scentsAll 25 = .ok (.goto (-21), 3) := by decide +kernel
theorem dX4_scentsAll_28 : decode cX4_scentsAll 28 = .ok (.iload_n 1, 1) := by decide +kernel
theorem dX4_scentsAll_29 : decode cX4_scentsAll 29 = .ok (.ireturn, 1) := by decide +kernel
theorem dX4_hours_0 : decode cX4_hours 0 = .ok (.iload_n 1, 1) := by decide +kernel
theorem dX4_hours_1 : decode cX4_hours 1 = .ok (.i2l, 1) := by decide +kernel
theorem dX4_hours_2 : decode cX4_hours 2 = .ok (.lconst 1, 1) := by decide +kernel
theorem dX4_hours_3 : decode cX4_hours 3 = .ok (.ldc2_w 152, 3) := by decide +kernel
theorem dX4_hours_6 : decode cX4_hours 6 = .ok (.invokestatic 47, 3) := by decide +kernel
theorem dX4_hours_9 : decode cX4_hours 9 = .ok (.ifCond .ne 10, 3) := by decide +kernel
theorem dX4_hours_12 : decode cX4_hours 12 = .ok (.aload_n 0, 1) := by decide +kernel
theorem dX4_hours_13 : decode cX4_hours 13 = .ok (.ldc 44, 2) := by decide +kernel
theorem dX4_hours_15 : decode cX4_hours 15 = .ok (.invokevirtual 68, 3) := by decide +kernel
theorem dX4_hours_18 : decode cX4_hours 18 = .ok (.ireturn, 1) := by decide +kernel
theorem dX4_hours_19 : decode cX4_hours 19 = .ok (.aload_n 0, 1) := by decide +kernel
theorem dX4_hours_20 : decode cX4_hours 20 = .ok (.getfield 7, 3) := by decide +kernel
theorem dX4_hours_23 : decode cX4_hours 23 = .ok (.iconst 1, 1) := by decide +kernel
theorem dX4_hours_24 : decode cX4_hours 24 = .ok (.iaload, 1) := by decide +kernel
theorem dX4_hours_25 : decode cX4_hours 25 = .ok (.iload_n 1, 1) := by decide +kernel
theorem dX4_hours_26 : decode cX4_hours 26 = .ok (.iadd, 1) := by decide +kernel
theorem dX4_hours_27 : decode cX4_hours 27 = .ok (.sipush 9999, 3) := by decide +kernel
theorem dX4_hours_30 : decode cX4_hours 30 = .ok (.if_icmp .le 10, 3) := by decide +kernel
theorem dX4_hours_33 : decode cX4_hours 33 = .ok (.aload_n 0, 1) := by decide +kernel
theorem dX4_hours_34 : decode cX4_hours 34 = .ok (.ldc 139, 2) := by decide +kernel
theorem dX4_hours_36 : decode cX4_hours 36 = .ok (.invokevirtual 68, 3) := by decide +kernel
theorem dX4_hours_39 : decode cX4_hours 39 = .ok (.ireturn, 1) := by decide +kernel
theorem dX4_hours_40 : decode cX4_hours 40 = .ok (.aload_n 0, 1) := by decide +kernel
theorem dX4_hours_41 : decode cX4_hours 41 = .ok (.iload_n 1, 1) := by decide +kernel
theorem dX4_hours_42 : decode cX4_hours 42 = .ok (.invokevirtual 154, 3) := by decide +kernel
theorem dX4_hours_45 : decode cX4_hours 45 = .ok (.aload_n 0, 1) := by decide +kernel
theorem dX4_hours_46 : decode cX4_hours 46 = .ok (.invokevirtual 158, 3) := by decide +kernel
theorem dX4_hours_49 : decode cX4_hours 49 = .ok (.ireturn, 1) := by decide +kernel
theorem dX4_allGuilty_0 : decode cX4_allGuilty 0 = .ok (.iconst 0, 1) := by decide +kernel
theorem dX4_allGuilty_1 : decode cX4_allGuilty 1 = .ok (.istore_n 1, 1) := by decide +kernel
theorem dX4_allGuilty_2 : decode cX4_allGuilty 2 = .ok (.iconst 0, 1) := by decide +kernel
theorem dX4_allGuilty_3 : decode cX4_allGuilty 3 = .ok (.istore_n 2, 1) := by decide +kernel
theorem dX4_allGuilty_4 : decode cX4_allGuilty 4 = .ok (.iload_n 2, 1) := by decide +kernel
theorem dX4_allGuilty_5 : decode cX4_allGuilty 5 = .ok (.aload_n 0, 1) := by decide +kernel
theorem dX4_allGuilty_6 : decode cX4_allGuilty 6 = .ok (.getfield 7, 3) := by decide +kernel
theorem dX4_allGuilty_9 : decode cX4_allGuilty 9 = .ok (.iconst 0, 1) := by decide +kernel
theorem dX4_allGuilty_10 : decode cX4_allGuilty 10 = .ok (.iaload, 1) := by decide +kernel
theorem dX4_allGuilty_11 : decode cX4_allGuilty 11 = .ok (.if_icmp .ge 27, 3) := by decide +kernel
theorem dX4_allGuilty_14 : decode cX4_allGuilty 14 = .ok (.iload_n 1, 1) := by decide +kernel
theorem dX4_allGuilty_15 : decode cX4_allGuilty 15 = .ok (.aload_n 0, 1) := by decide +kernel
theorem dX4_allGuilty_16 : decode cX4_allGuilty 16 = .ok (.iload_n 2, 1) := by decide +kernel
theorem dX4_allGuilty_17 : decode cX4_allGuilty 17 = .ok (.invokevirtual 133, 3) := by decide +kernel
theorem dX4_allGuilty_20 : decode cX4_allGuilty 20 = .ok (.ifCond .eq 9, 3) := by decide +kernel
theorem dX4_allGuilty_23 : decode cX4_allGuilty 23 = .ok (.iconst 1, 1) := by decide +kernel
theorem dX4_allGuilty_24 : decode cX4_allGuilty 24 = .ok (.iload_n 2, 1) := by decide +kernel
theorem dX4_allGuilty_25 : decode cX4_allGuilty 25 = .ok (.ishl, 1) := by decide +kernel
theorem dX4_allGuilty_26 : decode cX4_allGuilty 26 = .ok (.goto 4, 3) := by decide +kernel
theorem dX4_allGuilty_29 : decode cX4_allGuilty 29 = .ok (.iconst 0, 1) := by decide +kernel
theorem dX4_allGuilty_30 : decode cX4_allGuilty 30 = .ok (.ior, 1) := by decide +kernel
theorem dX4_allGuilty_31 : decode cX4_allGuilty 31 = .ok (.istore_n 1, 1) := by decide +kernel
theorem dX4_allGuilty_32 : decode cX4_allGuilty 32 = .ok (.iinc 2 1, 3) := by decide +kernel
theorem dX4_allGuilty_35 : decode cX4_allGuilty 35 = .ok (.goto (-31), 3) := by decide +kernel
theorem dX4_allGuilty_38 : decode cX4_allGuilty 38 = .ok (.iload_n 1, 1) := by decide +kernel
theorem dX4_allGuilty_39 : decode cX4_allGuilty 39 = .ok (.ireturn, 1) := by decide +kernel
theorem dX4_now_0 : decode cX4_now 0 = .ok (.iload_n 1, 1) := by decide +kernel
theorem dX4_now_1 : decode cX4_now 1 = .ok (.tableswitch 66 0 4 #[35, 42, 49, 56, 61], 35) := by decide +kernel
theorem dX4_now_36 : decode cX4_now 36 = .ok (.aload_n 0, 1) := by decide +kernel
theorem dX4_now_37 : decode cX4_now 37 = .ok (.getfield 7, 3) := by decide +kernel
theorem dX4_now_40 : decode cX4_now 40 = .ok (.iconst 1, 1) := by decide +kernel
theorem dX4_now_41 : decode cX4_now 41 = .ok (.iaload, 1) := by decide +kernel
theorem dX4_now_42 : decode cX4_now 42 = .ok (.ireturn, 1) := by decide +kernel
theorem dX4_now_43 : decode cX4_now 43 = .ok (.aload_n 0, 1) := by decide +kernel
theorem dX4_now_44 : decode cX4_now 44 = .ok (.getfield 7, 3) := by decide +kernel
theorem dX4_now_47 : decode cX4_now 47 = .ok (.iconst 2, 1) := by decide +kernel
theorem dX4_now_48 : decode cX4_now 48 = .ok (.iaload, 1) := by decide +kernel
theorem dX4_now_49 : decode cX4_now 49 = .ok (.ireturn, 1) := by decide +kernel
theorem dX4_now_50 : decode cX4_now 50 = .ok (.aload_n 0, 1) := by decide +kernel
theorem dX4_now_51 : decode cX4_now 51 = .ok (.getfield 7, 3) := by decide +kernel
theorem dX4_now_54 : decode cX4_now 54 = .ok (.iconst 3, 1) := by decide +kernel
theorem dX4_now_55 : decode cX4_now 55 = .ok (.iaload, 1) := by decide +kernel
theorem dX4_now_56 : decode cX4_now 56 = .ok (.ireturn, 1) := by decide +kernel
theorem dX4_now_57 : decode cX4_now 57 = .ok (.aload_n 0, 1) := by decide +kernel
theorem dX4_now_58 : decode cX4_now 58 = .ok (.invokevirtual 158, 3) := by decide +kernel
theorem dX4_now_61 : decode cX4_now 61 = .ok (.ireturn, 1) := by decide +kernel
theorem dX4_now_62 : decode cX4_now 62 = .ok (.aload_n 0, 1) := by decide +kernel
theorem dX4_now_63 : decode cX4_now 63 = .ok (.invokevirtual 162, 3) := by decide +kernel
theorem dX4_now_66 : decode cX4_now 66 = .ok (.ireturn, 1) := by decide +kernel
theorem dX4_now_67 : decode cX4_now 67 = .ok (.aload_n 0, 1) := by decide +kernel
theorem dX4_now_68 : decode cX4_now 68 = .ok (.ldc 44, 2) := by decide +kernel
theorem dX4_now_70 : decode cX4_now 70 = .ok (.invokevirtual 68, 3) := by decide +kernel
theorem dX4_now_73 : decode cX4_now 73 = .ok (.ireturn, 1) := by decide +kernel
theorem dX4_on_0 : decode cX4_on 0 = .ok (.aload_n 0, 1) := by decide +kernel
theorem dX4_on_1 : decode cX4_on 1 = .ok (.iload_n 1, 1) := by decide +kernel
theorem dX4_on_2 : decode cX4_on 2 = .ok (.invokevirtual 51, 3) := by decide +kernel
theorem dX4_on_5 : decode cX4_on 5 = .ok (.ifCond .eq 22, 3) := by decide +kernel
theorem dX4_on_8 : decode cX4_on 8 = .ok (.iload_n 2, 1) := by decide +kernel
theorem dX4_on_9 : decode cX4_on 9 = .ok (.invokestatic 96, 3) := by decide +kernel
theorem dX4_on_12 : decode cX4_on 12 = .ok (.ifCond .eq 15, 3) := by decide +kernel
theorem dX4_on_15 : decode cX4_on 15 = .ok (.iload_n 3, 1) := by decide +kernel
theorem dX4_on_16 : decode cX4_on 16 = .ok (.i2l, 1) := by decide +kernel
theorem dX4_on_17 : decode cX4_on 17 = .ok (.lconst 0, 1) := by decide +kernel
theorem dX4_on_18 : decode cX4_on 18 = .ok (.ldc2_w 152, 3) := by decide +kernel
theorem dX4_on_21 : decode cX4_on 21 = .ok (.invokestatic 47, 3) := by decide +kernel
theorem dX4_on_24 : decode cX4_on 24 = .ok (.ifCond .ne 10, 3) := by decide +kernel
theorem dX4_on_27 : decode cX4_on 27 = .ok (.aload_n 0, 1) := by decide +kernel
theorem dX4_on_28 : decode cX4_on 28 = .ok (.ldc 44, 2) := by decide +kernel
theorem dX4_on_30 : decode cX4_on 30 = .ok (.invokevirtual 68, 3) := by decide +kernel
theorem dX4_on_33 : decode cX4_on 33 = .ok (.ireturn, 1) := by decide +kernel
theorem dX4_on_34 : decode cX4_on 34 = .ok (.aload_n 0, 1) := by decide +kernel
theorem dX4_on_35 : decode cX4_on 35 = .ok (.invokevirtual 165, 3) := by decide +kernel
theorem dX4_on_38 : decode cX4_on 38 = .ok (.aload_n 0, 1) := by decide +kernel
theorem dX4_on_39 : decode cX4_on 39 = .ok (.iload_n 3, 1) := by decide +kernel
theorem dX4_on_40 : decode cX4_on 40 = .ok (.invokevirtual 154, 3) := by decide +kernel
theorem dX4_on_43 : decode cX4_on 43 = .ok (.aload_n 0, 1) := by decide +kernel
theorem dX4_on_44 : decode cX4_on 44 = .ok (.aload_n 0, 1) := by decide +kernel
theorem dX4_on_45 : decode cX4_on 45 = .ok (.iload_n 1, 1) := by decide +kernel
theorem dX4_on_46 : decode cX4_on 46 = .ok (.iconst 4, 1) := by decide +kernel
theorem dX4_on_47 : decode cX4_on 47 = .ok (.iload_n 2, 1) := by decide +kernel
theorem dX4_on_48 : decode cX4_on 48 = .ok (.iadd, 1) := by decide +kernel
theorem dX4_on_49 : decode cX4_on 49 = .ok (.invokevirtual 82, 3) := by decide +kernel
theorem dX4_on_52 : decode cX4_on 52 = .ok (.invokevirtual 168, 3) := by decide +kernel
theorem dX4_on_55 : decode cX4_on 55 = .ok (.ireturn, 1) := by decide +kernel
theorem dX4_clean_0 : decode cX4_clean 0 = .ok (.aload_n 0, 1) := by decide +kernel
theorem dX4_clean_1 : decode cX4_clean 1 = .ok (.iload_n 1, 1) := by decide +kernel
theorem dX4_clean_2 : decode cX4_clean 2 = .ok (.invokevirtual 51, 3) := by decide +kernel
theorem dX4_clean_5 : decode cX4_clean 5 = .ok (.ifCond .ne 10, 3) := by decide +kernel
theorem dX4_clean_8 : decode cX4_clean 8 = .ok (.aload_n 0, 1) := by decide +kernel
theorem dX4_clean_9 : decode cX4_clean 9 = .ok (.ldc 44, 2) := by decide +kernel
theorem dX4_clean_11 : decode cX4_clean 11 = .ok (.invokevirtual 68, 3) := by decide +kernel
theorem dX4_clean_14 : decode cX4_clean 14 = .ok (.ireturn, 1) := by decide +kernel
theorem dX4_clean_15 : decode cX4_clean 15 = .ok (.aload_n 0, 1) := by decide +kernel
theorem dX4_clean_16 : decode cX4_clean 16 = .ok (.invokevirtual 165, 3) := by decide +kernel
theorem dX4_clean_19 : decode cX4_clean 19 = .ok (.iconst 0, 1) := by decide +kernel
theorem dX4_clean_20 : decode cX4_clean 20 = .ok (.istore_n 2, 1) := by decide +kernel
theorem dX4_clean_21 : decode cX4_clean 21 = .ok (.iload_n 2, 1) := by decide +kernel
theorem dX4_clean_22 : decode cX4_clean 22 = .ok (.bipush 60, 2) := by decide +kernel
theorem dX4_clean_24 : decode cX4_clean 24 = .ok (.if_icmp .gt 21, 3) := by decide +kernel
theorem dX4_clean_27 : decode cX4_clean 27 = .ok (.aload_n 0, 1) := by decide +kernel
theorem dX4_clean_28 : decode cX4_clean 28 = .ok (.iload_n 1, 1) := by decide +kernel
theorem dX4_clean_29 : decode cX4_clean 29 = .ok (.invokevirtual 133, 3) := by decide +kernel
theorem dX4_clean_32 : decode cX4_clean 32 = .ok (.ifCond .eq 13, 3) := by decide +kernel
theorem dX4_clean_35 : decode cX4_clean 35 = .ok (.aload_n 0, 1) := by decide +kernel
theorem dX4_clean_36 : decode cX4_clean 36 = .ok (.invokevirtual 149, 3) := by decide +kernel
theorem dX4_clean_39 : decode cX4_clean 39 = .ok (.iinc 2 1, 3) := by decide +kernel
theorem dX4_clean_42 : decode cX4_clean 42 = .ok (.goto (-21), 3) := by decide +kernel
theorem dX4_clean_45 : decode cX4_clean 45 = .ok (.aload_n 0, 1) := by decide +kernel
theorem dX4_clean_46 : decode cX4_clean 46 = .ok (.iload_n 2, 1) := by decide +kernel
theorem dX4_clean_47 : decode cX4_clean 47 = .ok (.invokevirtual 168, 3) := by decide +kernel
theorem dX4_clean_50 : decode cX4_clean 50 = .ok (.istore_n 3, 1) := by decide +kernel
theorem dX4_clean_51 : decode cX4_clean 51 = .ok (.iload_n 3, 1) := by decide +kernel
theorem dX4_clean_52 : decode cX4_clean 52 = .ok (.bipush 60, 2) := by decide +kernel
theorem dX4_clean_54 : decode cX4_clean 54 = .ok (.if_icmp .le 12, 3) := by decide +kernel
theorem dX4_clean_57 : decode cX4_clean 57 = .ok (.aload_n 0, 1) := by decide +kernel
theorem dX4_clean_58 : decode cX4_clean 58 = .ok (.ldc 129, 2) := by decide +kernel
theorem dX4_clean_60 : decode cX4_clean 60 = .ok (.invokevirtual 68, 3) := by decide +kernel
theorem dX4_clean_63 : decode cX4_clean 63 = .ok (.goto 4, 3) := by decide +kernel
theorem dX4_clean_66 : decode cX4_clean 66 = .ok (.iload_n 3, 1) := by decide +kernel
theorem dX4_clean_67 : decode cX4_clean 67 = .ok (.ireturn, 1) := by decide +kernel
theorem dX4_leastBy_0 : decode cX4_leastBy 0 = .ok (.aload_n 0, 1) := by decide +kernel
theorem dX4_leastBy_1 : decode cX4_leastBy 1 = .ok (.getfield 7, 3) := by decide +kernel
theorem dX4_leastBy_4 : decode cX4_leastBy 4 = .ok (.iload_n 1, 1) := by decide +kernel
theorem dX4_leastBy_5 : decode cX4_leastBy 5 = .ok (.iaload, 1) := by decide +kernel
theorem dX4_leastBy_6 : decode cX4_leastBy 6 = .ok (.istore 4, 2) := by decide +kernel
theorem dX4_leastBy_8 : decode cX4_leastBy 8 = .ok (.iconst 0, 1) := by decide +kernel
theorem dX4_leastBy_9 : decode cX4_leastBy 9 = .ok (.istore 5, 2) := by decide +kernel
theorem dX4_leastBy_11 : decode cX4_leastBy 11 = .ok (.bipush 9, 2) := by decide +kernel
theorem dX4_leastBy_13 : decode cX4_leastBy 13 = .ok (.istore 6, 2) := by decide +kernel
theorem dX4_leastBy_15 : decode cX4_leastBy 15 = .ok (.iconst 0, 1) := by decide +kernel
theorem dX4_leastBy_16 : decode cX4_leastBy 16 = .ok (.istore 7, 2) := by decide +kernel
theorem dX4_leastBy_18 : decode cX4_leastBy 18 = .ok (.iload 7, 2) := by decide +kernel
theorem dX4_leastBy_20 : decode cX4_leastBy 20 = .ok (.iload_n 2, 1) := by decide +kernel
theorem dX4_leastBy_21 : decode cX4_leastBy 21 = .ok (.if_icmp .ge 56, 3) := by decide +kernel
theorem dX4_leastBy_24 : decode cX4_leastBy 24 = .ok (.aload_n 0, 1) := by decide +kernel
theorem dX4_leastBy_25 : decode cX4_leastBy 25 = .ok (.getfield 7, 3) := by decide +kernel
theorem dX4_leastBy_28 : decode cX4_leastBy 28 = .ok (.iload_n 1, 1) := by decide +kernel
theorem dX4_leastBy_29 : decode cX4_leastBy 29 = .ok (.iload 7, 2) := by decide +kernel
theorem dX4_leastBy_31 : decode cX4_leastBy 31 = .ok (.iastore, 1) := by decide +kernel
theorem dX4_leastBy_32 : decode cX4_leastBy 32 = .ok (.aload_n 0, 1) := by decide +kernel
theorem dX4_leastBy_33 : decode cX4_leastBy 33 = .ok (.iload_n 3, 1) := by decide +kernel
theorem dX4_leastBy_34 : decode cX4_leastBy 34 = .ok (.invokevirtual 171, 3) := by decide +kernel
theorem dX4_leastBy_37 : decode cX4_leastBy 37 = .ok (.istore 8, 2) := by decide +kernel
theorem dX4_leastBy_39 : decode cX4_leastBy 39 = .ok (.iload 8, 2) := by decide +kernel
theorem dX4_leastBy_41 : decode cX4_leastBy 41 = .ok (.iload 6, 2) := by decide +kernel
theorem dX4_leastBy_43 : decode cX4_leastBy 43 = .ok (.if_icmp .ge 8, 3) := by decide +kernel
theorem dX4_leastBy_46 : decode cX4_leastBy 46 = .ok (.iload 7, 2) := by decide +kernel
theorem dX4_leastBy_48 : decode cX4_leastBy 48 = .ok (.goto 5, 3) := by decide +kernel
theorem dX4_leastBy_51 : decode cX4_leastBy 51 = .ok (.iload 5, 2) := by decide +kernel
theorem dX4_leastBy_53 : decode cX4_leastBy 53 = .ok (.istore 5, 2) := by decide +kernel
theorem dX4_leastBy_55 : decode cX4_leastBy 55 = .ok (.iload 8, 2) := by decide +kernel
theorem dX4_leastBy_57 : decode cX4_leastBy 57 = .ok (.iload 6, 2) := by decide +kernel
theorem dX4_leastBy_59 : decode cX4_leastBy 59 = .ok (.if_icmp .ge 8, 3) := by decide +kernel
theorem dX4_leastBy_62 : decode cX4_leastBy 62 = .ok (.iload 8, 2) := by decide +kernel
theorem dX4_leastBy_64 : decode cX4_leastBy 64 = .ok (.goto 5, 3) := by decide +kernel
theorem dX4_leastBy_67 : decode cX4_leastBy 67 = .ok (.iload 6, 2) := by decide +kernel
theorem dX4_leastBy_69 : decode cX4_leastBy 69 = .ok (.istore 6, 2) := by decide +kernel
theorem dX4_leastBy_71 : decode cX4_leastBy 71 = .ok (.iinc 7 1, 3) := by decide +kernel
theorem dX4_leastBy_74 : decode cX4_leastBy 74 = .ok (.goto (-56), 3) := by decide +kernel
theorem dX4_leastBy_77 : decode cX4_leastBy 77 = .ok (.aload_n 0, 1) := by decide +kernel
theorem dX4_leastBy_78 : decode cX4_leastBy 78 = .ok (.getfield 7, 3) := by decide +kernel
theorem dX4_leastBy_81 : decode cX4_leastBy 81 = .ok (.iload_n 1, 1) := by decide +kernel
theorem dX4_leastBy_82 : decode cX4_leastBy 82 = .ok (.iload 4, 2) := by decide +kernel
theorem dX4_leastBy_84 : decode cX4_leastBy 84 = .ok (.iastore, 1) := by decide +kernel
theorem dX4_leastBy_85 : decode cX4_leastBy 85 = .ok (.iload 5, 2) := by decide +kernel
theorem dX4_leastBy_87 : decode cX4_leastBy 87 = .ok (.ireturn, 1) := by decide +kernel
theorem dX4_wind_0 : decode cX4_wind 0 = .ok (.aload_n 0, 1) := by decide +kernel
theorem dX4_wind_1 : decode cX4_wind 1 = .ok (.iload_n 1, 1) := by decide +kernel
theorem dX4_wind_2 : decode cX4_wind 2 = .ok (.invokevirtual 51, 3) := by decide +kernel
theorem dX4_wind_5 : decode cX4_wind 5 = .ok (.ifCond .eq 13, 3) := by decide +kernel
theorem dX4_wind_8 : decode cX4_wind 8 = .ok (.aload_n 0, 1) := by decide +kernel
theorem dX4_wind_9 : decode cX4_wind 9 = .ok (.iconst 2, 1) := by decide +kernel
theorem dX4_wind_10 : decode cX4_wind 10 = .ok (.iconst 5, 1) := by decide +kernel
theorem dX4_wind_11 : decode cX4_wind 11 = .ok (.iload_n 1, 1) := by decide +kernel
end
section
theorem dX4_wind_12 : decode cX4_wind 12 = .ok (.invokevirtual 174, 3) := by decide +kernel
theorem dX4_wind_15 : decode cX4_wind 15 = .ok (.goto 9, 3) := by decide +kernel
theorem dX4_wind_18 : decode cX4_wind 18 = .ok (.aload_n 0, 1) := by decide +kernel
theorem dX4_wind_19 : decode cX4_wind 19 = .ok (.ldc 44, 2) := by decide +kernel
theorem dX4_wind_21 : decode cX4_wind 21 = .ok (.invokevirtual 68, 3) := by decide +kernel
theorem dX4_wind_24 : decode cX4_wind 24 = .ok (.ireturn, 1) := by decide +kernel
theorem dX4_seat_0 : decode cX4_seat 0 = .ok (.aload_n 0, 1) := by decide +kernel
theorem dX4_seat_1 : decode cX4_seat 1 = .ok (.iload_n 1, 1) := by decide +kernel
theorem dX4_seat_2 : decode cX4_seat 2 = .ok (.invokevirtual 51, 3) := by decide +kernel
theorem dX4_seat_5 : decode cX4_seat 5 = .ok (.ifCond .eq 18, 3) := by decide +kernel
theorem dX4_seat_8 : decode cX4_seat 8 = .ok (.aload_n 0, 1) := by decide +kernel
theorem dX4_seat_9 : decode cX4_seat 9 = .ok (.iload_n 1, 1) := by decide +kernel
theorem dX4_seat_10 : decode cX4_seat 10 = .ok (.iconst 1, 1) := by decide +kernel
theorem dX4_seat_11 : decode cX4_seat 11 = .ok (.invokestatic 57, 3) := by decide +kernel
theorem dX4_seat_14 : decode cX4_seat 14 = .ok (.bipush 48, 2) := by decide +kernel
theorem dX4_seat_16 : decode cX4_seat 16 = .ok (.iload_n 1, 1) := by decide +kernel
theorem dX4_seat_17 : decode cX4_seat 17 = .ok (.invokevirtual 174, 3) := by decide +kernel
theorem dX4_seat_20 : decode cX4_seat 20 = .ok (.goto 9, 3) := by decide +kernel
theorem dX4_seat_23 : decode cX4_seat 23 = .ok (.aload_n 0, 1) := by decide +kernel
theorem dX4_seat_24 : decode cX4_seat 24 = .ok (.ldc 44, 2) := by decide +kernel
theorem dX4_seat_26 : decode cX4_seat 26 = .ok (.invokevirtual 68, 3) := by decide +kernel
theorem dX4_seat_29 : decode cX4_seat 29 = .ok (.ireturn, 1) := by decide +kernel
theorem dX4_kind_0 : decode cX4_kind 0 = .ok (.aload_n 0, 1) := by decide +kernel
theorem dX4_kind_1 : decode cX4_kind 1 = .ok (.iload_n 1, 1) := by decide +kernel
theorem dX4_kind_2 : decode cX4_kind 2 = .ok (.invokevirtual 51, 3) := by decide +kernel
theorem dX4_kind_5 : decode cX4_kind 5 = .ok (.ifCond .eq 18, 3) := by decide +kernel
theorem dX4_kind_8 : decode cX4_kind 8 = .ok (.aload_n 0, 1) := by decide +kernel
theorem dX4_kind_9 : decode cX4_kind 9 = .ok (.iload_n 1, 1) := by decide +kernel
theorem dX4_kind_10 : decode cX4_kind 10 = .ok (.iconst 0, 1) := by decide +kernel
theorem dX4_kind_11 : decode cX4_kind 11 = .ok (.invokestatic 57, 3) := by decide +kernel
theorem dX4_kind_14 : decode cX4_kind 14 = .ok (.bipush 6, 2) := by decide +kernel
theorem dX4_kind_16 : decode cX4_kind 16 = .ok (.iload_n 1, 1) := by decide +kernel
theorem dX4_kind_17 : decode cX4_kind 17 = .ok (.invokevirtual 174, 3) := by decide +kernel
theorem dX4_kind_20 : decode cX4_kind 20 = .ok (.goto 9, 3) := by decide +kernel
theorem dX4_kind_23 : decode cX4_kind 23 = .ok (.aload_n 0, 1) := by decide +kernel
theorem dX4_kind_24 : decode cX4_kind 24 = .ok (.ldc 44, 2) := by decide +kernel
theorem dX4_kind_26 : decode cX4_kind 26 = .ok (.invokevirtual 68, 3) := by decide +kernel
theorem dX4_kind_29 : decode cX4_kind 29 = .ok (.ireturn, 1) := by decide +kernel
theorem dX4_bath_0 : decode cX4_bath 0 = .ok (.aload_n 0, 1) := by decide +kernel
theorem dX4_bath_1 : decode cX4_bath 1 = .ok (.iload_n 1, 1) := by decide +kernel
theorem dX4_bath_2 : decode cX4_bath 2 = .ok (.invokevirtual 51, 3) := by decide +kernel
theorem dX4_bath_5 : decode cX4_bath 5 = .ok (.ifCond .ne 10, 3) := by decide +kernel
theorem dX4_bath_8 : decode cX4_bath 8 = .ok (.aload_n 0, 1) := by decide +kernel
theorem dX4_bath_9 : decode cX4_bath 9 = .ok (.ldc 44, 2) := by decide +kernel
theorem dX4_bath_11 : decode cX4_bath 11 = .ok (.invokevirtual 68, 3) := by decide +kernel
theorem dX4_bath_14 : decode cX4_bath 14 = .ok (.ireturn, 1) := by decide +kernel
theorem dX4_bath_15 : decode cX4_bath 15 = .ok (.aload_n 0, 1) := by decide +kernel
theorem dX4_bath_16 : decode cX4_bath 16 = .ok (.invokevirtual 165, 3) := by decide +kernel
theorem dX4_bath_19 : decode cX4_bath 19 = .ok (.aload_n 0, 1) := by decide +kernel
theorem dX4_bath_20 : decode cX4_bath 20 = .ok (.invokevirtual 149, 3) := by decide +kernel
theorem dX4_bath_23 : decode cX4_bath 23 = .ok (.aload_n 0, 1) := by decide +kernel
theorem dX4_bath_24 : decode cX4_bath 24 = .ok (.aload_n 0, 1) := by decide +kernel
theorem dX4_bath_25 : decode cX4_bath 25 = .ok (.iload_n 1, 1) := by decide +kernel
theorem dX4_bath_26 : decode cX4_bath 26 = .ok (.invokevirtual 171, 3) := by decide +kernel
theorem dX4_bath_29 : decode cX4_bath 29 = .ok (.invokevirtual 168, 3) := by decide +kernel
theorem dX4_bath_32 : decode cX4_bath 32 = .ok (.istore_n 2, 1) := by decide +kernel
theorem dX4_bath_33 : decode cX4_bath 33 = .ok (.iconst (-1), 1) := by decide +kernel
theorem dX4_bath_34 : decode cX4_bath 34 = .ok (.istore_n 3, 1) := by decide +kernel
theorem dX4_bath_35 : decode cX4_bath 35 = .ok (.iconst 0, 1) := by decide +kernel
theorem dX4_bath_36 : decode cX4_bath 36 = .ok (.istore 4, 2) := by decide +kernel
theorem dX4_bath_38 : decode cX4_bath 38 = .ok (.iload 4, 2) := by decide +kernel
theorem dX4_bath_40 : decode cX4_bath 40 = .ok (.aload_n 0, 1) := by decide +kernel
theorem dX4_bath_41 : decode cX4_bath 41 = .ok (.getfield 7, 3) := by decide +kernel
theorem dX4_bath_44 : decode cX4_bath 44 = .ok (.iconst 0, 1) := by decide +kernel
theorem dX4_bath_45 : decode cX4_bath 45 = .ok (.iaload, 1) := by decide +kernel
theorem dX4_bath_46 : decode cX4_bath 46 = .ok (.if_icmp .ge 62, 3) := by decide +kernel
theorem dX4_bath_49 : decode cX4_bath 49 = .ok (.aload_n 0, 1) := by decide +kernel
theorem dX4_bath_50 : decode cX4_bath 50 = .ok (.invokevirtual 165, 3) := by decide +kernel
theorem dX4_bath_53 : decode cX4_bath 53 = .ok (.aload_n 0, 1) := by decide +kernel
theorem dX4_bath_54 : decode cX4_bath 54 = .ok (.iload 4, 2) := by decide +kernel
theorem dX4_bath_56 : decode cX4_bath 56 = .ok (.invokevirtual 104, 3) := by decide +kernel
theorem dX4_bath_59 : decode cX4_bath 59 = .ok (.istore 5, 2) := by decide +kernel
theorem dX4_bath_61 : decode cX4_bath 61 = .ok (.aload_n 0, 1) := by decide +kernel
theorem dX4_bath_62 : decode cX4_bath 62 = .ok (.invokevirtual 149, 3) := by decide +kernel
theorem dX4_bath_65 : decode cX4_bath 65 = .ok (.aload_n 0, 1) := by decide +kernel
theorem dX4_bath_66 : decode cX4_bath 66 = .ok (.aload_n 0, 1) := by decide +kernel
theorem dX4_bath_67 : decode cX4_bath 67 = .ok (.iload_n 1, 1) := by decide +kernel
theorem dX4_bath_68 : decode cX4_bath 68 = .ok (.invokevirtual 171, 3) := by decide +kernel
theorem dX4_bath_71 : decode cX4_bath 71 = .ok (.invokevirtual 168, 3) := by decide +kernel
theorem dX4_bath_74 : decode cX4_bath 74 = .ok (.istore 6, 2) := by decide +kernel
theorem dX4_bath_76 : decode cX4_bath 76 = .ok (.iload 6, 2) := by decide +kernel
theorem dX4_bath_78 : decode cX4_bath 78 = .ok (.iload_n 2, 1) := by decide +kernel
theorem dX4_bath_79 : decode cX4_bath 79 = .ok (.if_icmp .ge 8, 3) := by decide +kernel
theorem dX4_bath_82 : decode cX4_bath 82 = .ok (.iload 4, 2) := by decide +kernel
theorem dX4_bath_84 : decode cX4_bath 84 = .ok (.goto 4, 3) := by decide +kernel
theorem dX4_bath_87 : decode cX4_bath 87 = .ok (.iload_n 3, 1) := by decide +kernel
theorem dX4_bath_88 : decode cX4_bath 88 = .ok (.istore_n 3, 1) := by decide +kernel
theorem dX4_bath_89 : decode cX4_bath 89 = .ok (.iload 6, 2) := by decide +kernel
theorem dX4_bath_91 : decode cX4_bath 91 = .ok (.iload_n 2, 1) := by decide +kernel
theorem dX4_bath_92 : decode cX4_bath 92 = .ok (.if_icmp .ge 8, 3) := by decide +kernel
theorem dX4_bath_95 : decode cX4_bath 95 = .ok (.iload 6, 2) := by decide +kernel
theorem dX4_bath_97 : decode cX4_bath 97 = .ok (.goto 4, 3) := by decide +kernel
theorem dX4_bath_100 : decode cX4_bath 100 = .ok (.iload_n 2, 1) := by decide +kernel
theorem dX4_bath_101 : decode cX4_bath 101 = .ok (.istore_n 2, 1) := by decide +kernel
theorem dX4_bath_102 : decode cX4_bath 102 = .ok (.iinc 4 1, 3) := by decide +kernel
theorem dX4_bath_105 : decode cX4_bath 105 = .ok (.goto (-67), 3) := by decide +kernel
theorem dX4_bath_108 : decode cX4_bath 108 = .ok (.iload_n 3, 1) := by decide +kernel
theorem dX4_bath_109 : decode cX4_bath 109 = .ok (.ifCond .ge 12, 3) := by decide +kernel
theorem dX4_bath_112 : decode cX4_bath 112 = .ok (.aload_n 0, 1) := by decide +kernel
theorem dX4_bath_113 : decode cX4_bath 113 = .ok (.ldc 129, 2) := by decide +kernel
theorem dX4_bath_115 : decode cX4_bath 115 = .ok (.invokevirtual 68, 3) := by decide +kernel
theorem dX4_bath_118 : decode cX4_bath 118 = .ok (.goto 4, 3) := by decide +kernel
theorem dX4_bath_121 : decode cX4_bath 121 = .ok (.iload_n 3, 1) := by decide +kernel
theorem dX4_bath_122 : decode cX4_bath 122 = .ok (.ireturn, 1) := by decide +kernel
theorem dX4_due_0 : decode cX4_due 0 = .ok (.aload_n 0, 1) := by decide +kernel
theorem dX4_due_1 : decode cX4_due 1 = .ok (.iload_n 1, 1) := by decide +kernel
theorem dX4_due_2 : decode cX4_due 2 = .ok (.invokevirtual 51, 3) := by decide +kernel
theorem dX4_due_5 : decode cX4_due 5 = .ok (.ifCond .ne 10, 3) := by decide +kernel
theorem dX4_due_8 : decode cX4_due 8 = .ok (.aload_n 0, 1) := by decide +kernel
theorem dX4_due_9 : decode cX4_due 9 = .ok (.ldc 44, 2) := by decide +kernel
theorem dX4_due_11 : decode cX4_due 11 = .ok (.invokevirtual 68, 3) := by decide +kernel
theorem dX4_due_14 : decode cX4_due 14 = .ok (.ireturn, 1) := by decide +kernel
theorem dX4_due_15 : decode cX4_due 15 = .ok (.aload_n 0, 1) := by decide +kernel
theorem dX4_due_16 : decode cX4_due 16 = .ok (.getfield 7, 3) := by decide +kernel
theorem dX4_due_19 : decode cX4_due 19 = .ok (.iconst 3, 1) := by decide +kernel
theorem dX4_due_20 : decode cX4_due 20 = .ok (.iaload, 1) := by decide +kernel
theorem dX4_due_21 : decode cX4_due 21 = .ok (.istore_n 2, 1) := by decide +kernel
theorem dX4_due_22 : decode cX4_due 22 = .ok (.iconst 1, 1) := by decide +kernel
theorem dX4_due_23 : decode cX4_due 23 = .ok (.istore_n 3, 1) := by decide +kernel
theorem dX4_due_24 : decode cX4_due 24 = .ok (.aload_n 0, 1) := by decide +kernel
theorem dX4_due_25 : decode cX4_due 25 = .ok (.getfield 7, 3) := by decide +kernel
theorem dX4_due_28 : decode cX4_due 28 = .ok (.iconst 3, 1) := by decide +kernel
theorem dX4_due_29 : decode cX4_due 29 = .ok (.iconst 1, 1) := by decide +kernel
theorem dX4_due_30 : decode cX4_due 30 = .ok (.iastore, 1) := by decide +kernel
theorem dX4_due_31 : decode cX4_due 31 = .ok (.iload_n 3, 1) := by decide +kernel
theorem dX4_due_32 : decode cX4_due 32 = .ok (.bipush 99, 2) := by decide +kernel
theorem dX4_due_34 : decode cX4_due 34 = .ok (.if_icmp .gt 24, 3) := by decide +kernel
theorem dX4_due_37 : decode cX4_due 37 = .ok (.aload_n 0, 1) := by decide +kernel
theorem dX4_due_38 : decode cX4_due 38 = .ok (.iload_n 1, 1) := by decide +kernel
theorem dX4_due_39 : decode cX4_due 39 = .ok (.invokevirtual 133, 3) := by decide +kernel
theorem dX4_due_42 : decode cX4_due 42 = .ok (.ifCond .eq 16, 3) := by decide +kernel
theorem dX4_due_45 : decode cX4_due 45 = .ok (.iinc 3 1, 3) := by decide +kernel
theorem dX4_due_48 : decode cX4_due 48 = .ok (.aload_n 0, 1) := by decide +kernel
theorem dX4_due_49 : decode cX4_due 49 = .ok (.getfield 7, 3) := by decide +kernel
theorem dX4_due_52 : decode cX4_due 52 = .ok (.iconst 3, 1) := by decide +kernel
theorem dX4_due_53 : decode cX4_due 53 = .ok (.iload_n 3, 1) := by decide +kernel
theorem dX4_due_54 : decode cX4_due 54 = .ok (.iastore, 1) := by decide +kernel
theorem dX4_due_55 : decode cX4_due 55 = .ok (.goto (-24), 3) := by decide +kernel
theorem dX4_due_58 : decode cX4_due 58 = .ok (.aload_n 0, 1) := by decide +kernel
theorem dX4_due_59 : decode cX4_due 59 = .ok (.getfield 7, 3) := by decide +kernel
theorem dX4_due_62 : decode cX4_due 62 = .ok (.iconst 3, 1) := by decide +kernel
theorem dX4_due_63 : decode cX4_due 63 = .ok (.iload_n 2, 1) := by decide +kernel
theorem dX4_due_64 : decode cX4_due 64 = .ok (.iastore, 1) := by decide +kernel
theorem dX4_due_65 : decode cX4_due 65 = .ok (.iload_n 3, 1) := by decide +kernel
theorem dX4_due_66 : decode cX4_due 66 = .ok (.bipush 99, 2) := by decide +kernel
theorem dX4_due_68 : decode cX4_due 68 = .ok (.if_icmp .le 12, 3) := by decide +kernel
theorem dX4_due_71 : decode cX4_due 71 = .ok (.aload_n 0, 1) := by decide +kernel
theorem dX4_due_72 : decode cX4_due 72 = .ok (.ldc 129, 2) := by decide +kernel
theorem dX4_due_74 : decode cX4_due 74 = .ok (.invokevirtual 68, 3) := by decide +kernel
theorem dX4_due_77 : decode cX4_due 77 = .ok (.goto 4, 3) := by decide +kernel
theorem dX4_due_80 : decode cX4_due 80 = .ok (.iload_n 3, 1) := by decide +kernel
theorem dX4_due_81 : decode cX4_due 81 = .ok (.ireturn, 1) := by decide +kernel
theorem dX4_findJuries_0 : decode cX4_findJuries 0 = .ok (.aload_n 0, 1) := by decide +kernel
theorem dX4_findJuries_1 : decode cX4_findJuries 1 = .ok (.iload_n 1, 1) := by decide +kernel
theorem dX4_findJuries_2 : decode cX4_findJuries 2 = .ok (.invokevirtual 133, 3) := by decide +kernel
theorem dX4_findJuries_5 : decode cX4_findJuries 5 = .ok (.istore_n 3, 1) := by decide +kernel
theorem dX4_findJuries_6 : decode cX4_findJuries 6 = .ok (.aload_n 0, 1) := by decide +kernel
theorem dX4_findJuries_7 : decode cX4_findJuries 7 = .ok (.iconst (-1), 1) := by decide +kernel
theorem dX4_findJuries_8 : decode cX4_findJuries 8 = .ok (.putfield 177, 3) := by decide +kernel
theorem dX4_findJuries_11 : decode cX4_findJuries 11 = .ok (.aload_n 0, 1) := by decide +kernel
theorem dX4_findJuries_12 : decode cX4_findJuries 12 = .ok (.iconst 0, 1) := by decide +kernel
theorem dX4_findJuries_13 : decode cX4_findJuries 13 = .ok (.putfield 181, 3) := by decide +kernel
theorem dX4_findJuries_16 : decode cX4_findJuries 16 = .ok (.iconst 1, 1) := by decide +kernel
theorem dX4_findJuries_17 : decode cX4_findJuries 17 = .ok (.istore 4, 2) := by decide +kernel
theorem dX4_findJuries_19 : decode cX4_findJuries 19 = .ok (.iload 4, 2) := by decide +kernel
theorem dX4_findJuries_21 : decode cX4_findJuries 21 = .ok (.iconst 1, 1) := by decide +kernel
theorem dX4_findJuries_22 : decode cX4_findJuries 22 = .ok (.aload_n 0, 1) := by decide +kernel
theorem dX4_findJuries_23 : decode cX4_findJuries 23 = .ok (.getfield 7, 3) := by decide +kernel
theorem dX4_findJuries_26 : decode cX4_findJuries 26 = .ok (.iconst 0, 1) := by decide +kernel
theorem dX4_findJuries_27 : decode cX4_findJuries 27 = .ok (.iaload, 1) := by decide +kernel
theorem dX4_findJuries_28 : decode cX4_findJuries 28 = .ok (.ishl, 1) := by decide +kernel
theorem dX4_findJuries_29 : decode cX4_findJuries 29 = .ok (.if_icmp .ge 66, 3) := by decide +kernel
theorem dX4_findJuries_32 : decode cX4_findJuries 32 = .ok (.iload 4, 2) := by decide +kernel
theorem dX4_findJuries_34 : decode cX4_findJuries 34 = .ok (.iload_n 1, 1) := by decide +kernel
theorem dX4_findJuries_35 : decode cX4_findJuries 35 = .ok (.ishr, 1) := by decide +kernel
theorem dX4_findJuries_36 : decode cX4_findJuries 36 = .ok (.iconst 1, 1) := by decide +kernel
theorem dX4_findJuries_37 : decode cX4_findJuries 37 = .ok (.iand, 1) := by decide +kernel
theorem dX4_findJuries_38 : decode cX4_findJuries 38 = .ok (.ifCond .ne 51, 3) := by decide +kernel
theorem dX4_findJuries_41 : decode cX4_findJuries 41 = .ok (.iload 4, 2) := by decide +kernel
theorem dX4_findJuries_43 : decode cX4_findJuries 43 = .ok (.invokestatic 136, 3) := by decide +kernel
theorem dX4_findJuries_46 : decode cX4_findJuries 46 = .ok (.iload_n 2, 1) := by decide +kernel
theorem dX4_findJuries_47 : decode cX4_findJuries 47 = .ok (.if_icmp .ne 42, 3) := by decide +kernel
theorem dX4_findJuries_50 : decode cX4_findJuries 50 = .ok (.iload 4, 2) := by decide +kernel
theorem dX4_findJuries_52 : decode cX4_findJuries 52 = .ok (.iload_n 3, 1) := by decide +kernel
theorem dX4_findJuries_53 : decode cX4_findJuries 53 = .ok (.invokestatic 140, 3) := by decide +kernel
theorem dX4_findJuries_56 : decode cX4_findJuries 56 = .ok (.ifCond .eq 33, 3) := by decide +kernel
theorem dX4_findJuries_59 : decode cX4_findJuries 59 = .ok (.aload_n 0, 1) := by decide +kernel
theorem dX4_findJuries_60 : decode cX4_findJuries 60 = .ok (.aload_n 0, 1) := by decide +kernel
theorem dX4_findJuries_61 : decode cX4_findJuries 61 = .ok (.getfield 181, 3) := by decide +kernel
theorem dX4_findJuries_64 : decode cX4_findJuries 64 = .ok (.ifCond .ne 8, 3) := by decide +kernel
theorem dX4_findJuries_67 : decode cX4_findJuries 67 = .ok (.iload 4, 2) := by decide +kernel
theorem dX4_findJuries_69 : decode cX4_findJuries 69 = .ok (.goto 7, 3) := by decide +kernel
theorem dX4_findJuries_72 : decode cX4_findJuries 72 = .ok (.aload_n 0, 1) := by decide +kernel
theorem dX4_findJuries_73 : decode cX4_findJuries 73 = .ok (.getfield 177, 3) := by decide +kernel
theorem dX4_findJuries_76 : decode cX4_findJuries 76 = .ok (.putfield 177, 3) := by decide +kernel
theorem dX4_findJuries_79 : decode cX4_findJuries 79 = .ok (.aload_n 0, 1) := by decide +kernel
theorem dX4_findJuries_80 : decode cX4_findJuries 80 = .ok (.dup, 1) := by decide +kernel
theorem dX4_findJuries_81 : decode cX4_findJuries 81 = .ok (.getfield 181, 3) := by decide +kernel
theorem dX4_findJuries_84 : decode cX4_findJuries 84 = .ok (.iconst 1, 1) := by decide +kernel
theorem dX4_findJuries_85 : decode cX4_findJuries 85 = .ok (.iadd, 1) := by decide +kernel
theorem dX4_findJuries_86 : decode cX4_findJuries 86 = .ok (.putfield 181, 3) := by decide +kernel
theorem dX4_findJuries_89 : decode cX4_findJuries 89 = .ok (.iinc 4 1, 3) := by decide +kernel
theorem dX4_findJuries_92 : decode cX4_findJuries 92 = .ok (.goto (-73), 3) := by decide +kernel
theorem dX4_findJuries_95 : decode cX4_findJuries 95 = .ok (.return_, 1) := by decide +kernel
theorem dX4_jury_0 : decode cX4_jury 0 = .ok (.aload_n 0, 1) := by decide +kernel
theorem dX4_jury_1 : decode cX4_jury 1 = .ok (.iload_n 1, 1) := by decide +kernel
theorem dX4_jury_2 : decode cX4_jury 2 = .ok (.invokevirtual 51, 3) := by decide +kernel
theorem dX4_jury_5 : decode cX4_jury 5 = .ok (.ifCond .eq 15, 3) := by decide +kernel
theorem dX4_jury_8 : decode cX4_jury 8 = .ok (.iload_n 2, 1) := by decide +kernel
theorem dX4_jury_9 : decode cX4_jury 9 = .ok (.i2l, 1) := by decide +kernel
theorem dX4_jury_10 : decode cX4_jury 10 = .ok (.lconst 1, 1) := by decide +kernel
theorem dX4_jury_11 : decode cX4_jury 11 = .ok (.ldc2_w 184, 3) := by decide +kernel
theorem dX4_jury_14 : decode cX4_jury 14 = .ok (.invokestatic 47, 3) := by decide +kernel
theorem dX4_jury_17 : decode cX4_jury 17 = .ok (.ifCond .ne 10, 3) := by decide +kernel
theorem dX4_jury_20 : decode cX4_jury 20 = .ok (.aload_n 0, 1) := by decide +kernel
theorem dX4_jury_21 : decode cX4_jury 21 = .ok (.ldc 44, 2) := by decide +kernel
theorem dX4_jury_23 : decode cX4_jury 23 = .ok (.invokevirtual 68, 3) := by decide +kernel
theorem dX4_jury_26 : decode cX4_jury 26 = .ok (.ireturn, 1) := by decide +kernel
theorem dX4_jury_27 : decode cX4_jury 27 = .ok (.aload_n 0, 1) := by decide +kernel
theorem dX4_jury_28 : decode cX4_jury 28 = .ok (.iload_n 1, 1) := by decide +kernel
theorem dX4_jury_29 : decode cX4_jury 29 = .ok (.iload_n 2, 1) := by decide +kernel
theorem dX4_jury_30 : decode cX4_jury 30 = .ok (.invokevirtual 186, 3) := by decide +kernel
theorem dX4_jury_33 : decode cX4_jury 33 = .ok (.aload_n 0, 1) := by decide +kernel
theorem dX4_jury_34 : decode cX4_jury 34 = .ok (.getfield 177, 3) := by decide +kernel
theorem dX4_jury_37 : decode cX4_jury 37 = .ok (.ifCond .ge 12, 3) := by decide +kernel
theorem dX4_jury_40 : decode cX4_jury 40 = .ok (.aload_n 0, 1) := by decide +kernel
theorem dX4_jury_41 : decode cX4_jury 41 = .ok (.ldc 129, 2) := by decide +kernel
theorem dX4_jury_43 : decode cX4_jury 43 = .ok (.invokevirtual 68, 3) := by decide +kernel
theorem dX4_jury_46 : decode cX4_jury 46 = .ok (.goto 7, 3) := by decide +kernel
theorem dX4_jury_49 : decode cX4_jury 49 = .ok (.aload_n 0, 1) := by decide +kernel
theorem dX4_jury_50 : decode cX4_jury 50 = .ok (.getfield 177, 3) := by decide +kernel
theorem dX4_jury_53 : decode cX4_jury 53 = .ok (.ireturn, 1) := by decide +kernel
theorem dX4_juries_0 : decode cX4_juries 0 = .ok (.aload_n 0, 1) := by decide +kernel
theorem dX4_juries_1 : decode cX4_juries 1 = .ok (.iload_n 1, 1) := by decide +kernel
theorem dX4_juries_2 : decode cX4_juries 2 = .ok (.invokevirtual 51, 3) := by decide +kernel
theorem dX4_juries_5 : decode cX4_juries 5 = .ok (.ifCond .eq 15, 3) := by decide +kernel
theorem dX4_juries_8 : decode cX4_juries 8 = .ok (.iload_n 2, 1) := by decide +kernel
theorem dX4_juries_9 : decode cX4_juries 9 = .ok (.i2l, 1) := by decide +kernel
theorem dX4_juries_10 : decode cX4_juries 10 = .ok (.lconst 1, 1) := by decide +kernel
theorem dX4_juries_11 : decode cX4_juries 11 = .ok (.ldc2_w 184, 3) := by decide +kernel
theorem dX4_juries_14 : decode cX4_juries 14 = .ok (.invokestatic 47, 3) := by decide +kernel
theorem dX4_juries_17 : decode cX4_juries 17 = .ok (.ifCond .ne 10, 3) := by decide +kernel
theorem dX4_juries_20 : decode cX4_juries 20 = .ok (.aload_n 0, 1) := by decide +kernel
theorem dX4_juries_21 : decode cX4_juries 21 = .ok (.ldc 44, 2) := by decide +kernel
theorem dX4_juries_23 : decode cX4_juries 23 = .ok (.invokevirtual 68, 3) := by decide +kernel
theorem dX4_juries_26 : decode cX4_juries 26 = .ok (.ireturn, 1) := by decide +kernel
theorem dX4_juries_27 : decode cX4_juries 27 = .ok (.aload_n 0, 1) := by decide +kernel
theorem dX4_juries_28 : decode cX4_juries 28 = .ok (.iload_n 1, 1) := by decide +kernel
theorem dX4_juries_29 : decode cX4_juries 29 = .ok (.iload_n 2, 1) := by decide +kernel
theorem dX4_juries_30 : decode cX4_juries 30 = .ok (.invokevirtual 186, 3) := by decide +kernel
theorem dX4_juries_33 : decode cX4_juries 33 = .ok (.aload_n 0, 1) := by decide +kernel
theorem dX4_juries_34 : decode cX4_juries 34 = .ok (.getfield 181, 3) := by decide +kernel
theorem dX4_juries_37 : decode cX4_juries 37 = .ok (.ireturn, 1) := by decide +kernel
theorem dX4_from_0 : decode cX4_from 0 = .ok (.aload_n 0, 1) := by decide +kernel
theorem dX4_from_1 : decode cX4_from 1 = .ok (.iload_n 1, 1) := by decide +kernel
theorem dX4_from_2 : decode cX4_from 2 = .ok (.invokevirtual 51, 3) := by decide +kernel
theorem dX4_from_5 : decode cX4_from 5 = .ok (.ifCond .eq 10, 3) := by decide +kernel
theorem dX4_from_8 : decode cX4_from 8 = .ok (.iload_n 2, 1) := by decide +kernel
theorem dX4_from_9 : decode cX4_from 9 = .ok (.invokestatic 96, 3) := by decide +kernel
theorem dX4_from_12 : decode cX4_from 12 = .ok (.ifCond .ne 10, 3) := by decide +kernel
theorem dX4_from_15 : decode cX4_from 15 = .ok (.aload_n 0, 1) := by decide +kernel
theorem dX4_from_16 : decode cX4_from 16 = .ok (.ldc 44, 2) := by decide +kernel
theorem dX4_from_18 : decode cX4_from 18 = .ok (.invokevirtual 68, 3) := by decide +kernel
theorem dX4_from_21 : decode cX4_from 21 = .ok (.ireturn, 1) := by decide +kernel
theorem dX4_from_22 : decode cX4_from 22 = .ok (.aload_n 0, 1) := by decide +kernel
theorem dX4_from_23 : decode cX4_from 23 = .ok (.iload_n 1, 1) := by decide +kernel
theorem dX4_from_24 : decode cX4_from 24 = .ok (.iload_n 2, 1) := by decide +kernel
theorem dX4_from_25 : decode cX4_from 25 = .ok (.invokevirtual 146, 3) := by decide +kernel
theorem dX4_from_28 : decode cX4_from 28 = .ok (.istore_n 3, 1) := by decide +kernel
theorem dX4_from_29 : decode cX4_from 29 = .ok (.iconst (-1), 1) := by decide +kernel
theorem dX4_from_30 : decode cX4_from 30 = .ok (.istore 4, 2) := by decide +kernel
theorem dX4_from_32 : decode cX4_from 32 = .ok (.aload_n 0, 1) := by decide +kernel
theorem dX4_from_33 : decode cX4_from 33 = .ok (.getfield 7, 3) := by decide +kernel
theorem dX4_from_36 : decode cX4_from 36 = .ok (.iconst 0, 1) := by decide +kernel
theorem dX4_from_37 : decode cX4_from 37 = .ok (.iaload, 1) := by decide +kernel
theorem dX4_from_38 : decode cX4_from 38 = .ok (.iconst 1, 1) := by decide +kernel
theorem dX4_from_39 : decode cX4_from 39 = .ok (.isub, 1) := by decide +kernel
theorem dX4_from_40 : decode cX4_from 40 = .ok (.istore 5, 2) := by decide +kernel
theorem dX4_from_42 : decode cX4_from 42 = .ok (.iload 5, 2) := by decide +kernel
theorem dX4_from_44 : decode cX4_from 44 = .ok (.ifCond .lt 53, 3) := by decide +kernel
theorem dX4_from_47 : decode cX4_from 47 = .ok (.iload 5, 2) := by decide +kernel
theorem dX4_from_49 : decode cX4_from 49 = .ok (.iload_n 1, 1) := by decide +kernel
theorem dX4_from_50 : decode cX4_from 50 = .ok (.if_icmp .eq 37, 3) := by decide +kernel
theorem dX4_from_53 : decode cX4_from 53 = .ok (.aload_n 0, 1) := by decide +kernel
theorem dX4_from_54 : decode cX4_from 54 = .ok (.iload 5, 2) := by decide +kernel
theorem dX4_from_56 : decode cX4_from 56 = .ok (.iconst 1, 1) := by decide +kernel
theorem dX4_from_57 : decode cX4_from 57 = .ok (.invokevirtual 82, 3) := by decide +kernel
theorem dX4_from_60 : decode cX4_from 60 = .ok (.aload_n 0, 1) := by decide +kernel
theorem dX4_from_61 : decode cX4_from 61 = .ok (.iload_n 1, 1) := by decide +kernel
theorem dX4_from_62 : decode cX4_from 62 = .ok (.iconst 1, 1) := by decide +kernel
theorem dX4_from_63 : decode cX4_from 63 = .ok (.invokevirtual 82, 3) := by decide +kernel
theorem dX4_from_66 : decode cX4_from 66 = .ok (.if_icmp .ne 21, 3) := by decide +kernel
theorem dX4_from_69 : decode cX4_from 69 = .ok (.aload_n 0, 1) := by decide +kernel
theorem dX4_from_70 : decode cX4_from 70 = .ok (.iload 5, 2) := by decide +kernel
theorem dX4_from_72 : decode cX4_from 72 = .ok (.iconst 4, 1) := by decide +kernel
theorem dX4_from_73 : decode cX4_from 73 = .ok (.iload_n 2, 1) := by decide +kernel
theorem dX4_from_74 : decode cX4_from 74 = .ok (.iadd, 1) := by decide +kernel
theorem dX4_from_75 : decode cX4_from 75 = .ok (.invokevirtual 82, 3) := by decide +kernel
theorem dX4_from_78 : decode cX4_from 78 = .ok (.iload_n 3, 1) := by decide +kernel
theorem dX4_from_79 : decode cX4_from 79 = .ok (.if_icmp .ne 8, 3) := by decide +kernel
theorem dX4_from_82 : decode cX4_from 82 = .ok (.iload 5, 2) := by decide +kernel
theorem dX4_from_84 : decode cX4_from 84 = .ok (.goto 5, 3) := by decide +kernel
theorem dX4_from_87 : decode cX4_from 87 = .ok (.iload 4, 2) := by decide +kernel
theorem dX4_from_89 : decode cX4_from 89 = .ok (.istore 4, 2) := by decide +kernel
theorem dX4_from_91 : decode cX4_from 91 = .ok (.iinc 5 (-1), 3) := by decide +kernel
theorem dX4_from_94 : decode cX4_from 94 = .ok (.goto (-52), 3) := by decide +kernel
theorem dX4_from_97 : decode cX4_from 97 = .ok (.iload 4, 2) := by decide +kernel
theorem dX4_from_99 : decode cX4_from 99 = .ok (.ifCond .lt 20, 3) := by decide +kernel
theorem dX4_from_102 : decode cX4_from 102 = .ok (.iload_n 3, 1) := by decide +kernel
theorem dX4_from_103 : decode cX4_from 103 = .ok (.iconst 4, 1) := by decide +kernel
theorem dX4_from_104 : decode cX4_from 104 = .ok (.idiv, 1) := by decide +kernel
theorem dX4_from_105 : decode cX4_from 105 = .ok (.aload_n 0, 1) := by decide +kernel
theorem dX4_from_106 : decode cX4_from 106 = .ok (.iload_n 1, 1) := by decide +kernel
theorem dX4_from_107 : decode cX4_from 107 = .ok (.iload_n 2, 1) := by decide +kernel
theorem dX4_from_108 : decode cX4_from 108 = .ok (.invokevirtual 143, 3) := by decide +kernel
theorem dX4_from_111 : decode cX4_from 111 = .ok (.if_icmp .le 8, 3) := by decide +kernel
theorem dX4_from_114 : decode cX4_from 114 = .ok (.iload 4, 2) := by decide +kernel
theorem dX4_from_116 : decode cX4_from 116 = .ok (.goto 9, 3) := by decide +kernel
theorem dX4_from_119 : decode cX4_from 119 = .ok (.aload_n 0, 1) := by decide +kernel
theorem dX4_from_120 : decode cX4_from 120 = .ok (.ldc 129, 2) := by decide +kernel
theorem dX4_from_122 : decode cX4_from 122 = .ok (.invokevirtual 68, 3) := by decide +kernel
theorem dX4_from_125 : decode cX4_from 125 = .ok (.ireturn, 1) := by decide +kernel
theorem dX4_nose_0 : decode cX4_nose 0 = .ok (.aload_n 0, 1) := by decide +kernel
theorem dX4_nose_1 : decode cX4_nose 1 = .ok (.iload_n 1, 1) := by decide +kernel
theorem dX4_nose_2 : decode cX4_nose 2 = .ok (.iload_n 2, 1) := by decide +kernel
theorem dX4_nose_3 : decode cX4_nose 3 = .ok (.invokevirtual 107, 3) := by decide +kernel
theorem dX4_nose_6 : decode cX4_nose 6 = .ok (.ifCond .ne 10, 3) := by decide +kernel
theorem dX4_nose_9 : decode cX4_nose 9 = .ok (.aload_n 0, 1) := by decide +kernel
theorem dX4_nose_10 : decode cX4_nose 10 = .ok (.ldc 44, 2) := by decide +kernel
theorem dX4_nose_12 : decode cX4_nose 12 = .ok (.invokevirtual 68, 3) := by decide +kernel
theorem dX4_nose_15 : decode cX4_nose 15 = .ok (.ireturn, 1) := by decide +kernel
theorem dX4_nose_16 : decode cX4_nose 16 = .ok (.aload_n 0, 1) := by decide +kernel
theorem dX4_nose_17 : decode cX4_nose 17 = .ok (.iload_n 1, 1) := by decide +kernel
theorem dX4_nose_18 : decode cX4_nose 18 = .ok (.iconst 3, 1) := by decide +kernel
theorem dX4_nose_19 : decode cX4_nose 19 = .ok (.invokestatic 57, 3) := by decide +kernel
theorem dX4_nose_22 : decode cX4_nose 22 = .ok (.iconst 0, 1) := by decide +kernel
theorem dX4_nose_23 : decode cX4_nose 23 = .ok (.invokevirtual 65, 3) := by decide +kernel
theorem dX4_nose_26 : decode cX4_nose 26 = .ok (.istore_n 3, 1) := by decide +kernel
theorem dX4_nose_27 : decode cX4_nose 27 = .ok (.aload_n 0, 1) := by decide +kernel
theorem dX4_nose_28 : decode cX4_nose 28 = .ok (.iload_n 1, 1) := by decide +kernel
theorem dX4_nose_29 : decode cX4_nose 29 = .ok (.iconst 2, 1) := by decide +kernel
theorem dX4_nose_30 : decode cX4_nose 30 = .ok (.invokestatic 57, 3) := by decide +kernel
theorem dX4_nose_33 : decode cX4_nose 33 = .ok (.iconst 0, 1) := by decide +kernel
theorem dX4_nose_34 : decode cX4_nose 34 = .ok (.invokevirtual 65, 3) := by decide +kernel
theorem dX4_nose_37 : decode cX4_nose 37 = .ok (.istore 4, 2) := by decide +kernel
theorem dX4_nose_39 : decode cX4_nose 39 = .ok (.iconst 0, 1) := by decide +kernel
theorem dX4_nose_40 : decode cX4_nose 40 = .ok (.istore 5, 2) := by decide +kernel
theorem dX4_nose_42 : decode cX4_nose 42 = .ok (.iload 5, 2) := by decide +kernel
theorem dX4_nose_44 : decode cX4_nose 44 = .ok (.bipush 10, 2) := by decide +kernel
theorem dX4_nose_46 : decode cX4_nose 46 = .ok (.if_icmp .ge 30, 3) := by decide +kernel
theorem dX4_nose_49 : decode cX4_nose 49 = .ok (.aload_n 0, 1) := by decide +kernel
theorem dX4_nose_50 : decode cX4_nose 50 = .ok (.iload_n 1, 1) := by decide +kernel
theorem dX4_nose_51 : decode cX4_nose 51 = .ok (.iload_n 2, 1) := by decide +kernel
theorem dX4_nose_52 : decode cX4_nose 52 = .ok (.invokevirtual 130, 3) := by decide +kernel
theorem dX4_nose_55 : decode cX4_nose 55 = .ok (.ifCond .ne 21, 3) := by decide +kernel
theorem dX4_nose_58 : decode cX4_nose 58 = .ok (.iinc 5 1, 3) := by decide +kernel
theorem dX4_nose_61 : decode cX4_nose 61 = .ok (.aload_n 0, 1) := by decide +kernel
theorem dX4_nose_62 : decode cX4_nose 62 = .ok (.getfield 7, 3) := by decide +kernel
theorem dX4_nose_65 : decode cX4_nose 65 = .ok (.iload_n 1, 1) := by decide +kernel
theorem dX4_nose_66 : decode cX4_nose 66 = .ok (.iconst 2, 1) := by decide +kernel
theorem dX4_nose_67 : decode cX4_nose 67 = .ok (.invokestatic 57, 3) := by decide +kernel
theorem dX4_nose_70 : decode cX4_nose 70 = .ok (.iload 5, 2) := by decide +kernel
theorem dX4_nose_72 : decode cX4_nose 72 = .ok (.iastore, 1) := by decide +kernel
theorem dX4_nose_73 : decode cX4_nose 73 = .ok (.goto (-31), 3) := by decide +kernel
theorem dX4_nose_76 : decode cX4_nose 76 = .ok (.aload_n 0, 1) := by decide +kernel
theorem dX4_nose_77 : decode cX4_nose 77 = .ok (.getfield 7, 3) := by decide +kernel
theorem dX4_nose_80 : decode cX4_nose 80 = .ok (.iload_n 1, 1) := by decide +kernel
theorem dX4_nose_81 : decode cX4_nose 81 = .ok (.iconst 2, 1) := by decide +kernel
theorem dX4_nose_82 : decode cX4_nose 82 = .ok (.invokestatic 57, 3) := by decide +kernel
theorem dX4_nose_85 : decode cX4_nose 85 = .ok (.iload 4, 2) := by decide +kernel
theorem dX4_nose_87 : decode cX4_nose 87 = .ok (.iastore, 1) := by decide +kernel
theorem dX4_nose_88 : decode cX4_nose 88 = .ok (.aload_n 0, 1) := by decide +kernel
theorem dX4_nose_89 : decode cX4_nose 89 = .ok (.getfield 7, 3) := by decide +kernel
theorem dX4_nose_92 : decode cX4_nose 92 = .ok (.iload_n 1, 1) := by decide +kernel
theorem dX4_nose_93 : decode cX4_nose 93 = .ok (.iconst 3, 1) := by decide +kernel
theorem dX4_nose_94 : decode cX4_nose 94 = .ok (.invokestatic 57, 3) := by decide +kernel
theorem dX4_nose_97 : decode cX4_nose 97 = .ok (.iload_n 3, 1) := by decide +kernel
theorem dX4_nose_98 : decode cX4_nose 98 = .ok (.iastore, 1) := by decide +kernel
theorem dX4_nose_99 : decode cX4_nose 99 = .ok (.iload 5, 2) := by decide +kernel
theorem dX4_nose_101 : decode cX4_nose 101 = .ok (.bipush 9, 2) := by decide +kernel
theorem dX4_nose_103 : decode cX4_nose 103 = .ok (.if_icmp .le 12, 3) := by decide +kernel
theorem dX4_nose_106 : decode cX4_nose 106 = .ok (.aload_n 0, 1) := by decide +kernel
theorem dX4_nose_107 : decode cX4_nose 107 = .ok (.ldc 129, 2) := by decide +kernel
theorem dX4_nose_109 : decode cX4_nose 109 = .ok (.invokevirtual 68, 3) := by decide +kernel
theorem dX4_nose_112 : decode cX4_nose 112 = .ok (.goto 5, 3) := by decide +kernel
theorem dX4_nose_115 : decode cX4_nose 115 = .ok (.iload 5, 2) := by decide +kernel
theorem dX4_nose_117 : decode cX4_nose 117 = .ok (.ireturn, 1) := by decide +kernel
theorem dX4_feed_0 : decode cX4_feed 0 = .ok (.iload_n 2, 1) := by decide +kernel
theorem dX4_feed_1 : decode cX4_feed 1 = .ok (.i2l, 1) := by decide +kernel
theorem dX4_feed_2 : decode cX4_feed 2 = .ok (.lconst 1, 1) := by decide +kernel
theorem dX4_feed_3 : decode cX4_feed 3 = .ok (.ldc2_w 61, 3) := by decide +kernel
theorem dX4_feed_6 : decode cX4_feed 6 = .ok (.invokestatic 47, 3) := by decide +kernel
theorem dX4_feed_9 : decode cX4_feed 9 = .ok (.ifCond .ne 10, 3) := by decide +kernel
theorem dX4_feed_12 : decode cX4_feed 12 = .ok (.aload_n 0, 1) := by decide +kernel
theorem dX4_feed_13 : decode cX4_feed 13 = .ok (.ldc 44, 2) := by decide +kernel
theorem dX4_feed_15 : decode cX4_feed 15 = .ok (.invokevirtual 68, 3) := by decide +kernel
theorem dX4_feed_18 : decode cX4_feed 18 = .ok (.ireturn, 1) := by decide +kernel
theorem dX4_feed_19 : decode cX4_feed 19 = .ok (.aload_n 0, 1) := by decide +kernel
theorem dX4_feed_20 : decode cX4_feed 20 = .ok (.getfield 190, 3) := by decide +kernel
theorem dX4_feed_23 : decode cX4_feed 23 = .ok (.iload_n 2, 1) := by decide +kernel
theorem dX4_feed_24 : decode cX4_feed 24 = .ok (.iadd, 1) := by decide +kernel
theorem dX4_feed_25 : decode cX4_feed 25 = .ok (.bipush 120, 2) := by decide +kernel
theorem dX4_feed_27 : decode cX4_feed 27 = .ok (.if_icmp .le 10, 3) := by decide +kernel
theorem dX4_feed_30 : decode cX4_feed 30 = .ok (.aload_n 0, 1) := by decide +kernel
theorem dX4_feed_31 : decode cX4_feed 31 = .ok (.ldc 78, 2) := by decide +kernel
theorem dX4_feed_33 : decode cX4_feed 33 = .ok (.invokevirtual 68, 3) := by decide +kernel
theorem dX4_feed_36 : decode cX4_feed 36 = .ok (.ireturn, 1) := by decide +kernel
theorem dX4_feed_37 : decode cX4_feed 37 = .ok (.iload_n 2, 1) := by decide +kernel
theorem dX4_feed_38 : decode cX4_feed 38 = .ok (.iconst 1, 1) := by decide +kernel
theorem dX4_feed_39 : decode cX4_feed 39 = .ok (.isub, 1) := by decide +kernel
theorem dX4_feed_40 : decode cX4_feed 40 = .ok (.istore_n 3, 1) := by decide +kernel
theorem dX4_feed_41 : decode cX4_feed 41 = .ok (.iload_n 3, 1) := by decide +kernel
theorem dX4_feed_42 : decode cX4_feed 42 = .ok (.ifCond .lt 38, 3) := by decide +kernel
theorem dX4_feed_45 : decode cX4_feed 45 = .ok (.aload_n 0, 1) := by decide +kernel
theorem dX4_feed_46 : decode cX4_feed 46 = .ok (.getfield 28, 3) := by decide +kernel
theorem dX4_feed_49 : decode cX4_feed 49 = .ok (.aload_n 0, 1) := by decide +kernel
theorem dX4_feed_50 : decode cX4_feed 50 = .ok (.getfield 190, 3) := by decide +kernel
theorem dX4_feed_53 : decode cX4_feed 53 = .ok (.iload_n 1, 1) := by decide +kernel
theorem dX4_feed_54 : decode cX4_feed 54 = .ok (.bipush 8, 2) := by decide +kernel
theorem dX4_feed_56 : decode cX4_feed 56 = .ok (.iload_n 3, 1) := by decide +kernel
theorem dX4_feed_57 : decode cX4_feed 57 = .ok (.imul, 1) := by decide +kernel
theorem dX4_feed_58 : decode cX4_feed 58 = .ok (.ishr, 1) := by decide +kernel
theorem dX4_feed_59 : decode cX4_feed 59 = .ok (.sipush 255, 3) := by decide +kernel
theorem dX4_feed_62 : decode cX4_feed 62 = .ok (.iand, 1) := by decide +kernel
theorem dX4_feed_63 : decode cX4_feed 63 = .ok (.iastore, 1) := by decide +kernel
theorem dX4_feed_64 : decode cX4_feed 64 = .ok (.aload_n 0, 1) := by decide +kernel
theorem dX4_feed_65 : decode cX4_feed 65 = .ok (.dup, 1) := by decide +kernel
theorem dX4_feed_66 : decode cX4_feed 66 = .ok (.getfield 190, 3) := by decide +kernel
theorem dX4_feed_69 : decode cX4_feed 69 = .ok (.iconst 1, 1) := by decide +kernel
theorem dX4_feed_70 : decode cX4_feed 70 = .ok (.iadd, 1) := by decide +kernel
theorem dX4_feed_71 : decode cX4_feed 71 = .ok (.putfield 190, 3) := by decide +kernel
theorem dX4_feed_74 : decode cX4_feed 74 = .ok (.iinc 3 (-1), 3) := by decide +kernel
theorem dX4_feed_77 : decode cX4_feed 77 = .ok (.goto (-36), 3) := by decide +kernel
theorem dX4_feed_80 : decode cX4_feed 80 = .ok (.aload_n 0, 1) := by decide +kernel
theorem dX4_feed_81 : decode cX4_feed 81 = .ok (.getfield 190, 3) := by decide +kernel
theorem dX4_feed_84 : decode cX4_feed 84 = .ok (.ireturn, 1) := by decide +kernel
theorem dX4_wipe_0 : decode cX4_wipe 0 = .ok (.aload_n 0, 1) := by decide +kernel
theorem dX4_wipe_1 : decode cX4_wipe 1 = .ok (.getfield 190, 3) := by decide +kernel
theorem dX4_wipe_4 : decode cX4_wipe 4 = .ok (.istore_n 1, 1) := by decide +kernel
theorem dX4_wipe_5 : decode cX4_wipe 5 = .ok (.aload_n 0, 1) := by decide +kernel
theorem dX4_wipe_6 : decode cX4_wipe 6 = .ok (.iconst 0, 1) := by decide +kernel
theorem dX4_wipe_7 : decode cX4_wipe 7 = .ok (.putfield 190, 3) := by decide +kernel
theorem dX4_wipe_10 : decode cX4_wipe 10 = .ok (.iload_n 1, 1) := by decide +kernel
theorem dX4_wipe_11 : decode cX4_wipe 11 = .ok (.ireturn, 1) := by decide +kernel
theorem dX4_byteAt_0 : decode cX4_byteAt 0 = .ok (.iload_n 1, 1) := by decide +kernel
theorem dX4_byteAt_1 : decode cX4_byteAt 1 = .ok (.aload_n 0, 1) := by decide +kernel
theorem dX4_byteAt_2 : decode cX4_byteAt 2 = .ok (.getfield 190, 3) := by decide +kernel
theorem dX4_byteAt_5 : decode cX4_byteAt 5 = .ok (.if_icmp .ge 12, 3) := by decide +kernel
theorem dX4_byteAt_8 : decode cX4_byteAt 8 = .ok (.aload_n 0, 1) := by decide +kernel
theorem dX4_byteAt_9 : decode cX4_byteAt 9 = .ok (.getfield 28, 3) := by decide +kernel
theorem dX4_byteAt_12 : decode cX4_byteAt 12 = .ok (.iload_n 1, 1) := by decide +kernel
theorem dX4_byteAt_13 : decode cX4_byteAt 13 = .ok (.iaload, 1) := by decide +kernel
theorem dX4_byteAt_14 : decode cX4_byteAt 14 = .ok (.goto 4, 3) := by decide +kernel
theorem dX4_byteAt_17 : decode cX4_byteAt 17 = .ok (.iconst (-1), 1) := by decide +kernel
theorem dX4_byteAt_18 : decode cX4_byteAt 18 = .ok (.ireturn, 1) := by decide +kernel
theorem dX4_isLetter_0 : decode cX4_isLetter 0 = .ok (.iload_n 0, 1) := by decide +kernel
theorem dX4_isLetter_1 : decode cX4_isLetter 1 = .ok (.i2l, 1) := by decide +kernel
theorem dX4_isLetter_2 : decode cX4_isLetter 2 = .ok (.ldc2_w 193, 3) := by decide +kernel
theorem dX4_isLetter_5 : decode cX4_isLetter 5 = .ok (.ldc2_w 195, 3) := by decide +kernel
theorem dX4_isLetter_8 : decode cX4_isLetter 8 = .ok (.invokestatic 47, 3) := by decide +kernel
theorem dX4_isLetter_11 : decode cX4_isLetter 11 = .ok (.ireturn, 1) := by decide +kernel
theorem dX4_isDigit_0 : decode cX4_isDigit 0 = .ok (.iload_n 0, 1) := by decide +kernel
theorem dX4_isDigit_1 : decode cX4_isDigit 1 = .ok (.i2l, 1) := by decide +kernel
theorem dX4_isDigit_2 : decode cX4_isDigit 2 = .ok (.ldc2_w 197, 3) := by decide +kernel
theorem dX4_isDigit_5 : decode cX4_isDigit 5 = .ok (.ldc2_w 199, 3) := by decide +kernel
theorem dX4_isDigit_8 : decode cX4_isDigit 8 = .ok (.invokestatic 47, 3) := by decide +kernel
theorem dX4_isDigit_11 : decode cX4_isDigit 11 = .ok (.ireturn, 1) := by decide +kernel
theorem dX4_token_0 : decode cX4_token 0 = .ok (.aload_n 0, 1) := by decide +kernel
theorem dX4_token_1 : decode cX4_token 1 = .ok (.aload_n 0, 1) := by decide +kernel
theorem dX4_token_2 : decode cX4_token 2 = .ok (.getfield 201, 3) := by decide +kernel
theorem dX4_token_5 : decode cX4_token 5 = .ok (.putfield 204, 3) := by decide +kernel
theorem dX4_token_8 : decode cX4_token 8 = .ok (.aload_n 0, 1) := by decide +kernel
theorem dX4_token_9 : decode cX4_token 9 = .ok (.aload_n 0, 1) := by decide +kernel
theorem dX4_token_10 : decode cX4_token 10 = .ok (.getfield 204, 3) := by decide +kernel
theorem dX4_token_13 : decode cX4_token 13 = .ok (.invokevirtual 207, 3) := by decide +kernel
theorem dX4_token_16 : decode cX4_token 16 = .ok (.bipush 32, 2) := by decide +kernel
theorem dX4_token_18 : decode cX4_token 18 = .ok (.if_icmp .ne 16, 3) := by decide +kernel
theorem dX4_token_21 : decode cX4_token 21 = .ok (.aload_n 0, 1) := by decide +kernel
theorem dX4_token_22 : decode cX4_token 22 = .ok (.dup, 1) := by decide +kernel
theorem dX4_token_23 : decode cX4_token 23 = .ok (.getfield 204, 3) := by decide +kernel
theorem dX4_token_26 : decode cX4_token 26 = .ok (.iconst 1, 1) := by decide +kernel
theorem dX4_token_27 : decode cX4_token 27 = .ok (.iadd, 1) := by decide +kernel
theorem dX4_token_28 : decode cX4_token 28 = .ok (.putfield 204, 3) := by decide +kernel
theorem dX4_token_31 : decode cX4_token 31 = .ok (.goto (-23), 3) := by decide +kernel
theorem dX4_token_34 : decode cX4_token 34 = .ok (.aload_n 0, 1) := by decide +kernel
theorem dX4_token_35 : decode cX4_token 35 = .ok (.aload_n 0, 1) := by decide +kernel
theorem dX4_token_36 : decode cX4_token 36 = .ok (.getfield 204, 3) := by decide +kernel
theorem dX4_token_39 : decode cX4_token 39 = .ok (.invokevirtual 207, 3) := by decide +kernel
theorem dX4_token_42 : decode cX4_token 42 = .ok (.invokestatic 210, 3) := by decide +kernel
theorem dX4_token_45 : decode cX4_token 45 = .ok (.istore_n 1, 1) := by decide +kernel
theorem dX4_token_46 : decode cX4_token 46 = .ok (.aload_n 0, 1) := by decide +kernel
theorem dX4_token_47 : decode cX4_token 47 = .ok (.aload_n 0, 1) := by decide +kernel
theorem dX4_token_48 : decode cX4_token 48 = .ok (.getfield 204, 3) := by decide +kernel
theorem dX4_token_51 : decode cX4_token 51 = .ok (.invokevirtual 207, 3) := by decide +kernel
theorem dX4_token_54 : decode cX4_token 54 = .ok (.invokestatic 213, 3) := by decide +kernel
theorem dX4_token_57 : decode cX4_token 57 = .ok (.istore_n 2, 1) := by decide +kernel
theorem dX4_token_58 : decode cX4_token 58 = .ok (.aload_n 0, 1) := by decide +kernel
theorem dX4_token_59 : decode cX4_token 59 = .ok (.aload_n 0, 1) := by decide +kernel
theorem dX4_token_60 : decode cX4_token 60 = .ok (.getfield 204, 3) := by decide +kernel
theorem dX4_token_63 : decode cX4_token 63 = .ok (.aload_n 0, 1) := by decide +kernel
theorem dX4_token_64 : decode cX4_token 64 = .ok (.getfield 190, 3) := by decide +kernel
theorem dX4_token_67 : decode cX4_token 67 = .ok (.if_icmp .ge 12, 3) := by decide +kernel
theorem dX4_token_70 : decode cX4_token 70 = .ok (.aload_n 0, 1) := by decide +kernel
theorem dX4_token_71 : decode cX4_token 71 = .ok (.getfield 204, 3) := by decide +kernel
theorem dX4_token_74 : decode cX4_token 74 = .ok (.iconst 1, 1) := by decide +kernel
theorem dX4_token_75 : decode cX4_token 75 = .ok (.iadd, 1) := by decide +kernel
theorem dX4_token_76 : decode cX4_token 76 = .ok (.goto 7, 3) := by decide +kernel
theorem dX4_token_79 : decode cX4_token 79 = .ok (.aload_n 0, 1) := by decide +kernel
theorem dX4_token_80 : decode cX4_token 80 = .ok (.getfield 204, 3) := by decide +kernel
theorem dX4_token_83 : decode cX4_token 83 = .ok (.putfield 201, 3) := by decide +kernel
theorem dX4_token_86 : decode cX4_token 86 = .ok (.iload_n 1, 1) := by decide +kernel
theorem dX4_token_87 : decode cX4_token 87 = .ok (.ifCond .eq 17, 3) := by decide +kernel
theorem dX4_token_90 : decode cX4_token 90 = .ok (.aload_n 0, 1) := by decide +kernel
theorem dX4_token_91 : decode cX4_token 91 = .ok (.aload_n 0, 1) := by decide +kernel
theorem dX4_token_92 : decode cX4_token 92 = .ok (.getfield 201, 3) := by decide +kernel
theorem dX4_token_95 : decode cX4_token 95 = .ok (.invokevirtual 207, 3) := by decide +kernel
theorem dX4_token_98 : decode cX4_token 98 = .ok (.invokestatic 210, 3) := by decide +kernel
theorem dX4_token_101 : decode cX4_token 101 = .ok (.ifCond .ne 21, 3) := by decide +kernel
theorem dX4_token_104 : decode cX4_token 104 = .ok (.iload_n 2, 1) := by decide +kernel
theorem dX4_token_105 : decode cX4_token 105 = .ok (.ifCond .eq 30, 3) := by decide +kernel
theorem dX4_token_108 : decode cX4_token 108 = .ok (.aload_n 0, 1) := by decide +kernel
theorem dX4_token_109 : decode cX4_token 109 = .ok (.aload_n 0, 1) := by decide +kernel
theorem dX4_token_110 : decode cX4_token 110 = .ok (.getfield 201, 3) := by decide +kernel
theorem dX4_token_113 : decode cX4_token 113 = .ok (.invokevirtual 207, 3) := by decide +kernel
theorem dX4_token_116 : decode cX4_token 116 = .ok (.invokestatic 213, 3) := by decide +kernel
theorem dX4_token_119 : decode cX4_token 119 = .ok (.ifCond .eq 16, 3) := by decide +kernel
theorem dX4_token_122 : decode cX4_token 122 = .ok (.aload_n 0, 1) := by decide +kernel
theorem dX4_token_123 : decode cX4_token 123 = .ok (.dup, 1) := by decide +kernel
theorem dX4_token_124 : decode cX4_token 124 = .ok (.getfield 201, 3) := by decide +kernel
theorem dX4_token_127 : decode cX4_token 127 = .ok (.iconst 1, 1) := by decide +kernel
theorem dX4_token_128 : decode cX4_token 128 = .ok (.iadd, 1) := by decide +kernel
theorem dX4_token_129 : decode cX4_token 129 = .ok (.putfield 201, 3) := by decide +kernel
theorem dX4_token_132 : decode cX4_token 132 = .ok (.goto (-46), 3) := by decide +kernel
theorem dX4_token_135 : decode cX4_token 135 = .ok (.return_, 1) := by decide +kernel
theorem dX4_must_0 : decode cX4_must 0 = .ok (.aload_n 0, 1) := by decide +kernel
theorem dX4_must_1 : decode cX4_must 1 = .ok (.aload_n 0, 1) := by decide +kernel
theorem dX4_must_2 : decode cX4_must 2 = .ok (.getfield 216, 3) := by decide +kernel
theorem dX4_must_5 : decode cX4_must 5 = .ok (.ifCond .ne 7, 3) := by decide +kernel
theorem dX4_must_8 : decode cX4_must 8 = .ok (.iload_n 1, 1) := by decide +kernel
theorem dX4_must_9 : decode cX4_must 9 = .ok (.ifCond .ne 7, 3) := by decide +kernel
theorem dX4_must_12 : decode cX4_must 12 = .ok (.iconst 1, 1) := by decide +kernel
theorem dX4_must_13 : decode cX4_must 13 = .ok (.goto 4, 3) := by decide +kernel
theorem dX4_must_16 : decode cX4_must 16 = .ok (.iconst 0, 1) := by decide +kernel
theorem dX4_must_17 : decode cX4_must 17 = .ok (.putfield 216, 3) := by decide +kernel
theorem dX4_must_20 : decode cX4_must 20 = .ok (.aload_n 0, 1) := by decide +kernel
theorem dX4_must_21 : decode cX4_must 21 = .ok (.getfield 216, 3) := by decide +kernel
theorem dX4_must_24 : decode cX4_must 24 = .ok (.ifCond .ne 7, 3) := by decide +kernel
theorem dX4_must_27 : decode cX4_must 27 = .ok (.aload_n 0, 1) := by decide +kernel
theorem dX4_must_28 : decode cX4_must 28 = .ok (.invokevirtual 220, 3) := by decide +kernel
theorem dX4_must_31 : decode cX4_must 31 = .ok (.return_, 1) := by decide +kernel
theorem dX4_word_0 : decode cX4_word 0 = .ok (.lconst 0, 1) := by decide +kernel
theorem dX4_word_1 : decode cX4_word 1 = .ok (.lstore_n 1, 1) := by decide +kernel
theorem dX4_word_2 : decode cX4_word 2 = .ok (.aload_n 0, 1) := by decide +kernel
theorem dX4_word_3 : decode cX4_word 3 = .ok (.getfield 204, 3) := by decide +kernel
theorem dX4_word_6 : decode cX4_word 6 = .ok (.istore_n 3, 1) := by decide +kernel
theorem dX4_word_7 : decode cX4_word 7 = .ok (.iload_n 3, 1) := by decide +kernel
theorem dX4_word_8 : decode cX4_word 8 = .ok (.aload_n 0, 1) := by decide +kernel
theorem dX4_word_9 : decode cX4_word 9 = .ok (.getfield 201, 3) := by decide +kernel
theorem dX4_word_12 : decode cX4_word 12 = .ok (.if_icmp .ge 38, 3) := by decide +kernel
theorem dX4_word_15 : decode cX4_word 15 = .ok (.lload_n 1, 1) := by decide +kernel
theorem dX4_word_16 : decode cX4_word 16 = .ok (.ldc2_w 223, 3) := by decide +kernel
theorem dX4_word_19 : decode cX4_word 19 = .ok (.lcmp, 1) := by decide +kernel
theorem dX4_word_20 : decode cX4_word 20 = .ok (.ifCond .le 7, 3) := by decide +kernel
theorem dX4_word_23 : decode cX4_word 23 = .ok (.lload_n 1, 1) := by decide +kernel
theorem dX4_word_24 : decode cX4_word 24 = .ok (.goto 19, 3) := by decide +kernel
theorem dX4_word_27 : decode cX4_word 27 = .ok (.ldc2_w 225, 3) := by decide +kernel
theorem dX4_word_30 : decode cX4_word 30 = .ok (.lload_n 1, 1) := by decide +kernel
theorem dX4_word_31 : decode cX4_word 31 = .ok (.lmul, 1) := by decide +kernel
theorem dX4_word_32 : decode cX4_word 32 = .ok (.aload_n 0, 1) := by decide +kernel
theorem dX4_word_33 : decode cX4_word 33 = .ok (.getfield 28, 3) := by decide +kernel
theorem dX4_word_36 : decode cX4_word 36 = .ok (.iload_n 3, 1) := by decide +kernel
theorem dX4_word_37 : decode cX4_word 37 = .ok (.iaload, 1) := by decide +kernel
theorem dX4_word_38 : decode cX4_word 38 = .ok (.bipush 96, 2) := by decide +kernel
theorem dX4_word_40 : decode cX4_word 40 = .ok (.isub, 1) := by decide +kernel
theorem dX4_word_41 : decode cX4_word 41 = .ok (.i2l, 1) := by decide +kernel
theorem dX4_word_42 : decode cX4_word 42 = .ok (.ladd, 1) := by decide +kernel
theorem dX4_word_43 : decode cX4_word 43 = .ok (.lstore_n 1, 1) := by decide +kernel
theorem dX4_word_44 : decode cX4_word 44 = .ok (.iinc 3 1, 3) := by decide +kernel
theorem dX4_word_47 : decode cX4_word 47 = .ok (.goto (-40), 3) := by decide +kernel
theorem dX4_word_50 : decode cX4_word 50 = .ok (.aload_n 0, 1) := by decide +kernel
theorem dX4_word_51 : decode cX4_word 51 = .ok (.getfield 216, 3) := by decide +kernel
theorem dX4_word_54 : decode cX4_word 54 = .ok (.ifCond .ne 17, 3) := by decide +kernel
theorem dX4_word_57 : decode cX4_word 57 = .ok (.aload_n 0, 1) := by decide +kernel
theorem dX4_word_58 : decode cX4_word 58 = .ok (.aload_n 0, 1) := by decide +kernel
theorem dX4_word_59 : decode cX4_word 59 = .ok (.getfield 204, 3) := by decide +kernel
theorem dX4_word_62 : decode cX4_word 62 = .ok (.invokevirtual 207, 3) := by decide +kernel
theorem dX4_word_65 : decode cX4_word 65 = .ok (.invokestatic 210, 3) := by decide +kernel
theorem dX4_word_68 : decode cX4_word 68 = .ok (.ifCond .ne 7, 3) := by decide +kernel
theorem dX4_word_71 : decode cX4_word 71 = .ok (.lconst 0, 1) := by decide +kernel
theorem dX4_word_72 : decode cX4_word 72 = .ok (.goto 4, 3) := by decide +kernel
theorem dX4_word_75 : decode cX4_word 75 = .ok (.lload_n 1, 1) := by decide +kernel
theorem dX4_word_76 : decode cX4_word 76 = .ok (.lreturn, 1) := by decide +kernel
theorem dX4_number_0 : decode cX4_number 0 = .ok (.aload_n 0, 1) := by decide +kernel
theorem dX4_number_1 : decode cX4_number 1 = .ok (.getfield 216, 3) := by decide +kernel
theorem dX4_number_4 : decode cX4_number 4 = .ok (.ifCond .eq 4, 3) := by decide +kernel
theorem dX4_number_7 : decode cX4_number 7 = .ok (.return_, 1) := by decide +kernel
theorem dX4_number_8 : decode cX4_number 8 = .ok (.aload_n 0, 1) := by decide +kernel
theorem dX4_number_9 : decode cX4_number 9 = .ok (.aload_n 0, 1) := by decide +kernel
theorem dX4_number_10 : decode cX4_number 10 = .ok (.getfield 204, 3) := by decide +kernel
theorem dX4_number_13 : decode cX4_number 13 = .ok (.invokevirtual 207, 3) := by decide +kernel
theorem dX4_number_16 : decode cX4_number 16 = .ok (.invokestatic 213, 3) := by decide +kernel
theorem dX4_number_19 : decode cX4_number 19 = .ok (.istore_n 3, 1) := by decide +kernel
theorem dX4_number_20 : decode cX4_number 20 = .ok (.iconst 0, 1) := by decide +kernel
theorem dX4_number_21 : decode cX4_number 21 = .ok (.istore 4, 2) := by decide +kernel
theorem dX4_number_23 : decode cX4_number 23 = .ok (.aload_n 0, 1) := by decide +kernel
theorem dX4_number_24 : decode cX4_number 24 = .ok (.getfield 204, 3) := by decide +kernel
theorem dX4_number_27 : decode cX4_number 27 = .ok (.istore 5, 2) := by decide +kernel
theorem dX4_number_29 : decode cX4_number 29 = .ok (.iload 5, 2) := by decide +kernel
theorem dX4_number_31 : decode cX4_number 31 = .ok (.aload_n 0, 1) := by decide +kernel
theorem dX4_number_32 : decode cX4_number 32 = .ok (.getfield 201, 3) := by decide +kernel
theorem dX4_number_35 : decode cX4_number 35 = .ok (.if_icmp .ge 44, 3) := by decide +kernel
theorem dX4_number_38 : decode cX4_number 38 = .ok (.iload_n 3, 1) := by decide +kernel
theorem dX4_number_39 : decode cX4_number 39 = .ok (.ifCond .eq 40, 3) := by decide +kernel
theorem dX4_number_42 : decode cX4_number 42 = .ok (.iload 4, 2) := by decide +kernel
theorem dX4_number_44 : decode cX4_number 44 = .ok (.sipush 999, 3) := by decide +kernel
theorem dX4_number_47 : decode cX4_number 47 = .ok (.if_icmp .le 8, 3) := by decide +kernel
theorem dX4_number_50 : decode cX4_number 50 = .ok (.iload 4, 2) := by decide +kernel
theorem dX4_number_52 : decode cX4_number 52 = .ok (.goto 19, 3) := by decide +kernel
theorem dX4_number_55 : decode cX4_number 55 = .ok (.bipush 10, 2) := by decide +kernel
theorem dX4_number_57 : decode cX4_number 57 = .ok (.iload 4, 2) := by decide +kernel
theorem dX4_number_59 : decode cX4_number 59 = .ok (.imul, 1) := by decide +kernel
theorem dX4_number_60 : decode cX4_number 60 = .ok (.aload_n 0, 1) := by decide +kernel
theorem dX4_number_61 : decode cX4_number 61 = .ok (.getfield 28, 3) := by decide +kernel
theorem dX4_number_64 : decode cX4_number 64 = .ok (.iload 5, 2) := by decide +kernel
theorem dX4_number_66 : decode cX4_number 66 = .ok (.iaload, 1) := by decide +kernel
theorem dX4_number_67 : decode cX4_number 67 = .ok (.iadd, 1) := by decide +kernel
theorem dX4_number_68 : decode cX4_number 68 = .ok (.bipush 48, 2) := by decide +kernel
theorem dX4_number_70 : decode cX4_number 70 = .ok (.isub, 1) := by decide +kernel
theorem dX4_number_71 : decode cX4_number 71 = .ok (.istore 4, 2) := by decide +kernel
theorem dX4_number_73 : decode cX4_number 73 = .ok (.iinc 5 1, 3) := by decide +kernel
theorem dX4_number_76 : decode cX4_number 76 = .ok (.goto (-47), 3) := by decide +kernel
theorem dX4_number_79 : decode cX4_number 79 = .ok (.aload_n 0, 1) := by decide +kernel
theorem dX4_number_80 : decode cX4_number 80 = .ok (.iload 4, 2) := by decide +kernel
theorem dX4_number_82 : decode cX4_number 82 = .ok (.putfield 227, 3) := by decide +kernel
theorem dX4_number_85 : decode cX4_number 85 = .ok (.aload_n 0, 1) := by decide +kernel
theorem dX4_number_86 : decode cX4_number 86 = .ok (.iload_n 3, 1) := by decide +kernel
theorem dX4_number_87 : decode cX4_number 87 = .ok (.ifCond .eq 20, 3) := by decide +kernel
theorem dX4_number_90 : decode cX4_number 90 = .ok (.iload 4, 2) := by decide +kernel
theorem dX4_number_92 : decode cX4_number 92 = .ok (.i2l, 1) := by decide +kernel
theorem dX4_number_93 : decode cX4_number 93 = .ok (.iload_n 1, 1) := by decide +kernel
theorem dX4_number_94 : decode cX4_number 94 = .ok (.i2l, 1) := by decide +kernel
theorem dX4_number_95 : decode cX4_number 95 = .ok (.iload_n 2, 1) := by decide +kernel
theorem dX4_number_96 : decode cX4_number 96 = .ok (.i2l, 1) := by decide +kernel
theorem dX4_number_97 : decode cX4_number 97 = .ok (.invokestatic 47, 3) := by decide +kernel
theorem dX4_number_100 : decode cX4_number 100 = .ok (.ifCond .eq 7, 3) := by decide +kernel
theorem dX4_number_103 : decode cX4_number 103 = .ok (.iconst 1, 1) := by decide +kernel
theorem dX4_number_104 : decode cX4_number 104 = .ok (.goto 4, 3) := by decide +kernel
theorem dX4_number_107 : decode cX4_number 107 = .ok (.iconst 0, 1) := by decide +kernel
theorem dX4_number_108 : decode cX4_number 108 = .ok (.invokevirtual 230, 3) := by decide +kernel
theorem dX4_number_111 : decode cX4_number 111 = .ok (.return_, 1) := by decide +kernel
theorem dX4_kindHere_0 : decode cX4_kindHere 0 = .ok (.aload_n 0, 1) := by decide +kernel
theorem dX4_kindHere_1 : decode cX4_kindHere 1 = .ok (.invokevirtual 234, 3) := by decide +kernel
theorem dX4_kindHere_4 : decode cX4_kindHere 4 = .ok (.lstore_n 1, 1) := by decide +kernel
theorem dX4_kindHere_5 : decode cX4_kindHere 5 = .ok (.lload_n 1, 1) := by decide +kernel
theorem dX4_kindHere_6 : decode cX4_kindHere 6 = .ok (.ldc2_w 238, 3) := by decide +kernel
theorem dX4_kindHere_9 : decode cX4_kindHere 9 = .ok (.lcmp, 1) := by decide +kernel
theorem dX4_kindHere_10 : decode cX4_kindHere 10 = .ok (.ifCond .ne 7, 3) := by decide +kernel
theorem dX4_kindHere_13 : decode cX4_kindHere 13 = .ok (.iconst 0, 1) := by decide +kernel
theorem dX4_kindHere_14 : decode cX4_kindHere 14 = .ok (.goto 64, 3) := by decide +kernel
theorem dX4_kindHere_17 : decode cX4_kindHere 17 = .ok (.lload_n 1, 1) := by decide +kernel
theorem dX4_kindHere_18 : decode cX4_kindHere 18 = .ok (.ldc2_w 240, 3) := by decide +kernel
theorem dX4_kindHere_21 : decode cX4_kindHere 21 = .ok (.lcmp, 1) := by decide +kernel
theorem dX4_kindHere_22 : decode cX4_kindHere 22 = .ok (.ifCond .ne 7, 3) := by decide +kernel
theorem dX4_kindHere_25 : decode cX4_kindHere 25 = .ok (.iconst 1, 1) := by decide +kernel
theorem dX4_kindHere_26 : decode cX4_kindHere 26 = .ok (.goto 52, 3) := by decide +kernel
theorem dX4_kindHere_29 : decode cX4_kindHere 29 = .ok (.lload_n 1, 1) := by decide +kernel
theorem dX4_kindHere_30 : decode cX4_kindHere 30 = .ok (.ldc2_w 242, 3) := by decide +kernel
theorem dX4_kindHere_33 : decode cX4_kindHere 33 = .ok (.lcmp, 1) := by decide +kernel
theorem dX4_kindHere_34 : decode cX4_kindHere 34 = .ok (.ifCond .ne 7, 3) := by decide +kernel
theorem dX4_kindHere_37 : decode cX4_kindHere 37 = .ok (.iconst 2, 1) := by decide +kernel
theorem dX4_kindHere_38 : decode cX4_kindHere 38 = .ok (.goto 40, 3) := by decide +kernel
theorem dX4_kindHere_41 : decode cX4_kindHere 41 = .ok (.lload_n 1, 1) := by decide +kernel
theorem dX4_kindHere_42 : decode cX4_kindHere 42 = .ok (.ldc2_w 244, 3) := by decide +kernel
theorem dX4_kindHere_45 : decode cX4_kindHere 45 = .ok (.lcmp, 1) := by decide +kernel
theorem dX4_kindHere_46 : decode cX4_kindHere 46 = .ok (.ifCond .ne 7, 3) := by decide +kernel
theorem dX4_kindHere_49 : decode cX4_kindHere 49 = .ok (.iconst 3, 1) := by decide +kernel
theorem dX4_kindHere_50 : decode cX4_kindHere 50 = .ok (.goto 28, 3) := by decide +kernel
theorem dX4_kindHere_53 : decode cX4_kindHere 53 = .ok (.lload_n 1, 1) := by decide +kernel
theorem dX4_kindHere_54 : decode cX4_kindHere 54 = .ok (.ldc2_w 246, 3) := by decide +kernel
theorem dX4_kindHere_57 : decode cX4_kindHere 57 = .ok (.lcmp, 1) := by decide +kernel
theorem dX4_kindHere_58 : decode cX4_kindHere 58 = .ok (.ifCond .ne 7, 3) := by decide +kernel
theorem dX4_kindHere_61 : decode cX4_kindHere 61 = .ok (.iconst 4, 1) := by decide +kernel
theorem dX4_kindHere_62 : decode cX4_kindHere 62 = .ok (.goto 16, 3) := by decide +kernel
theorem dX4_kindHere_65 : decode cX4_kindHere 65 = .ok (.lload_n 1, 1) := by decide +kernel
theorem dX4_kindHere_66 : decode cX4_kindHere 66 = .ok (.ldc2_w 248, 3) := by decide +kernel
theorem dX4_kindHere_69 : decode cX4_kindHere 69 = .ok (.lcmp, 1) := by decide +kernel
theorem dX4_kindHere_70 : decode cX4_kindHere 70 = .ok (.ifCond .ne 7, 3) := by decide +kernel
theorem dX4_kindHere_73 : decode cX4_kindHere 73 = .ok (.iconst 5, 1) := by decide +kernel
theorem dX4_kindHere_74 : decode cX4_kindHere 74 = .ok (.goto 4, 3) := by decide +kernel
theorem dX4_kindHere_77 : decode cX4_kindHere 77 = .ok (.iconst (-1), 1) := by decide +kernel
theorem dX4_kindHere_78 : decode cX4_kindHere 78 = .ok (.ireturn, 1) := by decide +kernel
theorem dX4_personItem_0 : decode cX4_personItem 0 = .ok (.aload_n 0, 1) := by decide +kernel
theorem dX4_personItem_1 : decode cX4_personItem 1 = .ok (.aload_n 0, 1) := by decide +kernel
theorem dX4_personItem_2 : decode cX4_personItem 2 = .ok (.getfield 7, 3) := by decide +kernel
theorem dX4_personItem_5 : decode cX4_personItem 5 = .ok (.iconst 0, 1) := by decide +kernel
theorem dX4_personItem_6 : decode cX4_personItem 6 = .ok (.iaload, 1) := by decide +kernel
theorem dX4_personItem_7 : decode cX4_personItem 7 = .ok (.bipush 8, 2) := by decide +kernel
theorem dX4_personItem_9 : decode cX4_personItem 9 = .ok (.if_icmp .ge 7, 3) := by decide +kernel
theorem dX4_personItem_12 : decode cX4_personItem 12 = .ok (.iconst 1, 1) := by decide +kernel
theorem dX4_personItem_13 : decode cX4_personItem 13 = .ok (.goto 4, 3) := by decide +kernel
theorem dX4_personItem_16 : decode cX4_personItem 16 = .ok (.iconst 0, 1) := by decide +kernel
theorem dX4_personItem_17 : decode cX4_personItem 17 = .ok (.invokevirtual 230, 3) := by decide +kernel
theorem dX4_personItem_20 : decode cX4_personItem 20 = .ok (.aload_n 0, 1) := by decide +kernel
theorem dX4_personItem_21 : decode cX4_personItem 21 = .ok (.aload_n 0, 1) := by decide +kernel
theorem dX4_personItem_22 : decode cX4_personItem 22 = .ok (.invokevirtual 234, 3) := by decide +kernel
theorem dX4_personItem_25 : decode cX4_personItem 25 = .ok (.ldc2_w 250, 3) := by decide +kernel
theorem dX4_personItem_28 : decode cX4_personItem 28 = .ok (.lcmp, 1) := by decide +kernel
theorem dX4_personItem_29 : decode cX4_personItem 29 = .ok (.ifCond .ne 7, 3) := by decide +kernel
theorem dX4_personItem_32 : decode cX4_personItem 32 = .ok (.iconst 1, 1) := by decide +kernel
theorem dX4_personItem_33 : decode cX4_personItem 33 = .ok (.goto 4, 3) := by decide +kernel
theorem dX4_personItem_36 : decode cX4_personItem 36 = .ok (.iconst 0, 1) := by decide +kernel
theorem dX4_personItem_37 : decode cX4_personItem 37 = .ok (.invokevirtual 230, 3) := by decide +kernel
theorem dX4_personItem_40 : decode cX4_personItem 40 = .ok (.aload_n 0, 1) := by decide +kernel
theorem dX4_personItem_41 : decode cX4_personItem 41 = .ok (.iconst 0, 1) := by decide +kernel
theorem dX4_personItem_42 : decode cX4_personItem 42 = .ok (.bipush 47, 2) := by decide +kernel
theorem dX4_personItem_44 : decode cX4_personItem 44 = .ok (.invokevirtual 252, 3) := by decide +kernel
theorem dX4_personItem_47 : decode cX4_personItem 47 = .ok (.aload_n 0, 1) := by decide +kernel
theorem dX4_personItem_48 : decode cX4_personItem 48 = .ok (.getfield 216, 3) := by decide +kernel
theorem dX4_personItem_51 : decode cX4_personItem 51 = .ok (.ifCond .eq 4, 3) := by decide +kernel
theorem dX4_personItem_54 : decode cX4_personItem 54 = .ok (.return_, 1) := by decide +kernel
theorem dX4_personItem_55 : decode cX4_personItem 55 = .ok (.aload_n 0, 1) := by decide +kernel
theorem dX4_personItem_56 : decode cX4_personItem 56 = .ok (.iload_n 1, 1) := by decide +kernel
theorem dX4_personItem_57 : decode cX4_personItem 57 = .ok (.aload_n 0, 1) := by decide +kernel
theorem dX4_personItem_58 : decode cX4_personItem 58 = .ok (.getfield 227, 3) := by decide +kernel
theorem dX4_personItem_61 : decode cX4_personItem 61 = .ok (.invokevirtual 79, 3) := by decide +kernel
theorem dX4_personItem_64 : decode cX4_personItem 64 = .ok (.istore_n 2, 1) := by decide +kernel
theorem dX4_personItem_65 : decode cX4_personItem 65 = .ok (.aload_n 0, 1) := by decide +kernel
theorem dX4_personItem_66 : decode cX4_personItem 66 = .ok (.invokevirtual 234, 3) := by decide +kernel
theorem dX4_personItem_69 : decode cX4_personItem 69 = .ok (.ldc2_w 255, 3) := by decide +kernel
theorem dX4_personItem_72 : decode cX4_personItem 72 = .ok (.lcmp, 1) := by decide +kernel
theorem dX4_personItem_73 : decode cX4_personItem 73 = .ok (.ifCond .ne 29, 3) := by decide +kernel
theorem dX4_personItem_76 : decode cX4_personItem 76 = .ok (.aload_n 0, 1) := by decide +kernel
theorem dX4_personItem_77 : decode cX4_personItem 77 = .ok (.iconst 1, 1) := by decide +kernel
theorem dX4_personItem_78 : decode cX4_personItem 78 = .ok (.invokevirtual 230, 3) := by decide +kernel
theorem dX4_personItem_81 : decode cX4_personItem 81 = .ok (.aload_n 0, 1) := by decide +kernel
theorem dX4_personItem_82 : decode cX4_personItem 82 = .ok (.iconst 0, 1) := by decide +kernel
theorem dX4_personItem_83 : decode cX4_personItem 83 = .ok (.bipush 9, 2) := by decide +kernel
theorem dX4_personItem_85 : decode cX4_personItem 85 = .ok (.invokevirtual 252, 3) := by decide +kernel
theorem dX4_personItem_88 : decode cX4_personItem 88 = .ok (.aload_n 0, 1) := by decide +kernel
theorem dX4_personItem_89 : decode cX4_personItem 89 = .ok (.getfield 7, 3) := by decide +kernel
theorem dX4_personItem_92 : decode cX4_personItem 92 = .ok (.iload_n 2, 1) := by decide +kernel
theorem dX4_personItem_93 : decode cX4_personItem 93 = .ok (.iconst 2, 1) := by decide +kernel
theorem dX4_personItem_94 : decode cX4_personItem 94 = .ok (.invokestatic 57, 3) := by decide +kernel
theorem dX4_personItem_97 : decode cX4_personItem 97 = .ok (.aload_n 0, 1) := by decide +kernel
theorem dX4_personItem_98 : decode cX4_personItem 98 = .ok (.getfield 227, 3) := by decide +kernel
theorem dX4_personItem_101 : decode cX4_personItem 101 = .ok (.iastore, 1) := by decide +kernel
theorem dX4_personItem_102 : decode cX4_personItem 102 = .ok (.aload_n 0, 1) := by decide +kernel
theorem dX4_personItem_103 : decode cX4_personItem 103 = .ok (.invokevirtual 234, 3) := by decide +kernel
theorem dX4_personItem_106 : decode cX4_personItem 106 = .ok (.ldc2_w 257, 3) := by decide +kernel
theorem dX4_personItem_109 : decode cX4_personItem 109 = .ok (.lcmp, 1) := by decide +kernel
theorem dX4_personItem_110 : decode cX4_personItem 110 = .ok (.ifCond .ne 19, 3) := by decide +kernel
theorem dX4_personItem_113 : decode cX4_personItem 113 = .ok (.aload_n 0, 1) := by decide +kernel
theorem dX4_personItem_114 : decode cX4_personItem 114 = .ok (.iconst 1, 1) := by decide +kernel
theorem dX4_personItem_115 : decode cX4_personItem 115 = .ok (.invokevirtual 230, 3) := by decide +kernel
theorem dX4_personItem_118 : decode cX4_personItem 118 = .ok (.aload_n 0, 1) := by decide +kernel
theorem dX4_personItem_119 : decode cX4_personItem 119 = .ok (.getfield 7, 3) := by decide +kernel
theorem dX4_personItem_122 : decode cX4_personItem 122 = .ok (.iload_n 2, 1) := by decide +kernel
theorem dX4_personItem_123 : decode cX4_personItem 123 = .ok (.iconst 3, 1) := by decide +kernel
theorem dX4_personItem_124 : decode cX4_personItem 124 = .ok (.invokestatic 57, 3) := by decide +kernel
theorem dX4_personItem_127 : decode cX4_personItem 127 = .ok (.iconst 1, 1) := by decide +kernel
theorem dX4_personItem_128 : decode cX4_personItem 128 = .ok (.iastore, 1) := by decide +kernel
theorem dX4_personItem_129 : decode cX4_personItem 129 = .ok (.aload_n 0, 1) := by decide +kernel
theorem dX4_personItem_130 : decode cX4_personItem 130 = .ok (.invokevirtual 234, 3) := by decide +kernel
theorem dX4_personItem_133 : decode cX4_personItem 133 = .ok (.ldc2_w 259, 3) := by decide +kernel
theorem dX4_personItem_136 : decode cX4_personItem 136 = .ok (.lcmp, 1) := by decide +kernel
theorem dX4_personItem_137 : decode cX4_personItem 137 = .ok (.ifCond .ne 53, 3) := by decide +kernel
theorem dX4_personItem_140 : decode cX4_personItem 140 = .ok (.aload_n 0, 1) := by decide +kernel
theorem dX4_personItem_141 : decode cX4_personItem 141 = .ok (.iconst 1, 1) := by decide +kernel
theorem dX4_personItem_142 : decode cX4_personItem 142 = .ok (.invokevirtual 230, 3) := by decide +kernel
theorem dX4_personItem_145 : decode cX4_personItem 145 = .ok (.aload_n 0, 1) := by decide +kernel
theorem dX4_personItem_146 : decode cX4_personItem 146 = .ok (.iconst 0, 1) := by decide +kernel
theorem dX4_personItem_147 : decode cX4_personItem 147 = .ok (.iconst 5, 1) := by decide +kernel
theorem dX4_personItem_148 : decode cX4_personItem 148 = .ok (.invokevirtual 252, 3) := by decide +kernel
theorem dX4_personItem_151 : decode cX4_personItem 151 = .ok (.aload_n 0, 1) := by decide +kernel
theorem dX4_personItem_152 : decode cX4_personItem 152 = .ok (.getfield 216, 3) := by decide +kernel
theorem dX4_personItem_155 : decode cX4_personItem 155 = .ok (.ifCond .eq 7, 3) := by decide +kernel
theorem dX4_personItem_158 : decode cX4_personItem 158 = .ok (.iconst 0, 1) := by decide +kernel
theorem dX4_personItem_159 : decode cX4_personItem 159 = .ok (.goto 7, 3) := by decide +kernel
theorem dX4_personItem_162 : decode cX4_personItem 162 = .ok (.aload_n 0, 1) := by decide +kernel
theorem dX4_personItem_163 : decode cX4_personItem 163 = .ok (.getfield 227, 3) := by decide +kernel
theorem dX4_personItem_166 : decode cX4_personItem 166 = .ok (.istore_n 3, 1) := by decide +kernel
theorem dX4_personItem_167 : decode cX4_personItem 167 = .ok (.aload_n 0, 1) := by decide +kernel
theorem dX4_personItem_168 : decode cX4_personItem 168 = .ok (.iconst 0, 1) := by decide +kernel
theorem dX4_personItem_169 : decode cX4_personItem 169 = .ok (.bipush 99, 2) := by decide +kernel
theorem dX4_personItem_171 : decode cX4_personItem 171 = .ok (.invokevirtual 252, 3) := by decide +kernel
theorem dX4_personItem_174 : decode cX4_personItem 174 = .ok (.aload_n 0, 1) := by decide +kernel
theorem dX4_personItem_175 : decode cX4_personItem 175 = .ok (.getfield 7, 3) := by decide +kernel
theorem dX4_personItem_178 : decode cX4_personItem 178 = .ok (.iload_n 2, 1) := by decide +kernel
theorem dX4_personItem_179 : decode cX4_personItem 179 = .ok (.iconst 4, 1) := by decide +kernel
theorem dX4_personItem_180 : decode cX4_personItem 180 = .ok (.iload_n 3, 1) := by decide +kernel
theorem dX4_personItem_181 : decode cX4_personItem 181 = .ok (.iadd, 1) := by decide +kernel
theorem dX4_personItem_182 : decode cX4_personItem 182 = .ok (.invokestatic 57, 3) := by decide +kernel
theorem dX4_personItem_185 : decode cX4_personItem 185 = .ok (.aload_n 0, 1) := by decide +kernel
theorem dX4_personItem_186 : decode cX4_personItem 186 = .ok (.getfield 227, 3) := by decide +kernel
theorem dX4_personItem_189 : decode cX4_personItem 189 = .ok (.iastore, 1) := by decide +kernel
theorem dX4_personItem_190 : decode cX4_personItem 190 = .ok (.return_, 1) := by decide +kernel
theorem dX4_item_0 : decode cX4_item 0 = .ok (.aload_n 0, 1) := by decide +kernel
theorem dX4_item_1 : decode cX4_item 1 = .ok (.invokevirtual 261, 3) := by decide +kernel
theorem dX4_item_4 : decode cX4_item 4 = .ok (.istore_n 1, 1) := by decide +kernel
theorem dX4_item_5 : decode cX4_item 5 = .ok (.aload_n 0, 1) := by decide +kernel
theorem dX4_item_6 : decode cX4_item 6 = .ok (.invokevirtual 234, 3) := by decide +kernel
theorem dX4_item_9 : decode cX4_item 9 = .ok (.lstore_n 2, 1) := by decide +kernel
theorem dX4_item_10 : decode cX4_item 10 = .ok (.iload_n 1, 1) := by decide +kernel
theorem dX4_item_11 : decode cX4_item 11 = .ok (.ifCond .lt 11, 3) := by decide +kernel
theorem dX4_item_14 : decode cX4_item 14 = .ok (.aload_n 0, 1) := by decide +kernel
theorem dX4_item_15 : decode cX4_item 15 = .ok (.iload_n 1, 1) := by decide +kernel
theorem dX4_item_16 : decode cX4_item 16 = .ok (.invokevirtual 264, 3) := by decide +kernel
theorem dX4_item_19 : decode cX4_item 19 = .ok (.goto 101, 3) := by decide +kernel
theorem dX4_item_22 : decode cX4_item 22 = .ok (.lload_n 2, 1) := by decide +kernel
theorem dX4_item_23 : decode cX4_item 23 = .ok (.ldc2_w 267, 3) := by decide +kernel
theorem dX4_item_26 : decode cX4_item 26 = .ok (.lcmp, 1) := by decide +kernel
theorem dX4_item_27 : decode cX4_item 27 = .ok (.ifCond .ne 43, 3) := by decide +kernel
theorem dX4_item_30 : decode cX4_item 30 = .ok (.aload_n 0, 1) := by decide +kernel
theorem dX4_item_31 : decode cX4_item 31 = .ok (.iconst 1, 1) := by decide +kernel
theorem dX4_item_32 : decode cX4_item 32 = .ok (.invokevirtual 230, 3) := by decide +kernel
theorem dX4_item_35 : decode cX4_item 35 = .ok (.aload_n 0, 1) := by decide +kernel
theorem dX4_item_36 : decode cX4_item 36 = .ok (.iconst 0, 1) := by decide +kernel
theorem dX4_item_37 : decode cX4_item 37 = .ok (.iconst 4, 1) := by decide +kernel
theorem dX4_item_38 : decode cX4_item 38 = .ok (.invokevirtual 252, 3) := by decide +kernel
theorem dX4_item_41 : decode cX4_item 41 = .ok (.aload_n 0, 1) := by decide +kernel
theorem dX4_item_42 : decode cX4_item 42 = .ok (.getfield 7, 3) := by decide +kernel
theorem dX4_item_45 : decode cX4_item 45 = .ok (.iconst 2, 1) := by decide +kernel
theorem dX4_item_46 : decode cX4_item 46 = .ok (.aload_n 0, 1) := by decide +kernel
theorem dX4_item_47 : decode cX4_item 47 = .ok (.getfield 216, 3) := by decide +kernel
theorem dX4_item_50 : decode cX4_item 50 = .ok (.ifCond .eq 12, 3) := by decide +kernel
theorem dX4_item_53 : decode cX4_item 53 = .ok (.aload_n 0, 1) := by decide +kernel
theorem dX4_item_54 : decode cX4_item 54 = .ok (.getfield 7, 3) := by decide +kernel
theorem dX4_item_57 : decode cX4_item 57 = .ok (.iconst 2, 1) := by decide +kernel
theorem dX4_item_58 : decode cX4_item 58 = .ok (.iaload, 1) := by decide +kernel
theorem dX4_item_59 : decode cX4_item 59 = .ok (.goto 7, 3) := by decide +kernel
theorem dX4_item_62 : decode cX4_item 62 = .ok (.aload_n 0, 1) := by decide +kernel
theorem dX4_item_63 : decode cX4_item 63 = .ok (.getfield 227, 3) := by decide +kernel
theorem dX4_item_66 : decode cX4_item 66 = .ok (.iastore, 1) := by decide +kernel
theorem dX4_item_67 : decode cX4_item 67 = .ok (.goto 53, 3) := by decide +kernel
theorem dX4_item_70 : decode cX4_item 70 = .ok (.aload_n 0, 1) := by decide +kernel
theorem dX4_item_71 : decode cX4_item 71 = .ok (.lload_n 2, 1) := by decide +kernel
theorem dX4_item_72 : decode cX4_item 72 = .ok (.ldc2_w 269, 3) := by decide +kernel
theorem dX4_item_75 : decode cX4_item 75 = .ok (.lcmp, 1) := by decide +kernel
theorem dX4_item_76 : decode cX4_item 76 = .ok (.ifCond .ne 7, 3) := by decide +kernel
theorem dX4_item_79 : decode cX4_item 79 = .ok (.iconst 1, 1) := by decide +kernel
theorem dX4_item_80 : decode cX4_item 80 = .ok (.goto 4, 3) := by decide +kernel
theorem dX4_item_83 : decode cX4_item 83 = .ok (.iconst 0, 1) := by decide +kernel
theorem dX4_item_84 : decode cX4_item 84 = .ok (.invokevirtual 230, 3) := by decide +kernel
theorem dX4_item_87 : decode cX4_item 87 = .ok (.aload_n 0, 1) := by decide +kernel
theorem dX4_item_88 : decode cX4_item 88 = .ok (.iconst 1, 1) := by decide +kernel
theorem dX4_item_89 : decode cX4_item 89 = .ok (.bipush 99, 2) := by decide +kernel
theorem dX4_item_91 : decode cX4_item 91 = .ok (.invokevirtual 252, 3) := by decide +kernel
theorem dX4_item_94 : decode cX4_item 94 = .ok (.aload_n 0, 1) := by decide +kernel
theorem dX4_item_95 : decode cX4_item 95 = .ok (.getfield 7, 3) := by decide +kernel
theorem dX4_item_98 : decode cX4_item 98 = .ok (.iconst 3, 1) := by decide +kernel
theorem dX4_item_99 : decode cX4_item 99 = .ok (.aload_n 0, 1) := by decide +kernel
theorem dX4_item_100 : decode cX4_item 100 = .ok (.getfield 216, 3) := by decide +kernel
theorem dX4_item_103 : decode cX4_item 103 = .ok (.ifCond .eq 12, 3) := by decide +kernel
theorem dX4_item_106 : decode cX4_item 106 = .ok (.aload_n 0, 1) := by decide +kernel
theorem dX4_item_107 : decode cX4_item 107 = .ok (.getfield 7, 3) := by decide +kernel
theorem dX4_item_110 : decode cX4_item 110 = .ok (.iconst 3, 1) := by decide +kernel
theorem dX4_item_111 : decode cX4_item 111 = .ok (.iaload, 1) := by decide +kernel
theorem dX4_item_112 : decode cX4_item 112 = .ok (.goto 7, 3) := by decide +kernel
theorem dX4_item_115 : decode cX4_item 115 = .ok (.aload_n 0, 1) := by decide +kernel
theorem dX4_item_116 : decode cX4_item 116 = .ok (.getfield 227, 3) := by decide +kernel
theorem dX4_item_119 : decode cX4_item 119 = .ok (.iastore, 1) := by decide +kernel
theorem dX4_item_120 : decode cX4_item 120 = .ok (.return_, 1) := by decide +kernel
theorem dX4_hall_0 : decode cX4_hall 0 = .ok (.aload_n 0, 1) := by decide +kernel
theorem dX4_hall_1 : decode cX4_hall 1 = .ok (.invokevirtual 271, 3) := by decide +kernel
theorem dX4_hall_4 : decode cX4_hall 4 = .ok (.aload_n 0, 1) := by decide +kernel
theorem dX4_hall_5 : decode cX4_hall 5 = .ok (.iconst 0, 1) := by decide +kernel
theorem dX4_hall_6 : decode cX4_hall 6 = .ok (.putfield 216, 3) := by decide +kernel
theorem dX4_hall_9 : decode cX4_hall 9 = .ok (.aload_n 0, 1) := by decide +kernel
theorem dX4_hall_10 : decode cX4_hall 10 = .ok (.iconst 0, 1) := by decide +kernel
theorem dX4_hall_11 : decode cX4_hall 11 = .ok (.putfield 201, 3) := by decide +kernel
theorem dX4_hall_14 : decode cX4_hall 14 = .ok (.aload_n 0, 1) := by decide +kernel
theorem dX4_hall_15 : decode cX4_hall 15 = .ok (.invokevirtual 220, 3) := by decide +kernel
theorem dX4_hall_18 : decode cX4_hall 18 = .ok (.iconst 1, 1) := by decide +kernel
theorem dX4_hall_19 : decode cX4_hall 19 = .ok (.istore_n 1, 1) := by decide +kernel
theorem dX4_hall_20 : decode cX4_hall 20 = .ok (.aload_n 0, 1) := by decide +kernel
theorem dX4_hall_21 : decode cX4_hall 21 = .ok (.invokevirtual 274, 3) := by decide +kernel
theorem dX4_hall_24 : decode cX4_hall 24 = .ok (.aload_n 0, 1) := by decide +kernel
theorem dX4_hall_25 : decode cX4_hall 25 = .ok (.getfield 216, 3) := by decide +kernel
theorem dX4_hall_28 : decode cX4_hall 28 = .ok (.ifCond .ne 31, 3) := by decide +kernel
theorem dX4_hall_31 : decode cX4_hall 31 = .ok (.aload_n 0, 1) := by decide +kernel
theorem dX4_hall_32 : decode cX4_hall 32 = .ok (.aload_n 0, 1) := by decide +kernel
theorem dX4_hall_33 : decode cX4_hall 33 = .ok (.getfield 204, 3) := by decide +kernel
theorem dX4_hall_36 : decode cX4_hall 36 = .ok (.invokevirtual 207, 3) := by decide +kernel
theorem dX4_hall_39 : decode cX4_hall 39 = .ok (.bipush 59, 2) := by decide +kernel
theorem dX4_hall_41 : decode cX4_hall 41 = .ok (.if_icmp .ne 18, 3) := by decide +kernel
theorem dX4_hall_44 : decode cX4_hall 44 = .ok (.aload_n 0, 1) := by decide +kernel
theorem dX4_hall_45 : decode cX4_hall 45 = .ok (.iconst 1, 1) := by decide +kernel
theorem dX4_hall_46 : decode cX4_hall 46 = .ok (.invokevirtual 230, 3) := by decide +kernel
theorem dX4_hall_49 : decode cX4_hall 49 = .ok (.aload_n 0, 1) := by decide +kernel
theorem dX4_hall_50 : decode cX4_hall 50 = .ok (.invokevirtual 274, 3) := by decide +kernel
theorem dX4_hall_53 : decode cX4_hall 53 = .ok (.iinc 1 1, 3) := by decide +kernel
theorem dX4_hall_56 : decode cX4_hall 56 = .ok (.goto (-32), 3) := by decide +kernel
theorem dX4_hall_59 : decode cX4_hall 59 = .ok (.aload_n 0, 1) := by decide +kernel
theorem dX4_hall_60 : decode cX4_hall 60 = .ok (.aload_n 0, 1) := by decide +kernel
theorem dX4_hall_61 : decode cX4_hall 61 = .ok (.getfield 216, 3) := by decide +kernel
theorem dX4_hall_64 : decode cX4_hall 64 = .ok (.ifCond .ne 14, 3) := by decide +kernel
theorem dX4_hall_67 : decode cX4_hall 67 = .ok (.aload_n 0, 1) := by decide +kernel
theorem dX4_hall_68 : decode cX4_hall 68 = .ok (.getfield 204, 3) := by decide +kernel
theorem dX4_hall_71 : decode cX4_hall 71 = .ok (.aload_n 0, 1) := by decide +kernel
theorem dX4_hall_72 : decode cX4_hall 72 = .ok (.getfield 190, 3) := by decide +kernel
theorem dX4_hall_75 : decode cX4_hall 75 = .ok (.if_icmp .ge 7, 3) := by decide +kernel
theorem dX4_hall_78 : decode cX4_hall 78 = .ok (.iconst 1, 1) := by decide +kernel
theorem dX4_hall_79 : decode cX4_hall 79 = .ok (.goto 4, 3) := by decide +kernel
theorem dX4_hall_82 : decode cX4_hall 82 = .ok (.iconst 0, 1) := by decide +kernel
theorem dX4_hall_83 : decode cX4_hall 83 = .ok (.putfield 216, 3) := by decide +kernel
theorem dX4_hall_86 : decode cX4_hall 86 = .ok (.aload_n 0, 1) := by decide +kernel
theorem dX4_hall_87 : decode cX4_hall 87 = .ok (.getfield 216, 3) := by decide +kernel
theorem dX4_hall_90 : decode cX4_hall 90 = .ok (.ifCond .eq 7, 3) := by decide +kernel
theorem dX4_hall_93 : decode cX4_hall 93 = .ok (.aload_n 0, 1) := by decide +kernel
theorem dX4_hall_94 : decode cX4_hall 94 = .ok (.invokevirtual 277, 3) := by decide +kernel
theorem dX4_hall_97 : decode cX4_hall 97 = .ok (.aload_n 0, 1) := by decide +kernel
theorem dX4_hall_98 : decode cX4_hall 98 = .ok (.iconst 0, 1) := by decide +kernel
theorem dX4_hall_99 : decode cX4_hall 99 = .ok (.putfield 190, 3) := by decide +kernel
theorem dX4_hall_102 : decode cX4_hall 102 = .ok (.aload_n 0, 1) := by decide +kernel
theorem dX4_hall_103 : decode cX4_hall 103 = .ok (.getfield 216, 3) := by decide +kernel
theorem dX4_hall_106 : decode cX4_hall 106 = .ok (.ifCond .eq 12, 3) := by decide +kernel
theorem dX4_hall_109 : decode cX4_hall 109 = .ok (.iconst (-1), 1) := by decide +kernel
theorem dX4_hall_110 : decode cX4_hall 110 = .ok (.aload_n 0, 1) := by decide +kernel
theorem dX4_hall_111 : decode cX4_hall 111 = .ok (.getfield 204, 3) := by decide +kernel
theorem dX4_hall_114 : decode cX4_hall 114 = .ok (.isub, 1) := by decide +kernel
theorem dX4_hall_115 : decode cX4_hall 115 = .ok (.goto 4, 3) := by decide +kernel
theorem dX4_hall_118 : decode cX4_hall 118 = .ok (.iload_n 1, 1) := by decide +kernel
theorem dX4_hall_119 : decode cX4_hall 119 = .ok (.ireturn, 1) := by decide +kernel
theorem dX4_isOne_0 : decode cX4_isOne 0 = .ok (.iload_n 0, 1) := by decide +kernel
theorem dX4_isOne_1 : decode cX4_isOne 1 = .ok (.i2l, 1) := by decide +kernel
theorem dX4_isOne_2 : decode cX4_isOne 2 = .ok (.lconst 0, 1) := by decide +kernel
theorem dX4_isOne_3 : decode cX4_isOne 3 = .ok (.ldc2_w 280, 3) := by decide +kernel
theorem dX4_isOne_6 : decode cX4_isOne 6 = .ok (.invokestatic 47, 3) := by decide +kernel
theorem dX4_isOne_9 : decode cX4_isOne 9 = .ok (.ireturn, 1) := by decide +kernel
theorem dX4_sheet_0 : decode cX4_sheet 0 = .ok (.iload_n 1, 1) := by decide +kernel
theorem dX4_sheet_1 : decode cX4_sheet 1 = .ok (.invokestatic 282, 3) := by decide +kernel
theorem dX4_sheet_4 : decode cX4_sheet 4 = .ok (.ifCond .eq 25, 3) := by decide +kernel
theorem dX4_sheet_7 : decode cX4_sheet 7 = .ok (.iload_n 2, 1) := by decide +kernel
theorem dX4_sheet_8 : decode cX4_sheet 8 = .ok (.ifCond .eq 28, 3) := by decide +kernel
theorem dX4_sheet_11 : decode cX4_sheet 11 = .ok (.iload_n 2, 1) := by decide +kernel
theorem dX4_sheet_12 : decode cX4_sheet 12 = .ok (.bipush 8, 2) := by decide +kernel
theorem dX4_sheet_14 : decode cX4_sheet 14 = .ok (.if_icmp .eq 22, 3) := by decide +kernel
theorem dX4_sheet_17 : decode cX4_sheet 17 = .ok (.iload_n 2, 1) := by decide +kernel
theorem dX4_sheet_18 : decode cX4_sheet 18 = .ok (.bipush 16, 2) := by decide +kernel
theorem dX4_sheet_20 : decode cX4_sheet 20 = .ok (.if_icmp .eq 16, 3) := by decide +kernel
theorem dX4_sheet_23 : decode cX4_sheet 23 = .ok (.iload_n 2, 1) := by decide +kernel
theorem dX4_sheet_24 : decode cX4_sheet 24 = .ok (.bipush 64, 2) := by decide +kernel
theorem dX4_sheet_26 : decode cX4_sheet 26 = .ok (.if_icmp .eq 10, 3) := by decide +kernel
theorem dX4_sheet_29 : decode cX4_sheet 29 = .ok (.aload_n 0, 1) := by decide +kernel
theorem dX4_sheet_30 : decode cX4_sheet 30 = .ok (.ldc 44, 2) := by decide +kernel
theorem dX4_sheet_32 : decode cX4_sheet 32 = .ok (.invokevirtual 68, 3) := by decide +kernel
theorem dX4_sheet_35 : decode cX4_sheet 35 = .ok (.ireturn, 1) := by decide +kernel
theorem dX4_sheet_36 : decode cX4_sheet 36 = .ok (.iload_n 3, 1) := by decide +kernel
theorem dX4_sheet_37 : decode cX4_sheet 37 = .ok (.ifCond .ge 11, 3) := by decide +kernel
theorem dX4_sheet_40 : decode cX4_sheet 40 = .ok (.aload_n 0, 1) := by decide +kernel
theorem dX4_sheet_41 : decode cX4_sheet 41 = .ok (.ldc_w 285, 3) := by decide +kernel
theorem dX4_sheet_44 : decode cX4_sheet 44 = .ok (.invokevirtual 68, 3) := by decide +kernel
theorem dX4_sheet_47 : decode cX4_sheet 47 = .ok (.ireturn, 1) := by decide +kernel
theorem dX4_sheet_48 : decode cX4_sheet 48 = .ok (.iload_n 3, 1) := by decide +kernel
theorem dX4_sheet_49 : decode cX4_sheet 49 = .ok (.bipush 40, 2) := by decide +kernel
theorem dX4_sheet_51 : decode cX4_sheet 51 = .ok (.if_icmp .le 10, 3) := by decide +kernel
theorem dX4_sheet_54 : decode cX4_sheet 54 = .ok (.aload_n 0, 1) := by decide +kernel
theorem dX4_sheet_55 : decode cX4_sheet 55 = .ok (.ldc 44, 2) := by decide +kernel
theorem dX4_sheet_57 : decode cX4_sheet 57 = .ok (.invokevirtual 68, 3) := by decide +kernel
theorem dX4_sheet_60 : decode cX4_sheet 60 = .ok (.ireturn, 1) := by decide +kernel
theorem dX4_sheet_61 : decode cX4_sheet 61 = .ok (.aload_n 0, 1) := by decide +kernel
theorem dX4_sheet_62 : decode cX4_sheet 62 = .ok (.getfield 31, 3) := by decide +kernel
theorem dX4_sheet_65 : decode cX4_sheet 65 = .ok (.iload_n 1, 1) := by decide +kernel
theorem dX4_sheet_66 : decode cX4_sheet 66 = .ok (.iload_n 2, 1) := by decide +kernel
theorem dX4_sheet_67 : decode cX4_sheet 67 = .ok (.iastore, 1) := by decide +kernel
theorem dX4_sheet_68 : decode cX4_sheet 68 = .ok (.aload_n 0, 1) := by decide +kernel
theorem dX4_sheet_69 : decode cX4_sheet 69 = .ok (.getfield 34, 3) := by decide +kernel
theorem dX4_sheet_72 : decode cX4_sheet 72 = .ok (.iload_n 1, 1) := by decide +kernel
theorem dX4_sheet_73 : decode cX4_sheet 73 = .ok (.iload_n 2, 1) := by decide +kernel
theorem dX4_sheet_74 : decode cX4_sheet 74 = .ok (.ifCond .ne 7, 3) := by decide +kernel
theorem dX4_sheet_77 : decode cX4_sheet 77 = .ok (.iconst 0, 1) := by decide +kernel
theorem dX4_sheet_78 : decode cX4_sheet 78 = .ok (.goto 4, 3) := by decide +kernel
theorem dX4_sheet_81 : decode cX4_sheet 81 = .ok (.iload_n 3, 1) := by decide +kernel
theorem dX4_sheet_82 : decode cX4_sheet 82 = .ok (.iastore, 1) := by decide +kernel
theorem dX4_sheet_83 : decode cX4_sheet 83 = .ok (.iconst 0, 1) := by decide +kernel
theorem dX4_sheet_84 : decode cX4_sheet 84 = .ok (.istore 4, 2) := by decide +kernel
theorem dX4_sheet_86 : decode cX4_sheet 86 = .ok (.iload 4, 2) := by decide +kernel
theorem dX4_sheet_88 : decode cX4_sheet 88 = .ok (.bipush 40, 2) := by decide +kernel
theorem dX4_sheet_90 : decode cX4_sheet 90 = .ok (.if_icmp .ge 22, 3) := by decide +kernel
theorem dX4_sheet_93 : decode cX4_sheet 93 = .ok (.aload_n 0, 1) := by decide +kernel
theorem dX4_sheet_94 : decode cX4_sheet 94 = .ok (.getfield 37, 3) := by decide +kernel
theorem dX4_sheet_97 : decode cX4_sheet 97 = .ok (.bipush 40, 2) := by decide +kernel
theorem dX4_sheet_99 : decode cX4_sheet 99 = .ok (.iload_n 1, 1) := by decide +kernel
theorem dX4_sheet_100 : decode cX4_sheet 100 = .ok (.imul, 1) := by decide +kernel
theorem dX4_sheet_101 : decode cX4_sheet 101 = .ok (.iload 4, 2) := by decide +kernel
theorem dX4_sheet_103 : decode cX4_sheet 103 = .ok (.iadd, 1) := by decide +kernel
theorem dX4_sheet_104 : decode cX4_sheet 104 = .ok (.lconst 0, 1) := by decide +kernel
theorem dX4_sheet_105 : decode cX4_sheet 105 = .ok (.lastore, 1) := by decide +kernel
theorem dX4_sheet_106 : decode cX4_sheet 106 = .ok (.iinc 4 1, 3) := by decide +kernel
theorem dX4_sheet_109 : decode cX4_sheet 109 = .ok (.goto (-23), 3) := by decide +kernel
theorem dX4_sheet_112 : decode cX4_sheet 112 = .ok (.aload_n 0, 1) := by decide +kernel
theorem dX4_sheet_113 : decode cX4_sheet 113 = .ok (.getfield 34, 3) := by decide +kernel
theorem dX4_sheet_116 : decode cX4_sheet 116 = .ok (.iload_n 1, 1) := by decide +kernel
theorem dX4_sheet_117 : decode cX4_sheet 117 = .ok (.iaload, 1) := by decide +kernel
theorem dX4_sheet_118 : decode cX4_sheet 118 = .ok (.ireturn, 1) := by decide +kernel
theorem dX4_narrowed_0 : decode cX4_narrowed 0 = .ok (.iload_n 0, 1) := by decide +kernel
theorem dX4_narrowed_1 : decode cX4_narrowed 1 = .ok (.bipush 8, 2) := by decide +kernel
theorem dX4_narrowed_3 : decode cX4_narrowed 3 = .ok (.if_icmp .ne 10, 3) := by decide +kernel
theorem dX4_narrowed_6 : decode cX4_narrowed 6 = .ok (.lload_n 1, 1) := by decide +kernel
theorem dX4_narrowed_7 : decode cX4_narrowed 7 = .ok (.l2i, 1) := by decide +kernel
theorem dX4_narrowed_8 : decode cX4_narrowed 8 = .ok (.i2b, 1) := by decide +kernel
theorem dX4_narrowed_9 : decode cX4_narrowed 9 = .ok (.i2l, 1) := by decide +kernel
theorem dX4_narrowed_10 : decode cX4_narrowed 10 = .ok (.goto 17, 3) := by decide +kernel
theorem dX4_narrowed_13 : decode cX4_narrowed 13 = .ok (.iload_n 0, 1) := by decide +kernel
theorem dX4_narrowed_14 : decode cX4_narrowed 14 = .ok (.bipush 16, 2) := by decide +kernel
theorem dX4_narrowed_16 : decode cX4_narrowed 16 = .ok (.if_icmp .ne 10, 3) := by decide +kernel
theorem dX4_narrowed_19 : decode cX4_narrowed 19 = .ok (.lload_n 1, 1) := by decide +kernel
theorem dX4_narrowed_20 : decode cX4_narrowed 20 = .ok (.l2i, 1) := by decide +kernel
theorem dX4_narrowed_21 : decode cX4_narrowed 21 = .ok (.i2s, 1) := by decide +kernel
theorem dX4_narrowed_22 : decode cX4_narrowed 22 = .ok (.i2l, 1) := by decide +kernel
theorem dX4_narrowed_23 : decode cX4_narrowed 23 = .ok (.goto 4, 3) := by decide +kernel
theorem dX4_narrowed_26 : decode cX4_narrowed 26 = .ok (.lload_n 1, 1) := by decide +kernel
theorem dX4_narrowed_27 : decode cX4_narrowed 27 = .ok (.lreturn, 1) := by decide +kernel
theorem dX4_wrongSheet_0 : decode cX4_wrongSheet 0 = .ok (.iload_n 1, 1) := by decide +kernel
theorem dX4_wrongSheet_1 : decode cX4_wrongSheet 1 = .ok (.invokestatic 282, 3) := by decide +kernel
theorem dX4_wrongSheet_4 : decode cX4_wrongSheet 4 = .ok (.ifCond .ne 8, 3) := by decide +kernel
theorem dX4_wrongSheet_7 : decode cX4_wrongSheet 7 = .ok (.ldc 44, 2) := by decide +kernel
theorem dX4_wrongSheet_9 : decode cX4_wrongSheet 9 = .ok (.goto 19, 3) := by decide +kernel
theorem dX4_wrongSheet_12 : decode cX4_wrongSheet 12 = .ok (.aload_n 0, 1) := by decide +kernel
theorem dX4_wrongSheet_13 : decode cX4_wrongSheet 13 = .ok (.getfield 31, 3) := by decide +kernel
theorem dX4_wrongSheet_16 : decode cX4_wrongSheet 16 = .ok (.iload_n 1, 1) := by decide +kernel
theorem dX4_wrongSheet_17 : decode cX4_wrongSheet 17 = .ok (.iaload, 1) := by decide +kernel
theorem dX4_wrongSheet_18 : decode cX4_wrongSheet 18 = .ok (.ifCond .ne 9, 3) := by decide +kernel
theorem dX4_wrongSheet_21 : decode cX4_wrongSheet 21 = .ok (.ldc_w 286, 3) := by decide +kernel
theorem dX4_wrongSheet_24 : decode cX4_wrongSheet 24 = .ok (.goto 4, 3) := by decide +kernel
theorem dX4_wrongSheet_27 : decode cX4_wrongSheet 27 = .ok (.iconst 0, 1) := by decide +kernel
theorem dX4_wrongSheet_28 : decode cX4_wrongSheet 28 = .ok (.ireturn, 1) := by decide +kernel
theorem dX4_write_0 : decode cX4_write 0 = .ok (.aload_n 0, 1) := by decide +kernel
theorem dX4_write_1 : decode cX4_write 1 = .ok (.iload_n 1, 1) := by decide +kernel
theorem dX4_write_2 : decode cX4_write 2 = .ok (.invokevirtual 287, 3) := by decide +kernel
theorem dX4_write_5 : decode cX4_write 5 = .ok (.istore 5, 2) := by decide +kernel
theorem dX4_write_7 : decode cX4_write 7 = .ok (.iload 5, 2) := by decide +kernel
theorem dX4_write_9 : decode cX4_write 9 = .ok (.ifCond .eq 11, 3) := by decide +kernel
theorem dX4_write_12 : decode cX4_write 12 = .ok (.aload_n 0, 1) := by decide +kernel
theorem dX4_write_13 : decode cX4_write 13 = .ok (.iload 5, 2) := by decide +kernel
theorem dX4_write_15 : decode cX4_write 15 = .ok (.invokevirtual 68, 3) := by decide +kernel
theorem dX4_write_18 : decode cX4_write 18 = .ok (.i2l, 1) := by decide +kernel
theorem dX4_write_19 : decode cX4_write 19 = .ok (.lreturn, 1) := by decide +kernel
theorem dX4_write_20 : decode cX4_write 20 = .ok (.iload_n 2, 1) := by decide +kernel
theorem dX4_write_21 : decode cX4_write 21 = .ok (.i2l, 1) := by decide +kernel
theorem dX4_write_22 : decode cX4_write 22 = .ok (.lconst 0, 1) := by decide +kernel
theorem dX4_write_23 : decode cX4_write 23 = .ok (.aload_n 0, 1) := by decide +kernel
theorem dX4_write_24 : decode cX4_write 24 = .ok (.getfield 34, 3) := by decide +kernel
theorem dX4_write_27 : decode cX4_write 27 = .ok (.iload_n 1, 1) := by decide +kernel
theorem dX4_write_28 : decode cX4_write 28 = .ok (.iaload, 1) := by decide +kernel
theorem dX4_write_29 : decode cX4_write 29 = .ok (.iconst 1, 1) := by decide +kernel
theorem dX4_write_30 : decode cX4_write 30 = .ok (.isub, 1) := by decide +kernel
theorem dX4_write_31 : decode cX4_write 31 = .ok (.i2l, 1) := by decide +kernel
theorem dX4_write_32 : decode cX4_write 32 = .ok (.invokestatic 47, 3) := by decide +kernel
theorem dX4_write_35 : decode cX4_write 35 = .ok (.ifCond .ne 11, 3) := by decide +kernel
theorem dX4_write_38 : decode cX4_write 38 = .ok (.aload_n 0, 1) := by decide +kernel
theorem dX4_write_39 : decode cX4_write 39 = .ok (.ldc 44, 2) := by decide +kernel
theorem dX4_write_41 : decode cX4_write 41 = .ok (.invokevirtual 68, 3) := by decide +kernel
theorem dX4_write_44 : decode cX4_write 44 = .ok (.i2l, 1) := by decide +kernel
theorem dX4_write_45 : decode cX4_write 45 = .ok (.lreturn, 1) := by decide +kernel
theorem dX4_write_46 : decode cX4_write 46 = .ok (.aload_n 0, 1) := by decide +kernel
theorem dX4_write_47 : decode cX4_write 47 = .ok (.getfield 37, 3) := by decide +kernel
theorem dX4_write_50 : decode cX4_write 50 = .ok (.bipush 40, 2) := by decide +kernel
theorem dX4_write_52 : decode cX4_write 52 = .ok (.iload_n 1, 1) := by decide +kernel
theorem dX4_write_53 : decode cX4_write 53 = .ok (.imul, 1) := by decide +kernel
theorem dX4_write_54 : decode cX4_write 54 = .ok (.iload_n 2, 1) := by decide +kernel
theorem dX4_write_55 : decode cX4_write 55 = .ok (.iadd, 1) := by decide +kernel
theorem dX4_write_56 : decode cX4_write 56 = .ok (.laload, 1) := by decide +kernel
theorem dX4_write_57 : decode cX4_write 57 = .ok (.lstore 6, 2) := by decide +kernel
theorem dX4_write_59 : decode cX4_write 59 = .ok (.aload_n 0, 1) := by decide +kernel
theorem dX4_write_60 : decode cX4_write 60 = .ok (.getfield 37, 3) := by decide +kernel
theorem dX4_write_63 : decode cX4_write 63 = .ok (.bipush 40, 2) := by decide +kernel
theorem dX4_write_65 : decode cX4_write 65 = .ok (.iload_n 1, 1) := by decide +kernel
theorem dX4_write_66 : decode cX4_write 66 = .ok (.imul, 1) := by decide +kernel
theorem dX4_write_67 : decode cX4_write 67 = .ok (.iload_n 2, 1) := by decide +kernel
theorem dX4_write_68 : decode cX4_write 68 = .ok (.iadd, 1) := by decide +kernel
theorem dX4_write_69 : decode cX4_write 69 = .ok (.aload_n 0, 1) := by decide +kernel
theorem dX4_write_70 : decode cX4_write 70 = .ok (.getfield 31, 3) := by decide +kernel
theorem dX4_write_73 : decode cX4_write 73 = .ok (.iload_n 1, 1) := by decide +kernel
theorem dX4_write_74 : decode cX4_write 74 = .ok (.iaload, 1) := by decide +kernel
theorem dX4_write_75 : decode cX4_write 75 = .ok (.lload_n 3, 1) := by decide +kernel
theorem dX4_write_76 : decode cX4_write 76 = .ok (.invokestatic 290, 3) := by decide +kernel
theorem dX4_write_79 : decode cX4_write 79 = .ok (.lastore, 1) := by decide +kernel
theorem dX4_write_80 : decode cX4_write 80 = .ok (.lload 6, 2) := by decide +kernel
theorem dX4_write_82 : decode cX4_write 82 = .ok (.lreturn, 1) := by decide +kernel
theorem dX4_copy_0 : decode cX4_copy 0 = .ok (.iload_n 1, 1) := by decide +kernel
theorem dX4_copy_1 : decode cX4_copy 1 = .ok (.invokestatic 282, 3) := by decide +kernel
theorem dX4_copy_4 : decode cX4_copy 4 = .ok (.ifCond .eq 10, 3) := by decide +kernel
theorem dX4_copy_7 : decode cX4_copy 7 = .ok (.iload_n 3, 1) := by decide +kernel
theorem dX4_copy_8 : decode cX4_copy 8 = .ok (.invokestatic 282, 3) := by decide +kernel
theorem dX4_copy_11 : decode cX4_copy 11 = .ok (.ifCond .ne 10, 3) := by decide +kernel
theorem dX4_copy_14 : decode cX4_copy 14 = .ok (.aload_n 0, 1) := by decide +kernel
theorem dX4_copy_15 : decode cX4_copy 15 = .ok (.ldc 44, 2) := by decide +kernel
theorem dX4_copy_17 : decode cX4_copy 17 = .ok (.invokevirtual 68, 3) := by decide +kernel
theorem dX4_copy_20 : decode cX4_copy 20 = .ok (.ireturn, 1) := by decide +kernel
theorem dX4_copy_21 : decode cX4_copy 21 = .ok (.aload_n 0, 1) := by decide +kernel
theorem dX4_copy_22 : decode cX4_copy 22 = .ok (.getfield 31, 3) := by decide +kernel
theorem dX4_copy_25 : decode cX4_copy 25 = .ok (.iload_n 1, 1) := by decide +kernel
theorem dX4_copy_26 : decode cX4_copy 26 = .ok (.iaload, 1) := by decide +kernel
theorem dX4_copy_27 : decode cX4_copy 27 = .ok (.ifCond .eq 12, 3) := by decide +kernel
theorem dX4_copy_30 : decode cX4_copy 30 = .ok (.aload_n 0, 1) := by decide +kernel
theorem dX4_copy_31 : decode cX4_copy 31 = .ok (.getfield 31, 3) := by decide +kernel
theorem dX4_copy_34 : decode cX4_copy 34 = .ok (.iload_n 3, 1) := by decide +kernel
theorem dX4_copy_35 : decode cX4_copy 35 = .ok (.iaload, 1) := by decide +kernel
theorem dX4_copy_36 : decode cX4_copy 36 = .ok (.ifCond .ne 11, 3) := by decide +kernel
theorem dX4_copy_39 : decode cX4_copy 39 = .ok (.aload_n 0, 1) := by decide +kernel
theorem dX4_copy_40 : decode cX4_copy 40 = .ok (.ldc_w 286, 3) := by decide +kernel
theorem dX4_copy_43 : decode cX4_copy 43 = .ok (.invokevirtual 68, 3) := by decide +kernel
theorem dX4_copy_46 : decode cX4_copy 46 = .ok (.ireturn, 1) := by decide +kernel
theorem dX4_copy_47 : decode cX4_copy 47 = .ok (.aload_n 0, 1) := by decide +kernel
theorem dX4_copy_48 : decode cX4_copy 48 = .ok (.getfield 31, 3) := by decide +kernel
theorem dX4_copy_51 : decode cX4_copy 51 = .ok (.iload_n 1, 1) := by decide +kernel
theorem dX4_copy_52 : decode cX4_copy 52 = .ok (.iaload, 1) := by decide +kernel
theorem dX4_copy_53 : decode cX4_copy 53 = .ok (.aload_n 0, 1) := by decide +kernel
theorem dX4_copy_54 : decode cX4_copy 54 = .ok (.getfield 31, 3) := by decide +kernel
theorem dX4_copy_57 : decode cX4_copy 57 = .ok (.iload_n 3, 1) := by decide +kernel
theorem dX4_copy_58 : decode cX4_copy 58 = .ok (.iaload, 1) := by decide +kernel
theorem dX4_copy_59 : decode cX4_copy 59 = .ok (.if_icmp .eq 10, 3) := by decide +kernel
theorem dX4_copy_62 : decode cX4_copy 62 = .ok (.aload_n 0, 1) := by decide +kernel
theorem dX4_copy_63 : decode cX4_copy 63 = .ok (.ldc 103, 2) := by decide +kernel
theorem dX4_copy_65 : decode cX4_copy 65 = .ok (.invokevirtual 68, 3) := by decide +kernel
theorem dX4_copy_68 : decode cX4_copy 68 = .ok (.ireturn, 1) := by decide +kernel
theorem dX4_copy_69 : decode cX4_copy 69 = .ok (.iload_n 2, 1) := by decide +kernel
theorem dX4_copy_70 : decode cX4_copy 70 = .ok (.ifCond .lt 40, 3) := by decide +kernel
theorem dX4_copy_73 : decode cX4_copy 73 = .ok (.iload 4, 2) := by decide +kernel
theorem dX4_copy_75 : decode cX4_copy 75 = .ok (.ifCond .lt 35, 3) := by decide +kernel
theorem dX4_copy_78 : decode cX4_copy 78 = .ok (.iload 5, 2) := by decide +kernel
theorem dX4_copy_80 : decode cX4_copy 80 = .ok (.ifCond .lt 30, 3) := by decide +kernel
theorem dX4_copy_83 : decode cX4_copy 83 = .ok (.iload 5, 2) := by decide +kernel
theorem dX4_copy_85 : decode cX4_copy 85 = .ok (.aload_n 0, 1) := by decide +kernel
theorem dX4_copy_86 : decode cX4_copy 86 = .ok (.getfield 34, 3) := by decide +kernel
theorem dX4_copy_89 : decode cX4_copy 89 = .ok (.iload_n 1, 1) := by decide +kernel
theorem dX4_copy_90 : decode cX4_copy 90 = .ok (.iaload, 1) := by decide +kernel
theorem dX4_copy_91 : decode cX4_copy 91 = .ok (.iload_n 2, 1) := by decide +kernel
theorem dX4_copy_92 : decode cX4_copy 92 = .ok (.isub, 1) := by decide +kernel
theorem dX4_copy_93 : decode cX4_copy 93 = .ok (.if_icmp .gt 17, 3) := by decide +kernel
theorem dX4_copy_96 : decode cX4_copy 96 = .ok (.iload 5, 2) := by decide +kernel
theorem dX4_copy_98 : decode cX4_copy 98 = .ok (.aload_n 0, 1) := by decide +kernel
theorem dX4_copy_99 : decode cX4_copy 99 = .ok (.getfield 34, 3) := by decide +kernel
theorem dX4_copy_102 : decode cX4_copy 102 = .ok (.iload_n 3, 1) := by decide +kernel
theorem dX4_copy_103 : decode cX4_copy 103 = .ok (.iaload, 1) := by decide +kernel
theorem dX4_copy_104 : decode cX4_copy 104 = .ok (.iload 4, 2) := by decide +kernel
theorem dX4_copy_106 : decode cX4_copy 106 = .ok (.isub, 1) := by decide +kernel
theorem dX4_copy_107 : decode cX4_copy 107 = .ok (.if_icmp .le 10, 3) := by decide +kernel
theorem dX4_copy_110 : decode cX4_copy 110 = .ok (.aload_n 0, 1) := by decide +kernel
theorem dX4_copy_111 : decode cX4_copy 111 = .ok (.ldc 44, 2) := by decide +kernel
theorem dX4_copy_113 : decode cX4_copy 113 = .ok (.invokevirtual 68, 3) := by decide +kernel
theorem dX4_copy_116 : decode cX4_copy 116 = .ok (.ireturn, 1) := by decide +kernel
theorem dX4_copy_117 : decode cX4_copy 117 = .ok (.iconst 0, 1) := by decide +kernel
theorem dX4_copy_118 : decode cX4_copy 118 = .ok (.istore 6, 2) := by decide +kernel
theorem dX4_copy_120 : decode cX4_copy 120 = .ok (.iload 6, 2) := by decide +kernel
theorem dX4_copy_122 : decode cX4_copy 122 = .ok (.iload 5, 2) := by decide +kernel
theorem dX4_copy_124 : decode cX4_copy 124 = .ok (.if_icmp .ge 30, 3) := by decide +kernel
theorem dX4_copy_127 : decode cX4_copy 127 = .ok (.aload_n 0, 1) := by decide +kernel
theorem dX4_copy_128 : decode cX4_copy 128 = .ok (.getfield 41, 3) := by decide +kernel
theorem dX4_copy_131 : decode cX4_copy 131 = .ok (.iload 6, 2) := by decide +kernel
theorem dX4_copy_133 : decode cX4_copy 133 = .ok (.aload_n 0, 1) := by decide +kernel
theorem dX4_copy_134 : decode cX4_copy 134 = .ok (.getfield 37, 3) := by decide +kernel
theorem dX4_copy_137 : decode cX4_copy 137 = .ok (.bipush 40, 2) := by decide +kernel
theorem dX4_copy_139 : decode cX4_copy 139 = .ok (.iload_n 1, 1) := by decide +kernel
theorem dX4_copy_140 : decode cX4_copy 140 = .ok (.imul, 1) := by decide +kernel
theorem dX4_copy_141 : decode cX4_copy 141 = .ok (.iload_n 2, 1) := by decide +kernel
theorem dX4_copy_142 : decode cX4_copy 142 = .ok (.iadd, 1) := by decide +kernel
theorem dX4_copy_143 : decode cX4_copy 143 = .ok (.iload 6, 2) := by decide +kernel
theorem dX4_copy_145 : decode cX4_copy 145 = .ok (.iadd, 1) := by decide +kernel
theorem dX4_copy_146 : decode cX4_copy 146 = .ok (.laload, 1) := by decide +kernel
theorem dX4_copy_147 : decode cX4_copy 147 = .ok (.lastore, 1) := by decide +kernel
theorem dX4_copy_148 : decode cX4_copy 148 = .ok (.iinc 6 1, 3) := by decide +kernel
theorem dX4_copy_151 : decode cX4_copy 151 = .ok (.goto (-31), 3) := by decide +kernel
theorem dX4_copy_154 : decode cX4_copy 154 = .ok (.iconst 0, 1) := by decide +kernel
theorem dX4_copy_155 : decode cX4_copy 155 = .ok (.istore 6, 2) := by decide +kernel
theorem dX4_copy_157 : decode cX4_copy 157 = .ok (.iload 6, 2) := by decide +kernel
theorem dX4_copy_159 : decode cX4_copy 159 = .ok (.iload 5, 2) := by decide +kernel
theorem dX4_copy_161 : decode cX4_copy 161 = .ok (.if_icmp .ge 31, 3) := by decide +kernel
theorem dX4_copy_164 : decode cX4_copy 164 = .ok (.aload_n 0, 1) := by decide +kernel
theorem dX4_copy_165 : decode cX4_copy 165 = .ok (.getfield 37, 3) := by decide +kernel
theorem dX4_copy_168 : decode cX4_copy 168 = .ok (.bipush 40, 2) := by decide +kernel
theorem dX4_copy_170 : decode cX4_copy 170 = .ok (.iload_n 3, 1) := by decide +kernel
theorem dX4_copy_171 : decode cX4_copy 171 = .ok (.imul, 1) := by decide +kernel
theorem dX4_copy_172 : decode cX4_copy 172 = .ok (.iload 4, 2) := by decide +kernel
theorem dX4_copy_174 : decode cX4_copy 174 = .ok (.iadd, 1) := by decide +kernel
theorem dX4_copy_175 : decode cX4_copy 175 = .ok (.iload 6, 2) := by decide +kernel
theorem dX4_copy_177 : decode cX4_copy 177 = .ok (.iadd, 1) := by decide +kernel
theorem dX4_copy_178 : decode cX4_copy 178 = .ok (.aload_n 0, 1) := by decide +kernel
theorem dX4_copy_179 : decode cX4_copy 179 = .ok (.getfield 41, 3) := by decide +kernel
theorem dX4_copy_182 : decode cX4_copy 182 = .ok (.iload 6, 2) := by decide +kernel
theorem dX4_copy_184 : decode cX4_copy 184 = .ok (.laload, 1) := by decide +kernel
theorem dX4_copy_185 : decode cX4_copy 185 = .ok (.lastore, 1) := by decide +kernel
theorem dX4_copy_186 : decode cX4_copy 186 = .ok (.iinc 6 1, 3) := by decide +kernel
theorem dX4_copy_189 : decode cX4_copy 189 = .ok (.goto (-32), 3) := by decide +kernel
theorem dX4_copy_192 : decode cX4_copy 192 = .ok (.iload 5, 2) := by decide +kernel
theorem dX4_copy_194 : decode cX4_copy 194 = .ok (.ireturn, 1) := by decide +kernel
theorem dX4_lays_0 : decode cX4_lays 0 = .ok (.aload_n 0, 1) := by decide +kernel
theorem dX4_lays_1 : decode cX4_lays 1 = .ok (.iload_n 1, 1) := by decide +kernel
theorem dX4_lays_2 : decode cX4_lays 2 = .ok (.invokevirtual 287, 3) := by decide +kernel
theorem dX4_lays_5 : decode cX4_lays 5 = .ok (.istore_n 2, 1) := by decide +kernel
theorem dX4_lays_6 : decode cX4_lays 6 = .ok (.iload_n 2, 1) := by decide +kernel
theorem dX4_lays_7 : decode cX4_lays 7 = .ok (.ifCond .eq 9, 3) := by decide +kernel
theorem dX4_lays_10 : decode cX4_lays 10 = .ok (.aload_n 0, 1) := by decide +kernel
theorem dX4_lays_11 : decode cX4_lays 11 = .ok (.iload_n 2, 1) := by decide +kernel
theorem dX4_lays_12 : decode cX4_lays 12 = .ok (.invokevirtual 68, 3) := by decide +kernel
theorem dX4_lays_15 : decode cX4_lays 15 = .ok (.ireturn, 1) := by decide +kernel
theorem dX4_lays_16 : decode cX4_lays 16 = .ok (.iconst 0, 1) := by decide +kernel
theorem dX4_lays_17 : decode cX4_lays 17 = .ok (.istore_n 3, 1) := by decide +kernel
theorem dX4_lays_18 : decode cX4_lays 18 = .ok (.iconst 0, 1) := by decide +kernel
theorem dX4_lays_19 : decode cX4_lays 19 = .ok (.istore 4, 2) := by decide +kernel
theorem dX4_lays_21 : decode cX4_lays 21 = .ok (.iload 4, 2) := by decide +kernel
theorem dX4_lays_23 : decode cX4_lays 23 = .ok (.aload_n 0, 1) := by decide +kernel
theorem dX4_lays_24 : decode cX4_lays 24 = .ok (.getfield 34, 3) := by decide +kernel
theorem dX4_lays_27 : decode cX4_lays 27 = .ok (.iload_n 1, 1) := by decide +kernel
theorem dX4_lays_28 : decode cX4_lays 28 = .ok (.iaload, 1) := by decide +kernel
theorem dX4_lays_29 : decode cX4_lays 29 = .ok (.if_icmp .ge 93, 3) := by decide +kernel
theorem dX4_lays_32 : decode cX4_lays 32 = .ok (.iload 4, 2) := by decide +kernel
theorem dX4_lays_34 : decode cX4_lays 34 = .ok (.aload_n 0, 1) := by decide +kernel
theorem dX4_lays_35 : decode cX4_lays 35 = .ok (.getfield 7, 3) := by decide +kernel
theorem dX4_lays_38 : decode cX4_lays 38 = .ok (.iconst 0, 1) := by decide +kernel
theorem dX4_lays_39 : decode cX4_lays 39 = .ok (.iaload, 1) := by decide +kernel
theorem dX4_lays_40 : decode cX4_lays 40 = .ok (.if_icmp .ge 82, 3) := by decide +kernel
theorem dX4_lays_43 : decode cX4_lays 43 = .ok (.aload_n 0, 1) := by decide +kernel
theorem dX4_lays_44 : decode cX4_lays 44 = .ok (.getfield 37, 3) := by decide +kernel
theorem dX4_lays_47 : decode cX4_lays 47 = .ok (.bipush 40, 2) := by decide +kernel
theorem dX4_lays_49 : decode cX4_lays 49 = .ok (.iload_n 1, 1) := by decide +kernel
theorem dX4_lays_50 : decode cX4_lays 50 = .ok (.imul, 1) := by decide +kernel
theorem dX4_lays_51 : decode cX4_lays 51 = .ok (.iload 4, 2) := by decide +kernel
theorem dX4_lays_53 : decode cX4_lays 53 = .ok (.iadd, 1) := by decide +kernel
theorem dX4_lays_54 : decode cX4_lays 54 = .ok (.laload, 1) := by decide +kernel
theorem dX4_lays_55 : decode cX4_lays 55 = .ok (.lconst 0, 1) := by decide +kernel
theorem dX4_lays_56 : decode cX4_lays 56 = .ok (.ldc2_w 45, 3) := by decide +kernel
theorem dX4_lays_59 : decode cX4_lays 59 = .ok (.invokestatic 47, 3) := by decide +kernel
theorem dX4_lays_62 : decode cX4_lays 62 = .ok (.istore 5, 2) := by decide +kernel
theorem dX4_lays_64 : decode cX4_lays 64 = .ok (.aload_n 0, 1) := by decide +kernel
theorem dX4_lays_65 : decode cX4_lays 65 = .ok (.getfield 7, 3) := by decide +kernel
theorem dX4_lays_68 : decode cX4_lays 68 = .ok (.iload 4, 2) := by decide +kernel
theorem dX4_lays_70 : decode cX4_lays 70 = .ok (.iconst 1, 1) := by decide +kernel
theorem dX4_lays_71 : decode cX4_lays 71 = .ok (.invokestatic 57, 3) := by decide +kernel
theorem dX4_lays_74 : decode cX4_lays 74 = .ok (.iload 5, 2) := by decide +kernel
theorem dX4_lays_76 : decode cX4_lays 76 = .ok (.ifCond .eq 19, 3) := by decide +kernel
theorem dX4_lays_79 : decode cX4_lays 79 = .ok (.aload_n 0, 1) := by decide +kernel
theorem dX4_lays_80 : decode cX4_lays 80 = .ok (.getfield 37, 3) := by decide +kernel
theorem dX4_lays_83 : decode cX4_lays 83 = .ok (.bipush 40, 2) := by decide +kernel
theorem dX4_lays_85 : decode cX4_lays 85 = .ok (.iload_n 1, 1) := by decide +kernel
theorem dX4_lays_86 : decode cX4_lays 86 = .ok (.imul, 1) := by decide +kernel
theorem dX4_lays_87 : decode cX4_lays 87 = .ok (.iload 4, 2) := by decide +kernel
theorem dX4_lays_89 : decode cX4_lays 89 = .ok (.iadd, 1) := by decide +kernel
theorem dX4_lays_90 : decode cX4_lays 90 = .ok (.laload, 1) := by decide +kernel
theorem dX4_lays_91 : decode cX4_lays 91 = .ok (.l2i, 1) := by decide +kernel
theorem dX4_lays_92 : decode cX4_lays 92 = .ok (.goto 10, 3) := by decide +kernel
theorem dX4_lays_95 : decode cX4_lays 95 = .ok (.aload_n 0, 1) := by decide +kernel
theorem dX4_lays_96 : decode cX4_lays 96 = .ok (.iload 4, 2) := by decide +kernel
theorem dX4_lays_98 : decode cX4_lays 98 = .ok (.iconst 1, 1) := by decide +kernel
theorem dX4_lays_99 : decode cX4_lays 99 = .ok (.invokevirtual 82, 3) := by decide +kernel
theorem dX4_lays_102 : decode cX4_lays 102 = .ok (.iastore, 1) := by decide +kernel
theorem dX4_lays_103 : decode cX4_lays 103 = .ok (.iload_n 3, 1) := by decide +kernel
theorem dX4_lays_104 : decode cX4_lays 104 = .ok (.iload 5, 2) := by decide +kernel
theorem dX4_lays_106 : decode cX4_lays 106 = .ok (.ifCond .eq 7, 3) := by decide +kernel
theorem dX4_lays_109 : decode cX4_lays 109 = .ok (.iconst 1, 1) := by decide +kernel
theorem dX4_lays_110 : decode cX4_lays 110 = .ok (.goto 4, 3) := by decide +kernel
theorem dX4_lays_113 : decode cX4_lays 113 = .ok (.iconst 0, 1) := by decide +kernel
theorem dX4_lays_114 : decode cX4_lays 114 = .ok (.iadd, 1) := by decide +kernel
theorem dX4_lays_115 : decode cX4_lays 115 = .ok (.istore_n 3, 1) := by decide +kernel
theorem dX4_lays_116 : decode cX4_lays 116 = .ok (.iinc 4 1, 3) := by decide +kernel
theorem dX4_lays_119 : decode cX4_lays 119 = .ok (.goto (-98), 3) := by decide +kernel
theorem dX4_lays_122 : decode cX4_lays 122 = .ok (.iload_n 3, 1) := by decide +kernel
theorem dX4_lays_123 : decode cX4_lays 123 = .ok (.ireturn, 1) := by decide +kernel
theorem dX4_wrongBook_0 : decode cX4_wrongBook 0 = .ok (.aload_n 0, 1) := by decide +kernel
theorem dX4_wrongBook_1 : decode cX4_wrongBook 1 = .ok (.iload_n 1, 1) := by decide +kernel
theorem dX4_wrongBook_2 : decode cX4_wrongBook 2 = .ok (.invokevirtual 287, 3) := by decide +kernel
theorem dX4_wrongBook_5 : decode cX4_wrongBook 5 = .ok (.istore 5, 2) := by decide +kernel
theorem dX4_wrongBook_7 : decode cX4_wrongBook 7 = .ok (.iload 5, 2) := by decide +kernel
theorem dX4_wrongBook_9 : decode cX4_wrongBook 9 = .ok (.ifCond .eq 8, 3) := by decide +kernel
theorem dX4_wrongBook_12 : decode cX4_wrongBook 12 = .ok (.iload 5, 2) := by decide +kernel
theorem dX4_wrongBook_14 : decode cX4_wrongBook 14 = .ok (.goto 26, 3) := by decide +kernel
theorem dX4_wrongBook_17 : decode cX4_wrongBook 17 = .ok (.aload_n 0, 1) := by decide +kernel
theorem dX4_wrongBook_18 : decode cX4_wrongBook 18 = .ok (.iload_n 2, 1) := by decide +kernel
theorem dX4_wrongBook_19 : decode cX4_wrongBook 19 = .ok (.iload_n 3, 1) := by decide +kernel
theorem dX4_wrongBook_20 : decode cX4_wrongBook 20 = .ok (.invokevirtual 107, 3) := by decide +kernel
theorem dX4_wrongBook_23 : decode cX4_wrongBook 23 = .ok (.ifCond .eq 15, 3) := by decide +kernel
theorem dX4_wrongBook_26 : decode cX4_wrongBook 26 = .ok (.iload 4, 2) := by decide +kernel
theorem dX4_wrongBook_28 : decode cX4_wrongBook 28 = .ok (.invokestatic 96, 3) := by decide +kernel
theorem dX4_wrongBook_31 : decode cX4_wrongBook 31 = .ok (.ifCond .eq 7, 3) := by decide +kernel
theorem dX4_wrongBook_34 : decode cX4_wrongBook 34 = .ok (.iconst 0, 1) := by decide +kernel
theorem dX4_wrongBook_35 : decode cX4_wrongBook 35 = .ok (.goto 5, 3) := by decide +kernel
theorem dX4_wrongBook_38 : decode cX4_wrongBook 38 = .ok (.ldc 44, 2) := by decide +kernel
theorem dX4_wrongBook_40 : decode cX4_wrongBook 40 = .ok (.ireturn, 1) := by decide +kernel
theorem dX4_book_0 : decode cX4_book 0 = .ok (.aload_n 0, 1) := by decide +kernel
theorem dX4_book_1 : decode cX4_book 1 = .ok (.iload_n 1, 1) := by decide +kernel
theorem dX4_book_2 : decode cX4_book 2 = .ok (.iload_n 2, 1) := by decide +kernel
theorem dX4_book_3 : decode cX4_book 3 = .ok (.iload_n 3, 1) := by decide +kernel
theorem dX4_book_4 : decode cX4_book 4 = .ok (.iload 4, 2) := by decide +kernel
theorem dX4_book_6 : decode cX4_book 6 = .ok (.invokevirtual 294, 3) := by decide +kernel
theorem dX4_book_9 : decode cX4_book 9 = .ok (.istore 5, 2) := by decide +kernel
theorem dX4_book_11 : decode cX4_book 11 = .ok (.iload 5, 2) := by decide +kernel
theorem dX4_book_13 : decode cX4_book 13 = .ok (.ifCond .eq 10, 3) := by decide +kernel
theorem dX4_book_16 : decode cX4_book 16 = .ok (.aload_n 0, 1) := by decide +kernel
theorem dX4_book_17 : decode cX4_book 17 = .ok (.iload 5, 2) := by decide +kernel
theorem dX4_book_19 : decode cX4_book 19 = .ok (.invokevirtual 68, 3) := by decide +kernel
theorem dX4_book_22 : decode cX4_book 22 = .ok (.ireturn, 1) := by decide +kernel
theorem dX4_book_23 : decode cX4_book 23 = .ok (.aload_n 0, 1) := by decide +kernel
theorem dX4_book_24 : decode cX4_book 24 = .ok (.invokevirtual 165, 3) := by decide +kernel
theorem dX4_book_27 : decode cX4_book 27 = .ok (.iconst 0, 1) := by decide +kernel
theorem dX4_book_28 : decode cX4_book 28 = .ok (.istore 6, 2) := by decide +kernel
theorem dX4_book_30 : decode cX4_book 30 = .ok (.iload 6, 2) := by decide +kernel
theorem dX4_book_32 : decode cX4_book 32 = .ok (.aload_n 0, 1) := by decide +kernel
theorem dX4_book_33 : decode cX4_book 33 = .ok (.getfield 34, 3) := by decide +kernel
theorem dX4_book_36 : decode cX4_book 36 = .ok (.iload_n 1, 1) := by decide +kernel
theorem dX4_book_37 : decode cX4_book 37 = .ok (.iaload, 1) := by decide +kernel
theorem dX4_book_38 : decode cX4_book 38 = .ok (.if_icmp .ge 43, 3) := by decide +kernel
theorem dX4_book_41 : decode cX4_book 41 = .ok (.aload_n 0, 1) := by decide +kernel
theorem dX4_book_42 : decode cX4_book 42 = .ok (.getfield 37, 3) := by decide +kernel
theorem dX4_book_45 : decode cX4_book 45 = .ok (.bipush 40, 2) := by decide +kernel
theorem dX4_book_47 : decode cX4_book 47 = .ok (.iload_n 1, 1) := by decide +kernel
theorem dX4_book_48 : decode cX4_book 48 = .ok (.imul, 1) := by decide +kernel
theorem dX4_book_49 : decode cX4_book 49 = .ok (.iload 6, 2) := by decide +kernel
theorem dX4_book_51 : decode cX4_book 51 = .ok (.iadd, 1) := by decide +kernel
theorem dX4_book_52 : decode cX4_book 52 = .ok (.aload_n 0, 1) := by decide +kernel
theorem dX4_book_53 : decode cX4_book 53 = .ok (.getfield 31, 3) := by decide +kernel
theorem dX4_book_56 : decode cX4_book 56 = .ok (.iload_n 1, 1) := by decide +kernel
theorem dX4_book_57 : decode cX4_book 57 = .ok (.iaload, 1) := by decide +kernel
theorem dX4_book_58 : decode cX4_book 58 = .ok (.aload_n 0, 1) := by decide +kernel
theorem dX4_book_59 : decode cX4_book 59 = .ok (.iload_n 2, 1) := by decide +kernel
theorem dX4_book_60 : decode cX4_book 60 = .ok (.iload_n 3, 1) := by decide +kernel
theorem dX4_book_61 : decode cX4_book 61 = .ok (.iload 4, 2) := by decide +kernel
theorem dX4_book_63 : decode cX4_book 63 = .ok (.invokevirtual 126, 3) := by decide +kernel
theorem dX4_book_66 : decode cX4_book 66 = .ok (.i2l, 1) := by decide +kernel
theorem dX4_book_67 : decode cX4_book 67 = .ok (.invokestatic 290, 3) := by decide +kernel
theorem dX4_book_70 : decode cX4_book 70 = .ok (.lastore, 1) := by decide +kernel
theorem dX4_book_71 : decode cX4_book 71 = .ok (.aload_n 0, 1) := by decide +kernel
theorem dX4_book_72 : decode cX4_book 72 = .ok (.invokevirtual 149, 3) := by decide +kernel
theorem dX4_book_75 : decode cX4_book 75 = .ok (.iinc 6 1, 3) := by decide +kernel
theorem dX4_book_78 : decode cX4_book 78 = .ok (.goto (-48), 3) := by decide +kernel
theorem dX4_book_81 : decode cX4_book 81 = .ok (.aload_n 0, 1) := by decide +kernel
theorem dX4_book_82 : decode cX4_book 82 = .ok (.aload_n 0, 1) := by decide +kernel
theorem dX4_book_83 : decode cX4_book 83 = .ok (.getfield 34, 3) := by decide +kernel
theorem dX4_book_86 : decode cX4_book 86 = .ok (.iload_n 1, 1) := by decide +kernel
theorem dX4_book_87 : decode cX4_book 87 = .ok (.iaload, 1) := by decide +kernel
theorem dX4_book_88 : decode cX4_book 88 = .ok (.invokevirtual 168, 3) := by decide +kernel
theorem dX4_book_91 : decode cX4_book 91 = .ok (.ireturn, 1) := by decide +kernel
theorem dX4_isBook_0 : decode cX4_isBook 0 = .ok (.iconst 0, 1) := by decide +kernel
theorem dX4_isBook_1 : decode cX4_isBook 1 = .ok (.istore 5, 2) := by decide +kernel
theorem dX4_isBook_3 : decode cX4_isBook 3 = .ok (.iload 5, 2) := by decide +kernel
theorem dX4_isBook_5 : decode cX4_isBook 5 = .ok (.aload_n 0, 1) := by decide +kernel
theorem dX4_isBook_6 : decode cX4_isBook 6 = .ok (.getfield 34, 3) := by decide +kernel
theorem dX4_isBook_9 : decode cX4_isBook 9 = .ok (.iload_n 1, 1) := by decide +kernel
theorem dX4_isBook_10 : decode cX4_isBook 10 = .ok (.iaload, 1) := by decide +kernel
theorem dX4_isBook_11 : decode cX4_isBook 11 = .ok (.if_icmp .ge 40, 3) := by decide +kernel
theorem dX4_isBook_14 : decode cX4_isBook 14 = .ok (.aload_n 0, 1) := by decide +kernel
theorem dX4_isBook_15 : decode cX4_isBook 15 = .ok (.getfield 37, 3) := by decide +kernel
theorem dX4_isBook_18 : decode cX4_isBook 18 = .ok (.bipush 40, 2) := by decide +kernel
theorem dX4_isBook_20 : decode cX4_isBook 20 = .ok (.iload_n 1, 1) := by decide +kernel
theorem dX4_isBook_21 : decode cX4_isBook 21 = .ok (.imul, 1) := by decide +kernel
theorem dX4_isBook_22 : decode cX4_isBook 22 = .ok (.iload 5, 2) := by decide +kernel
theorem dX4_isBook_24 : decode cX4_isBook 24 = .ok (.iadd, 1) := by decide +kernel
theorem dX4_isBook_25 : decode cX4_isBook 25 = .ok (.laload, 1) := by decide +kernel
theorem dX4_isBook_26 : decode cX4_isBook 26 = .ok (.aload_n 0, 1) := by decide +kernel
theorem dX4_isBook_27 : decode cX4_isBook 27 = .ok (.iload_n 2, 1) := by decide +kernel
theorem dX4_isBook_28 : decode cX4_isBook 28 = .ok (.iload_n 3, 1) := by decide +kernel
theorem dX4_isBook_29 : decode cX4_isBook 29 = .ok (.iload 4, 2) := by decide +kernel
theorem dX4_isBook_31 : decode cX4_isBook 31 = .ok (.invokevirtual 126, 3) := by decide +kernel
theorem dX4_isBook_34 : decode cX4_isBook 34 = .ok (.i2l, 1) := by decide +kernel
theorem dX4_isBook_35 : decode cX4_isBook 35 = .ok (.lcmp, 1) := by decide +kernel
theorem dX4_isBook_36 : decode cX4_isBook 36 = .ok (.ifCond .eq 5, 3) := by decide +kernel
theorem dX4_isBook_39 : decode cX4_isBook 39 = .ok (.iconst 0, 1) := by decide +kernel
theorem dX4_isBook_40 : decode cX4_isBook 40 = .ok (.ireturn, 1) := by decide +kernel
theorem dX4_isBook_41 : decode cX4_isBook 41 = .ok (.aload_n 0, 1) := by decide +kernel
theorem dX4_isBook_42 : decode cX4_isBook 42 = .ok (.invokevirtual 149, 3) := by decide +kernel
theorem dX4_isBook_45 : decode cX4_isBook 45 = .ok (.iinc 5 1, 3) := by decide +kernel
theorem dX4_isBook_48 : decode cX4_isBook 48 = .ok (.goto (-45), 3) := by decide +kernel
theorem dX4_isBook_51 : decode cX4_isBook 51 = .ok (.iconst 1, 1) := by decide +kernel
theorem dX4_isBook_52 : decode cX4_isBook 52 = .ok (.ireturn, 1) := by decide +kernel
theorem dX4_read_0 : decode cX4_read 0 = .ok (.aload_n 0, 1) := by decide +kernel
theorem dX4_read_1 : decode cX4_read 1 = .ok (.iload_n 1, 1) := by decide +kernel
theorem dX4_read_2 : decode cX4_read 2 = .ok (.iload_n 2, 1) := by decide +kernel
theorem dX4_read_3 : decode cX4_read 3 = .ok (.iload_n 3, 1) := by decide +kernel
theorem dX4_read_4 : decode cX4_read 4 = .ok (.iload 4, 2) := by decide +kernel
theorem dX4_read_6 : decode cX4_read 6 = .ok (.invokevirtual 294, 3) := by decide +kernel
theorem dX4_read_9 : decode cX4_read 9 = .ok (.istore 5, 2) := by decide +kernel
theorem dX4_read_11 : decode cX4_read 11 = .ok (.iload 5, 2) := by decide +kernel
theorem dX4_read_13 : decode cX4_read 13 = .ok (.ifCond .eq 10, 3) := by decide +kernel
theorem dX4_read_16 : decode cX4_read 16 = .ok (.aload_n 0, 1) := by decide +kernel
theorem dX4_read_17 : decode cX4_read 17 = .ok (.iload 5, 2) := by decide +kernel
theorem dX4_read_19 : decode cX4_read 19 = .ok (.invokevirtual 68, 3) := by decide +kernel
theorem dX4_read_22 : decode cX4_read 22 = .ok (.ireturn, 1) := by decide +kernel
theorem dX4_read_23 : decode cX4_read 23 = .ok (.aload_n 0, 1) := by decide +kernel
theorem dX4_read_24 : decode cX4_read 24 = .ok (.invokevirtual 165, 3) := by decide +kernel
theorem dX4_read_27 : decode cX4_read 27 = .ok (.iconst 0, 1) := by decide +kernel
theorem dX4_read_28 : decode cX4_read 28 = .ok (.istore 6, 2) := by decide +kernel
theorem dX4_read_30 : decode cX4_read 30 = .ok (.iconst 0, 1) := by decide +kernel
theorem dX4_read_31 : decode cX4_read 31 = .ok (.istore 7, 2) := by decide +kernel
theorem dX4_read_33 : decode cX4_read 33 = .ok (.iload 7, 2) := by decide +kernel
theorem dX4_read_35 : decode cX4_read 35 = .ok (.bipush 99, 2) := by decide +kernel
theorem dX4_read_37 : decode cX4_read 37 = .ok (.if_icmp .gt 50, 3) := by decide +kernel
theorem dX4_read_40 : decode cX4_read 40 = .ok (.aload_n 0, 1) := by decide +kernel
theorem dX4_read_41 : decode cX4_read 41 = .ok (.getfield 7, 3) := by decide +kernel
theorem dX4_read_44 : decode cX4_read 44 = .ok (.iload_n 3, 1) := by decide +kernel
theorem dX4_read_45 : decode cX4_read 45 = .ok (.iconst 4, 1) := by decide +kernel
theorem dX4_read_46 : decode cX4_read 46 = .ok (.iload 4, 2) := by decide +kernel
theorem dX4_read_48 : decode cX4_read 48 = .ok (.iadd, 1) := by decide +kernel
theorem dX4_read_49 : decode cX4_read 49 = .ok (.invokestatic 57, 3) := by decide +kernel
theorem dX4_read_52 : decode cX4_read 52 = .ok (.iload 7, 2) := by decide +kernel
theorem dX4_read_54 : decode cX4_read 54 = .ok (.iastore, 1) := by decide +kernel
theorem dX4_read_55 : decode cX4_read 55 = .ok (.aload_n 0, 1) := by decide +kernel
theorem dX4_read_56 : decode cX4_read 56 = .ok (.iload 6, 2) := by decide +kernel
theorem dX4_read_58 : decode cX4_read 58 = .ok (.aload_n 0, 1) := by decide +kernel
theorem dX4_read_59 : decode cX4_read 59 = .ok (.iload_n 1, 1) := by decide +kernel
theorem dX4_read_60 : decode cX4_read 60 = .ok (.iload_n 2, 1) := by decide +kernel
theorem dX4_read_61 : decode cX4_read 61 = .ok (.iload_n 3, 1) := by decide +kernel
theorem dX4_read_62 : decode cX4_read 62 = .ok (.iload 4, 2) := by decide +kernel
theorem dX4_read_64 : decode cX4_read 64 = .ok (.invokevirtual 298, 3) := by decide +kernel
theorem dX4_read_67 : decode cX4_read 67 = .ok (.ifCond .eq 7, 3) := by decide +kernel
theorem dX4_read_70 : decode cX4_read 70 = .ok (.iconst 1, 1) := by decide +kernel
theorem dX4_read_71 : decode cX4_read 71 = .ok (.goto 4, 3) := by decide +kernel
theorem dX4_read_74 : decode cX4_read 74 = .ok (.iconst 0, 1) := by decide +kernel
theorem dX4_read_75 : decode cX4_read 75 = .ok (.iadd, 1) := by decide +kernel
theorem dX4_read_76 : decode cX4_read 76 = .ok (.invokevirtual 168, 3) := by decide +kernel
theorem dX4_read_79 : decode cX4_read 79 = .ok (.istore 6, 2) := by decide +kernel
theorem dX4_read_81 : decode cX4_read 81 = .ok (.iinc 7 1, 3) := by decide +kernel
theorem dX4_read_84 : decode cX4_read 84 = .ok (.goto (-51), 3) := by decide +kernel
theorem dX4_read_87 : decode cX4_read 87 = .ok (.iload 6, 2) := by decide +kernel
theorem dX4_read_89 : decode cX4_read 89 = .ok (.ireturn, 1) := by decide +kernel
theorem dX4_image_0 : decode cX4_image 0 = .ok (.iconst 0, 1) := by decide +kernel
theorem dX4_image_1 : decode cX4_image 1 = .ok (.istore_n 1, 1) := by decide +kernel
theorem dX4_image_2 : decode cX4_image 2 = .ok (.iload_n 1, 1) := by decide +kernel
theorem dX4_image_3 : decode cX4_image 3 = .ok (.bipush 84, 2) := by decide +kernel
theorem dX4_image_5 : decode cX4_image 5 = .ok (.if_icmp .ge 21, 3) := by decide +kernel
theorem dX4_image_8 : decode cX4_image 8 = .ok (.aload_n 0, 1) := by decide +kernel
theorem dX4_image_9 : decode cX4_image 9 = .ok (.getfield 13, 3) := by decide +kernel
theorem dX4_image_12 : decode cX4_image 12 = .ok (.iload_n 1, 1) := by decide +kernel
theorem dX4_image_13 : decode cX4_image 13 = .ok (.aload_n 0, 1) := by decide +kernel
theorem dX4_image_14 : decode cX4_image 14 = .ok (.getfield 7, 3) := by decide +kernel
theorem dX4_image_17 : decode cX4_image 17 = .ok (.iload_n 1, 1) := by decide +kernel
theorem dX4_image_18 : decode cX4_image 18 = .ok (.iaload, 1) := by decide +kernel
theorem dX4_image_19 : decode cX4_image 19 = .ok (.iastore, 1) := by decide +kernel
theorem dX4_image_20 : decode cX4_image 20 = .ok (.iinc 1 1, 3) := by decide +kernel
theorem dX4_image_23 : decode cX4_image 23 = .ok (.goto (-21), 3) := by decide +kernel
theorem dX4_image_26 : decode cX4_image 26 = .ok (.aload_n 0, 1) := by decide +kernel
theorem dX4_image_27 : decode cX4_image 27 = .ok (.iconst 1, 1) := by decide +kernel
theorem dX4_image_28 : decode cX4_image 28 = .ok (.putfield 302, 3) := by decide +kernel
theorem dX4_image_31 : decode cX4_image 31 = .ok (.iconst 1, 1) := by decide +kernel
theorem dX4_image_32 : decode cX4_image 32 = .ok (.ireturn, 1) := by decide +kernel
theorem dX4_undo_0 : decode cX4_undo 0 = .ok (.aload_n 0, 1) := by decide +kernel
theorem dX4_undo_1 : decode cX4_undo 1 = .ok (.getfield 302, 3) := by decide +kernel
theorem dX4_undo_4 : decode cX4_undo 4 = .ok (.ifCond .ne 10, 3) := by decide +kernel
theorem dX4_undo_7 : decode cX4_undo 7 = .ok (.aload_n 0, 1) := by decide +kernel
theorem dX4_undo_8 : decode cX4_undo 8 = .ok (.ldc 129, 2) := by decide +kernel
theorem dX4_undo_10 : decode cX4_undo 10 = .ok (.invokevirtual 68, 3) := by decide +kernel
theorem dX4_undo_13 : decode cX4_undo 13 = .ok (.ireturn, 1) := by decide +kernel
theorem dX4_undo_14 : decode cX4_undo 14 = .ok (.iconst 0, 1) := by decide +kernel
theorem dX4_undo_15 : decode cX4_undo 15 = .ok (.istore_n 1, 1) := by decide +kernel
theorem dX4_undo_16 : decode cX4_undo 16 = .ok (.iload_n 1, 1) := by decide +kernel
theorem dX4_undo_17 : decode cX4_undo 17 = .ok (.bipush 84, 2) := by decide +kernel
theorem dX4_undo_19 : decode cX4_undo 19 = .ok (.if_icmp .ge 21, 3) := by decide +kernel
theorem dX4_undo_22 : decode cX4_undo 22 = .ok (.aload_n 0, 1) := by decide +kernel
theorem dX4_undo_23 : decode cX4_undo 23 = .ok (.getfield 7, 3) := by decide +kernel
theorem dX4_undo_26 : decode cX4_undo 26 = .ok (.iload_n 1, 1) := by decide +kernel
theorem dX4_undo_27 : decode cX4_undo 27 = .ok (.aload_n 0, 1) := by decide +kernel
theorem dX4_undo_28 : decode cX4_undo 28 = .ok (.getfield 13, 3) := by decide +kernel
theorem dX4_undo_31 : decode cX4_undo 31 = .ok (.iload_n 1, 1) := by decide +kernel
theorem dX4_undo_32 : decode cX4_undo 32 = .ok (.iaload, 1) := by decide +kernel
theorem dX4_undo_33 : decode cX4_undo 33 = .ok (.iastore, 1) := by decide +kernel
theorem dX4_undo_34 : decode cX4_undo 34 = .ok (.iinc 1 1, 3) := by decide +kernel
theorem dX4_undo_37 : decode cX4_undo 37 = .ok (.goto (-21), 3) := by decide +kernel
theorem dX4_undo_40 : decode cX4_undo 40 = .ok (.aload_n 0, 1) := by decide +kernel
theorem dX4_undo_41 : decode cX4_undo 41 = .ok (.getfield 7, 3) := by decide +kernel
theorem dX4_undo_44 : decode cX4_undo 44 = .ok (.iconst 0, 1) := by decide +kernel
theorem dX4_undo_45 : decode cX4_undo 45 = .ok (.iaload, 1) := by decide +kernel
theorem dX4_undo_46 : decode cX4_undo 46 = .ok (.ireturn, 1) := by decide +kernel
theorem dX4_tear_0 : decode cX4_tear 0 = .ok (.aload_n 0, 1) := by decide +kernel
theorem dX4_tear_1 : decode cX4_tear 1 = .ok (.getfield 302, 3) := by decide +kernel
theorem dX4_tear_4 : decode cX4_tear 4 = .ok (.ifCond .eq 7, 3) := by decide +kernel
theorem dX4_tear_7 : decode cX4_tear 7 = .ok (.iconst 1, 1) := by decide +kernel
theorem dX4_tear_8 : decode cX4_tear 8 = .ok (.goto 4, 3) := by decide +kernel
theorem dX4_tear_11 : decode cX4_tear 11 = .ok (.iconst 0, 1) := by decide +kernel
theorem dX4_tear_12 : decode cX4_tear 12 = .ok (.istore_n 1, 1) := by decide +kernel
theorem dX4_tear_13 : decode cX4_tear 13 = .ok (.aload_n 0, 1) := by decide +kernel
theorem dX4_tear_14 : decode cX4_tear 14 = .ok (.iconst 0, 1) := by decide +kernel
theorem dX4_tear_15 : decode cX4_tear 15 = .ok (.putfield 302, 3) := by decide +kernel
theorem dX4_tear_18 : decode cX4_tear 18 = .ok (.iload_n 1, 1) := by decide +kernel
theorem dX4_tear_19 : decode cX4_tear 19 = .ok (.ireturn, 1) := by decide +kernel
theorem dX4_together_0 : decode cX4_together 0 = .ok (.iconst 0, 1) := by decide +kernel
theorem dX4_together_1 : decode cX4_together 1 = .ok (.istore_n 2, 1) := by decide +kernel
theorem dX4_together_2 : decode cX4_together 2 = .ok (.iconst 0, 1) := by decide +kernel
theorem dX4_together_3 : decode cX4_together 3 = .ok (.istore_n 3, 1) := by decide +kernel
theorem dX4_together_4 : decode cX4_together 4 = .ok (.iload_n 3, 1) := by decide +kernel
theorem dX4_together_5 : decode cX4_together 5 = .ok (.aload_n 0, 1) := by decide +kernel
theorem dX4_together_6 : decode cX4_together 6 = .ok (.getfield 7, 3) := by decide +kernel
theorem dX4_together_9 : decode cX4_together 9 = .ok (.iconst 0, 1) := by decide +kernel
theorem dX4_together_10 : decode cX4_together 10 = .ok (.iaload, 1) := by decide +kernel
theorem dX4_together_11 : decode cX4_together 11 = .ok (.if_icmp .ge 18, 3) := by decide +kernel
theorem dX4_together_14 : decode cX4_together 14 = .ok (.iload_n 2, 1) := by decide +kernel
theorem dX4_together_15 : decode cX4_together 15 = .ok (.aload_n 0, 1) := by decide +kernel
theorem dX4_together_16 : decode cX4_together 16 = .ok (.iload_n 3, 1) := by decide +kernel
theorem dX4_together_17 : decode cX4_together 17 = .ok (.iload_n 1, 1) := by decide +kernel
theorem dX4_together_18 : decode cX4_together 18 = .ok (.invokevirtual 82, 3) := by decide +kernel
theorem dX4_together_21 : decode cX4_together 21 = .ok (.iadd, 1) := by decide +kernel
theorem dX4_together_22 : decode cX4_together 22 = .ok (.istore_n 2, 1) := by decide +kernel
theorem dX4_together_23 : decode cX4_together 23 = .ok (.iinc 3 1, 3) := by decide +kernel
theorem dX4_together_26 : decode cX4_together 26 = .ok (.goto (-22), 3) := by decide +kernel
theorem dX4_together_29 : decode cX4_together 29 = .ok (.iload_n 2, 1) := by decide +kernel
theorem dX4_together_30 : decode cX4_together 30 = .ok (.ireturn, 1) := by decide +kernel
theorem dX4_count_0 : decode cX4_count 0 = .ok (.iload_n 1, 1) := by decide +kernel
theorem dX4_count_1 : decode cX4_count 1 = .ok (.tableswitch 55 0 3 #[31, 38, 43, 49], 31) := by decide +kernel
theorem dX4_count_32 : decode cX4_count 32 = .ok (.aload_n 0, 1) := by decide +kernel
theorem dX4_count_33 : decode cX4_count 33 = .ok (.getfield 7, 3) := by decide +kernel
theorem dX4_count_36 : decode cX4_count 36 = .ok (.iconst 0, 1) := by decide +kernel
theorem dX4_count_37 : decode cX4_count 37 = .ok (.iaload, 1) := by decide +kernel
theorem dX4_count_38 : decode cX4_count 38 = .ok (.ireturn, 1) := by decide +kernel
theorem dX4_count_39 : decode cX4_count 39 = .ok (.aload_n 0, 1) := by decide +kernel
theorem dX4_count_40 : decode cX4_count 40 = .ok (.getfield 190, 3) := by decide +kernel
theorem dX4_count_43 : decode cX4_count 43 = .ok (.ireturn, 1) := by decide +kernel
theorem dX4_count_44 : decode cX4_count 44 = .ok (.aload_n 0, 1) := by decide +kernel
theorem dX4_count_45 : decode cX4_count 45 = .ok (.iconst 3, 1) := by decide +kernel
theorem dX4_count_46 : decode cX4_count 46 = .ok (.invokevirtual 305, 3) := by decide +kernel
theorem dX4_count_49 : decode cX4_count 49 = .ok (.ireturn, 1) := by decide +kernel
theorem dX4_count_50 : decode cX4_count 50 = .ok (.aload_n 0, 1) := by decide +kernel
theorem dX4_count_51 : decode cX4_count 51 = .ok (.iconst 2, 1) := by decide +kernel
theorem dX4_count_52 : decode cX4_count 52 = .ok (.invokevirtual 305, 3) := by decide +kernel
theorem dX4_count_55 : decode cX4_count 55 = .ok (.ireturn, 1) := by decide +kernel
theorem dX4_count_56 : decode cX4_count 56 = .ok (.aload_n 0, 1) := by decide +kernel
theorem dX4_count_57 : decode cX4_count 57 = .ok (.ldc 44, 2) := by decide +kernel
theorem dX4_count_59 : decode cX4_count 59 = .ok (.invokevirtual 68, 3) := by decide +kernel
theorem dX4_count_62 : decode cX4_count 62 = .ok (.ireturn, 1) := by decide +kernel
theorem dX4_status_0 : decode cX4_status 0 = .ok (.iload_n 1, 1) := by decide +kernel
theorem dX4_status_1 : decode cX4_status 1 = .ok (.i2l, 1) := by decide +kernel
theorem dX4_status_2 : decode cX4_status 2 = .ok (.ldc2_w 308, 3) := by decide +kernel
theorem dX4_status_5 : decode cX4_status 5 = .ok (.ldc2_w 310, 3) := by decide +kernel
theorem dX4_status_8 : decode cX4_status 8 = .ok (.invokestatic 47, 3) := by decide +kernel
theorem dX4_status_11 : decode cX4_status 11 = .ok (.ifCond .ne 10, 3) := by decide +kernel
theorem dX4_status_14 : decode cX4_status 14 = .ok (.aload_n 0, 1) := by decide +kernel
theorem dX4_status_15 : decode cX4_status 15 = .ok (.ldc 44, 2) := by decide +kernel
theorem dX4_status_17 : decode cX4_status 17 = .ok (.invokevirtual 68, 3) := by decide +kernel
theorem dX4_status_20 : decode cX4_status 20 = .ok (.ireturn, 1) := by decide +kernel
theorem dX4_status_21 : decode cX4_status 21 = .ok (.iconst 0, 1) := by decide +kernel
theorem dX4_status_22 : decode cX4_status 22 = .ok (.istore_n 2, 1) := by decide +kernel
theorem dX4_status_23 : decode cX4_status 23 = .ok (.iconst 0, 1) := by decide +kernel
theorem dX4_status_24 : decode cX4_status 24 = .ok (.istore_n 3, 1) := by decide +kernel
theorem dX4_status_25 : decode cX4_status 25 = .ok (.iload_n 3, 1) := by decide +kernel
theorem dX4_status_26 : decode cX4_status 26 = .ok (.bipush 7, 2) := by decide +kernel
theorem dX4_status_28 : decode cX4_status 28 = .ok (.if_icmp .ge 31, 3) := by decide +kernel
theorem dX4_status_31 : decode cX4_status 31 = .ok (.iload_n 2, 1) := by decide +kernel
theorem dX4_status_32 : decode cX4_status 32 = .ok (.iload_n 1, 1) := by decide +kernel
theorem dX4_status_33 : decode cX4_status 33 = .ok (.ifCond .lt 8, 3) := by decide +kernel
theorem dX4_status_36 : decode cX4_status 36 = .ok (.iload_n 3, 1) := by decide +kernel
theorem dX4_status_37 : decode cX4_status 37 = .ok (.iload_n 1, 1) := by decide +kernel
theorem dX4_status_38 : decode cX4_status 38 = .ok (.if_icmp .ne 12, 3) := by decide +kernel
theorem dX4_status_41 : decode cX4_status 41 = .ok (.aload_n 0, 1) := by decide +kernel
theorem dX4_status_42 : decode cX4_status 42 = .ok (.getfield 22, 3) := by decide +kernel
theorem dX4_status_45 : decode cX4_status 45 = .ok (.iload_n 3, 1) := by decide +kernel
theorem dX4_status_46 : decode cX4_status 46 = .ok (.iaload, 1) := by decide +kernel
theorem dX4_status_47 : decode cX4_status 47 = .ok (.goto 4, 3) := by decide +kernel
theorem dX4_status_50 : decode cX4_status 50 = .ok (.iconst 0, 1) := by decide +kernel
theorem dX4_status_51 : decode cX4_status 51 = .ok (.iadd, 1) := by decide +kernel
theorem dX4_status_52 : decode cX4_status 52 = .ok (.istore_n 2, 1) := by decide +kernel
theorem dX4_status_53 : decode cX4_status 53 = .ok (.iinc 3 1, 3) := by decide +kernel
theorem dX4_status_56 : decode cX4_status 56 = .ok (.goto (-31), 3) := by decide +kernel
theorem dX4_status_59 : decode cX4_status 59 = .ok (.iload_n 2, 1) := by decide +kernel
theorem dX4_status_60 : decode cX4_status 60 = .ok (.ireturn, 1) := by decide +kernel
end
section
theorem dL_law_0 : decode cL_law 0 = .ok (.new 7, 3) := by decide +kernel
theorem dL_law_3 : decode cL_law 3 = .ok (.dup, 1) := by decide +kernel
theorem dL_law_4 : decode cL_law 4 = .ok (.invokespecial 9, 3) := by decide +kernel
theorem dL_law_7 : decode cL_law 7 = .ok (.astore_n 1, 1) := by decide +kernel
theorem dL_law_8 : decode cL_law 8 = .ok (.new 10, 3) := by decide +kernel
theorem dL_law_11 : decode cL_law 11 = .ok (.dup, 1) := by decide +kernel
theorem dL_law_12 : decode cL_law 12 = .ok (.invokespecial 12, 3) := by decide +kernel
theorem dL_law_15 : decode cL_law 15 = .ok (.astore_n 2, 1) := by decide +kernel
theorem dL_law_16 : decode cL_law 16 = .ok (.iconst 0, 1) := by decide +kernel
theorem dL_law_17 : decode cL_law 17 = .ok (.istore_n 3, 1) := by decide +kernel
theorem dL_law_18 : decode cL_law 18 = .ok (.iload_n 3, 1) := by decide +kernel
theorem dL_law_19 : decode cL_law 19 = .ok (.aload_n 0, 1) := by decide +kernel
theorem dL_law_20 : decode cL_law 20 = .ok (.arraylength, 1) := by decide +kernel
theorem dL_law_21 : decode cL_law 21 = .ok (.bipush 6, 2) := by decide +kernel
theorem dL_law_23 : decode cL_law 23 = .ok (.isub, 1) := by decide +kernel
theorem dL_law_24 : decode cL_law 24 = .ok (.if_icmp .gt 1488, 3) := by decide +kernel
theorem dL_law_27 : decode cL_law 27 = .ok (.aload_n 0, 1) := by decide +kernel
theorem dL_law_28 : decode cL_law 28 = .ok (.iload_n 3, 1) := by decide +kernel
theorem dL_law_29 : decode cL_law 29 = .ok (.iaload, 1) := by decide +kernel
theorem dL_law_30 : decode cL_law 30 = .ok (.bipush 63, 2) := by decide +kernel
theorem dL_law_32 : decode cL_law 32 = .ok (.iand, 1) := by decide +kernel
theorem dL_law_33 : decode cL_law 33 = .ok (.tableswitch 1473 0 40 #[179, 212, 245, 278, 321, 364, 407, 440, 473, 496, 529, 572, 605, 628, 661, 684, 707, 750, 773, 796, 819, 842, 865, 888, 921, 954, 987, 1020, 1053, 1066, 1079, 1122, 1196, 1259, 1282, 1335, 1388, 1401, 1414, 1427, 1450], 179) := by decide +kernel
theorem dL_law_212 : decode cL_law 212 = .ok (.aload_n 1, 1) := by decide +kernel
theorem dL_law_213 : decode cL_law 213 = .ok (.aload_n 0, 1) := by decide +kernel
theorem dL_law_214 : decode cL_law 214 = .ok (.iload_n 3, 1) := by decide +kernel
theorem dL_law_215 : decode cL_law 215 = .ok (.iconst 1, 1) := by decide +kernel
theorem dL_law_216 : decode cL_law 216 = .ok (.iadd, 1) := by decide +kernel
theorem dL_law_217 : decode cL_law 217 = .ok (.iaload, 1) := by decide +kernel
theorem dL_law_218 : decode cL_law 218 = .ok (.aload_n 0, 1) := by decide +kernel
theorem dL_law_219 : decode cL_law 219 = .ok (.iload_n 3, 1) := by decide +kernel
theorem dL_law_220 : decode cL_law 220 = .ok (.iconst 2, 1) := by decide +kernel
theorem dL_law_221 : decode cL_law 221 = .ok (.iadd, 1) := by decide +kernel
theorem dL_law_222 : decode cL_law 222 = .ok (.iaload, 1) := by decide +kernel
theorem dL_law_223 : decode cL_law 223 = .ok (.invokevirtual 13, 3) := by decide +kernel
theorem dL_law_226 : decode cL_law 226 = .ok (.aload_n 2, 1) := by decide +kernel
theorem dL_law_227 : decode cL_law 227 = .ok (.aload_n 0, 1) := by decide +kernel
theorem dL_law_228 : decode cL_law 228 = .ok (.iload_n 3, 1) := by decide +kernel
theorem dL_law_229 : decode cL_law 229 = .ok (.iconst 1, 1) := by decide +kernel
theorem dL_law_230 : decode cL_law 230 = .ok (.iadd, 1) := by decide +kernel
theorem dL_law_231 : decode cL_law 231 = .ok (.iaload, 1) := by decide +kernel
theorem dL_law_232 : decode cL_law 232 = .ok (.aload_n 0, 1) := by decide +kernel
theorem dL_law_233 : decode cL_law 233 = .ok (.iload_n 3, 1) := by decide +kernel
theorem dL_law_234 : decode cL_law 234 = .ok (.iconst 2, 1) := by decide +kernel
theorem dL_law_235 : decode cL_law 235 = .ok (.iadd, 1) := by decide +kernel
theorem dL_law_236 : decode cL_law 236 = .ok (.iaload, 1) := by decide +kernel
theorem dL_law_237 : decode cL_law 237 = .ok (.invokevirtual 17, 3) := by decide +kernel
theorem dL_law_240 : decode cL_law 240 = .ok (.if_icmp .eq 1266, 3) := by decide +kernel
theorem dL_law_243 : decode cL_law 243 = .ok (.iconst 0, 1) := by decide +kernel
theorem dL_law_244 : decode cL_law 244 = .ok (.ireturn, 1) := by decide +kernel
theorem dL_law_245 : decode cL_law 245 = .ok (.aload_n 1, 1) := by decide +kernel
theorem dL_law_246 : decode cL_law 246 = .ok (.aload_n 0, 1) := by decide +kernel
theorem dL_law_247 : decode cL_law 247 = .ok (.iload_n 3, 1) := by decide +kernel
theorem dL_law_248 : decode cL_law 248 = .ok (.iconst 1, 1) := by decide +kernel
theorem dL_law_249 : decode cL_law 249 = .ok (.iadd, 1) := by decide +kernel
theorem dL_law_250 : decode cL_law 250 = .ok (.iaload, 1) := by decide +kernel
theorem dL_law_251 : decode cL_law 251 = .ok (.aload_n 0, 1) := by decide +kernel
theorem dL_law_252 : decode cL_law 252 = .ok (.iload_n 3, 1) := by decide +kernel
theorem dL_law_253 : decode cL_law 253 = .ok (.iconst 2, 1) := by decide +kernel
theorem dL_law_254 : decode cL_law 254 = .ok (.iadd, 1) := by decide +kernel
theorem dL_law_255 : decode cL_law 255 = .ok (.iaload, 1) := by decide +kernel
theorem dL_law_256 : decode cL_law 256 = .ok (.invokevirtual 18, 3) := by decide +kernel
theorem dL_law_259 : decode cL_law 259 = .ok (.aload_n 2, 1) := by decide +kernel
theorem dL_law_260 : decode cL_law 260 = .ok (.aload_n 0, 1) := by decide +kernel
theorem dL_law_261 : decode cL_law 261 = .ok (.iload_n 3, 1) := by decide +kernel
theorem dL_law_262 : decode cL_law 262 = .ok (.iconst 1, 1) := by decide +kernel
theorem dL_law_263 : decode cL_law 263 = .ok (.iadd, 1) := by decide +kernel
theorem dL_law_264 : decode cL_law 264 = .ok (.iaload, 1) := by decide +kernel
theorem dL_law_265 : decode cL_law 265 = .ok (.aload_n 0, 1) := by decide +kernel
theorem dL_law_266 : decode cL_law 266 = .ok (.iload_n 3, 1) := by decide +kernel
theorem dL_law_267 : decode cL_law 267 = .ok (.iconst 2, 1) := by decide +kernel
theorem dL_law_268 : decode cL_law 268 = .ok (.iadd, 1) := by decide +kernel
theorem dL_law_269 : decode cL_law 269 = .ok (.iaload, 1) := by decide +kernel
theorem dL_law_270 : decode cL_law 270 = .ok (.invokevirtual 21, 3) := by decide +kernel
theorem dL_law_273 : decode cL_law 273 = .ok (.if_icmp .eq 1233, 3) := by decide +kernel
theorem dL_law_276 : decode cL_law 276 = .ok (.iconst 0, 1) := by decide +kernel
theorem dL_law_277 : decode cL_law 277 = .ok (.ireturn, 1) := by decide +kernel
theorem dL_law_278 : decode cL_law 278 = .ok (.aload_n 1, 1) := by decide +kernel
theorem dL_law_279 : decode cL_law 279 = .ok (.aload_n 0, 1) := by decide +kernel
theorem dL_law_280 : decode cL_law 280 = .ok (.iload_n 3, 1) := by decide +kernel
theorem dL_law_281 : decode cL_law 281 = .ok (.iconst 1, 1) := by decide +kernel
theorem dL_law_282 : decode cL_law 282 = .ok (.iadd, 1) := by decide +kernel
theorem dL_law_283 : decode cL_law 283 = .ok (.iaload, 1) := by decide +kernel
theorem dL_law_284 : decode cL_law 284 = .ok (.aload_n 0, 1) := by decide +kernel
theorem dL_law_285 : decode cL_law 285 = .ok (.iload_n 3, 1) := by decide +kernel
theorem dL_law_286 : decode cL_law 286 = .ok (.iconst 2, 1) := by decide +kernel
theorem dL_law_287 : decode cL_law 287 = .ok (.iadd, 1) := by decide +kernel
theorem dL_law_288 : decode cL_law 288 = .ok (.iaload, 1) := by decide +kernel
theorem dL_law_289 : decode cL_law 289 = .ok (.invokevirtual 22, 3) := by decide +kernel
theorem dL_law_292 : decode cL_law 292 = .ok (.aload_n 2, 1) := by decide +kernel
theorem dL_law_293 : decode cL_law 293 = .ok (.aload_n 0, 1) := by decide +kernel
theorem dL_law_294 : decode cL_law 294 = .ok (.iload_n 3, 1) := by decide +kernel
theorem dL_law_295 : decode cL_law 295 = .ok (.iconst 1, 1) := by decide +kernel
theorem dL_law_296 : decode cL_law 296 = .ok (.iadd, 1) := by decide +kernel
theorem dL_law_297 : decode cL_law 297 = .ok (.iaload, 1) := by decide +kernel
theorem dL_law_298 : decode cL_law 298 = .ok (.aload_n 0, 1) := by decide +kernel
theorem dL_law_299 : decode cL_law 299 = .ok (.iload_n 3, 1) := by decide +kernel
theorem dL_law_300 : decode cL_law 300 = .ok (.iconst 2, 1) := by decide +kernel
theorem dL_law_301 : decode cL_law 301 = .ok (.iadd, 1) := by decide +kernel
theorem dL_law_302 : decode cL_law 302 = .ok (.iaload, 1) := by decide +kernel
theorem dL_law_303 : decode cL_law 303 = .ok (.invokevirtual 25, 3) := by decide +kernel
theorem dL_law_306 : decode cL_law 306 = .ok (.if_icmp .eq 1200, 3) := by decide +kernel
theorem dL_law_309 : decode cL_law 309 = .ok (.iconst 0, 1) := by decide +kernel
theorem dL_law_310 : decode cL_law 310 = .ok (.ireturn, 1) := by decide +kernel
theorem dL_law_311 : decode cL_law 311 = .ok (.aload_n 1, 1) := by decide +kernel
theorem dL_law_312 : decode cL_law 312 = .ok (.aload_n 0, 1) := by decide +kernel
theorem dL_law_313 : decode cL_law 313 = .ok (.iload_n 3, 1) := by decide +kernel
theorem dL_law_314 : decode cL_law 314 = .ok (.iconst 1, 1) := by decide +kernel
theorem dL_law_315 : decode cL_law 315 = .ok (.iadd, 1) := by decide +kernel
theorem dL_law_316 : decode cL_law 316 = .ok (.iaload, 1) := by decide +kernel
theorem dL_law_317 : decode cL_law 317 = .ok (.aload_n 0, 1) := by decide +kernel
theorem dL_law_318 : decode cL_law 318 = .ok (.iload_n 3, 1) := by decide +kernel
theorem dL_law_319 : decode cL_law 319 = .ok (.iconst 2, 1) := by decide +kernel
theorem dL_law_320 : decode cL_law 320 = .ok (.iadd, 1) := by decide +kernel
theorem dL_law_321 : decode cL_law 321 = .ok (.iaload, 1) := by decide +kernel
theorem dL_law_322 : decode cL_law 322 = .ok (.aload_n 0, 1) := by decide +kernel
theorem dL_law_323 : decode cL_law 323 = .ok (.iload_n 3, 1) := by decide +kernel
theorem dL_law_324 : decode cL_law 324 = .ok (.iconst 3, 1) := by decide +kernel
theorem dL_law_325 : decode cL_law 325 = .ok (.iadd, 1) := by decide +kernel
theorem dL_law_326 : decode cL_law 326 = .ok (.iaload, 1) := by decide +kernel
theorem dL_law_327 : decode cL_law 327 = .ok (.invokevirtual 26, 3) := by decide +kernel
theorem dL_law_330 : decode cL_law 330 = .ok (.aload_n 2, 1) := by decide +kernel
theorem dL_law_331 : decode cL_law 331 = .ok (.aload_n 0, 1) := by decide +kernel
theorem dL_law_332 : decode cL_law 332 = .ok (.iload_n 3, 1) := by decide +kernel
theorem dL_law_333 : decode cL_law 333 = .ok (.iconst 1, 1) := by decide +kernel
theorem dL_law_334 : decode cL_law 334 = .ok (.iadd, 1) := by decide +kernel
theorem dL_law_335 : decode cL_law 335 = .ok (.iaload, 1) := by decide +kernel
theorem dL_law_336 : decode cL_law 336 = .ok (.aload_n 0, 1) := by decide +kernel
theorem dL_law_337 : decode cL_law 337 = .ok (.iload_n 3, 1) := by decide +kernel
theorem dL_law_338 : decode cL_law 338 = .ok (.iconst 2, 1) := by decide +kernel
theorem dL_law_339 : decode cL_law 339 = .ok (.iadd, 1) := by decide +kernel
theorem dL_law_340 : decode cL_law 340 = .ok (.iaload, 1) := by decide +kernel
theorem dL_law_341 : decode cL_law 341 = .ok (.aload_n 0, 1) := by decide +kernel
theorem dL_law_342 : decode cL_law 342 = .ok (.iload_n 3, 1) := by decide +kernel
theorem dL_law_343 : decode cL_law 343 = .ok (.iconst 3, 1) := by decide +kernel
theorem dL_law_344 : decode cL_law 344 = .ok (.iadd, 1) := by decide +kernel
theorem dL_law_345 : decode cL_law 345 = .ok (.iaload, 1) := by decide +kernel
theorem dL_law_346 : decode cL_law 346 = .ok (.invokevirtual 30, 3) := by decide +kernel
theorem dL_law_349 : decode cL_law 349 = .ok (.if_icmp .eq 1157, 3) := by decide +kernel
theorem dL_law_352 : decode cL_law 352 = .ok (.iconst 0, 1) := by decide +kernel
theorem dL_law_353 : decode cL_law 353 = .ok (.ireturn, 1) := by decide +kernel
theorem dL_law_354 : decode cL_law 354 = .ok (.aload_n 1, 1) := by decide +kernel
theorem dL_law_355 : decode cL_law 355 = .ok (.aload_n 0, 1) := by decide +kernel
theorem dL_law_356 : decode cL_law 356 = .ok (.iload_n 3, 1) := by decide +kernel
theorem dL_law_357 : decode cL_law 357 = .ok (.iconst 1, 1) := by decide +kernel
theorem dL_law_358 : decode cL_law 358 = .ok (.iadd, 1) := by decide +kernel
theorem dL_law_359 : decode cL_law 359 = .ok (.iaload, 1) := by decide +kernel
theorem dL_law_360 : decode cL_law 360 = .ok (.aload_n 0, 1) := by decide +kernel
theorem dL_law_361 : decode cL_law 361 = .ok (.iload_n 3, 1) := by decide +kernel
theorem dL_law_362 : decode cL_law 362 = .ok (.iconst 2, 1) := by decide +kernel
theorem dL_law_363 : decode cL_law 363 = .ok (.iadd, 1) := by decide +kernel
theorem dL_law_364 : decode cL_law 364 = .ok (.iaload, 1) := by decide +kernel
theorem dL_law_365 : decode cL_law 365 = .ok (.aload_n 0, 1) := by decide +kernel
theorem dL_law_366 : decode cL_law 366 = .ok (.iload_n 3, 1) := by decide +kernel
theorem dL_law_367 : decode cL_law 367 = .ok (.iconst 3, 1) := by decide +kernel
theorem dL_law_368 : decode cL_law 368 = .ok (.iadd, 1) := by decide +kernel
theorem dL_law_369 : decode cL_law 369 = .ok (.iaload, 1) := by decide +kernel
theorem dL_law_370 : decode cL_law 370 = .ok (.invokevirtual 31, 3) := by decide +kernel
theorem dL_law_373 : decode cL_law 373 = .ok (.aload_n 2, 1) := by decide +kernel
theorem dL_law_374 : decode cL_law 374 = .ok (.aload_n 0, 1) := by decide +kernel
theorem dL_law_375 : decode cL_law 375 = .ok (.iload_n 3, 1) := by decide +kernel
theorem dL_law_376 : decode cL_law 376 = .ok (.iconst 1, 1) := by decide +kernel
theorem dL_law_377 : decode cL_law 377 = .ok (.iadd, 1) := by decide +kernel
theorem dL_law_378 : decode cL_law 378 = .ok (.iaload, 1) := by decide +kernel
theorem dL_law_379 : decode cL_law 379 = .ok (.aload_n 0, 1) := by decide +kernel
theorem dL_law_380 : decode cL_law 380 = .ok (.iload_n 3, 1) := by decide +kernel
theorem dL_law_381 : decode cL_law 381 = .ok (.iconst 2, 1) := by decide +kernel
theorem dL_law_382 : decode cL_law 382 = .ok (.iadd, 1) := by decide +kernel
theorem dL_law_383 : decode cL_law 383 = .ok (.iaload, 1) := by decide +kernel
theorem dL_law_384 : decode cL_law 384 = .ok (.aload_n 0, 1) := by decide +kernel
theorem dL_law_385 : decode cL_law 385 = .ok (.iload_n 3, 1) := by decide +kernel
theorem dL_law_386 : decode cL_law 386 = .ok (.iconst 3, 1) := by decide +kernel
theorem dL_law_387 : decode cL_law 387 = .ok (.iadd, 1) := by decide +kernel
theorem dL_law_388 : decode cL_law 388 = .ok (.iaload, 1) := by decide +kernel
theorem dL_law_389 : decode cL_law 389 = .ok (.invokevirtual 34, 3) := by decide +kernel
theorem dL_law_392 : decode cL_law 392 = .ok (.if_icmp .eq 1114, 3) := by decide +kernel
theorem dL_law_395 : decode cL_law 395 = .ok (.iconst 0, 1) := by decide +kernel
theorem dL_law_396 : decode cL_law 396 = .ok (.ireturn, 1) := by decide +kernel
theorem dL_law_397 : decode cL_law 397 = .ok (.aload_n 1, 1) := by decide +kernel
theorem dL_law_398 : decode cL_law 398 = .ok (.aload_n 0, 1) := by decide +kernel
theorem dL_law_399 : decode cL_law 399 = .ok (.iload_n 3, 1) := by decide +kernel
theorem dL_law_400 : decode cL_law 400 = .ok (.iconst 1, 1) := by decide +kernel
theorem dL_law_401 : decode cL_law 401 = .ok (.iadd, 1) := by decide +kernel
theorem dL_law_402 : decode cL_law 402 = .ok (.iaload, 1) := by decide +kernel
theorem dL_law_403 : decode cL_law 403 = .ok (.aload_n 0, 1) := by decide +kernel
theorem dL_law_404 : decode cL_law 404 = .ok (.iload_n 3, 1) := by decide +kernel
theorem dL_law_405 : decode cL_law 405 = .ok (.iconst 2, 1) := by decide +kernel
theorem dL_law_406 : decode cL_law 406 = .ok (.iadd, 1) := by decide +kernel
theorem dL_law_407 : decode cL_law 407 = .ok (.iaload, 1) := by decide +kernel
theorem dL_law_408 : decode cL_law 408 = .ok (.aload_n 0, 1) := by decide +kernel
theorem dL_law_409 : decode cL_law 409 = .ok (.iload_n 3, 1) := by decide +kernel
theorem dL_law_410 : decode cL_law 410 = .ok (.iconst 3, 1) := by decide +kernel
theorem dL_law_411 : decode cL_law 411 = .ok (.iadd, 1) := by decide +kernel
theorem dL_law_412 : decode cL_law 412 = .ok (.iaload, 1) := by decide +kernel
theorem dL_law_413 : decode cL_law 413 = .ok (.invokevirtual 35, 3) := by decide +kernel
theorem dL_law_416 : decode cL_law 416 = .ok (.aload_n 2, 1) := by decide +kernel
theorem dL_law_417 : decode cL_law 417 = .ok (.aload_n 0, 1) := by decide +kernel
theorem dL_law_418 : decode cL_law 418 = .ok (.iload_n 3, 1) := by decide +kernel
theorem dL_law_419 : decode cL_law 419 = .ok (.iconst 1, 1) := by decide +kernel
theorem dL_law_420 : decode cL_law 420 = .ok (.iadd, 1) := by decide +kernel
theorem dL_law_421 : decode cL_law 421 = .ok (.iaload, 1) := by decide +kernel
theorem dL_law_422 : decode cL_law 422 = .ok (.aload_n 0, 1) := by decide +kernel
theorem dL_law_423 : decode cL_law 423 = .ok (.iload_n 3, 1) := by decide +kernel
theorem dL_law_424 : decode cL_law 424 = .ok (.iconst 2, 1) := by decide +kernel
theorem dL_law_425 : decode cL_law 425 = .ok (.iadd, 1) := by decide +kernel
theorem dL_law_426 : decode cL_law 426 = .ok (.iaload, 1) := by decide +kernel
theorem dL_law_427 : decode cL_law 427 = .ok (.aload_n 0, 1) := by decide +kernel
theorem dL_law_428 : decode cL_law 428 = .ok (.iload_n 3, 1) := by decide +kernel
theorem dL_law_429 : decode cL_law 429 = .ok (.iconst 3, 1) := by decide +kernel
theorem dL_law_430 : decode cL_law 430 = .ok (.iadd, 1) := by decide +kernel
theorem dL_law_431 : decode cL_law 431 = .ok (.iaload, 1) := by decide +kernel
theorem dL_law_432 : decode cL_law 432 = .ok (.invokevirtual 38, 3) := by decide +kernel
theorem dL_law_435 : decode cL_law 435 = .ok (.if_icmp .eq 1071, 3) := by decide +kernel
theorem dL_law_438 : decode cL_law 438 = .ok (.iconst 0, 1) := by decide +kernel
theorem dL_law_439 : decode cL_law 439 = .ok (.ireturn, 1) := by decide +kernel
theorem dL_law_440 : decode cL_law 440 = .ok (.aload_n 1, 1) := by decide +kernel
theorem dL_law_441 : decode cL_law 441 = .ok (.aload_n 0, 1) := by decide +kernel
theorem dL_law_442 : decode cL_law 442 = .ok (.iload_n 3, 1) := by decide +kernel
theorem dL_law_443 : decode cL_law 443 = .ok (.iconst 1, 1) := by decide +kernel
theorem dL_law_444 : decode cL_law 444 = .ok (.iadd, 1) := by decide +kernel
theorem dL_law_445 : decode cL_law 445 = .ok (.iaload, 1) := by decide +kernel
theorem dL_law_446 : decode cL_law 446 = .ok (.aload_n 0, 1) := by decide +kernel
theorem dL_law_447 : decode cL_law 447 = .ok (.iload_n 3, 1) := by decide +kernel
theorem dL_law_448 : decode cL_law 448 = .ok (.iconst 2, 1) := by decide +kernel
theorem dL_law_449 : decode cL_law 449 = .ok (.iadd, 1) := by decide +kernel
theorem dL_law_450 : decode cL_law 450 = .ok (.iaload, 1) := by decide +kernel
theorem dL_law_451 : decode cL_law 451 = .ok (.invokevirtual 39, 3) := by decide +kernel
theorem dL_law_454 : decode cL_law 454 = .ok (.aload_n 2, 1) := by decide +kernel
theorem dL_law_455 : decode cL_law 455 = .ok (.aload_n 0, 1) := by decide +kernel
theorem dL_law_456 : decode cL_law 456 = .ok (.iload_n 3, 1) := by decide +kernel
theorem dL_law_457 : decode cL_law 457 = .ok (.iconst 1, 1) := by decide +kernel
theorem dL_law_458 : decode cL_law 458 = .ok (.iadd, 1) := by decide +kernel
theorem dL_law_459 : decode cL_law 459 = .ok (.iaload, 1) := by decide +kernel
theorem dL_law_460 : decode cL_law 460 = .ok (.aload_n 0, 1) := by decide +kernel
theorem dL_law_461 : decode cL_law 461 = .ok (.iload_n 3, 1) := by decide +kernel
theorem dL_law_462 : decode cL_law 462 = .ok (.iconst 2, 1) := by decide +kernel
theorem dL_law_463 : decode cL_law 463 = .ok (.iadd, 1) := by decide +kernel
theorem dL_law_464 : decode cL_law 464 = .ok (.iaload, 1) := by decide +kernel
theorem dL_law_465 : decode cL_law 465 = .ok (.invokevirtual 42, 3) := by decide +kernel
theorem dL_law_468 : decode cL_law 468 = .ok (.if_icmp .eq 1038, 3) := by decide +kernel
theorem dL_law_471 : decode cL_law 471 = .ok (.iconst 0, 1) := by decide +kernel
theorem dL_law_472 : decode cL_law 472 = .ok (.ireturn, 1) := by decide +kernel
theorem dL_law_473 : decode cL_law 473 = .ok (.aload_n 1, 1) := by decide +kernel
theorem dL_law_474 : decode cL_law 474 = .ok (.aload_n 0, 1) := by decide +kernel
theorem dL_law_475 : decode cL_law 475 = .ok (.iload_n 3, 1) := by decide +kernel
theorem dL_law_476 : decode cL_law 476 = .ok (.iconst 1, 1) := by decide +kernel
theorem dL_law_477 : decode cL_law 477 = .ok (.iadd, 1) := by decide +kernel
theorem dL_law_478 : decode cL_law 478 = .ok (.iaload, 1) := by decide +kernel
theorem dL_law_479 : decode cL_law 479 = .ok (.aload_n 0, 1) := by decide +kernel
theorem dL_law_480 : decode cL_law 480 = .ok (.iload_n 3, 1) := by decide +kernel
theorem dL_law_481 : decode cL_law 481 = .ok (.iconst 2, 1) := by decide +kernel
theorem dL_law_482 : decode cL_law 482 = .ok (.iadd, 1) := by decide +kernel
theorem dL_law_483 : decode cL_law 483 = .ok (.iaload, 1) := by decide +kernel
theorem dL_law_484 : decode cL_law 484 = .ok (.invokevirtual 43, 3) := by decide +kernel
theorem dL_law_487 : decode cL_law 487 = .ok (.aload_n 2, 1) := by decide +kernel
theorem dL_law_488 : decode cL_law 488 = .ok (.aload_n 0, 1) := by decide +kernel
theorem dL_law_489 : decode cL_law 489 = .ok (.iload_n 3, 1) := by decide +kernel
theorem dL_law_490 : decode cL_law 490 = .ok (.iconst 1, 1) := by decide +kernel
theorem dL_law_491 : decode cL_law 491 = .ok (.iadd, 1) := by decide +kernel
theorem dL_law_492 : decode cL_law 492 = .ok (.iaload, 1) := by decide +kernel
theorem dL_law_493 : decode cL_law 493 = .ok (.aload_n 0, 1) := by decide +kernel
theorem dL_law_494 : decode cL_law 494 = .ok (.iload_n 3, 1) := by decide +kernel
theorem dL_law_495 : decode cL_law 495 = .ok (.iconst 2, 1) := by decide +kernel
theorem dL_law_496 : decode cL_law 496 = .ok (.iadd, 1) := by decide +kernel
theorem dL_law_497 : decode cL_law 497 = .ok (.iaload, 1) := by decide +kernel
theorem dL_law_498 : decode cL_law 498 = .ok (.invokevirtual 46, 3) := by decide +kernel
theorem dL_law_501 : decode cL_law 501 = .ok (.if_icmp .eq 1005, 3) := by decide +kernel
theorem dL_law_504 : decode cL_law 504 = .ok (.iconst 0, 1) := by decide +kernel
theorem dL_law_505 : decode cL_law 505 = .ok (.ireturn, 1) := by decide +kernel
theorem dL_law_506 : decode cL_law 506 = .ok (.aload_n 1, 1) := by decide +kernel
theorem dL_law_507 : decode cL_law 507 = .ok (.aload_n 0, 1) := by decide +kernel
theorem dL_law_508 : decode cL_law 508 = .ok (.iload_n 3, 1) := by decide +kernel
theorem dL_law_509 : decode cL_law 509 = .ok (.iconst 1, 1) := by decide +kernel
theorem dL_law_510 : decode cL_law 510 = .ok (.iadd, 1) := by decide +kernel
theorem dL_law_511 : decode cL_law 511 = .ok (.iaload, 1) := by decide +kernel
theorem dL_law_512 : decode cL_law 512 = .ok (.invokevirtual 47, 3) := by decide +kernel
theorem dL_law_515 : decode cL_law 515 = .ok (.aload_n 2, 1) := by decide +kernel
theorem dL_law_516 : decode cL_law 516 = .ok (.aload_n 0, 1) := by decide +kernel
theorem dL_law_517 : decode cL_law 517 = .ok (.iload_n 3, 1) := by decide +kernel
theorem dL_law_518 : decode cL_law 518 = .ok (.iconst 1, 1) := by decide +kernel
theorem dL_law_519 : decode cL_law 519 = .ok (.iadd, 1) := by decide +kernel
theorem dL_law_520 : decode cL_law 520 = .ok (.iaload, 1) := by decide +kernel
theorem dL_law_521 : decode cL_law 521 = .ok (.invokevirtual 51, 3) := by decide +kernel
theorem dL_law_524 : decode cL_law 524 = .ok (.if_icmp .eq 982, 3) := by decide +kernel
theorem dL_law_527 : decode cL_law 527 = .ok (.iconst 0, 1) := by decide +kernel
theorem dL_law_528 : decode cL_law 528 = .ok (.ireturn, 1) := by decide +kernel
theorem dL_law_529 : decode cL_law 529 = .ok (.aload_n 1, 1) := by decide +kernel
theorem dL_law_530 : decode cL_law 530 = .ok (.aload_n 0, 1) := by decide +kernel
theorem dL_law_531 : decode cL_law 531 = .ok (.iload_n 3, 1) := by decide +kernel
theorem dL_law_532 : decode cL_law 532 = .ok (.iconst 1, 1) := by decide +kernel
theorem dL_law_533 : decode cL_law 533 = .ok (.iadd, 1) := by decide +kernel
theorem dL_law_534 : decode cL_law 534 = .ok (.iaload, 1) := by decide +kernel
theorem dL_law_535 : decode cL_law 535 = .ok (.aload_n 0, 1) := by decide +kernel
theorem dL_law_536 : decode cL_law 536 = .ok (.iload_n 3, 1) := by decide +kernel
theorem dL_law_537 : decode cL_law 537 = .ok (.iconst 2, 1) := by decide +kernel
theorem dL_law_538 : decode cL_law 538 = .ok (.iadd, 1) := by decide +kernel
theorem dL_law_539 : decode cL_law 539 = .ok (.iaload, 1) := by decide +kernel
theorem dL_law_540 : decode cL_law 540 = .ok (.invokevirtual 52, 3) := by decide +kernel
theorem dL_law_543 : decode cL_law 543 = .ok (.aload_n 2, 1) := by decide +kernel
theorem dL_law_544 : decode cL_law 544 = .ok (.aload_n 0, 1) := by decide +kernel
theorem dL_law_545 : decode cL_law 545 = .ok (.iload_n 3, 1) := by decide +kernel
theorem dL_law_546 : decode cL_law 546 = .ok (.iconst 1, 1) := by decide +kernel
theorem dL_law_547 : decode cL_law 547 = .ok (.iadd, 1) := by decide +kernel
theorem dL_law_548 : decode cL_law 548 = .ok (.iaload, 1) := by decide +kernel
theorem dL_law_549 : decode cL_law 549 = .ok (.aload_n 0, 1) := by decide +kernel
theorem dL_law_550 : decode cL_law 550 = .ok (.iload_n 3, 1) := by decide +kernel
theorem dL_law_551 : decode cL_law 551 = .ok (.iconst 2, 1) := by decide +kernel
theorem dL_law_552 : decode cL_law 552 = .ok (.iadd, 1) := by decide +kernel
theorem dL_law_553 : decode cL_law 553 = .ok (.iaload, 1) := by decide +kernel
theorem dL_law_554 : decode cL_law 554 = .ok (.invokevirtual 55, 3) := by decide +kernel
theorem dL_law_557 : decode cL_law 557 = .ok (.if_icmp .eq 949, 3) := by decide +kernel
theorem dL_law_560 : decode cL_law 560 = .ok (.iconst 0, 1) := by decide +kernel
theorem dL_law_561 : decode cL_law 561 = .ok (.ireturn, 1) := by decide +kernel
theorem dL_law_562 : decode cL_law 562 = .ok (.aload_n 1, 1) := by decide +kernel
theorem dL_law_563 : decode cL_law 563 = .ok (.aload_n 0, 1) := by decide +kernel
theorem dL_law_564 : decode cL_law 564 = .ok (.iload_n 3, 1) := by decide +kernel
theorem dL_law_565 : decode cL_law 565 = .ok (.iconst 1, 1) := by decide +kernel
theorem dL_law_566 : decode cL_law 566 = .ok (.iadd, 1) := by decide +kernel
theorem dL_law_567 : decode cL_law 567 = .ok (.iaload, 1) := by decide +kernel
theorem dL_law_568 : decode cL_law 568 = .ok (.aload_n 0, 1) := by decide +kernel
theorem dL_law_569 : decode cL_law 569 = .ok (.iload_n 3, 1) := by decide +kernel
theorem dL_law_570 : decode cL_law 570 = .ok (.iconst 2, 1) := by decide +kernel
theorem dL_law_571 : decode cL_law 571 = .ok (.iadd, 1) := by decide +kernel
theorem dL_law_572 : decode cL_law 572 = .ok (.iaload, 1) := by decide +kernel
theorem dL_law_573 : decode cL_law 573 = .ok (.aload_n 0, 1) := by decide +kernel
theorem dL_law_574 : decode cL_law 574 = .ok (.iload_n 3, 1) := by decide +kernel
theorem dL_law_575 : decode cL_law 575 = .ok (.iconst 3, 1) := by decide +kernel
theorem dL_law_576 : decode cL_law 576 = .ok (.iadd, 1) := by decide +kernel
theorem dL_law_577 : decode cL_law 577 = .ok (.iaload, 1) := by decide +kernel
theorem dL_law_578 : decode cL_law 578 = .ok (.invokevirtual 56, 3) := by decide +kernel
theorem dL_law_581 : decode cL_law 581 = .ok (.aload_n 2, 1) := by decide +kernel
theorem dL_law_582 : decode cL_law 582 = .ok (.aload_n 0, 1) := by decide +kernel
theorem dL_law_583 : decode cL_law 583 = .ok (.iload_n 3, 1) := by decide +kernel
theorem dL_law_584 : decode cL_law 584 = .ok (.iconst 1, 1) := by decide +kernel
theorem dL_law_585 : decode cL_law 585 = .ok (.iadd, 1) := by decide +kernel
theorem dL_law_586 : decode cL_law 586 = .ok (.iaload, 1) := by decide +kernel
theorem dL_law_587 : decode cL_law 587 = .ok (.aload_n 0, 1) := by decide +kernel
theorem dL_law_588 : decode cL_law 588 = .ok (.iload_n 3, 1) := by decide +kernel
theorem dL_law_589 : decode cL_law 589 = .ok (.iconst 2, 1) := by decide +kernel
theorem dL_law_590 : decode cL_law 590 = .ok (.iadd, 1) := by decide +kernel
theorem dL_law_591 : decode cL_law 591 = .ok (.iaload, 1) := by decide +kernel
theorem dL_law_592 : decode cL_law 592 = .ok (.aload_n 0, 1) := by decide +kernel
theorem dL_law_593 : decode cL_law 593 = .ok (.iload_n 3, 1) := by decide +kernel
theorem dL_law_594 : decode cL_law 594 = .ok (.iconst 3, 1) := by decide +kernel
theorem dL_law_595 : decode cL_law 595 = .ok (.iadd, 1) := by decide +kernel
theorem dL_law_596 : decode cL_law 596 = .ok (.iaload, 1) := by decide +kernel
theorem dL_law_597 : decode cL_law 597 = .ok (.invokevirtual 59, 3) := by decide +kernel
theorem dL_law_600 : decode cL_law 600 = .ok (.if_icmp .eq 906, 3) := by decide +kernel
theorem dL_law_603 : decode cL_law 603 = .ok (.iconst 0, 1) := by decide +kernel
theorem dL_law_604 : decode cL_law 604 = .ok (.ireturn, 1) := by decide +kernel
theorem dL_law_605 : decode cL_law 605 = .ok (.aload_n 1, 1) := by decide +kernel
theorem dL_law_606 : decode cL_law 606 = .ok (.aload_n 0, 1) := by decide +kernel
theorem dL_law_607 : decode cL_law 607 = .ok (.iload_n 3, 1) := by decide +kernel
theorem dL_law_608 : decode cL_law 608 = .ok (.iconst 1, 1) := by decide +kernel
theorem dL_law_609 : decode cL_law 609 = .ok (.iadd, 1) := by decide +kernel
theorem dL_law_610 : decode cL_law 610 = .ok (.iaload, 1) := by decide +kernel
theorem dL_law_611 : decode cL_law 611 = .ok (.aload_n 0, 1) := by decide +kernel
theorem dL_law_612 : decode cL_law 612 = .ok (.iload_n 3, 1) := by decide +kernel
theorem dL_law_613 : decode cL_law 613 = .ok (.iconst 2, 1) := by decide +kernel
theorem dL_law_614 : decode cL_law 614 = .ok (.iadd, 1) := by decide +kernel
theorem dL_law_615 : decode cL_law 615 = .ok (.iaload, 1) := by decide +kernel
theorem dL_law_616 : decode cL_law 616 = .ok (.invokevirtual 60, 3) := by decide +kernel
theorem dL_law_619 : decode cL_law 619 = .ok (.aload_n 2, 1) := by decide +kernel
theorem dL_law_620 : decode cL_law 620 = .ok (.aload_n 0, 1) := by decide +kernel
theorem dL_law_621 : decode cL_law 621 = .ok (.iload_n 3, 1) := by decide +kernel
theorem dL_law_622 : decode cL_law 622 = .ok (.iconst 1, 1) := by decide +kernel
theorem dL_law_623 : decode cL_law 623 = .ok (.iadd, 1) := by decide +kernel
theorem dL_law_624 : decode cL_law 624 = .ok (.iaload, 1) := by decide +kernel
theorem dL_law_625 : decode cL_law 625 = .ok (.aload_n 0, 1) := by decide +kernel
theorem dL_law_626 : decode cL_law 626 = .ok (.iload_n 3, 1) := by decide +kernel
theorem dL_law_627 : decode cL_law 627 = .ok (.iconst 2, 1) := by decide +kernel
theorem dL_law_628 : decode cL_law 628 = .ok (.iadd, 1) := by decide +kernel
theorem dL_law_629 : decode cL_law 629 = .ok (.iaload, 1) := by decide +kernel
theorem dL_law_630 : decode cL_law 630 = .ok (.invokevirtual 63, 3) := by decide +kernel
theorem dL_law_633 : decode cL_law 633 = .ok (.if_icmp .eq 873, 3) := by decide +kernel
theorem dL_law_636 : decode cL_law 636 = .ok (.iconst 0, 1) := by decide +kernel
theorem dL_law_637 : decode cL_law 637 = .ok (.ireturn, 1) := by decide +kernel
theorem dL_law_638 : decode cL_law 638 = .ok (.aload_n 1, 1) := by decide +kernel
theorem dL_law_639 : decode cL_law 639 = .ok (.aload_n 0, 1) := by decide +kernel
theorem dL_law_640 : decode cL_law 640 = .ok (.iload_n 3, 1) := by decide +kernel
theorem dL_law_641 : decode cL_law 641 = .ok (.iconst 1, 1) := by decide +kernel
theorem dL_law_642 : decode cL_law 642 = .ok (.iadd, 1) := by decide +kernel
theorem dL_law_643 : decode cL_law 643 = .ok (.iaload, 1) := by decide +kernel
theorem dL_law_644 : decode cL_law 644 = .ok (.invokevirtual 64, 3) := by decide +kernel
theorem dL_law_647 : decode cL_law 647 = .ok (.aload_n 2, 1) := by decide +kernel
theorem dL_law_648 : decode cL_law 648 = .ok (.aload_n 0, 1) := by decide +kernel
theorem dL_law_649 : decode cL_law 649 = .ok (.iload_n 3, 1) := by decide +kernel
theorem dL_law_650 : decode cL_law 650 = .ok (.iconst 1, 1) := by decide +kernel
theorem dL_law_651 : decode cL_law 651 = .ok (.iadd, 1) := by decide +kernel
theorem dL_law_652 : decode cL_law 652 = .ok (.iaload, 1) := by decide +kernel
theorem dL_law_653 : decode cL_law 653 = .ok (.invokevirtual 67, 3) := by decide +kernel
theorem dL_law_656 : decode cL_law 656 = .ok (.if_icmp .eq 850, 3) := by decide +kernel
theorem dL_law_659 : decode cL_law 659 = .ok (.iconst 0, 1) := by decide +kernel
theorem dL_law_660 : decode cL_law 660 = .ok (.ireturn, 1) := by decide +kernel
theorem dL_law_661 : decode cL_law 661 = .ok (.aload_n 1, 1) := by decide +kernel
theorem dL_law_662 : decode cL_law 662 = .ok (.aload_n 0, 1) := by decide +kernel
theorem dL_law_663 : decode cL_law 663 = .ok (.iload_n 3, 1) := by decide +kernel
theorem dL_law_664 : decode cL_law 664 = .ok (.iconst 1, 1) := by decide +kernel
theorem dL_law_665 : decode cL_law 665 = .ok (.iadd, 1) := by decide +kernel
theorem dL_law_666 : decode cL_law 666 = .ok (.iaload, 1) := by decide +kernel
theorem dL_law_667 : decode cL_law 667 = .ok (.aload_n 0, 1) := by decide +kernel
theorem dL_law_668 : decode cL_law 668 = .ok (.iload_n 3, 1) := by decide +kernel
theorem dL_law_669 : decode cL_law 669 = .ok (.iconst 2, 1) := by decide +kernel
theorem dL_law_670 : decode cL_law 670 = .ok (.iadd, 1) := by decide +kernel
theorem dL_law_671 : decode cL_law 671 = .ok (.iaload, 1) := by decide +kernel
theorem dL_law_672 : decode cL_law 672 = .ok (.invokevirtual 68, 3) := by decide +kernel
theorem dL_law_675 : decode cL_law 675 = .ok (.aload_n 2, 1) := by decide +kernel
theorem dL_law_676 : decode cL_law 676 = .ok (.aload_n 0, 1) := by decide +kernel
theorem dL_law_677 : decode cL_law 677 = .ok (.iload_n 3, 1) := by decide +kernel
theorem dL_law_678 : decode cL_law 678 = .ok (.iconst 1, 1) := by decide +kernel
theorem dL_law_679 : decode cL_law 679 = .ok (.iadd, 1) := by decide +kernel
theorem dL_law_680 : decode cL_law 680 = .ok (.iaload, 1) := by decide +kernel
theorem dL_law_681 : decode cL_law 681 = .ok (.aload_n 0, 1) := by decide +kernel
theorem dL_law_682 : decode cL_law 682 = .ok (.iload_n 3, 1) := by decide +kernel
theorem dL_law_683 : decode cL_law 683 = .ok (.iconst 2, 1) := by decide +kernel
theorem dL_law_684 : decode cL_law 684 = .ok (.iadd, 1) := by decide +kernel
theorem dL_law_685 : decode cL_law 685 = .ok (.iaload, 1) := by decide +kernel
theorem dL_law_686 : decode cL_law 686 = .ok (.invokevirtual 71, 3) := by decide +kernel
theorem dL_law_689 : decode cL_law 689 = .ok (.if_icmp .eq 817, 3) := by decide +kernel
theorem dL_law_692 : decode cL_law 692 = .ok (.iconst 0, 1) := by decide +kernel
theorem dL_law_693 : decode cL_law 693 = .ok (.ireturn, 1) := by decide +kernel
theorem dL_law_694 : decode cL_law 694 = .ok (.aload_n 1, 1) := by decide +kernel
theorem dL_law_695 : decode cL_law 695 = .ok (.aload_n 0, 1) := by decide +kernel
theorem dL_law_696 : decode cL_law 696 = .ok (.iload_n 3, 1) := by decide +kernel
theorem dL_law_697 : decode cL_law 697 = .ok (.iconst 1, 1) := by decide +kernel
theorem dL_law_698 : decode cL_law 698 = .ok (.iadd, 1) := by decide +kernel
theorem dL_law_699 : decode cL_law 699 = .ok (.iaload, 1) := by decide +kernel
theorem dL_law_700 : decode cL_law 700 = .ok (.invokevirtual 72, 3) := by decide +kernel
theorem dL_law_703 : decode cL_law 703 = .ok (.aload_n 2, 1) := by decide +kernel
theorem dL_law_704 : decode cL_law 704 = .ok (.aload_n 0, 1) := by decide +kernel
theorem dL_law_705 : decode cL_law 705 = .ok (.iload_n 3, 1) := by decide +kernel
theorem dL_law_706 : decode cL_law 706 = .ok (.iconst 1, 1) := by decide +kernel
theorem dL_law_707 : decode cL_law 707 = .ok (.iadd, 1) := by decide +kernel
theorem dL_law_708 : decode cL_law 708 = .ok (.iaload, 1) := by decide +kernel
theorem dL_law_709 : decode cL_law 709 = .ok (.invokevirtual 75, 3) := by decide +kernel
theorem dL_law_712 : decode cL_law 712 = .ok (.if_icmp .eq 794, 3) := by decide +kernel
theorem dL_law_715 : decode cL_law 715 = .ok (.iconst 0, 1) := by decide +kernel
theorem dL_law_716 : decode cL_law 716 = .ok (.ireturn, 1) := by decide +kernel
theorem dL_law_717 : decode cL_law 717 = .ok (.aload_n 1, 1) := by decide +kernel
theorem dL_law_718 : decode cL_law 718 = .ok (.aload_n 0, 1) := by decide +kernel
theorem dL_law_719 : decode cL_law 719 = .ok (.iload_n 3, 1) := by decide +kernel
theorem dL_law_720 : decode cL_law 720 = .ok (.iconst 1, 1) := by decide +kernel
theorem dL_law_721 : decode cL_law 721 = .ok (.iadd, 1) := by decide +kernel
theorem dL_law_722 : decode cL_law 722 = .ok (.iaload, 1) := by decide +kernel
theorem dL_law_723 : decode cL_law 723 = .ok (.invokevirtual 76, 3) := by decide +kernel
theorem dL_law_726 : decode cL_law 726 = .ok (.aload_n 2, 1) := by decide +kernel
theorem dL_law_727 : decode cL_law 727 = .ok (.aload_n 0, 1) := by decide +kernel
theorem dL_law_728 : decode cL_law 728 = .ok (.iload_n 3, 1) := by decide +kernel
theorem dL_law_729 : decode cL_law 729 = .ok (.iconst 1, 1) := by decide +kernel
theorem dL_law_730 : decode cL_law 730 = .ok (.iadd, 1) := by decide +kernel
theorem dL_law_731 : decode cL_law 731 = .ok (.iaload, 1) := by decide +kernel
theorem dL_law_732 : decode cL_law 732 = .ok (.invokevirtual 79, 3) := by decide +kernel
theorem dL_law_735 : decode cL_law 735 = .ok (.if_icmp .eq 771, 3) := by decide +kernel
theorem dL_law_738 : decode cL_law 738 = .ok (.iconst 0, 1) := by decide +kernel
theorem dL_law_739 : decode cL_law 739 = .ok (.ireturn, 1) := by decide +kernel
theorem dL_law_740 : decode cL_law 740 = .ok (.aload_n 1, 1) := by decide +kernel
theorem dL_law_741 : decode cL_law 741 = .ok (.aload_n 0, 1) := by decide +kernel
theorem dL_law_742 : decode cL_law 742 = .ok (.iload_n 3, 1) := by decide +kernel
theorem dL_law_743 : decode cL_law 743 = .ok (.iconst 1, 1) := by decide +kernel
theorem dL_law_744 : decode cL_law 744 = .ok (.iadd, 1) := by decide +kernel
theorem dL_law_745 : decode cL_law 745 = .ok (.iaload, 1) := by decide +kernel
theorem dL_law_746 : decode cL_law 746 = .ok (.aload_n 0, 1) := by decide +kernel
theorem dL_law_747 : decode cL_law 747 = .ok (.iload_n 3, 1) := by decide +kernel
theorem dL_law_748 : decode cL_law 748 = .ok (.iconst 2, 1) := by decide +kernel
theorem dL_law_749 : decode cL_law 749 = .ok (.iadd, 1) := by decide +kernel
theorem dL_law_750 : decode cL_law 750 = .ok (.iaload, 1) := by decide +kernel
theorem dL_law_751 : decode cL_law 751 = .ok (.aload_n 0, 1) := by decide +kernel
theorem dL_law_752 : decode cL_law 752 = .ok (.iload_n 3, 1) := by decide +kernel
theorem dL_law_753 : decode cL_law 753 = .ok (.iconst 3, 1) := by decide +kernel
theorem dL_law_754 : decode cL_law 754 = .ok (.iadd, 1) := by decide +kernel
theorem dL_law_755 : decode cL_law 755 = .ok (.iaload, 1) := by decide +kernel
theorem dL_law_756 : decode cL_law 756 = .ok (.invokevirtual 80, 3) := by decide +kernel
theorem dL_law_759 : decode cL_law 759 = .ok (.aload_n 2, 1) := by decide +kernel
theorem dL_law_760 : decode cL_law 760 = .ok (.aload_n 0, 1) := by decide +kernel
theorem dL_law_761 : decode cL_law 761 = .ok (.iload_n 3, 1) := by decide +kernel
theorem dL_law_762 : decode cL_law 762 = .ok (.iconst 1, 1) := by decide +kernel
theorem dL_law_763 : decode cL_law 763 = .ok (.iadd, 1) := by decide +kernel
theorem dL_law_764 : decode cL_law 764 = .ok (.iaload, 1) := by decide +kernel
theorem dL_law_765 : decode cL_law 765 = .ok (.aload_n 0, 1) := by decide +kernel
theorem dL_law_766 : decode cL_law 766 = .ok (.iload_n 3, 1) := by decide +kernel
theorem dL_law_767 : decode cL_law 767 = .ok (.iconst 2, 1) := by decide +kernel
theorem dL_law_768 : decode cL_law 768 = .ok (.iadd, 1) := by decide +kernel
theorem dL_law_769 : decode cL_law 769 = .ok (.iaload, 1) := by decide +kernel
theorem dL_law_770 : decode cL_law 770 = .ok (.aload_n 0, 1) := by decide +kernel
theorem dL_law_771 : decode cL_law 771 = .ok (.iload_n 3, 1) := by decide +kernel
theorem dL_law_772 : decode cL_law 772 = .ok (.iconst 3, 1) := by decide +kernel
theorem dL_law_773 : decode cL_law 773 = .ok (.iadd, 1) := by decide +kernel
theorem dL_law_774 : decode cL_law 774 = .ok (.iaload, 1) := by decide +kernel
theorem dL_law_775 : decode cL_law 775 = .ok (.invokevirtual 83, 3) := by decide +kernel
theorem dL_law_778 : decode cL_law 778 = .ok (.if_icmp .eq 728, 3) := by decide +kernel
theorem dL_law_781 : decode cL_law 781 = .ok (.iconst 0, 1) := by decide +kernel
theorem dL_law_782 : decode cL_law 782 = .ok (.ireturn, 1) := by decide +kernel
theorem dL_law_783 : decode cL_law 783 = .ok (.aload_n 1, 1) := by decide +kernel
theorem dL_law_784 : decode cL_law 784 = .ok (.aload_n 0, 1) := by decide +kernel
theorem dL_law_785 : decode cL_law 785 = .ok (.iload_n 3, 1) := by decide +kernel
theorem dL_law_786 : decode cL_law 786 = .ok (.iconst 1, 1) := by decide +kernel
theorem dL_law_787 : decode cL_law 787 = .ok (.iadd, 1) := by decide +kernel
theorem dL_law_788 : decode cL_law 788 = .ok (.iaload, 1) := by decide +kernel
theorem dL_law_789 : decode cL_law 789 = .ok (.invokevirtual 84, 3) := by decide +kernel
theorem dL_law_792 : decode cL_law 792 = .ok (.aload_n 2, 1) := by decide +kernel
theorem dL_law_793 : decode cL_law 793 = .ok (.aload_n 0, 1) := by decide +kernel
theorem dL_law_794 : decode cL_law 794 = .ok (.iload_n 3, 1) := by decide +kernel
theorem dL_law_795 : decode cL_law 795 = .ok (.iconst 1, 1) := by decide +kernel
theorem dL_law_796 : decode cL_law 796 = .ok (.iadd, 1) := by decide +kernel
theorem dL_law_797 : decode cL_law 797 = .ok (.iaload, 1) := by decide +kernel
theorem dL_law_798 : decode cL_law 798 = .ok (.invokevirtual 87, 3) := by decide +kernel
theorem dL_law_801 : decode cL_law 801 = .ok (.if_icmp .eq 705, 3) := by decide +kernel
theorem dL_law_804 : decode cL_law 804 = .ok (.iconst 0, 1) := by decide +kernel
theorem dL_law_805 : decode cL_law 805 = .ok (.ireturn, 1) := by decide +kernel
theorem dL_law_806 : decode cL_law 806 = .ok (.aload_n 1, 1) := by decide +kernel
theorem dL_law_807 : decode cL_law 807 = .ok (.aload_n 0, 1) := by decide +kernel
theorem dL_law_808 : decode cL_law 808 = .ok (.iload_n 3, 1) := by decide +kernel
theorem dL_law_809 : decode cL_law 809 = .ok (.iconst 1, 1) := by decide +kernel
theorem dL_law_810 : decode cL_law 810 = .ok (.iadd, 1) := by decide +kernel
theorem dL_law_811 : decode cL_law 811 = .ok (.iaload, 1) := by decide +kernel
theorem dL_law_812 : decode cL_law 812 = .ok (.invokevirtual 88, 3) := by decide +kernel
theorem dL_law_815 : decode cL_law 815 = .ok (.aload_n 2, 1) := by decide +kernel
theorem dL_law_816 : decode cL_law 816 = .ok (.aload_n 0, 1) := by decide +kernel
theorem dL_law_817 : decode cL_law 817 = .ok (.iload_n 3, 1) := by decide +kernel
theorem dL_law_818 : decode cL_law 818 = .ok (.iconst 1, 1) := by decide +kernel
theorem dL_law_819 : decode cL_law 819 = .ok (.iadd, 1) := by decide +kernel
theorem dL_law_820 : decode cL_law 820 = .ok (.iaload, 1) := by decide +kernel
theorem dL_law_821 : decode cL_law 821 = .ok (.invokevirtual 91, 3) := by decide +kernel
theorem dL_law_824 : decode cL_law 824 = .ok (.if_icmp .eq 682, 3) := by decide +kernel
theorem dL_law_827 : decode cL_law 827 = .ok (.iconst 0, 1) := by decide +kernel
theorem dL_law_828 : decode cL_law 828 = .ok (.ireturn, 1) := by decide +kernel
theorem dL_law_829 : decode cL_law 829 = .ok (.aload_n 1, 1) := by decide +kernel
theorem dL_law_830 : decode cL_law 830 = .ok (.aload_n 0, 1) := by decide +kernel
theorem dL_law_831 : decode cL_law 831 = .ok (.iload_n 3, 1) := by decide +kernel
theorem dL_law_832 : decode cL_law 832 = .ok (.iconst 1, 1) := by decide +kernel
theorem dL_law_833 : decode cL_law 833 = .ok (.iadd, 1) := by decide +kernel
theorem dL_law_834 : decode cL_law 834 = .ok (.iaload, 1) := by decide +kernel
theorem dL_law_835 : decode cL_law 835 = .ok (.invokevirtual 92, 3) := by decide +kernel
theorem dL_law_838 : decode cL_law 838 = .ok (.aload_n 2, 1) := by decide +kernel
theorem dL_law_839 : decode cL_law 839 = .ok (.aload_n 0, 1) := by decide +kernel
theorem dL_law_840 : decode cL_law 840 = .ok (.iload_n 3, 1) := by decide +kernel
theorem dL_law_841 : decode cL_law 841 = .ok (.iconst 1, 1) := by decide +kernel
theorem dL_law_842 : decode cL_law 842 = .ok (.iadd, 1) := by decide +kernel
theorem dL_law_843 : decode cL_law 843 = .ok (.iaload, 1) := by decide +kernel
theorem dL_law_844 : decode cL_law 844 = .ok (.invokevirtual 95, 3) := by decide +kernel
theorem dL_law_847 : decode cL_law 847 = .ok (.if_icmp .eq 659, 3) := by decide +kernel
theorem dL_law_850 : decode cL_law 850 = .ok (.iconst 0, 1) := by decide +kernel
theorem dL_law_851 : decode cL_law 851 = .ok (.ireturn, 1) := by decide +kernel
theorem dL_law_852 : decode cL_law 852 = .ok (.aload_n 1, 1) := by decide +kernel
theorem dL_law_853 : decode cL_law 853 = .ok (.aload_n 0, 1) := by decide +kernel
theorem dL_law_854 : decode cL_law 854 = .ok (.iload_n 3, 1) := by decide +kernel
theorem dL_law_855 : decode cL_law 855 = .ok (.iconst 1, 1) := by decide +kernel
theorem dL_law_856 : decode cL_law 856 = .ok (.iadd, 1) := by decide +kernel
theorem dL_law_857 : decode cL_law 857 = .ok (.iaload, 1) := by decide +kernel
theorem dL_law_858 : decode cL_law 858 = .ok (.invokevirtual 96, 3) := by decide +kernel
theorem dL_law_861 : decode cL_law 861 = .ok (.aload_n 2, 1) := by decide +kernel
theorem dL_law_862 : decode cL_law 862 = .ok (.aload_n 0, 1) := by decide +kernel
theorem dL_law_863 : decode cL_law 863 = .ok (.iload_n 3, 1) := by decide +kernel
theorem dL_law_864 : decode cL_law 864 = .ok (.iconst 1, 1) := by decide +kernel
theorem dL_law_865 : decode cL_law 865 = .ok (.iadd, 1) := by decide +kernel
theorem dL_law_866 : decode cL_law 866 = .ok (.iaload, 1) := by decide +kernel
theorem dL_law_867 : decode cL_law 867 = .ok (.invokevirtual 99, 3) := by decide +kernel
theorem dL_law_870 : decode cL_law 870 = .ok (.if_icmp .eq 636, 3) := by decide +kernel
theorem dL_law_873 : decode cL_law 873 = .ok (.iconst 0, 1) := by decide +kernel
theorem dL_law_874 : decode cL_law 874 = .ok (.ireturn, 1) := by decide +kernel
theorem dL_law_875 : decode cL_law 875 = .ok (.aload_n 1, 1) := by decide +kernel
theorem dL_law_876 : decode cL_law 876 = .ok (.aload_n 0, 1) := by decide +kernel
theorem dL_law_877 : decode cL_law 877 = .ok (.iload_n 3, 1) := by decide +kernel
theorem dL_law_878 : decode cL_law 878 = .ok (.iconst 1, 1) := by decide +kernel
theorem dL_law_879 : decode cL_law 879 = .ok (.iadd, 1) := by decide +kernel
theorem dL_law_880 : decode cL_law 880 = .ok (.iaload, 1) := by decide +kernel
theorem dL_law_881 : decode cL_law 881 = .ok (.invokevirtual 100, 3) := by decide +kernel
theorem dL_law_884 : decode cL_law 884 = .ok (.aload_n 2, 1) := by decide +kernel
theorem dL_law_885 : decode cL_law 885 = .ok (.aload_n 0, 1) := by decide +kernel
theorem dL_law_886 : decode cL_law 886 = .ok (.iload_n 3, 1) := by decide +kernel
theorem dL_law_887 : decode cL_law 887 = .ok (.iconst 1, 1) := by decide +kernel
theorem dL_law_888 : decode cL_law 888 = .ok (.iadd, 1) := by decide +kernel
theorem dL_law_889 : decode cL_law 889 = .ok (.iaload, 1) := by decide +kernel
theorem dL_law_890 : decode cL_law 890 = .ok (.invokevirtual 103, 3) := by decide +kernel
theorem dL_law_893 : decode cL_law 893 = .ok (.if_icmp .eq 613, 3) := by decide +kernel
theorem dL_law_896 : decode cL_law 896 = .ok (.iconst 0, 1) := by decide +kernel
theorem dL_law_897 : decode cL_law 897 = .ok (.ireturn, 1) := by decide +kernel
theorem dL_law_898 : decode cL_law 898 = .ok (.aload_n 1, 1) := by decide +kernel
theorem dL_law_899 : decode cL_law 899 = .ok (.aload_n 0, 1) := by decide +kernel
theorem dL_law_900 : decode cL_law 900 = .ok (.iload_n 3, 1) := by decide +kernel
theorem dL_law_901 : decode cL_law 901 = .ok (.iconst 1, 1) := by decide +kernel
theorem dL_law_902 : decode cL_law 902 = .ok (.iadd, 1) := by decide +kernel
theorem dL_law_903 : decode cL_law 903 = .ok (.iaload, 1) := by decide +kernel
theorem dL_law_904 : decode cL_law 904 = .ok (.invokevirtual 104, 3) := by decide +kernel
theorem dL_law_907 : decode cL_law 907 = .ok (.aload_n 2, 1) := by decide +kernel
theorem dL_law_908 : decode cL_law 908 = .ok (.aload_n 0, 1) := by decide +kernel
theorem dL_law_909 : decode cL_law 909 = .ok (.iload_n 3, 1) := by decide +kernel
theorem dL_law_910 : decode cL_law 910 = .ok (.iconst 1, 1) := by decide +kernel
theorem dL_law_911 : decode cL_law 911 = .ok (.iadd, 1) := by decide +kernel
theorem dL_law_912 : decode cL_law 912 = .ok (.iaload, 1) := by decide +kernel
theorem dL_law_913 : decode cL_law 913 = .ok (.invokevirtual 107, 3) := by decide +kernel
theorem dL_law_916 : decode cL_law 916 = .ok (.if_icmp .eq 590, 3) := by decide +kernel
theorem dL_law_919 : decode cL_law 919 = .ok (.iconst 0, 1) := by decide +kernel
theorem dL_law_920 : decode cL_law 920 = .ok (.ireturn, 1) := by decide +kernel
theorem dL_law_921 : decode cL_law 921 = .ok (.aload_n 1, 1) := by decide +kernel
theorem dL_law_922 : decode cL_law 922 = .ok (.aload_n 0, 1) := by decide +kernel
theorem dL_law_923 : decode cL_law 923 = .ok (.iload_n 3, 1) := by decide +kernel
theorem dL_law_924 : decode cL_law 924 = .ok (.iconst 1, 1) := by decide +kernel
theorem dL_law_925 : decode cL_law 925 = .ok (.iadd, 1) := by decide +kernel
theorem dL_law_926 : decode cL_law 926 = .ok (.iaload, 1) := by decide +kernel
theorem dL_law_927 : decode cL_law 927 = .ok (.aload_n 0, 1) := by decide +kernel
theorem dL_law_928 : decode cL_law 928 = .ok (.iload_n 3, 1) := by decide +kernel
theorem dL_law_929 : decode cL_law 929 = .ok (.iconst 2, 1) := by decide +kernel
theorem dL_law_930 : decode cL_law 930 = .ok (.iadd, 1) := by decide +kernel
theorem dL_law_931 : decode cL_law 931 = .ok (.iaload, 1) := by decide +kernel
theorem dL_law_932 : decode cL_law 932 = .ok (.invokevirtual 108, 3) := by decide +kernel
theorem dL_law_935 : decode cL_law 935 = .ok (.aload_n 2, 1) := by decide +kernel
theorem dL_law_936 : decode cL_law 936 = .ok (.aload_n 0, 1) := by decide +kernel
theorem dL_law_937 : decode cL_law 937 = .ok (.iload_n 3, 1) := by decide +kernel
theorem dL_law_938 : decode cL_law 938 = .ok (.iconst 1, 1) := by decide +kernel
theorem dL_law_939 : decode cL_law 939 = .ok (.iadd, 1) := by decide +kernel
theorem dL_law_940 : decode cL_law 940 = .ok (.iaload, 1) := by decide +kernel
theorem dL_law_941 : decode cL_law 941 = .ok (.aload_n 0, 1) := by decide +kernel
theorem dL_law_942 : decode cL_law 942 = .ok (.iload_n 3, 1) := by decide +kernel
theorem dL_law_943 : decode cL_law 943 = .ok (.iconst 2, 1) := by decide +kernel
theorem dL_law_944 : decode cL_law 944 = .ok (.iadd, 1) := by decide +kernel
theorem dL_law_945 : decode cL_law 945 = .ok (.iaload, 1) := by decide +kernel
theorem dL_law_946 : decode cL_law 946 = .ok (.invokevirtual 111, 3) := by decide +kernel
theorem dL_law_949 : decode cL_law 949 = .ok (.if_icmp .eq 557, 3) := by decide +kernel
theorem dL_law_952 : decode cL_law 952 = .ok (.iconst 0, 1) := by decide +kernel
theorem dL_law_953 : decode cL_law 953 = .ok (.ireturn, 1) := by decide +kernel
theorem dL_law_954 : decode cL_law 954 = .ok (.aload_n 1, 1) := by decide +kernel
theorem dL_law_955 : decode cL_law 955 = .ok (.aload_n 0, 1) := by decide +kernel
theorem dL_law_956 : decode cL_law 956 = .ok (.iload_n 3, 1) := by decide +kernel
theorem dL_law_957 : decode cL_law 957 = .ok (.iconst 1, 1) := by decide +kernel
theorem dL_law_958 : decode cL_law 958 = .ok (.iadd, 1) := by decide +kernel
theorem dL_law_959 : decode cL_law 959 = .ok (.iaload, 1) := by decide +kernel
theorem dL_law_960 : decode cL_law 960 = .ok (.aload_n 0, 1) := by decide +kernel
theorem dL_law_961 : decode cL_law 961 = .ok (.iload_n 3, 1) := by decide +kernel
theorem dL_law_962 : decode cL_law 962 = .ok (.iconst 2, 1) := by decide +kernel
theorem dL_law_963 : decode cL_law 963 = .ok (.iadd, 1) := by decide +kernel
theorem dL_law_964 : decode cL_law 964 = .ok (.iaload, 1) := by decide +kernel
theorem dL_law_965 : decode cL_law 965 = .ok (.invokevirtual 112, 3) := by decide +kernel
theorem dL_law_968 : decode cL_law 968 = .ok (.aload_n 2, 1) := by decide +kernel
theorem dL_law_969 : decode cL_law 969 = .ok (.aload_n 0, 1) := by decide +kernel
theorem dL_law_970 : decode cL_law 970 = .ok (.iload_n 3, 1) := by decide +kernel
theorem dL_law_971 : decode cL_law 971 = .ok (.iconst 1, 1) := by decide +kernel
theorem dL_law_972 : decode cL_law 972 = .ok (.iadd, 1) := by decide +kernel
theorem dL_law_973 : decode cL_law 973 = .ok (.iaload, 1) := by decide +kernel
theorem dL_law_974 : decode cL_law 974 = .ok (.aload_n 0, 1) := by decide +kernel
theorem dL_law_975 : decode cL_law 975 = .ok (.iload_n 3, 1) := by decide +kernel
theorem dL_law_976 : decode cL_law 976 = .ok (.iconst 2, 1) := by decide +kernel
theorem dL_law_977 : decode cL_law 977 = .ok (.iadd, 1) := by decide +kernel
theorem dL_law_978 : decode cL_law 978 = .ok (.iaload, 1) := by decide +kernel
theorem dL_law_979 : decode cL_law 979 = .ok (.invokevirtual 115, 3) := by decide +kernel
theorem dL_law_982 : decode cL_law 982 = .ok (.if_icmp .eq 524, 3) := by decide +kernel
theorem dL_law_985 : decode cL_law 985 = .ok (.iconst 0, 1) := by decide +kernel
theorem dL_law_986 : decode cL_law 986 = .ok (.ireturn, 1) := by decide +kernel
theorem dL_law_987 : decode cL_law 987 = .ok (.aload_n 1, 1) := by decide +kernel
theorem dL_law_988 : decode cL_law 988 = .ok (.aload_n 0, 1) := by decide +kernel
theorem dL_law_989 : decode cL_law 989 = .ok (.iload_n 3, 1) := by decide +kernel
theorem dL_law_990 : decode cL_law 990 = .ok (.iconst 1, 1) := by decide +kernel
theorem dL_law_991 : decode cL_law 991 = .ok (.iadd, 1) := by decide +kernel
theorem dL_law_992 : decode cL_law 992 = .ok (.iaload, 1) := by decide +kernel
theorem dL_law_993 : decode cL_law 993 = .ok (.aload_n 0, 1) := by decide +kernel
theorem dL_law_994 : decode cL_law 994 = .ok (.iload_n 3, 1) := by decide +kernel
theorem dL_law_995 : decode cL_law 995 = .ok (.iconst 2, 1) := by decide +kernel
theorem dL_law_996 : decode cL_law 996 = .ok (.iadd, 1) := by decide +kernel
theorem dL_law_997 : decode cL_law 997 = .ok (.iaload, 1) := by decide +kernel
theorem dL_law_998 : decode cL_law 998 = .ok (.invokevirtual 116, 3) := by decide +kernel
theorem dL_law_1001 : decode cL_law 1001 = .ok (.aload_n 2, 1) := by decide +kernel
theorem dL_law_1002 : decode cL_law 1002 = .ok (.aload_n 0, 1) := by decide +kernel
theorem dL_law_1003 : decode cL_law 1003 = .ok (.iload_n 3, 1) := by decide +kernel
theorem dL_law_1004 : decode cL_law 1004 = .ok (.iconst 1, 1) := by decide +kernel
theorem dL_law_1005 : decode cL_law 1005 = .ok (.iadd, 1) := by decide +kernel
theorem dL_law_1006 : decode cL_law 1006 = .ok (.iaload, 1) := by decide +kernel
theorem dL_law_1007 : decode cL_law 1007 = .ok (.aload_n 0, 1) := by decide +kernel
theorem dL_law_1008 : decode cL_law 1008 = .ok (.iload_n 3, 1) := by decide +kernel
theorem dL_law_1009 : decode cL_law 1009 = .ok (.iconst 2, 1) := by decide +kernel
theorem dL_law_1010 : decode cL_law 1010 = .ok (.iadd, 1) := by decide +kernel
theorem dL_law_1011 : decode cL_law 1011 = .ok (.iaload, 1) := by decide +kernel
theorem dL_law_1012 : decode cL_law 1012 = .ok (.invokevirtual 119, 3) := by decide +kernel
theorem dL_law_1015 : decode cL_law 1015 = .ok (.if_icmp .eq 491, 3) := by decide +kernel
theorem dL_law_1018 : decode cL_law 1018 = .ok (.iconst 0, 1) := by decide +kernel
theorem dL_law_1019 : decode cL_law 1019 = .ok (.ireturn, 1) := by decide +kernel
theorem dL_law_1020 : decode cL_law 1020 = .ok (.aload_n 1, 1) := by decide +kernel
theorem dL_law_1021 : decode cL_law 1021 = .ok (.aload_n 0, 1) := by decide +kernel
theorem dL_law_1022 : decode cL_law 1022 = .ok (.iload_n 3, 1) := by decide +kernel
theorem dL_law_1023 : decode cL_law 1023 = .ok (.iconst 1, 1) := by decide +kernel
theorem dL_law_1024 : decode cL_law 1024 = .ok (.iadd, 1) := by decide +kernel
theorem dL_law_1025 : decode cL_law 1025 = .ok (.iaload, 1) := by decide +kernel
theorem dL_law_1026 : decode cL_law 1026 = .ok (.aload_n 0, 1) := by decide +kernel
theorem dL_law_1027 : decode cL_law 1027 = .ok (.iload_n 3, 1) := by decide +kernel
theorem dL_law_1028 : decode cL_law 1028 = .ok (.iconst 2, 1) := by decide +kernel
theorem dL_law_1029 : decode cL_law 1029 = .ok (.iadd, 1) := by decide +kernel
theorem dL_law_1030 : decode cL_law 1030 = .ok (.iaload, 1) := by decide +kernel
theorem dL_law_1031 : decode cL_law 1031 = .ok (.invokevirtual 120, 3) := by decide +kernel
theorem dL_law_1034 : decode cL_law 1034 = .ok (.aload_n 2, 1) := by decide +kernel
theorem dL_law_1035 : decode cL_law 1035 = .ok (.aload_n 0, 1) := by decide +kernel
theorem dL_law_1036 : decode cL_law 1036 = .ok (.iload_n 3, 1) := by decide +kernel
theorem dL_law_1037 : decode cL_law 1037 = .ok (.iconst 1, 1) := by decide +kernel
theorem dL_law_1038 : decode cL_law 1038 = .ok (.iadd, 1) := by decide +kernel
theorem dL_law_1039 : decode cL_law 1039 = .ok (.iaload, 1) := by decide +kernel
theorem dL_law_1040 : decode cL_law 1040 = .ok (.aload_n 0, 1) := by decide +kernel
theorem dL_law_1041 : decode cL_law 1041 = .ok (.iload_n 3, 1) := by decide +kernel
theorem dL_law_1042 : decode cL_law 1042 = .ok (.iconst 2, 1) := by decide +kernel
theorem dL_law_1043 : decode cL_law 1043 = .ok (.iadd, 1) := by decide +kernel
theorem dL_law_1044 : decode cL_law 1044 = .ok (.iaload, 1) := by decide +kernel
theorem dL_law_1045 : decode cL_law 1045 = .ok (.invokevirtual 123, 3) := by decide +kernel
theorem dL_law_1048 : decode cL_law 1048 = .ok (.if_icmp .eq 458, 3) := by decide +kernel
theorem dL_law_1051 : decode cL_law 1051 = .ok (.iconst 0, 1) := by decide +kernel
theorem dL_law_1052 : decode cL_law 1052 = .ok (.ireturn, 1) := by decide +kernel
theorem dL_law_1053 : decode cL_law 1053 = .ok (.aload_n 1, 1) := by decide +kernel
theorem dL_law_1054 : decode cL_law 1054 = .ok (.aload_n 0, 1) := by decide +kernel
theorem dL_law_1055 : decode cL_law 1055 = .ok (.iload_n 3, 1) := by decide +kernel
theorem dL_law_1056 : decode cL_law 1056 = .ok (.iconst 1, 1) := by decide +kernel
theorem dL_law_1057 : decode cL_law 1057 = .ok (.iadd, 1) := by decide +kernel
theorem dL_law_1058 : decode cL_law 1058 = .ok (.iaload, 1) := by decide +kernel
theorem dL_law_1059 : decode cL_law 1059 = .ok (.aload_n 0, 1) := by decide +kernel
theorem dL_law_1060 : decode cL_law 1060 = .ok (.iload_n 3, 1) := by decide +kernel
theorem dL_law_1061 : decode cL_law 1061 = .ok (.iconst 2, 1) := by decide +kernel
theorem dL_law_1062 : decode cL_law 1062 = .ok (.iadd, 1) := by decide +kernel
theorem dL_law_1063 : decode cL_law 1063 = .ok (.iaload, 1) := by decide +kernel
theorem dL_law_1064 : decode cL_law 1064 = .ok (.invokevirtual 124, 3) := by decide +kernel
theorem dL_law_1067 : decode cL_law 1067 = .ok (.aload_n 2, 1) := by decide +kernel
theorem dL_law_1068 : decode cL_law 1068 = .ok (.aload_n 0, 1) := by decide +kernel
theorem dL_law_1069 : decode cL_law 1069 = .ok (.iload_n 3, 1) := by decide +kernel
theorem dL_law_1070 : decode cL_law 1070 = .ok (.iconst 1, 1) := by decide +kernel
theorem dL_law_1071 : decode cL_law 1071 = .ok (.iadd, 1) := by decide +kernel
theorem dL_law_1072 : decode cL_law 1072 = .ok (.iaload, 1) := by decide +kernel
theorem dL_law_1073 : decode cL_law 1073 = .ok (.aload_n 0, 1) := by decide +kernel
theorem dL_law_1074 : decode cL_law 1074 = .ok (.iload_n 3, 1) := by decide +kernel
theorem dL_law_1075 : decode cL_law 1075 = .ok (.iconst 2, 1) := by decide +kernel
theorem dL_law_1076 : decode cL_law 1076 = .ok (.iadd, 1) := by decide +kernel
theorem dL_law_1077 : decode cL_law 1077 = .ok (.iaload, 1) := by decide +kernel
theorem dL_law_1078 : decode cL_law 1078 = .ok (.invokevirtual 127, 3) := by decide +kernel
theorem dL_law_1081 : decode cL_law 1081 = .ok (.if_icmp .eq 425, 3) := by decide +kernel
theorem dL_law_1084 : decode cL_law 1084 = .ok (.iconst 0, 1) := by decide +kernel
theorem dL_law_1085 : decode cL_law 1085 = .ok (.ireturn, 1) := by decide +kernel
theorem dL_law_1086 : decode cL_law 1086 = .ok (.aload_n 1, 1) := by decide +kernel
theorem dL_law_1087 : decode cL_law 1087 = .ok (.invokevirtual 128, 3) := by decide +kernel
theorem dL_law_1090 : decode cL_law 1090 = .ok (.aload_n 2, 1) := by decide +kernel
theorem dL_law_1091 : decode cL_law 1091 = .ok (.invokevirtual 132, 3) := by decide +kernel
theorem dL_law_1094 : decode cL_law 1094 = .ok (.if_icmp .eq 412, 3) := by decide +kernel
theorem dL_law_1097 : decode cL_law 1097 = .ok (.iconst 0, 1) := by decide +kernel
theorem dL_law_1098 : decode cL_law 1098 = .ok (.ireturn, 1) := by decide +kernel
theorem dL_law_1099 : decode cL_law 1099 = .ok (.aload_n 1, 1) := by decide +kernel
theorem dL_law_1100 : decode cL_law 1100 = .ok (.invokevirtual 133, 3) := by decide +kernel
theorem dL_law_1103 : decode cL_law 1103 = .ok (.aload_n 2, 1) := by decide +kernel
theorem dL_law_1104 : decode cL_law 1104 = .ok (.invokevirtual 136, 3) := by decide +kernel
theorem dL_law_1107 : decode cL_law 1107 = .ok (.if_icmp .eq 399, 3) := by decide +kernel
theorem dL_law_1110 : decode cL_law 1110 = .ok (.iconst 0, 1) := by decide +kernel
theorem dL_law_1111 : decode cL_law 1111 = .ok (.ireturn, 1) := by decide +kernel
theorem dL_law_1112 : decode cL_law 1112 = .ok (.aload_n 1, 1) := by decide +kernel
theorem dL_law_1113 : decode cL_law 1113 = .ok (.aload_n 0, 1) := by decide +kernel
theorem dL_law_1114 : decode cL_law 1114 = .ok (.iload_n 3, 1) := by decide +kernel
theorem dL_law_1115 : decode cL_law 1115 = .ok (.iconst 1, 1) := by decide +kernel
theorem dL_law_1116 : decode cL_law 1116 = .ok (.iadd, 1) := by decide +kernel
theorem dL_law_1117 : decode cL_law 1117 = .ok (.iaload, 1) := by decide +kernel
theorem dL_law_1118 : decode cL_law 1118 = .ok (.aload_n 0, 1) := by decide +kernel
theorem dL_law_1119 : decode cL_law 1119 = .ok (.iload_n 3, 1) := by decide +kernel
theorem dL_law_1120 : decode cL_law 1120 = .ok (.iconst 2, 1) := by decide +kernel
theorem dL_law_1121 : decode cL_law 1121 = .ok (.iadd, 1) := by decide +kernel
theorem dL_law_1122 : decode cL_law 1122 = .ok (.iaload, 1) := by decide +kernel
theorem dL_law_1123 : decode cL_law 1123 = .ok (.aload_n 0, 1) := by decide +kernel
theorem dL_law_1124 : decode cL_law 1124 = .ok (.iload_n 3, 1) := by decide +kernel
theorem dL_law_1125 : decode cL_law 1125 = .ok (.iconst 3, 1) := by decide +kernel
theorem dL_law_1126 : decode cL_law 1126 = .ok (.iadd, 1) := by decide +kernel
theorem dL_law_1127 : decode cL_law 1127 = .ok (.iaload, 1) := by decide +kernel
theorem dL_law_1128 : decode cL_law 1128 = .ok (.invokevirtual 137, 3) := by decide +kernel
theorem dL_law_1131 : decode cL_law 1131 = .ok (.aload_n 2, 1) := by decide +kernel
theorem dL_law_1132 : decode cL_law 1132 = .ok (.aload_n 0, 1) := by decide +kernel
theorem dL_law_1133 : decode cL_law 1133 = .ok (.iload_n 3, 1) := by decide +kernel
theorem dL_law_1134 : decode cL_law 1134 = .ok (.iconst 1, 1) := by decide +kernel
theorem dL_law_1135 : decode cL_law 1135 = .ok (.iadd, 1) := by decide +kernel
theorem dL_law_1136 : decode cL_law 1136 = .ok (.iaload, 1) := by decide +kernel
theorem dL_law_1137 : decode cL_law 1137 = .ok (.aload_n 0, 1) := by decide +kernel
theorem dL_law_1138 : decode cL_law 1138 = .ok (.iload_n 3, 1) := by decide +kernel
theorem dL_law_1139 : decode cL_law 1139 = .ok (.iconst 2, 1) := by decide +kernel
theorem dL_law_1140 : decode cL_law 1140 = .ok (.iadd, 1) := by decide +kernel
theorem dL_law_1141 : decode cL_law 1141 = .ok (.iaload, 1) := by decide +kernel
theorem dL_law_1142 : decode cL_law 1142 = .ok (.aload_n 0, 1) := by decide +kernel
theorem dL_law_1143 : decode cL_law 1143 = .ok (.iload_n 3, 1) := by decide +kernel
theorem dL_law_1144 : decode cL_law 1144 = .ok (.iconst 3, 1) := by decide +kernel
theorem dL_law_1145 : decode cL_law 1145 = .ok (.iadd, 1) := by decide +kernel
theorem dL_law_1146 : decode cL_law 1146 = .ok (.iaload, 1) := by decide +kernel
theorem dL_law_1147 : decode cL_law 1147 = .ok (.invokevirtual 140, 3) := by decide +kernel
theorem dL_law_1150 : decode cL_law 1150 = .ok (.if_icmp .eq 356, 3) := by decide +kernel
theorem dL_law_1153 : decode cL_law 1153 = .ok (.iconst 0, 1) := by decide +kernel
theorem dL_law_1154 : decode cL_law 1154 = .ok (.ireturn, 1) := by decide +kernel
theorem dL_law_1155 : decode cL_law 1155 = .ok (.aload_n 1, 1) := by decide +kernel
theorem dL_law_1156 : decode cL_law 1156 = .ok (.aload_n 0, 1) := by decide +kernel
theorem dL_law_1157 : decode cL_law 1157 = .ok (.iload_n 3, 1) := by decide +kernel
theorem dL_law_1158 : decode cL_law 1158 = .ok (.iconst 1, 1) := by decide +kernel
theorem dL_law_1159 : decode cL_law 1159 = .ok (.iadd, 1) := by decide +kernel
theorem dL_law_1160 : decode cL_law 1160 = .ok (.iaload, 1) := by decide +kernel
theorem dL_law_1161 : decode cL_law 1161 = .ok (.aload_n 0, 1) := by decide +kernel
theorem dL_law_1162 : decode cL_law 1162 = .ok (.iload_n 3, 1) := by decide +kernel
theorem dL_law_1163 : decode cL_law 1163 = .ok (.iconst 2, 1) := by decide +kernel
theorem dL_law_1164 : decode cL_law 1164 = .ok (.iadd, 1) := by decide +kernel
theorem dL_law_1165 : decode cL_law 1165 = .ok (.iaload, 1) := by decide +kernel
theorem dL_law_1166 : decode cL_law 1166 = .ok (.aload_n 0, 1) := by decide +kernel
theorem dL_law_1167 : decode cL_law 1167 = .ok (.iload_n 3, 1) := by decide +kernel
theorem dL_law_1168 : decode cL_law 1168 = .ok (.iconst 3, 1) := by decide +kernel
theorem dL_law_1169 : decode cL_law 1169 = .ok (.iadd, 1) := by decide +kernel
theorem dL_law_1170 : decode cL_law 1170 = .ok (.iaload, 1) := by decide +kernel
theorem dL_law_1171 : decode cL_law 1171 = .ok (.i2l, 1) := by decide +kernel
theorem dL_law_1172 : decode cL_law 1172 = .ok (.bipush 32, 2) := by decide +kernel
theorem dL_law_1174 : decode cL_law 1174 = .ok (.lshl, 1) := by decide +kernel
theorem dL_law_1175 : decode cL_law 1175 = .ok (.aload_n 0, 1) := by decide +kernel
theorem dL_law_1176 : decode cL_law 1176 = .ok (.iload_n 3, 1) := by decide +kernel
theorem dL_law_1177 : decode cL_law 1177 = .ok (.iconst 4, 1) := by decide +kernel
theorem dL_law_1178 : decode cL_law 1178 = .ok (.iadd, 1) := by decide +kernel
theorem dL_law_1179 : decode cL_law 1179 = .ok (.iaload, 1) := by decide +kernel
theorem dL_law_1180 : decode cL_law 1180 = .ok (.i2l, 1) := by decide +kernel
theorem dL_law_1181 : decode cL_law 1181 = .ok (.ldc2_w 141, 3) := by decide +kernel
theorem dL_law_1184 : decode cL_law 1184 = .ok (.land, 1) := by decide +kernel
theorem dL_law_1185 : decode cL_law 1185 = .ok (.lor, 1) := by decide +kernel
theorem dL_law_1186 : decode cL_law 1186 = .ok (.invokevirtual 143, 3) := by decide +kernel
theorem dL_law_1189 : decode cL_law 1189 = .ok (.aload_n 2, 1) := by decide +kernel
theorem dL_law_1190 : decode cL_law 1190 = .ok (.aload_n 0, 1) := by decide +kernel
theorem dL_law_1191 : decode cL_law 1191 = .ok (.iload_n 3, 1) := by decide +kernel
theorem dL_law_1192 : decode cL_law 1192 = .ok (.iconst 1, 1) := by decide +kernel
theorem dL_law_1193 : decode cL_law 1193 = .ok (.iadd, 1) := by decide +kernel
theorem dL_law_1194 : decode cL_law 1194 = .ok (.iaload, 1) := by decide +kernel
theorem dL_law_1195 : decode cL_law 1195 = .ok (.aload_n 0, 1) := by decide +kernel
theorem dL_law_1196 : decode cL_law 1196 = .ok (.iload_n 3, 1) := by decide +kernel
theorem dL_law_1197 : decode cL_law 1197 = .ok (.iconst 2, 1) := by decide +kernel
theorem dL_law_1198 : decode cL_law 1198 = .ok (.iadd, 1) := by decide +kernel
theorem dL_law_1199 : decode cL_law 1199 = .ok (.iaload, 1) := by decide +kernel
theorem dL_law_1200 : decode cL_law 1200 = .ok (.aload_n 0, 1) := by decide +kernel
theorem dL_law_1201 : decode cL_law 1201 = .ok (.iload_n 3, 1) := by decide +kernel
theorem dL_law_1202 : decode cL_law 1202 = .ok (.iconst 3, 1) := by decide +kernel
theorem dL_law_1203 : decode cL_law 1203 = .ok (.iadd, 1) := by decide +kernel
theorem dL_law_1204 : decode cL_law 1204 = .ok (.iaload, 1) := by decide +kernel
theorem dL_law_1205 : decode cL_law 1205 = .ok (.i2l, 1) := by decide +kernel
theorem dL_law_1206 : decode cL_law 1206 = .ok (.bipush 32, 2) := by decide +kernel
theorem dL_law_1208 : decode cL_law 1208 = .ok (.lshl, 1) := by decide +kernel
theorem dL_law_1209 : decode cL_law 1209 = .ok (.aload_n 0, 1) := by decide +kernel
theorem dL_law_1210 : decode cL_law 1210 = .ok (.iload_n 3, 1) := by decide +kernel
theorem dL_law_1211 : decode cL_law 1211 = .ok (.iconst 4, 1) := by decide +kernel
theorem dL_law_1212 : decode cL_law 1212 = .ok (.iadd, 1) := by decide +kernel
theorem dL_law_1213 : decode cL_law 1213 = .ok (.iaload, 1) := by decide +kernel
theorem dL_law_1214 : decode cL_law 1214 = .ok (.i2l, 1) := by decide +kernel
theorem dL_law_1215 : decode cL_law 1215 = .ok (.ldc2_w 141, 3) := by decide +kernel
theorem dL_law_1218 : decode cL_law 1218 = .ok (.land, 1) := by decide +kernel
theorem dL_law_1219 : decode cL_law 1219 = .ok (.lor, 1) := by decide +kernel
theorem dL_law_1220 : decode cL_law 1220 = .ok (.invokevirtual 147, 3) := by decide +kernel
theorem dL_law_1223 : decode cL_law 1223 = .ok (.lcmp, 1) := by decide +kernel
theorem dL_law_1224 : decode cL_law 1224 = .ok (.ifCond .eq 282, 3) := by decide +kernel
theorem dL_law_1227 : decode cL_law 1227 = .ok (.iconst 0, 1) := by decide +kernel
theorem dL_law_1228 : decode cL_law 1228 = .ok (.ireturn, 1) := by decide +kernel
theorem dL_law_1229 : decode cL_law 1229 = .ok (.aload_n 1, 1) := by decide +kernel
theorem dL_law_1230 : decode cL_law 1230 = .ok (.aload_n 0, 1) := by decide +kernel
theorem dL_law_1231 : decode cL_law 1231 = .ok (.iload_n 3, 1) := by decide +kernel
theorem dL_law_1232 : decode cL_law 1232 = .ok (.iconst 1, 1) := by decide +kernel
theorem dL_law_1233 : decode cL_law 1233 = .ok (.iadd, 1) := by decide +kernel
theorem dL_law_1234 : decode cL_law 1234 = .ok (.iaload, 1) := by decide +kernel
theorem dL_law_1235 : decode cL_law 1235 = .ok (.aload_n 0, 1) := by decide +kernel
theorem dL_law_1236 : decode cL_law 1236 = .ok (.iload_n 3, 1) := by decide +kernel
theorem dL_law_1237 : decode cL_law 1237 = .ok (.iconst 2, 1) := by decide +kernel
theorem dL_law_1238 : decode cL_law 1238 = .ok (.iadd, 1) := by decide +kernel
theorem dL_law_1239 : decode cL_law 1239 = .ok (.iaload, 1) := by decide +kernel
theorem dL_law_1240 : decode cL_law 1240 = .ok (.aload_n 0, 1) := by decide +kernel
theorem dL_law_1241 : decode cL_law 1241 = .ok (.iload_n 3, 1) := by decide +kernel
theorem dL_law_1242 : decode cL_law 1242 = .ok (.iconst 3, 1) := by decide +kernel
theorem dL_law_1243 : decode cL_law 1243 = .ok (.iadd, 1) := by decide +kernel
theorem dL_law_1244 : decode cL_law 1244 = .ok (.iaload, 1) := by decide +kernel
theorem dL_law_1245 : decode cL_law 1245 = .ok (.aload_n 0, 1) := by decide +kernel
theorem dL_law_1246 : decode cL_law 1246 = .ok (.iload_n 3, 1) := by decide +kernel
theorem dL_law_1247 : decode cL_law 1247 = .ok (.iconst 4, 1) := by decide +kernel
theorem dL_law_1248 : decode cL_law 1248 = .ok (.iadd, 1) := by decide +kernel
theorem dL_law_1249 : decode cL_law 1249 = .ok (.iaload, 1) := by decide +kernel
theorem dL_law_1250 : decode cL_law 1250 = .ok (.aload_n 0, 1) := by decide +kernel
theorem dL_law_1251 : decode cL_law 1251 = .ok (.iload_n 3, 1) := by decide +kernel
theorem dL_law_1252 : decode cL_law 1252 = .ok (.iconst 5, 1) := by decide +kernel
theorem dL_law_1253 : decode cL_law 1253 = .ok (.iadd, 1) := by decide +kernel
theorem dL_law_1254 : decode cL_law 1254 = .ok (.iaload, 1) := by decide +kernel
theorem dL_law_1255 : decode cL_law 1255 = .ok (.invokevirtual 148, 3) := by decide +kernel
theorem dL_law_1258 : decode cL_law 1258 = .ok (.aload_n 2, 1) := by decide +kernel
theorem dL_law_1259 : decode cL_law 1259 = .ok (.aload_n 0, 1) := by decide +kernel
theorem dL_law_1260 : decode cL_law 1260 = .ok (.iload_n 3, 1) := by decide +kernel
theorem dL_law_1261 : decode cL_law 1261 = .ok (.iconst 1, 1) := by decide +kernel
theorem dL_law_1262 : decode cL_law 1262 = .ok (.iadd, 1) := by decide +kernel
theorem dL_law_1263 : decode cL_law 1263 = .ok (.iaload, 1) := by decide +kernel
theorem dL_law_1264 : decode cL_law 1264 = .ok (.aload_n 0, 1) := by decide +kernel
theorem dL_law_1265 : decode cL_law 1265 = .ok (.iload_n 3, 1) := by decide +kernel
theorem dL_law_1266 : decode cL_law 1266 = .ok (.iconst 2, 1) := by decide +kernel
theorem dL_law_1267 : decode cL_law 1267 = .ok (.iadd, 1) := by decide +kernel
theorem dL_law_1268 : decode cL_law 1268 = .ok (.iaload, 1) := by decide +kernel
theorem dL_law_1269 : decode cL_law 1269 = .ok (.aload_n 0, 1) := by decide +kernel
theorem dL_law_1270 : decode cL_law 1270 = .ok (.iload_n 3, 1) := by decide +kernel
theorem dL_law_1271 : decode cL_law 1271 = .ok (.iconst 3, 1) := by decide +kernel
theorem dL_law_1272 : decode cL_law 1272 = .ok (.iadd, 1) := by decide +kernel
theorem dL_law_1273 : decode cL_law 1273 = .ok (.iaload, 1) := by decide +kernel
theorem dL_law_1274 : decode cL_law 1274 = .ok (.aload_n 0, 1) := by decide +kernel
theorem dL_law_1275 : decode cL_law 1275 = .ok (.iload_n 3, 1) := by decide +kernel
theorem dL_law_1276 : decode cL_law 1276 = .ok (.iconst 4, 1) := by decide +kernel
theorem dL_law_1277 : decode cL_law 1277 = .ok (.iadd, 1) := by decide +kernel
theorem dL_law_1278 : decode cL_law 1278 = .ok (.iaload, 1) := by decide +kernel
theorem dL_law_1279 : decode cL_law 1279 = .ok (.aload_n 0, 1) := by decide +kernel
theorem dL_law_1280 : decode cL_law 1280 = .ok (.iload_n 3, 1) := by decide +kernel
theorem dL_law_1281 : decode cL_law 1281 = .ok (.iconst 5, 1) := by decide +kernel
theorem dL_law_1282 : decode cL_law 1282 = .ok (.iadd, 1) := by decide +kernel
theorem dL_law_1283 : decode cL_law 1283 = .ok (.iaload, 1) := by decide +kernel
theorem dL_law_1284 : decode cL_law 1284 = .ok (.invokevirtual 152, 3) := by decide +kernel
theorem dL_law_1287 : decode cL_law 1287 = .ok (.if_icmp .eq 219, 3) := by decide +kernel
theorem dL_law_1290 : decode cL_law 1290 = .ok (.iconst 0, 1) := by decide +kernel
theorem dL_law_1291 : decode cL_law 1291 = .ok (.ireturn, 1) := by decide +kernel
theorem dL_law_1292 : decode cL_law 1292 = .ok (.aload_n 1, 1) := by decide +kernel
theorem dL_law_1293 : decode cL_law 1293 = .ok (.aload_n 0, 1) := by decide +kernel
theorem dL_law_1294 : decode cL_law 1294 = .ok (.iload_n 3, 1) := by decide +kernel
theorem dL_law_1295 : decode cL_law 1295 = .ok (.iconst 1, 1) := by decide +kernel
theorem dL_law_1296 : decode cL_law 1296 = .ok (.iadd, 1) := by decide +kernel
theorem dL_law_1297 : decode cL_law 1297 = .ok (.iaload, 1) := by decide +kernel
theorem dL_law_1298 : decode cL_law 1298 = .ok (.invokevirtual 153, 3) := by decide +kernel
theorem dL_law_1301 : decode cL_law 1301 = .ok (.aload_n 2, 1) := by decide +kernel
theorem dL_law_1302 : decode cL_law 1302 = .ok (.aload_n 0, 1) := by decide +kernel
theorem dL_law_1303 : decode cL_law 1303 = .ok (.iload_n 3, 1) := by decide +kernel
theorem dL_law_1304 : decode cL_law 1304 = .ok (.iconst 1, 1) := by decide +kernel
theorem dL_law_1305 : decode cL_law 1305 = .ok (.iadd, 1) := by decide +kernel
theorem dL_law_1306 : decode cL_law 1306 = .ok (.iaload, 1) := by decide +kernel
theorem dL_law_1307 : decode cL_law 1307 = .ok (.invokevirtual 156, 3) := by decide +kernel
theorem dL_law_1310 : decode cL_law 1310 = .ok (.if_icmp .eq 196, 3) := by decide +kernel
theorem dL_law_1313 : decode cL_law 1313 = .ok (.iconst 0, 1) := by decide +kernel
theorem dL_law_1314 : decode cL_law 1314 = .ok (.ireturn, 1) := by decide +kernel
theorem dL_law_1315 : decode cL_law 1315 = .ok (.aload_n 1, 1) := by decide +kernel
theorem dL_law_1316 : decode cL_law 1316 = .ok (.aload_n 0, 1) := by decide +kernel
theorem dL_law_1317 : decode cL_law 1317 = .ok (.iload_n 3, 1) := by decide +kernel
theorem dL_law_1318 : decode cL_law 1318 = .ok (.iconst 1, 1) := by decide +kernel
theorem dL_law_1319 : decode cL_law 1319 = .ok (.iadd, 1) := by decide +kernel
theorem dL_law_1320 : decode cL_law 1320 = .ok (.iaload, 1) := by decide +kernel
theorem dL_law_1321 : decode cL_law 1321 = .ok (.aload_n 0, 1) := by decide +kernel
theorem dL_law_1322 : decode cL_law 1322 = .ok (.iload_n 3, 1) := by decide +kernel
theorem dL_law_1323 : decode cL_law 1323 = .ok (.iconst 2, 1) := by decide +kernel
theorem dL_law_1324 : decode cL_law 1324 = .ok (.iadd, 1) := by decide +kernel
theorem dL_law_1325 : decode cL_law 1325 = .ok (.iaload, 1) := by decide +kernel
theorem dL_law_1326 : decode cL_law 1326 = .ok (.aload_n 0, 1) := by decide +kernel
theorem dL_law_1327 : decode cL_law 1327 = .ok (.iload_n 3, 1) := by decide +kernel
theorem dL_law_1328 : decode cL_law 1328 = .ok (.iconst 3, 1) := by decide +kernel
theorem dL_law_1329 : decode cL_law 1329 = .ok (.iadd, 1) := by decide +kernel
theorem dL_law_1330 : decode cL_law 1330 = .ok (.iaload, 1) := by decide +kernel
theorem dL_law_1331 : decode cL_law 1331 = .ok (.aload_n 0, 1) := by decide +kernel
theorem dL_law_1332 : decode cL_law 1332 = .ok (.iload_n 3, 1) := by decide +kernel
theorem dL_law_1333 : decode cL_law 1333 = .ok (.iconst 4, 1) := by decide +kernel
theorem dL_law_1334 : decode cL_law 1334 = .ok (.iadd, 1) := by decide +kernel
theorem dL_law_1335 : decode cL_law 1335 = .ok (.iaload, 1) := by decide +kernel
theorem dL_law_1336 : decode cL_law 1336 = .ok (.invokevirtual 157, 3) := by decide +kernel
theorem dL_law_1339 : decode cL_law 1339 = .ok (.aload_n 2, 1) := by decide +kernel
theorem dL_law_1340 : decode cL_law 1340 = .ok (.aload_n 0, 1) := by decide +kernel
theorem dL_law_1341 : decode cL_law 1341 = .ok (.iload_n 3, 1) := by decide +kernel
theorem dL_law_1342 : decode cL_law 1342 = .ok (.iconst 1, 1) := by decide +kernel
theorem dL_law_1343 : decode cL_law 1343 = .ok (.iadd, 1) := by decide +kernel
theorem dL_law_1344 : decode cL_law 1344 = .ok (.iaload, 1) := by decide +kernel
theorem dL_law_1345 : decode cL_law 1345 = .ok (.aload_n 0, 1) := by decide +kernel
theorem dL_law_1346 : decode cL_law 1346 = .ok (.iload_n 3, 1) := by decide +kernel
theorem dL_law_1347 : decode cL_law 1347 = .ok (.iconst 2, 1) := by decide +kernel
theorem dL_law_1348 : decode cL_law 1348 = .ok (.iadd, 1) := by decide +kernel
theorem dL_law_1349 : decode cL_law 1349 = .ok (.iaload, 1) := by decide +kernel
theorem dL_law_1350 : decode cL_law 1350 = .ok (.aload_n 0, 1) := by decide +kernel
theorem dL_law_1351 : decode cL_law 1351 = .ok (.iload_n 3, 1) := by decide +kernel
theorem dL_law_1352 : decode cL_law 1352 = .ok (.iconst 3, 1) := by decide +kernel
theorem dL_law_1353 : decode cL_law 1353 = .ok (.iadd, 1) := by decide +kernel
theorem dL_law_1354 : decode cL_law 1354 = .ok (.iaload, 1) := by decide +kernel
theorem dL_law_1355 : decode cL_law 1355 = .ok (.aload_n 0, 1) := by decide +kernel
theorem dL_law_1356 : decode cL_law 1356 = .ok (.iload_n 3, 1) := by decide +kernel
theorem dL_law_1357 : decode cL_law 1357 = .ok (.iconst 4, 1) := by decide +kernel
theorem dL_law_1358 : decode cL_law 1358 = .ok (.iadd, 1) := by decide +kernel
theorem dL_law_1359 : decode cL_law 1359 = .ok (.iaload, 1) := by decide +kernel
theorem dL_law_1360 : decode cL_law 1360 = .ok (.invokevirtual 161, 3) := by decide +kernel
theorem dL_law_1363 : decode cL_law 1363 = .ok (.if_icmp .eq 143, 3) := by decide +kernel
theorem dL_law_1366 : decode cL_law 1366 = .ok (.iconst 0, 1) := by decide +kernel
theorem dL_law_1367 : decode cL_law 1367 = .ok (.ireturn, 1) := by decide +kernel
theorem dL_law_1368 : decode cL_law 1368 = .ok (.aload_n 1, 1) := by decide +kernel
theorem dL_law_1369 : decode cL_law 1369 = .ok (.aload_n 0, 1) := by decide +kernel
theorem dL_law_1370 : decode cL_law 1370 = .ok (.iload_n 3, 1) := by decide +kernel
theorem dL_law_1371 : decode cL_law 1371 = .ok (.iconst 1, 1) := by decide +kernel
theorem dL_law_1372 : decode cL_law 1372 = .ok (.iadd, 1) := by decide +kernel
theorem dL_law_1373 : decode cL_law 1373 = .ok (.iaload, 1) := by decide +kernel
theorem dL_law_1374 : decode cL_law 1374 = .ok (.aload_n 0, 1) := by decide +kernel
theorem dL_law_1375 : decode cL_law 1375 = .ok (.iload_n 3, 1) := by decide +kernel
theorem dL_law_1376 : decode cL_law 1376 = .ok (.iconst 2, 1) := by decide +kernel
theorem dL_law_1377 : decode cL_law 1377 = .ok (.iadd, 1) := by decide +kernel
theorem dL_law_1378 : decode cL_law 1378 = .ok (.iaload, 1) := by decide +kernel
theorem dL_law_1379 : decode cL_law 1379 = .ok (.aload_n 0, 1) := by decide +kernel
theorem dL_law_1380 : decode cL_law 1380 = .ok (.iload_n 3, 1) := by decide +kernel
theorem dL_law_1381 : decode cL_law 1381 = .ok (.iconst 3, 1) := by decide +kernel
theorem dL_law_1382 : decode cL_law 1382 = .ok (.iadd, 1) := by decide +kernel
theorem dL_law_1383 : decode cL_law 1383 = .ok (.iaload, 1) := by decide +kernel
theorem dL_law_1384 : decode cL_law 1384 = .ok (.aload_n 0, 1) := by decide +kernel
theorem dL_law_1385 : decode cL_law 1385 = .ok (.iload_n 3, 1) := by decide +kernel
theorem dL_law_1386 : decode cL_law 1386 = .ok (.iconst 4, 1) := by decide +kernel
theorem dL_law_1387 : decode cL_law 1387 = .ok (.iadd, 1) := by decide +kernel
theorem dL_law_1388 : decode cL_law 1388 = .ok (.iaload, 1) := by decide +kernel
theorem dL_law_1389 : decode cL_law 1389 = .ok (.invokevirtual 162, 3) := by decide +kernel
theorem dL_law_1392 : decode cL_law 1392 = .ok (.aload_n 2, 1) := by decide +kernel
theorem dL_law_1393 : decode cL_law 1393 = .ok (.aload_n 0, 1) := by decide +kernel
theorem dL_law_1394 : decode cL_law 1394 = .ok (.iload_n 3, 1) := by decide +kernel
theorem dL_law_1395 : decode cL_law 1395 = .ok (.iconst 1, 1) := by decide +kernel
theorem dL_law_1396 : decode cL_law 1396 = .ok (.iadd, 1) := by decide +kernel
theorem dL_law_1397 : decode cL_law 1397 = .ok (.iaload, 1) := by decide +kernel
theorem dL_law_1398 : decode cL_law 1398 = .ok (.aload_n 0, 1) := by decide +kernel
theorem dL_law_1399 : decode cL_law 1399 = .ok (.iload_n 3, 1) := by decide +kernel
theorem dL_law_1400 : decode cL_law 1400 = .ok (.iconst 2, 1) := by decide +kernel
theorem dL_law_1401 : decode cL_law 1401 = .ok (.iadd, 1) := by decide +kernel
theorem dL_law_1402 : decode cL_law 1402 = .ok (.iaload, 1) := by decide +kernel
theorem dL_law_1403 : decode cL_law 1403 = .ok (.aload_n 0, 1) := by decide +kernel
theorem dL_law_1404 : decode cL_law 1404 = .ok (.iload_n 3, 1) := by decide +kernel
theorem dL_law_1405 : decode cL_law 1405 = .ok (.iconst 3, 1) := by decide +kernel
theorem dL_law_1406 : decode cL_law 1406 = .ok (.iadd, 1) := by decide +kernel
theorem dL_law_1407 : decode cL_law 1407 = .ok (.iaload, 1) := by decide +kernel
theorem dL_law_1408 : decode cL_law 1408 = .ok (.aload_n 0, 1) := by decide +kernel
theorem dL_law_1409 : decode cL_law 1409 = .ok (.iload_n 3, 1) := by decide +kernel
theorem dL_law_1410 : decode cL_law 1410 = .ok (.iconst 4, 1) := by decide +kernel
theorem dL_law_1411 : decode cL_law 1411 = .ok (.iadd, 1) := by decide +kernel
theorem dL_law_1412 : decode cL_law 1412 = .ok (.iaload, 1) := by decide +kernel
theorem dL_law_1413 : decode cL_law 1413 = .ok (.invokevirtual 165, 3) := by decide +kernel
theorem dL_law_1416 : decode cL_law 1416 = .ok (.if_icmp .eq 90, 3) := by decide +kernel
theorem dL_law_1419 : decode cL_law 1419 = .ok (.iconst 0, 1) := by decide +kernel
theorem dL_law_1420 : decode cL_law 1420 = .ok (.ireturn, 1) := by decide +kernel
theorem dL_law_1421 : decode cL_law 1421 = .ok (.aload_n 1, 1) := by decide +kernel
theorem dL_law_1422 : decode cL_law 1422 = .ok (.invokevirtual 166, 3) := by decide +kernel
theorem dL_law_1425 : decode cL_law 1425 = .ok (.aload_n 2, 1) := by decide +kernel
theorem dL_law_1426 : decode cL_law 1426 = .ok (.invokevirtual 169, 3) := by decide +kernel
theorem dL_law_1429 : decode cL_law 1429 = .ok (.if_icmp .eq 77, 3) := by decide +kernel
theorem dL_law_1432 : decode cL_law 1432 = .ok (.iconst 0, 1) := by decide +kernel
theorem dL_law_1433 : decode cL_law 1433 = .ok (.ireturn, 1) := by decide +kernel
theorem dL_law_1434 : decode cL_law 1434 = .ok (.aload_n 1, 1) := by decide +kernel
theorem dL_law_1435 : decode cL_law 1435 = .ok (.invokevirtual 170, 3) := by decide +kernel
theorem dL_law_1438 : decode cL_law 1438 = .ok (.aload_n 2, 1) := by decide +kernel
theorem dL_law_1439 : decode cL_law 1439 = .ok (.invokevirtual 173, 3) := by decide +kernel
theorem dL_law_1442 : decode cL_law 1442 = .ok (.if_icmp .eq 64, 3) := by decide +kernel
theorem dL_law_1445 : decode cL_law 1445 = .ok (.iconst 0, 1) := by decide +kernel
theorem dL_law_1446 : decode cL_law 1446 = .ok (.ireturn, 1) := by decide +kernel
theorem dL_law_1447 : decode cL_law 1447 = .ok (.aload_n 1, 1) := by decide +kernel
theorem dL_law_1448 : decode cL_law 1448 = .ok (.invokevirtual 174, 3) := by decide +kernel
theorem dL_law_1451 : decode cL_law 1451 = .ok (.aload_n 2, 1) := by decide +kernel
theorem dL_law_1452 : decode cL_law 1452 = .ok (.invokevirtual 177, 3) := by decide +kernel
theorem dL_law_1455 : decode cL_law 1455 = .ok (.if_icmp .eq 51, 3) := by decide +kernel
theorem dL_law_1458 : decode cL_law 1458 = .ok (.iconst 0, 1) := by decide +kernel
theorem dL_law_1459 : decode cL_law 1459 = .ok (.ireturn, 1) := by decide +kernel
theorem dL_law_1460 : decode cL_law 1460 = .ok (.aload_n 1, 1) := by decide +kernel
theorem dL_law_1461 : decode cL_law 1461 = .ok (.aload_n 0, 1) := by decide +kernel
theorem dL_law_1462 : decode cL_law 1462 = .ok (.iload_n 3, 1) := by decide +kernel
theorem dL_law_1463 : decode cL_law 1463 = .ok (.iconst 1, 1) := by decide +kernel
theorem dL_law_1464 : decode cL_law 1464 = .ok (.iadd, 1) := by decide +kernel
theorem dL_law_1465 : decode cL_law 1465 = .ok (.iaload, 1) := by decide +kernel
theorem dL_law_1466 : decode cL_law 1466 = .ok (.invokevirtual 178, 3) := by decide +kernel
theorem dL_law_1469 : decode cL_law 1469 = .ok (.aload_n 2, 1) := by decide +kernel
theorem dL_law_1470 : decode cL_law 1470 = .ok (.aload_n 0, 1) := by decide +kernel
theorem dL_law_1471 : decode cL_law 1471 = .ok (.iload_n 3, 1) := by decide +kernel
theorem dL_law_1472 : decode cL_law 1472 = .ok (.iconst 1, 1) := by decide +kernel
theorem dL_law_1473 : decode cL_law 1473 = .ok (.iadd, 1) := by decide +kernel
theorem dL_law_1474 : decode cL_law 1474 = .ok (.iaload, 1) := by decide +kernel
theorem dL_law_1475 : decode cL_law 1475 = .ok (.invokevirtual 181, 3) := by decide +kernel
theorem dL_law_1478 : decode cL_law 1478 = .ok (.if_icmp .eq 28, 3) := by decide +kernel
theorem dL_law_1481 : decode cL_law 1481 = .ok (.iconst 0, 1) := by decide +kernel
theorem dL_law_1482 : decode cL_law 1482 = .ok (.ireturn, 1) := by decide +kernel
theorem dL_law_1483 : decode cL_law 1483 = .ok (.aload_n 1, 1) := by decide +kernel
theorem dL_law_1484 : decode cL_law 1484 = .ok (.aload_n 0, 1) := by decide +kernel
theorem dL_law_1485 : decode cL_law 1485 = .ok (.iload_n 3, 1) := by decide +kernel
theorem dL_law_1486 : decode cL_law 1486 = .ok (.iconst 1, 1) := by decide +kernel
theorem dL_law_1487 : decode cL_law 1487 = .ok (.iadd, 1) := by decide +kernel
theorem dL_law_1488 : decode cL_law 1488 = .ok (.iaload, 1) := by decide +kernel
theorem dL_law_1489 : decode cL_law 1489 = .ok (.invokevirtual 182, 3) := by decide +kernel
theorem dL_law_1492 : decode cL_law 1492 = .ok (.aload_n 2, 1) := by decide +kernel
theorem dL_law_1493 : decode cL_law 1493 = .ok (.aload_n 0, 1) := by decide +kernel
theorem dL_law_1494 : decode cL_law 1494 = .ok (.iload_n 3, 1) := by decide +kernel
theorem dL_law_1495 : decode cL_law 1495 = .ok (.iconst 1, 1) := by decide +kernel
theorem dL_law_1496 : decode cL_law 1496 = .ok (.iadd, 1) := by decide +kernel
theorem dL_law_1497 : decode cL_law 1497 = .ok (.iaload, 1) := by decide +kernel
theorem dL_law_1498 : decode cL_law 1498 = .ok (.invokevirtual 185, 3) := by decide +kernel
theorem dL_law_1501 : decode cL_law 1501 = .ok (.if_icmp .eq 5, 3) := by decide +kernel
theorem dL_law_1504 : decode cL_law 1504 = .ok (.iconst 0, 1) := by decide +kernel
theorem dL_law_1505 : decode cL_law 1505 = .ok (.ireturn, 1) := by decide +kernel
theorem dL_law_1506 : decode cL_law 1506 = .ok (.iinc 3 6, 3) := by decide +kernel
theorem dL_law_1509 : decode cL_law 1509 = .ok (.goto (-1491), 3) := by decide +kernel
theorem dL_law_1512 : decode cL_law 1512 = .ok (.iconst 1, 1) := by decide +kernel
theorem dL_law_1513 : decode cL_law 1513 = .ok (.ireturn, 1) := by decide +kernel
end
section
/-- what all contracts here share: where the classes lie, the array classes (int[], long[], int[][], Sheet[]), where the String constants lie -/
abbrev KG : Type := va_G × (ClassId × ClassId × ClassId × ClassId) × (Nat → Nat) × (Nat → Nat)
abbrev kI (g : KG) : ClassId := g.2.1.1
abbrev kL (g : KG) : ClassId := g.2.1.2.1
abbrev kO (g : KG) : ClassId := g.2.1.2.2.1
abbrev kS (g : KG) : ClassId := g.2.1.2.2.2
abbrev kty (g : KG) : List (ClassId × FieldType) := [(kI g, .int), (kL g, .long), (kO g, .array .int), (kS g, .object RX1)]
def kLen : List Nat := [4, 3, 2, 4, 4, 3, 4, 9, 3, 8, 5, 6]
def kByt : List (List Int32) := [[119, 105, 110, 100], [100, 117, 101], [97, 116], [110, 111, 115, 101], [99, 111, 108, 100], [100, 105, 100], [99, 111, 111, 107], [98, 97, 114, 114, 105, 115, 116, 101, 114], [100, 111, 103], [112, 101, 114, 102, 117, 109, 101, 114], [104, 111, 117, 110, 100], [112, 101, 114, 115, 111, 110]]
def kStr : List (Nat × String) := [(38, "wind"), (52, "due"), (66, "at"), (72, "nose"), (77, "cold"), (82, "did"), (96, "cook"), (98, "barrister"), (100, "dog"), (102, "perfumer"), (104, "hound"), (106, "person")]
/-- what holds of the machine around a call: classes, nest links, the String constants; A: what may change -/
def kE (g : KG) (A : Nat → Prop) (U : State) : Prop :=
  va_K g.1 vwCl (kty g) U ∧ va_Nw (.methodLinkNest RX0 79 yX3_isUnder "NoseJury") U ∧ va_Nw (.methodLinkNest RX0 99 yX3_faded "NoseJury") U ∧ va_Z "java/lang/String" "COMPACT_STRINGS" "Z" (.int 1) A U U.heap ∧ vk_S 12 kLen kByt g.2.2.1 g.2.2.2 A U U.heap ∧ ∀ (i : Nat) (q : Nat × String), kStr[i]? = some q → vk_R RX2 q.1 q.2 (g.2.2.1 i) U
theorem kE.same {g : KG} {A : Nat → Prop} {u U : State} (hv : U.vm = u.vm) (hh : U.heap = u.heap) (h : kE g A u) : kE g A U := by
  obtain ⟨h1, h2, h3, h4, h5, h6⟩ := h
  have al : u.vm.Alike U.vm := by rw [hv]; exact Vm.Alike.refl _
  exact ⟨va_K.moved al h1, va_Nw.same rfl hv.symm h2, va_Nw.same rfl hv.symm h3, by rw [hh]; exact va_Z.moved al h4, by rw [hh]; exact vk_S.moved al h5, fun i q hq => vk_R.same hv (h6 i q hq)⟩
theorem kE.call {g : KG} {A B : Nat → Prop} {s U : State} {H : Heap} {locs : List Loc} (h : kE g A s) (hW : s.WarmedH U.vm) (hh : U.heap = H) (hS : va_S A s.heap H locs) (hB : ∀ q, B q → A q) : kE g B U := by
  obtain ⟨h1, h2, h3, h4, h5, h6⟩ := h
  have hq : ∀ a : Nat, a < s.heap.size → ¬ A a → U.heap[a]? = s.heap[a]? := fun a ha hn => by rw [hh]; exact hS.2.1 a ha hn
  exact ⟨va_K.moved hW.alike h1, va_Nw.warmM hW h2, va_Nw.warmM hW h3, ((va_Z.moved hW.alike h4).kept hq).narrow hB, ((vk_S.moved hW.alike h5).kept hq).narrow hB, fun i q hq => vk_R.warm hW (h6 i q hq)⟩
abbrev KT : Type := va_W → List (Nat × Value) → Nat → List Value → Prop
/-- the walk's judgement: at pc with these locals and this stack, over any heap that holds the world ws, the machine comes to Q -/
def KJ (p : Program) (l : Launch) (e : Env) (R : Room) (s : State) (m : MethodId) (args : Array Value) (below : List Frame) (meth : Method) (c : Code) (g : KG) (A : Nat → Prop) (nL cs sl : Nat) (Q : State → Prop) : KT := fun ws lv pc st =>
  ∀ (H : Heap) (locs : List Loc) (ls : Array Slot), va_P g.1 vwCl ws H → va_D A ws → va_S A s.heap H locs → lv_has ls nL lv → W p l e R s m args below meth c H locs cs sl Q (F0 m pc ls st)
def KO (l : Launch) (R : Room) (cc : ByteArray) (own : String) (nL : Nat) (g : KG) (J : KT) : Prop :=
  ∃ (p : Program) (e : Env) (s : State) (m : MethodId) (args : Array Value) (below : List Frame) (meth : Method) (c : Code) (A : Nat → Prop) (cs sl : Nat) (Q : State → Prop), CallFix p m c cc nL s args wsL_law own ∧ kE g A s ∧ (∀ q, s.heap.size ≤ q → A q) ∧ cs ≤ R.cells ∧ sl ≤ R.slots ∧ J = KJ p l e R s m args below meth c g A nL cs sl Q
theorem kGood : wsL_law.all goodWord = true := by decide +kernel
theorem kGoodIn {y : MethodName} {cc : ByteArray} {n : Nat} {ret : Option FieldType} (h : Cond.code y cc n ret ∈ wsL_law) : GoodIn wsL_law (.code y cc n ret :: wsL_law) := fun w hw => by
  have hm : w ∈ wsL_law := (List.mem_cons.mp hw).elim (fun e => by rw [e]; exact h) id
  exact ⟨hm, good_of_word (List.all_eq_true.mp kGood w hm)⟩
section KR
variable {l : Launch} {R : Room} {cc : ByteArray} {own : String} {nL : Nat} {g : KG} {J : KT} {ws : va_W} {lv : List (Nat × Value)} {pc : Nat} {st : List Value}
theorem k_iconst (hJ : KO l R cc own nL g J) {n : Int} {v : Int32} (hd : decode cc pc = .ok (.iconst n, 1)) (hv : Int32.ofInt n = v) (k : J ws lv (pc + 1) (.int v :: st)) : J ws lv pc (st) := by
  obtain ⟨p, e, s, m, args, below, meth, c, A, cs, sl, Q, C, hE, hA, hcs, hsl, rfl⟩ := hJ
  exact fun H locs ls hP hD hS hl => lv_iconst C.1 C.2.1 hd hv (k H locs ls hP hD hS hl)
theorem k_bipush (hJ : KO l R cc own nL g J) {n : Int} {v : Int32} (hd : decode cc pc = .ok (.bipush n, 2)) (hv : (Int8.ofInt n).toInt32 = v) (k : J ws lv (pc + 2) (.int v :: st)) : J ws lv pc (st) := by
  obtain ⟨p, e, s, m, args, below, meth, c, A, cs, sl, Q, C, hE, hA, hcs, hsl, rfl⟩ := hJ
  exact fun H locs ls hP hD hS hl => lv_bipush C.1 C.2.1 hd hv (k H locs ls hP hD hS hl)
theorem k_sipush (hJ : KO l R cc own nL g J) {n : Int} {v : Int32} (hd : decode cc pc = .ok (.sipush n, 3)) (hv : (Int16.ofInt n).toInt32 = v) (k : J ws lv (pc + 3) (.int v :: st)) : J ws lv pc (st) := by
  obtain ⟨p, e, s, m, args, below, meth, c, A, cs, sl, Q, C, hE, hA, hcs, hsl, rfl⟩ := hJ
  exact fun H locs ls hP hD hS hl => lv_sipush C.1 C.2.1 hd hv (k H locs ls hP hD hS hl)
theorem k_lconst (hJ : KO l R cc own nL g J) {n : Fin 2} {v : Int64} (hd : decode cc pc = .ok (.lconst n, 1)) (hv : Int64.ofNat (n : Nat) = v) (k : J ws lv (pc + 1) (.long v :: st)) : J ws lv pc (st) := by
  obtain ⟨p, e, s, m, args, below, meth, c, A, cs, sl, Q, C, hE, hA, hcs, hsl, rfl⟩ := hJ
  exact fun H locs ls hP hD hS hl => lv_lconst C.1 C.2.1 hd hv (k H locs ls hP hD hS hl)
theorem k_ldc (hJ : KO l R cc own nL g J) {index : Nat} {v : Int32} (hd : decode cc pc = .ok (.ldc index, 2)) (hw : Cond.constant own index v ∈ wsL_law) (k : J ws lv (pc + 2) (.int v :: st)) : J ws lv pc (st) := by
  obtain ⟨p, e, s, m, args, below, meth, c, A, cs, sl, Q, C, hE, hA, hcs, hsl, rfl⟩ := hJ
  exact fun H locs ls hP hD hS hl => lv_ldc C.1 C.2.1 C.2.2.2.1 (C.2.2.2.2 _ hw) hd (k H locs ls hP hD hS hl)
theorem k_ldcw (hJ : KO l R cc own nL g J) {index : Nat} {v : Int32} (hd : decode cc pc = .ok (.ldc_w index, 3)) (hw : Cond.constant own index v ∈ wsL_law) (k : J ws lv (pc + 3) (.int v :: st)) : J ws lv pc (st) := by
  obtain ⟨p, e, s, m, args, below, meth, c, A, cs, sl, Q, C, hE, hA, hcs, hsl, rfl⟩ := hJ
  exact fun H locs ls hP hD hS hl => lv_ldcw C.1 C.2.1 C.2.2.2.1 (C.2.2.2.2 _ hw) hd (k H locs ls hP hD hS hl)
theorem k_ldc2 (hJ : KO l R cc own nL g J) {index : Nat} {v : Int64} (hd : decode cc pc = .ok (.ldc2_w index, 3)) (hw : Cond.constantLong own index v ∈ wsL_law) (k : J ws lv (pc + 3) (.long v :: st)) : J ws lv pc (st) := by
  obtain ⟨p, e, s, m, args, below, meth, c, A, cs, sl, Q, C, hE, hA, hcs, hsl, rfl⟩ := hJ
  exact fun H locs ls hP hD hS hl => lv_ldc2 C.1 C.2.1 C.2.2.2.1 (C.2.2.2.2 _ hw) hd (k H locs ls hP hD hS hl)
theorem k_iload_n (hJ : KO l R cc own nL g J) {k : Fin 4} {x : Int32} (hd : decode cc pc = .ok (.iload_n k, 1)) (j : Nat) (hj : lv[j]? = some ((k : Nat), .int x)) (k : J ws lv (pc + 1) (.int x :: st)) : J ws lv pc (st) := by
  obtain ⟨p, e, s, m, args, below, meth, c, A, cs, sl, Q, C, hE, hA, hcs, hsl, rfl⟩ := hJ
  exact fun H locs ls hP hD hS hl => lv_iload_n C.1 C.2.1 hd rfl (lv_at hl j hj) (k H locs ls hP hD hS hl)
theorem k_iload (hJ : KO l R cc own nL g J) {i : Nat} {x : Int32} (hd : decode cc pc = .ok (.iload i, 2)) (j : Nat) (hj : lv[j]? = some (i, .int x)) (k : J ws lv (pc + 2) (.int x :: st)) : J ws lv pc (st) := by
  obtain ⟨p, e, s, m, args, below, meth, c, A, cs, sl, Q, C, hE, hA, hcs, hsl, rfl⟩ := hJ
  exact fun H locs ls hP hD hS hl => lv_iload C.1 C.2.1 hd (lv_at hl j hj) (k H locs ls hP hD hS hl)
theorem k_lload_n (hJ : KO l R cc own nL g J) {k : Fin 4} {x : Int64} (hd : decode cc pc = .ok (.lload_n k, 1)) (j : Nat) (hj : lv[j]? = some ((k : Nat), .long x)) (k : J ws lv (pc + 1) (.long x :: st)) : J ws lv pc (st) := by
  obtain ⟨p, e, s, m, args, below, meth, c, A, cs, sl, Q, C, hE, hA, hcs, hsl, rfl⟩ := hJ
  exact fun H locs ls hP hD hS hl => lv_lload_n C.1 C.2.1 hd rfl (lv_at hl j hj) (k H locs ls hP hD hS hl)
theorem k_lload (hJ : KO l R cc own nL g J) {i : Nat} {x : Int64} (hd : decode cc pc = .ok (.lload i, 2)) (j : Nat) (hj : lv[j]? = some (i, .long x)) (k : J ws lv (pc + 2) (.long x :: st)) : J ws lv pc (st) := by
  obtain ⟨p, e, s, m, args, below, meth, c, A, cs, sl, Q, C, hE, hA, hcs, hsl, rfl⟩ := hJ
  exact fun H locs ls hP hD hS hl => lv_lload C.1 C.2.1 hd (lv_at hl j hj) (k H locs ls hP hD hS hl)
theorem k_aload_n (hJ : KO l R cc own nL g J) {k : Fin 4} {x : Nat} (hd : decode cc pc = .ok (.aload_n k, 1)) (j : Nat) (hj : lv[j]? = some ((k : Nat), .ref x)) (k : J ws lv (pc + 1) (.ref x :: st)) : J ws lv pc (st) := by
  obtain ⟨p, e, s, m, args, below, meth, c, A, cs, sl, Q, C, hE, hA, hcs, hsl, rfl⟩ := hJ
  exact fun H locs ls hP hD hS hl => lv_aload_n C.1 C.2.1 hd rfl (lv_at hl j hj) (k H locs ls hP hD hS hl)
theorem k_aload (hJ : KO l R cc own nL g J) {i : Nat} {x : Nat} (hd : decode cc pc = .ok (.aload i, 2)) (j : Nat) (hj : lv[j]? = some (i, .ref x)) (k : J ws lv (pc + 2) (.ref x :: st)) : J ws lv pc (st) := by
  obtain ⟨p, e, s, m, args, below, meth, c, A, cs, sl, Q, C, hE, hA, hcs, hsl, rfl⟩ := hJ
  exact fun H locs ls hP hD hS hl => lv_aload C.1 C.2.1 hd (lv_at hl j hj) (k H locs ls hP hD hS hl)
theorem k_istore_n (hJ : KO l R cc own nL g J) {k : Fin 4} {x : Int32} (hd : decode cc pc = .ok (.istore_n k, 1)) (hn : (k : Nat) < nL) (ks : List Nat) {lv1 : List (Nat × Value)} (hp : lv_pick (((k : Nat), Value.int x) :: lv.filter (fun q => !(q.1 == (k : Nat)) && !(q.1 + 1 == (k : Nat) && q.2.category == 2))) ks = lv1) (k1 : J ws lv1 (pc + 1) st) : J ws lv pc (.int x :: st) := by
  obtain ⟨p, e, s, m, args, below, meth, c, A, cs, sl, Q, C, hE, hA, hcs, hsl, rfl⟩ := hJ
  exact fun H locs ls hP hD hS hl => lv_istore_n C.1 C.2.1 hd rfl hl hn rfl (fun ls2 hl2 => k1 H locs ls2 hP hD hS (lv_sub hl2 ks hp))
theorem k_istore (hJ : KO l R cc own nL g J) {i : Nat} {x : Int32} (hd : decode cc pc = .ok (.istore i, 2)) (hn : i < nL) (ks : List Nat) {lv1 : List (Nat × Value)} (hp : lv_pick ((i, Value.int x) :: lv.filter (fun q => !(q.1 == i) && !(q.1 + 1 == i && q.2.category == 2))) ks = lv1) (k1 : J ws lv1 (pc + 2) st) : J ws lv pc (.int x :: st) := by
  obtain ⟨p, e, s, m, args, below, meth, c, A, cs, sl, Q, C, hE, hA, hcs, hsl, rfl⟩ := hJ
  exact fun H locs ls hP hD hS hl => lv_istore C.1 C.2.1 hd hl hn rfl (fun ls2 hl2 => k1 H locs ls2 hP hD hS (lv_sub hl2 ks hp))
theorem k_lstore_n (hJ : KO l R cc own nL g J) {k : Fin 4} {x : Int64} (hd : decode cc pc = .ok (.lstore_n k, 1)) (hn : (k : Nat) + 1 < nL) (ks : List Nat) {lv1 : List (Nat × Value)} (hp : lv_pick (((k : Nat), Value.long x) :: lv.filter (fun q => !(q.1 == (k : Nat)) && (!(q.1 == (k : Nat) + 1) && !(q.1 + 1 == (k : Nat) && q.2.category == 2)))) ks = lv1) (k1 : J ws lv1 (pc + 1) st) : J ws lv pc (.long x :: st) := by
  obtain ⟨p, e, s, m, args, below, meth, c, A, cs, sl, Q, C, hE, hA, hcs, hsl, rfl⟩ := hJ
  exact fun H locs ls hP hD hS hl => lv_lstore_n C.1 C.2.1 hd rfl hl hn rfl (fun ls2 hl2 => k1 H locs ls2 hP hD hS (lv_sub hl2 ks hp))
theorem k_lstore (hJ : KO l R cc own nL g J) {i : Nat} {x : Int64} (hd : decode cc pc = .ok (.lstore i, 2)) (hn : i + 1 < nL) (ks : List Nat) {lv1 : List (Nat × Value)} (hp : lv_pick ((i, Value.long x) :: lv.filter (fun q => !(q.1 == i) && (!(q.1 == i + 1) && !(q.1 + 1 == i && q.2.category == 2)))) ks = lv1) (k1 : J ws lv1 (pc + 2) st) : J ws lv pc (.long x :: st) := by
  obtain ⟨p, e, s, m, args, below, meth, c, A, cs, sl, Q, C, hE, hA, hcs, hsl, rfl⟩ := hJ
  exact fun H locs ls hP hD hS hl => lv_lstore C.1 C.2.1 hd hl hn rfl (fun ls2 hl2 => k1 H locs ls2 hP hD hS (lv_sub hl2 ks hp))
theorem k_astore_n (hJ : KO l R cc own nL g J) {k : Fin 4} {x : Nat} (hd : decode cc pc = .ok (.astore_n k, 1)) (hn : (k : Nat) < nL) (ks : List Nat) {lv1 : List (Nat × Value)} (hp : lv_pick (((k : Nat), Value.ref x) :: lv.filter (fun q => !(q.1 == (k : Nat)) && !(q.1 + 1 == (k : Nat) && q.2.category == 2))) ks = lv1) (k1 : J ws lv1 (pc + 1) st) : J ws lv pc (.ref x :: st) := by
  obtain ⟨p, e, s, m, args, below, meth, c, A, cs, sl, Q, C, hE, hA, hcs, hsl, rfl⟩ := hJ
  exact fun H locs ls hP hD hS hl => lv_astore_n C.1 C.2.1 hd rfl hl hn rfl (fun ls2 hl2 => k1 H locs ls2 hP hD hS (lv_sub hl2 ks hp))
theorem k_astore (hJ : KO l R cc own nL g J) {i : Nat} {x : Nat} (hd : decode cc pc = .ok (.astore i, 2)) (hn : i < nL) (ks : List Nat) {lv1 : List (Nat × Value)} (hp : lv_pick ((i, Value.ref x) :: lv.filter (fun q => !(q.1 == i) && !(q.1 + 1 == i && q.2.category == 2))) ks = lv1) (k1 : J ws lv1 (pc + 2) st) : J ws lv pc (.ref x :: st) := by
  obtain ⟨p, e, s, m, args, below, meth, c, A, cs, sl, Q, C, hE, hA, hcs, hsl, rfl⟩ := hJ
  exact fun H locs ls hP hD hS hl => lv_astore C.1 C.2.1 hd hl hn rfl (fun ls2 hl2 => k1 H locs ls2 hP hD hS (lv_sub hl2 ks hp))
theorem k_iinc (hJ : KO l R cc own nL g J) {i : Nat} {n : Int} {x v : Int32} (hd : decode cc pc = .ok (.iinc i n, 3)) (j : Nat) (hj : lv[j]? = some (i, .int x)) (hv : x + Int32.ofInt n = v) (hn : i < nL) (ks : List Nat) {lv1 : List (Nat × Value)} (hp : lv_pick ((i, Value.int v) :: lv.filter (fun q => !(q.1 == i) && !(q.1 + 1 == i && q.2.category == 2))) ks = lv1) (k1 : J ws lv1 (pc + 3) st) : J ws lv pc st := by
  obtain ⟨p, e, s, m, args, below, meth, c, A, cs, sl, Q, C, hE, hA, hcs, hsl, rfl⟩ := hJ
  exact fun H locs ls hP hD hS hl => lv_iinc C.1 C.2.1 hd hl hj hv hn rfl (fun ls2 hl2 => k1 H locs ls2 hP hD hS (lv_sub hl2 ks hp))
theorem k_lv (hJ : KO l R cc own nL g J) (ks : List Nat) {lv1 : List (Nat × Value)} (hp : lv_pick lv ks = lv1) (k1 : J ws lv1 pc st) : J ws lv pc st := by
  obtain ⟨p, e, s, m, args, below, meth, c, A, cs, sl, Q, C, hE, hA, hcs, hsl, rfl⟩ := hJ
  exact fun H locs ls hP hD hS hl => k1 H locs ls hP hD hS (lv_sub hl ks hp)
theorem k_iadd (hJ : KO l R cc own nL g J) {x y : Int32} (hd : decode cc pc = .ok (.iadd, 1)) (k : J ws lv (pc + 1) (.int (x + y) :: st)) : J ws lv pc (.int y :: .int x :: st) := by
  obtain ⟨p, e, s, m, args, below, meth, c, A, cs, sl, Q, C, hE, hA, hcs, hsl, rfl⟩ := hJ
  exact fun H locs ls hP hD hS hl => lv_iadd C.1 C.2.1 hd (k H locs ls hP hD hS hl)
theorem k_isub (hJ : KO l R cc own nL g J) {x y : Int32} (hd : decode cc pc = .ok (.isub, 1)) (k : J ws lv (pc + 1) (.int (x - y) :: st)) : J ws lv pc (.int y :: .int x :: st) := by
  obtain ⟨p, e, s, m, args, below, meth, c, A, cs, sl, Q, C, hE, hA, hcs, hsl, rfl⟩ := hJ
  exact fun H locs ls hP hD hS hl => lv_isub C.1 C.2.1 hd (k H locs ls hP hD hS hl)
theorem k_imul (hJ : KO l R cc own nL g J) {x y : Int32} (hd : decode cc pc = .ok (.imul, 1)) (k : J ws lv (pc + 1) (.int (x * y) :: st)) : J ws lv pc (.int y :: .int x :: st) := by
  obtain ⟨p, e, s, m, args, below, meth, c, A, cs, sl, Q, C, hE, hA, hcs, hsl, rfl⟩ := hJ
  exact fun H locs ls hP hD hS hl => lv_imul C.1 C.2.1 hd (k H locs ls hP hD hS hl)
theorem k_iand (hJ : KO l R cc own nL g J) {x y : Int32} (hd : decode cc pc = .ok (.iand, 1)) (k : J ws lv (pc + 1) (.int (x &&& y) :: st)) : J ws lv pc (.int y :: .int x :: st) := by
  obtain ⟨p, e, s, m, args, below, meth, c, A, cs, sl, Q, C, hE, hA, hcs, hsl, rfl⟩ := hJ
  exact fun H locs ls hP hD hS hl => lv_iand C.1 C.2.1 hd (k H locs ls hP hD hS hl)
theorem k_ior (hJ : KO l R cc own nL g J) {x y : Int32} (hd : decode cc pc = .ok (.ior, 1)) (k : J ws lv (pc + 1) (.int (x ||| y) :: st)) : J ws lv pc (.int y :: .int x :: st) := by
  obtain ⟨p, e, s, m, args, below, meth, c, A, cs, sl, Q, C, hE, hA, hcs, hsl, rfl⟩ := hJ
  exact fun H locs ls hP hD hS hl => lv_ior C.1 C.2.1 hd (k H locs ls hP hD hS hl)
theorem k_ishl (hJ : KO l R cc own nL g J) {x y : Int32} (hd : decode cc pc = .ok (.ishl, 1)) (k : J ws lv (pc + 1) (.int (x <<< (y &&& 31)) :: st)) : J ws lv pc (.int y :: .int x :: st) := by
  obtain ⟨p, e, s, m, args, below, meth, c, A, cs, sl, Q, C, hE, hA, hcs, hsl, rfl⟩ := hJ
  exact fun H locs ls hP hD hS hl => lv_ishl C.1 C.2.1 hd (k H locs ls hP hD hS hl)
theorem k_ishr (hJ : KO l R cc own nL g J) {x y : Int32} (hd : decode cc pc = .ok (.ishr, 1)) (k : J ws lv (pc + 1) (.int (x >>> (y &&& 31)) :: st)) : J ws lv pc (.int y :: .int x :: st) := by
  obtain ⟨p, e, s, m, args, below, meth, c, A, cs, sl, Q, C, hE, hA, hcs, hsl, rfl⟩ := hJ
  exact fun H locs ls hP hD hS hl => lv_ishr C.1 C.2.1 hd (k H locs ls hP hD hS hl)
theorem k_ladd (hJ : KO l R cc own nL g J) {x y : Int64} (hd : decode cc pc = .ok (.ladd, 1)) (k : J ws lv (pc + 1) (.long (x + y) :: st)) : J ws lv pc (.long y :: .long x :: st) := by
  obtain ⟨p, e, s, m, args, below, meth, c, A, cs, sl, Q, C, hE, hA, hcs, hsl, rfl⟩ := hJ
  exact fun H locs ls hP hD hS hl => lv_ladd C.1 C.2.1 hd (k H locs ls hP hD hS hl)
theorem k_lmul (hJ : KO l R cc own nL g J) {x y : Int64} (hd : decode cc pc = .ok (.lmul, 1)) (k : J ws lv (pc + 1) (.long (x * y) :: st)) : J ws lv pc (.long y :: .long x :: st) := by
  obtain ⟨p, e, s, m, args, below, meth, c, A, cs, sl, Q, C, hE, hA, hcs, hsl, rfl⟩ := hJ
  exact fun H locs ls hP hD hS hl => lv_lmul C.1 C.2.1 hd (k H locs ls hP hD hS hl)
theorem k_land (hJ : KO l R cc own nL g J) {x y : Int64} (hd : decode cc pc = .ok (.land, 1)) (k : J ws lv (pc + 1) (.long (x &&& y) :: st)) : J ws lv pc (.long y :: .long x :: st) := by
  obtain ⟨p, e, s, m, args, below, meth, c, A, cs, sl, Q, C, hE, hA, hcs, hsl, rfl⟩ := hJ
  exact fun H locs ls hP hD hS hl => lv_land C.1 C.2.1 hd (k H locs ls hP hD hS hl)
theorem k_lor (hJ : KO l R cc own nL g J) {x y : Int64} (hd : decode cc pc = .ok (.lor, 1)) (k : J ws lv (pc + 1) (.long (x ||| y) :: st)) : J ws lv pc (.long y :: .long x :: st) := by
  obtain ⟨p, e, s, m, args, below, meth, c, A, cs, sl, Q, C, hE, hA, hcs, hsl, rfl⟩ := hJ
  exact fun H locs ls hP hD hS hl => lv_lor C.1 C.2.1 hd (k H locs ls hP hD hS hl)
theorem k_idiv (hJ : KO l R cc own nL g J) {x y : Int32} (hd : decode cc pc = .ok (.idiv, 1)) (hne : ¬ y = 0) (k : J ws lv (pc + 1) (.int (x / y) :: st)) : J ws lv pc (.int y :: .int x :: st) := by
  obtain ⟨p, e, s, m, args, below, meth, c, A, cs, sl, Q, C, hE, hA, hcs, hsl, rfl⟩ := hJ
  exact fun H locs ls hP hD hS hl => lv_idiv C.1 C.2.1 hd hne (k H locs ls hP hD hS hl)
theorem k_irem (hJ : KO l R cc own nL g J) {x y : Int32} (hd : decode cc pc = .ok (.irem, 1)) (hne : ¬ y = 0) (k : J ws lv (pc + 1) (.int (x - x / y * y) :: st)) : J ws lv pc (.int y :: .int x :: st) := by
  obtain ⟨p, e, s, m, args, below, meth, c, A, cs, sl, Q, C, hE, hA, hcs, hsl, rfl⟩ := hJ
  exact fun H locs ls hP hD hS hl => lv_irem C.1 C.2.1 hd hne (k H locs ls hP hD hS hl)
theorem k_ineg (hJ : KO l R cc own nL g J) {x : Int32} (hd : decode cc pc = .ok (.ineg, 1)) (k : J ws lv (pc + 1) (.int (-x) :: st)) : J ws lv pc (.int x :: st) := by
  obtain ⟨p, e, s, m, args, below, meth, c, A, cs, sl, Q, C, hE, hA, hcs, hsl, rfl⟩ := hJ
  exact fun H locs ls hP hD hS hl => lv_ineg C.1 C.2.1 hd (k H locs ls hP hD hS hl)
theorem k_i2l (hJ : KO l R cc own nL g J) {x : Int32} {v : Int64} (hd : decode cc pc = .ok (.i2l, 1)) (hv : x.toInt64 = v) (k : J ws lv (pc + 1) (.long v :: st)) : J ws lv pc (.int x :: st) := by
  obtain ⟨p, e, s, m, args, below, meth, c, A, cs, sl, Q, C, hE, hA, hcs, hsl, rfl⟩ := hJ
  exact fun H locs ls hP hD hS hl => lv_i2l C.1 C.2.1 hd hv (k H locs ls hP hD hS hl)
theorem k_l2i (hJ : KO l R cc own nL g J) {x : Int64} {v : Int32} (hd : decode cc pc = .ok (.l2i, 1)) (hv : x.toInt32 = v) (k : J ws lv (pc + 1) (.int v :: st)) : J ws lv pc (.long x :: st) := by
  obtain ⟨p, e, s, m, args, below, meth, c, A, cs, sl, Q, C, hE, hA, hcs, hsl, rfl⟩ := hJ
  exact fun H locs ls hP hD hS hl => lv_l2i C.1 C.2.1 hd hv (k H locs ls hP hD hS hl)
theorem k_i2b (hJ : KO l R cc own nL g J) {x v : Int32} (hd : decode cc pc = .ok (.i2b, 1)) (hv : x.toInt8.toInt32 = v) (k : J ws lv (pc + 1) (.int v :: st)) : J ws lv pc (.int x :: st) := by
  obtain ⟨p, e, s, m, args, below, meth, c, A, cs, sl, Q, C, hE, hA, hcs, hsl, rfl⟩ := hJ
  exact fun H locs ls hP hD hS hl => lv_i2b C.1 C.2.1 hd hv (k H locs ls hP hD hS hl)
theorem k_i2s (hJ : KO l R cc own nL g J) {x v : Int32} (hd : decode cc pc = .ok (.i2s, 1)) (hv : x.toInt16.toInt32 = v) (k : J ws lv (pc + 1) (.int v :: st)) : J ws lv pc (.int x :: st) := by
  obtain ⟨p, e, s, m, args, below, meth, c, A, cs, sl, Q, C, hE, hA, hcs, hsl, rfl⟩ := hJ
  exact fun H locs ls hP hD hS hl => lv_i2s C.1 C.2.1 hd hv (k H locs ls hP hD hS hl)
theorem k_i2c (hJ : KO l R cc own nL g J) {x v : Int32} (hd : decode cc pc = .ok (.i2c, 1)) (hv : (x.toUInt32 % 65536).toInt32 = v) (k : J ws lv (pc + 1) (.int v :: st)) : J ws lv pc (.int x :: st) := by
  obtain ⟨p, e, s, m, args, below, meth, c, A, cs, sl, Q, C, hE, hA, hcs, hsl, rfl⟩ := hJ
  exact fun H locs ls hP hD hS hl => lv_i2c C.1 C.2.1 hd hv (k H locs ls hP hD hS hl)
theorem k_iushr (hJ : KO l R cc own nL g J) {x y v : Int32} (hd : decode cc pc = .ok (.iushr, 1)) (hv : (x.toUInt32 >>> (y.toUInt32 &&& Int32.toUInt32 31)).toInt32 = v) (k : J ws lv (pc + 1) (.int v :: st)) : J ws lv pc (.int y :: .int x :: st) := by
  obtain ⟨p, e, s, m, args, below, meth, c, A, cs, sl, Q, C, hE, hA, hcs, hsl, rfl⟩ := hJ
  exact fun H locs ls hP hD hS hl => lv_iushr C.1 C.2.1 hd hv (k H locs ls hP hD hS hl)
theorem k_lshl (hJ : KO l R cc own nL g J) {x v : Int64} {y : Int32} (hd : decode cc pc = .ok (.lshl, 1)) (hv : x <<< (y.toInt64 &&& 63) = v) (k : J ws lv (pc + 1) (.long v :: st)) : J ws lv pc (.int y :: .long x :: st) := by
  obtain ⟨p, e, s, m, args, below, meth, c, A, cs, sl, Q, C, hE, hA, hcs, hsl, rfl⟩ := hJ
  exact fun H locs ls hP hD hS hl => lv_lshl C.1 C.2.1 hd hv (k H locs ls hP hD hS hl)
theorem k_lcmp (hJ : KO l R cc own nL g J) {x y : Int64} (hd : decode cc pc = .ok (.lcmp, 1)) (k : J ws lv (pc + 1) (.int (lg_cmp x y) :: st)) : J ws lv pc (.long y :: .long x :: st) := by
  obtain ⟨p, e, s, m, args, below, meth, c, A, cs, sl, Q, C, hE, hA, hcs, hsl, rfl⟩ := hJ
  exact fun H locs ls hP hD hS hl => W.lcmp C.1 C.2.1 hd (k H locs ls hP hD hS hl)
theorem k_dup (hJ : KO l R cc own nL g J) {va : Value} (hd : decode cc pc = .ok (.dup, 1)) (h1 : va.category = 1) (k : J ws lv (pc + 1) (va :: va :: st)) : J ws lv pc (va :: st) := by
  obtain ⟨p, e, s, m, args, below, meth, c, A, cs, sl, Q, C, hE, hA, hcs, hsl, rfl⟩ := hJ
  exact fun H locs ls hP hD hS hl => lv_dup C.1 C.2.1 hd h1 (k H locs ls hP hD hS hl)
theorem k_pop (hJ : KO l R cc own nL g J) {va : Value} (hd : decode cc pc = .ok (.pop, 1)) (h1 : va.category = 1) (k : J ws lv (pc + 1) (st)) : J ws lv pc (va :: st) := by
  obtain ⟨p, e, s, m, args, below, meth, c, A, cs, sl, Q, C, hE, hA, hcs, hsl, rfl⟩ := hJ
  exact fun H locs ls hP hD hS hl => lv_pop C.1 C.2.1 hd h1 (k H locs ls hP hD hS hl)
theorem k_dup2 (hJ : KO l R cc own nL g J) {va vb : Value} (hd : decode cc pc = .ok (.dup2, 1)) (h1 : va.category = 1) (h2 : vb.category = 1) (k : J ws lv (pc + 1) (va :: vb :: va :: vb :: st)) : J ws lv pc (va :: vb :: st) := by
  obtain ⟨p, e, s, m, args, below, meth, c, A, cs, sl, Q, C, hE, hA, hcs, hsl, rfl⟩ := hJ
  exact fun H locs ls hP hD hS hl => lv_dup2_11 C.1 C.2.1 hd h1 h2 (k H locs ls hP hD hS hl)
theorem k_icmp_eq (hJ : KO l R cc own nL g J) {x y : Int32} {off : Int} {tgt : Nat} (hd : decode cc pc = .ok (.if_icmp .eq off, 3)) (ht : (pc : Int) + off = (tgt : Int)) (kt : x = y → J ws lv tgt st) (kf : ¬ x = y → J ws lv (pc + 3) st) : J ws lv pc (.int y :: .int x :: st) := by
  obtain ⟨p, e, s, m, args, below, meth, c, A, cs, sl, Q, C, hE, hA, hcs, hsl, rfl⟩ := hJ
  exact fun H locs ls hP hD hS hl => lv_icmp_eq C.1 C.2.1 hd ht (fun h => kt h H locs ls hP hD hS hl) (fun h => kf h H locs ls hP hD hS hl)
theorem k_if_eq (hJ : KO l R cc own nL g J) {x : Int32} {off : Int} {tgt : Nat} (hd : decode cc pc = .ok (.ifCond .eq off, 3)) (ht : (pc : Int) + off = (tgt : Int)) (kt : x = 0 → J ws lv tgt st) (kf : ¬ x = 0 → J ws lv (pc + 3) st) : J ws lv pc (.int x :: st) := by
  obtain ⟨p, e, s, m, args, below, meth, c, A, cs, sl, Q, C, hE, hA, hcs, hsl, rfl⟩ := hJ
  exact fun H locs ls hP hD hS hl => lv_if_eq C.1 C.2.1 hd ht (fun h => kt h H locs ls hP hD hS hl) (fun h => kf h H locs ls hP hD hS hl)
theorem k_icmp_ne (hJ : KO l R cc own nL g J) {x y : Int32} {off : Int} {tgt : Nat} (hd : decode cc pc = .ok (.if_icmp .ne off, 3)) (ht : (pc : Int) + off = (tgt : Int)) (kt : ¬ x = y → J ws lv tgt st) (kf : x = y → J ws lv (pc + 3) st) : J ws lv pc (.int y :: .int x :: st) := by
  obtain ⟨p, e, s, m, args, below, meth, c, A, cs, sl, Q, C, hE, hA, hcs, hsl, rfl⟩ := hJ
  exact fun H locs ls hP hD hS hl => lv_icmp_ne C.1 C.2.1 hd ht (fun h => kt h H locs ls hP hD hS hl) (fun h => kf h H locs ls hP hD hS hl)
theorem k_if_ne (hJ : KO l R cc own nL g J) {x : Int32} {off : Int} {tgt : Nat} (hd : decode cc pc = .ok (.ifCond .ne off, 3)) (ht : (pc : Int) + off = (tgt : Int)) (kt : ¬ x = 0 → J ws lv tgt st) (kf : x = 0 → J ws lv (pc + 3) st) : J ws lv pc (.int x :: st) := by
  obtain ⟨p, e, s, m, args, below, meth, c, A, cs, sl, Q, C, hE, hA, hcs, hsl, rfl⟩ := hJ
  exact fun H locs ls hP hD hS hl => lv_if_ne C.1 C.2.1 hd ht (fun h => kt h H locs ls hP hD hS hl) (fun h => kf h H locs ls hP hD hS hl)
theorem k_icmp_lt (hJ : KO l R cc own nL g J) {x y : Int32} {off : Int} {tgt : Nat} (hd : decode cc pc = .ok (.if_icmp .lt off, 3)) (ht : (pc : Int) + off = (tgt : Int)) (kt : x < y → J ws lv tgt st) (kf : ¬ x < y → J ws lv (pc + 3) st) : J ws lv pc (.int y :: .int x :: st) := by
  obtain ⟨p, e, s, m, args, below, meth, c, A, cs, sl, Q, C, hE, hA, hcs, hsl, rfl⟩ := hJ
  exact fun H locs ls hP hD hS hl => lv_icmp_lt C.1 C.2.1 hd ht (fun h => kt h H locs ls hP hD hS hl) (fun h => kf h H locs ls hP hD hS hl)
theorem k_if_lt (hJ : KO l R cc own nL g J) {x : Int32} {off : Int} {tgt : Nat} (hd : decode cc pc = .ok (.ifCond .lt off, 3)) (ht : (pc : Int) + off = (tgt : Int)) (kt : x < 0 → J ws lv tgt st) (kf : ¬ x < 0 → J ws lv (pc + 3) st) : J ws lv pc (.int x :: st) := by
  obtain ⟨p, e, s, m, args, below, meth, c, A, cs, sl, Q, C, hE, hA, hcs, hsl, rfl⟩ := hJ
  exact fun H locs ls hP hD hS hl => lv_if_lt C.1 C.2.1 hd ht (fun h => kt h H locs ls hP hD hS hl) (fun h => kf h H locs ls hP hD hS hl)
theorem k_icmp_ge (hJ : KO l R cc own nL g J) {x y : Int32} {off : Int} {tgt : Nat} (hd : decode cc pc = .ok (.if_icmp .ge off, 3)) (ht : (pc : Int) + off = (tgt : Int)) (kt : y ≤ x → J ws lv tgt st) (kf : ¬ y ≤ x → J ws lv (pc + 3) st) : J ws lv pc (.int y :: .int x :: st) := by
  obtain ⟨p, e, s, m, args, below, meth, c, A, cs, sl, Q, C, hE, hA, hcs, hsl, rfl⟩ := hJ
  exact fun H locs ls hP hD hS hl => lv_icmp_ge C.1 C.2.1 hd ht (fun h => kt h H locs ls hP hD hS hl) (fun h => kf h H locs ls hP hD hS hl)
theorem k_if_ge (hJ : KO l R cc own nL g J) {x : Int32} {off : Int} {tgt : Nat} (hd : decode cc pc = .ok (.ifCond .ge off, 3)) (ht : (pc : Int) + off = (tgt : Int)) (kt : 0 ≤ x → J ws lv tgt st) (kf : ¬ 0 ≤ x → J ws lv (pc + 3) st) : J ws lv pc (.int x :: st) := by
  obtain ⟨p, e, s, m, args, below, meth, c, A, cs, sl, Q, C, hE, hA, hcs, hsl, rfl⟩ := hJ
  exact fun H locs ls hP hD hS hl => lv_if_ge C.1 C.2.1 hd ht (fun h => kt h H locs ls hP hD hS hl) (fun h => kf h H locs ls hP hD hS hl)
theorem k_icmp_gt (hJ : KO l R cc own nL g J) {x y : Int32} {off : Int} {tgt : Nat} (hd : decode cc pc = .ok (.if_icmp .gt off, 3)) (ht : (pc : Int) + off = (tgt : Int)) (kt : y < x → J ws lv tgt st) (kf : ¬ y < x → J ws lv (pc + 3) st) : J ws lv pc (.int y :: .int x :: st) := by
  obtain ⟨p, e, s, m, args, below, meth, c, A, cs, sl, Q, C, hE, hA, hcs, hsl, rfl⟩ := hJ
  exact fun H locs ls hP hD hS hl => lv_icmp_gt C.1 C.2.1 hd ht (fun h => kt h H locs ls hP hD hS hl) (fun h => kf h H locs ls hP hD hS hl)
theorem k_if_gt (hJ : KO l R cc own nL g J) {x : Int32} {off : Int} {tgt : Nat} (hd : decode cc pc = .ok (.ifCond .gt off, 3)) (ht : (pc : Int) + off = (tgt : Int)) (kt : 0 < x → J ws lv tgt st) (kf : ¬ 0 < x → J ws lv (pc + 3) st) : J ws lv pc (.int x :: st) := by
  obtain ⟨p, e, s, m, args, below, meth, c, A, cs, sl, Q, C, hE, hA, hcs, hsl, rfl⟩ := hJ
  exact fun H locs ls hP hD hS hl => lv_if_gt C.1 C.2.1 hd ht (fun h => kt h H locs ls hP hD hS hl) (fun h => kf h H locs ls hP hD hS hl)
theorem k_icmp_le (hJ : KO l R cc own nL g J) {x y : Int32} {off : Int} {tgt : Nat} (hd : decode cc pc = .ok (.if_icmp .le off, 3)) (ht : (pc : Int) + off = (tgt : Int)) (kt : x ≤ y → J ws lv tgt st) (kf : ¬ x ≤ y → J ws lv (pc + 3) st) : J ws lv pc (.int y :: .int x :: st) := by
  obtain ⟨p, e, s, m, args, below, meth, c, A, cs, sl, Q, C, hE, hA, hcs, hsl, rfl⟩ := hJ
  exact fun H locs ls hP hD hS hl => lv_icmp_le C.1 C.2.1 hd ht (fun h => kt h H locs ls hP hD hS hl) (fun h => kf h H locs ls hP hD hS hl)
theorem k_if_le (hJ : KO l R cc own nL g J) {x : Int32} {off : Int} {tgt : Nat} (hd : decode cc pc = .ok (.ifCond .le off, 3)) (ht : (pc : Int) + off = (tgt : Int)) (kt : x ≤ 0 → J ws lv tgt st) (kf : ¬ x ≤ 0 → J ws lv (pc + 3) st) : J ws lv pc (.int x :: st) := by
  obtain ⟨p, e, s, m, args, below, meth, c, A, cs, sl, Q, C, hE, hA, hcs, hsl, rfl⟩ := hJ
  exact fun H locs ls hP hD hS hl => lv_if_le C.1 C.2.1 hd ht (fun h => kt h H locs ls hP hD hS hl) (fun h => kf h H locs ls hP hD hS hl)
theorem k_goto (hJ : KO l R cc own nL g J) {off : Int} {tgt : Nat} (hd : decode cc pc = .ok (.goto off, 3)) (ht : (pc : Int) + off = (tgt : Int)) (k : J ws lv tgt st) : J ws lv pc st := by
  obtain ⟨p, e, s, m, args, below, meth, c, A, cs, sl, Q, C, hE, hA, hcs, hsl, rfl⟩ := hJ
  exact fun H locs ls hP hD hS hl => lv_goto C.1 C.2.1 hd ht (k H locs ls hP hD hS hl)
theorem k_tabIn (hJ : KO l R cc own nL g J) {dflt lo hi : Int} {offs : Array Int} {len : Nat} {x : Int32} {off : Int} {tgt : Nat} (hd : decode cc pc = .ok (.tableswitch dflt lo hi offs, len)) (h1 : ¬ x.toInt < lo) (h2 : ¬ hi < x.toInt) (ho : offs[(x.toInt - lo).toNat]? = some off) (ht : (pc : Int) + off = (tgt : Int)) (k : J ws lv tgt st) : J ws lv pc (.int x :: st) := by
  obtain ⟨p, e, s, m, args, below, meth, c, A, cs, sl, Q, C, hE, hA, hcs, hsl, rfl⟩ := hJ
  exact fun H locs ls hP hD hS hl => lv_tableIn C.1 C.2.1 hd h1 h2 ho ht (k H locs ls hP hD hS hl)
theorem k_tabOut (hJ : KO l R cc own nL g J) {dflt lo hi : Int} {offs : Array Int} {len : Nat} {x : Int32} {tgt : Nat} (hd : decode cc pc = .ok (.tableswitch dflt lo hi offs, len)) (h : x.toInt < lo ∨ hi < x.toInt) (ht : (pc : Int) + dflt = (tgt : Int)) (k : J ws lv tgt st) : J ws lv pc (.int x :: st) := by
  obtain ⟨p, e, s, m, args, below, meth, c, A, cs, sl, Q, C, hE, hA, hcs, hsl, rfl⟩ := hJ
  exact fun H locs ls hP hD hS hl => lv_tableOut C.1 C.2.1 hd h ht (k H locs ls hP hD hS hl)
theorem k_get (hJ : KO l R cc own nL g J) {C : String} {T : u_T} {N ci index a : Nat} {fs : List Value} {v : Value} (q0 : Nat) (he : ws[q0]? = some (a, .inr (ci, fs))) (k : Nat) (hv : fs[k]? = some v) (hc : vwCl[ci]? = some (C, T, N)) (hin : ∀ w ∈ u_ws C T N, w ∈ wsL_law) (hk : k < N) (hw : Cond.fieldLink own index (T k).1 (T k).2.1 (T k).2.2.1 ∈ wsL_law) (hd : decode cc pc = .ok (.getfield index, 3)) (k1 : J ws lv (pc + 3) (v :: st)) : J ws lv pc (.ref a :: st) := by
  obtain ⟨p, e, s, m, args, below, meth, c, A, cs, sl, Q, K, hE, hA, hcs, hsl, rfl⟩ := hJ
  exact fun H locs ls hP hD hS hl => va_get K.1 K.2.1 K.2.2.2.2 hin K.2.2.2.1 hE.1 hP q0 he hc k hk (K.2.2.2.2 _ hw) (fun _ h => h) hv hd (k1 H locs ls hP hD hS hl)
theorem k_put (hJ : KO l R cc own nL g J) {C : String} {T : u_T} {N ci index a : Nat} {fs : List Value} {v : Value} {ty : FieldType} {ws2 : va_W} (q0 : Nat) (he : ws[q0]? = some (a, .inr (ci, fs))) (k : Nat) (hws : ws.set q0 (a, .inr (ci, fs.set k v)) = ws2) (hc : vwCl[ci]? = some (C, T, N)) (hin : ∀ w ∈ u_ws C T N, w ∈ wsL_law) (ty0 : Nat → FieldType) (hty : ∀ k, k < N → parseFieldDescriptor (T k).2.2.1 = some (ty0 k)) (hnm : ∀ a, a < N → ∀ b, b < N → a ≠ b → (T a).2.1 ≠ (T b).2.1) (hk : k < N) (hw : Cond.fieldLink own index (T k).1 (T k).2.1 (T k).2.2.1 ∈ wsL_law) (hfin : (T k).2.2.2 = false) (hdt : parseFieldDescriptor (T k).2.2.1 = some ty) (hn : narrow ty v = v) (hfit : fits ty v = true) (hl0 : k < fs.length) (hd : decode cc pc = .ok (.putfield index, 3)) (k1 : J ws2 lv (pc + 3) st) : J ws lv pc (v :: .ref a :: st) := by
  obtain ⟨p, e, s, m, args, below, meth, c, A, cs, sl, Q, K, hE, hA, hcs, hsl, rfl⟩ := hJ
  subst hws
  exact fun H locs ls hP hD hS hl => va_put K.1 K.2.1 K.2.2.2.2 hin ty0 hty hnm K.2.2.2.1 hE.1 hP hD hS q0 he hc k hk (K.2.2.2.2 _ hw) (fun _ h => h) hfin hdt hn hfit hl0 hd (fun H1 locs1 hP1 hD1 hS1 => k1 H1 locs1 ls hP1 hD1 hS1 hl)
theorem k_iald (hJ : KO l R cc own nL g J) {a n : Nat} {f : Nat → Int32} {v : Int32} (q0 : Nat) (he : ws[q0]? = some (a, .inl (kI g, n, .inl f))) (i : Nat) (hi : i < n) (hn : n < 2 ^ 31) (hv : f i = v) (hd : decode cc pc = .ok (.iaload, 1)) (k1 : J ws lv (pc + 1) (.int v :: st)) : J ws lv pc (.int (nI i) :: .ref a :: st) := by
  obtain ⟨p, e, s, m, args, below, meth, c, A, cs, sl, Q, C, hE, hA, hcs, hsl, rfl⟩ := hJ
  subst hv
  exact fun H locs ls hP hD hS hl => va_iald C.1 C.2.1 hE.1 hP q0 0 he rfl (vp_in_nI hi hn) hd (by rw [nI_clamp (Nat.lt_trans hi hn)]; exact k1 H locs ls hP hD hS hl)
theorem k_lald (hJ : KO l R cc own nL g J) {a n : Nat} {f : Nat → Int64} {v : Int64} (q0 : Nat) (he : ws[q0]? = some (a, .inl (kL g, n, .inr (.inl f)))) (i : Nat) (hi : i < n) (hn : n < 2 ^ 31) (hv : f i = v) (hd : decode cc pc = .ok (.laload, 1)) (k1 : J ws lv (pc + 1) (.long v :: st)) : J ws lv pc (.int (nI i) :: .ref a :: st) := by
  obtain ⟨p, e, s, m, args, below, meth, c, A, cs, sl, Q, C, hE, hA, hcs, hsl, rfl⟩ := hJ
  subst hv
  exact fun H locs ls hP hD hS hl => va_lald C.1 C.2.1 hE.1 hP q0 1 he rfl (vp_in_nI hi hn) hd (by rw [nI_clamp (Nat.lt_trans hi hn)]; exact k1 H locs ls hP hD hS hl)
theorem k_aald (hJ : KO l R cc own nL g J) {a n b : Nat} {f : Nat → Option Nat} (q0 : Nat) (he : ws[q0]? = some (a, .inl (kO g, n, .inr (.inr (.inr (.inr f)))))) (i : Nat) (hi : i < n) (hn : n < 2 ^ 31) (hv : f i = some b) (hd : decode cc pc = .ok (.aaload, 1)) (k1 : J ws lv (pc + 1) (.ref b :: st)) : J ws lv pc (.int (nI i) :: .ref a :: st) := by
  obtain ⟨p, e, s, m, args, below, meth, c, A, cs, sl, Q, C, hE, hA, hcs, hsl, rfl⟩ := hJ
  intro H locs ls hP hD hS hl
  have hin := vp_in_nI hi hn
  exact W.aald (v := .ref b) (ty := .array .int) C.1 C.2.1 (hP q0 _ he) ((hE.1.2 2 _ rfl).1 n (fun j => va_rf (f j))) rfl (fun q => by cases q) (by show ¬ (nI i < 0 ∨ (arrV _ _ _).slots.size ≤ _); rw [arrV_size]; exact hin) (by show (arrV _ _ _).slots[_]? = _; rw [nI_clamp (Nat.lt_trans hi hn), arrV_read _ _ hi, hv]; rfl) rfl rfl hd (k1 H locs ls hP hD hS hl)
theorem k_aaldS (hJ : KO l R cc own nL g J) {a n b : Nat} {f : Nat → Option Nat} (q0 : Nat) (he : ws[q0]? = some (a, .inl (kS g, n, .inr (.inr (.inr (.inr f)))))) (i : Nat) (hi : i < n) (hn : n < 2 ^ 31) (hv : f i = some b) (hd : decode cc pc = .ok (.aaload, 1)) (k1 : J ws lv (pc + 1) (.ref b :: st)) : J ws lv pc (.int (nI i) :: .ref a :: st) := by
  obtain ⟨p, e, s, m, args, below, meth, c, A, cs, sl, Q, C, hE, hA, hcs, hsl, rfl⟩ := hJ
  exact fun H locs ls hP hD hS hl => va_aldq C.1 C.2.1 hE.1 hP q0 3 he rfl (vp_in_nI hi hn) hd (by rw [nI_clamp (Nat.lt_trans hi hn), hv]; exact k1 H locs ls hP hD hS hl)
theorem k_iast (hJ : KO l R cc own nL g J) {a n : Nat} {f : Nat → Int32} {x : Int32} {ws2 : va_W} (q0 : Nat) (he : ws[q0]? = some (a, .inl (kI g, n, .inl f))) (i : Nat) (hi : i < n) (hn : n < 2 ^ 31) (hws : ws.set q0 (a, .inl (kI g, n, .inl (upd f i x))) = ws2) (hd : decode cc pc = .ok (.iastore, 1)) (k1 : J ws2 lv (pc + 1) st) : J ws lv pc (.int x :: .int (nI i) :: .ref a :: st) := by
  obtain ⟨p, e, s, m, args, below, meth, c, A, cs, sl, Q, C, hE, hA, hcs, hsl, rfl⟩ := hJ
  subst hws
  exact fun H locs ls hP hD hS hl => va_iast C.1 C.2.1 hE.1 hP hD hS q0 0 he rfl (vp_in_nI hi hn) hd (by rw [nI_clamp (Nat.lt_trans hi hn)]; exact fun H1 locs1 hP1 hD1 hS1 => k1 H1 locs1 ls hP1 hD1 hS1 hl)
theorem k_last (hJ : KO l R cc own nL g J) {a n : Nat} {f : Nat → Int64} {x : Int64} {ws2 : va_W} (q0 : Nat) (he : ws[q0]? = some (a, .inl (kL g, n, .inr (.inl f)))) (i : Nat) (hi : i < n) (hn : n < 2 ^ 31) (hws : ws.set q0 (a, .inl (kL g, n, .inr (.inl (vp_updL f i x)))) = ws2) (hd : decode cc pc = .ok (.lastore, 1)) (k1 : J ws2 lv (pc + 1) st) : J ws lv pc (.long x :: .int (nI i) :: .ref a :: st) := by
  obtain ⟨p, e, s, m, args, below, meth, c, A, cs, sl, Q, C, hE, hA, hcs, hsl, rfl⟩ := hJ
  subst hws
  exact fun H locs ls hP hD hS hl => va_last C.1 C.2.1 hE.1 hP hD hS q0 1 he rfl (vp_in_nI hi hn) hd (by rw [nI_clamp (Nat.lt_trans hi hn)]; exact fun H1 locs1 hP1 hD1 hS1 => k1 H1 locs1 ls hP1 hD1 hS1 hl)
theorem k_alen (hJ : KO l R cc own nL g J) {a : Nat} {cA : ClassId} {x : vp_A} {ty : FieldType} {v : Int32} (q0 t0 : Nat) (he : ws[q0]? = some (a, .inl (cA, x))) (ht : (kty g)[t0]? = some (cA, ty)) (hv : Int32.ofNat x.1 = v) (hd : decode cc pc = .ok (.arraylength, 1)) (k1 : J ws lv (pc + 1) (.int v :: st)) : J ws lv pc (.ref a :: st) := by
  obtain ⟨p, e, s, m, args, below, meth, c, A, cs, sl, Q, C, hE, hA, hcs, hsl, rfl⟩ := hJ
  exact fun H locs ls hP hD hS hl => va_alen C.1 C.2.1 hE.1 hP q0 t0 he ht hv hd (k1 H locs ls hP hD hS hl)
end KR
end
section
/-- a contract's end: an answer, a world behind it, nothing outside A changed -/
def kQ {α S : Type} (ov : α → Option Value) (post : α → S → Prop) (B : S → State → Prop) (A : Nat → Prop) : Array Value → State → Outcome → State → Prop := fun _ st oc t => (∃ (r : α) (u : S), oc = .returned (ov r) ∧ post r u ∧ B u t) ∧ va_F A st t
/-- a contract here: from the world ws, with these arguments, the method answers r and leaves the world ws1 u, with post r u; no cell is made -/
def CT (l : Launch) (y : MethodName) (cc : ByteArray) (nL : Nat) (ret : Option FieldType) (rm : Room) (g : KG) (av : List Value) (ws : va_W) {α S : Type} (ov : α → Option Value) (post : α → S → Prop) (ws1 : S → va_W) : Prop :=
  ∀ sz : Nat, Met l y (.code y cc nL ret :: wsL_law) rm (va_Pc av (fun U => U.heap.size = sz ∧ va_P g.1 vwCl ws U.heap ∧ kE g (va_A ws sz) U ∧ va_D (fun _ => True) ws)) (kQ ov post (fun u t => va_P g.1 vwCl (ws1 u) t.heap) (va_A ws sz)) 0 0 (va_A ws sz)
abbrev oI : Int32 → Option Value := fun r => some (.int r)
abbrev oL : Int64 → Option Value := fun r => some (.long r)
abbrev oA : Nat → Option Value := fun r => some (.ref r)
abbrev oV : Unit → Option Value := fun _ => none
/-- contracts whose answer and world are known -/
abbrev CI (l : Launch) (y : MethodName) (cc : ByteArray) (nL : Nat) (ret : Option FieldType) (rm : Room) (g : KG) (av : List Value) (ws : va_W) (r : Int32) (ws1 : va_W) : Prop := CT l y cc nL ret rm g av ws (S := Unit) oI (fun x _ => x = r) (fun _ => ws1)
abbrev CL (l : Launch) (y : MethodName) (cc : ByteArray) (nL : Nat) (ret : Option FieldType) (rm : Room) (g : KG) (av : List Value) (ws : va_W) (r : Int64) (ws1 : va_W) : Prop := CT l y cc nL ret rm g av ws (S := Unit) oL (fun x _ => x = r) (fun _ => ws1)
abbrev CA (l : Launch) (y : MethodName) (cc : ByteArray) (nL : Nat) (ret : Option FieldType) (rm : Room) (g : KG) (av : List Value) (ws : va_W) (r : Nat) (ws1 : va_W) : Prop := CT l y cc nL ret rm g av ws (S := Unit) oA (fun x _ => x = r) (fun _ => ws1)
abbrev CV (l : Launch) (y : MethodName) (cc : ByteArray) (nL : Nat) (ret : Option FieldType) (rm : Room) (g : KG) (av : List Value) (ws : va_W) (ws1 : va_W) : Prop := CT l y cc nL ret rm g av ws (S := Unit) oV (fun _ _ => True) (fun _ => ws1)
/-- a part of a world, all in one stretch, becomes another with the same addresses -/
def Fr (ws wc wc1 ws2 : va_W) : Prop := ∃ L M : va_W, ws = L ++ (wc ++ M) ∧ ws2 = L ++ (wc1 ++ M) ∧ wc1.map Prod.fst = wc.map Prod.fst
theorem Fr.all {wc wc1 : va_W} (h : wc1.map Prod.fst = wc.map Prod.fst) : Fr wc wc wc1 wc1 := ⟨[], [], by simp, by simp, h⟩
theorem Fr.none {ws : va_W} : Fr ws [] [] ws := ⟨ws, [], by simp, by simp, rfl⟩
theorem Fr.mid {L M wc wc1 : va_W} (h : wc1.map Prod.fst = wc.map Prod.fst) : Fr (L ++ (wc ++ M)) wc wc1 (L ++ (wc1 ++ M)) := ⟨L, M, rfl, rfl, h⟩
theorem kP_mem {D : va_G} {cl : List vw_C} {ws : va_W} {H : Heap} : va_P D cl ws H ↔ ∀ q ∈ ws, va_at D cl q H := ⟨fun h q hq => by
  obtain ⟨k, hk⟩ := List.getElem?_of_mem hq
  exact h k q hk, fun h k q hk => h q (List.mem_of_getElem? hk)⟩
theorem kD_pre {A : Nat → Prop} {L M : va_W} (h : va_D A (L ++ M)) : va_D A L := by
  have key : ∀ (i : Nat) (q : Nat × va_E), L[i]? = some q → (L ++ M)[i]? = some q := fun i q hi => by
    rw [List.getElem?_append_left (List.getElem?_eq_some_iff.mp hi).1]; exact hi
  exact ⟨fun i j p q hi hj e => h.1 i j p q (key i p hi) (key j q hj) e, fun k q hk => h.2 k q (key k q hk)⟩
theorem kD_suf {A : Nat → Prop} {L M : va_W} (h : va_D A (L ++ M)) : va_D A M := by
  have key : ∀ (i : Nat) (q : Nat × va_E), M[i]? = some q → (L ++ M)[L.length + i]? = some q := fun i q hi => by
    rw [List.getElem?_append_right (by omega)]
    rw [show L.length + i - L.length = i by omega]
    exact hi
  exact ⟨fun i j p q hi hj e => by have := h.1 _ _ p q (key i p hi) (key j q hj) e; omega, fun k q hk => h.2 _ q (key k q hk)⟩
theorem kD_ne {A : Nat → Prop} {L M : va_W} (h : va_D A (L ++ M)) {p q : Nat × va_E} (hp : p ∈ L) (hq : q ∈ M) : p.1 ≠ q.1 := by
  obtain ⟨i, hi⟩ := List.getElem?_of_mem hp
  obtain ⟨j, hj⟩ := List.getElem?_of_mem hq
  have hl := (List.getElem?_eq_some_iff.mp hi).1
  intro e
  have := h.1 i (L.length + j) p q (by rw [List.getElem?_append_left hl]; exact hi) (by
    rw [List.getElem?_append_right (by omega)]
    rw [show L.length + j - L.length = j by omega]
    exact hj) e
  omega
theorem kD_congr {A : Nat → Prop} {v w : va_W} (e : w.map Prod.fst = v.map Prod.fst) (h : va_D A v) : va_D A w := by
  have key : ∀ (i : Nat) (q : Nat × va_E), w[i]? = some q → ∃ q0, v[i]? = some q0 ∧ q0.1 = q.1 := fun i q hi => by
    have h1 : (w.map Prod.fst)[i]? = some q.1 := by rw [List.getElem?_map, hi]; rfl
    rw [e, List.getElem?_map] at h1
    cases hv : v[i]? with
    | none => rw [hv] at h1; cases h1
    | some q0 => rw [hv] at h1; exact ⟨q0, rfl, Option.some.inj h1⟩
  refine ⟨fun i j p q hi hj hpq => ?_, fun k q hk => ?_⟩
  · obtain ⟨p0, h1, h2⟩ := key i p hi
    obtain ⟨q0, h3, h4⟩ := key j q hj
    exact h.1 i j p0 q0 h1 h3 (h2.trans (hpq.trans h4.symm))
  · obtain ⟨q0, h1, h2⟩ := key k q hk
    rw [← h2]
    exact h.2 k q0 h1
theorem Fr.P {D : va_G} {cl : List vw_C} {A : Nat → Prop} {ws wc wc1 ws2 : va_W} {H H1 : Heap} (f : Fr ws wc wc1 ws2) (hP : va_P D cl ws H) (hD : va_D A ws) (hk : ∀ q : Nat, q < H.size → ¬ va_A wc H.size q → H1[q]? = H[q]?) (h1 : va_P D cl wc1 H1) : va_P D cl ws2 H1 := by
  obtain ⟨L, M, rfl, rfl, -⟩ := f
  have hk2 : ∀ q ∈ L ++ (wc ++ M), (∀ x ∈ wc, x.1 ≠ q.1) → va_at D cl q H1 := fun q hq hx => by
    have a := kP_mem.mp hP q hq
    refine a.kept (hk q.1 a.lt ?_)
    rintro (⟨k, e, h⟩ | h)
    · exact hx (q.1, e) (List.mem_of_getElem? h) rfl
    · exact absurd a.lt (Nat.not_lt.mpr h)
  refine kP_mem.mpr (fun q hq => ?_)
  rcases List.mem_append.mp hq with h | h
  · exact hk2 q (List.mem_append_left _ h) (fun x hx e => kD_ne hD h (List.mem_append_left _ hx) e.symm)
  · rcases List.mem_append.mp h with h | h
    · exact kP_mem.mp h1 q h
    · exact hk2 q (List.mem_append_right _ (List.mem_append_right _ h)) (fun x hx e => kD_ne (kD_suf hD) hx h e)
theorem Fr.D {A : Nat → Prop} {ws wc wc1 ws2 : va_W} (f : Fr ws wc wc1 ws2) (hD : va_D A ws) : va_D A ws2 := by
  obtain ⟨L, M, rfl, rfl, e⟩ := f
  exact kD_congr (by simp only [List.map_append, e]) hD
theorem Fr.sub {D : va_G} {cl : List vw_C} {ws wc wc1 ws2 : va_W} {H : Heap} (f : Fr ws wc wc1 ws2) (hP : va_P D cl ws H) : va_P D cl wc H := by
  obtain ⟨L, M, rfl, rfl, -⟩ := f
  exact kP_mem.mpr (fun q hq => kP_mem.mp hP q (List.mem_append_right _ (List.mem_append_left _ hq)))
theorem Fr.subD {A : Nat → Prop} {ws wc wc1 ws2 : va_W} (f : Fr ws wc wc1 ws2) (hD : va_D A ws) : va_D A wc := by
  obtain ⟨L, M, rfl, rfl, -⟩ := f
  exact kD_pre (kD_suf hD)
theorem kA_free {A : Nat → Prop} {wc : va_W} {H0 H : Heap} {locs : List Loc} (hD : va_D A wc) (hS : va_S A H0 H locs) (hA : ∀ q, H0.size ≤ q → A q) : ∀ q, va_A wc H.size q → A q := by
  rintro q (⟨k, e, h⟩ | h)
  · exact hD.2 k (q, e) h
  · exact hA q (Nat.le_trans hS.1 h)
/-- what is known of a method: its words, how many arguments it takes -/
def kMV (y : MethodName) (cc : ByteArray) (nL : Nat) (ret : Option FieldType) (n : Nat) : Prop := .instanceMethod y ∈ wsL_law ∧ .selects y.cls y y ∈ wsL_law ∧ .initialized y.cls ∈ wsL_law ∧ .code y cc nL ret ∈ wsL_law ∧ y.cls ≠ "java/lang/invoke/MethodHandle" ∧ y.cls ≠ "java/lang/invoke/VarHandle" ∧ (parseMethodDescriptor y.desc).map (fun d => d.parameters.length) = some n
def kMS (y : MethodName) (cc : ByteArray) (nL : Nat) (ret : Option FieldType) (n : Nat) : Prop := .static y ∈ wsL_law ∧ .initialized y.cls ∈ wsL_law ∧ .code y cc nL ret ∈ wsL_law ∧ y.cls ≠ "java/lang/invoke/MethodHandle" ∧ y.cls ≠ "java/lang/invoke/VarHandle" ∧ (parseMethodDescriptor y.desc).map (fun d => d.parameters.length) = some n
abbrev kRm (R rm : Room) (nL : Nat) : Prop := rm.cells = 0 ∧ rm.slots = 0 ∧ rm.frames + 1 ≤ R.frames ∧ 8 + (nL + 11) + rm.locals ≤ R.locals
theorem kBlind {g : KG} {av : List Value} {sz : Nat} {wc : va_W} : FrameBlind (va_Pc av (fun U => U.heap.size = sz ∧ va_P g.1 vwCl wc U.heap ∧ kE g (va_A wc sz) U ∧ va_D (fun _ => True) wc)) := fun a U gf mk q => by
  obtain ⟨q0, q1, qP, qE, qD⟩ := q
  exact ⟨q0, q1, qP, kE.same (u := U) rfl rfl qE, qD⟩
section KA
variable {p : Program} {l : Launch} {e : Env} {R : Room} {s : State} {m : MethodId} {args : Array Value} {below : List Frame} {meth : Method} {c : Code} {H : Heap} {locs : List Loc} {cs sl : Nat} {Q : State → Prop}
variable {g : KG} {A : Nat → Prop} {nL pc : Nat} {ls : Array Slot} {lv : List (Nat × Value)} {st st0 : List Value} {a : Array Value} {ws wc : va_W}
theorem k_after {α S : Type} {ov : α → Option Value} {post : α → S → Prop} {wc1 ws2 : S → va_W} (hr : va_Run p l e R s m args below meth c H locs cs sl 0 0 (F0 m pc ls st0) st (kQ ov post (fun u t => va_P g.1 vwCl (wc1 u) t.heap) (va_A wc H.size) a) (va_A wc H.size)) (hP : va_P g.1 vwCl ws H) (hD : va_D A ws) (hS : va_S A s.heap H locs) (hA : ∀ q, s.heap.size ≤ q → A q) (hl : lv_has ls nL lv) (fr : ∀ u, Fr ws wc (wc1 u) (ws2 u))
    (kk : ∀ (r : α) (u : S), post r u → KJ p l e R s m args below meth c g A nL cs sl Q (ws2 u) lv (pc + 3) ((ov r).toList ++ st)) : W p l e R s m args below meth c H locs cs sl Q (F0 m pc ls st0) := by
  intro T hT X
  obtain ⟨v, st₀, t, T', Lc, h0, X', hL, e1, e2, ⟨⟨r, u, hv, hp, hb⟩, hz, hk⟩, stp⟩ := hr T hT X
  cases hv
  rw [h0] at hz hk
  have hF := kA_free ((fr u).subD hD) hS hA
  have hP2 : va_P g.1 vwCl (ws2 u) T'.heap := (fr u).P hP hD (fun q h1 h2 => by rw [e1]; exact hk q h1 h2) (by rw [e1]; exact hb)
  obtain ⟨t2, a1, b1⟩ := kk r u hp T'.heap (locs ++ Lc) ls hP2 ((fr u).D hD)
    ⟨Nat.le_trans hS.1 (by rw [e1]; exact hz), fun q h1 h2 => by rw [e1, hk q (Nat.lt_of_lt_of_le h1 hS.1) (fun z => h2 (hF q z))]; exact hS.2.1 q h1 h2, fun q hq => by
      rcases List.mem_append.mp hq with h | h
      · exact hS.2.2 q h
      · exact hF _ (hL q h)⟩ hl T' rfl X'
  exact ⟨t2, stp t2 a1, b1⟩
end KA
section KB
variable {l : Launch} {R rm : Room} {cc c1 : ByteArray} {own : String} {nL n1 n index b : Nat} {g : KG} {J : KT} {ws wc : va_W} {lv : List (Nat × Value)} {pc : Nat} {st st0 As fs : List Value} {y : MethodName} {ret : Option FieldType} {q : vw_C} {ci : Nat}
theorem k_callV {α S : Type} [Nonempty S] {ov : α → Option Value} {post : α → S → Prop} {wc1 ws2 : S → va_W} (hJ : KO l R cc own nL g J) (hM : CT l y c1 n1 ret rm g (.ref b :: As) wc ov post wc1) (fr : ∀ u, Fr ws wc (wc1 u) (ws2 u)) (hy : kMV y c1 n1 ret n) (hlk : Cond.methodLink own index y ∈ wsL_law) (q0 : Nat) (he : ws[q0]? = some (b, .inr (ci, fs))) (hc : vwCl[ci]? = some q) (hq : q.1 = y.cls) (hrm : kRm R rm n1) (hst : st0 = As.reverse ++ .ref b :: st) (hn : As.length = n) (hdep : (st.map (fun v => v.category)).sum ≤ 8) (hd : decode cc pc = .ok (.invokevirtual index, 3))
    (kk : ∀ (r : α) (u : S), post r u → J (ws2 u) lv (pc + 3) ((ov r).toList ++ st)) : J ws lv pc st0 := by
  obtain ⟨p, e, s, m, args, below, meth, c, A, cs, sl, Q, K, hE, hA, hcs, hsl, rfl⟩ := hJ
  intro H locs ls hP hD hS hl
  obtain ⟨i1, i2, i3, i4, i5, i6, i7⟩ := hy
  obtain ⟨r1, r2, r3, r4⟩ := hrm
  obtain ⟨u0⟩ := ‹Nonempty S›
  have hts := K.2.2.2.2
  have cw : CallW R s args own y.cls index y c1 n1 ret (.code y c1 n1 ret :: wsL_law) rm 0 0 n := ⟨callB_of n hts (kGoodIn i4) rfl r1 r2 (hts _ i3) (hts _ hlk) ⟨i5, i6, i7⟩ ⟨r3, r4⟩, hts _ i1, hts _ i2⟩
  have rcv := va_recv hE.1 hP (ci := ci) (q0 := q0) hc he
  rw [hq] at rcv
  exact k_after (va_runV K (hM H.size) cw ⟨kBlind, rcv, fun U hU hW => ⟨rfl, by rw [hU], by rw [hU]; exact (fr u0).sub hP, kE.call hE hW hU hS (kA_free ((fr u0).subD hD) hS hA), ((fr u0).subD hD).weaken (fun _ _ _ _ => trivial)⟩⟩ rfl hn hl.1 hst (lv_room hdep) hd ⟨hcs, hsl⟩) hP hD hS hA hl fr kk
theorem k_callS {α S : Type} [Nonempty S] {ov : α → Option Value} {post : α → S → Prop} {wc1 ws2 : S → va_W} (hJ : KO l R cc own nL g J) (hM : CT l y c1 n1 ret rm g As wc ov post wc1) (fr : ∀ u, Fr ws wc (wc1 u) (ws2 u)) (hy : kMS y c1 n1 ret n) (hlk : Cond.methodLink own index y ∈ wsL_law) (hrm : kRm R rm n1) (hst : st0 = As.reverse ++ st) (hn : As.length = n) (hdep : (st.map (fun v => v.category)).sum ≤ 8) (hd : decode cc pc = .ok (.invokestatic index, 3))
    (kk : ∀ (r : α) (u : S), post r u → J (ws2 u) lv (pc + 3) ((ov r).toList ++ st)) : J ws lv pc st0 := by
  obtain ⟨p, e, s, m, args, below, meth, c, A, cs, sl, Q, K, hE, hA, hcs, hsl, rfl⟩ := hJ
  intro H locs ls hP hD hS hl
  obtain ⟨i1, i3, i4, i5, i6, i7⟩ := hy
  obtain ⟨r1, r2, r3, r4⟩ := hrm
  obtain ⟨u0⟩ := ‹Nonempty S›
  have hts := K.2.2.2.2
  have cw : CallB R s args own index y c1 n1 ret (.code y c1 n1 ret :: wsL_law) rm 0 0 n ∧ (Cond.static y).before args s = true := ⟨callB_of n hts (kGoodIn i4) rfl r1 r2 (hts _ i3) (hts _ hlk) ⟨i5, i6, i7⟩ ⟨r3, r4⟩, hts _ i1⟩
  exact k_after (va_runS K (hM H.size) cw ⟨kBlind, fun U hU hW => ⟨rfl, by rw [hU], by rw [hU]; exact (fr u0).sub hP, kE.call hE hW hU hS (kA_free ((fr u0).subD hD) hS hA), ((fr u0).subD hD).weaken (fun _ _ _ _ => trivial)⟩⟩ rfl hn hl.1 hst (lv_room hdep) hd ⟨hcs, hsl⟩) hP hD hS hA hl fr kk
/-- a private static method of the nest's host, called out of Hall: its link is one of kE's -/
theorem k_callN {α S : Type} [Nonempty S] {ov : α → Option Value} {post : α → S → Prop} {wc1 ws2 : S → va_W} (hJ : KO l R cc own nL g J) (hM : CT l y c1 n1 ret rm g As wc ov post wc1) (fr : ∀ u, Fr ws wc (wc1 u) (ws2 u)) (hy : kMS y c1 n1 ret n) (hlk : ∀ (A : Nat → Prop) (U : State), kE g A U → va_Nw (.methodLinkNest own index y "NoseJury") U) (hrm : kRm R rm n1) (hst : st0 = As.reverse ++ st) (hn : As.length = n) (hdep : (st.map (fun v => v.category)).sum ≤ 8) (hd : decode cc pc = .ok (.invokestatic index, 3))
    (kk : ∀ (r : α) (u : S), post r u → J (ws2 u) lv (pc + 3) ((ov r).toList ++ st)) : J ws lv pc st0 := by
  obtain ⟨p, e, s, m, args, below, meth, c, A, cs, sl, Q, K, hE, hA, hcs, hsl, rfl⟩ := hJ
  intro H locs ls hP hD hS hl
  obtain ⟨i1, i3, i4, i5, i6, i7⟩ := hy
  obtain ⟨r1, r2, r3, r4⟩ := hrm
  obtain ⟨u0⟩ := ‹Nonempty S›
  have hts := K.2.2.2.2
  have cw : va_CN R s args own index y "NoseJury" c1 n1 ret (.code y c1 n1 ret :: wsL_law) rm 0 0 n ∧ (Cond.static y).before args s = true ∧ True := ⟨va_cnB n hts (kGoodIn i4) rfl r1 r2 (hlk A s hE) (hts _ i3) ⟨i5, i6, i7⟩ ⟨r3, r4⟩, hts _ i1, trivial⟩
  exact k_after (va_runSN K (hM H.size) cw ⟨kBlind, fun U hU hW => ⟨rfl, by rw [hU], by rw [hU]; exact (fr u0).sub hP, kE.call hE hW hU hS (kA_free ((fr u0).subD hD) hS hA), ((fr u0).subD hD).weaken (fun _ _ _ _ => trivial)⟩⟩ rfl hn hl.1 hst (lv_room hdep) hd ⟨hcs, hsl⟩) hP hD hS hA hl fr kk
end KB
section KC
variable {l : Launch} {rm : Room} {cc : ByteArray} {nL : Nat} {g : KG} {ws : va_W} {av : List Value} {y : MethodName} {S : Type}
theorem k_bodyI {ws1 : S → va_W} {post : Int32 → S → Prop} {ty : FieldType} (hy : plainName y.cls = true) (hlen : (lg_sl av).length ≤ nL) (hty : ∀ r u, post r u → narrow ty (.int r) = .int r)
    (body : ∀ J : KT, KO l rm cc y.cls nL g J → (∀ (lv : List (Nat × Value)) (pc : Nat) (r : Int32) (u : S), decode cc pc = .ok (.ireturn, 1) → post r u → J (ws1 u) lv pc [.int r]) → J ws (lv_args 0 av) 0 []) : CT l y cc nL (some ty) rm g av ws oI post ws1 := by
  intro sz
  refine Met.ofW (cc := cc) (maxL := nL) (ret := some ty) hy rfl ?_
  intro p e s m args below meth c s₁ B hml hv
  obtain ⟨rfl, hsz, hP, hE, hD0⟩ := hv
  have hts := atoms_spec (ws := Cond.code y cc nL (some ty) :: wsL_law) B.pre
  have K : CallFix p m c cc nL s av.toArray wsL_law y.cls := ⟨B.exec, B.bytes, hml, findClass_of_methodNamed B.named, fun w hw => hts w (List.mem_cons_of_mem _ hw)⟩
  have hlocks := B.notSynchronized
  have hr := B.returns
  subst hsz
  have hD := hD0.self (sz := s.heap.size)
  have hl := lv_entry av (n := nL) hlen
  rw [lg_entry_eq]
  exact body (KJ p l e rm s m av.toArray below meth c g (va_A ws s.heap.size) nL 0 0 (MQ below (kQ oI post (fun u t => va_P g.1 vwCl (ws1 u) t.heap) (va_A ws s.heap.size)) av.toArray s 0 0 (va_A ws s.heap.size))) ⟨p, e, s, m, _, below, meth, c, _, 0, 0, _, K, hE, fun q h => Or.inr h, Nat.zero_le _, Nat.zero_le _, rfl⟩ (fun lv pc r u hd hp H locs ls hP hD hS hl => W.zret K.1 K.2.1 hr (hty r u hp) (fun t ht hW => ⟨⟨r, u, rfl, hp, by show va_P g.1 vwCl (ws1 u) t.heap; rw [ht]; exact hP⟩, hS.F ht⟩) hS.2.2 hd hlocks) s.heap [] _ hP hD va_S.rf hl
theorem k_bodyL {ws1 : S → va_W} {post : Int64 → S → Prop} (hy : plainName y.cls = true) (hlen : (lg_sl av).length ≤ nL) 
    (body : ∀ J : KT, KO l rm cc y.cls nL g J → (∀ (lv : List (Nat × Value)) (pc : Nat) (r : Int64) (u : S), decode cc pc = .ok (.lreturn, 1) → post r u → J (ws1 u) lv pc [.long r]) → J ws (lv_args 0 av) 0 []) : CT l y cc nL (some .long) rm g av ws oL post ws1 := by
  intro sz
  refine Met.ofW (cc := cc) (maxL := nL) (ret := some .long) hy rfl ?_
  intro p e s m args below meth c s₁ B hml hv
  obtain ⟨rfl, hsz, hP, hE, hD0⟩ := hv
  have hts := atoms_spec (ws := Cond.code y cc nL (some .long) :: wsL_law) B.pre
  have K : CallFix p m c cc nL s av.toArray wsL_law y.cls := ⟨B.exec, B.bytes, hml, findClass_of_methodNamed B.named, fun w hw => hts w (List.mem_cons_of_mem _ hw)⟩
  have hlocks := B.notSynchronized
  have hr := B.returns
  subst hsz
  have hD := hD0.self (sz := s.heap.size)
  have hl := lv_entry av (n := nL) hlen
  rw [lg_entry_eq]
  exact body (KJ p l e rm s m av.toArray below meth c g (va_A ws s.heap.size) nL 0 0 (MQ below (kQ oL post (fun u t => va_P g.1 vwCl (ws1 u) t.heap) (va_A ws s.heap.size)) av.toArray s 0 0 (va_A ws s.heap.size))) ⟨p, e, s, m, _, below, meth, c, _, 0, 0, _, K, hE, fun q h => Or.inr h, Nat.zero_le _, Nat.zero_le _, rfl⟩ (fun lv pc r u hd hp H locs ls hP hD hS hl => W.lret K.1 K.2.1 hr (fun t ht hW => ⟨⟨r, u, rfl, hp, by show va_P g.1 vwCl (ws1 u) t.heap; rw [ht]; exact hP⟩, hS.F ht⟩) hS.2.2 hd hlocks) s.heap [] _ hP hD va_S.rf hl
theorem k_bodyV {ws1 : S → va_W} {post : Unit → S → Prop} (hy : plainName y.cls = true) (hlen : (lg_sl av).length ≤ nL) 
    (body : ∀ J : KT, KO l rm cc y.cls nL g J → (∀ (lv : List (Nat × Value)) (pc : Nat) (r : Unit) (u : S), decode cc pc = .ok (.return_, 1) → post r u → J (ws1 u) lv pc []) → J ws (lv_args 0 av) 0 []) : CT l y cc nL (none) rm g av ws oV post ws1 := by
  intro sz
  refine Met.ofW (cc := cc) (maxL := nL) (ret := none) hy rfl ?_
  intro p e s m args below meth c s₁ B hml hv
  obtain ⟨rfl, hsz, hP, hE, hD0⟩ := hv
  have hts := atoms_spec (ws := Cond.code y cc nL (none) :: wsL_law) B.pre
  have K : CallFix p m c cc nL s av.toArray wsL_law y.cls := ⟨B.exec, B.bytes, hml, findClass_of_methodNamed B.named, fun w hw => hts w (List.mem_cons_of_mem _ hw)⟩
  have hlocks := B.notSynchronized
  have hr := B.returns
  subst hsz
  have hD := hD0.self (sz := s.heap.size)
  have hl := lv_entry av (n := nL) hlen
  rw [lg_entry_eq]
  exact body (KJ p l e rm s m av.toArray below meth c g (va_A ws s.heap.size) nL 0 0 (MQ below (kQ oV post (fun u t => va_P g.1 vwCl (ws1 u) t.heap) (va_A ws s.heap.size)) av.toArray s 0 0 (va_A ws s.heap.size))) ⟨p, e, s, m, _, below, meth, c, _, 0, 0, _, K, hE, fun q h => Or.inr h, Nat.zero_le _, Nat.zero_le _, rfl⟩ (fun lv pc r u hd hp H locs ls hP hD hS hl => W.vret K.1 K.2.1 hr (fun t ht hW => ⟨⟨r, u, rfl, hp, by show va_P g.1 vwCl (ws1 u) t.heap; rw [ht]; exact hP⟩, hS.F ht⟩) hS.2.2 hd hlocks) s.heap [] _ hP hD va_S.rf hl
theorem k_bodyA {ws1 : S → va_W} {post : Nat → S → Prop} {cn : String} (hy : plainName y.cls = true) (hlen : (lg_sl av).length ≤ nL) 
    (body : ∀ J : KT, KO l rm cc y.cls nL g J → (∀ (lv : List (Nat × Value)) (pc : Nat) (r : Nat) (u : S), decode cc pc = .ok (.areturn, 1) → post r u → J (ws1 u) lv pc [.ref r]) → J ws (lv_args 0 av) 0 []) : CT l y cc nL (some (.object cn)) rm g av ws oA post ws1 := by
  intro sz
  refine Met.ofW (cc := cc) (maxL := nL) (ret := some (.object cn)) hy rfl ?_
  intro p e s m args below meth c s₁ B hml hv
  obtain ⟨rfl, hsz, hP, hE, hD0⟩ := hv
  have hts := atoms_spec (ws := Cond.code y cc nL (some (.object cn)) :: wsL_law) B.pre
  have K : CallFix p m c cc nL s av.toArray wsL_law y.cls := ⟨B.exec, B.bytes, hml, findClass_of_methodNamed B.named, fun w hw => hts w (List.mem_cons_of_mem _ hw)⟩
  have hlocks := B.notSynchronized
  have hr := B.returns
  subst hsz
  have hD := hD0.self (sz := s.heap.size)
  have hl := lv_entry av (n := nL) hlen
  rw [lg_entry_eq]
  exact body (KJ p l e rm s m av.toArray below meth c g (va_A ws s.heap.size) nL 0 0 (MQ below (kQ oA post (fun u t => va_P g.1 vwCl (ws1 u) t.heap) (va_A ws s.heap.size)) av.toArray s 0 0 (va_A ws s.heap.size))) ⟨p, e, s, m, _, below, meth, c, _, 0, 0, _, K, hE, fun q h => Or.inr h, Nat.zero_le _, Nat.zero_le _, rfl⟩ (fun lv pc r u hd hp H locs ls hP hD hS hl => W.aret K.1 K.2.1 hr (Or.inl ⟨_, rfl⟩) (Or.inr ⟨_, rfl⟩) (fun t ht hW => ⟨⟨r, u, rfl, hp, by show va_P g.1 vwCl (ws1 u) t.heap; rw [ht]; exact hP⟩, hS.F ht⟩) hS.2.2 hd hlocks) s.heap [] _ hP hD va_S.rf hl
end KC
end
section
theorem inr_1 : ∀ w ∈ wsL_law_r1, w ∈ wsL_law := fun _ h => (List.mem_append_left _ (List.mem_append_left _ (List.mem_append_left _ (List.mem_append_left _ (List.mem_append_left _ (List.mem_append_left _ (List.mem_append_left _ h)))))))
theorem inr_2 : ∀ w ∈ wsL_law_r2, w ∈ wsL_law := fun _ h => (List.mem_append_left _ (List.mem_append_left _ (List.mem_append_left _ (List.mem_append_left _ (List.mem_append_left _ (List.mem_append_left _ (List.mem_append_right _ (List.mem_append_left _ h))))))))
theorem inr_3 : ∀ w ∈ wsL_law_r3, w ∈ wsL_law := fun _ h => (List.mem_append_left _ (List.mem_append_left _ (List.mem_append_left _ (List.mem_append_left _ (List.mem_append_left _ (List.mem_append_left _ (List.mem_append_right _ (List.mem_append_right _ (List.mem_append_left _ h)))))))))
theorem inr_4 : ∀ w ∈ wsL_law_r4, w ∈ wsL_law := fun _ h => (List.mem_append_left _ (List.mem_append_left _ (List.mem_append_left _ (List.mem_append_left _ (List.mem_append_left _ (List.mem_append_left _ (List.mem_append_right _ (List.mem_append_right _ (List.mem_append_right _ (List.mem_append_left _ h))))))))))
theorem inr_5 : ∀ w ∈ wsL_law_r5, w ∈ wsL_law := fun _ h => (List.mem_append_left _ (List.mem_append_left _ (List.mem_append_left _ (List.mem_append_left _ (List.mem_append_left _ (List.mem_append_left _ (List.mem_append_right _ (List.mem_append_right _ (List.mem_append_right _ (List.mem_append_right _ (List.mem_append_left _ h)))))))))))
theorem inr_6 : ∀ w ∈ wsL_law_r6, w ∈ wsL_law := fun _ h => (List.mem_append_left _ (List.mem_append_left _ (List.mem_append_left _ (List.mem_append_left _ (List.mem_append_left _ (List.mem_append_left _ (List.mem_append_right _ (List.mem_append_right _ (List.mem_append_right _ (List.mem_append_right _ (List.mem_append_right _ (List.mem_append_left _ h))))))))))))
theorem inr_7 : ∀ w ∈ wsL_law_r7, w ∈ wsL_law := fun _ h => (List.mem_append_left _ (List.mem_append_left _ (List.mem_append_left _ (List.mem_append_left _ (List.mem_append_left _ (List.mem_append_left _ (List.mem_append_right _ (List.mem_append_right _ (List.mem_append_right _ (List.mem_append_right _ (List.mem_append_right _ (List.mem_append_right _ (List.mem_append_left _ h)))))))))))))
theorem inr_8 : ∀ w ∈ wsL_law_r8, w ∈ wsL_law := fun _ h => (List.mem_append_left _ (List.mem_append_left _ (List.mem_append_left _ (List.mem_append_left _ (List.mem_append_left _ (List.mem_append_left _ (List.mem_append_right _ (List.mem_append_right _ (List.mem_append_right _ (List.mem_append_right _ (List.mem_append_right _ (List.mem_append_right _ (List.mem_append_right _ (List.mem_append_left _ h))))))))))))))
theorem inr_9 : ∀ w ∈ wsL_law_r9, w ∈ wsL_law := fun _ h => (List.mem_append_left _ (List.mem_append_left _ (List.mem_append_left _ (List.mem_append_left _ (List.mem_append_left _ (List.mem_append_left _ (List.mem_append_right _ (List.mem_append_right _ (List.mem_append_right _ (List.mem_append_right _ (List.mem_append_right _ (List.mem_append_right _ (List.mem_append_right _ (List.mem_append_right _ (List.mem_append_left _ h)))))))))))))))
theorem inr_10 : ∀ w ∈ wsL_law_r10, w ∈ wsL_law := fun _ h => (List.mem_append_left _ (List.mem_append_left _ (List.mem_append_left _ (List.mem_append_left _ (List.mem_append_left _ (List.mem_append_left _ (List.mem_append_right _ (List.mem_append_right _ (List.mem_append_right _ (List.mem_append_right _ (List.mem_append_right _ (List.mem_append_right _ (List.mem_append_right _ (List.mem_append_right _ (List.mem_append_right _ (List.mem_append_left _ h))))))))))))))))
theorem inr_11 : ∀ w ∈ wsL_law_r11, w ∈ wsL_law := fun _ h => (List.mem_append_left _ (List.mem_append_left _ (List.mem_append_left _ (List.mem_append_left _ (List.mem_append_left _ (List.mem_append_left _ (List.mem_append_right _ (List.mem_append_right _ (List.mem_append_right _ (List.mem_append_right _ (List.mem_append_right _ (List.mem_append_right _ (List.mem_append_right _ (List.mem_append_right _ (List.mem_append_right _ (List.mem_append_right _ (List.mem_append_left _ h)))))))))))))))))
theorem inr_12 : ∀ w ∈ wsL_law_r12, w ∈ wsL_law := fun _ h => (List.mem_append_left _ (List.mem_append_left _ (List.mem_append_left _ (List.mem_append_left _ (List.mem_append_left _ (List.mem_append_left _ (List.mem_append_right _ (List.mem_append_right _ (List.mem_append_right _ (List.mem_append_right _ (List.mem_append_right _ (List.mem_append_right _ (List.mem_append_right _ (List.mem_append_right _ (List.mem_append_right _ (List.mem_append_right _ (List.mem_append_right _ (List.mem_append_left _ h))))))))))))))))))
theorem inr_13 : ∀ w ∈ wsL_law_r13, w ∈ wsL_law := fun _ h => (List.mem_append_left _ (List.mem_append_left _ (List.mem_append_left _ (List.mem_append_left _ (List.mem_append_left _ (List.mem_append_left _ (List.mem_append_right _ (List.mem_append_right _ (List.mem_append_right _ (List.mem_append_right _ (List.mem_append_right _ (List.mem_append_right _ (List.mem_append_right _ (List.mem_append_right _ (List.mem_append_right _ (List.mem_append_right _ (List.mem_append_right _ (List.mem_append_right _ (List.mem_append_left _ h)))))))))))))))))))
theorem inr_14 : ∀ w ∈ wsL_law_r14, w ∈ wsL_law := fun _ h => (List.mem_append_left _ (List.mem_append_left _ (List.mem_append_left _ (List.mem_append_left _ (List.mem_append_left _ (List.mem_append_left _ (List.mem_append_right _ (List.mem_append_right _ (List.mem_append_right _ (List.mem_append_right _ (List.mem_append_right _ (List.mem_append_right _ (List.mem_append_right _ (List.mem_append_right _ (List.mem_append_right _ (List.mem_append_right _ (List.mem_append_right _ (List.mem_append_right _ (List.mem_append_right _ (List.mem_append_left _ h))))))))))))))))))))
theorem inr_15 : ∀ w ∈ wsL_law_r15, w ∈ wsL_law := fun _ h => (List.mem_append_left _ (List.mem_append_left _ (List.mem_append_left _ (List.mem_append_left _ (List.mem_append_left _ (List.mem_append_left _ (List.mem_append_right _ (List.mem_append_right _ (List.mem_append_right _ (List.mem_append_right _ (List.mem_append_right _ (List.mem_append_right _ (List.mem_append_right _ (List.mem_append_right _ (List.mem_append_right _ (List.mem_append_right _ (List.mem_append_right _ (List.mem_append_right _ (List.mem_append_right _ (List.mem_append_right _ (List.mem_append_left _ h)))))))))))))))))))))
theorem inr_16 : ∀ w ∈ wsL_law_r16, w ∈ wsL_law := fun _ h => (List.mem_append_left _ (List.mem_append_left _ (List.mem_append_left _ (List.mem_append_left _ (List.mem_append_left _ (List.mem_append_left _ (List.mem_append_right _ (List.mem_append_right _ (List.mem_append_right _ (List.mem_append_right _ (List.mem_append_right _ (List.mem_append_right _ (List.mem_append_right _ (List.mem_append_right _ (List.mem_append_right _ (List.mem_append_right _ (List.mem_append_right _ (List.mem_append_right _ (List.mem_append_right _ (List.mem_append_right _ (List.mem_append_right _ (List.mem_append_left _ h))))))))))))))))))))))
theorem inr_17 : ∀ w ∈ wsL_law_r17, w ∈ wsL_law := fun _ h => (List.mem_append_left _ (List.mem_append_left _ (List.mem_append_left _ (List.mem_append_left _ (List.mem_append_left _ (List.mem_append_left _ (List.mem_append_right _ (List.mem_append_right _ (List.mem_append_right _ (List.mem_append_right _ (List.mem_append_right _ (List.mem_append_right _ (List.mem_append_right _ (List.mem_append_right _ (List.mem_append_right _ (List.mem_append_right _ (List.mem_append_right _ (List.mem_append_right _ (List.mem_append_right _ (List.mem_append_right _ (List.mem_append_right _ (List.mem_append_right _ (List.mem_append_left _ h)))))))))))))))))))))))
theorem inr_18 : ∀ w ∈ wsL_law_r18, w ∈ wsL_law := fun _ h => (List.mem_append_left _ (List.mem_append_left _ (List.mem_append_left _ (List.mem_append_left _ (List.mem_append_left _ (List.mem_append_left _ (List.mem_append_right _ (List.mem_append_right _ (List.mem_append_right _ (List.mem_append_right _ (List.mem_append_right _ (List.mem_append_right _ (List.mem_append_right _ (List.mem_append_right _ (List.mem_append_right _ (List.mem_append_right _ (List.mem_append_right _ (List.mem_append_right _ (List.mem_append_right _ (List.mem_append_right _ (List.mem_append_right _ (List.mem_append_right _ (List.mem_append_right _ (List.mem_append_left _ h))))))))))))))))))))))))
theorem inr_19 : ∀ w ∈ wsL_law_r19, w ∈ wsL_law := fun _ h => (List.mem_append_left _ (List.mem_append_left _ (List.mem_append_left _ (List.mem_append_left _ (List.mem_append_left _ (List.mem_append_left _ (List.mem_append_right _ (List.mem_append_right _ (List.mem_append_right _ (List.mem_append_right _ (List.mem_append_right _ (List.mem_append_right _ (List.mem_append_right _ (List.mem_append_right _ (List.mem_append_right _ (List.mem_append_right _ (List.mem_append_right _ (List.mem_append_right _ (List.mem_append_right _ (List.mem_append_right _ (List.mem_append_right _ (List.mem_append_right _ (List.mem_append_right _ (List.mem_append_right _ (List.mem_append_left _ h)))))))))))))))))))))))))
theorem inr_20 : ∀ w ∈ wsL_law_r20, w ∈ wsL_law := fun _ h => (List.mem_append_left _ (List.mem_append_left _ (List.mem_append_left _ (List.mem_append_left _ (List.mem_append_left _ (List.mem_append_left _ (List.mem_append_right _ (List.mem_append_right _ (List.mem_append_right _ (List.mem_append_right _ (List.mem_append_right _ (List.mem_append_right _ (List.mem_append_right _ (List.mem_append_right _ (List.mem_append_right _ (List.mem_append_right _ (List.mem_append_right _ (List.mem_append_right _ (List.mem_append_right _ (List.mem_append_right _ (List.mem_append_right _ (List.mem_append_right _ (List.mem_append_right _ (List.mem_append_right _ (List.mem_append_right _ (List.mem_append_left _ h))))))))))))))))))))))))))
theorem inr_21 : ∀ w ∈ wsL_law_r21, w ∈ wsL_law := fun _ h => (List.mem_append_left _ (List.mem_append_left _ (List.mem_append_left _ (List.mem_append_left _ (List.mem_append_left _ (List.mem_append_left _ (List.mem_append_right _ (List.mem_append_right _ (List.mem_append_right _ (List.mem_append_right _ (List.mem_append_right _ (List.mem_append_right _ (List.mem_append_right _ (List.mem_append_right _ (List.mem_append_right _ (List.mem_append_right _ (List.mem_append_right _ (List.mem_append_right _ (List.mem_append_right _ (List.mem_append_right _ (List.mem_append_right _ (List.mem_append_right _ (List.mem_append_right _ (List.mem_append_right _ (List.mem_append_right _ (List.mem_append_right _ (List.mem_append_left _ h)))))))))))))))))))))))))))
theorem inr_22 : ∀ w ∈ wsL_law_r22, w ∈ wsL_law := fun _ h => (List.mem_append_left _ (List.mem_append_left _ (List.mem_append_left _ (List.mem_append_left _ (List.mem_append_left _ (List.mem_append_left _ (List.mem_append_right _ (List.mem_append_right _ (List.mem_append_right _ (List.mem_append_right _ (List.mem_append_right _ (List.mem_append_right _ (List.mem_append_right _ (List.mem_append_right _ (List.mem_append_right _ (List.mem_append_right _ (List.mem_append_right _ (List.mem_append_right _ (List.mem_append_right _ (List.mem_append_right _ (List.mem_append_right _ (List.mem_append_right _ (List.mem_append_right _ (List.mem_append_right _ (List.mem_append_right _ (List.mem_append_right _ (List.mem_append_right _ (List.mem_append_left _ h))))))))))))))))))))))))))))
theorem inr_23 : ∀ w ∈ wsL_law_r23, w ∈ wsL_law := fun _ h => (List.mem_append_left _ (List.mem_append_left _ (List.mem_append_left _ (List.mem_append_left _ (List.mem_append_left _ (List.mem_append_left _ (List.mem_append_right _ (List.mem_append_right _ (List.mem_append_right _ (List.mem_append_right _ (List.mem_append_right _ (List.mem_append_right _ (List.mem_append_right _ (List.mem_append_right _ (List.mem_append_right _ (List.mem_append_right _ (List.mem_append_right _ (List.mem_append_right _ (List.mem_append_right _ (List.mem_append_right _ (List.mem_append_right _ (List.mem_append_right _ (List.mem_append_right _ (List.mem_append_right _ (List.mem_append_right _ (List.mem_append_right _ (List.mem_append_right _ (List.mem_append_right _ (List.mem_append_left _ h)))))))))))))))))))))))))))))
theorem inr_24 : ∀ w ∈ wsL_law_r24, w ∈ wsL_law := fun _ h => (List.mem_append_left _ (List.mem_append_left _ (List.mem_append_left _ (List.mem_append_left _ (List.mem_append_left _ (List.mem_append_left _ (List.mem_append_right _ (List.mem_append_right _ (List.mem_append_right _ (List.mem_append_right _ (List.mem_append_right _ (List.mem_append_right _ (List.mem_append_right _ (List.mem_append_right _ (List.mem_append_right _ (List.mem_append_right _ (List.mem_append_right _ (List.mem_append_right _ (List.mem_append_right _ (List.mem_append_right _ (List.mem_append_right _ (List.mem_append_right _ (List.mem_append_right _ (List.mem_append_right _ (List.mem_append_right _ (List.mem_append_right _ (List.mem_append_right _ (List.mem_append_right _ (List.mem_append_right _ (List.mem_append_left _ h))))))))))))))))))))))))))))))
theorem inr_25 : ∀ w ∈ wsL_law_r25, w ∈ wsL_law := fun _ h => (List.mem_append_left _ (List.mem_append_left _ (List.mem_append_left _ (List.mem_append_left _ (List.mem_append_left _ (List.mem_append_left _ (List.mem_append_right _ (List.mem_append_right _ (List.mem_append_right _ (List.mem_append_right _ (List.mem_append_right _ (List.mem_append_right _ (List.mem_append_right _ (List.mem_append_right _ (List.mem_append_right _ (List.mem_append_right _ (List.mem_append_right _ (List.mem_append_right _ (List.mem_append_right _ (List.mem_append_right _ (List.mem_append_right _ (List.mem_append_right _ (List.mem_append_right _ (List.mem_append_right _ (List.mem_append_right _ (List.mem_append_right _ (List.mem_append_right _ (List.mem_append_right _ (List.mem_append_right _ (List.mem_append_right _ (List.mem_append_left _ h)))))))))))))))))))))))))))))))
theorem inr_26 : ∀ w ∈ wsL_law_r26, w ∈ wsL_law := fun _ h => (List.mem_append_left _ (List.mem_append_left _ (List.mem_append_left _ (List.mem_append_left _ (List.mem_append_left _ (List.mem_append_left _ (List.mem_append_right _ (List.mem_append_right _ (List.mem_append_right _ (List.mem_append_right _ (List.mem_append_right _ (List.mem_append_right _ (List.mem_append_right _ (List.mem_append_right _ (List.mem_append_right _ (List.mem_append_right _ (List.mem_append_right _ (List.mem_append_right _ (List.mem_append_right _ (List.mem_append_right _ (List.mem_append_right _ (List.mem_append_right _ (List.mem_append_right _ (List.mem_append_right _ (List.mem_append_right _ (List.mem_append_right _ (List.mem_append_right _ (List.mem_append_right _ (List.mem_append_right _ (List.mem_append_right _ (List.mem_append_right _ (List.mem_append_left _ h))))))))))))))))))))))))))))))))
theorem inr_27 : ∀ w ∈ wsL_law_r27, w ∈ wsL_law := fun _ h => (List.mem_append_left _ (List.mem_append_left _ (List.mem_append_left _ (List.mem_append_left _ (List.mem_append_left _ (List.mem_append_left _ (List.mem_append_right _ (List.mem_append_right _ (List.mem_append_right _ (List.mem_append_right _ (List.mem_append_right _ (List.mem_append_right _ (List.mem_append_right _ (List.mem_append_right _ (List.mem_append_right _ (List.mem_append_right _ (List.mem_append_right _ (List.mem_append_right _ (List.mem_append_right _ (List.mem_append_right _ (List.mem_append_right _ (List.mem_append_right _ (List.mem_append_right _ (List.mem_append_right _ (List.mem_append_right _ (List.mem_append_right _ (List.mem_append_right _ (List.mem_append_right _ (List.mem_append_right _ (List.mem_append_right _ (List.mem_append_right _ (List.mem_append_right _ (List.mem_append_left _ h)))))))))))))))))))))))))))))))))
theorem inr_28 : ∀ w ∈ wsL_law_r28, w ∈ wsL_law := fun _ h => (List.mem_append_left _ (List.mem_append_left _ (List.mem_append_left _ (List.mem_append_left _ (List.mem_append_left _ (List.mem_append_left _ (List.mem_append_right _ (List.mem_append_right _ (List.mem_append_right _ (List.mem_append_right _ (List.mem_append_right _ (List.mem_append_right _ (List.mem_append_right _ (List.mem_append_right _ (List.mem_append_right _ (List.mem_append_right _ (List.mem_append_right _ (List.mem_append_right _ (List.mem_append_right _ (List.mem_append_right _ (List.mem_append_right _ (List.mem_append_right _ (List.mem_append_right _ (List.mem_append_right _ (List.mem_append_right _ (List.mem_append_right _ (List.mem_append_right _ (List.mem_append_right _ (List.mem_append_right _ (List.mem_append_right _ (List.mem_append_right _ (List.mem_append_right _ (List.mem_append_right _ (List.mem_append_left _ h))))))))))))))))))))))))))))))))))
theorem inr_29 : ∀ w ∈ wsL_law_r29, w ∈ wsL_law := fun _ h => (List.mem_append_left _ (List.mem_append_left _ (List.mem_append_left _ (List.mem_append_left _ (List.mem_append_left _ (List.mem_append_left _ (List.mem_append_right _ (List.mem_append_right _ (List.mem_append_right _ (List.mem_append_right _ (List.mem_append_right _ (List.mem_append_right _ (List.mem_append_right _ (List.mem_append_right _ (List.mem_append_right _ (List.mem_append_right _ (List.mem_append_right _ (List.mem_append_right _ (List.mem_append_right _ (List.mem_append_right _ (List.mem_append_right _ (List.mem_append_right _ (List.mem_append_right _ (List.mem_append_right _ (List.mem_append_right _ (List.mem_append_right _ (List.mem_append_right _ (List.mem_append_right _ (List.mem_append_right _ (List.mem_append_right _ (List.mem_append_right _ (List.mem_append_right _ (List.mem_append_right _ (List.mem_append_right _ (List.mem_append_left _ h)))))))))))))))))))))))))))))))))))
theorem inr_30 : ∀ w ∈ wsL_law_r30, w ∈ wsL_law := fun _ h => (List.mem_append_left _ (List.mem_append_left _ (List.mem_append_left _ (List.mem_append_left _ (List.mem_append_left _ (List.mem_append_left _ (List.mem_append_right _ (List.mem_append_right _ (List.mem_append_right _ (List.mem_append_right _ (List.mem_append_right _ (List.mem_append_right _ (List.mem_append_right _ (List.mem_append_right _ (List.mem_append_right _ (List.mem_append_right _ (List.mem_append_right _ (List.mem_append_right _ (List.mem_append_right _ (List.mem_append_right _ (List.mem_append_right _ (List.mem_append_right _ (List.mem_append_right _ (List.mem_append_right _ (List.mem_append_right _ (List.mem_append_right _ (List.mem_append_right _ (List.mem_append_right _ (List.mem_append_right _ (List.mem_append_right _ (List.mem_append_right _ (List.mem_append_right _ (List.mem_append_right _ (List.mem_append_right _ (List.mem_append_right _ (List.mem_append_left _ h))))))))))))))))))))))))))))))))))))
theorem inr_31 : ∀ w ∈ wsL_law_r31, w ∈ wsL_law := fun _ h => (List.mem_append_left _ (List.mem_append_left _ (List.mem_append_left _ (List.mem_append_left _ (List.mem_append_left _ (List.mem_append_left _ (List.mem_append_right _ (List.mem_append_right _ (List.mem_append_right _ (List.mem_append_right _ (List.mem_append_right _ (List.mem_append_right _ (List.mem_append_right _ (List.mem_append_right _ (List.mem_append_right _ (List.mem_append_right _ (List.mem_append_right _ (List.mem_append_right _ (List.mem_append_right _ (List.mem_append_right _ (List.mem_append_right _ (List.mem_append_right _ (List.mem_append_right _ (List.mem_append_right _ (List.mem_append_right _ (List.mem_append_right _ (List.mem_append_right _ (List.mem_append_right _ (List.mem_append_right _ (List.mem_append_right _ (List.mem_append_right _ (List.mem_append_right _ (List.mem_append_right _ (List.mem_append_right _ (List.mem_append_right _ (List.mem_append_right _ (List.mem_append_left _ h)))))))))))))))))))))))))))))))))))))
theorem inr_32 : ∀ w ∈ wsL_law_r32, w ∈ wsL_law := fun _ h => (List.mem_append_left _ (List.mem_append_left _ (List.mem_append_left _ (List.mem_append_left _ (List.mem_append_left _ (List.mem_append_left _ (List.mem_append_right _ (List.mem_append_right _ (List.mem_append_right _ (List.mem_append_right _ (List.mem_append_right _ (List.mem_append_right _ (List.mem_append_right _ (List.mem_append_right _ (List.mem_append_right _ (List.mem_append_right _ (List.mem_append_right _ (List.mem_append_right _ (List.mem_append_right _ (List.mem_append_right _ (List.mem_append_right _ (List.mem_append_right _ (List.mem_append_right _ (List.mem_append_right _ (List.mem_append_right _ (List.mem_append_right _ (List.mem_append_right _ (List.mem_append_right _ (List.mem_append_right _ (List.mem_append_right _ (List.mem_append_right _ (List.mem_append_right _ (List.mem_append_right _ (List.mem_append_right _ (List.mem_append_right _ (List.mem_append_right _ (List.mem_append_right _ (List.mem_append_left _ h))))))))))))))))))))))))))))))))))))))
theorem inr_33 : ∀ w ∈ wsL_law_r33, w ∈ wsL_law := fun _ h => (List.mem_append_left _ (List.mem_append_left _ (List.mem_append_left _ (List.mem_append_left _ (List.mem_append_left _ (List.mem_append_left _ (List.mem_append_right _ (List.mem_append_right _ (List.mem_append_right _ (List.mem_append_right _ (List.mem_append_right _ (List.mem_append_right _ (List.mem_append_right _ (List.mem_append_right _ (List.mem_append_right _ (List.mem_append_right _ (List.mem_append_right _ (List.mem_append_right _ (List.mem_append_right _ (List.mem_append_right _ (List.mem_append_right _ (List.mem_append_right _ (List.mem_append_right _ (List.mem_append_right _ (List.mem_append_right _ (List.mem_append_right _ (List.mem_append_right _ (List.mem_append_right _ (List.mem_append_right _ (List.mem_append_right _ (List.mem_append_right _ (List.mem_append_right _ (List.mem_append_right _ (List.mem_append_right _ (List.mem_append_right _ (List.mem_append_right _ (List.mem_append_right _ (List.mem_append_right _ (List.mem_append_left _ h)))))))))))))))))))))))))))))))))))))))
theorem inr_34 : ∀ w ∈ wsL_law_r34, w ∈ wsL_law := fun _ h => (List.mem_append_left _ (List.mem_append_left _ (List.mem_append_left _ (List.mem_append_left _ (List.mem_append_left _ (List.mem_append_left _ (List.mem_append_right _ (List.mem_append_right _ (List.mem_append_right _ (List.mem_append_right _ (List.mem_append_right _ (List.mem_append_right _ (List.mem_append_right _ (List.mem_append_right _ (List.mem_append_right _ (List.mem_append_right _ (List.mem_append_right _ (List.mem_append_right _ (List.mem_append_right _ (List.mem_append_right _ (List.mem_append_right _ (List.mem_append_right _ (List.mem_append_right _ (List.mem_append_right _ (List.mem_append_right _ (List.mem_append_right _ (List.mem_append_right _ (List.mem_append_right _ (List.mem_append_right _ (List.mem_append_right _ (List.mem_append_right _ (List.mem_append_right _ (List.mem_append_right _ (List.mem_append_right _ (List.mem_append_right _ (List.mem_append_right _ (List.mem_append_right _ (List.mem_append_right _ (List.mem_append_right _ (List.mem_append_left _ h))))))))))))))))))))))))))))))))))))))))
theorem inr_35 : ∀ w ∈ wsL_law_r35, w ∈ wsL_law := fun _ h => (List.mem_append_left _ (List.mem_append_left _ (List.mem_append_left _ (List.mem_append_left _ (List.mem_append_left _ (List.mem_append_left _ (List.mem_append_right _ (List.mem_append_right _ (List.mem_append_right _ (List.mem_append_right _ (List.mem_append_right _ (List.mem_append_right _ (List.mem_append_right _ (List.mem_append_right _ (List.mem_append_right _ (List.mem_append_right _ (List.mem_append_right _ (List.mem_append_right _ (List.mem_append_right _ (List.mem_append_right _ (List.mem_append_right _ (List.mem_append_right _ (List.mem_append_right _ (List.mem_append_right _ (List.mem_append_right _ (List.mem_append_right _ (List.mem_append_right _ (List.mem_append_right _ (List.mem_append_right _ (List.mem_append_right _ (List.mem_append_right _ (List.mem_append_right _ (List.mem_append_right _ (List.mem_append_right _ (List.mem_append_right _ (List.mem_append_right _ (List.mem_append_right _ (List.mem_append_right _ (List.mem_append_right _ (List.mem_append_right _ (List.mem_append_left _ h)))))))))))))))))))))))))))))))))))))))))
theorem inr_36 : ∀ w ∈ wsL_law_r36, w ∈ wsL_law := fun _ h => (List.mem_append_left _ (List.mem_append_left _ (List.mem_append_left _ (List.mem_append_left _ (List.mem_append_left _ (List.mem_append_left _ (List.mem_append_right _ (List.mem_append_right _ (List.mem_append_right _ (List.mem_append_right _ (List.mem_append_right _ (List.mem_append_right _ (List.mem_append_right _ (List.mem_append_right _ (List.mem_append_right _ (List.mem_append_right _ (List.mem_append_right _ (List.mem_append_right _ (List.mem_append_right _ (List.mem_append_right _ (List.mem_append_right _ (List.mem_append_right _ (List.mem_append_right _ (List.mem_append_right _ (List.mem_append_right _ (List.mem_append_right _ (List.mem_append_right _ (List.mem_append_right _ (List.mem_append_right _ (List.mem_append_right _ (List.mem_append_right _ (List.mem_append_right _ (List.mem_append_right _ (List.mem_append_right _ (List.mem_append_right _ (List.mem_append_right _ (List.mem_append_right _ (List.mem_append_right _ (List.mem_append_right _ (List.mem_append_right _ (List.mem_append_right _ (List.mem_append_left _ h))))))))))))))))))))))))))))))))))))))))))
theorem inr_37 : ∀ w ∈ wsL_law_r37, w ∈ wsL_law := fun _ h => (List.mem_append_left _ (List.mem_append_left _ (List.mem_append_left _ (List.mem_append_left _ (List.mem_append_left _ (List.mem_append_left _ (List.mem_append_right _ (List.mem_append_right _ (List.mem_append_right _ (List.mem_append_right _ (List.mem_append_right _ (List.mem_append_right _ (List.mem_append_right _ (List.mem_append_right _ (List.mem_append_right _ (List.mem_append_right _ (List.mem_append_right _ (List.mem_append_right _ (List.mem_append_right _ (List.mem_append_right _ (List.mem_append_right _ (List.mem_append_right _ (List.mem_append_right _ (List.mem_append_right _ (List.mem_append_right _ (List.mem_append_right _ (List.mem_append_right _ (List.mem_append_right _ (List.mem_append_right _ (List.mem_append_right _ (List.mem_append_right _ (List.mem_append_right _ (List.mem_append_right _ (List.mem_append_right _ (List.mem_append_right _ (List.mem_append_right _ (List.mem_append_right _ (List.mem_append_right _ (List.mem_append_right _ (List.mem_append_right _ (List.mem_append_right _ (List.mem_append_right _ (List.mem_append_left _ h)))))))))))))))))))))))))))))))))))))))))))
theorem inr_38 : ∀ w ∈ wsL_law_r38, w ∈ wsL_law := fun _ h => (List.mem_append_left _ (List.mem_append_left _ (List.mem_append_left _ (List.mem_append_left _ (List.mem_append_left _ (List.mem_append_left _ (List.mem_append_right _ (List.mem_append_right _ (List.mem_append_right _ (List.mem_append_right _ (List.mem_append_right _ (List.mem_append_right _ (List.mem_append_right _ (List.mem_append_right _ (List.mem_append_right _ (List.mem_append_right _ (List.mem_append_right _ (List.mem_append_right _ (List.mem_append_right _ (List.mem_append_right _ (List.mem_append_right _ (List.mem_append_right _ (List.mem_append_right _ (List.mem_append_right _ (List.mem_append_right _ (List.mem_append_right _ (List.mem_append_right _ (List.mem_append_right _ (List.mem_append_right _ (List.mem_append_right _ (List.mem_append_right _ (List.mem_append_right _ (List.mem_append_right _ (List.mem_append_right _ (List.mem_append_right _ (List.mem_append_right _ (List.mem_append_right _ (List.mem_append_right _ (List.mem_append_right _ (List.mem_append_right _ (List.mem_append_right _ (List.mem_append_right _ (List.mem_append_right _ (List.mem_append_left _ h))))))))))))))))))))))))))))))))))))))))))))
theorem inr_39 : ∀ w ∈ wsL_law_r39, w ∈ wsL_law := fun _ h => (List.mem_append_left _ (List.mem_append_left _ (List.mem_append_left _ (List.mem_append_left _ (List.mem_append_left _ (List.mem_append_left _ (List.mem_append_right _ (List.mem_append_right _ (List.mem_append_right _ (List.mem_append_right _ (List.mem_append_right _ (List.mem_append_right _ (List.mem_append_right _ (List.mem_append_right _ (List.mem_append_right _ (List.mem_append_right _ (List.mem_append_right _ (List.mem_append_right _ (List.mem_append_right _ (List.mem_append_right _ (List.mem_append_right _ (List.mem_append_right _ (List.mem_append_right _ (List.mem_append_right _ (List.mem_append_right _ (List.mem_append_right _ (List.mem_append_right _ (List.mem_append_right _ (List.mem_append_right _ (List.mem_append_right _ (List.mem_append_right _ (List.mem_append_right _ (List.mem_append_right _ (List.mem_append_right _ (List.mem_append_right _ (List.mem_append_right _ (List.mem_append_right _ (List.mem_append_right _ (List.mem_append_right _ (List.mem_append_right _ (List.mem_append_right _ (List.mem_append_right _ (List.mem_append_right _ (List.mem_append_right _ (List.mem_append_left _ h)))))))))))))))))))))))))))))))))))))))))))))
theorem inr_40 : ∀ w ∈ wsL_law_r40, w ∈ wsL_law := fun _ h => (List.mem_append_left _ (List.mem_append_left _ (List.mem_append_left _ (List.mem_append_left _ (List.mem_append_left _ (List.mem_append_left _ (List.mem_append_right _ (List.mem_append_right _ (List.mem_append_right _ (List.mem_append_right _ (List.mem_append_right _ (List.mem_append_right _ (List.mem_append_right _ (List.mem_append_right _ (List.mem_append_right _ (List.mem_append_right _ (List.mem_append_right _ (List.mem_append_right _ (List.mem_append_right _ (List.mem_append_right _ (List.mem_append_right _ (List.mem_append_right _ (List.mem_append_right _ (List.mem_append_right _ (List.mem_append_right _ (List.mem_append_right _ (List.mem_append_right _ (List.mem_append_right _ (List.mem_append_right _ (List.mem_append_right _ (List.mem_append_right _ (List.mem_append_right _ (List.mem_append_right _ (List.mem_append_right _ (List.mem_append_right _ (List.mem_append_right _ (List.mem_append_right _ (List.mem_append_right _ (List.mem_append_right _ (List.mem_append_right _ (List.mem_append_right _ (List.mem_append_right _ (List.mem_append_right _ (List.mem_append_right _ (List.mem_append_right _ (List.mem_append_left _ h))))))))))))))))))))))))))))))))))))))))))))))
theorem inr_41 : ∀ w ∈ wsL_law_r41, w ∈ wsL_law := fun _ h => (List.mem_append_left _ (List.mem_append_left _ (List.mem_append_left _ (List.mem_append_left _ (List.mem_append_left _ (List.mem_append_left _ (List.mem_append_right _ (List.mem_append_right _ (List.mem_append_right _ (List.mem_append_right _ (List.mem_append_right _ (List.mem_append_right _ (List.mem_append_right _ (List.mem_append_right _ (List.mem_append_right _ (List.mem_append_right _ (List.mem_append_right _ (List.mem_append_right _ (List.mem_append_right _ (List.mem_append_right _ (List.mem_append_right _ (List.mem_append_right _ (List.mem_append_right _ (List.mem_append_right _ (List.mem_append_right _ (List.mem_append_right _ (List.mem_append_right _ (List.mem_append_right _ (List.mem_append_right _ (List.mem_append_right _ (List.mem_append_right _ (List.mem_append_right _ (List.mem_append_right _ (List.mem_append_right _ (List.mem_append_right _ (List.mem_append_right _ (List.mem_append_right _ (List.mem_append_right _ (List.mem_append_right _ (List.mem_append_right _ (List.mem_append_right _ (List.mem_append_right _ (List.mem_append_right _ (List.mem_append_right _ (List.mem_append_right _ (List.mem_append_right _ h))))))))))))))))))))))))))))))))))))))))))))))
section KW
variable {l : Launch} {R : Room} {cc : ByteArray} {nL : Nat} {g : KG} {J : KT} {ws ws2 : va_W} {lv : List (Nat × Value)} {pc : Nat} {st : List Value} {a : Nat} {fs : List Value}
theorem fl_X0_9 : Cond.fieldLink RX0 9 (TX0 0).1 (TX0 0).2.1 (TX0 0).2.2.1 ∈ wsL_law := inr_2 _ (List.mem_of_getElem? (i := 10) rfl)
theorem gf_X0_9 (hJ : KO l R cc RX0 nL g J) {v : Value} (q0 : Nat) (he : ws[q0]? = some (a, .inr (0, fs))) (hv : fs[0]? = some v) (hd : decode cc pc = .ok (.getfield 9, 3)) (k1 : J ws lv (pc + 3) (v :: st)) : J ws lv pc (.ref a :: st) := k_get hJ q0 he 0 hv rfl inlX0 (by decide) fl_X0_9 hd k1
theorem pf_X0_9 (hJ : KO l R cc RX0 nL g J) {x : Int32} (q0 : Nat) (he : ws[q0]? = some (a, .inr (0, fs))) (hws : ws.set q0 (a, .inr (0, fs.set 0 (.int x))) = ws2) (hl0 : 0 < fs.length) (hd : decode cc pc = .ok (.putfield 9, 3)) (k1 : J ws2 lv (pc + 3) st) : J ws lv pc (.int x :: .ref a :: st) := k_put (ty := .int) hJ q0 he 0 hws rfl inlX0 tyX0 tyX0_ok nmX0 (by decide) fl_X0_9 rfl (by decide +kernel) rfl rfl hl0 hd k1
theorem fl_X0_15 : Cond.fieldLink RX0 15 (TX0 1).1 (TX0 1).2.1 (TX0 1).2.2.1 ∈ wsL_law := inr_2 _ (List.mem_of_getElem? (i := 11) rfl)
theorem gf_X0_15 (hJ : KO l R cc RX0 nL g J) {v : Value} (q0 : Nat) (he : ws[q0]? = some (a, .inr (0, fs))) (hv : fs[1]? = some v) (hd : decode cc pc = .ok (.getfield 15, 3)) (k1 : J ws lv (pc + 3) (v :: st)) : J ws lv pc (.ref a :: st) := k_get hJ q0 he 1 hv rfl inlX0 (by decide) fl_X0_15 hd k1
theorem pf_X0_15 (hJ : KO l R cc RX0 nL g J) {x : Int32} (q0 : Nat) (he : ws[q0]? = some (a, .inr (0, fs))) (hws : ws.set q0 (a, .inr (0, fs.set 1 (.int x))) = ws2) (hl0 : 1 < fs.length) (hd : decode cc pc = .ok (.putfield 15, 3)) (k1 : J ws2 lv (pc + 3) st) : J ws lv pc (.int x :: .ref a :: st) := k_put (ty := .int) hJ q0 he 1 hws rfl inlX0 tyX0 tyX0_ok nmX0 (by decide) fl_X0_15 rfl (by decide +kernel) rfl rfl hl0 hd k1
theorem fl_X0_18 : Cond.fieldLink RX0 18 (TX0 2).1 (TX0 2).2.1 (TX0 2).2.2.1 ∈ wsL_law := inr_2 _ (List.mem_of_getElem? (i := 12) rfl)
theorem gf_X0_18 (hJ : KO l R cc RX0 nL g J) {v : Value} (q0 : Nat) (he : ws[q0]? = some (a, .inr (0, fs))) (hv : fs[2]? = some v) (hd : decode cc pc = .ok (.getfield 18, 3)) (k1 : J ws lv (pc + 3) (v :: st)) : J ws lv pc (.ref a :: st) := k_get hJ q0 he 2 hv rfl inlX0 (by decide) fl_X0_18 hd k1
theorem pf_X0_18 (hJ : KO l R cc RX0 nL g J) {x : Int32} (q0 : Nat) (he : ws[q0]? = some (a, .inr (0, fs))) (hws : ws.set q0 (a, .inr (0, fs.set 2 (.int x))) = ws2) (hl0 : 2 < fs.length) (hd : decode cc pc = .ok (.putfield 18, 3)) (k1 : J ws2 lv (pc + 3) st) : J ws lv pc (.int x :: .ref a :: st) := k_put (ty := .int) hJ q0 he 2 hws rfl inlX0 tyX0 tyX0_ok nmX0 (by decide) fl_X0_18 rfl (by decide +kernel) rfl rfl hl0 hd k1
theorem fl_X0_21 : Cond.fieldLink RX0 21 (TX0 3).1 (TX0 3).2.1 (TX0 3).2.2.1 ∈ wsL_law := inr_2 _ (List.mem_of_getElem? (i := 13) rfl)
theorem gf_X0_21 (hJ : KO l R cc RX0 nL g J) {v : Value} (q0 : Nat) (he : ws[q0]? = some (a, .inr (0, fs))) (hv : fs[3]? = some v) (hd : decode cc pc = .ok (.getfield 21, 3)) (k1 : J ws lv (pc + 3) (v :: st)) : J ws lv pc (.ref a :: st) := k_get hJ q0 he 3 hv rfl inlX0 (by decide) fl_X0_21 hd k1
theorem pf_X0_21 (hJ : KO l R cc RX0 nL g J) {x : Int32} (q0 : Nat) (he : ws[q0]? = some (a, .inr (0, fs))) (hws : ws.set q0 (a, .inr (0, fs.set 3 (.int x))) = ws2) (hl0 : 3 < fs.length) (hd : decode cc pc = .ok (.putfield 21, 3)) (k1 : J ws2 lv (pc + 3) st) : J ws lv pc (.int x :: .ref a :: st) := k_put (ty := .int) hJ q0 he 3 hws rfl inlX0 tyX0 tyX0_ok nmX0 (by decide) fl_X0_21 rfl (by decide +kernel) rfl rfl hl0 hd k1
theorem fl_X0_24 : Cond.fieldLink RX0 24 (TX0 4).1 (TX0 4).2.1 (TX0 4).2.2.1 ∈ wsL_law := inr_2 _ (List.mem_of_getElem? (i := 14) rfl)
theorem gf_X0_24 (hJ : KO l R cc RX0 nL g J) {v : Value} (q0 : Nat) (he : ws[q0]? = some (a, .inr (0, fs))) (hv : fs[4]? = some v) (hd : decode cc pc = .ok (.getfield 24, 3)) (k1 : J ws lv (pc + 3) (v :: st)) : J ws lv pc (.ref a :: st) := k_get hJ q0 he 4 hv rfl inlX0 (by decide) fl_X0_24 hd k1
theorem fl_X0_28 : Cond.fieldLink RX0 28 (TX0 5).1 (TX0 5).2.1 (TX0 5).2.2.1 ∈ wsL_law := inr_2 _ (List.mem_of_getElem? (i := 15) rfl)
theorem gf_X0_28 (hJ : KO l R cc RX0 nL g J) {v : Value} (q0 : Nat) (he : ws[q0]? = some (a, .inr (0, fs))) (hv : fs[5]? = some v) (hd : decode cc pc = .ok (.getfield 28, 3)) (k1 : J ws lv (pc + 3) (v :: st)) : J ws lv pc (.ref a :: st) := k_get hJ q0 he 5 hv rfl inlX0 (by decide) fl_X0_28 hd k1
theorem fl_X0_31 : Cond.fieldLink RX0 31 (TX0 6).1 (TX0 6).2.1 (TX0 6).2.2.1 ∈ wsL_law := inr_2 _ (List.mem_of_getElem? (i := 16) rfl)
theorem gf_X0_31 (hJ : KO l R cc RX0 nL g J) {v : Value} (q0 : Nat) (he : ws[q0]? = some (a, .inr (0, fs))) (hv : fs[6]? = some v) (hd : decode cc pc = .ok (.getfield 31, 3)) (k1 : J ws lv (pc + 3) (v :: st)) : J ws lv pc (.ref a :: st) := k_get hJ q0 he 6 hv rfl inlX0 (by decide) fl_X0_31 hd k1
theorem fl_X0_34 : Cond.fieldLink RX0 34 (TX0 7).1 (TX0 7).2.1 (TX0 7).2.2.1 ∈ wsL_law := inr_2 _ (List.mem_of_getElem? (i := 17) rfl)
theorem gf_X0_34 (hJ : KO l R cc RX0 nL g J) {v : Value} (q0 : Nat) (he : ws[q0]? = some (a, .inr (0, fs))) (hv : fs[7]? = some v) (hd : decode cc pc = .ok (.getfield 34, 3)) (k1 : J ws lv (pc + 3) (v :: st)) : J ws lv pc (.ref a :: st) := k_get hJ q0 he 7 hv rfl inlX0 (by decide) fl_X0_34 hd k1
theorem fl_X0_39 : Cond.fieldLink RX0 39 (TX0 8).1 (TX0 8).2.1 (TX0 8).2.2.1 ∈ wsL_law := inr_2 _ (List.mem_of_getElem? (i := 19) rfl)
theorem gf_X0_39 (hJ : KO l R cc RX0 nL g J) {v : Value} (q0 : Nat) (he : ws[q0]? = some (a, .inr (0, fs))) (hv : fs[8]? = some v) (hd : decode cc pc = .ok (.getfield 39, 3)) (k1 : J ws lv (pc + 3) (v :: st)) : J ws lv pc (.ref a :: st) := k_get hJ q0 he 8 hv rfl inlX0 (by decide) fl_X0_39 hd k1
theorem fl_X0_42 : Cond.fieldLink RX0 42 (TX0 9).1 (TX0 9).2.1 (TX0 9).2.2.1 ∈ wsL_law := inr_2 _ (List.mem_of_getElem? (i := 20) rfl)
theorem gf_X0_42 (hJ : KO l R cc RX0 nL g J) {v : Value} (q0 : Nat) (he : ws[q0]? = some (a, .inr (0, fs))) (hv : fs[9]? = some v) (hd : decode cc pc = .ok (.getfield 42, 3)) (k1 : J ws lv (pc + 3) (v :: st)) : J ws lv pc (.ref a :: st) := k_get hJ q0 he 9 hv rfl inlX0 (by decide) fl_X0_42 hd k1
theorem fl_X1_9 : Cond.fieldLink RX1 9 (TX1 0).1 (TX1 0).2.1 (TX1 0).2.2.1 ∈ wsL_law := inr_3 _ (List.mem_of_getElem? (i := 11) rfl)
theorem gf_X1_9 (hJ : KO l R cc RX1 nL g J) {v : Value} (q0 : Nat) (he : ws[q0]? = some (a, .inr (1, fs))) (hv : fs[0]? = some v) (hd : decode cc pc = .ok (.getfield 9, 3)) (k1 : J ws lv (pc + 3) (v :: st)) : J ws lv pc (.ref a :: st) := k_get hJ q0 he 0 hv rfl inlX1 (by decide) fl_X1_9 hd k1
theorem pf_X1_9 (hJ : KO l R cc RX1 nL g J) {x : Int32} (q0 : Nat) (he : ws[q0]? = some (a, .inr (1, fs))) (hws : ws.set q0 (a, .inr (1, fs.set 0 (.int x))) = ws2) (hl0 : 0 < fs.length) (hd : decode cc pc = .ok (.putfield 9, 3)) (k1 : J ws2 lv (pc + 3) st) : J ws lv pc (.int x :: .ref a :: st) := k_put (ty := .int) hJ q0 he 0 hws rfl inlX1 tyX1 tyX1_ok nmX1 (by decide) fl_X1_9 rfl (by decide +kernel) rfl rfl hl0 hd k1
theorem fl_X1_15 : Cond.fieldLink RX1 15 (TX1 1).1 (TX1 1).2.1 (TX1 1).2.2.1 ∈ wsL_law := inr_3 _ (List.mem_of_getElem? (i := 12) rfl)
theorem gf_X1_15 (hJ : KO l R cc RX1 nL g J) {v : Value} (q0 : Nat) (he : ws[q0]? = some (a, .inr (1, fs))) (hv : fs[1]? = some v) (hd : decode cc pc = .ok (.getfield 15, 3)) (k1 : J ws lv (pc + 3) (v :: st)) : J ws lv pc (.ref a :: st) := k_get hJ q0 he 1 hv rfl inlX1 (by decide) fl_X1_15 hd k1
theorem pf_X1_15 (hJ : KO l R cc RX1 nL g J) {x : Int32} (q0 : Nat) (he : ws[q0]? = some (a, .inr (1, fs))) (hws : ws.set q0 (a, .inr (1, fs.set 1 (.int x))) = ws2) (hl0 : 1 < fs.length) (hd : decode cc pc = .ok (.putfield 15, 3)) (k1 : J ws2 lv (pc + 3) st) : J ws lv pc (.int x :: .ref a :: st) := k_put (ty := .int) hJ q0 he 1 hws rfl inlX1 tyX1 tyX1_ok nmX1 (by decide) fl_X1_15 rfl (by decide +kernel) rfl rfl hl0 hd k1
theorem fl_X1_18 : Cond.fieldLink RX1 18 (TX1 2).1 (TX1 2).2.1 (TX1 2).2.2.1 ∈ wsL_law := inr_3 _ (List.mem_of_getElem? (i := 14) rfl)
theorem gf_X1_18 (hJ : KO l R cc RX1 nL g J) {v : Value} (q0 : Nat) (he : ws[q0]? = some (a, .inr (1, fs))) (hv : fs[2]? = some v) (hd : decode cc pc = .ok (.getfield 18, 3)) (k1 : J ws lv (pc + 3) (v :: st)) : J ws lv pc (.ref a :: st) := k_get hJ q0 he 2 hv rfl inlX1 (by decide) fl_X1_18 hd k1
theorem fl_X2_9 : Cond.fieldLink RX2 9 (TX2 0).1 (TX2 0).2.1 (TX2 0).2.2.1 ∈ wsL_law := inr_3 _ (List.mem_of_getElem? (i := 1) rfl)
theorem gf_X2_9 (hJ : KO l R cc RX2 nL g J) {v : Value} (q0 : Nat) (he : ws[q0]? = some (a, .inr (2, fs))) (hv : fs[0]? = some v) (hd : decode cc pc = .ok (.getfield 9, 3)) (k1 : J ws lv (pc + 3) (v :: st)) : J ws lv pc (.ref a :: st) := k_get hJ q0 he 0 hv rfl inlX2 (by decide) fl_X2_9 hd k1
theorem pf_X2_9 (hJ : KO l R cc RX2 nL g J) {x : Int32} (q0 : Nat) (he : ws[q0]? = some (a, .inr (2, fs))) (hws : ws.set q0 (a, .inr (2, fs.set 0 (.int x))) = ws2) (hl0 : 0 < fs.length) (hd : decode cc pc = .ok (.putfield 9, 3)) (k1 : J ws2 lv (pc + 3) st) : J ws lv pc (.int x :: .ref a :: st) := k_put (ty := .int) hJ q0 he 0 hws rfl inlX2 tyX2 tyX2_ok nmX2 (by decide) fl_X2_9 rfl (by decide +kernel) rfl rfl hl0 hd k1
theorem fl_X2_15 : Cond.fieldLink RX2 15 (TX2 1).1 (TX2 1).2.1 (TX2 1).2.2.1 ∈ wsL_law := inr_3 _ (List.mem_of_getElem? (i := 2) rfl)
theorem gf_X2_15 (hJ : KO l R cc RX2 nL g J) {v : Value} (q0 : Nat) (he : ws[q0]? = some (a, .inr (2, fs))) (hv : fs[1]? = some v) (hd : decode cc pc = .ok (.getfield 15, 3)) (k1 : J ws lv (pc + 3) (v :: st)) : J ws lv pc (.ref a :: st) := k_get hJ q0 he 1 hv rfl inlX2 (by decide) fl_X2_15 hd k1
theorem fl_X2_19 : Cond.fieldLink RX2 19 (TX2 2).1 (TX2 2).2.1 (TX2 2).2.2.1 ∈ wsL_law := inr_3 _ (List.mem_of_getElem? (i := 3) rfl)
theorem gf_X2_19 (hJ : KO l R cc RX2 nL g J) {v : Value} (q0 : Nat) (he : ws[q0]? = some (a, .inr (2, fs))) (hv : fs[2]? = some v) (hd : decode cc pc = .ok (.getfield 19, 3)) (k1 : J ws lv (pc + 3) (v :: st)) : J ws lv pc (.ref a :: st) := k_get hJ q0 he 2 hv rfl inlX2 (by decide) fl_X2_19 hd k1
theorem pf_X2_19 (hJ : KO l R cc RX2 nL g J) {x : Int32} (q0 : Nat) (he : ws[q0]? = some (a, .inr (2, fs))) (hws : ws.set q0 (a, .inr (2, fs.set 2 (.int x))) = ws2) (hl0 : 2 < fs.length) (hd : decode cc pc = .ok (.putfield 19, 3)) (k1 : J ws2 lv (pc + 3) st) : J ws lv pc (.int x :: .ref a :: st) := k_put (ty := .int) hJ q0 he 2 hws rfl inlX2 tyX2 tyX2_ok nmX2 (by decide) fl_X2_19 rfl (by decide +kernel) rfl rfl hl0 hd k1
theorem fl_X2_22 : Cond.fieldLink RX2 22 (TX2 3).1 (TX2 3).2.1 (TX2 3).2.2.1 ∈ wsL_law := inr_3 _ (List.mem_of_getElem? (i := 4) rfl)
theorem gf_X2_22 (hJ : KO l R cc RX2 nL g J) {v : Value} (q0 : Nat) (he : ws[q0]? = some (a, .inr (2, fs))) (hv : fs[3]? = some v) (hd : decode cc pc = .ok (.getfield 22, 3)) (k1 : J ws lv (pc + 3) (v :: st)) : J ws lv pc (.ref a :: st) := k_get hJ q0 he 3 hv rfl inlX2 (by decide) fl_X2_22 hd k1
theorem pf_X2_22 (hJ : KO l R cc RX2 nL g J) {x : Int32} (q0 : Nat) (he : ws[q0]? = some (a, .inr (2, fs))) (hws : ws.set q0 (a, .inr (2, fs.set 3 (.int x))) = ws2) (hl0 : 3 < fs.length) (hd : decode cc pc = .ok (.putfield 22, 3)) (k1 : J ws2 lv (pc + 3) st) : J ws lv pc (.int x :: .ref a :: st) := k_put (ty := .int) hJ q0 he 3 hws rfl inlX2 tyX2 tyX2_ok nmX2 (by decide) fl_X2_22 rfl (by decide +kernel) rfl rfl hl0 hd k1
theorem fl_X2_25 : Cond.fieldLink RX2 25 (TX2 4).1 (TX2 4).2.1 (TX2 4).2.2.1 ∈ wsL_law := inr_3 _ (List.mem_of_getElem? (i := 5) rfl)
theorem gf_X2_25 (hJ : KO l R cc RX2 nL g J) {v : Value} (q0 : Nat) (he : ws[q0]? = some (a, .inr (2, fs))) (hv : fs[4]? = some v) (hd : decode cc pc = .ok (.getfield 25, 3)) (k1 : J ws lv (pc + 3) (v :: st)) : J ws lv pc (.ref a :: st) := k_get hJ q0 he 4 hv rfl inlX2 (by decide) fl_X2_25 hd k1
theorem pf_X2_25 (hJ : KO l R cc RX2 nL g J) {x : Int32} (q0 : Nat) (he : ws[q0]? = some (a, .inr (2, fs))) (hws : ws.set q0 (a, .inr (2, fs.set 4 (.int x))) = ws2) (hl0 : 4 < fs.length) (hd : decode cc pc = .ok (.putfield 25, 3)) (k1 : J ws2 lv (pc + 3) st) : J ws lv pc (.int x :: .ref a :: st) := k_put (ty := .int) hJ q0 he 4 hws rfl inlX2 tyX2 tyX2_ok nmX2 (by decide) fl_X2_25 rfl (by decide +kernel) rfl rfl hl0 hd k1
theorem fl_X2_28 : Cond.fieldLink RX2 28 (TX2 5).1 (TX2 5).2.1 (TX2 5).2.2.1 ∈ wsL_law := inr_3 _ (List.mem_of_getElem? (i := 6) rfl)
theorem gf_X2_28 (hJ : KO l R cc RX2 nL g J) {v : Value} (q0 : Nat) (he : ws[q0]? = some (a, .inr (2, fs))) (hv : fs[5]? = some v) (hd : decode cc pc = .ok (.getfield 28, 3)) (k1 : J ws lv (pc + 3) (v :: st)) : J ws lv pc (.ref a :: st) := k_get hJ q0 he 5 hv rfl inlX2 (by decide) fl_X2_28 hd k1
theorem pf_X2_28 (hJ : KO l R cc RX2 nL g J) {x : Int32} (q0 : Nat) (he : ws[q0]? = some (a, .inr (2, fs))) (hws : ws.set q0 (a, .inr (2, fs.set 5 (.int x))) = ws2) (hl0 : 5 < fs.length) (hd : decode cc pc = .ok (.putfield 28, 3)) (k1 : J ws2 lv (pc + 3) st) : J ws lv pc (.int x :: .ref a :: st) := k_put (ty := .int) hJ q0 he 5 hws rfl inlX2 tyX2 tyX2_ok nmX2 (by decide) fl_X2_28 rfl (by decide +kernel) rfl rfl hl0 hd k1
theorem fl_X2_48 : Cond.fieldLink RX2 48 (TX0 0).1 (TX0 0).2.1 (TX0 0).2.2.1 ∈ wsL_law := inr_28 _ (List.mem_of_getElem? (i := 19) rfl)
theorem gf_X2_48 (hJ : KO l R cc RX2 nL g J) {v : Value} (q0 : Nat) (he : ws[q0]? = some (a, .inr (0, fs))) (hv : fs[0]? = some v) (hd : decode cc pc = .ok (.getfield 48, 3)) (k1 : J ws lv (pc + 3) (v :: st)) : J ws lv pc (.ref a :: st) := k_get hJ q0 he 0 hv rfl inlX0 (by decide) fl_X2_48 hd k1
theorem pf_X2_48 (hJ : KO l R cc RX2 nL g J) {x : Int32} (q0 : Nat) (he : ws[q0]? = some (a, .inr (0, fs))) (hws : ws.set q0 (a, .inr (0, fs.set 0 (.int x))) = ws2) (hl0 : 0 < fs.length) (hd : decode cc pc = .ok (.putfield 48, 3)) (k1 : J ws2 lv (pc + 3) st) : J ws lv pc (.int x :: .ref a :: st) := k_put (ty := .int) hJ q0 he 0 hws rfl inlX0 tyX0 tyX0_ok nmX0 (by decide) fl_X2_48 rfl (by decide +kernel) rfl rfl hl0 hd k1
theorem fl_X2_54 : Cond.fieldLink RX2 54 (TX0 1).1 (TX0 1).2.1 (TX0 1).2.2.1 ∈ wsL_law := inr_28 _ (List.mem_of_getElem? (i := 20) rfl)
theorem gf_X2_54 (hJ : KO l R cc RX2 nL g J) {v : Value} (q0 : Nat) (he : ws[q0]? = some (a, .inr (0, fs))) (hv : fs[1]? = some v) (hd : decode cc pc = .ok (.getfield 54, 3)) (k1 : J ws lv (pc + 3) (v :: st)) : J ws lv pc (.ref a :: st) := k_get hJ q0 he 1 hv rfl inlX0 (by decide) fl_X2_54 hd k1
theorem pf_X2_54 (hJ : KO l R cc RX2 nL g J) {x : Int32} (q0 : Nat) (he : ws[q0]? = some (a, .inr (0, fs))) (hws : ws.set q0 (a, .inr (0, fs.set 1 (.int x))) = ws2) (hl0 : 1 < fs.length) (hd : decode cc pc = .ok (.putfield 54, 3)) (k1 : J ws2 lv (pc + 3) st) : J ws lv pc (.int x :: .ref a :: st) := k_put (ty := .int) hJ q0 he 1 hws rfl inlX0 tyX0 tyX0_ok nmX0 (by decide) fl_X2_54 rfl (by decide +kernel) rfl rfl hl0 hd k1
theorem fl_X2_63 : Cond.fieldLink RX2 63 (TX0 3).1 (TX0 3).2.1 (TX0 3).2.2.1 ∈ wsL_law := inr_31 _ (List.mem_of_getElem? (i := 10) rfl)
theorem gf_X2_63 (hJ : KO l R cc RX2 nL g J) {v : Value} (q0 : Nat) (he : ws[q0]? = some (a, .inr (0, fs))) (hv : fs[3]? = some v) (hd : decode cc pc = .ok (.getfield 63, 3)) (k1 : J ws lv (pc + 3) (v :: st)) : J ws lv pc (.ref a :: st) := k_get hJ q0 he 3 hv rfl inlX0 (by decide) fl_X2_63 hd k1
theorem fl_X2_74 : Cond.fieldLink RX2 74 (TX0 6).1 (TX0 6).2.1 (TX0 6).2.2.1 ∈ wsL_law := inr_31 _ (List.mem_of_getElem? (i := 11) rfl)
theorem gf_X2_74 (hJ : KO l R cc RX2 nL g J) {v : Value} (q0 : Nat) (he : ws[q0]? = some (a, .inr (0, fs))) (hv : fs[6]? = some v) (hd : decode cc pc = .ok (.getfield 74, 3)) (k1 : J ws lv (pc + 3) (v :: st)) : J ws lv pc (.ref a :: st) := k_get hJ q0 he 6 hv rfl inlX0 (by decide) fl_X2_74 hd k1
theorem fl_X2_79 : Cond.fieldLink RX2 79 (TX0 7).1 (TX0 7).2.1 (TX0 7).2.2.1 ∈ wsL_law := inr_31 _ (List.mem_of_getElem? (i := 12) rfl)
theorem gf_X2_79 (hJ : KO l R cc RX2 nL g J) {v : Value} (q0 : Nat) (he : ws[q0]? = some (a, .inr (0, fs))) (hv : fs[7]? = some v) (hd : decode cc pc = .ok (.getfield 79, 3)) (k1 : J ws lv (pc + 3) (v :: st)) : J ws lv pc (.ref a :: st) := k_get hJ q0 he 7 hv rfl inlX0 (by decide) fl_X2_79 hd k1
theorem fl_X2_88 : Cond.fieldLink RX2 88 (TX0 8).1 (TX0 8).2.1 (TX0 8).2.2.1 ∈ wsL_law := inr_32 _ (List.mem_of_getElem? (i := 1) rfl)
theorem gf_X2_88 (hJ : KO l R cc RX2 nL g J) {v : Value} (q0 : Nat) (he : ws[q0]? = some (a, .inr (0, fs))) (hv : fs[8]? = some v) (hd : decode cc pc = .ok (.getfield 88, 3)) (k1 : J ws lv (pc + 3) (v :: st)) : J ws lv pc (.ref a :: st) := k_get hJ q0 he 8 hv rfl inlX0 (by decide) fl_X2_88 hd k1
theorem fl_X3_10 : Cond.fieldLink RX3 10 (TX3 0).1 (TX3 0).2.1 (TX3 0).2.2.1 ∈ wsL_law := inr_1 _ (List.mem_of_getElem? (i := 16) rfl)
theorem gf_X3_10 (hJ : KO l R cc RX3 nL g J) {v : Value} (q0 : Nat) (he : ws[q0]? = some (a, .inr (3, fs))) (hv : fs[0]? = some v) (hd : decode cc pc = .ok (.getfield 10, 3)) (k1 : J ws lv (pc + 3) (v :: st)) : J ws lv pc (.ref a :: st) := k_get hJ q0 he 0 hv rfl inlX3 (by decide) fl_X3_10 hd k1
theorem fl_X3_16 : Cond.fieldLink RX3 16 (TX3 1).1 (TX3 1).2.1 (TX3 1).2.2.1 ∈ wsL_law := inr_1 _ (List.mem_of_getElem? (i := 17) rfl)
theorem gf_X3_16 (hJ : KO l R cc RX3 nL g J) {v : Value} (q0 : Nat) (he : ws[q0]? = some (a, .inr (3, fs))) (hv : fs[1]? = some v) (hd : decode cc pc = .ok (.getfield 16, 3)) (k1 : J ws lv (pc + 3) (v :: st)) : J ws lv pc (.ref a :: st) := k_get hJ q0 he 1 hv rfl inlX3 (by decide) fl_X3_16 hd k1
theorem fl_X3_19 : Cond.fieldLink RX3 19 (TX3 2).1 (TX3 2).2.1 (TX3 2).2.2.1 ∈ wsL_law := inr_1 _ (List.mem_of_getElem? (i := 18) rfl)
theorem gf_X3_19 (hJ : KO l R cc RX3 nL g J) {v : Value} (q0 : Nat) (he : ws[q0]? = some (a, .inr (3, fs))) (hv : fs[2]? = some v) (hd : decode cc pc = .ok (.getfield 19, 3)) (k1 : J ws lv (pc + 3) (v :: st)) : J ws lv pc (.ref a :: st) := k_get hJ q0 he 2 hv rfl inlX3 (by decide) fl_X3_19 hd k1
theorem fl_X3_25 : Cond.fieldLink RX3 25 (TX3 3).1 (TX3 3).2.1 (TX3 3).2.2.1 ∈ wsL_law := inr_1 _ (List.mem_of_getElem? (i := 22) rfl)
theorem gf_X3_25 (hJ : KO l R cc RX3 nL g J) {v : Value} (q0 : Nat) (he : ws[q0]? = some (a, .inr (3, fs))) (hv : fs[3]? = some v) (hd : decode cc pc = .ok (.getfield 25, 3)) (k1 : J ws lv (pc + 3) (v :: st)) : J ws lv pc (.ref a :: st) := k_get hJ q0 he 3 hv rfl inlX3 (by decide) fl_X3_25 hd k1
theorem fl_X3_31 : Cond.fieldLink RX3 31 (TX3 4).1 (TX3 4).2.1 (TX3 4).2.2.1 ∈ wsL_law := inr_2 _ (List.mem_of_getElem? (i := 0) rfl)
theorem gf_X3_31 (hJ : KO l R cc RX3 nL g J) {v : Value} (q0 : Nat) (he : ws[q0]? = some (a, .inr (3, fs))) (hv : fs[4]? = some v) (hd : decode cc pc = .ok (.getfield 31, 3)) (k1 : J ws lv (pc + 3) (v :: st)) : J ws lv pc (.ref a :: st) := k_get hJ q0 he 4 hv rfl inlX3 (by decide) fl_X3_31 hd k1
theorem fl_X3_36 : Cond.fieldLink RX3 36 (TX3 5).1 (TX3 5).2.1 (TX3 5).2.2.1 ∈ wsL_law := inr_2 _ (List.mem_of_getElem? (i := 4) rfl)
theorem gf_X3_36 (hJ : KO l R cc RX3 nL g J) {v : Value} (q0 : Nat) (he : ws[q0]? = some (a, .inr (3, fs))) (hv : fs[5]? = some v) (hd : decode cc pc = .ok (.getfield 36, 3)) (k1 : J ws lv (pc + 3) (v :: st)) : J ws lv pc (.ref a :: st) := k_get hJ q0 he 5 hv rfl inlX3 (by decide) fl_X3_36 hd k1
theorem fl_X3_40 : Cond.fieldLink RX3 40 (TX3 6).1 (TX3 6).2.1 (TX3 6).2.2.1 ∈ wsL_law := inr_2 _ (List.mem_of_getElem? (i := 5) rfl)
theorem gf_X3_40 (hJ : KO l R cc RX3 nL g J) {v : Value} (q0 : Nat) (he : ws[q0]? = some (a, .inr (3, fs))) (hv : fs[6]? = some v) (hd : decode cc pc = .ok (.getfield 40, 3)) (k1 : J ws lv (pc + 3) (v :: st)) : J ws lv pc (.ref a :: st) := k_get hJ q0 he 6 hv rfl inlX3 (by decide) fl_X3_40 hd k1
theorem pf_X3_40 (hJ : KO l R cc RX3 nL g J) {x : Int32} (q0 : Nat) (he : ws[q0]? = some (a, .inr (3, fs))) (hws : ws.set q0 (a, .inr (3, fs.set 6 (.int x))) = ws2) (hl0 : 6 < fs.length) (hx : narrow .boolean (.int x) = .int x) (hf : fits .boolean (.int x) = true) (hd : decode cc pc = .ok (.putfield 40, 3)) (k1 : J ws2 lv (pc + 3) st) : J ws lv pc (.int x :: .ref a :: st) := k_put (ty := .boolean) hJ q0 he 6 hws rfl inlX3 tyX3 tyX3_ok nmX3 (by decide) fl_X3_40 rfl (by decide +kernel) hx hf hl0 hd k1
theorem fl_X3_48 : Cond.fieldLink RX3 48 (TX0 0).1 (TX0 0).2.1 (TX0 0).2.2.1 ∈ wsL_law := inr_4 _ (List.mem_of_getElem? (i := 10) rfl)
theorem gf_X3_48 (hJ : KO l R cc RX3 nL g J) {v : Value} (q0 : Nat) (he : ws[q0]? = some (a, .inr (0, fs))) (hv : fs[0]? = some v) (hd : decode cc pc = .ok (.getfield 48, 3)) (k1 : J ws lv (pc + 3) (v :: st)) : J ws lv pc (.ref a :: st) := k_get hJ q0 he 0 hv rfl inlX0 (by decide) fl_X3_48 hd k1
theorem pf_X3_48 (hJ : KO l R cc RX3 nL g J) {x : Int32} (q0 : Nat) (he : ws[q0]? = some (a, .inr (0, fs))) (hws : ws.set q0 (a, .inr (0, fs.set 0 (.int x))) = ws2) (hl0 : 0 < fs.length) (hd : decode cc pc = .ok (.putfield 48, 3)) (k1 : J ws2 lv (pc + 3) st) : J ws lv pc (.int x :: .ref a :: st) := k_put (ty := .int) hJ q0 he 0 hws rfl inlX0 tyX0 tyX0_ok nmX0 (by decide) fl_X3_48 rfl (by decide +kernel) rfl rfl hl0 hd k1
theorem fl_X3_52 : Cond.fieldLink RX3 52 (TX0 1).1 (TX0 1).2.1 (TX0 1).2.2.1 ∈ wsL_law := inr_4 _ (List.mem_of_getElem? (i := 11) rfl)
theorem gf_X3_52 (hJ : KO l R cc RX3 nL g J) {v : Value} (q0 : Nat) (he : ws[q0]? = some (a, .inr (0, fs))) (hv : fs[1]? = some v) (hd : decode cc pc = .ok (.getfield 52, 3)) (k1 : J ws lv (pc + 3) (v :: st)) : J ws lv pc (.ref a :: st) := k_get hJ q0 he 1 hv rfl inlX0 (by decide) fl_X3_52 hd k1
theorem pf_X3_52 (hJ : KO l R cc RX3 nL g J) {x : Int32} (q0 : Nat) (he : ws[q0]? = some (a, .inr (0, fs))) (hws : ws.set q0 (a, .inr (0, fs.set 1 (.int x))) = ws2) (hl0 : 1 < fs.length) (hd : decode cc pc = .ok (.putfield 52, 3)) (k1 : J ws2 lv (pc + 3) st) : J ws lv pc (.int x :: .ref a :: st) := k_put (ty := .int) hJ q0 he 1 hws rfl inlX0 tyX0 tyX0_ok nmX0 (by decide) fl_X3_52 rfl (by decide +kernel) rfl rfl hl0 hd k1
theorem fl_X3_67 : Cond.fieldLink RX3 67 (TX0 3).1 (TX0 3).2.1 (TX0 3).2.2.1 ∈ wsL_law := inr_5 _ (List.mem_of_getElem? (i := 18) rfl)
theorem gf_X3_67 (hJ : KO l R cc RX3 nL g J) {v : Value} (q0 : Nat) (he : ws[q0]? = some (a, .inr (0, fs))) (hv : fs[3]? = some v) (hd : decode cc pc = .ok (.getfield 67, 3)) (k1 : J ws lv (pc + 3) (v :: st)) : J ws lv pc (.ref a :: st) := k_get hJ q0 he 3 hv rfl inlX0 (by decide) fl_X3_67 hd k1
theorem fl_X3_78 : Cond.fieldLink RX3 78 (TX0 4).1 (TX0 4).2.1 (TX0 4).2.2.1 ∈ wsL_law := inr_7 _ (List.mem_of_getElem? (i := 6) rfl)
theorem gf_X3_78 (hJ : KO l R cc RX3 nL g J) {v : Value} (q0 : Nat) (he : ws[q0]? = some (a, .inr (0, fs))) (hv : fs[4]? = some v) (hd : decode cc pc = .ok (.getfield 78, 3)) (k1 : J ws lv (pc + 3) (v :: st)) : J ws lv pc (.ref a :: st) := k_get hJ q0 he 4 hv rfl inlX0 (by decide) fl_X3_78 hd k1
theorem fl_X3_81 : Cond.fieldLink RX3 81 (TX0 5).1 (TX0 5).2.1 (TX0 5).2.2.1 ∈ wsL_law := inr_7 _ (List.mem_of_getElem? (i := 7) rfl)
theorem gf_X3_81 (hJ : KO l R cc RX3 nL g J) {v : Value} (q0 : Nat) (he : ws[q0]? = some (a, .inr (0, fs))) (hv : fs[5]? = some v) (hd : decode cc pc = .ok (.getfield 81, 3)) (k1 : J ws lv (pc + 3) (v :: st)) : J ws lv pc (.ref a :: st) := k_get hJ q0 he 5 hv rfl inlX0 (by decide) fl_X3_81 hd k1
theorem fl_X3_84 : Cond.fieldLink RX3 84 (TX0 6).1 (TX0 6).2.1 (TX0 6).2.2.1 ∈ wsL_law := inr_7 _ (List.mem_of_getElem? (i := 8) rfl)
theorem gf_X3_84 (hJ : KO l R cc RX3 nL g J) {v : Value} (q0 : Nat) (he : ws[q0]? = some (a, .inr (0, fs))) (hv : fs[6]? = some v) (hd : decode cc pc = .ok (.getfield 84, 3)) (k1 : J ws lv (pc + 3) (v :: st)) : J ws lv pc (.ref a :: st) := k_get hJ q0 he 6 hv rfl inlX0 (by decide) fl_X3_84 hd k1
theorem fl_X3_87 : Cond.fieldLink RX3 87 (TX0 7).1 (TX0 7).2.1 (TX0 7).2.2.1 ∈ wsL_law := inr_7 _ (List.mem_of_getElem? (i := 9) rfl)
theorem gf_X3_87 (hJ : KO l R cc RX3 nL g J) {v : Value} (q0 : Nat) (he : ws[q0]? = some (a, .inr (0, fs))) (hv : fs[7]? = some v) (hd : decode cc pc = .ok (.getfield 87, 3)) (k1 : J ws lv (pc + 3) (v :: st)) : J ws lv pc (.ref a :: st) := k_get hJ q0 he 7 hv rfl inlX0 (by decide) fl_X3_87 hd k1
theorem fl_X3_103 : Cond.fieldLink RX3 103 (TX0 8).1 (TX0 8).2.1 (TX0 8).2.2.1 ∈ wsL_law := inr_9 _ (List.mem_of_getElem? (i := 22) rfl)
theorem gf_X3_103 (hJ : KO l R cc RX3 nL g J) {v : Value} (q0 : Nat) (he : ws[q0]? = some (a, .inr (0, fs))) (hv : fs[8]? = some v) (hd : decode cc pc = .ok (.getfield 103, 3)) (k1 : J ws lv (pc + 3) (v :: st)) : J ws lv pc (.ref a :: st) := k_get hJ q0 he 8 hv rfl inlX0 (by decide) fl_X3_103 hd k1
theorem fl_X3_142 : Cond.fieldLink RX3 142 (TX0 2).1 (TX0 2).2.1 (TX0 2).2.2.1 ∈ wsL_law := inr_18 _ (List.mem_of_getElem? (i := 2) rfl)
theorem gf_X3_142 (hJ : KO l R cc RX3 nL g J) {v : Value} (q0 : Nat) (he : ws[q0]? = some (a, .inr (0, fs))) (hv : fs[2]? = some v) (hd : decode cc pc = .ok (.getfield 142, 3)) (k1 : J ws lv (pc + 3) (v :: st)) : J ws lv pc (.ref a :: st) := k_get hJ q0 he 2 hv rfl inlX0 (by decide) fl_X3_142 hd k1
theorem fl_X3_183 : Cond.fieldLink RX3 183 (TX2 0).1 (TX2 0).2.1 (TX2 0).2.2.1 ∈ wsL_law := inr_26 _ (List.mem_of_getElem? (i := 16) rfl)
theorem gf_X3_183 (hJ : KO l R cc RX3 nL g J) {v : Value} (q0 : Nat) (he : ws[q0]? = some (a, .inr (2, fs))) (hv : fs[0]? = some v) (hd : decode cc pc = .ok (.getfield 183, 3)) (k1 : J ws lv (pc + 3) (v :: st)) : J ws lv pc (.ref a :: st) := k_get hJ q0 he 0 hv rfl inlX2 (by decide) fl_X3_183 hd k1
theorem pf_X3_183 (hJ : KO l R cc RX3 nL g J) {x : Int32} (q0 : Nat) (he : ws[q0]? = some (a, .inr (2, fs))) (hws : ws.set q0 (a, .inr (2, fs.set 0 (.int x))) = ws2) (hl0 : 0 < fs.length) (hd : decode cc pc = .ok (.putfield 183, 3)) (k1 : J ws2 lv (pc + 3) st) : J ws lv pc (.int x :: .ref a :: st) := k_put (ty := .int) hJ q0 he 0 hws rfl inlX2 tyX2 tyX2_ok nmX2 (by decide) fl_X3_183 rfl (by decide +kernel) rfl rfl hl0 hd k1
theorem fl_X3_201 : Cond.fieldLink RX3 201 (TX1 1).1 (TX1 1).2.1 (TX1 1).2.2.1 ∈ wsL_law := inr_35 _ (List.mem_of_getElem? (i := 7) rfl)
theorem gf_X3_201 (hJ : KO l R cc RX3 nL g J) {v : Value} (q0 : Nat) (he : ws[q0]? = some (a, .inr (1, fs))) (hv : fs[1]? = some v) (hd : decode cc pc = .ok (.getfield 201, 3)) (k1 : J ws lv (pc + 3) (v :: st)) : J ws lv pc (.ref a :: st) := k_get hJ q0 he 1 hv rfl inlX1 (by decide) fl_X3_201 hd k1
theorem fl_X3_207 : Cond.fieldLink RX3 207 (TX1 2).1 (TX1 2).2.1 (TX1 2).2.2.1 ∈ wsL_law := inr_36 _ (List.mem_of_getElem? (i := 4) rfl)
theorem gf_X3_207 (hJ : KO l R cc RX3 nL g J) {v : Value} (q0 : Nat) (he : ws[q0]? = some (a, .inr (1, fs))) (hv : fs[2]? = some v) (hd : decode cc pc = .ok (.getfield 207, 3)) (k1 : J ws lv (pc + 3) (v :: st)) : J ws lv pc (.ref a :: st) := k_get hJ q0 he 2 hv rfl inlX1 (by decide) fl_X3_207 hd k1
theorem fl_X3_215 : Cond.fieldLink RX3 215 (TX1 0).1 (TX1 0).2.1 (TX1 0).2.2.1 ∈ wsL_law := inr_36 _ (List.mem_of_getElem? (i := 9) rfl)
theorem gf_X3_215 (hJ : KO l R cc RX3 nL g J) {v : Value} (q0 : Nat) (he : ws[q0]? = some (a, .inr (1, fs))) (hv : fs[0]? = some v) (hd : decode cc pc = .ok (.getfield 215, 3)) (k1 : J ws lv (pc + 3) (v :: st)) : J ws lv pc (.ref a :: st) := k_get hJ q0 he 0 hv rfl inlX1 (by decide) fl_X3_215 hd k1
theorem fl_X4_7 : Cond.fieldLink RX4 7 (TX4 0).1 (TX4 0).2.1 (TX4 0).2.2.1 ∈ wsL_law := inr_3 _ (List.mem_of_getElem? (i := 19) rfl)
theorem gf_X4_7 (hJ : KO l R cc RX4 nL g J) {v : Value} (q0 : Nat) (he : ws[q0]? = some (a, .inr (4, fs))) (hv : fs[0]? = some v) (hd : decode cc pc = .ok (.getfield 7, 3)) (k1 : J ws lv (pc + 3) (v :: st)) : J ws lv pc (.ref a :: st) := k_get hJ q0 he 0 hv rfl inlX4 (by decide) fl_X4_7 hd k1
theorem fl_X4_13 : Cond.fieldLink RX4 13 (TX4 1).1 (TX4 1).2.1 (TX4 1).2.2.1 ∈ wsL_law := inr_3 _ (List.mem_of_getElem? (i := 20) rfl)
theorem gf_X4_13 (hJ : KO l R cc RX4 nL g J) {v : Value} (q0 : Nat) (he : ws[q0]? = some (a, .inr (4, fs))) (hv : fs[1]? = some v) (hd : decode cc pc = .ok (.getfield 13, 3)) (k1 : J ws lv (pc + 3) (v :: st)) : J ws lv pc (.ref a :: st) := k_get hJ q0 he 1 hv rfl inlX4 (by decide) fl_X4_13 hd k1
theorem fl_X4_16 : Cond.fieldLink RX4 16 (TX4 2).1 (TX4 2).2.1 (TX4 2).2.2.1 ∈ wsL_law := inr_3 _ (List.mem_of_getElem? (i := 21) rfl)
theorem gf_X4_16 (hJ : KO l R cc RX4 nL g J) {v : Value} (q0 : Nat) (he : ws[q0]? = some (a, .inr (4, fs))) (hv : fs[2]? = some v) (hd : decode cc pc = .ok (.getfield 16, 3)) (k1 : J ws lv (pc + 3) (v :: st)) : J ws lv pc (.ref a :: st) := k_get hJ q0 he 2 hv rfl inlX4 (by decide) fl_X4_16 hd k1
theorem fl_X4_19 : Cond.fieldLink RX4 19 (TX4 3).1 (TX4 3).2.1 (TX4 3).2.2.1 ∈ wsL_law := inr_3 _ (List.mem_of_getElem? (i := 22) rfl)
theorem gf_X4_19 (hJ : KO l R cc RX4 nL g J) {v : Value} (q0 : Nat) (he : ws[q0]? = some (a, .inr (4, fs))) (hv : fs[3]? = some v) (hd : decode cc pc = .ok (.getfield 19, 3)) (k1 : J ws lv (pc + 3) (v :: st)) : J ws lv pc (.ref a :: st) := k_get hJ q0 he 3 hv rfl inlX4 (by decide) fl_X4_19 hd k1
theorem fl_X4_22 : Cond.fieldLink RX4 22 (TX4 4).1 (TX4 4).2.1 (TX4 4).2.2.1 ∈ wsL_law := inr_3 _ (List.mem_of_getElem? (i := 23) rfl)
theorem gf_X4_22 (hJ : KO l R cc RX4 nL g J) {v : Value} (q0 : Nat) (he : ws[q0]? = some (a, .inr (4, fs))) (hv : fs[4]? = some v) (hd : decode cc pc = .ok (.getfield 22, 3)) (k1 : J ws lv (pc + 3) (v :: st)) : J ws lv pc (.ref a :: st) := k_get hJ q0 he 4 hv rfl inlX4 (by decide) fl_X4_22 hd k1
theorem fl_X4_25 : Cond.fieldLink RX4 25 (TX4 6).1 (TX4 6).2.1 (TX4 6).2.2.1 ∈ wsL_law := inr_4 _ (List.mem_of_getElem? (i := 0) rfl)
theorem gf_X4_25 (hJ : KO l R cc RX4 nL g J) {v : Value} (q0 : Nat) (he : ws[q0]? = some (a, .inr (4, fs))) (hv : fs[6]? = some v) (hd : decode cc pc = .ok (.getfield 25, 3)) (k1 : J ws lv (pc + 3) (v :: st)) : J ws lv pc (.ref a :: st) := k_get hJ q0 he 6 hv rfl inlX4 (by decide) fl_X4_25 hd k1
theorem fl_X4_28 : Cond.fieldLink RX4 28 (TX4 9).1 (TX4 9).2.1 (TX4 9).2.2.1 ∈ wsL_law := inr_4 _ (List.mem_of_getElem? (i := 1) rfl)
theorem gf_X4_28 (hJ : KO l R cc RX4 nL g J) {v : Value} (q0 : Nat) (he : ws[q0]? = some (a, .inr (4, fs))) (hv : fs[9]? = some v) (hd : decode cc pc = .ok (.getfield 28, 3)) (k1 : J ws lv (pc + 3) (v :: st)) : J ws lv pc (.ref a :: st) := k_get hJ q0 he 9 hv rfl inlX4 (by decide) fl_X4_28 hd k1
theorem fl_X4_31 : Cond.fieldLink RX4 31 (TX4 15).1 (TX4 15).2.1 (TX4 15).2.2.1 ∈ wsL_law := inr_4 _ (List.mem_of_getElem? (i := 2) rfl)
theorem gf_X4_31 (hJ : KO l R cc RX4 nL g J) {v : Value} (q0 : Nat) (he : ws[q0]? = some (a, .inr (4, fs))) (hv : fs[15]? = some v) (hd : decode cc pc = .ok (.getfield 31, 3)) (k1 : J ws lv (pc + 3) (v :: st)) : J ws lv pc (.ref a :: st) := k_get hJ q0 he 15 hv rfl inlX4 (by decide) fl_X4_31 hd k1
theorem fl_X4_34 : Cond.fieldLink RX4 34 (TX4 16).1 (TX4 16).2.1 (TX4 16).2.2.1 ∈ wsL_law := inr_4 _ (List.mem_of_getElem? (i := 3) rfl)
theorem gf_X4_34 (hJ : KO l R cc RX4 nL g J) {v : Value} (q0 : Nat) (he : ws[q0]? = some (a, .inr (4, fs))) (hv : fs[16]? = some v) (hd : decode cc pc = .ok (.getfield 34, 3)) (k1 : J ws lv (pc + 3) (v :: st)) : J ws lv pc (.ref a :: st) := k_get hJ q0 he 16 hv rfl inlX4 (by decide) fl_X4_34 hd k1
theorem fl_X4_37 : Cond.fieldLink RX4 37 (TX4 17).1 (TX4 17).2.1 (TX4 17).2.2.1 ∈ wsL_law := inr_4 _ (List.mem_of_getElem? (i := 4) rfl)
theorem gf_X4_37 (hJ : KO l R cc RX4 nL g J) {v : Value} (q0 : Nat) (he : ws[q0]? = some (a, .inr (4, fs))) (hv : fs[17]? = some v) (hd : decode cc pc = .ok (.getfield 37, 3)) (k1 : J ws lv (pc + 3) (v :: st)) : J ws lv pc (.ref a :: st) := k_get hJ q0 he 17 hv rfl inlX4 (by decide) fl_X4_37 hd k1
theorem fl_X4_41 : Cond.fieldLink RX4 41 (TX4 18).1 (TX4 18).2.1 (TX4 18).2.2.1 ∈ wsL_law := inr_4 _ (List.mem_of_getElem? (i := 5) rfl)
theorem gf_X4_41 (hJ : KO l R cc RX4 nL g J) {v : Value} (q0 : Nat) (he : ws[q0]? = some (a, .inr (4, fs))) (hv : fs[18]? = some v) (hd : decode cc pc = .ok (.getfield 41, 3)) (k1 : J ws lv (pc + 3) (v :: st)) : J ws lv pc (.ref a :: st) := k_get hJ q0 he 18 hv rfl inlX4 (by decide) fl_X4_41 hd k1
theorem fl_X4_177 : Cond.fieldLink RX4 177 (TX4 7).1 (TX4 7).2.1 (TX4 7).2.2.1 ∈ wsL_law := inr_25 _ (List.mem_of_getElem? (i := 3) rfl)
theorem gf_X4_177 (hJ : KO l R cc RX4 nL g J) {v : Value} (q0 : Nat) (he : ws[q0]? = some (a, .inr (4, fs))) (hv : fs[7]? = some v) (hd : decode cc pc = .ok (.getfield 177, 3)) (k1 : J ws lv (pc + 3) (v :: st)) : J ws lv pc (.ref a :: st) := k_get hJ q0 he 7 hv rfl inlX4 (by decide) fl_X4_177 hd k1
theorem pf_X4_177 (hJ : KO l R cc RX4 nL g J) {x : Int32} (q0 : Nat) (he : ws[q0]? = some (a, .inr (4, fs))) (hws : ws.set q0 (a, .inr (4, fs.set 7 (.int x))) = ws2) (hl0 : 7 < fs.length) (hd : decode cc pc = .ok (.putfield 177, 3)) (k1 : J ws2 lv (pc + 3) st) : J ws lv pc (.int x :: .ref a :: st) := k_put (ty := .int) hJ q0 he 7 hws rfl inlX4 tyX4 tyX4_ok nmX4 (by decide) fl_X4_177 rfl (by decide +kernel) rfl rfl hl0 hd k1
theorem fl_X4_181 : Cond.fieldLink RX4 181 (TX4 8).1 (TX4 8).2.1 (TX4 8).2.2.1 ∈ wsL_law := inr_25 _ (List.mem_of_getElem? (i := 8) rfl)
theorem gf_X4_181 (hJ : KO l R cc RX4 nL g J) {v : Value} (q0 : Nat) (he : ws[q0]? = some (a, .inr (4, fs))) (hv : fs[8]? = some v) (hd : decode cc pc = .ok (.getfield 181, 3)) (k1 : J ws lv (pc + 3) (v :: st)) : J ws lv pc (.ref a :: st) := k_get hJ q0 he 8 hv rfl inlX4 (by decide) fl_X4_181 hd k1
theorem pf_X4_181 (hJ : KO l R cc RX4 nL g J) {x : Int32} (q0 : Nat) (he : ws[q0]? = some (a, .inr (4, fs))) (hws : ws.set q0 (a, .inr (4, fs.set 8 (.int x))) = ws2) (hl0 : 8 < fs.length) (hd : decode cc pc = .ok (.putfield 181, 3)) (k1 : J ws2 lv (pc + 3) st) : J ws lv pc (.int x :: .ref a :: st) := k_put (ty := .int) hJ q0 he 8 hws rfl inlX4 tyX4 tyX4_ok nmX4 (by decide) fl_X4_181 rfl (by decide +kernel) rfl rfl hl0 hd k1
theorem fl_X4_190 : Cond.fieldLink RX4 190 (TX4 10).1 (TX4 10).2.1 (TX4 10).2.2.1 ∈ wsL_law := inr_27 _ (List.mem_of_getElem? (i := 1) rfl)
theorem gf_X4_190 (hJ : KO l R cc RX4 nL g J) {v : Value} (q0 : Nat) (he : ws[q0]? = some (a, .inr (4, fs))) (hv : fs[10]? = some v) (hd : decode cc pc = .ok (.getfield 190, 3)) (k1 : J ws lv (pc + 3) (v :: st)) : J ws lv pc (.ref a :: st) := k_get hJ q0 he 10 hv rfl inlX4 (by decide) fl_X4_190 hd k1
theorem pf_X4_190 (hJ : KO l R cc RX4 nL g J) {x : Int32} (q0 : Nat) (he : ws[q0]? = some (a, .inr (4, fs))) (hws : ws.set q0 (a, .inr (4, fs.set 10 (.int x))) = ws2) (hl0 : 10 < fs.length) (hd : decode cc pc = .ok (.putfield 190, 3)) (k1 : J ws2 lv (pc + 3) st) : J ws lv pc (.int x :: .ref a :: st) := k_put (ty := .int) hJ q0 he 10 hws rfl inlX4 tyX4 tyX4_ok nmX4 (by decide) fl_X4_190 rfl (by decide +kernel) rfl rfl hl0 hd k1
theorem fl_X4_201 : Cond.fieldLink RX4 201 (TX4 12).1 (TX4 12).2.1 (TX4 12).2.2.1 ∈ wsL_law := inr_32 _ (List.mem_of_getElem? (i := 7) rfl)
theorem gf_X4_201 (hJ : KO l R cc RX4 nL g J) {v : Value} (q0 : Nat) (he : ws[q0]? = some (a, .inr (4, fs))) (hv : fs[12]? = some v) (hd : decode cc pc = .ok (.getfield 201, 3)) (k1 : J ws lv (pc + 3) (v :: st)) : J ws lv pc (.ref a :: st) := k_get hJ q0 he 12 hv rfl inlX4 (by decide) fl_X4_201 hd k1
theorem pf_X4_201 (hJ : KO l R cc RX4 nL g J) {x : Int32} (q0 : Nat) (he : ws[q0]? = some (a, .inr (4, fs))) (hws : ws.set q0 (a, .inr (4, fs.set 12 (.int x))) = ws2) (hl0 : 12 < fs.length) (hd : decode cc pc = .ok (.putfield 201, 3)) (k1 : J ws2 lv (pc + 3) st) : J ws lv pc (.int x :: .ref a :: st) := k_put (ty := .int) hJ q0 he 12 hws rfl inlX4 tyX4 tyX4_ok nmX4 (by decide) fl_X4_201 rfl (by decide +kernel) rfl rfl hl0 hd k1
theorem fl_X4_204 : Cond.fieldLink RX4 204 (TX4 11).1 (TX4 11).2.1 (TX4 11).2.2.1 ∈ wsL_law := inr_32 _ (List.mem_of_getElem? (i := 8) rfl)
theorem gf_X4_204 (hJ : KO l R cc RX4 nL g J) {v : Value} (q0 : Nat) (he : ws[q0]? = some (a, .inr (4, fs))) (hv : fs[11]? = some v) (hd : decode cc pc = .ok (.getfield 204, 3)) (k1 : J ws lv (pc + 3) (v :: st)) : J ws lv pc (.ref a :: st) := k_get hJ q0 he 11 hv rfl inlX4 (by decide) fl_X4_204 hd k1
theorem pf_X4_204 (hJ : KO l R cc RX4 nL g J) {x : Int32} (q0 : Nat) (he : ws[q0]? = some (a, .inr (4, fs))) (hws : ws.set q0 (a, .inr (4, fs.set 11 (.int x))) = ws2) (hl0 : 11 < fs.length) (hd : decode cc pc = .ok (.putfield 204, 3)) (k1 : J ws2 lv (pc + 3) st) : J ws lv pc (.int x :: .ref a :: st) := k_put (ty := .int) hJ q0 he 11 hws rfl inlX4 tyX4 tyX4_ok nmX4 (by decide) fl_X4_204 rfl (by decide +kernel) rfl rfl hl0 hd k1
theorem fl_X4_216 : Cond.fieldLink RX4 216 (TX4 14).1 (TX4 14).2.1 (TX4 14).2.2.1 ∈ wsL_law := inr_32 _ (List.mem_of_getElem? (i := 6) rfl)
theorem gf_X4_216 (hJ : KO l R cc RX4 nL g J) {v : Value} (q0 : Nat) (he : ws[q0]? = some (a, .inr (4, fs))) (hv : fs[14]? = some v) (hd : decode cc pc = .ok (.getfield 216, 3)) (k1 : J ws lv (pc + 3) (v :: st)) : J ws lv pc (.ref a :: st) := k_get hJ q0 he 14 hv rfl inlX4 (by decide) fl_X4_216 hd k1
theorem pf_X4_216 (hJ : KO l R cc RX4 nL g J) {x : Int32} (q0 : Nat) (he : ws[q0]? = some (a, .inr (4, fs))) (hws : ws.set q0 (a, .inr (4, fs.set 14 (.int x))) = ws2) (hl0 : 14 < fs.length) (hx : narrow .boolean (.int x) = .int x) (hf : fits .boolean (.int x) = true) (hd : decode cc pc = .ok (.putfield 216, 3)) (k1 : J ws2 lv (pc + 3) st) : J ws lv pc (.int x :: .ref a :: st) := k_put (ty := .boolean) hJ q0 he 14 hws rfl inlX4 tyX4 tyX4_ok nmX4 (by decide) fl_X4_216 rfl (by decide +kernel) hx hf hl0 hd k1
theorem fl_X4_227 : Cond.fieldLink RX4 227 (TX4 13).1 (TX4 13).2.1 (TX4 13).2.2.1 ∈ wsL_law := inr_33 _ (List.mem_of_getElem? (i := 12) rfl)
theorem gf_X4_227 (hJ : KO l R cc RX4 nL g J) {v : Value} (q0 : Nat) (he : ws[q0]? = some (a, .inr (4, fs))) (hv : fs[13]? = some v) (hd : decode cc pc = .ok (.getfield 227, 3)) (k1 : J ws lv (pc + 3) (v :: st)) : J ws lv pc (.ref a :: st) := k_get hJ q0 he 13 hv rfl inlX4 (by decide) fl_X4_227 hd k1
theorem pf_X4_227 (hJ : KO l R cc RX4 nL g J) {x : Int32} (q0 : Nat) (he : ws[q0]? = some (a, .inr (4, fs))) (hws : ws.set q0 (a, .inr (4, fs.set 13 (.int x))) = ws2) (hl0 : 13 < fs.length) (hd : decode cc pc = .ok (.putfield 227, 3)) (k1 : J ws2 lv (pc + 3) st) : J ws lv pc (.int x :: .ref a :: st) := k_put (ty := .int) hJ q0 he 13 hws rfl inlX4 tyX4 tyX4_ok nmX4 (by decide) fl_X4_227 rfl (by decide +kernel) rfl rfl hl0 hd k1
theorem fl_X4_302 : Cond.fieldLink RX4 302 (TX4 5).1 (TX4 5).2.1 (TX4 5).2.2.1 ∈ wsL_law := inr_39 _ (List.mem_of_getElem? (i := 17) rfl)
theorem gf_X4_302 (hJ : KO l R cc RX4 nL g J) {v : Value} (q0 : Nat) (he : ws[q0]? = some (a, .inr (4, fs))) (hv : fs[5]? = some v) (hd : decode cc pc = .ok (.getfield 302, 3)) (k1 : J ws lv (pc + 3) (v :: st)) : J ws lv pc (.ref a :: st) := k_get hJ q0 he 5 hv rfl inlX4 (by decide) fl_X4_302 hd k1
theorem pf_X4_302 (hJ : KO l R cc RX4 nL g J) {x : Int32} (q0 : Nat) (he : ws[q0]? = some (a, .inr (4, fs))) (hws : ws.set q0 (a, .inr (4, fs.set 5 (.int x))) = ws2) (hl0 : 5 < fs.length) (hx : narrow .boolean (.int x) = .int x) (hf : fits .boolean (.int x) = true) (hd : decode cc pc = .ok (.putfield 302, 3)) (k1 : J ws2 lv (pc + 3) st) : J ws lv pc (.int x :: .ref a :: st) := k_put (ty := .boolean) hJ q0 he 5 hws rfl inlX4 tyX4 tyX4_ok nmX4 (by decide) fl_X4_302 rfl (by decide +kernel) hx hf hl0 hd k1
end KW
theorem cw_J6_265 : Cond.constant RJ6 265 (1431655765) ∈ wsL_law := inr_17 _ (List.mem_of_getElem? (i := 8) rfl)
theorem cw_J6_266 : Cond.constant RJ6 266 (858993459) ∈ wsL_law := inr_17 _ (List.mem_of_getElem? (i := 9) rfl)
theorem cw_J6_267 : Cond.constant RJ6 267 (252645135) ∈ wsL_law := inr_17 _ (List.mem_of_getElem? (i := 10) rfl)
theorem cw_L_141 : Cond.constantLong RL 141 (4294967295) ∈ wsL_law := inr_1 _ (List.mem_of_getElem? (i := 6) rfl)
theorem cw_X3_55 : Cond.constant RX3 55 (-1000000001) ∈ wsL_law := inr_4 _ (List.mem_of_getElem? (i := 12) rfl)
theorem cw_X3_70 : Cond.constant RX3 70 (-1000000002) ∈ wsL_law := inr_5 _ (List.mem_of_getElem? (i := 19) rfl)
theorem cw_X3_114 : Cond.constant RX3 114 (-1000000003) ∈ wsL_law := inr_11 _ (List.mem_of_getElem? (i := 6) rfl)
theorem cw_X3_130 : Cond.constant RX3 130 (-1000000004) ∈ wsL_law := inr_15 _ (List.mem_of_getElem? (i := 9) rfl)
theorem cw_X3_138 : Cond.constant RX3 138 (-1000000005) ∈ wsL_law := inr_16 _ (List.mem_of_getElem? (i := 20) rfl)
theorem cw_X3_196 : Cond.constant RX3 196 (-1000000007) ∈ wsL_law := inr_35 _ (List.mem_of_getElem? (i := 6) rfl)
theorem cw_X3_218 : Cond.constant RX3 218 (-1000000006) ∈ wsL_law := inr_36 _ (List.mem_of_getElem? (i := 10) rfl)
theorem cw_X3_228 : Cond.constantLong RX3 228 (48) ∈ wsL_law := inr_37 _ (List.mem_of_getElem? (i := 20) rfl)
theorem cw_X4_44 : Cond.constant RX4 44 (-1000000001) ∈ wsL_law := inr_5 _ (List.mem_of_getElem? (i := 2) rfl)
theorem cw_X4_45 : Cond.constantLong RX4 45 (47) ∈ wsL_law := inr_6 _ (List.mem_of_getElem? (i := 18) rfl)
theorem cw_X4_55 : Cond.constantLong RX4 55 (5) ∈ wsL_law := inr_6 _ (List.mem_of_getElem? (i := 14) rfl)
theorem cw_X4_61 : Cond.constantLong RX4 61 (4) ∈ wsL_law := inr_5 _ (List.mem_of_getElem? (i := 0) rfl)
theorem cw_X4_63 : Cond.constantLong RX4 63 (99) ∈ wsL_law := inr_5 _ (List.mem_of_getElem? (i := 1) rfl)
theorem cw_X4_78 : Cond.constant RX4 78 (-1000000002) ∈ wsL_law := inr_6 _ (List.mem_of_getElem? (i := 10) rfl)
theorem cw_X4_94 : Cond.constantLong RX4 94 (9) ∈ wsL_law := inr_9 _ (List.mem_of_getElem? (i := 17) rfl)
theorem cw_X4_103 : Cond.constant RX4 103 (-1000000003) ∈ wsL_law := inr_11 _ (List.mem_of_getElem? (i := 14) rfl)
theorem cw_X4_129 : Cond.constant RX4 129 (-1000000004) ∈ wsL_law := inr_15 _ (List.mem_of_getElem? (i := 14) rfl)
theorem cw_X4_139 : Cond.constant RX4 139 (-1000000005) ∈ wsL_law := inr_17 _ (List.mem_of_getElem? (i := 15) rfl)
theorem cw_X4_152 : Cond.constantLong RX4 152 (60) ∈ wsL_law := inr_19 _ (List.mem_of_getElem? (i := 9) rfl)
theorem cw_X4_184 : Cond.constantLong RX4 184 (7) ∈ wsL_law := inr_25 _ (List.mem_of_getElem? (i := 2) rfl)
theorem cw_X4_193 : Cond.constantLong RX4 193 (97) ∈ wsL_law := inr_33 _ (List.mem_of_getElem? (i := 0) rfl)
theorem cw_X4_195 : Cond.constantLong RX4 195 (122) ∈ wsL_law := inr_33 _ (List.mem_of_getElem? (i := 1) rfl)
theorem cw_X4_197 : Cond.constantLong RX4 197 (48) ∈ wsL_law := inr_33 _ (List.mem_of_getElem? (i := 5) rfl)
theorem cw_X4_199 : Cond.constantLong RX4 199 (57) ∈ wsL_law := inr_33 _ (List.mem_of_getElem? (i := 6) rfl)
theorem cw_X4_223 : Cond.constantLong RX4 223 (36028797018963967) ∈ wsL_law := inr_34 _ (List.mem_of_getElem? (i := 4) rfl)
theorem cw_X4_225 : Cond.constantLong RX4 225 (32) ∈ wsL_law := inr_34 _ (List.mem_of_getElem? (i := 5) rfl)
theorem cw_X4_238 : Cond.constantLong RX4 238 (542723566) ∈ wsL_law := inr_33 _ (List.mem_of_getElem? (i := 18) rfl)
theorem cw_X4_240 : Cond.constantLong RX4 240 (114155) ∈ wsL_law := inr_33 _ (List.mem_of_getElem? (i := 19) rfl)
theorem cw_X4_242 : Cond.constantLong RX4 242 (2253324406962) ∈ wsL_law := inr_33 _ (List.mem_of_getElem? (i := 20) rfl)
theorem cw_X4_244 : Cond.constantLong RX4 244 (4583) ∈ wsL_law := inr_33 _ (List.mem_of_getElem? (i := 21) rfl)
theorem cw_X4_246 : Cond.constantLong RX4 246 (555735495858) ∈ wsL_law := inr_33 _ (List.mem_of_getElem? (i := 22) rfl)
theorem cw_X4_248 : Cond.constantLong RX4 248 (8902084) ∈ wsL_law := inr_33 _ (List.mem_of_getElem? (i := 23) rfl)
theorem cw_X4_250 : Cond.constantLong RX4 250 (52) ∈ wsL_law := inr_34 _ (List.mem_of_getElem? (i := 10) rfl)
theorem cw_X4_255 : Cond.constantLong RX4 255 (474725) ∈ wsL_law := inr_34 _ (List.mem_of_getElem? (i := 11) rfl)
theorem cw_X4_257 : Cond.constantLong RX4 257 (114052) ∈ wsL_law := inr_34 _ (List.mem_of_getElem? (i := 12) rfl)
theorem cw_X4_259 : Cond.constantLong RX4 259 (4388) ∈ wsL_law := inr_34 _ (List.mem_of_getElem? (i := 13) rfl)
theorem cw_X4_267 : Cond.constantLong RX4 267 (763332) ∈ wsL_law := inr_33 _ (List.mem_of_getElem? (i := 11) rfl)
theorem cw_X4_269 : Cond.constantLong RX4 269 (4773) ∈ wsL_law := inr_33 _ (List.mem_of_getElem? (i := 13) rfl)
theorem cw_X4_280 : Cond.constantLong RX4 280 (3) ∈ wsL_law := inr_35 _ (List.mem_of_getElem? (i := 23) rfl)
theorem cw_X4_285 : Cond.constant RX4 285 (-1000000007) ∈ wsL_law := inr_35 _ (List.mem_of_getElem? (i := 19) rfl)
theorem cw_X4_286 : Cond.constant RX4 286 (-1000000006) ∈ wsL_law := inr_36 _ (List.mem_of_getElem? (i := 23) rfl)
theorem cw_X4_308 : Cond.constantLong RX4 308 (-1) ∈ wsL_law := inr_41 _ (List.mem_of_getElem? (i := 7) rfl)
theorem cw_X4_310 : Cond.constantLong RX4 310 (6) ∈ wsL_law := inr_41 _ (List.mem_of_getElem? (i := 8) rfl)
theorem ml_J0_335 : Cond.methodLink RJ0 335 yJ0_coder_7d493 ∈ wsL_law := inr_29 _ (List.mem_of_getElem? (i := 7) rfl)
theorem ml_J0_492 : Cond.methodLink RJ0 492 yJ0_isLatin1_aae02 ∈ wsL_law := inr_29 _ (List.mem_of_getElem? (i := 17) rfl)
theorem ml_J0_495 : Cond.methodLink RJ0 495 yJ1_charAt_3b067 ∈ wsL_law := inr_29 _ (List.mem_of_getElem? (i := 21) rfl)
theorem ml_J0_498 : Cond.methodLink RJ0 498 yJ2_charAt_3b067 ∈ wsL_law := inr_30 _ (List.mem_of_getElem? (i := 9) rfl)
theorem ml_J0_1059 : Cond.methodLink RJ0 1059 yJ3_checkIndex_8e157 ∈ wsL_law := inr_30 _ (List.mem_of_getElem? (i := 5) rfl)
theorem ml_J1_9 : Cond.methodLink RJ1 9 yJ0_checkIndex_df160 ∈ wsL_law := inr_30 _ (List.mem_of_getElem? (i := 1) rfl)
theorem ml_J2_48 : Cond.methodLink RJ2 48 yJ2_length_9d52b ∈ wsL_law := inr_30 _ (List.mem_of_getElem? (i := 16) rfl)
theorem ml_J2_67 : Cond.methodLink RJ2 67 yJ2_checkIndex_2214a ∈ wsL_law := inr_30 _ (List.mem_of_getElem? (i := 13) rfl)
theorem ml_J2_71 : Cond.methodLink RJ2 71 yJ2_getChar_3b067 ∈ wsL_law := inr_30 _ (List.mem_of_getElem? (i := 20) rfl)
theorem ml_J2_414 : Cond.methodLink RJ2 414 yJ0_checkIndex_df160 ∈ wsL_law := inr_30 _ (List.mem_of_getElem? (i := 19) rfl)
theorem ml_L_9 : Cond.methodLink RL 9 yX3_init ∈ wsL_law := inr_1 _ (List.mem_of_getElem? (i := 7) rfl)
theorem ml_L_12 : Cond.methodLink RL 12 yX4_init ∈ wsL_law := inr_3 _ (List.mem_of_getElem? (i := 15) rfl)
theorem ml_L_13 : Cond.methodLink RL 13 yX3_law ∈ wsL_law := inr_4 _ (List.mem_of_getElem? (i := 6) rfl)
theorem ml_L_17 : Cond.methodLink RL 17 yX4_law ∈ wsL_law := inr_4 _ (List.mem_of_getElem? (i := 20) rfl)
theorem ml_L_18 : Cond.methodLink RL 18 yX3_person ∈ wsL_law := inr_5 _ (List.mem_of_getElem? (i := 14) rfl)
theorem ml_L_21 : Cond.methodLink RL 21 yX4_person ∈ wsL_law := inr_6 _ (List.mem_of_getElem? (i := 6) rfl)
theorem ml_L_22 : Cond.methodLink RL 22 yX3_of ∈ wsL_law := inr_7 _ (List.mem_of_getElem? (i := 2) rfl)
theorem ml_L_25 : Cond.methodLink RL 25 yX4_of ∈ wsL_law := inr_8 _ (List.mem_of_getElem? (i := 6) rfl)
theorem ml_L_26 : Cond.methodLink RL 26 yX3_set ∈ wsL_law := inr_9 _ (List.mem_of_getElem? (i := 6) rfl)
theorem ml_L_30 : Cond.methodLink RL 30 yX4_set ∈ wsL_law := inr_9 _ (List.mem_of_getElem? (i := 13) rfl)
theorem ml_L_31 : Cond.methodLink RL 31 yX3_did ∈ wsL_law := inr_9 _ (List.mem_of_getElem? (i := 18) rfl)
theorem ml_L_34 : Cond.methodLink RL 34 yX4_did ∈ wsL_law := inr_10 _ (List.mem_of_getElem? (i := 2) rfl)
theorem ml_L_35 : Cond.methodLink RL 35 yX3_scent ∈ wsL_law := inr_10 _ (List.mem_of_getElem? (i := 9) rfl)
theorem ml_L_38 : Cond.methodLink RL 38 yX4_scent ∈ wsL_law := inr_10 _ (List.mem_of_getElem? (i := 14) rfl)
theorem ml_L_39 : Cond.methodLink RL 39 yX3_turn ∈ wsL_law := inr_10 _ (List.mem_of_getElem? (i := 18) rfl)
theorem ml_L_42 : Cond.methodLink RL 42 yX4_turn ∈ wsL_law := inr_10 _ (List.mem_of_getElem? (i := 22) rfl)
theorem ml_L_43 : Cond.methodLink RL 43 yX3_as ∈ wsL_law := inr_11 _ (List.mem_of_getElem? (i := 2) rfl)
theorem ml_L_46 : Cond.methodLink RL 46 yX4_as ∈ wsL_law := inr_11 _ (List.mem_of_getElem? (i := 10) rfl)
theorem ml_L_47 : Cond.methodLink RL 47 yX3_wash ∈ wsL_law := inr_11 _ (List.mem_of_getElem? (i := 18) rfl)
theorem ml_L_51 : Cond.methodLink RL 51 yX4_wash ∈ wsL_law := inr_12 _ (List.mem_of_getElem? (i := 2) rfl)
theorem ml_L_52 : Cond.methodLink RL 52 yX3_meet ∈ wsL_law := inr_12 _ (List.mem_of_getElem? (i := 10) rfl)
theorem ml_L_55 : Cond.methodLink RL 55 yX4_meet ∈ wsL_law := inr_12 _ (List.mem_of_getElem? (i := 20) rfl)
theorem ml_L_56 : Cond.methodLink RL 56 yX3_smells ∈ wsL_law := inr_13 _ (List.mem_of_getElem? (i := 8) rfl)
theorem ml_L_59 : Cond.methodLink RL 59 yX4_smells ∈ wsL_law := inr_14 _ (List.mem_of_getElem? (i := 6) rfl)
theorem ml_L_60 : Cond.methodLink RL 60 yX3_deed ∈ wsL_law := inr_15 _ (List.mem_of_getElem? (i := 5) rfl)
theorem ml_L_63 : Cond.methodLink RL 63 yX4_deed ∈ wsL_law := inr_15 _ (List.mem_of_getElem? (i := 10) rfl)
theorem ml_L_64 : Cond.methodLink RL 64 yX3_guilty ∈ wsL_law := inr_15 _ (List.mem_of_getElem? (i := 15) rfl)
theorem ml_L_67 : Cond.methodLink RL 67 yX4_guilty ∈ wsL_law := inr_16 _ (List.mem_of_getElem? (i := 4) rfl)
theorem ml_L_68 : Cond.methodLink RL 68 yX3_convicts ∈ wsL_law := inr_16 _ (List.mem_of_getElem? (i := 16) rfl)
theorem ml_L_71 : Cond.methodLink RL 71 yX4_convicts ∈ wsL_law := inr_17 _ (List.mem_of_getElem? (i := 11) rfl)
theorem ml_L_72 : Cond.methodLink RL 72 yX3_hours ∈ wsL_law := inr_17 _ (List.mem_of_getElem? (i := 22) rfl)
theorem ml_L_75 : Cond.methodLink RL 75 yX4_hours ∈ wsL_law := inr_19 _ (List.mem_of_getElem? (i := 5) rfl)
theorem ml_L_76 : Cond.methodLink RL 76 yX3_now ∈ wsL_law := inr_20 _ (List.mem_of_getElem? (i := 6) rfl)
theorem ml_L_79 : Cond.methodLink RL 79 yX4_now ∈ wsL_law := inr_20 _ (List.mem_of_getElem? (i := 15) rfl)
theorem ml_L_80 : Cond.methodLink RL 80 yX3_on ∈ wsL_law := inr_20 _ (List.mem_of_getElem? (i := 23) rfl)
theorem ml_L_83 : Cond.methodLink RL 83 yX4_on ∈ wsL_law := inr_21 _ (List.mem_of_getElem? (i := 11) rfl)
theorem ml_L_84 : Cond.methodLink RL 84 yX3_clean ∈ wsL_law := inr_21 _ (List.mem_of_getElem? (i := 23) rfl)
theorem ml_L_87 : Cond.methodLink RL 87 yX4_clean ∈ wsL_law := inr_22 _ (List.mem_of_getElem? (i := 3) rfl)
theorem ml_L_88 : Cond.methodLink RL 88 yX3_wind ∈ wsL_law := inr_22 _ (List.mem_of_getElem? (i := 7) rfl)
theorem ml_L_91 : Cond.methodLink RL 91 yX4_wind ∈ wsL_law := inr_22 _ (List.mem_of_getElem? (i := 19) rfl)
theorem ml_L_92 : Cond.methodLink RL 92 yX3_seat ∈ wsL_law := inr_23 _ (List.mem_of_getElem? (i := 7) rfl)
theorem ml_L_95 : Cond.methodLink RL 95 yX4_seat ∈ wsL_law := inr_23 _ (List.mem_of_getElem? (i := 11) rfl)
theorem ml_L_96 : Cond.methodLink RL 96 yX3_bath ∈ wsL_law := inr_23 _ (List.mem_of_getElem? (i := 15) rfl)
theorem ml_L_99 : Cond.methodLink RL 99 yX4_bath ∈ wsL_law := inr_23 _ (List.mem_of_getElem? (i := 19) rfl)
theorem ml_L_100 : Cond.methodLink RL 100 yX3_kind ∈ wsL_law := inr_23 _ (List.mem_of_getElem? (i := 23) rfl)
theorem ml_L_103 : Cond.methodLink RL 103 yX4_kind ∈ wsL_law := inr_24 _ (List.mem_of_getElem? (i := 3) rfl)
theorem ml_L_104 : Cond.methodLink RL 104 yX3_due ∈ wsL_law := inr_24 _ (List.mem_of_getElem? (i := 7) rfl)
theorem ml_L_107 : Cond.methodLink RL 107 yX4_due ∈ wsL_law := inr_24 _ (List.mem_of_getElem? (i := 11) rfl)
theorem ml_L_108 : Cond.methodLink RL 108 yX3_jury ∈ wsL_law := inr_24 _ (List.mem_of_getElem? (i := 15) rfl)
theorem ml_L_111 : Cond.methodLink RL 111 yX4_jury ∈ wsL_law := inr_24 _ (List.mem_of_getElem? (i := 22) rfl)
theorem ml_L_112 : Cond.methodLink RL 112 yX3_juries ∈ wsL_law := inr_25 _ (List.mem_of_getElem? (i := 9) rfl)
theorem ml_L_115 : Cond.methodLink RL 115 yX4_juries ∈ wsL_law := inr_25 _ (List.mem_of_getElem? (i := 13) rfl)
theorem ml_L_116 : Cond.methodLink RL 116 yX3_from ∈ wsL_law := inr_25 _ (List.mem_of_getElem? (i := 17) rfl)
theorem ml_L_119 : Cond.methodLink RL 119 yX4_from ∈ wsL_law := inr_25 _ (List.mem_of_getElem? (i := 23) rfl)
theorem ml_L_120 : Cond.methodLink RL 120 yX3_nose ∈ wsL_law := inr_26 _ (List.mem_of_getElem? (i := 3) rfl)
theorem ml_L_123 : Cond.methodLink RL 123 yX4_nose ∈ wsL_law := inr_26 _ (List.mem_of_getElem? (i := 8) rfl)
theorem ml_L_124 : Cond.methodLink RL 124 yX3_feed ∈ wsL_law := inr_26 _ (List.mem_of_getElem? (i := 12) rfl)
theorem ml_L_127 : Cond.methodLink RL 127 yX4_feed ∈ wsL_law := inr_26 _ (List.mem_of_getElem? (i := 21) rfl)
theorem ml_L_128 : Cond.methodLink RL 128 yX3_wipe ∈ wsL_law := inr_27 _ (List.mem_of_getElem? (i := 2) rfl)
theorem ml_L_132 : Cond.methodLink RL 132 yX4_wipe ∈ wsL_law := inr_27 _ (List.mem_of_getElem? (i := 6) rfl)
theorem ml_L_133 : Cond.methodLink RL 133 yX3_hall ∈ wsL_law := inr_27 _ (List.mem_of_getElem? (i := 10) rfl)
theorem ml_L_136 : Cond.methodLink RL 136 yX4_hall ∈ wsL_law := inr_32 _ (List.mem_of_getElem? (i := 2) rfl)
theorem ml_L_137 : Cond.methodLink RL 137 yX3_sheet ∈ wsL_law := inr_35 _ (List.mem_of_getElem? (i := 2) rfl)
theorem ml_L_140 : Cond.methodLink RL 140 yX4_sheet ∈ wsL_law := inr_35 _ (List.mem_of_getElem? (i := 15) rfl)
theorem ml_L_143 : Cond.methodLink RL 143 yX3_write ∈ wsL_law := inr_36 _ (List.mem_of_getElem? (i := 0) rfl)
theorem ml_L_147 : Cond.methodLink RL 147 yX4_write ∈ wsL_law := inr_36 _ (List.mem_of_getElem? (i := 15) rfl)
theorem ml_L_148 : Cond.methodLink RL 148 yX3_copy ∈ wsL_law := inr_37 _ (List.mem_of_getElem? (i := 3) rfl)
theorem ml_L_152 : Cond.methodLink RL 152 yX4_copy ∈ wsL_law := inr_37 _ (List.mem_of_getElem? (i := 12) rfl)
theorem ml_L_153 : Cond.methodLink RL 153 yX3_lays ∈ wsL_law := inr_37 _ (List.mem_of_getElem? (i := 16) rfl)
theorem ml_L_156 : Cond.methodLink RL 156 yX4_lays ∈ wsL_law := inr_37 _ (List.mem_of_getElem? (i := 21) rfl)
theorem ml_L_157 : Cond.methodLink RL 157 yX3_book ∈ wsL_law := inr_38 _ (List.mem_of_getElem? (i := 1) rfl)
theorem ml_L_161 : Cond.methodLink RL 161 yX4_book ∈ wsL_law := inr_38 _ (List.mem_of_getElem? (i := 9) rfl)
theorem ml_L_162 : Cond.methodLink RL 162 yX3_read ∈ wsL_law := inr_38 _ (List.mem_of_getElem? (i := 17) rfl)
theorem ml_L_165 : Cond.methodLink RL 165 yX4_read ∈ wsL_law := inr_39 _ (List.mem_of_getElem? (i := 1) rfl)
theorem ml_L_166 : Cond.methodLink RL 166 yX3_image ∈ wsL_law := inr_39 _ (List.mem_of_getElem? (i := 9) rfl)
theorem ml_L_169 : Cond.methodLink RL 169 yX4_image ∈ wsL_law := inr_39 _ (List.mem_of_getElem? (i := 13) rfl)
theorem ml_L_170 : Cond.methodLink RL 170 yX3_undo ∈ wsL_law := inr_39 _ (List.mem_of_getElem? (i := 18) rfl)
theorem ml_L_173 : Cond.methodLink RL 173 yX4_undo ∈ wsL_law := inr_39 _ (List.mem_of_getElem? (i := 22) rfl)
theorem ml_L_174 : Cond.methodLink RL 174 yX3_tear ∈ wsL_law := inr_40 _ (List.mem_of_getElem? (i := 2) rfl)
theorem ml_L_177 : Cond.methodLink RL 177 yX4_tear ∈ wsL_law := inr_40 _ (List.mem_of_getElem? (i := 6) rfl)
theorem ml_L_178 : Cond.methodLink RL 178 yX3_count ∈ wsL_law := inr_40 _ (List.mem_of_getElem? (i := 10) rfl)
theorem ml_L_181 : Cond.methodLink RL 181 yX4_count ∈ wsL_law := inr_40 _ (List.mem_of_getElem? (i := 15) rfl)
theorem ml_L_182 : Cond.methodLink RL 182 yX3_status ∈ wsL_law := inr_40 _ (List.mem_of_getElem? (i := 23) rfl)
theorem ml_L_185 : Cond.methodLink RL 185 yX4_status ∈ wsL_law := inr_41 _ (List.mem_of_getElem? (i := 3) rfl)
theorem ml_X0_45 : Cond.methodLink RX0 45 arraycopyName ∈ wsL_law := inr_18 _ (List.mem_of_getElem? (i := 11) rfl)
theorem ml_X0_51 : Cond.methodLink RX0 51 yX0_has ∈ wsL_law := inr_12 _ (List.mem_of_getElem? (i := 19) rfl)
theorem ml_X0_55 : Cond.methodLink RX0 55 yX0_sumOver ∈ wsL_law := inr_19 _ (List.mem_of_getElem? (i := 1) rfl)
theorem ml_X0_59 : Cond.methodLink RX0 59 Lib.Math.max.name ∈ wsL_law := inr_8 _ (List.mem_of_getElem? (i := 2) rfl)
theorem ml_X0_65 : Cond.methodLink RX0 65 yX0_givesOff ∈ wsL_law := inr_7 _ (List.mem_of_getElem? (i := 22) rfl)
theorem ml_X0_68 : Cond.methodLink RX0 68 yX0_apart ∈ wsL_law := inr_13 _ (List.mem_of_getElem? (i := 16) rfl)
theorem ml_X0_71 : Cond.methodLink RX0 71 yX0_senses ∈ wsL_law := inr_13 _ (List.mem_of_getElem? (i := 22) rfl)
theorem ml_X0_75 : Cond.methodLink RX0 75 yX0_isDownwind ∈ wsL_law := inr_14 _ (List.mem_of_getElem? (i := 2) rfl)
theorem ml_X0_82 : Cond.methodLink RX0 82 yX0_smelt ∈ wsL_law := inr_16 _ (List.mem_of_getElem? (i := 3) rfl)
theorem ml_X0_85 : Cond.methodLink RX0 85 yX0_finds ∈ wsL_law := inr_15 _ (List.mem_of_getElem? (i := 23) rfl)
theorem ml_X0_88 : Cond.methodLink RX0 88 yX0_finders ∈ wsL_law := inr_20 _ (List.mem_of_getElem? (i := 14) rfl)
theorem ml_X0_92 : Cond.methodLink RX0 92 yX0_fade ∈ wsL_law := inr_18 _ (List.mem_of_getElem? (i := 7) rfl)
theorem ml_X0_96 : Cond.methodLink RX0 96 yX0_strongestBeside ∈ wsL_law := inr_18 _ (List.mem_of_getElem? (i := 15) rfl)
theorem ml_X0_102 : Cond.methodLink RX0 102 Lib.Math.abs.name ∈ wsL_law := inr_13 _ (List.mem_of_getElem? (i := 19) rfl)
theorem ml_X2_31 : Cond.methodLink RX2 31 yX2_step ∈ wsL_law := inr_27 _ (List.mem_of_getElem? (i := 18) rfl)
theorem ml_X2_34 : Cond.methodLink RX2 34 yX2_takesItem ∈ wsL_law := inr_28 _ (List.mem_of_getElem? (i := 15) rfl)
theorem ml_X2_40 : Cond.methodLink RX2 40 yX2_isWord ∈ wsL_law := inr_28 _ (List.mem_of_getElem? (i := 21) rfl)
theorem ml_X2_44 : Cond.methodLink RX2 44 yX2_takesNumber ∈ wsL_law := inr_31 _ (List.mem_of_getElem? (i := 2) rfl)
theorem ml_X2_56 : Cond.methodLink RX2 56 yX2_takesPerson ∈ wsL_law := inr_31 _ (List.mem_of_getElem? (i := 6) rfl)
theorem ml_X2_59 : Cond.methodLink RX2 59 yX2_kindNamed ∈ wsL_law := inr_31 _ (List.mem_of_getElem? (i := 13) rfl)
theorem ml_X2_68 : Cond.methodLink RX2 68 yX0_join ∈ wsL_law := inr_31 _ (List.mem_of_getElem? (i := 20) rfl)
theorem ml_X2_84 : Cond.methodLink RX2 84 yX2_takesDeed ∈ wsL_law := inr_31 _ (List.mem_of_getElem? (i := 21) rfl)
theorem ml_X2_92 : Cond.methodLink RX2 92 yX2_nameOf ∈ wsL_law := inr_31 _ (List.mem_of_getElem? (i := 17) rfl)
theorem ml_X2_108 : Cond.methodLink RX2 108 yJ0_length_8abf5 ∈ wsL_law := inr_29 _ (List.mem_of_getElem? (i := 1) rfl)
theorem ml_X2_112 : Cond.methodLink RX2 112 yJ0_charAt_5068e ∈ wsL_law := inr_29 _ (List.mem_of_getElem? (i := 13) rfl)
theorem ml_X2_116 : Cond.methodLink RX2 116 yX2_isLetter ∈ wsL_law := inr_27 _ (List.mem_of_getElem? (i := 22) rfl)
theorem ml_X2_120 : Cond.methodLink RX2 120 yX2_passWord ∈ wsL_law := inr_28 _ (List.mem_of_getElem? (i := 1) rfl)
theorem ml_X2_123 : Cond.methodLink RX2 123 yX2_isDigit ∈ wsL_law := inr_28 _ (List.mem_of_getElem? (i := 5) rfl)
theorem ml_X2_126 : Cond.methodLink RX2 126 yX2_passNumber ∈ wsL_law := inr_28 _ (List.mem_of_getElem? (i := 8) rfl)
theorem ml_X2_129 : Cond.methodLink RX2 129 Lib.Math.min.name ∈ wsL_law := inr_28 _ (List.mem_of_getElem? (i := 12) rfl)
theorem ml_X3_9 : Cond.methodLink RX3 9 yX0_init ∈ wsL_law := inr_2 _ (List.mem_of_getElem? (i := 6) rfl)
theorem ml_X3_24 : Cond.methodLink RX3 24 yX2_init ∈ wsL_law := inr_2 _ (List.mem_of_getElem? (i := 21) rfl)
theorem ml_X3_35 : Cond.methodLink RX3 35 yX1_init ∈ wsL_law := inr_3 _ (List.mem_of_getElem? (i := 7) rfl)
theorem ml_X3_44 : Cond.methodLink RX3 44 yX3_within ∈ wsL_law := inr_4 _ (List.mem_of_getElem? (i := 13) rfl)
theorem ml_X3_56 : Cond.methodLink RX3 56 yX3_tell ∈ wsL_law := inr_4 _ (List.mem_of_getElem? (i := 16) rfl)
theorem ml_X3_60 : Cond.methodLink RX3 60 yX3_isKind ∈ wsL_law := inr_5 _ (List.mem_of_getElem? (i := 20) rfl)
theorem ml_X3_64 : Cond.methodLink RX3 64 yX3_isPlace ∈ wsL_law := inr_5 _ (List.mem_of_getElem? (i := 23) rfl)
theorem ml_X3_71 : Cond.methodLink RX3 71 yX0_join ∈ wsL_law := inr_6 _ (List.mem_of_getElem? (i := 2) rfl)
theorem ml_X3_75 : Cond.methodLink RX3 75 yX0_has ∈ wsL_law := inr_7 _ (List.mem_of_getElem? (i := 10) rfl)
theorem ml_X3_90 : Cond.methodLink RX3 90 yX0_scentsOf ∈ wsL_law := inr_7 _ (List.mem_of_getElem? (i := 14) rfl)
theorem ml_X3_93 : Cond.methodLink RX3 93 yX0_givenOffBy ∈ wsL_law := inr_7 _ (List.mem_of_getElem? (i := 18) rfl)
theorem ml_X3_96 : Cond.methodLink RX3 96 yX3_exchange ∈ wsL_law := inr_9 _ (List.mem_of_getElem? (i := 10) rfl)
theorem ml_X3_100 : Cond.methodLink RX3 100 yX3_isDeed ∈ wsL_law := inr_9 _ (List.mem_of_getElem? (i := 23) rfl)
theorem ml_X3_107 : Cond.methodLink RX3 107 yX0_givesOff ∈ wsL_law := inr_10 _ (List.mem_of_getElem? (i := 13) rfl)
theorem ml_X3_110 : Cond.methodLink RX3 110 yX3_isUnder ∈ wsL_law := inr_11 _ (List.mem_of_getElem? (i := 7) rfl)
theorem ml_X3_115 : Cond.methodLink RX3 115 yX0_washes ∈ wsL_law := inr_11 _ (List.mem_of_getElem? (i := 22) rfl)
theorem ml_X3_118 : Cond.methodLink RX3 118 yX0_hasTwo ∈ wsL_law := inr_12 _ (List.mem_of_getElem? (i := 15) rfl)
theorem ml_X3_121 : Cond.methodLink RX3 121 Lib.Math.max.name ∈ wsL_law := inr_12 _ (List.mem_of_getElem? (i := 14) rfl)
theorem ml_X3_126 : Cond.methodLink RX3 126 yX0_smelt ∈ wsL_law := inr_13 _ (List.mem_of_getElem? (i := 12) rfl)
theorem ml_X3_131 : Cond.methodLink RX3 131 yX0_finders ∈ wsL_law := inr_15 _ (List.mem_of_getElem? (i := 19) rfl)
theorem ml_X3_134 : Cond.methodLink RX3 134 yX0_everybody ∈ wsL_law := inr_16 _ (List.mem_of_getElem? (i := 21) rfl)
theorem ml_X3_139 : Cond.methodLink RX3 139 yX3_isMajority ∈ wsL_law := inr_17 _ (List.mem_of_getElem? (i := 1) rfl)
theorem ml_X3_145 : Cond.methodLink RX3 145 yX0_hourGoes ∈ wsL_law := inr_18 _ (List.mem_of_getElem? (i := 3) rfl)
theorem ml_X3_148 : Cond.methodLink RX3 148 yX0_scentsOfAll ∈ wsL_law := inr_18 _ (List.mem_of_getElem? (i := 21) rfl)
theorem ml_X3_151 : Cond.methodLink RX3 151 yX0_foundGuilty ∈ wsL_law := inr_20 _ (List.mem_of_getElem? (i := 10) rfl)
theorem ml_X3_154 : Cond.methodLink RX3 154 yX0_become ∈ wsL_law := inr_21 _ (List.mem_of_getElem? (i := 3) rfl)
theorem ml_X3_158 : Cond.methodLink RX3 158 yX0_hourGoesFor ∈ wsL_law := inr_21 _ (List.mem_of_getElem? (i := 7) rfl)
theorem ml_X3_162 : Cond.methodLink RX3 162 yX3_fewestFind ∈ wsL_law := inr_22 _ (List.mem_of_getElem? (i := 11) rfl)
theorem ml_X3_165 : Cond.methodLink RX3 165 yJ6_bitCount_0f7a4 ∈ wsL_law := inr_17 _ (List.mem_of_getElem? (i := 4) rfl)
theorem ml_X3_170 : Cond.methodLink RX3 170 yX3_isJuryAgainst ∈ wsL_law := inr_24 _ (List.mem_of_getElem? (i := 19) rfl)
theorem ml_X3_174 : Cond.methodLink RX3 174 yX0_strongestBeside ∈ wsL_law := inr_25 _ (List.mem_of_getElem? (i := 21) rfl)
theorem ml_X3_177 : Cond.methodLink RX3 177 yX3_faded ∈ wsL_law := inr_25 _ (List.mem_of_getElem? (i := 22) rfl)
theorem ml_X3_180 : Cond.methodLink RX3 180 yX0_finds ∈ wsL_law := inr_26 _ (List.mem_of_getElem? (i := 7) rfl)
theorem ml_X3_186 : Cond.methodLink RX3 186 yX2_append ∈ wsL_law := inr_26 _ (List.mem_of_getElem? (i := 17) rfl)
theorem ml_X3_189 : Cond.methodLink RX3 189 yX2_tellTo ∈ wsL_law := inr_27 _ (List.mem_of_getElem? (i := 14) rfl)
theorem ml_X3_193 : Cond.methodLink RX3 193 yX3_isSheet ∈ wsL_law := inr_35 _ (List.mem_of_getElem? (i := 8) rfl)
theorem ml_X3_197 : Cond.methodLink RX3 197 yX1_renew ∈ wsL_law := inr_35 _ (List.mem_of_getElem? (i := 11) rfl)
theorem ml_X3_204 : Cond.methodLink RX3 204 yX3_findingOfSheet ∈ wsL_law := inr_36 _ (List.mem_of_getElem? (i := 5) rfl)
theorem ml_X3_211 : Cond.methodLink RX3 211 yX1_put ∈ wsL_law := inr_36 _ (List.mem_of_getElem? (i := 11) rfl)
theorem ml_X3_219 : Cond.methodLink RX3 219 yX1_hasRun ∈ wsL_law := inr_37 _ (List.mem_of_getElem? (i := 8) rfl)
theorem ml_X3_222 : Cond.methodLink RX3 222 arraycopyName ∈ wsL_law := inr_37 _ (List.mem_of_getElem? (i := 7) rfl)
theorem ml_X3_230 : Cond.methodLink RX3 230 yX3_findingOfBook ∈ wsL_law := inr_38 _ (List.mem_of_getElem? (i := 5) rfl)
theorem ml_X3_234 : Cond.methodLink RX3 234 yX3_isToldBy ∈ wsL_law := inr_38 _ (List.mem_of_getElem? (i := 21) rfl)
theorem ml_X3_238 : Cond.methodLink RX3 238 yX0_sumOver ∈ wsL_law := inr_40 _ (List.mem_of_getElem? (i := 14) rfl)
theorem ml_X3_242 : Cond.methodLink RX3 242 yX0_put ∈ wsL_law := inr_22 _ (List.mem_of_getElem? (i := 15) rfl)
theorem ml_X4_47 : Cond.methodLink RX4 47 yX4_in ∈ wsL_law := inr_5 _ (List.mem_of_getElem? (i := 3) rfl)
theorem ml_X4_51 : Cond.methodLink RX4 51 yX4_isPerson ∈ wsL_law := inr_8 _ (List.mem_of_getElem? (i := 10) rfl)
theorem ml_X4_57 : Cond.methodLink RX4 57 yX4_spot ∈ wsL_law := inr_6 _ (List.mem_of_getElem? (i := 23) rfl)
theorem ml_X4_65 : Cond.methodLink RX4 65 yX4_becomes ∈ wsL_law := inr_5 _ (List.mem_of_getElem? (i := 6) rfl)
theorem ml_X4_68 : Cond.methodLink RX4 68 yX4_finds ∈ wsL_law := inr_5 _ (List.mem_of_getElem? (i := 10) rfl)
theorem ml_X4_72 : Cond.methodLink RX4 72 yX4_isKind ∈ wsL_law := inr_6 _ (List.mem_of_getElem? (i := 11) rfl)
theorem ml_X4_75 : Cond.methodLink RX4 75 yX4_isPlace ∈ wsL_law := inr_6 _ (List.mem_of_getElem? (i := 15) rfl)
theorem ml_X4_79 : Cond.methodLink RX4 79 yX4_adds ∈ wsL_law := inr_6 _ (List.mem_of_getElem? (i := 19) rfl)
theorem ml_X4_82 : Cond.methodLink RX4 82 yX4_its ∈ wsL_law := inr_8 _ (List.mem_of_getElem? (i := 14) rfl)
theorem ml_X4_85 : Cond.methodLink RX4 85 yX4_givesOff ∈ wsL_law := inr_9 _ (List.mem_of_getElem? (i := 2) rfl)
theorem ml_X4_88 : Cond.methodLink RX4 88 yX4_scentsOf ∈ wsL_law := inr_8 _ (List.mem_of_getElem? (i := 18) rfl)
theorem ml_X4_91 : Cond.methodLink RX4 91 yX4_givesOffAll ∈ wsL_law := inr_8 _ (List.mem_of_getElem? (i := 22) rfl)
theorem ml_X4_96 : Cond.methodLink RX4 96 yX4_isDeed ∈ wsL_law := inr_10 _ (List.mem_of_getElem? (i := 6) rfl)
theorem ml_X4_99 : Cond.methodLink RX4 99 yX4_isUnder ∈ wsL_law := inr_11 _ (List.mem_of_getElem? (i := 15) rfl)
theorem ml_X4_104 : Cond.methodLink RX4 104 yX4_washes ∈ wsL_law := inr_12 _ (List.mem_of_getElem? (i := 6) rfl)
theorem ml_X4_107 : Cond.methodLink RX4 107 yX4_areTwo ∈ wsL_law := inr_13 _ (List.mem_of_getElem? (i := 0) rfl)
theorem ml_X4_110 : Cond.methodLink RX4 110 yX4_grows ∈ wsL_law := inr_13 _ (List.mem_of_getElem? (i := 4) rfl)
theorem ml_X4_113 : Cond.methodLink RX4 113 yX4_absolute ∈ wsL_law := inr_14 _ (List.mem_of_getElem? (i := 18) rfl)
theorem ml_X4_116 : Cond.methodLink RX4 116 yX4_apart ∈ wsL_law := inr_14 _ (List.mem_of_getElem? (i := 14) rfl)
theorem ml_X4_119 : Cond.methodLink RX4 119 yX4_senses ∈ wsL_law := inr_14 _ (List.mem_of_getElem? (i := 21) rfl)
theorem ml_X4_123 : Cond.methodLink RX4 123 yX4_isDownwind ∈ wsL_law := inr_15 _ (List.mem_of_getElem? (i := 1) rfl)
theorem ml_X4_126 : Cond.methodLink RX4 126 yX4_smell ∈ wsL_law := inr_14 _ (List.mem_of_getElem? (i := 10) rfl)
theorem ml_X4_130 : Cond.methodLink RX4 130 yX4_isFound ∈ wsL_law := inr_16 _ (List.mem_of_getElem? (i := 12) rfl)
theorem ml_X4_133 : Cond.methodLink RX4 133 yX4_finders ∈ wsL_law := inr_16 _ (List.mem_of_getElem? (i := 8) rfl)
theorem ml_X4_136 : Cond.methodLink RX4 136 yX4_ones ∈ wsL_law := inr_17 _ (List.mem_of_getElem? (i := 19) rfl)
theorem ml_X4_140 : Cond.methodLink RX4 140 yX4_isConvicted ∈ wsL_law := inr_17 _ (List.mem_of_getElem? (i := 16) rfl)
theorem ml_X4_143 : Cond.methodLink RX4 143 yX4_leftOf ∈ wsL_law := inr_19 _ (List.mem_of_getElem? (i := 18) rfl)
theorem ml_X4_146 : Cond.methodLink RX4 146 yX4_greatestBy ∈ wsL_law := inr_19 _ (List.mem_of_getElem? (i := 22) rfl)
theorem ml_X4_149 : Cond.methodLink RX4 149 yX4_hour ∈ wsL_law := inr_19 _ (List.mem_of_getElem? (i := 14) rfl)
theorem ml_X4_154 : Cond.methodLink RX4 154 yX4_goesOn ∈ wsL_law := inr_19 _ (List.mem_of_getElem? (i := 10) rfl)
theorem ml_X4_158 : Cond.methodLink RX4 158 yX4_scentsAll ∈ wsL_law := inr_20 _ (List.mem_of_getElem? (i := 2) rfl)
theorem ml_X4_162 : Cond.methodLink RX4 162 yX4_allGuilty ∈ wsL_law := inr_20 _ (List.mem_of_getElem? (i := 19) rfl)
theorem ml_X4_165 : Cond.methodLink RX4 165 yX4_laysAside ∈ wsL_law := inr_21 _ (List.mem_of_getElem? (i := 15) rfl)
theorem ml_X4_168 : Cond.methodLink RX4 168 yX4_takesBack ∈ wsL_law := inr_21 _ (List.mem_of_getElem? (i := 19) rfl)
theorem ml_X4_171 : Cond.methodLink RX4 171 yX4_findersMany ∈ wsL_law := inr_23 _ (List.mem_of_getElem? (i := 3) rfl)
theorem ml_X4_174 : Cond.methodLink RX4 174 yX4_leastBy ∈ wsL_law := inr_22 _ (List.mem_of_getElem? (i := 23) rfl)
theorem ml_X4_186 : Cond.methodLink RX4 186 yX4_findJuries ∈ wsL_law := inr_25 _ (List.mem_of_getElem? (i := 4) rfl)
theorem ml_X4_207 : Cond.methodLink RX4 207 yX4_byteAt ∈ wsL_law := inr_32 _ (List.mem_of_getElem? (i := 17) rfl)
theorem ml_X4_210 : Cond.methodLink RX4 210 yX4_isLetter ∈ wsL_law := inr_32 _ (List.mem_of_getElem? (i := 21) rfl)
theorem ml_X4_213 : Cond.methodLink RX4 213 yX4_isDigit ∈ wsL_law := inr_33 _ (List.mem_of_getElem? (i := 2) rfl)
theorem ml_X4_220 : Cond.methodLink RX4 220 yX4_token ∈ wsL_law := inr_32 _ (List.mem_of_getElem? (i := 13) rfl)
theorem ml_X4_230 : Cond.methodLink RX4 230 yX4_must ∈ wsL_law := inr_34 _ (List.mem_of_getElem? (i := 14) rfl)
theorem ml_X4_234 : Cond.methodLink RX4 234 yX4_word ∈ wsL_law := inr_34 _ (List.mem_of_getElem? (i := 0) rfl)
theorem ml_X4_252 : Cond.methodLink RX4 252 yX4_number ∈ wsL_law := inr_34 _ (List.mem_of_getElem? (i := 18) rfl)
theorem ml_X4_261 : Cond.methodLink RX4 261 yX4_kindHere ∈ wsL_law := inr_33 _ (List.mem_of_getElem? (i := 14) rfl)
theorem ml_X4_264 : Cond.methodLink RX4 264 yX4_personItem ∈ wsL_law := inr_34 _ (List.mem_of_getElem? (i := 6) rfl)
theorem ml_X4_271 : Cond.methodLink RX4 271 yX4_saves ∈ wsL_law := inr_32 _ (List.mem_of_getElem? (i := 9) rfl)
theorem ml_X4_274 : Cond.methodLink RX4 274 yX4_item ∈ wsL_law := inr_33 _ (List.mem_of_getElem? (i := 7) rfl)
theorem ml_X4_277 : Cond.methodLink RX4 277 yX4_putsBack ∈ wsL_law := inr_34 _ (List.mem_of_getElem? (i := 22) rfl)
theorem ml_X4_282 : Cond.methodLink RX4 282 yX4_isOne ∈ wsL_law := inr_35 _ (List.mem_of_getElem? (i := 20) rfl)
theorem ml_X4_287 : Cond.methodLink RX4 287 yX4_wrongSheet ∈ wsL_law := inr_36 _ (List.mem_of_getElem? (i := 19) rfl)
theorem ml_X4_290 : Cond.methodLink RX4 290 yX4_narrowed ∈ wsL_law := inr_37 _ (List.mem_of_getElem? (i := 0) rfl)
theorem ml_X4_294 : Cond.methodLink RX4 294 yX4_wrongBook ∈ wsL_law := inr_38 _ (List.mem_of_getElem? (i := 13) rfl)
theorem ml_X4_298 : Cond.methodLink RX4 298 yX4_isBook ∈ wsL_law := inr_39 _ (List.mem_of_getElem? (i := 5) rfl)
theorem ml_X4_305 : Cond.methodLink RX4 305 yX4_together ∈ wsL_law := inr_40 _ (List.mem_of_getElem? (i := 19) rfl)
theorem mv_X0_become : kMV yX0_become cX0_become 3 none 1 := ⟨inr_21 _ (List.mem_of_getElem? (i := 4) rfl), inr_21 _ (List.mem_of_getElem? (i := 5) rfl), inr_1 _ (List.mem_of_getElem? (i := 15) rfl), inr_21 _ (List.mem_of_getElem? (i := 6) rfl), by decide +kernel, by decide +kernel, by decide +kernel⟩
theorem mv_X0_has : kMV yX0_has cX0_has 2 (some .boolean) 1 := ⟨inr_7 _ (List.mem_of_getElem? (i := 11) rfl), inr_7 _ (List.mem_of_getElem? (i := 12) rfl), inr_1 _ (List.mem_of_getElem? (i := 15) rfl), inr_7 _ (List.mem_of_getElem? (i := 13) rfl), by decide +kernel, by decide +kernel, by decide +kernel⟩
theorem mv_X0_hasTwo : kMV yX0_hasTwo cX0_hasTwo 3 (some .boolean) 2 := ⟨inr_12 _ (List.mem_of_getElem? (i := 16) rfl), inr_12 _ (List.mem_of_getElem? (i := 17) rfl), inr_1 _ (List.mem_of_getElem? (i := 15) rfl), inr_12 _ (List.mem_of_getElem? (i := 18) rfl), by decide +kernel, by decide +kernel, by decide +kernel⟩
theorem mv_X0_everybody : kMV yX0_everybody cX0_everybody 1 (some .int) 0 := ⟨inr_16 _ (List.mem_of_getElem? (i := 22) rfl), inr_16 _ (List.mem_of_getElem? (i := 23) rfl), inr_1 _ (List.mem_of_getElem? (i := 15) rfl), inr_17 _ (List.mem_of_getElem? (i := 0) rfl), by decide +kernel, by decide +kernel, by decide +kernel⟩
theorem mv_X0_join : kMV yX0_join cX0_join 5 (some .int) 2 := ⟨inr_6 _ (List.mem_of_getElem? (i := 3) rfl), inr_6 _ (List.mem_of_getElem? (i := 4) rfl), inr_1 _ (List.mem_of_getElem? (i := 15) rfl), inr_6 _ (List.mem_of_getElem? (i := 5) rfl), by decide +kernel, by decide +kernel, by decide +kernel⟩
theorem mv_X0_put : kMV yX0_put cX0_put 4 none 3 := ⟨inr_22 _ (List.mem_of_getElem? (i := 16) rfl), inr_22 _ (List.mem_of_getElem? (i := 17) rfl), inr_1 _ (List.mem_of_getElem? (i := 15) rfl), inr_22 _ (List.mem_of_getElem? (i := 18) rfl), by decide +kernel, by decide +kernel, by decide +kernel⟩
theorem mv_X0_washes : kMV yX0_washes cX0_washes 5 (some .int) 1 := ⟨inr_11 _ (List.mem_of_getElem? (i := 23) rfl), inr_12 _ (List.mem_of_getElem? (i := 0) rfl), inr_1 _ (List.mem_of_getElem? (i := 15) rfl), inr_12 _ (List.mem_of_getElem? (i := 1) rfl), by decide +kernel, by decide +kernel, by decide +kernel⟩
theorem mv_X0_sumOver : kMV yX0_sumOver cX0_sumOver 4 (some .int) 1 := ⟨inr_19 _ (List.mem_of_getElem? (i := 2) rfl), inr_19 _ (List.mem_of_getElem? (i := 3) rfl), inr_1 _ (List.mem_of_getElem? (i := 15) rfl), inr_19 _ (List.mem_of_getElem? (i := 4) rfl), by decide +kernel, by decide +kernel, by decide +kernel⟩
theorem mv_X0_scentsOf : kMV yX0_scentsOf cX0_scentsOf 4 (some .int) 1 := ⟨inr_7 _ (List.mem_of_getElem? (i := 15) rfl), inr_7 _ (List.mem_of_getElem? (i := 16) rfl), inr_1 _ (List.mem_of_getElem? (i := 15) rfl), inr_7 _ (List.mem_of_getElem? (i := 17) rfl), by decide +kernel, by decide +kernel, by decide +kernel⟩
theorem mv_X0_scentsOfAll : kMV yX0_scentsOfAll cX0_scentsOfAll 3 (some .int) 0 := ⟨inr_18 _ (List.mem_of_getElem? (i := 22) rfl), inr_18 _ (List.mem_of_getElem? (i := 23) rfl), inr_1 _ (List.mem_of_getElem? (i := 15) rfl), inr_19 _ (List.mem_of_getElem? (i := 0) rfl), by decide +kernel, by decide +kernel, by decide +kernel⟩
theorem mv_X0_givesOff : kMV yX0_givesOff cX0_givesOff 4 (some .int) 2 := ⟨inr_7 _ (List.mem_of_getElem? (i := 23) rfl), inr_8 _ (List.mem_of_getElem? (i := 0) rfl), inr_1 _ (List.mem_of_getElem? (i := 15) rfl), inr_8 _ (List.mem_of_getElem? (i := 1) rfl), by decide +kernel, by decide +kernel, by decide +kernel⟩
theorem mv_X0_givenOffBy : kMV yX0_givenOffBy cX0_givenOffBy 4 (some .int) 1 := ⟨inr_7 _ (List.mem_of_getElem? (i := 19) rfl), inr_7 _ (List.mem_of_getElem? (i := 20) rfl), inr_1 _ (List.mem_of_getElem? (i := 15) rfl), inr_7 _ (List.mem_of_getElem? (i := 21) rfl), by decide +kernel, by decide +kernel, by decide +kernel⟩
theorem mv_X0_senses : kMV yX0_senses cX0_senses 5 (some .int) 3 := ⟨inr_13 _ (List.mem_of_getElem? (i := 23) rfl), inr_14 _ (List.mem_of_getElem? (i := 0) rfl), inr_1 _ (List.mem_of_getElem? (i := 15) rfl), inr_14 _ (List.mem_of_getElem? (i := 1) rfl), by decide +kernel, by decide +kernel, by decide +kernel⟩
theorem mv_X0_smelt : kMV yX0_smelt cX0_smelt 5 (some .int) 3 := ⟨inr_13 _ (List.mem_of_getElem? (i := 13) rfl), inr_13 _ (List.mem_of_getElem? (i := 14) rfl), inr_1 _ (List.mem_of_getElem? (i := 15) rfl), inr_13 _ (List.mem_of_getElem? (i := 15) rfl), by decide +kernel, by decide +kernel, by decide +kernel⟩
theorem mv_X0_finds : kMV yX0_finds cX0_finds 4 (some .boolean) 2 := ⟨inr_16 _ (List.mem_of_getElem? (i := 0) rfl), inr_16 _ (List.mem_of_getElem? (i := 1) rfl), inr_1 _ (List.mem_of_getElem? (i := 15) rfl), inr_16 _ (List.mem_of_getElem? (i := 2) rfl), by decide +kernel, by decide +kernel, by decide +kernel⟩
theorem mv_X0_finders : kMV yX0_finders cX0_finders 4 (some .int) 1 := ⟨inr_15 _ (List.mem_of_getElem? (i := 20) rfl), inr_15 _ (List.mem_of_getElem? (i := 21) rfl), inr_1 _ (List.mem_of_getElem? (i := 15) rfl), inr_15 _ (List.mem_of_getElem? (i := 22) rfl), by decide +kernel, by decide +kernel, by decide +kernel⟩
theorem mv_X0_foundGuilty : kMV yX0_foundGuilty cX0_foundGuilty 3 (some .int) 0 := ⟨inr_20 _ (List.mem_of_getElem? (i := 11) rfl), inr_20 _ (List.mem_of_getElem? (i := 12) rfl), inr_1 _ (List.mem_of_getElem? (i := 15) rfl), inr_20 _ (List.mem_of_getElem? (i := 13) rfl), by decide +kernel, by decide +kernel, by decide +kernel⟩
theorem mv_X0_hourGoes : kMV yX0_hourGoes cX0_hourGoes 2 none 0 := ⟨inr_18 _ (List.mem_of_getElem? (i := 4) rfl), inr_18 _ (List.mem_of_getElem? (i := 5) rfl), inr_1 _ (List.mem_of_getElem? (i := 15) rfl), inr_18 _ (List.mem_of_getElem? (i := 6) rfl), by decide +kernel, by decide +kernel, by decide +kernel⟩
theorem mv_X0_hourGoesFor : kMV yX0_hourGoesFor cX0_hourGoesFor 2 none 1 := ⟨inr_21 _ (List.mem_of_getElem? (i := 8) rfl), inr_21 _ (List.mem_of_getElem? (i := 9) rfl), inr_1 _ (List.mem_of_getElem? (i := 15) rfl), inr_21 _ (List.mem_of_getElem? (i := 10) rfl), by decide +kernel, by decide +kernel, by decide +kernel⟩
theorem mv_X0_fade : kMV yX0_fade cX0_fade 6 none 1 := ⟨inr_18 _ (List.mem_of_getElem? (i := 8) rfl), inr_18 _ (List.mem_of_getElem? (i := 9) rfl), inr_1 _ (List.mem_of_getElem? (i := 15) rfl), inr_18 _ (List.mem_of_getElem? (i := 10) rfl), by decide +kernel, by decide +kernel, by decide +kernel⟩
theorem mv_X0_strongestBeside : kMV yX0_strongestBeside cX0_strongestBeside 6 (some .int) 2 := ⟨inr_18 _ (List.mem_of_getElem? (i := 16) rfl), inr_18 _ (List.mem_of_getElem? (i := 17) rfl), inr_1 _ (List.mem_of_getElem? (i := 15) rfl), inr_18 _ (List.mem_of_getElem? (i := 18) rfl), by decide +kernel, by decide +kernel, by decide +kernel⟩
theorem mv_X0_isDownwind : kMV yX0_isDownwind cX0_isDownwind 3 (some .boolean) 2 := ⟨inr_14 _ (List.mem_of_getElem? (i := 3) rfl), inr_14 _ (List.mem_of_getElem? (i := 4) rfl), inr_1 _ (List.mem_of_getElem? (i := 15) rfl), inr_14 _ (List.mem_of_getElem? (i := 5) rfl), by decide +kernel, by decide +kernel, by decide +kernel⟩
theorem ms_X0_apart : kMS yX0_apart cX0_apart 2 (some .int) 2 := ⟨inr_13 _ (List.mem_of_getElem? (i := 17) rfl), inr_1 _ (List.mem_of_getElem? (i := 15) rfl), inr_13 _ (List.mem_of_getElem? (i := 18) rfl), by decide +kernel, by decide +kernel, by decide +kernel⟩
theorem mv_X1_renew : kMV yX1_renew cX1_renew 4 none 2 := ⟨inr_35 _ (List.mem_of_getElem? (i := 12) rfl), inr_35 _ (List.mem_of_getElem? (i := 13) rfl), inr_2 _ (List.mem_of_getElem? (i := 2) rfl), inr_35 _ (List.mem_of_getElem? (i := 14) rfl), by decide +kernel, by decide +kernel, by decide +kernel⟩
theorem mv_X1_put : kMV yX1_put cX1_put 4 none 2 := ⟨inr_36 _ (List.mem_of_getElem? (i := 12) rfl), inr_36 _ (List.mem_of_getElem? (i := 13) rfl), inr_2 _ (List.mem_of_getElem? (i := 2) rfl), inr_36 _ (List.mem_of_getElem? (i := 14) rfl), by decide +kernel, by decide +kernel, by decide +kernel⟩
theorem mv_X1_hasRun : kMV yX1_hasRun cX1_hasRun 3 (some .boolean) 2 := ⟨inr_37 _ (List.mem_of_getElem? (i := 9) rfl), inr_37 _ (List.mem_of_getElem? (i := 10) rfl), inr_2 _ (List.mem_of_getElem? (i := 2) rfl), inr_37 _ (List.mem_of_getElem? (i := 11) rfl), by decide +kernel, by decide +kernel, by decide +kernel⟩
theorem mv_X2_append : kMV yX2_append cX2_append 2 none 1 := ⟨inr_26 _ (List.mem_of_getElem? (i := 18) rfl), inr_26 _ (List.mem_of_getElem? (i := 19) rfl), inr_1 _ (List.mem_of_getElem? (i := 21) rfl), inr_26 _ (List.mem_of_getElem? (i := 20) rfl), by decide +kernel, by decide +kernel, by decide +kernel⟩
theorem mv_X2_tellTo : kMV yX2_tellTo cX2_tellTo 3 (some .int) 1 := ⟨inr_27 _ (List.mem_of_getElem? (i := 15) rfl), inr_27 _ (List.mem_of_getElem? (i := 16) rfl), inr_1 _ (List.mem_of_getElem? (i := 21) rfl), inr_27 _ (List.mem_of_getElem? (i := 17) rfl), by decide +kernel, by decide +kernel, by decide +kernel⟩
theorem mv_X2_takesItem : kMV yX2_takesItem cX2_takesItem 2 (some .boolean) 1 := ⟨inr_28 _ (List.mem_of_getElem? (i := 16) rfl), inr_28 _ (List.mem_of_getElem? (i := 17) rfl), inr_1 _ (List.mem_of_getElem? (i := 21) rfl), inr_28 _ (List.mem_of_getElem? (i := 18) rfl), by decide +kernel, by decide +kernel, by decide +kernel⟩
theorem mv_X2_takesPerson : kMV yX2_takesPerson cX2_takesPerson 4 (some .boolean) 1 := ⟨inr_31 _ (List.mem_of_getElem? (i := 7) rfl), inr_31 _ (List.mem_of_getElem? (i := 8) rfl), inr_1 _ (List.mem_of_getElem? (i := 21) rfl), inr_31 _ (List.mem_of_getElem? (i := 9) rfl), by decide +kernel, by decide +kernel, by decide +kernel⟩
theorem mv_X2_takesDeed : kMV yX2_takesDeed cX2_takesDeed 4 (some .boolean) 2 := ⟨inr_31 _ (List.mem_of_getElem? (i := 22) rfl), inr_31 _ (List.mem_of_getElem? (i := 23) rfl), inr_1 _ (List.mem_of_getElem? (i := 21) rfl), inr_32 _ (List.mem_of_getElem? (i := 0) rfl), by decide +kernel, by decide +kernel, by decide +kernel⟩
theorem mv_X2_takesNumber : kMV yX2_takesNumber cX2_takesNumber 3 (some .boolean) 2 := ⟨inr_31 _ (List.mem_of_getElem? (i := 3) rfl), inr_31 _ (List.mem_of_getElem? (i := 4) rfl), inr_1 _ (List.mem_of_getElem? (i := 21) rfl), inr_31 _ (List.mem_of_getElem? (i := 5) rfl), by decide +kernel, by decide +kernel, by decide +kernel⟩
theorem mv_X2_kindNamed : kMV yX2_kindNamed cX2_kindNamed 2 (some .int) 0 := ⟨inr_31 _ (List.mem_of_getElem? (i := 14) rfl), inr_31 _ (List.mem_of_getElem? (i := 15) rfl), inr_1 _ (List.mem_of_getElem? (i := 21) rfl), inr_31 _ (List.mem_of_getElem? (i := 16) rfl), by decide +kernel, by decide +kernel, by decide +kernel⟩
theorem ms_X2_nameOf : kMS yX2_nameOf cX2_nameOf 1 (some (.object "java/lang/String")) 1 := ⟨inr_31 _ (List.mem_of_getElem? (i := 18) rfl), inr_1 _ (List.mem_of_getElem? (i := 21) rfl), inr_31 _ (List.mem_of_getElem? (i := 19) rfl), by decide +kernel, by decide +kernel, by decide +kernel⟩
theorem mv_X2_isWord : kMV yX2_isWord cX2_isWord 3 (some .boolean) 1 := ⟨inr_28 _ (List.mem_of_getElem? (i := 22) rfl), inr_28 _ (List.mem_of_getElem? (i := 23) rfl), inr_1 _ (List.mem_of_getElem? (i := 21) rfl), inr_29 _ (List.mem_of_getElem? (i := 0) rfl), by decide +kernel, by decide +kernel, by decide +kernel⟩
theorem mv_X2_step : kMV yX2_step cX2_step 1 none 0 := ⟨inr_27 _ (List.mem_of_getElem? (i := 19) rfl), inr_27 _ (List.mem_of_getElem? (i := 20) rfl), inr_1 _ (List.mem_of_getElem? (i := 21) rfl), inr_27 _ (List.mem_of_getElem? (i := 21) rfl), by decide +kernel, by decide +kernel, by decide +kernel⟩
theorem mv_X2_passWord : kMV yX2_passWord cX2_passWord 1 none 0 := ⟨inr_28 _ (List.mem_of_getElem? (i := 2) rfl), inr_28 _ (List.mem_of_getElem? (i := 3) rfl), inr_1 _ (List.mem_of_getElem? (i := 21) rfl), inr_28 _ (List.mem_of_getElem? (i := 4) rfl), by decide +kernel, by decide +kernel, by decide +kernel⟩
theorem mv_X2_passNumber : kMV yX2_passNumber cX2_passNumber 1 none 0 := ⟨inr_28 _ (List.mem_of_getElem? (i := 9) rfl), inr_28 _ (List.mem_of_getElem? (i := 10) rfl), inr_1 _ (List.mem_of_getElem? (i := 21) rfl), inr_28 _ (List.mem_of_getElem? (i := 11) rfl), by decide +kernel, by decide +kernel, by decide +kernel⟩
theorem ms_X2_isLetter : kMS yX2_isLetter cX2_isLetter 1 (some .boolean) 1 := ⟨inr_27 _ (List.mem_of_getElem? (i := 23) rfl), inr_1 _ (List.mem_of_getElem? (i := 21) rfl), inr_28 _ (List.mem_of_getElem? (i := 0) rfl), by decide +kernel, by decide +kernel, by decide +kernel⟩
theorem ms_X2_isDigit : kMS yX2_isDigit cX2_isDigit 1 (some .boolean) 1 := ⟨inr_28 _ (List.mem_of_getElem? (i := 6) rfl), inr_1 _ (List.mem_of_getElem? (i := 21) rfl), inr_28 _ (List.mem_of_getElem? (i := 7) rfl), by decide +kernel, by decide +kernel, by decide +kernel⟩
theorem mv_X3_law : kMV yX3_law cX3_law 4 (some .int) 2 := ⟨inr_4 _ (List.mem_of_getElem? (i := 7) rfl), inr_4 _ (List.mem_of_getElem? (i := 8) rfl), inr_1 _ (List.mem_of_getElem? (i := 2) rfl), inr_4 _ (List.mem_of_getElem? (i := 9) rfl), by decide +kernel, by decide +kernel, by decide +kernel⟩
theorem mv_X3_person : kMV yX3_person cX3_person 3 (some .int) 2 := ⟨inr_5 _ (List.mem_of_getElem? (i := 15) rfl), inr_5 _ (List.mem_of_getElem? (i := 16) rfl), inr_1 _ (List.mem_of_getElem? (i := 2) rfl), inr_5 _ (List.mem_of_getElem? (i := 17) rfl), by decide +kernel, by decide +kernel, by decide +kernel⟩
theorem mv_X3_of : kMV yX3_of cX3_of 3 (some .int) 2 := ⟨inr_7 _ (List.mem_of_getElem? (i := 3) rfl), inr_7 _ (List.mem_of_getElem? (i := 4) rfl), inr_1 _ (List.mem_of_getElem? (i := 2) rfl), inr_7 _ (List.mem_of_getElem? (i := 5) rfl), by decide +kernel, by decide +kernel, by decide +kernel⟩
theorem mv_X3_set : kMV yX3_set cX3_set 4 (some .int) 3 := ⟨inr_9 _ (List.mem_of_getElem? (i := 7) rfl), inr_9 _ (List.mem_of_getElem? (i := 8) rfl), inr_1 _ (List.mem_of_getElem? (i := 2) rfl), inr_9 _ (List.mem_of_getElem? (i := 9) rfl), by decide +kernel, by decide +kernel, by decide +kernel⟩
theorem mv_X3_did : kMV yX3_did cX3_did 4 (some .int) 3 := ⟨inr_9 _ (List.mem_of_getElem? (i := 19) rfl), inr_9 _ (List.mem_of_getElem? (i := 20) rfl), inr_1 _ (List.mem_of_getElem? (i := 2) rfl), inr_9 _ (List.mem_of_getElem? (i := 21) rfl), by decide +kernel, by decide +kernel, by decide +kernel⟩
theorem mv_X3_scent : kMV yX3_scent cX3_scent 4 (some .int) 3 := ⟨inr_10 _ (List.mem_of_getElem? (i := 10) rfl), inr_10 _ (List.mem_of_getElem? (i := 11) rfl), inr_1 _ (List.mem_of_getElem? (i := 2) rfl), inr_10 _ (List.mem_of_getElem? (i := 12) rfl), by decide +kernel, by decide +kernel, by decide +kernel⟩
theorem mv_X3_turn : kMV yX3_turn cX3_turn 3 (some .int) 2 := ⟨inr_10 _ (List.mem_of_getElem? (i := 19) rfl), inr_10 _ (List.mem_of_getElem? (i := 20) rfl), inr_1 _ (List.mem_of_getElem? (i := 2) rfl), inr_10 _ (List.mem_of_getElem? (i := 21) rfl), by decide +kernel, by decide +kernel, by decide +kernel⟩
theorem mv_X3_as : kMV yX3_as cX3_as 3 (some .int) 2 := ⟨inr_11 _ (List.mem_of_getElem? (i := 3) rfl), inr_11 _ (List.mem_of_getElem? (i := 4) rfl), inr_1 _ (List.mem_of_getElem? (i := 2) rfl), inr_11 _ (List.mem_of_getElem? (i := 5) rfl), by decide +kernel, by decide +kernel, by decide +kernel⟩
theorem mv_X3_wash : kMV yX3_wash cX3_wash 2 (some .int) 1 := ⟨inr_11 _ (List.mem_of_getElem? (i := 19) rfl), inr_11 _ (List.mem_of_getElem? (i := 20) rfl), inr_1 _ (List.mem_of_getElem? (i := 2) rfl), inr_11 _ (List.mem_of_getElem? (i := 21) rfl), by decide +kernel, by decide +kernel, by decide +kernel⟩
theorem mv_X3_meet : kMV yX3_meet cX3_meet 8 (some .int) 2 := ⟨inr_12 _ (List.mem_of_getElem? (i := 11) rfl), inr_12 _ (List.mem_of_getElem? (i := 12) rfl), inr_1 _ (List.mem_of_getElem? (i := 2) rfl), inr_12 _ (List.mem_of_getElem? (i := 13) rfl), by decide +kernel, by decide +kernel, by decide +kernel⟩
theorem mv_X3_smells : kMV yX3_smells cX3_smells 4 (some .int) 3 := ⟨inr_13 _ (List.mem_of_getElem? (i := 9) rfl), inr_13 _ (List.mem_of_getElem? (i := 10) rfl), inr_1 _ (List.mem_of_getElem? (i := 2) rfl), inr_13 _ (List.mem_of_getElem? (i := 11) rfl), by decide +kernel, by decide +kernel, by decide +kernel⟩
theorem mv_X3_deed : kMV yX3_deed cX3_deed 7 (some .int) 2 := ⟨inr_15 _ (List.mem_of_getElem? (i := 6) rfl), inr_15 _ (List.mem_of_getElem? (i := 7) rfl), inr_1 _ (List.mem_of_getElem? (i := 2) rfl), inr_15 _ (List.mem_of_getElem? (i := 8) rfl), by decide +kernel, by decide +kernel, by decide +kernel⟩
theorem mv_X3_guilty : kMV yX3_guilty cX3_guilty 2 (some .int) 1 := ⟨inr_15 _ (List.mem_of_getElem? (i := 16) rfl), inr_15 _ (List.mem_of_getElem? (i := 17) rfl), inr_1 _ (List.mem_of_getElem? (i := 2) rfl), inr_15 _ (List.mem_of_getElem? (i := 18) rfl), by decide +kernel, by decide +kernel, by decide +kernel⟩
theorem mv_X3_convicts : kMV yX3_convicts cX3_convicts 3 (some .int) 2 := ⟨inr_16 _ (List.mem_of_getElem? (i := 17) rfl), inr_16 _ (List.mem_of_getElem? (i := 18) rfl), inr_1 _ (List.mem_of_getElem? (i := 2) rfl), inr_16 _ (List.mem_of_getElem? (i := 19) rfl), by decide +kernel, by decide +kernel, by decide +kernel⟩
theorem mv_X3_hours : kMV yX3_hours cX3_hours 3 (some .int) 1 := ⟨inr_17 _ (List.mem_of_getElem? (i := 23) rfl), inr_18 _ (List.mem_of_getElem? (i := 0) rfl), inr_1 _ (List.mem_of_getElem? (i := 2) rfl), inr_18 _ (List.mem_of_getElem? (i := 1) rfl), by decide +kernel, by decide +kernel, by decide +kernel⟩
theorem mv_X3_now : kMV yX3_now cX3_now 2 (some .int) 1 := ⟨inr_20 _ (List.mem_of_getElem? (i := 7) rfl), inr_20 _ (List.mem_of_getElem? (i := 8) rfl), inr_1 _ (List.mem_of_getElem? (i := 2) rfl), inr_20 _ (List.mem_of_getElem? (i := 9) rfl), by decide +kernel, by decide +kernel, by decide +kernel⟩
theorem mv_X3_on : kMV yX3_on cX3_on 5 (some .int) 3 := ⟨inr_21 _ (List.mem_of_getElem? (i := 0) rfl), inr_21 _ (List.mem_of_getElem? (i := 1) rfl), inr_1 _ (List.mem_of_getElem? (i := 2) rfl), inr_21 _ (List.mem_of_getElem? (i := 2) rfl), by decide +kernel, by decide +kernel, by decide +kernel⟩
theorem mv_X3_clean : kMV yX3_clean cX3_clean 3 (some .int) 1 := ⟨inr_22 _ (List.mem_of_getElem? (i := 0) rfl), inr_22 _ (List.mem_of_getElem? (i := 1) rfl), inr_1 _ (List.mem_of_getElem? (i := 2) rfl), inr_22 _ (List.mem_of_getElem? (i := 2) rfl), by decide +kernel, by decide +kernel, by decide +kernel⟩
theorem mv_X3_wind : kMV yX3_wind cX3_wind 2 (some .int) 1 := ⟨inr_22 _ (List.mem_of_getElem? (i := 8) rfl), inr_22 _ (List.mem_of_getElem? (i := 9) rfl), inr_1 _ (List.mem_of_getElem? (i := 2) rfl), inr_22 _ (List.mem_of_getElem? (i := 10) rfl), by decide +kernel, by decide +kernel, by decide +kernel⟩
theorem mv_X3_seat : kMV yX3_seat cX3_seat 2 (some .int) 1 := ⟨inr_23 _ (List.mem_of_getElem? (i := 8) rfl), inr_23 _ (List.mem_of_getElem? (i := 9) rfl), inr_1 _ (List.mem_of_getElem? (i := 2) rfl), inr_23 _ (List.mem_of_getElem? (i := 10) rfl), by decide +kernel, by decide +kernel, by decide +kernel⟩
theorem mv_X3_bath : kMV yX3_bath cX3_bath 6 (some .int) 1 := ⟨inr_23 _ (List.mem_of_getElem? (i := 16) rfl), inr_23 _ (List.mem_of_getElem? (i := 17) rfl), inr_1 _ (List.mem_of_getElem? (i := 2) rfl), inr_23 _ (List.mem_of_getElem? (i := 18) rfl), by decide +kernel, by decide +kernel, by decide +kernel⟩
theorem mv_X3_kind : kMV yX3_kind cX3_kind 2 (some .int) 1 := ⟨inr_24 _ (List.mem_of_getElem? (i := 0) rfl), inr_24 _ (List.mem_of_getElem? (i := 1) rfl), inr_1 _ (List.mem_of_getElem? (i := 2) rfl), inr_24 _ (List.mem_of_getElem? (i := 2) rfl), by decide +kernel, by decide +kernel, by decide +kernel⟩
theorem mv_X3_due : kMV yX3_due cX3_due 3 (some .int) 1 := ⟨inr_24 _ (List.mem_of_getElem? (i := 8) rfl), inr_24 _ (List.mem_of_getElem? (i := 9) rfl), inr_1 _ (List.mem_of_getElem? (i := 2) rfl), inr_24 _ (List.mem_of_getElem? (i := 10) rfl), by decide +kernel, by decide +kernel, by decide +kernel⟩
theorem mv_X3_jury : kMV yX3_jury cX3_jury 5 (some .int) 2 := ⟨inr_24 _ (List.mem_of_getElem? (i := 16) rfl), inr_24 _ (List.mem_of_getElem? (i := 17) rfl), inr_1 _ (List.mem_of_getElem? (i := 2) rfl), inr_24 _ (List.mem_of_getElem? (i := 18) rfl), by decide +kernel, by decide +kernel, by decide +kernel⟩
theorem mv_X3_juries : kMV yX3_juries cX3_juries 6 (some .int) 2 := ⟨inr_25 _ (List.mem_of_getElem? (i := 10) rfl), inr_25 _ (List.mem_of_getElem? (i := 11) rfl), inr_1 _ (List.mem_of_getElem? (i := 2) rfl), inr_25 _ (List.mem_of_getElem? (i := 12) rfl), by decide +kernel, by decide +kernel, by decide +kernel⟩
theorem mv_X3_from : kMV yX3_from cX3_from 5 (some .int) 2 := ⟨inr_25 _ (List.mem_of_getElem? (i := 18) rfl), inr_25 _ (List.mem_of_getElem? (i := 19) rfl), inr_1 _ (List.mem_of_getElem? (i := 2) rfl), inr_25 _ (List.mem_of_getElem? (i := 20) rfl), by decide +kernel, by decide +kernel, by decide +kernel⟩
theorem mv_X3_nose : kMV yX3_nose cX3_nose 4 (some .int) 2 := ⟨inr_26 _ (List.mem_of_getElem? (i := 4) rfl), inr_26 _ (List.mem_of_getElem? (i := 5) rfl), inr_1 _ (List.mem_of_getElem? (i := 2) rfl), inr_26 _ (List.mem_of_getElem? (i := 6) rfl), by decide +kernel, by decide +kernel, by decide +kernel⟩
theorem mv_X3_feed : kMV yX3_feed cX3_feed 4 (some .int) 2 := ⟨inr_26 _ (List.mem_of_getElem? (i := 13) rfl), inr_26 _ (List.mem_of_getElem? (i := 14) rfl), inr_1 _ (List.mem_of_getElem? (i := 2) rfl), inr_26 _ (List.mem_of_getElem? (i := 15) rfl), by decide +kernel, by decide +kernel, by decide +kernel⟩
theorem mv_X3_wipe : kMV yX3_wipe cX3_wipe 2 (some .int) 0 := ⟨inr_27 _ (List.mem_of_getElem? (i := 3) rfl), inr_27 _ (List.mem_of_getElem? (i := 4) rfl), inr_1 _ (List.mem_of_getElem? (i := 2) rfl), inr_27 _ (List.mem_of_getElem? (i := 5) rfl), by decide +kernel, by decide +kernel, by decide +kernel⟩
theorem mv_X3_hall : kMV yX3_hall cX3_hall 2 (some .int) 0 := ⟨inr_27 _ (List.mem_of_getElem? (i := 11) rfl), inr_27 _ (List.mem_of_getElem? (i := 12) rfl), inr_1 _ (List.mem_of_getElem? (i := 2) rfl), inr_27 _ (List.mem_of_getElem? (i := 13) rfl), by decide +kernel, by decide +kernel, by decide +kernel⟩
theorem mv_X3_sheet : kMV yX3_sheet cX3_sheet 4 (some .int) 3 := ⟨inr_35 _ (List.mem_of_getElem? (i := 3) rfl), inr_35 _ (List.mem_of_getElem? (i := 4) rfl), inr_1 _ (List.mem_of_getElem? (i := 2) rfl), inr_35 _ (List.mem_of_getElem? (i := 5) rfl), by decide +kernel, by decide +kernel, by decide +kernel⟩
theorem mv_X3_write : kMV yX3_write cX3_write 9 (some .long) 3 := ⟨inr_36 _ (List.mem_of_getElem? (i := 1) rfl), inr_36 _ (List.mem_of_getElem? (i := 2) rfl), inr_1 _ (List.mem_of_getElem? (i := 2) rfl), inr_36 _ (List.mem_of_getElem? (i := 3) rfl), by decide +kernel, by decide +kernel, by decide +kernel⟩
theorem mv_X3_copy : kMV yX3_copy cX3_copy 8 (some .int) 5 := ⟨inr_37 _ (List.mem_of_getElem? (i := 4) rfl), inr_37 _ (List.mem_of_getElem? (i := 5) rfl), inr_1 _ (List.mem_of_getElem? (i := 2) rfl), inr_37 _ (List.mem_of_getElem? (i := 6) rfl), by decide +kernel, by decide +kernel, by decide +kernel⟩
theorem mv_X3_lays : kMV yX3_lays cX3_lays 8 (some .int) 1 := ⟨inr_37 _ (List.mem_of_getElem? (i := 17) rfl), inr_37 _ (List.mem_of_getElem? (i := 18) rfl), inr_1 _ (List.mem_of_getElem? (i := 2) rfl), inr_37 _ (List.mem_of_getElem? (i := 19) rfl), by decide +kernel, by decide +kernel, by decide +kernel⟩
theorem mv_X3_book : kMV yX3_book cX3_book 8 (some .int) 4 := ⟨inr_38 _ (List.mem_of_getElem? (i := 2) rfl), inr_38 _ (List.mem_of_getElem? (i := 3) rfl), inr_1 _ (List.mem_of_getElem? (i := 2) rfl), inr_38 _ (List.mem_of_getElem? (i := 4) rfl), by decide +kernel, by decide +kernel, by decide +kernel⟩
theorem mv_X3_read : kMV yX3_read cX3_read 8 (some .int) 4 := ⟨inr_38 _ (List.mem_of_getElem? (i := 18) rfl), inr_38 _ (List.mem_of_getElem? (i := 19) rfl), inr_1 _ (List.mem_of_getElem? (i := 2) rfl), inr_38 _ (List.mem_of_getElem? (i := 20) rfl), by decide +kernel, by decide +kernel, by decide +kernel⟩
theorem mv_X3_image : kMV yX3_image cX3_image 1 (some .int) 0 := ⟨inr_39 _ (List.mem_of_getElem? (i := 10) rfl), inr_39 _ (List.mem_of_getElem? (i := 11) rfl), inr_1 _ (List.mem_of_getElem? (i := 2) rfl), inr_39 _ (List.mem_of_getElem? (i := 12) rfl), by decide +kernel, by decide +kernel, by decide +kernel⟩
theorem mv_X3_undo : kMV yX3_undo cX3_undo 1 (some .int) 0 := ⟨inr_39 _ (List.mem_of_getElem? (i := 19) rfl), inr_39 _ (List.mem_of_getElem? (i := 20) rfl), inr_1 _ (List.mem_of_getElem? (i := 2) rfl), inr_39 _ (List.mem_of_getElem? (i := 21) rfl), by decide +kernel, by decide +kernel, by decide +kernel⟩
theorem mv_X3_tear : kMV yX3_tear cX3_tear 2 (some .int) 0 := ⟨inr_40 _ (List.mem_of_getElem? (i := 3) rfl), inr_40 _ (List.mem_of_getElem? (i := 4) rfl), inr_1 _ (List.mem_of_getElem? (i := 2) rfl), inr_40 _ (List.mem_of_getElem? (i := 5) rfl), by decide +kernel, by decide +kernel, by decide +kernel⟩
theorem mv_X3_count : kMV yX3_count cX3_count 2 (some .int) 1 := ⟨inr_40 _ (List.mem_of_getElem? (i := 11) rfl), inr_40 _ (List.mem_of_getElem? (i := 12) rfl), inr_1 _ (List.mem_of_getElem? (i := 2) rfl), inr_40 _ (List.mem_of_getElem? (i := 13) rfl), by decide +kernel, by decide +kernel, by decide +kernel⟩
theorem mv_X3_status : kMV yX3_status cX3_status 4 (some .int) 1 := ⟨inr_41 _ (List.mem_of_getElem? (i := 0) rfl), inr_41 _ (List.mem_of_getElem? (i := 1) rfl), inr_1 _ (List.mem_of_getElem? (i := 2) rfl), inr_41 _ (List.mem_of_getElem? (i := 2) rfl), by decide +kernel, by decide +kernel, by decide +kernel⟩
theorem mv_X3_tell : kMV yX3_tell cX3_tell 3 (some .int) 1 := ⟨inr_4 _ (List.mem_of_getElem? (i := 17) rfl), inr_4 _ (List.mem_of_getElem? (i := 18) rfl), inr_1 _ (List.mem_of_getElem? (i := 2) rfl), inr_4 _ (List.mem_of_getElem? (i := 19) rfl), by decide +kernel, by decide +kernel, by decide +kernel⟩
theorem mv_X3_fewestFind : kMV yX3_fewestFind cX3_fewestFind 8 (some .int) 3 := ⟨inr_22 _ (List.mem_of_getElem? (i := 12) rfl), inr_22 _ (List.mem_of_getElem? (i := 13) rfl), inr_1 _ (List.mem_of_getElem? (i := 2) rfl), inr_22 _ (List.mem_of_getElem? (i := 14) rfl), by decide +kernel, by decide +kernel, by decide +kernel⟩
theorem mv_X3_isToldBy : kMV yX3_isToldBy cX3_isToldBy 6 (some .boolean) 4 := ⟨inr_38 _ (List.mem_of_getElem? (i := 22) rfl), inr_38 _ (List.mem_of_getElem? (i := 23) rfl), inr_1 _ (List.mem_of_getElem? (i := 2) rfl), inr_39 _ (List.mem_of_getElem? (i := 0) rfl), by decide +kernel, by decide +kernel, by decide +kernel⟩
theorem mv_X3_findingOfSheet : kMV yX3_findingOfSheet cX3_findingOfSheet 2 (some .int) 1 := ⟨inr_36 _ (List.mem_of_getElem? (i := 6) rfl), inr_36 _ (List.mem_of_getElem? (i := 7) rfl), inr_1 _ (List.mem_of_getElem? (i := 2) rfl), inr_36 _ (List.mem_of_getElem? (i := 8) rfl), by decide +kernel, by decide +kernel, by decide +kernel⟩
theorem mv_X3_findingOfBook : kMV yX3_findingOfBook cX3_findingOfBook 6 (some .int) 4 := ⟨inr_38 _ (List.mem_of_getElem? (i := 6) rfl), inr_38 _ (List.mem_of_getElem? (i := 7) rfl), inr_1 _ (List.mem_of_getElem? (i := 2) rfl), inr_38 _ (List.mem_of_getElem? (i := 8) rfl), by decide +kernel, by decide +kernel, by decide +kernel⟩
theorem ms_X3_exchange : kMS yX3_exchange cX3_exchange 4 (some .int) 3 := ⟨inr_9 _ (List.mem_of_getElem? (i := 11) rfl), inr_1 _ (List.mem_of_getElem? (i := 2) rfl), inr_9 _ (List.mem_of_getElem? (i := 12) rfl), by decide +kernel, by decide +kernel, by decide +kernel⟩
theorem ms_X3_within : kMS yX3_within cX3_within 3 (some .boolean) 3 := ⟨inr_4 _ (List.mem_of_getElem? (i := 14) rfl), inr_1 _ (List.mem_of_getElem? (i := 2) rfl), inr_4 _ (List.mem_of_getElem? (i := 15) rfl), by decide +kernel, by decide +kernel, by decide +kernel⟩
theorem ms_X3_isKind : kMS yX3_isKind cX3_isKind 1 (some .boolean) 1 := ⟨inr_5 _ (List.mem_of_getElem? (i := 21) rfl), inr_1 _ (List.mem_of_getElem? (i := 2) rfl), inr_5 _ (List.mem_of_getElem? (i := 22) rfl), by decide +kernel, by decide +kernel, by decide +kernel⟩
theorem ms_X3_isPlace : kMS yX3_isPlace cX3_isPlace 1 (some .boolean) 1 := ⟨inr_6 _ (List.mem_of_getElem? (i := 0) rfl), inr_1 _ (List.mem_of_getElem? (i := 2) rfl), inr_6 _ (List.mem_of_getElem? (i := 1) rfl), by decide +kernel, by decide +kernel, by decide +kernel⟩
theorem ms_X3_isDeed : kMS yX3_isDeed cX3_isDeed 1 (some .boolean) 1 := ⟨inr_10 _ (List.mem_of_getElem? (i := 0) rfl), inr_1 _ (List.mem_of_getElem? (i := 2) rfl), inr_10 _ (List.mem_of_getElem? (i := 1) rfl), by decide +kernel, by decide +kernel, by decide +kernel⟩
theorem ms_X3_isSheet : kMS yX3_isSheet cX3_isSheet 1 (some .boolean) 1 := ⟨inr_35 _ (List.mem_of_getElem? (i := 9) rfl), inr_1 _ (List.mem_of_getElem? (i := 2) rfl), inr_35 _ (List.mem_of_getElem? (i := 10) rfl), by decide +kernel, by decide +kernel, by decide +kernel⟩
theorem ms_X3_isUnder : kMS yX3_isUnder cX3_isUnder 2 (some .boolean) 2 := ⟨inr_11 _ (List.mem_of_getElem? (i := 8) rfl), inr_1 _ (List.mem_of_getElem? (i := 2) rfl), inr_11 _ (List.mem_of_getElem? (i := 9) rfl), by decide +kernel, by decide +kernel, by decide +kernel⟩
theorem ms_X3_isMajority : kMS yX3_isMajority cX3_isMajority 2 (some .boolean) 2 := ⟨inr_17 _ (List.mem_of_getElem? (i := 2) rfl), inr_1 _ (List.mem_of_getElem? (i := 2) rfl), inr_17 _ (List.mem_of_getElem? (i := 3) rfl), by decide +kernel, by decide +kernel, by decide +kernel⟩
theorem ms_X3_isJuryAgainst : kMS yX3_isJuryAgainst cX3_isJuryAgainst 4 (some .boolean) 4 := ⟨inr_24 _ (List.mem_of_getElem? (i := 20) rfl), inr_1 _ (List.mem_of_getElem? (i := 2) rfl), inr_24 _ (List.mem_of_getElem? (i := 21) rfl), by decide +kernel, by decide +kernel, by decide +kernel⟩
theorem ms_X3_faded : kMS yX3_faded cX3_faded 2 (some .int) 2 := ⟨inr_18 _ (List.mem_of_getElem? (i := 19) rfl), inr_1 _ (List.mem_of_getElem? (i := 2) rfl), inr_18 _ (List.mem_of_getElem? (i := 20) rfl), by decide +kernel, by decide +kernel, by decide +kernel⟩
theorem ms_X4_in : kMS yX4_in cX4_in 6 (some .boolean) 3 := ⟨inr_5 _ (List.mem_of_getElem? (i := 4) rfl), inr_1 _ (List.mem_of_getElem? (i := 5) rfl), inr_5 _ (List.mem_of_getElem? (i := 5) rfl), by decide +kernel, by decide +kernel, by decide +kernel⟩
theorem mv_X4_finds : kMV yX4_finds cX4_finds 2 (some .int) 1 := ⟨inr_5 _ (List.mem_of_getElem? (i := 11) rfl), inr_5 _ (List.mem_of_getElem? (i := 12) rfl), inr_1 _ (List.mem_of_getElem? (i := 5) rfl), inr_5 _ (List.mem_of_getElem? (i := 13) rfl), by decide +kernel, by decide +kernel, by decide +kernel⟩
theorem mv_X4_saves : kMV yX4_saves cX4_saves 2 none 0 := ⟨inr_32 _ (List.mem_of_getElem? (i := 10) rfl), inr_32 _ (List.mem_of_getElem? (i := 11) rfl), inr_1 _ (List.mem_of_getElem? (i := 5) rfl), inr_32 _ (List.mem_of_getElem? (i := 12) rfl), by decide +kernel, by decide +kernel, by decide +kernel⟩
theorem mv_X4_putsBack : kMV yX4_putsBack cX4_putsBack 2 none 0 := ⟨inr_34 _ (List.mem_of_getElem? (i := 23) rfl), inr_35 _ (List.mem_of_getElem? (i := 0) rfl), inr_1 _ (List.mem_of_getElem? (i := 5) rfl), inr_35 _ (List.mem_of_getElem? (i := 1) rfl), by decide +kernel, by decide +kernel, by decide +kernel⟩
theorem mv_X4_laysAside : kMV yX4_laysAside cX4_laysAside 2 none 0 := ⟨inr_21 _ (List.mem_of_getElem? (i := 16) rfl), inr_21 _ (List.mem_of_getElem? (i := 17) rfl), inr_1 _ (List.mem_of_getElem? (i := 5) rfl), inr_21 _ (List.mem_of_getElem? (i := 18) rfl), by decide +kernel, by decide +kernel, by decide +kernel⟩
theorem mv_X4_takesBack : kMV yX4_takesBack cX4_takesBack 3 (some .int) 1 := ⟨inr_21 _ (List.mem_of_getElem? (i := 20) rfl), inr_21 _ (List.mem_of_getElem? (i := 21) rfl), inr_1 _ (List.mem_of_getElem? (i := 5) rfl), inr_21 _ (List.mem_of_getElem? (i := 22) rfl), by decide +kernel, by decide +kernel, by decide +kernel⟩
theorem mv_X4_becomes : kMV yX4_becomes cX4_becomes 4 (some .int) 2 := ⟨inr_5 _ (List.mem_of_getElem? (i := 7) rfl), inr_5 _ (List.mem_of_getElem? (i := 8) rfl), inr_1 _ (List.mem_of_getElem? (i := 5) rfl), inr_5 _ (List.mem_of_getElem? (i := 9) rfl), by decide +kernel, by decide +kernel, by decide +kernel⟩
theorem ms_X4_isPlace : kMS yX4_isPlace cX4_isPlace 1 (some .boolean) 1 := ⟨inr_6 _ (List.mem_of_getElem? (i := 16) rfl), inr_1 _ (List.mem_of_getElem? (i := 5) rfl), inr_6 _ (List.mem_of_getElem? (i := 17) rfl), by decide +kernel, by decide +kernel, by decide +kernel⟩
theorem mv_X4_isPerson : kMV yX4_isPerson cX4_isPerson 2 (some .boolean) 1 := ⟨inr_8 _ (List.mem_of_getElem? (i := 11) rfl), inr_8 _ (List.mem_of_getElem? (i := 12) rfl), inr_1 _ (List.mem_of_getElem? (i := 5) rfl), inr_8 _ (List.mem_of_getElem? (i := 13) rfl), by decide +kernel, by decide +kernel, by decide +kernel⟩
theorem mv_X4_areTwo : kMV yX4_areTwo cX4_areTwo 3 (some .boolean) 2 := ⟨inr_13 _ (List.mem_of_getElem? (i := 1) rfl), inr_13 _ (List.mem_of_getElem? (i := 2) rfl), inr_1 _ (List.mem_of_getElem? (i := 5) rfl), inr_13 _ (List.mem_of_getElem? (i := 3) rfl), by decide +kernel, by decide +kernel, by decide +kernel⟩
theorem ms_X4_isKind : kMS yX4_isKind cX4_isKind 1 (some .boolean) 1 := ⟨inr_6 _ (List.mem_of_getElem? (i := 12) rfl), inr_1 _ (List.mem_of_getElem? (i := 5) rfl), inr_6 _ (List.mem_of_getElem? (i := 13) rfl), by decide +kernel, by decide +kernel, by decide +kernel⟩
theorem ms_X4_isDeed : kMS yX4_isDeed cX4_isDeed 1 (some .boolean) 1 := ⟨inr_10 _ (List.mem_of_getElem? (i := 7) rfl), inr_1 _ (List.mem_of_getElem? (i := 5) rfl), inr_10 _ (List.mem_of_getElem? (i := 8) rfl), by decide +kernel, by decide +kernel, by decide +kernel⟩
theorem ms_X4_spot : kMS yX4_spot cX4_spot 2 (some .int) 2 := ⟨inr_7 _ (List.mem_of_getElem? (i := 0) rfl), inr_1 _ (List.mem_of_getElem? (i := 5) rfl), inr_7 _ (List.mem_of_getElem? (i := 1) rfl), by decide +kernel, by decide +kernel, by decide +kernel⟩
theorem mv_X4_its : kMV yX4_its cX4_its 3 (some .int) 2 := ⟨inr_8 _ (List.mem_of_getElem? (i := 15) rfl), inr_8 _ (List.mem_of_getElem? (i := 16) rfl), inr_1 _ (List.mem_of_getElem? (i := 5) rfl), inr_8 _ (List.mem_of_getElem? (i := 17) rfl), by decide +kernel, by decide +kernel, by decide +kernel⟩
theorem mv_X4_law : kMV yX4_law cX4_law 4 (some .int) 2 := ⟨inr_4 _ (List.mem_of_getElem? (i := 21) rfl), inr_4 _ (List.mem_of_getElem? (i := 22) rfl), inr_1 _ (List.mem_of_getElem? (i := 5) rfl), inr_4 _ (List.mem_of_getElem? (i := 23) rfl), by decide +kernel, by decide +kernel, by decide +kernel⟩
theorem mv_X4_adds : kMV yX4_adds cX4_adds 5 (some .int) 2 := ⟨inr_6 _ (List.mem_of_getElem? (i := 20) rfl), inr_6 _ (List.mem_of_getElem? (i := 21) rfl), inr_1 _ (List.mem_of_getElem? (i := 5) rfl), inr_6 _ (List.mem_of_getElem? (i := 22) rfl), by decide +kernel, by decide +kernel, by decide +kernel⟩
theorem mv_X4_person : kMV yX4_person cX4_person 3 (some .int) 2 := ⟨inr_6 _ (List.mem_of_getElem? (i := 7) rfl), inr_6 _ (List.mem_of_getElem? (i := 8) rfl), inr_1 _ (List.mem_of_getElem? (i := 5) rfl), inr_6 _ (List.mem_of_getElem? (i := 9) rfl), by decide +kernel, by decide +kernel, by decide +kernel⟩
theorem mv_X4_givesOff : kMV yX4_givesOff cX4_givesOff 6 (some .int) 2 := ⟨inr_9 _ (List.mem_of_getElem? (i := 3) rfl), inr_9 _ (List.mem_of_getElem? (i := 4) rfl), inr_1 _ (List.mem_of_getElem? (i := 5) rfl), inr_9 _ (List.mem_of_getElem? (i := 5) rfl), by decide +kernel, by decide +kernel, by decide +kernel⟩
theorem mv_X4_scentsOf : kMV yX4_scentsOf cX4_scentsOf 4 (some .int) 1 := ⟨inr_8 _ (List.mem_of_getElem? (i := 19) rfl), inr_8 _ (List.mem_of_getElem? (i := 20) rfl), inr_1 _ (List.mem_of_getElem? (i := 5) rfl), inr_8 _ (List.mem_of_getElem? (i := 21) rfl), by decide +kernel, by decide +kernel, by decide +kernel⟩
theorem mv_X4_givesOffAll : kMV yX4_givesOffAll cX4_givesOffAll 4 (some .int) 1 := ⟨inr_8 _ (List.mem_of_getElem? (i := 23) rfl), inr_9 _ (List.mem_of_getElem? (i := 0) rfl), inr_1 _ (List.mem_of_getElem? (i := 5) rfl), inr_9 _ (List.mem_of_getElem? (i := 1) rfl), by decide +kernel, by decide +kernel, by decide +kernel⟩
theorem mv_X4_of : kMV yX4_of cX4_of 3 (some .int) 2 := ⟨inr_8 _ (List.mem_of_getElem? (i := 7) rfl), inr_8 _ (List.mem_of_getElem? (i := 8) rfl), inr_1 _ (List.mem_of_getElem? (i := 5) rfl), inr_8 _ (List.mem_of_getElem? (i := 9) rfl), by decide +kernel, by decide +kernel, by decide +kernel⟩
theorem mv_X4_set : kMV yX4_set cX4_set 5 (some .int) 3 := ⟨inr_9 _ (List.mem_of_getElem? (i := 14) rfl), inr_9 _ (List.mem_of_getElem? (i := 15) rfl), inr_1 _ (List.mem_of_getElem? (i := 5) rfl), inr_9 _ (List.mem_of_getElem? (i := 16) rfl), by decide +kernel, by decide +kernel, by decide +kernel⟩
theorem mv_X4_did : kMV yX4_did cX4_did 4 (some .int) 3 := ⟨inr_10 _ (List.mem_of_getElem? (i := 3) rfl), inr_10 _ (List.mem_of_getElem? (i := 4) rfl), inr_1 _ (List.mem_of_getElem? (i := 5) rfl), inr_10 _ (List.mem_of_getElem? (i := 5) rfl), by decide +kernel, by decide +kernel, by decide +kernel⟩
theorem mv_X4_scent : kMV yX4_scent cX4_scent 4 (some .int) 3 := ⟨inr_10 _ (List.mem_of_getElem? (i := 15) rfl), inr_10 _ (List.mem_of_getElem? (i := 16) rfl), inr_1 _ (List.mem_of_getElem? (i := 5) rfl), inr_10 _ (List.mem_of_getElem? (i := 17) rfl), by decide +kernel, by decide +kernel, by decide +kernel⟩
theorem mv_X4_turn : kMV yX4_turn cX4_turn 3 (some .int) 2 := ⟨inr_10 _ (List.mem_of_getElem? (i := 23) rfl), inr_11 _ (List.mem_of_getElem? (i := 0) rfl), inr_1 _ (List.mem_of_getElem? (i := 5) rfl), inr_11 _ (List.mem_of_getElem? (i := 1) rfl), by decide +kernel, by decide +kernel, by decide +kernel⟩
theorem ms_X4_isUnder : kMS yX4_isUnder cX4_isUnder 2 (some .boolean) 2 := ⟨inr_11 _ (List.mem_of_getElem? (i := 16) rfl), inr_1 _ (List.mem_of_getElem? (i := 5) rfl), inr_11 _ (List.mem_of_getElem? (i := 17) rfl), by decide +kernel, by decide +kernel, by decide +kernel⟩
theorem mv_X4_as : kMV yX4_as cX4_as 3 (some .int) 2 := ⟨inr_11 _ (List.mem_of_getElem? (i := 11) rfl), inr_11 _ (List.mem_of_getElem? (i := 12) rfl), inr_1 _ (List.mem_of_getElem? (i := 5) rfl), inr_11 _ (List.mem_of_getElem? (i := 13) rfl), by decide +kernel, by decide +kernel, by decide +kernel⟩
theorem mv_X4_washes : kMV yX4_washes cX4_washes 5 (some .int) 1 := ⟨inr_12 _ (List.mem_of_getElem? (i := 7) rfl), inr_12 _ (List.mem_of_getElem? (i := 8) rfl), inr_1 _ (List.mem_of_getElem? (i := 5) rfl), inr_12 _ (List.mem_of_getElem? (i := 9) rfl), by decide +kernel, by decide +kernel, by decide +kernel⟩
theorem mv_X4_wash : kMV yX4_wash cX4_wash 2 (some .int) 1 := ⟨inr_12 _ (List.mem_of_getElem? (i := 3) rfl), inr_12 _ (List.mem_of_getElem? (i := 4) rfl), inr_1 _ (List.mem_of_getElem? (i := 5) rfl), inr_12 _ (List.mem_of_getElem? (i := 5) rfl), by decide +kernel, by decide +kernel, by decide +kernel⟩
theorem mv_X4_grows : kMV yX4_grows cX4_grows 4 (some .int) 2 := ⟨inr_13 _ (List.mem_of_getElem? (i := 5) rfl), inr_13 _ (List.mem_of_getElem? (i := 6) rfl), inr_1 _ (List.mem_of_getElem? (i := 5) rfl), inr_13 _ (List.mem_of_getElem? (i := 7) rfl), by decide +kernel, by decide +kernel, by decide +kernel⟩
theorem mv_X4_meet : kMV yX4_meet cX4_meet 8 (some .int) 2 := ⟨inr_12 _ (List.mem_of_getElem? (i := 21) rfl), inr_12 _ (List.mem_of_getElem? (i := 22) rfl), inr_1 _ (List.mem_of_getElem? (i := 5) rfl), inr_12 _ (List.mem_of_getElem? (i := 23) rfl), by decide +kernel, by decide +kernel, by decide +kernel⟩
theorem ms_X4_absolute : kMS yX4_absolute cX4_absolute 1 (some .int) 1 := ⟨inr_14 _ (List.mem_of_getElem? (i := 19) rfl), inr_1 _ (List.mem_of_getElem? (i := 5) rfl), inr_14 _ (List.mem_of_getElem? (i := 20) rfl), by decide +kernel, by decide +kernel, by decide +kernel⟩
theorem mv_X4_apart : kMV yX4_apart cX4_apart 5 (some .int) 2 := ⟨inr_14 _ (List.mem_of_getElem? (i := 15) rfl), inr_14 _ (List.mem_of_getElem? (i := 16) rfl), inr_1 _ (List.mem_of_getElem? (i := 5) rfl), inr_14 _ (List.mem_of_getElem? (i := 17) rfl), by decide +kernel, by decide +kernel, by decide +kernel⟩
theorem mv_X4_isDownwind : kMV yX4_isDownwind cX4_isDownwind 5 (some .boolean) 2 := ⟨inr_15 _ (List.mem_of_getElem? (i := 2) rfl), inr_15 _ (List.mem_of_getElem? (i := 3) rfl), inr_1 _ (List.mem_of_getElem? (i := 5) rfl), inr_15 _ (List.mem_of_getElem? (i := 4) rfl), by decide +kernel, by decide +kernel, by decide +kernel⟩
theorem mv_X4_senses : kMV yX4_senses cX4_senses 5 (some .int) 3 := ⟨inr_14 _ (List.mem_of_getElem? (i := 22) rfl), inr_14 _ (List.mem_of_getElem? (i := 23) rfl), inr_1 _ (List.mem_of_getElem? (i := 5) rfl), inr_15 _ (List.mem_of_getElem? (i := 0) rfl), by decide +kernel, by decide +kernel, by decide +kernel⟩
theorem mv_X4_smell : kMV yX4_smell cX4_smell 5 (some .int) 3 := ⟨inr_14 _ (List.mem_of_getElem? (i := 11) rfl), inr_14 _ (List.mem_of_getElem? (i := 12) rfl), inr_1 _ (List.mem_of_getElem? (i := 5) rfl), inr_14 _ (List.mem_of_getElem? (i := 13) rfl), by decide +kernel, by decide +kernel, by decide +kernel⟩
theorem mv_X4_smells : kMV yX4_smells cX4_smells 4 (some .int) 3 := ⟨inr_14 _ (List.mem_of_getElem? (i := 7) rfl), inr_14 _ (List.mem_of_getElem? (i := 8) rfl), inr_1 _ (List.mem_of_getElem? (i := 5) rfl), inr_14 _ (List.mem_of_getElem? (i := 9) rfl), by decide +kernel, by decide +kernel, by decide +kernel⟩
theorem mv_X4_deed : kMV yX4_deed cX4_deed 7 (some .int) 2 := ⟨inr_15 _ (List.mem_of_getElem? (i := 11) rfl), inr_15 _ (List.mem_of_getElem? (i := 12) rfl), inr_1 _ (List.mem_of_getElem? (i := 5) rfl), inr_15 _ (List.mem_of_getElem? (i := 13) rfl), by decide +kernel, by decide +kernel, by decide +kernel⟩
theorem mv_X4_isFound : kMV yX4_isFound cX4_isFound 6 (some .boolean) 2 := ⟨inr_16 _ (List.mem_of_getElem? (i := 13) rfl), inr_16 _ (List.mem_of_getElem? (i := 14) rfl), inr_1 _ (List.mem_of_getElem? (i := 5) rfl), inr_16 _ (List.mem_of_getElem? (i := 15) rfl), by decide +kernel, by decide +kernel, by decide +kernel⟩
theorem mv_X4_finders : kMV yX4_finders cX4_finders 4 (some .int) 1 := ⟨inr_16 _ (List.mem_of_getElem? (i := 9) rfl), inr_16 _ (List.mem_of_getElem? (i := 10) rfl), inr_1 _ (List.mem_of_getElem? (i := 5) rfl), inr_16 _ (List.mem_of_getElem? (i := 11) rfl), by decide +kernel, by decide +kernel, by decide +kernel⟩
theorem ms_X4_ones : kMS yX4_ones cX4_ones 3 (some .int) 1 := ⟨inr_17 _ (List.mem_of_getElem? (i := 20) rfl), inr_1 _ (List.mem_of_getElem? (i := 5) rfl), inr_17 _ (List.mem_of_getElem? (i := 21) rfl), by decide +kernel, by decide +kernel, by decide +kernel⟩
theorem mv_X4_findersMany : kMV yX4_findersMany cX4_findersMany 2 (some .int) 1 := ⟨inr_23 _ (List.mem_of_getElem? (i := 4) rfl), inr_23 _ (List.mem_of_getElem? (i := 5) rfl), inr_1 _ (List.mem_of_getElem? (i := 5) rfl), inr_23 _ (List.mem_of_getElem? (i := 6) rfl), by decide +kernel, by decide +kernel, by decide +kernel⟩
theorem mv_X4_guilty : kMV yX4_guilty cX4_guilty 2 (some .int) 1 := ⟨inr_16 _ (List.mem_of_getElem? (i := 5) rfl), inr_16 _ (List.mem_of_getElem? (i := 6) rfl), inr_1 _ (List.mem_of_getElem? (i := 5) rfl), inr_16 _ (List.mem_of_getElem? (i := 7) rfl), by decide +kernel, by decide +kernel, by decide +kernel⟩
theorem ms_X4_isConvicted : kMS yX4_isConvicted cX4_isConvicted 2 (some .boolean) 2 := ⟨inr_17 _ (List.mem_of_getElem? (i := 17) rfl), inr_1 _ (List.mem_of_getElem? (i := 5) rfl), inr_17 _ (List.mem_of_getElem? (i := 18) rfl), by decide +kernel, by decide +kernel, by decide +kernel⟩
theorem mv_X4_convicts : kMV yX4_convicts cX4_convicts 3 (some .int) 2 := ⟨inr_17 _ (List.mem_of_getElem? (i := 12) rfl), inr_17 _ (List.mem_of_getElem? (i := 13) rfl), inr_1 _ (List.mem_of_getElem? (i := 5) rfl), inr_17 _ (List.mem_of_getElem? (i := 14) rfl), by decide +kernel, by decide +kernel, by decide +kernel⟩
theorem mv_X4_greatestBy : kMV yX4_greatestBy cX4_greatestBy 6 (some .int) 2 := ⟨inr_19 _ (List.mem_of_getElem? (i := 23) rfl), inr_20 _ (List.mem_of_getElem? (i := 0) rfl), inr_1 _ (List.mem_of_getElem? (i := 5) rfl), inr_20 _ (List.mem_of_getElem? (i := 1) rfl), by decide +kernel, by decide +kernel, by decide +kernel⟩
theorem mv_X4_leftOf : kMV yX4_leftOf cX4_leftOf 5 (some .int) 2 := ⟨inr_19 _ (List.mem_of_getElem? (i := 19) rfl), inr_19 _ (List.mem_of_getElem? (i := 20) rfl), inr_1 _ (List.mem_of_getElem? (i := 5) rfl), inr_19 _ (List.mem_of_getElem? (i := 21) rfl), by decide +kernel, by decide +kernel, by decide +kernel⟩
theorem mv_X4_hour : kMV yX4_hour cX4_hour 4 none 0 := ⟨inr_19 _ (List.mem_of_getElem? (i := 15) rfl), inr_19 _ (List.mem_of_getElem? (i := 16) rfl), inr_1 _ (List.mem_of_getElem? (i := 5) rfl), inr_19 _ (List.mem_of_getElem? (i := 17) rfl), by decide +kernel, by decide +kernel, by decide +kernel⟩
theorem mv_X4_goesOn : kMV yX4_goesOn cX4_goesOn 3 none 1 := ⟨inr_19 _ (List.mem_of_getElem? (i := 11) rfl), inr_19 _ (List.mem_of_getElem? (i := 12) rfl), inr_1 _ (List.mem_of_getElem? (i := 5) rfl), inr_19 _ (List.mem_of_getElem? (i := 13) rfl), by decide +kernel, by decide +kernel, by decide +kernel⟩
theorem mv_X4_scentsAll : kMV yX4_scentsAll cX4_scentsAll 3 (some .int) 0 := ⟨inr_20 _ (List.mem_of_getElem? (i := 3) rfl), inr_20 _ (List.mem_of_getElem? (i := 4) rfl), inr_1 _ (List.mem_of_getElem? (i := 5) rfl), inr_20 _ (List.mem_of_getElem? (i := 5) rfl), by decide +kernel, by decide +kernel, by decide +kernel⟩
theorem mv_X4_hours : kMV yX4_hours cX4_hours 2 (some .int) 1 := ⟨inr_19 _ (List.mem_of_getElem? (i := 6) rfl), inr_19 _ (List.mem_of_getElem? (i := 7) rfl), inr_1 _ (List.mem_of_getElem? (i := 5) rfl), inr_19 _ (List.mem_of_getElem? (i := 8) rfl), by decide +kernel, by decide +kernel, by decide +kernel⟩
theorem mv_X4_allGuilty : kMV yX4_allGuilty cX4_allGuilty 3 (some .int) 0 := ⟨inr_20 _ (List.mem_of_getElem? (i := 20) rfl), inr_20 _ (List.mem_of_getElem? (i := 21) rfl), inr_1 _ (List.mem_of_getElem? (i := 5) rfl), inr_20 _ (List.mem_of_getElem? (i := 22) rfl), by decide +kernel, by decide +kernel, by decide +kernel⟩
theorem mv_X4_now : kMV yX4_now cX4_now 2 (some .int) 1 := ⟨inr_20 _ (List.mem_of_getElem? (i := 16) rfl), inr_20 _ (List.mem_of_getElem? (i := 17) rfl), inr_1 _ (List.mem_of_getElem? (i := 5) rfl), inr_20 _ (List.mem_of_getElem? (i := 18) rfl), by decide +kernel, by decide +kernel, by decide +kernel⟩
theorem mv_X4_on : kMV yX4_on cX4_on 4 (some .int) 3 := ⟨inr_21 _ (List.mem_of_getElem? (i := 12) rfl), inr_21 _ (List.mem_of_getElem? (i := 13) rfl), inr_1 _ (List.mem_of_getElem? (i := 5) rfl), inr_21 _ (List.mem_of_getElem? (i := 14) rfl), by decide +kernel, by decide +kernel, by decide +kernel⟩
theorem mv_X4_clean : kMV yX4_clean cX4_clean 4 (some .int) 1 := ⟨inr_22 _ (List.mem_of_getElem? (i := 4) rfl), inr_22 _ (List.mem_of_getElem? (i := 5) rfl), inr_1 _ (List.mem_of_getElem? (i := 5) rfl), inr_22 _ (List.mem_of_getElem? (i := 6) rfl), by decide +kernel, by decide +kernel, by decide +kernel⟩
theorem mv_X4_leastBy : kMV yX4_leastBy cX4_leastBy 9 (some .int) 3 := ⟨inr_23 _ (List.mem_of_getElem? (i := 0) rfl), inr_23 _ (List.mem_of_getElem? (i := 1) rfl), inr_1 _ (List.mem_of_getElem? (i := 5) rfl), inr_23 _ (List.mem_of_getElem? (i := 2) rfl), by decide +kernel, by decide +kernel, by decide +kernel⟩
theorem mv_X4_wind : kMV yX4_wind cX4_wind 2 (some .int) 1 := ⟨inr_22 _ (List.mem_of_getElem? (i := 20) rfl), inr_22 _ (List.mem_of_getElem? (i := 21) rfl), inr_1 _ (List.mem_of_getElem? (i := 5) rfl), inr_22 _ (List.mem_of_getElem? (i := 22) rfl), by decide +kernel, by decide +kernel, by decide +kernel⟩
theorem mv_X4_seat : kMV yX4_seat cX4_seat 2 (some .int) 1 := ⟨inr_23 _ (List.mem_of_getElem? (i := 12) rfl), inr_23 _ (List.mem_of_getElem? (i := 13) rfl), inr_1 _ (List.mem_of_getElem? (i := 5) rfl), inr_23 _ (List.mem_of_getElem? (i := 14) rfl), by decide +kernel, by decide +kernel, by decide +kernel⟩
theorem mv_X4_kind : kMV yX4_kind cX4_kind 2 (some .int) 1 := ⟨inr_24 _ (List.mem_of_getElem? (i := 4) rfl), inr_24 _ (List.mem_of_getElem? (i := 5) rfl), inr_1 _ (List.mem_of_getElem? (i := 5) rfl), inr_24 _ (List.mem_of_getElem? (i := 6) rfl), by decide +kernel, by decide +kernel, by decide +kernel⟩
theorem mv_X4_bath : kMV yX4_bath cX4_bath 7 (some .int) 1 := ⟨inr_23 _ (List.mem_of_getElem? (i := 20) rfl), inr_23 _ (List.mem_of_getElem? (i := 21) rfl), inr_1 _ (List.mem_of_getElem? (i := 5) rfl), inr_23 _ (List.mem_of_getElem? (i := 22) rfl), by decide +kernel, by decide +kernel, by decide +kernel⟩
theorem mv_X4_due : kMV yX4_due cX4_due 4 (some .int) 1 := ⟨inr_24 _ (List.mem_of_getElem? (i := 12) rfl), inr_24 _ (List.mem_of_getElem? (i := 13) rfl), inr_1 _ (List.mem_of_getElem? (i := 5) rfl), inr_24 _ (List.mem_of_getElem? (i := 14) rfl), by decide +kernel, by decide +kernel, by decide +kernel⟩
theorem mv_X4_findJuries : kMV yX4_findJuries cX4_findJuries 5 none 2 := ⟨inr_25 _ (List.mem_of_getElem? (i := 5) rfl), inr_25 _ (List.mem_of_getElem? (i := 6) rfl), inr_1 _ (List.mem_of_getElem? (i := 5) rfl), inr_25 _ (List.mem_of_getElem? (i := 7) rfl), by decide +kernel, by decide +kernel, by decide +kernel⟩
theorem mv_X4_jury : kMV yX4_jury cX4_jury 3 (some .int) 2 := ⟨inr_24 _ (List.mem_of_getElem? (i := 23) rfl), inr_25 _ (List.mem_of_getElem? (i := 0) rfl), inr_1 _ (List.mem_of_getElem? (i := 5) rfl), inr_25 _ (List.mem_of_getElem? (i := 1) rfl), by decide +kernel, by decide +kernel, by decide +kernel⟩
theorem mv_X4_juries : kMV yX4_juries cX4_juries 3 (some .int) 2 := ⟨inr_25 _ (List.mem_of_getElem? (i := 14) rfl), inr_25 _ (List.mem_of_getElem? (i := 15) rfl), inr_1 _ (List.mem_of_getElem? (i := 5) rfl), inr_25 _ (List.mem_of_getElem? (i := 16) rfl), by decide +kernel, by decide +kernel, by decide +kernel⟩
theorem mv_X4_from : kMV yX4_from cX4_from 6 (some .int) 2 := ⟨inr_26 _ (List.mem_of_getElem? (i := 0) rfl), inr_26 _ (List.mem_of_getElem? (i := 1) rfl), inr_1 _ (List.mem_of_getElem? (i := 5) rfl), inr_26 _ (List.mem_of_getElem? (i := 2) rfl), by decide +kernel, by decide +kernel, by decide +kernel⟩
theorem mv_X4_nose : kMV yX4_nose cX4_nose 6 (some .int) 2 := ⟨inr_26 _ (List.mem_of_getElem? (i := 9) rfl), inr_26 _ (List.mem_of_getElem? (i := 10) rfl), inr_1 _ (List.mem_of_getElem? (i := 5) rfl), inr_26 _ (List.mem_of_getElem? (i := 11) rfl), by decide +kernel, by decide +kernel, by decide +kernel⟩
theorem mv_X4_feed : kMV yX4_feed cX4_feed 4 (some .int) 2 := ⟨inr_26 _ (List.mem_of_getElem? (i := 22) rfl), inr_26 _ (List.mem_of_getElem? (i := 23) rfl), inr_1 _ (List.mem_of_getElem? (i := 5) rfl), inr_27 _ (List.mem_of_getElem? (i := 0) rfl), by decide +kernel, by decide +kernel, by decide +kernel⟩
theorem mv_X4_wipe : kMV yX4_wipe cX4_wipe 2 (some .int) 0 := ⟨inr_27 _ (List.mem_of_getElem? (i := 7) rfl), inr_27 _ (List.mem_of_getElem? (i := 8) rfl), inr_1 _ (List.mem_of_getElem? (i := 5) rfl), inr_27 _ (List.mem_of_getElem? (i := 9) rfl), by decide +kernel, by decide +kernel, by decide +kernel⟩
theorem mv_X4_byteAt : kMV yX4_byteAt cX4_byteAt 2 (some .int) 1 := ⟨inr_32 _ (List.mem_of_getElem? (i := 18) rfl), inr_32 _ (List.mem_of_getElem? (i := 19) rfl), inr_1 _ (List.mem_of_getElem? (i := 5) rfl), inr_32 _ (List.mem_of_getElem? (i := 20) rfl), by decide +kernel, by decide +kernel, by decide +kernel⟩
theorem ms_X4_isLetter : kMS yX4_isLetter cX4_isLetter 1 (some .boolean) 1 := ⟨inr_32 _ (List.mem_of_getElem? (i := 22) rfl), inr_1 _ (List.mem_of_getElem? (i := 5) rfl), inr_32 _ (List.mem_of_getElem? (i := 23) rfl), by decide +kernel, by decide +kernel, by decide +kernel⟩
theorem ms_X4_isDigit : kMS yX4_isDigit cX4_isDigit 1 (some .boolean) 1 := ⟨inr_33 _ (List.mem_of_getElem? (i := 3) rfl), inr_1 _ (List.mem_of_getElem? (i := 5) rfl), inr_33 _ (List.mem_of_getElem? (i := 4) rfl), by decide +kernel, by decide +kernel, by decide +kernel⟩
theorem mv_X4_token : kMV yX4_token cX4_token 3 none 0 := ⟨inr_32 _ (List.mem_of_getElem? (i := 14) rfl), inr_32 _ (List.mem_of_getElem? (i := 15) rfl), inr_1 _ (List.mem_of_getElem? (i := 5) rfl), inr_32 _ (List.mem_of_getElem? (i := 16) rfl), by decide +kernel, by decide +kernel, by decide +kernel⟩
theorem mv_X4_must : kMV yX4_must cX4_must 2 none 1 := ⟨inr_34 _ (List.mem_of_getElem? (i := 15) rfl), inr_34 _ (List.mem_of_getElem? (i := 16) rfl), inr_1 _ (List.mem_of_getElem? (i := 5) rfl), inr_34 _ (List.mem_of_getElem? (i := 17) rfl), by decide +kernel, by decide +kernel, by decide +kernel⟩
theorem mv_X4_word : kMV yX4_word cX4_word 4 (some .long) 0 := ⟨inr_34 _ (List.mem_of_getElem? (i := 1) rfl), inr_34 _ (List.mem_of_getElem? (i := 2) rfl), inr_1 _ (List.mem_of_getElem? (i := 5) rfl), inr_34 _ (List.mem_of_getElem? (i := 3) rfl), by decide +kernel, by decide +kernel, by decide +kernel⟩
theorem mv_X4_number : kMV yX4_number cX4_number 6 none 2 := ⟨inr_34 _ (List.mem_of_getElem? (i := 19) rfl), inr_34 _ (List.mem_of_getElem? (i := 20) rfl), inr_1 _ (List.mem_of_getElem? (i := 5) rfl), inr_34 _ (List.mem_of_getElem? (i := 21) rfl), by decide +kernel, by decide +kernel, by decide +kernel⟩
theorem mv_X4_kindHere : kMV yX4_kindHere cX4_kindHere 3 (some .int) 0 := ⟨inr_33 _ (List.mem_of_getElem? (i := 15) rfl), inr_33 _ (List.mem_of_getElem? (i := 16) rfl), inr_1 _ (List.mem_of_getElem? (i := 5) rfl), inr_33 _ (List.mem_of_getElem? (i := 17) rfl), by decide +kernel, by decide +kernel, by decide +kernel⟩
theorem mv_X4_personItem : kMV yX4_personItem cX4_personItem 4 none 1 := ⟨inr_34 _ (List.mem_of_getElem? (i := 7) rfl), inr_34 _ (List.mem_of_getElem? (i := 8) rfl), inr_1 _ (List.mem_of_getElem? (i := 5) rfl), inr_34 _ (List.mem_of_getElem? (i := 9) rfl), by decide +kernel, by decide +kernel, by decide +kernel⟩
theorem mv_X4_item : kMV yX4_item cX4_item 4 none 0 := ⟨inr_33 _ (List.mem_of_getElem? (i := 8) rfl), inr_33 _ (List.mem_of_getElem? (i := 9) rfl), inr_1 _ (List.mem_of_getElem? (i := 5) rfl), inr_33 _ (List.mem_of_getElem? (i := 10) rfl), by decide +kernel, by decide +kernel, by decide +kernel⟩
theorem mv_X4_hall : kMV yX4_hall cX4_hall 2 (some .int) 0 := ⟨inr_32 _ (List.mem_of_getElem? (i := 3) rfl), inr_32 _ (List.mem_of_getElem? (i := 4) rfl), inr_1 _ (List.mem_of_getElem? (i := 5) rfl), inr_32 _ (List.mem_of_getElem? (i := 5) rfl), by decide +kernel, by decide +kernel, by decide +kernel⟩
theorem ms_X4_isOne : kMS yX4_isOne cX4_isOne 1 (some .boolean) 1 := ⟨inr_35 _ (List.mem_of_getElem? (i := 21) rfl), inr_1 _ (List.mem_of_getElem? (i := 5) rfl), inr_35 _ (List.mem_of_getElem? (i := 22) rfl), by decide +kernel, by decide +kernel, by decide +kernel⟩
theorem mv_X4_sheet : kMV yX4_sheet cX4_sheet 5 (some .int) 3 := ⟨inr_35 _ (List.mem_of_getElem? (i := 16) rfl), inr_35 _ (List.mem_of_getElem? (i := 17) rfl), inr_1 _ (List.mem_of_getElem? (i := 5) rfl), inr_35 _ (List.mem_of_getElem? (i := 18) rfl), by decide +kernel, by decide +kernel, by decide +kernel⟩
theorem ms_X4_narrowed : kMS yX4_narrowed cX4_narrowed 3 (some .long) 2 := ⟨inr_37 _ (List.mem_of_getElem? (i := 1) rfl), inr_1 _ (List.mem_of_getElem? (i := 5) rfl), inr_37 _ (List.mem_of_getElem? (i := 2) rfl), by decide +kernel, by decide +kernel, by decide +kernel⟩
theorem mv_X4_wrongSheet : kMV yX4_wrongSheet cX4_wrongSheet 2 (some .int) 1 := ⟨inr_36 _ (List.mem_of_getElem? (i := 20) rfl), inr_36 _ (List.mem_of_getElem? (i := 21) rfl), inr_1 _ (List.mem_of_getElem? (i := 5) rfl), inr_36 _ (List.mem_of_getElem? (i := 22) rfl), by decide +kernel, by decide +kernel, by decide +kernel⟩
theorem mv_X4_write : kMV yX4_write cX4_write 8 (some .long) 3 := ⟨inr_36 _ (List.mem_of_getElem? (i := 16) rfl), inr_36 _ (List.mem_of_getElem? (i := 17) rfl), inr_1 _ (List.mem_of_getElem? (i := 5) rfl), inr_36 _ (List.mem_of_getElem? (i := 18) rfl), by decide +kernel, by decide +kernel, by decide +kernel⟩
theorem mv_X4_copy : kMV yX4_copy cX4_copy 7 (some .int) 5 := ⟨inr_37 _ (List.mem_of_getElem? (i := 13) rfl), inr_37 _ (List.mem_of_getElem? (i := 14) rfl), inr_1 _ (List.mem_of_getElem? (i := 5) rfl), inr_37 _ (List.mem_of_getElem? (i := 15) rfl), by decide +kernel, by decide +kernel, by decide +kernel⟩
theorem mv_X4_lays : kMV yX4_lays cX4_lays 6 (some .int) 1 := ⟨inr_37 _ (List.mem_of_getElem? (i := 22) rfl), inr_37 _ (List.mem_of_getElem? (i := 23) rfl), inr_1 _ (List.mem_of_getElem? (i := 5) rfl), inr_38 _ (List.mem_of_getElem? (i := 0) rfl), by decide +kernel, by decide +kernel, by decide +kernel⟩
theorem mv_X4_wrongBook : kMV yX4_wrongBook cX4_wrongBook 6 (some .int) 4 := ⟨inr_38 _ (List.mem_of_getElem? (i := 14) rfl), inr_38 _ (List.mem_of_getElem? (i := 15) rfl), inr_1 _ (List.mem_of_getElem? (i := 5) rfl), inr_38 _ (List.mem_of_getElem? (i := 16) rfl), by decide +kernel, by decide +kernel, by decide +kernel⟩
theorem mv_X4_book : kMV yX4_book cX4_book 7 (some .int) 4 := ⟨inr_38 _ (List.mem_of_getElem? (i := 10) rfl), inr_38 _ (List.mem_of_getElem? (i := 11) rfl), inr_1 _ (List.mem_of_getElem? (i := 5) rfl), inr_38 _ (List.mem_of_getElem? (i := 12) rfl), by decide +kernel, by decide +kernel, by decide +kernel⟩
theorem mv_X4_isBook : kMV yX4_isBook cX4_isBook 6 (some .boolean) 4 := ⟨inr_39 _ (List.mem_of_getElem? (i := 6) rfl), inr_39 _ (List.mem_of_getElem? (i := 7) rfl), inr_1 _ (List.mem_of_getElem? (i := 5) rfl), inr_39 _ (List.mem_of_getElem? (i := 8) rfl), by decide +kernel, by decide +kernel, by decide +kernel⟩
theorem mv_X4_read : kMV yX4_read cX4_read 8 (some .int) 4 := ⟨inr_39 _ (List.mem_of_getElem? (i := 2) rfl), inr_39 _ (List.mem_of_getElem? (i := 3) rfl), inr_1 _ (List.mem_of_getElem? (i := 5) rfl), inr_39 _ (List.mem_of_getElem? (i := 4) rfl), by decide +kernel, by decide +kernel, by decide +kernel⟩
theorem mv_X4_image : kMV yX4_image cX4_image 2 (some .int) 0 := ⟨inr_39 _ (List.mem_of_getElem? (i := 14) rfl), inr_39 _ (List.mem_of_getElem? (i := 15) rfl), inr_1 _ (List.mem_of_getElem? (i := 5) rfl), inr_39 _ (List.mem_of_getElem? (i := 16) rfl), by decide +kernel, by decide +kernel, by decide +kernel⟩
theorem mv_X4_undo : kMV yX4_undo cX4_undo 2 (some .int) 0 := ⟨inr_39 _ (List.mem_of_getElem? (i := 23) rfl), inr_40 _ (List.mem_of_getElem? (i := 0) rfl), inr_1 _ (List.mem_of_getElem? (i := 5) rfl), inr_40 _ (List.mem_of_getElem? (i := 1) rfl), by decide +kernel, by decide +kernel, by decide +kernel⟩
theorem mv_X4_tear : kMV yX4_tear cX4_tear 2 (some .int) 0 := ⟨inr_40 _ (List.mem_of_getElem? (i := 7) rfl), inr_40 _ (List.mem_of_getElem? (i := 8) rfl), inr_1 _ (List.mem_of_getElem? (i := 5) rfl), inr_40 _ (List.mem_of_getElem? (i := 9) rfl), by decide +kernel, by decide +kernel, by decide +kernel⟩
theorem mv_X4_together : kMV yX4_together cX4_together 4 (some .int) 1 := ⟨inr_40 _ (List.mem_of_getElem? (i := 20) rfl), inr_40 _ (List.mem_of_getElem? (i := 21) rfl), inr_1 _ (List.mem_of_getElem? (i := 5) rfl), inr_40 _ (List.mem_of_getElem? (i := 22) rfl), by decide +kernel, by decide +kernel, by decide +kernel⟩
theorem mv_X4_count : kMV yX4_count cX4_count 2 (some .int) 1 := ⟨inr_40 _ (List.mem_of_getElem? (i := 16) rfl), inr_40 _ (List.mem_of_getElem? (i := 17) rfl), inr_1 _ (List.mem_of_getElem? (i := 5) rfl), inr_40 _ (List.mem_of_getElem? (i := 18) rfl), by decide +kernel, by decide +kernel, by decide +kernel⟩
theorem mv_X4_status : kMV yX4_status cX4_status 4 (some .int) 1 := ⟨inr_41 _ (List.mem_of_getElem? (i := 4) rfl), inr_41 _ (List.mem_of_getElem? (i := 5) rfl), inr_1 _ (List.mem_of_getElem? (i := 5) rfl), inr_41 _ (List.mem_of_getElem? (i := 6) rfl), by decide +kernel, by decide +kernel, by decide +kernel⟩
theorem ms_J6_bitCount_0f7a4 : kMS yJ6_bitCount_0f7a4 cJ6_bitCount_0f7a4 1 (some .int) 1 := ⟨inr_17 _ (List.mem_of_getElem? (i := 5) rfl), inr_17 _ (List.mem_of_getElem? (i := 6) rfl), inr_17 _ (List.mem_of_getElem? (i := 7) rfl), by decide +kernel, by decide +kernel, by decide +kernel⟩
theorem mv_J0_length_8abf5 : kMV yJ0_length_8abf5 cJ0_length_8abf5 1 (some .int) 0 := ⟨inr_29 _ (List.mem_of_getElem? (i := 2) rfl), inr_29 _ (List.mem_of_getElem? (i := 3) rfl), inr_29 _ (List.mem_of_getElem? (i := 4) rfl), inr_29 _ (List.mem_of_getElem? (i := 5) rfl), by decide +kernel, by decide +kernel, by decide +kernel⟩
theorem mv_J0_charAt_5068e : kMV yJ0_charAt_5068e cJ0_charAt_5068e 2 (some .char) 1 := ⟨inr_29 _ (List.mem_of_getElem? (i := 14) rfl), inr_29 _ (List.mem_of_getElem? (i := 15) rfl), inr_29 _ (List.mem_of_getElem? (i := 4) rfl), inr_29 _ (List.mem_of_getElem? (i := 16) rfl), by decide +kernel, by decide +kernel, by decide +kernel⟩
theorem mv_J0_coder_7d493 : kMV yJ0_coder_7d493 cJ0_coder_7d493 1 (some .byte) 0 := ⟨inr_29 _ (List.mem_of_getElem? (i := 8) rfl), inr_29 _ (List.mem_of_getElem? (i := 9) rfl), inr_29 _ (List.mem_of_getElem? (i := 4) rfl), inr_29 _ (List.mem_of_getElem? (i := 10) rfl), by decide +kernel, by decide +kernel, by decide +kernel⟩
theorem mv_J0_isLatin1_aae02 : kMV yJ0_isLatin1_aae02 cJ0_isLatin1_aae02 1 (some .boolean) 0 := ⟨inr_29 _ (List.mem_of_getElem? (i := 18) rfl), inr_29 _ (List.mem_of_getElem? (i := 19) rfl), inr_29 _ (List.mem_of_getElem? (i := 4) rfl), inr_29 _ (List.mem_of_getElem? (i := 20) rfl), by decide +kernel, by decide +kernel, by decide +kernel⟩
theorem ms_J0_checkIndex_df160 : kMS yJ0_checkIndex_df160 cJ0_checkIndex_df160 2 none 2 := ⟨inr_30 _ (List.mem_of_getElem? (i := 2) rfl), inr_29 _ (List.mem_of_getElem? (i := 4) rfl), inr_30 _ (List.mem_of_getElem? (i := 3) rfl), by decide +kernel, by decide +kernel, by decide +kernel⟩
theorem ms_J1_charAt_3b067 : kMS yJ1_charAt_3b067 cJ1_charAt_3b067 2 (some .char) 2 := ⟨inr_29 _ (List.mem_of_getElem? (i := 22) rfl), inr_29 _ (List.mem_of_getElem? (i := 23) rfl), inr_30 _ (List.mem_of_getElem? (i := 0) rfl), by decide +kernel, by decide +kernel, by decide +kernel⟩
theorem ms_J2_getChar_3b067 : kMS yJ2_getChar_3b067 cJ2_getChar_3b067 2 (some .char) 2 := ⟨inr_30 _ (List.mem_of_getElem? (i := 21) rfl), inr_30 _ (List.mem_of_getElem? (i := 11) rfl), inr_30 _ (List.mem_of_getElem? (i := 22) rfl), by decide +kernel, by decide +kernel, by decide +kernel⟩
theorem ms_J2_length_9d52b : kMS yJ2_length_9d52b cJ2_length_9d52b 1 (some .int) 1 := ⟨inr_30 _ (List.mem_of_getElem? (i := 17) rfl), inr_30 _ (List.mem_of_getElem? (i := 11) rfl), inr_30 _ (List.mem_of_getElem? (i := 18) rfl), by decide +kernel, by decide +kernel, by decide +kernel⟩
theorem ms_J2_charAt_3b067 : kMS yJ2_charAt_3b067 cJ2_charAt_3b067 2 (some .char) 2 := ⟨inr_30 _ (List.mem_of_getElem? (i := 10) rfl), inr_30 _ (List.mem_of_getElem? (i := 11) rfl), inr_30 _ (List.mem_of_getElem? (i := 12) rfl), by decide +kernel, by decide +kernel, by decide +kernel⟩
theorem ms_J2_checkIndex_2214a : kMS yJ2_checkIndex_2214a cJ2_checkIndex_2214a 2 none 2 := ⟨inr_30 _ (List.mem_of_getElem? (i := 14) rfl), inr_30 _ (List.mem_of_getElem? (i := 11) rfl), inr_30 _ (List.mem_of_getElem? (i := 15) rfl), by decide +kernel, by decide +kernel, by decide +kernel⟩
theorem ms_J3_checkIndex_8e157 : kMS yJ3_checkIndex_8e157 cJ3_checkIndex_8e157 3 (some .int) 3 := ⟨inr_30 _ (List.mem_of_getElem? (i := 6) rfl), inr_30 _ (List.mem_of_getElem? (i := 7) rfl), inr_30 _ (List.mem_of_getElem? (i := 8) rfl), by decide +kernel, by decide +kernel, by decide +kernel⟩
theorem mm_max : Cond.static Lib.Math.max.name ∈ wsL_law ∧ Cond.initialized "java/lang/Math" ∈ wsL_law ∧ Cond.code Lib.Math.max.name Lib.Math.max.code 2 (some .int) ∈ wsL_law := ⟨inr_8 _ (List.mem_of_getElem? (i := 3) rfl), inr_8 _ (List.mem_of_getElem? (i := 4) rfl), inr_8 _ (List.mem_of_getElem? (i := 5) rfl)⟩
theorem mm_min : Cond.static Lib.Math.min.name ∈ wsL_law ∧ Cond.initialized "java/lang/Math" ∈ wsL_law ∧ Cond.code Lib.Math.min.name Lib.Math.min.code 2 (some .int) ∈ wsL_law := ⟨inr_28 _ (List.mem_of_getElem? (i := 13) rfl), inr_8 _ (List.mem_of_getElem? (i := 4) rfl), inr_28 _ (List.mem_of_getElem? (i := 14) rfl)⟩
theorem mm_abs : Cond.static Lib.Math.abs.name ∈ wsL_law ∧ Cond.initialized "java/lang/Math" ∈ wsL_law ∧ Cond.code Lib.Math.abs.name Lib.Math.abs.code 1 (some .int) ∈ wsL_law := ⟨inr_13 _ (List.mem_of_getElem? (i := 20) rfl), inr_8 _ (List.mem_of_getElem? (i := 4) rfl), inr_13 _ (List.mem_of_getElem? (i := 21) rfl)⟩
theorem mm_copy : Cond.native arraycopyName ∈ wsL_law ∧ Cond.static arraycopyName ∈ wsL_law ∧ Cond.initialized "java/lang/System" ∈ wsL_law := ⟨inr_18 _ (List.mem_of_getElem? (i := 12) rfl), inr_18 _ (List.mem_of_getElem? (i := 13) rfl), inr_18 _ (List.mem_of_getElem? (i := 14) rfl)⟩
end
section
def kb (b : Bool) : Int32 := if b then 1 else 0
theorem kb_t : kb true = 1 := rfl
theorem kb_f : kb false = 0 := rfl
theorem kb_nar (b : Bool) : narrow .boolean (.int (kb b)) = .int (kb b) := by cases b <;> rfl
theorem kb_fit (b : Bool) : fits .boolean (.int (kb b)) = true := by cases b <;> rfl
theorem kb_0 {b : Bool} : kb b = 0 ↔ b = false := by cases b <;> decide
theorem kb_1 {b : Bool} : kb b = 1 ↔ b = true := by cases b <;> decide
abbrev rmK (h : Nat) : Room := { frames := h, cells := 0, slots := 0, locals := 40 * h }
theorem kRm_ok {h k n : Nat} (h1 : h + 1 ≤ k) (h2 : n ≤ 21) : kRm (rmK k) (rmK h) n := ⟨rfl, rfl, h1, by show 8 + (n + 11) + 40 * h ≤ 40 * k; omega⟩
theorem nI_shl {i : Nat} (h : i < 31) : (nI 1) <<< (nI i &&& 31) = nI (2 ^ i) := by
  have key : ∀ j, j < 31 → (nI 1) <<< (nI j &&& 31) = nI (2 ^ j) := by decide +kernel
  exact key i h
section KN
variable {l : Launch} {R : Room} {cc : ByteArray} {own : String} {nL : Nat} {g : KG} {J : KT} {ws ws2 : va_W} {lv lv1 : List (Nat × Value)} {pc : Nat} {st : List Value}
theorem n_iadd (hJ : KO l R cc own nL g J) {a b : Nat} (hd : decode cc pc = .ok (.iadd, 1)) (k : J ws lv (pc + 1) (.int (nI (a + b)) :: st)) : J ws lv pc (.int (nI b) :: .int (nI a) :: st) := k_iadd hJ hd (by rw [nI_add]; exact k)
theorem n_isub (hJ : KO l R cc own nL g J) {a b : Nat} (hd : decode cc pc = .ok (.isub, 1)) (h : b ≤ a) (k : J ws lv (pc + 1) (.int (nI (a - b)) :: st)) : J ws lv pc (.int (nI b) :: .int (nI a) :: st) := k_isub hJ hd (by rw [pk_sub h]; exact k)
theorem n_imul (hJ : KO l R cc own nL g J) {a b : Nat} (hd : decode cc pc = .ok (.imul, 1)) (k : J ws lv (pc + 1) (.int (nI (a * b)) :: st)) : J ws lv pc (.int (nI b) :: .int (nI a) :: st) := k_imul hJ hd (by rw [pk_mul]; exact k)
theorem n_idiv (hJ : KO l R cc own nL g J) {a b : Nat} (hd : decode cc pc = .ok (.idiv, 1)) (ha : a < 2 ^ 31) (h0 : 0 < b) (hb : b < 2 ^ 31) (k : J ws lv (pc + 1) (.int (nI (a / b)) :: st)) : J ws lv pc (.int (nI b) :: .int (nI a) :: st) := k_idiv hJ hd (nI_ne0 h0 hb) (by rw [pk_div ha h0 hb]; exact k)
theorem n_irem (hJ : KO l R cc own nL g J) {a b : Nat} (hd : decode cc pc = .ok (.irem, 1)) (ha : a < 2 ^ 31) (h0 : 0 < b) (hb : b < 2 ^ 31) (k : J ws lv (pc + 1) (.int (nI (a % b)) :: st)) : J ws lv pc (.int (nI b) :: .int (nI a) :: st) := k_irem hJ hd (nI_ne0 h0 hb) (by rw [pk_rem ha h0 hb]; exact k)
theorem n_ibit (hJ : KO l R cc own nL g J) {a : Nat} (hd : decode cc pc = .ok (.ishl, 1)) (ha : a < 31) (k : J ws lv (pc + 1) (.int (nI (2 ^ a)) :: st)) : J ws lv pc (.int (nI a) :: .int (nI 1) :: st) := k_ishl hJ hd (by rw [nI_shl ha]; exact k)
theorem n_iinc (hJ : KO l R cc own nL g J) {i a b : Nat} {n : Int} (hd : decode cc pc = .ok (.iinc i n, 3)) (j : Nat) (hj : lv[j]? = some (i, .int (nI a))) (hb : Int32.ofInt n = nI b) (hn : i < nL) (ks : List Nat) (hp : lv_pick ((i, Value.int (nI (a + b))) :: lv.filter (fun q => !(q.1 == i) && !(q.1 + 1 == i && q.2.category == 2))) ks = lv1) (k1 : J ws lv1 (pc + 3) st) : J ws lv pc st := k_iinc hJ hd j hj (by rw [hb, nI_add]) hn ks hp k1
theorem n_icmp_eq (hJ : KO l R cc own nL g J) {a b : Nat} {off : Int} {tgt : Nat} (hd : decode cc pc = .ok (.if_icmp .eq off, 3)) (ht : (pc : Int) + off = (tgt : Int)) (ha : a < 2 ^ 31) (hb : b < 2 ^ 31) (kt : a = b → J ws lv tgt st) (kf : a ≠ b → J ws lv (pc + 3) st) : J ws lv pc (.int (nI b) :: .int (nI a) :: st) := k_icmp_eq hJ hd ht (fun h => kt ((nI_eq ha hb).mp h)) (fun h => kf ((fun q => h ((nI_eq ha hb).mpr q))))
theorem n_if_eq (hJ : KO l R cc own nL g J) {a : Nat} {off : Int} {tgt : Nat} (hd : decode cc pc = .ok (.ifCond .eq off, 3)) (ht : (pc : Int) + off = (tgt : Int)) (ha : a < 2 ^ 31) (kt : a = 0 → J ws lv tgt st) (kf : a ≠ 0 → J ws lv (pc + 3) st) : J ws lv pc (.int (nI a) :: st) := k_if_eq hJ hd ht (fun h => kt (by rw [← nI_0] at h; exact (nI_eq ha (Nat.two_pow_pos 31)).mp h)) (fun h => kf (by rw [← nI_0] at h; exact (fun q => h ((nI_eq ha (Nat.two_pow_pos 31)).mpr q))))
theorem n_icmp_ne (hJ : KO l R cc own nL g J) {a b : Nat} {off : Int} {tgt : Nat} (hd : decode cc pc = .ok (.if_icmp .ne off, 3)) (ht : (pc : Int) + off = (tgt : Int)) (ha : a < 2 ^ 31) (hb : b < 2 ^ 31) (kt : a ≠ b → J ws lv tgt st) (kf : a = b → J ws lv (pc + 3) st) : J ws lv pc (.int (nI b) :: .int (nI a) :: st) := k_icmp_ne hJ hd ht (fun h => kt ((fun q => h ((nI_eq ha hb).mpr q)))) (fun h => kf ((nI_eq ha hb).mp h))
theorem n_if_ne (hJ : KO l R cc own nL g J) {a : Nat} {off : Int} {tgt : Nat} (hd : decode cc pc = .ok (.ifCond .ne off, 3)) (ht : (pc : Int) + off = (tgt : Int)) (ha : a < 2 ^ 31) (kt : a ≠ 0 → J ws lv tgt st) (kf : a = 0 → J ws lv (pc + 3) st) : J ws lv pc (.int (nI a) :: st) := k_if_ne hJ hd ht (fun h => kt (by rw [← nI_0] at h; exact (fun q => h ((nI_eq ha (Nat.two_pow_pos 31)).mpr q)))) (fun h => kf (by rw [← nI_0] at h; exact (nI_eq ha (Nat.two_pow_pos 31)).mp h))
theorem n_icmp_lt (hJ : KO l R cc own nL g J) {a b : Nat} {off : Int} {tgt : Nat} (hd : decode cc pc = .ok (.if_icmp .lt off, 3)) (ht : (pc : Int) + off = (tgt : Int)) (ha : a < 2 ^ 31) (hb : b < 2 ^ 31) (kt : a < b → J ws lv tgt st) (kf : b ≤ a → J ws lv (pc + 3) st) : J ws lv pc (.int (nI b) :: .int (nI a) :: st) := k_icmp_lt hJ hd ht (fun h => kt ((nI_ltI ha hb).mp h)) (fun h => kf (Nat.not_lt.mp (fun q => h ((nI_ltI ha hb).mpr q))))
theorem n_if_lt (hJ : KO l R cc own nL g J) {a : Nat} {off : Int} {tgt : Nat} (hd : decode cc pc = .ok (.ifCond .lt off, 3)) (ht : (pc : Int) + off = (tgt : Int)) (ha : a < 2 ^ 31) (kt : a < 0 → J ws lv tgt st) (kf : 0 ≤ a → J ws lv (pc + 3) st) : J ws lv pc (.int (nI a) :: st) := k_if_lt hJ hd ht (fun h => kt (by rw [← nI_0] at h; exact (nI_ltI ha (Nat.two_pow_pos 31)).mp h)) (fun h => kf (by rw [← nI_0] at h; exact Nat.not_lt.mp (fun q => h ((nI_ltI ha (Nat.two_pow_pos 31)).mpr q))))
theorem n_icmp_ge (hJ : KO l R cc own nL g J) {a b : Nat} {off : Int} {tgt : Nat} (hd : decode cc pc = .ok (.if_icmp .ge off, 3)) (ht : (pc : Int) + off = (tgt : Int)) (ha : a < 2 ^ 31) (hb : b < 2 ^ 31) (kt : b ≤ a → J ws lv tgt st) (kf : a < b → J ws lv (pc + 3) st) : J ws lv pc (.int (nI b) :: .int (nI a) :: st) := k_icmp_ge hJ hd ht (fun h => kt ((nI_leI hb ha).mp h)) (fun h => kf (Nat.not_le.mp (fun q => h ((nI_leI hb ha).mpr q))))
theorem n_if_ge (hJ : KO l R cc own nL g J) {a : Nat} {off : Int} {tgt : Nat} (hd : decode cc pc = .ok (.ifCond .ge off, 3)) (ht : (pc : Int) + off = (tgt : Int)) (ha : a < 2 ^ 31) (kt : 0 ≤ a → J ws lv tgt st) (kf : a < 0 → J ws lv (pc + 3) st) : J ws lv pc (.int (nI a) :: st) := k_if_ge hJ hd ht (fun h => kt (by rw [← nI_0] at h; exact (nI_leI (Nat.two_pow_pos 31) ha).mp h)) (fun h => kf (by rw [← nI_0] at h; exact Nat.not_le.mp (fun q => h ((nI_leI (Nat.two_pow_pos 31) ha).mpr q))))
theorem n_icmp_gt (hJ : KO l R cc own nL g J) {a b : Nat} {off : Int} {tgt : Nat} (hd : decode cc pc = .ok (.if_icmp .gt off, 3)) (ht : (pc : Int) + off = (tgt : Int)) (ha : a < 2 ^ 31) (hb : b < 2 ^ 31) (kt : b < a → J ws lv tgt st) (kf : a ≤ b → J ws lv (pc + 3) st) : J ws lv pc (.int (nI b) :: .int (nI a) :: st) := k_icmp_gt hJ hd ht (fun h => kt ((nI_ltI hb ha).mp h)) (fun h => kf (Nat.not_lt.mp (fun q => h ((nI_ltI hb ha).mpr q))))
theorem n_if_gt (hJ : KO l R cc own nL g J) {a : Nat} {off : Int} {tgt : Nat} (hd : decode cc pc = .ok (.ifCond .gt off, 3)) (ht : (pc : Int) + off = (tgt : Int)) (ha : a < 2 ^ 31) (kt : 0 < a → J ws lv tgt st) (kf : a ≤ 0 → J ws lv (pc + 3) st) : J ws lv pc (.int (nI a) :: st) := k_if_gt hJ hd ht (fun h => kt (by rw [← nI_0] at h; exact (nI_ltI (Nat.two_pow_pos 31) ha).mp h)) (fun h => kf (by rw [← nI_0] at h; exact Nat.not_lt.mp (fun q => h ((nI_ltI (Nat.two_pow_pos 31) ha).mpr q))))
theorem n_icmp_le (hJ : KO l R cc own nL g J) {a b : Nat} {off : Int} {tgt : Nat} (hd : decode cc pc = .ok (.if_icmp .le off, 3)) (ht : (pc : Int) + off = (tgt : Int)) (ha : a < 2 ^ 31) (hb : b < 2 ^ 31) (kt : a ≤ b → J ws lv tgt st) (kf : b < a → J ws lv (pc + 3) st) : J ws lv pc (.int (nI b) :: .int (nI a) :: st) := k_icmp_le hJ hd ht (fun h => kt ((nI_leI ha hb).mp h)) (fun h => kf (Nat.not_le.mp (fun q => h ((nI_leI ha hb).mpr q))))
theorem n_if_le (hJ : KO l R cc own nL g J) {a : Nat} {off : Int} {tgt : Nat} (hd : decode cc pc = .ok (.ifCond .le off, 3)) (ht : (pc : Int) + off = (tgt : Int)) (ha : a < 2 ^ 31) (kt : a ≤ 0 → J ws lv tgt st) (kf : 0 < a → J ws lv (pc + 3) st) : J ws lv pc (.int (nI a) :: st) := k_if_le hJ hd ht (fun h => kt (by rw [← nI_0] at h; exact (nI_leI ha (Nat.two_pow_pos 31)).mp h)) (fun h => kf (by rw [← nI_0] at h; exact Nat.not_le.mp (fun q => h ((nI_leI ha (Nat.two_pow_pos 31)).mpr q))))
theorem b_if_eq (hJ : KO l R cc own nL g J) {b : Bool} {off : Int} {tgt : Nat} (hd : decode cc pc = .ok (.ifCond .eq off, 3)) (ht : (pc : Int) + off = (tgt : Int)) (kt : b = false → J ws lv tgt st) (kf : b = true → J ws lv (pc + 3) st) : J ws lv pc (.int (kb b) :: st) := k_if_eq hJ hd ht (fun h => kt (kb_0.mp h)) (fun h => kf (by cases b with | false => exact absurd rfl h | true => rfl))
theorem b_if_ne (hJ : KO l R cc own nL g J) {b : Bool} {off : Int} {tgt : Nat} (hd : decode cc pc = .ok (.ifCond .ne off, 3)) (ht : (pc : Int) + off = (tgt : Int)) (kt : b = true → J ws lv tgt st) (kf : b = false → J ws lv (pc + 3) st) : J ws lv pc (.int (kb b) :: st) := k_if_ne hJ hd ht (fun h => kt (by cases b with | false => exact absurd rfl h | true => rfl)) (fun h => kf (kb_0.mp h))
/-- another world that any heap of this one holds too -/
theorem k_ws (hJ : KO l R cc own nL g J) (h : ∀ H, va_P g.1 vwCl ws H → va_P g.1 vwCl ws2 H) (ha : ws2.map Prod.fst = ws.map Prod.fst) (k : J ws2 lv pc st) : J ws lv pc st := by
  obtain ⟨p, e, s, m, args, below, meth, c, A, cs, sl, Q, C, hE, hA, hcs, hsl, rfl⟩ := hJ
  exact fun H locs ls hP hD hS hl => k H locs ls (h H hP) (kD_congr ha hD) hS hl
theorem k_eqw (e : ws = ws2) (k : J ws2 lv pc st) : J ws lv pc st := e ▸ k
theorem k_eqs {st2 : List Value} (e : st = st2) (k : J ws lv pc st2) : J ws lv pc st := e ▸ k
theorem k_eql (e : lv = lv1) (k : J ws lv1 pc st) : J ws lv pc st := e ▸ k
/-- an array's contents count within its length alone -/
theorem kP_arr {D : va_G} {cl : List vw_C} {H : Heap} {q a n : Nat} {c : ClassId} {f f2 : Nat → Int32} (he : ws[q]? = some (a, .inl (c, n, .inl f))) (hf : ∀ i, i < n → f2 i = f i) (hP : va_P D cl ws H) : va_P D cl (ws.set q (a, .inl (c, n, .inl f2))) H := by
  have hl := (List.getElem?_eq_some_iff.mp he).1
  intro k x hk
  by_cases e : k = q
  · subst e
    rw [List.getElem?_set_self hl] at hk
    cases hk
    have h0 := hP k _ he
    show H[a]? = some (vp_cell c (n, .inl f2))
    rw [show vp_cell c (n, .inl f2) = vp_cell c (n, .inl f) from by
      show arrV c n (fun j => .int (f2 j)) = arrV c n (fun j => .int (f j))
      unfold arrV
      congr 1
      apply Array.ext
      · simp
      · intro i h1 h2
        simp only [Array.getElem_ofFn]
        rw [hf i (by simpa using h1)]]
    exact h0
  · rw [List.getElem?_set_ne (Ne.symm e)] at hk
    exact hP k x hk
theorem k_mmax {h : Nat} (hJ : KO l (rmK (h + 1)) cc own nL g J) {index : Nat} {x y : Int32} (hlk : Cond.methodLink own index Lib.Math.max.name ∈ wsL_law) (hdep : (st.map (fun v => v.category)).sum ≤ 8) (hd : decode cc pc = .ok (.invokestatic index, 3)) (k : J ws lv (pc + 3) (.int (if x < y then y else x) :: st)) : J ws lv pc (.int y :: .int x :: st) := by
  obtain ⟨p, e, s, m, args, below, meth, c, A, cs, sl, Q, C, hE, hA, hcs, hsl, rfl⟩ := hJ
  have hts := C.2.2.2.2
  exact fun H locs ls hP hD hS hl => va_mmax C.1 C.2.1 (by rw [C.2.2.1]; exact hl.1.symm) C.2.2.2.1 (hts _ hlk) (hts _ mm_max.1) (hts _ mm_max.2.1) (hts _ mm_max.2.2) (Nat.le_add_left 1 h) (by show _ + 13 ≤ 40 * (h + 1); omega) hcs hsl hd (k H locs ls hP hD hS hl)
theorem k_mmin {h : Nat} (hJ : KO l (rmK (h + 1)) cc own nL g J) {index : Nat} {x y : Int32} (hlk : Cond.methodLink own index Lib.Math.min.name ∈ wsL_law) (hdep : (st.map (fun v => v.category)).sum ≤ 8) (hd : decode cc pc = .ok (.invokestatic index, 3)) (k : J ws lv (pc + 3) (.int (if y < x then y else x) :: st)) : J ws lv pc (.int y :: .int x :: st) := by
  obtain ⟨p, e, s, m, args, below, meth, c, A, cs, sl, Q, C, hE, hA, hcs, hsl, rfl⟩ := hJ
  have hts := C.2.2.2.2
  exact fun H locs ls hP hD hS hl => va_mmin C.1 C.2.1 (by rw [C.2.2.1]; exact hl.1.symm) C.2.2.2.1 (hts _ hlk) (hts _ mm_min.1) (hts _ mm_min.2.1) (hts _ mm_min.2.2) (Nat.le_add_left 1 h) (by show _ + 13 ≤ 40 * (h + 1); omega) hcs hsl hd (k H locs ls hP hD hS hl)
theorem k_mabs {h : Nat} (hJ : KO l (rmK (h + 1)) cc own nL g J) {index : Nat} {x : Int32} (hlk : Cond.methodLink own index Lib.Math.abs.name ∈ wsL_law) (hdep : (st.map (fun v => v.category)).sum ≤ 8) (hd : decode cc pc = .ok (.invokestatic index, 3)) (k : J ws lv (pc + 3) (.int (if 0 ≤ x then x else 0 - x) :: st)) : J ws lv pc (.int x :: st) := by
  obtain ⟨p, e, s, m, args, below, meth, c, A, cs, sl, Q, C, hE, hA, hcs, hsl, rfl⟩ := hJ
  have hts := C.2.2.2.2
  exact fun H locs ls hP hD hS hl => va_mabs C.1 C.2.1 (by rw [C.2.2.1]; exact hl.1.symm) C.2.2.2.1 (hts _ hlk) (hts _ mm_abs.1) (hts _ mm_abs.2.1) (hts _ mm_abs.2.2) (Nat.le_add_left 1 h) (by show _ + 13 ≤ 40 * (h + 1); omega) hcs hsl hd (k H locs ls hP hD hS hl)
theorem k_copyi {h : Nat} (hJ : KO l (rmK (h + 1)) cc own nL g J) {index a0 a1 n0 n1 sp dp n : Nat} {f f1 : Nat → Int32} (hlk : Cond.methodLink own index arraycopyName ∈ wsL_law) (q0 q1 : Nat) (he0 : ws[q0]? = some (a0, .inl (kI g, n0, .inl f))) (he1 : ws[q1]? = some (a1, .inl (kI g, n1, .inl f1))) (h0 : sp + n ≤ n0) (h1 : dp + n ≤ n1) (hb0 : n0 < 2 ^ 31) (hb1 : n1 < 2 ^ 31) (hws : ws.set q1 (a1, .inl (kI g, n1, .inl (va_cpy f f1 sp dp n))) = ws2) (hdep : (st.map (fun v => v.category)).sum ≤ 8) (hd : decode cc pc = .ok (.invokestatic index, 3)) (k : J ws2 lv (pc + 3) st) : J ws lv pc (.int (nI n) :: .int (nI dp) :: .ref a1 :: .int (nI sp) :: .ref a0 :: st) := by
  obtain ⟨p, e, s, m, args, below, meth, c, A, cs, sl, Q, C, hE, hA, hcs, hsl, rfl⟩ := hJ
  have hts := C.2.2.2.2
  subst hws
  intro H locs ls hP hD hS hl
  have e1 : (nI sp).toNatClampNeg = sp := nI_clamp (by omega)
  have e2 : (nI dp).toNatClampNeg = dp := nI_clamp (by omega)
  have e3 : (nI n).toNatClampNeg = n := nI_clamp (by omega)
  refine va_copyi (ty := .int) C.1 C.2.1 (by rw [C.2.2.1]; exact hl.1.symm) C.2.2.2.1 (hts _ hlk) (hts _ mm_copy.1) (hts _ mm_copy.2.1) (hts _ mm_copy.2.2) hE.1 hP hD hS q0 q1 0 0 he0 he1 rfl rfl rfl (nI_pos (by omega)) (nI_pos (by omega)) (nI_pos (by omega)) (by rw [e1, e3]; exact h0) (by rw [e2, e3]; exact h1) (fun _ _ => rfl) (Nat.le_add_left 1 h) ?_ hd ?_
  · have hn : nativeFrameWords "java/lang/System" "arraycopy" 5 + 11 ≤ 32 := by decide +kernel
    show _ ≤ 40 * (h + 1)
    omega
  · rw [e1, e2, e3]
    exact fun H1 locs1 hP1 hD1 hS1 => k H1 locs1 ls hP1 hD1 hS1 hl
theorem k_copyl {h : Nat} (hJ : KO l (rmK (h + 1)) cc own nL g J) {index a0 a1 n0 n1 sp dp n : Nat} {f f1 : Nat → Int64} (hlk : Cond.methodLink own index arraycopyName ∈ wsL_law) (q0 q1 : Nat) (he0 : ws[q0]? = some (a0, .inl (kL g, n0, .inr (.inl f)))) (he1 : ws[q1]? = some (a1, .inl (kL g, n1, .inr (.inl f1)))) (h0 : sp + n ≤ n0) (h1 : dp + n ≤ n1) (hb0 : n0 < 2 ^ 31) (hb1 : n1 < 2 ^ 31) (hws : ws.set q1 (a1, .inl (kL g, n1, .inr (.inl (va_cpy f f1 sp dp n)))) = ws2) (hdep : (st.map (fun v => v.category)).sum ≤ 8) (hd : decode cc pc = .ok (.invokestatic index, 3)) (k : J ws2 lv (pc + 3) st) : J ws lv pc (.int (nI n) :: .int (nI dp) :: .ref a1 :: .int (nI sp) :: .ref a0 :: st) := by
  obtain ⟨p, e, s, m, args, below, meth, c, A, cs, sl, Q, C, hE, hA, hcs, hsl, rfl⟩ := hJ
  have hts := C.2.2.2.2
  subst hws
  intro H locs ls hP hD hS hl
  have e1 : (nI sp).toNatClampNeg = sp := nI_clamp (by omega)
  have e2 : (nI dp).toNatClampNeg = dp := nI_clamp (by omega)
  have e3 : (nI n).toNatClampNeg = n := nI_clamp (by omega)
  refine va_copyl (ty := .long) C.1 C.2.1 (by rw [C.2.2.1]; exact hl.1.symm) C.2.2.2.1 (hts _ hlk) (hts _ mm_copy.1) (hts _ mm_copy.2.1) (hts _ mm_copy.2.2) hE.1 hP hD hS q0 q1 1 1 he0 he1 rfl rfl rfl (nI_pos (by omega)) (nI_pos (by omega)) (nI_pos (by omega)) (by rw [e1, e3]; exact h0) (by rw [e2, e3]; exact h1) (fun _ _ => rfl) (Nat.le_add_left 1 h) ?_ hd ?_
  · have hn : nativeFrameWords "java/lang/System" "arraycopy" 5 + 11 ≤ 32 := by decide +kernel
    show _ ≤ 40 * (h + 1)
    omega
  · rw [e1, e2, e3]
    exact fun H1 locs1 hP1 hD1 hS1 => k H1 locs1 ls hP1 hD1 hS1 hl
end KN
section KD
variable {l : Launch} {R rm : Room} {cc c1 : ByteArray} {own : String} {nL n1 n index b : Nat} {g : KG} {J : KT} {ws wc wc1 ws2 : va_W} {lv : List (Nat × Value)} {pc : Nat} {st st0 As fs : List Value} {y : MethodName} {ret : Option FieldType} {q : vw_C} {ci : Nat}
theorem c_VI {r : Int32} (hJ : KO l R cc own nL g J) (hM : CI l y c1 n1 ret rm g (.ref b :: As) wc r wc1) (fr : Fr ws wc wc1 ws2) (hy : kMV y c1 n1 ret n) (hlk : Cond.methodLink own index y ∈ wsL_law) (q0 : Nat) (he : ws[q0]? = some (b, .inr (ci, fs))) (hc : vwCl[ci]? = some q) (hq : q.1 = y.cls) (hrm : kRm R rm n1) (hst : st0 = As.reverse ++ .ref b :: st) (hn : As.length = n) (hdep : (st.map (fun v => v.category)).sum ≤ 8) (hd : decode cc pc = .ok (.invokevirtual index, 3)) (k : J ws2 lv (pc + 3) (.int r :: st)) : J ws lv pc st0 := k_callV hJ hM (fun _ => fr) hy hlk q0 he hc hq hrm hst hn hdep hd (fun x _ hx => by cases hx; exact k)
theorem c_SI {r : Int32} (hJ : KO l R cc own nL g J) (hM : CI l y c1 n1 ret rm g As wc r wc1) (fr : Fr ws wc wc1 ws2) (hy : kMS y c1 n1 ret n) (hlk : Cond.methodLink own index y ∈ wsL_law) (hrm : kRm R rm n1) (hst : st0 = As.reverse ++ st) (hn : As.length = n) (hdep : (st.map (fun v => v.category)).sum ≤ 8) (hd : decode cc pc = .ok (.invokestatic index, 3)) (k : J ws2 lv (pc + 3) (.int r :: st)) : J ws lv pc st0 := k_callS hJ hM (fun _ => fr) hy hlk hrm hst hn hdep hd (fun x _ hx => by cases hx; exact k)
theorem c_NI {r : Int32} (hJ : KO l R cc own nL g J) (hM : CI l y c1 n1 ret rm g As wc r wc1) (fr : Fr ws wc wc1 ws2) (hy : kMS y c1 n1 ret n) (hlk : ∀ (A : Nat → Prop) (U : State), kE g A U → va_Nw (.methodLinkNest own index y "NoseJury") U) (hrm : kRm R rm n1) (hst : st0 = As.reverse ++ st) (hn : As.length = n) (hdep : (st.map (fun v => v.category)).sum ≤ 8) (hd : decode cc pc = .ok (.invokestatic index, 3)) (k : J ws2 lv (pc + 3) (.int r :: st)) : J ws lv pc st0 := k_callN hJ hM (fun _ => fr) hy hlk hrm hst hn hdep hd (fun x _ hx => by cases hx; exact k)
theorem c_VL {r : Int64} (hJ : KO l R cc own nL g J) (hM : CL l y c1 n1 ret rm g (.ref b :: As) wc r wc1) (fr : Fr ws wc wc1 ws2) (hy : kMV y c1 n1 ret n) (hlk : Cond.methodLink own index y ∈ wsL_law) (q0 : Nat) (he : ws[q0]? = some (b, .inr (ci, fs))) (hc : vwCl[ci]? = some q) (hq : q.1 = y.cls) (hrm : kRm R rm n1) (hst : st0 = As.reverse ++ .ref b :: st) (hn : As.length = n) (hdep : (st.map (fun v => v.category)).sum ≤ 8) (hd : decode cc pc = .ok (.invokevirtual index, 3)) (k : J ws2 lv (pc + 3) (.long r :: st)) : J ws lv pc st0 := k_callV hJ hM (fun _ => fr) hy hlk q0 he hc hq hrm hst hn hdep hd (fun x _ hx => by cases hx; exact k)
theorem c_SL {r : Int64} (hJ : KO l R cc own nL g J) (hM : CL l y c1 n1 ret rm g As wc r wc1) (fr : Fr ws wc wc1 ws2) (hy : kMS y c1 n1 ret n) (hlk : Cond.methodLink own index y ∈ wsL_law) (hrm : kRm R rm n1) (hst : st0 = As.reverse ++ st) (hn : As.length = n) (hdep : (st.map (fun v => v.category)).sum ≤ 8) (hd : decode cc pc = .ok (.invokestatic index, 3)) (k : J ws2 lv (pc + 3) (.long r :: st)) : J ws lv pc st0 := k_callS hJ hM (fun _ => fr) hy hlk hrm hst hn hdep hd (fun x _ hx => by cases hx; exact k)
theorem c_VA {r : Nat} (hJ : KO l R cc own nL g J) (hM : CA l y c1 n1 ret rm g (.ref b :: As) wc r wc1) (fr : Fr ws wc wc1 ws2) (hy : kMV y c1 n1 ret n) (hlk : Cond.methodLink own index y ∈ wsL_law) (q0 : Nat) (he : ws[q0]? = some (b, .inr (ci, fs))) (hc : vwCl[ci]? = some q) (hq : q.1 = y.cls) (hrm : kRm R rm n1) (hst : st0 = As.reverse ++ .ref b :: st) (hn : As.length = n) (hdep : (st.map (fun v => v.category)).sum ≤ 8) (hd : decode cc pc = .ok (.invokevirtual index, 3)) (k : J ws2 lv (pc + 3) (.ref r :: st)) : J ws lv pc st0 := k_callV hJ hM (fun _ => fr) hy hlk q0 he hc hq hrm hst hn hdep hd (fun x _ hx => by cases hx; exact k)
theorem c_SA {r : Nat} (hJ : KO l R cc own nL g J) (hM : CA l y c1 n1 ret rm g As wc r wc1) (fr : Fr ws wc wc1 ws2) (hy : kMS y c1 n1 ret n) (hlk : Cond.methodLink own index y ∈ wsL_law) (hrm : kRm R rm n1) (hst : st0 = As.reverse ++ st) (hn : As.length = n) (hdep : (st.map (fun v => v.category)).sum ≤ 8) (hd : decode cc pc = .ok (.invokestatic index, 3)) (k : J ws2 lv (pc + 3) (.ref r :: st)) : J ws lv pc st0 := k_callS hJ hM (fun _ => fr) hy hlk hrm hst hn hdep hd (fun x _ hx => by cases hx; exact k)
theorem c_VV (hJ : KO l R cc own nL g J) (hM : CV l y c1 n1 ret rm g (.ref b :: As) wc wc1) (fr : Fr ws wc wc1 ws2) (hy : kMV y c1 n1 ret n) (hlk : Cond.methodLink own index y ∈ wsL_law) (q0 : Nat) (he : ws[q0]? = some (b, .inr (ci, fs))) (hc : vwCl[ci]? = some q) (hq : q.1 = y.cls) (hrm : kRm R rm n1) (hst : st0 = As.reverse ++ .ref b :: st) (hn : As.length = n) (hdep : (st.map (fun v => v.category)).sum ≤ 8) (hd : decode cc pc = .ok (.invokevirtual index, 3)) (k : J ws2 lv (pc + 3) (st)) : J ws lv pc st0 := k_callV hJ hM (fun _ => fr) hy hlk q0 he hc hq hrm hst hn hdep hd (fun _ _ _ => k)
end KD
end
