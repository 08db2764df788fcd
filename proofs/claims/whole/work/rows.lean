section
-- ===== PART A: goes FIRST, ahead of the names: the tables' words, and 'selects' of the private methods out of them =====
/-- a private method of a class that the tables say can be made, by its rows of tables_1 -/
def lw_okq (q : MethodName × Nat) : Prop := (q.1.cls ≠ "java/lang/invoke/MethodHandle" ∧ q.1.cls ≠ "java/lang/invoke/VarHandle") ∧ Cond.instantiable q.1.cls q.2 ∈ tables_1 ∧ Cond.privateMethod q.1 ∈ tables_1 ∧ Cond.instanceMethod q.1 ∈ tables_1
theorem lw_p0 : lw_okq (⟨"IceTongue", "recordState", "()V"⟩, 5) := ⟨⟨by decide +kernel, by decide +kernel⟩, List.mem_of_getElem? (i := 13) (by decide +kernel), List.mem_of_getElem? (i := 255) (by decide +kernel), List.mem_of_getElem? (i := 256) (by decide +kernel)⟩
theorem lw_p1 : lw_okq (⟨"IceTongue", "dropOldestState", "()V"⟩, 5) := ⟨⟨by decide +kernel, by decide +kernel⟩, List.mem_of_getElem? (i := 13) (by decide +kernel), List.mem_of_getElem? (i := 259) (by decide +kernel), List.mem_of_getElem? (i := 260) (by decide +kernel)⟩
theorem lw_p2 : lw_okq (⟨"IceTongue$Layers", "narrow", "()V"⟩, 4) := ⟨⟨by decide +kernel, by decide +kernel⟩, List.mem_of_getElem? (i := 70) (by decide +kernel), List.mem_of_getElem? (i := 313) (by decide +kernel), List.mem_of_getElem? (i := 314) (by decide +kernel)⟩
theorem lw_p3 : lw_okq (⟨"IceTongue$Tongue", "snowAndMelt", "(LIceTongue$Band;)V"⟩, 11) := ⟨⟨by decide +kernel, by decide +kernel⟩, List.mem_of_getElem? (i := 21) (by decide +kernel), List.mem_of_getElem? (i := 469) (by decide +kernel), List.mem_of_getElem? (i := 470) (by decide +kernel)⟩
theorem lw_p4 : lw_okq (⟨"IceTongue$Layers", "takeOfYear", "(II)I"⟩, 4) := ⟨⟨by decide +kernel, by decide +kernel⟩, List.mem_of_getElem? (i := 70) (by decide +kernel), List.mem_of_getElem? (i := 479) (by decide +kernel), List.mem_of_getElem? (i := 480) (by decide +kernel)⟩
theorem lw_p5 : lw_okq (⟨"IceTongue$Tongue", "creepDown", "()V"⟩, 11) := ⟨⟨by decide +kernel, by decide +kernel⟩, List.mem_of_getElem? (i := 21) (by decide +kernel), List.mem_of_getElem? (i := 483) (by decide +kernel), List.mem_of_getElem? (i := 484) (by decide +kernel)⟩
theorem lw_p6 : lw_okq (⟨"IceTongue$Tongue", "ride", "(LIceTongue$Stake;)V"⟩, 11) := ⟨⟨by decide +kernel, by decide +kernel⟩, List.mem_of_getElem? (i := 21) (by decide +kernel), List.mem_of_getElem? (i := 501) (by decide +kernel), List.mem_of_getElem? (i := 502) (by decide +kernel)⟩
theorem lw_p7 : lw_okq (⟨"IceTongue$Tongue", "moveDown", "(LIceTongue$Stake;I)V"⟩, 11) := ⟨⟨by decide +kernel, by decide +kernel⟩, List.mem_of_getElem? (i := 21) (by decide +kernel), List.mem_of_getElem? (i := 510) (by decide +kernel), List.mem_of_getElem? (i := 511) (by decide +kernel)⟩
theorem lw_p8 : lw_okq (⟨"IceTongue", "isSoInTrial", "(II)Z"⟩, 5) := ⟨⟨by decide +kernel, by decide +kernel⟩, List.mem_of_getElem? (i := 13) (by decide +kernel), List.mem_of_getElem? (i := 529) (by decide +kernel), List.mem_of_getElem? (i := 530) (by decide +kernel)⟩
theorem lw_p9 : lw_okq (⟨"IceTongue", "possibleYears", "()I"⟩, 5) := ⟨⟨by decide +kernel, by decide +kernel⟩, List.mem_of_getElem? (i := 13) (by decide +kernel), List.mem_of_getElem? (i := 561) (by decide +kernel), List.mem_of_getElem? (i := 562) (by decide +kernel)⟩
theorem lw_p10 : lw_okq (⟨"IceTongue", "reasonAt", "(II)I"⟩, 5) := ⟨⟨by decide +kernel, by decide +kernel⟩, List.mem_of_getElem? (i := 13) (by decide +kernel), List.mem_of_getElem? (i := 565) (by decide +kernel), List.mem_of_getElem? (i := 566) (by decide +kernel)⟩
theorem lw_p11 : lw_okq (⟨"IceTongue$Text", "endOfNumber", "(I)I"⟩, 2) := ⟨⟨by decide +kernel, by decide +kernel⟩, List.mem_of_getElem? (i := 212) (by decide +kernel), List.mem_of_getElem? (i := 573) (by decide +kernel), List.mem_of_getElem? (i := 574) (by decide +kernel)⟩
theorem lw_p12 : lw_okq (⟨"IceTongue$Text", "isDigitAt", "(I)Z"⟩, 2) := ⟨⟨by decide +kernel, by decide +kernel⟩, List.mem_of_getElem? (i := 212) (by decide +kernel), List.mem_of_getElem? (i := 577) (by decide +kernel), List.mem_of_getElem? (i := 578) (by decide +kernel)⟩
theorem lw_p13 : lw_okq (⟨"IceTongue$Text", "isSignAt", "(IC)Z"⟩, 2) := ⟨⟨by decide +kernel, by decide +kernel⟩, List.mem_of_getElem? (i := 212) (by decide +kernel), List.mem_of_getElem? (i := 581) (by decide +kernel), List.mem_of_getElem? (i := 582) (by decide +kernel)⟩
theorem lw_p14 : lw_okq (⟨"IceTongue$Text", "numberAt", "(I)I"⟩, 2) := ⟨⟨by decide +kernel, by decide +kernel⟩, List.mem_of_getElem? (i := 212) (by decide +kernel), List.mem_of_getElem? (i := 589) (by decide +kernel), List.mem_of_getElem? (i := 590) (by decide +kernel)⟩
theorem lw_p15 : lw_okq (⟨"IceTongueModel", "keptIce", "(II)I"⟩, 17) := ⟨⟨by decide +kernel, by decide +kernel⟩, List.mem_of_getElem? (i := 606) (by decide +kernel), List.mem_of_getElem? (i := 670) (by decide +kernel), List.mem_of_getElem? (i := 671) (by decide +kernel)⟩
def lw_privs_1 : List (MethodName × Nat) := [(⟨"IceTongue", "recordState", "()V"⟩, 5), (⟨"IceTongue", "dropOldestState", "()V"⟩, 5), (⟨"IceTongue$Layers", "narrow", "()V"⟩, 4), (⟨"IceTongue$Tongue", "snowAndMelt", "(LIceTongue$Band;)V"⟩, 11), (⟨"IceTongue$Layers", "takeOfYear", "(II)I"⟩, 4), (⟨"IceTongue$Tongue", "creepDown", "()V"⟩, 11), (⟨"IceTongue$Tongue", "ride", "(LIceTongue$Stake;)V"⟩, 11), (⟨"IceTongue$Tongue", "moveDown", "(LIceTongue$Stake;I)V"⟩, 11), (⟨"IceTongue", "isSoInTrial", "(II)Z"⟩, 5), (⟨"IceTongue", "possibleYears", "()I"⟩, 5), (⟨"IceTongue", "reasonAt", "(II)I"⟩, 5), (⟨"IceTongue$Text", "endOfNumber", "(I)I"⟩, 2), (⟨"IceTongue$Text", "isDigitAt", "(I)Z"⟩, 2), (⟨"IceTongue$Text", "isSignAt", "(IC)Z"⟩, 2), (⟨"IceTongue$Text", "numberAt", "(I)I"⟩, 2), (⟨"IceTongueModel", "keptIce", "(II)I"⟩, 17)]
theorem lw_r1 : ∀ q ∈ lw_privs_1, lw_okq q := List.forall_mem_cons.mpr ⟨lw_p0, List.forall_mem_cons.mpr ⟨lw_p1, List.forall_mem_cons.mpr ⟨lw_p2, List.forall_mem_cons.mpr ⟨lw_p3, List.forall_mem_cons.mpr ⟨lw_p4, List.forall_mem_cons.mpr ⟨lw_p5, List.forall_mem_cons.mpr ⟨lw_p6, List.forall_mem_cons.mpr ⟨lw_p7, List.forall_mem_cons.mpr ⟨lw_p8, List.forall_mem_cons.mpr ⟨lw_p9, List.forall_mem_cons.mpr ⟨lw_p10, List.forall_mem_cons.mpr ⟨lw_p11, List.forall_mem_cons.mpr ⟨lw_p12, List.forall_mem_cons.mpr ⟨lw_p13, List.forall_mem_cons.mpr ⟨lw_p14, List.forall_mem_cons.mpr ⟨lw_p15, fun _ h => absurd h List.not_mem_nil⟩⟩⟩⟩⟩⟩⟩⟩⟩⟩⟩⟩⟩⟩⟩⟩
theorem lw_p16 : lw_okq (⟨"IceTongueModel", "keep", "()V"⟩, 17) := ⟨⟨by decide +kernel, by decide +kernel⟩, List.mem_of_getElem? (i := 606) (by decide +kernel), List.mem_of_getElem? (i := 686) (by decide +kernel), List.mem_of_getElem? (i := 687) (by decide +kernel)⟩
theorem lw_p17 : lw_okq (⟨"IceTongueModel", "dropOldest", "()V"⟩, 17) := ⟨⟨by decide +kernel, by decide +kernel⟩, List.mem_of_getElem? (i := 606) (by decide +kernel), List.mem_of_getElem? (i := 690) (by decide +kernel), List.mem_of_getElem? (i := 691) (by decide +kernel)⟩
theorem lw_p18 : lw_okq (⟨"IceTongueModel", "keepIce", "(III)V"⟩, 17) := ⟨⟨by decide +kernel, by decide +kernel⟩, List.mem_of_getElem? (i := 606) (by decide +kernel), List.mem_of_getElem? (i := 694) (by decide +kernel), List.mem_of_getElem? (i := 695) (by decide +kernel)⟩
theorem lw_p19 : lw_okq (⟨"IceTongueModel", "of", "(II)I"⟩, 17) := ⟨⟨by decide +kernel, by decide +kernel⟩, List.mem_of_getElem? (i := 606) (by decide +kernel), List.mem_of_getElem? (i := 702) (by decide +kernel), List.mem_of_getElem? (i := 703) (by decide +kernel)⟩
theorem lw_p20 : lw_okq (⟨"IceTongueModel", "put", "(III)V"⟩, 17) := ⟨⟨by decide +kernel, by decide +kernel⟩, List.mem_of_getElem? (i := 606) (by decide +kernel), List.mem_of_getElem? (i := 707) (by decide +kernel), List.mem_of_getElem? (i := 708) (by decide +kernel)⟩
theorem lw_p21 : lw_okq (⟨"IceTongueModel", "lay", "(II)V"⟩, 17) := ⟨⟨by decide +kernel, by decide +kernel⟩, List.mem_of_getElem? (i := 606) (by decide +kernel), List.mem_of_getElem? (i := 711) (by decide +kernel), List.mem_of_getElem? (i := 712) (by decide +kernel)⟩
theorem lw_p22 : lw_okq (⟨"IceTongueModel", "isBand", "(I)Z"⟩, 17) := ⟨⟨by decide +kernel, by decide +kernel⟩, List.mem_of_getElem? (i := 606) (by decide +kernel), List.mem_of_getElem? (i := 719) (by decide +kernel), List.mem_of_getElem? (i := 720) (by decide +kernel)⟩
theorem lw_p23 : lw_okq (⟨"IceTongueModel", "infoOf", "(II)I"⟩, 17) := ⟨⟨by decide +kernel, by decide +kernel⟩, List.mem_of_getElem? (i := 606) (by decide +kernel), List.mem_of_getElem? (i := 727) (by decide +kernel), List.mem_of_getElem? (i := 728) (by decide +kernel)⟩
theorem lw_p24 : lw_okq (⟨"IceTongueModel", "iceOf", "(I)I"⟩, 17) := ⟨⟨by decide +kernel, by decide +kernel⟩, List.mem_of_getElem? (i := 606) (by decide +kernel), List.mem_of_getElem? (i := 731) (by decide +kernel), List.mem_of_getElem? (i := 732) (by decide +kernel)⟩
theorem lw_p25 : lw_okq (⟨"IceTongueModel", "layersOf", "(I)I"⟩, 17) := ⟨⟨by decide +kernel, by decide +kernel⟩, List.mem_of_getElem? (i := 606) (by decide +kernel), List.mem_of_getElem? (i := 735) (by decide +kernel), List.mem_of_getElem? (i := 736) (by decide +kernel)⟩
theorem lw_p26 : lw_okq (⟨"IceTongueModel", "yearOf", "(II)I"⟩, 17) := ⟨⟨by decide +kernel, by decide +kernel⟩, List.mem_of_getElem? (i := 606) (by decide +kernel), List.mem_of_getElem? (i := 739) (by decide +kernel), List.mem_of_getElem? (i := 740) (by decide +kernel)⟩
theorem lw_p27 : lw_okq (⟨"IceTongueModel", "snowOf", "(I)I"⟩, 17) := ⟨⟨by decide +kernel, by decide +kernel⟩, List.mem_of_getElem? (i := 606) (by decide +kernel), List.mem_of_getElem? (i := 747) (by decide +kernel), List.mem_of_getElem? (i := 748) (by decide +kernel)⟩
theorem lw_p28 : lw_okq (⟨"IceTongueModel", "meltOf", "(I)I"⟩, 17) := ⟨⟨by decide +kernel, by decide +kernel⟩, List.mem_of_getElem? (i := 606) (by decide +kernel), List.mem_of_getElem? (i := 754) (by decide +kernel), List.mem_of_getElem? (i := 755) (by decide +kernel)⟩
theorem lw_p29 : lw_okq (⟨"IceTongueModel", "leftOf", "(I)I"⟩, 17) := ⟨⟨by decide +kernel, by decide +kernel⟩, List.mem_of_getElem? (i := 606) (by decide +kernel), List.mem_of_getElem? (i := 766) (by decide +kernel), List.mem_of_getElem? (i := 767) (by decide +kernel)⟩
theorem lw_p30 : lw_okq (⟨"IceTongueModel", "allOfBands", "()I"⟩, 17) := ⟨⟨by decide +kernel, by decide +kernel⟩, List.mem_of_getElem? (i := 606) (by decide +kernel), List.mem_of_getElem? (i := 783) (by decide +kernel), List.mem_of_getElem? (i := 784) (by decide +kernel)⟩
theorem lw_p31 : lw_okq (⟨"IceTongueModel", "allByYears", "()I"⟩, 17) := ⟨⟨by decide +kernel, by decide +kernel⟩, List.mem_of_getElem? (i := 606) (by decide +kernel), List.mem_of_getElem? (i := 787) (by decide +kernel), List.mem_of_getElem? (i := 788) (by decide +kernel)⟩
def lw_privs_2 : List (MethodName × Nat) := [(⟨"IceTongueModel", "keep", "()V"⟩, 17), (⟨"IceTongueModel", "dropOldest", "()V"⟩, 17), (⟨"IceTongueModel", "keepIce", "(III)V"⟩, 17), (⟨"IceTongueModel", "of", "(II)I"⟩, 17), (⟨"IceTongueModel", "put", "(III)V"⟩, 17), (⟨"IceTongueModel", "lay", "(II)V"⟩, 17), (⟨"IceTongueModel", "isBand", "(I)Z"⟩, 17), (⟨"IceTongueModel", "infoOf", "(II)I"⟩, 17), (⟨"IceTongueModel", "iceOf", "(I)I"⟩, 17), (⟨"IceTongueModel", "layersOf", "(I)I"⟩, 17), (⟨"IceTongueModel", "yearOf", "(II)I"⟩, 17), (⟨"IceTongueModel", "snowOf", "(I)I"⟩, 17), (⟨"IceTongueModel", "meltOf", "(I)I"⟩, 17), (⟨"IceTongueModel", "leftOf", "(I)I"⟩, 17), (⟨"IceTongueModel", "allOfBands", "()I"⟩, 17), (⟨"IceTongueModel", "allByYears", "()I"⟩, 17)]
theorem lw_r2 : ∀ q ∈ lw_privs_2, lw_okq q := List.forall_mem_cons.mpr ⟨lw_p16, List.forall_mem_cons.mpr ⟨lw_p17, List.forall_mem_cons.mpr ⟨lw_p18, List.forall_mem_cons.mpr ⟨lw_p19, List.forall_mem_cons.mpr ⟨lw_p20, List.forall_mem_cons.mpr ⟨lw_p21, List.forall_mem_cons.mpr ⟨lw_p22, List.forall_mem_cons.mpr ⟨lw_p23, List.forall_mem_cons.mpr ⟨lw_p24, List.forall_mem_cons.mpr ⟨lw_p25, List.forall_mem_cons.mpr ⟨lw_p26, List.forall_mem_cons.mpr ⟨lw_p27, List.forall_mem_cons.mpr ⟨lw_p28, List.forall_mem_cons.mpr ⟨lw_p29, List.forall_mem_cons.mpr ⟨lw_p30, List.forall_mem_cons.mpr ⟨lw_p31, fun _ h => absurd h List.not_mem_nil⟩⟩⟩⟩⟩⟩⟩⟩⟩⟩⟩⟩⟩⟩⟩⟩
theorem lw_p32 : lw_okq (⟨"IceTongueModel", "standing", "()I"⟩, 17) := ⟨⟨by decide +kernel, by decide +kernel⟩, List.mem_of_getElem? (i := 606) (by decide +kernel), List.mem_of_getElem? (i := 795) (by decide +kernel), List.mem_of_getElem? (i := 796) (by decide +kernel)⟩
theorem lw_p33 : lw_okq (⟨"IceTongueModel", "ofStake", "(II)I"⟩, 17) := ⟨⟨by decide +kernel, by decide +kernel⟩, List.mem_of_getElem? (i := 606) (by decide +kernel), List.mem_of_getElem? (i := 799) (by decide +kernel), List.mem_of_getElem? (i := 800) (by decide +kernel)⟩
theorem lw_p34 : lw_okq (⟨"IceTongueModel", "allLayers", "()I"⟩, 17) := ⟨⟨by decide +kernel, by decide +kernel⟩, List.mem_of_getElem? (i := 606) (by decide +kernel), List.mem_of_getElem? (i := 803) (by decide +kernel), List.mem_of_getElem? (i := 804) (by decide +kernel)⟩
theorem lw_p35 : lw_okq (⟨"IceTongueModel", "differentYears", "()I"⟩, 17) := ⟨⟨by decide +kernel, by decide +kernel⟩, List.mem_of_getElem? (i := 606) (by decide +kernel), List.mem_of_getElem? (i := 807) (by decide +kernel), List.mem_of_getElem? (i := 808) (by decide +kernel)⟩
theorem lw_p36 : lw_okq (⟨"IceTongueModel", "putStake", "(III)V"⟩, 17) := ⟨⟨by decide +kernel, by decide +kernel⟩, List.mem_of_getElem? (i := 606) (by decide +kernel), List.mem_of_getElem? (i := 815) (by decide +kernel), List.mem_of_getElem? (i := 816) (by decide +kernel)⟩
theorem lw_p37 : lw_okq (⟨"IceTongueModel", "isStake", "(I)Z"⟩, 17) := ⟨⟨by decide +kernel, by decide +kernel⟩, List.mem_of_getElem? (i := 606) (by decide +kernel), List.mem_of_getElem? (i := 823) (by decide +kernel), List.mem_of_getElem? (i := 824) (by decide +kernel)⟩
theorem lw_p38 : lw_okq (⟨"IceTongueModel", "goOn", "(I)V"⟩, 17) := ⟨⟨by decide +kernel, by decide +kernel⟩, List.mem_of_getElem? (i := 606) (by decide +kernel), List.mem_of_getElem? (i := 839) (by decide +kernel), List.mem_of_getElem? (i := 840) (by decide +kernel)⟩
theorem lw_p39 : lw_okq (⟨"IceTongueModel", "year", "()V"⟩, 17) := ⟨⟨by decide +kernel, by decide +kernel⟩, List.mem_of_getElem? (i := 606) (by decide +kernel), List.mem_of_getElem? (i := 843) (by decide +kernel), List.mem_of_getElem? (i := 844) (by decide +kernel)⟩
theorem lw_p40 : lw_okq (⟨"IceTongueModel", "weather", "(I)V"⟩, 17) := ⟨⟨by decide +kernel, by decide +kernel⟩, List.mem_of_getElem? (i := 606) (by decide +kernel), List.mem_of_getElem? (i := 847) (by decide +kernel), List.mem_of_getElem? (i := 848) (by decide +kernel)⟩
theorem lw_p41 : lw_okq (⟨"IceTongueModel", "gives", "(I)V"⟩, 17) := ⟨⟨by decide +kernel, by decide +kernel⟩, List.mem_of_getElem? (i := 606) (by decide +kernel), List.mem_of_getElem? (i := 851) (by decide +kernel), List.mem_of_getElem? (i := 852) (by decide +kernel)⟩
theorem lw_p42 : lw_okq (⟨"IceTongueModel", "stepFront", "()V"⟩, 17) := ⟨⟨by decide +kernel, by decide +kernel⟩, List.mem_of_getElem? (i := 606) (by decide +kernel), List.mem_of_getElem? (i := 856) (by decide +kernel), List.mem_of_getElem? (i := 857) (by decide +kernel)⟩
theorem lw_p43 : lw_okq (⟨"IceTongueModel", "stepStake", "(I)V"⟩, 17) := ⟨⟨by decide +kernel, by decide +kernel⟩, List.mem_of_getElem? (i := 606) (by decide +kernel), List.mem_of_getElem? (i := 860) (by decide +kernel), List.mem_of_getElem? (i := 861) (by decide +kernel)⟩
theorem lw_p44 : lw_okq (⟨"IceTongueModel", "moves", "(I)V"⟩, 17) := ⟨⟨by decide +kernel, by decide +kernel⟩, List.mem_of_getElem? (i := 606) (by decide +kernel), List.mem_of_getElem? (i := 864) (by decide +kernel), List.mem_of_getElem? (i := 865) (by decide +kernel)⟩
theorem lw_p45 : lw_okq (⟨"IceTongueModel", "setAside", "()V"⟩, 17) := ⟨⟨by decide +kernel, by decide +kernel⟩, List.mem_of_getElem? (i := 606) (by decide +kernel), List.mem_of_getElem? (i := 872) (by decide +kernel), List.mem_of_getElem? (i := 873) (by decide +kernel)⟩
theorem lw_p46 : lw_okq (⟨"IceTongueModel", "brought", "(I)I"⟩, 17) := ⟨⟨by decide +kernel, by decide +kernel⟩, List.mem_of_getElem? (i := 606) (by decide +kernel), List.mem_of_getElem? (i := 876) (by decide +kernel), List.mem_of_getElem? (i := 877) (by decide +kernel)⟩
theorem lw_p47 : lw_okq (⟨"IceTongueModel", "oldest", "()I"⟩, 17) := ⟨⟨by decide +kernel, by decide +kernel⟩, List.mem_of_getElem? (i := 606) (by decide +kernel), List.mem_of_getElem? (i := 880) (by decide +kernel), List.mem_of_getElem? (i := 881) (by decide +kernel)⟩
def lw_privs_3 : List (MethodName × Nat) := [(⟨"IceTongueModel", "standing", "()I"⟩, 17), (⟨"IceTongueModel", "ofStake", "(II)I"⟩, 17), (⟨"IceTongueModel", "allLayers", "()I"⟩, 17), (⟨"IceTongueModel", "differentYears", "()I"⟩, 17), (⟨"IceTongueModel", "putStake", "(III)V"⟩, 17), (⟨"IceTongueModel", "isStake", "(I)Z"⟩, 17), (⟨"IceTongueModel", "goOn", "(I)V"⟩, 17), (⟨"IceTongueModel", "year", "()V"⟩, 17), (⟨"IceTongueModel", "weather", "(I)V"⟩, 17), (⟨"IceTongueModel", "gives", "(I)V"⟩, 17), (⟨"IceTongueModel", "stepFront", "()V"⟩, 17), (⟨"IceTongueModel", "stepStake", "(I)V"⟩, 17), (⟨"IceTongueModel", "moves", "(I)V"⟩, 17), (⟨"IceTongueModel", "setAside", "()V"⟩, 17), (⟨"IceTongueModel", "brought", "(I)I"⟩, 17), (⟨"IceTongueModel", "oldest", "()I"⟩, 17)]
theorem lw_r3 : ∀ q ∈ lw_privs_3, lw_okq q := List.forall_mem_cons.mpr ⟨lw_p32, List.forall_mem_cons.mpr ⟨lw_p33, List.forall_mem_cons.mpr ⟨lw_p34, List.forall_mem_cons.mpr ⟨lw_p35, List.forall_mem_cons.mpr ⟨lw_p36, List.forall_mem_cons.mpr ⟨lw_p37, List.forall_mem_cons.mpr ⟨lw_p38, List.forall_mem_cons.mpr ⟨lw_p39, List.forall_mem_cons.mpr ⟨lw_p40, List.forall_mem_cons.mpr ⟨lw_p41, List.forall_mem_cons.mpr ⟨lw_p42, List.forall_mem_cons.mpr ⟨lw_p43, List.forall_mem_cons.mpr ⟨lw_p44, List.forall_mem_cons.mpr ⟨lw_p45, List.forall_mem_cons.mpr ⟨lw_p46, List.forall_mem_cons.mpr ⟨lw_p47, fun _ h => absurd h List.not_mem_nil⟩⟩⟩⟩⟩⟩⟩⟩⟩⟩⟩⟩⟩⟩⟩⟩
theorem lw_p48 : lw_okq (⟨"IceTongueModel", "bringBack", "()V"⟩, 17) := ⟨⟨by decide +kernel, by decide +kernel⟩, List.mem_of_getElem? (i := 606) (by decide +kernel), List.mem_of_getElem? (i := 884) (by decide +kernel), List.mem_of_getElem? (i := 885) (by decide +kernel)⟩
theorem lw_p49 : lw_okq (⟨"IceTongueModel", "isSo", "(II)Z"⟩, 17) := ⟨⟨by decide +kernel, by decide +kernel⟩, List.mem_of_getElem? (i := 606) (by decide +kernel), List.mem_of_getElem? (i := 892) (by decide +kernel), List.mem_of_getElem? (i := 893) (by decide +kernel)⟩
theorem lw_p50 : lw_okq (⟨"IceTongueModel", "isSteady", "()Z"⟩, 17) := ⟨⟨by decide +kernel, by decide +kernel⟩, List.mem_of_getElem? (i := 606) (by decide +kernel), List.mem_of_getElem? (i := 900) (by decide +kernel), List.mem_of_getElem? (i := 901) (by decide +kernel)⟩
theorem lw_p51 : lw_okq (⟨"IceTongueModel", "reason", "()I"⟩, 17) := ⟨⟨by decide +kernel, by decide +kernel⟩, List.mem_of_getElem? (i := 606) (by decide +kernel), List.mem_of_getElem? (i := 916) (by decide +kernel), List.mem_of_getElem? (i := 917) (by decide +kernel)⟩
theorem lw_p52 : lw_okq (⟨"IceTongueModel", "readYear", "()Z"⟩, 17) := ⟨⟨by decide +kernel, by decide +kernel⟩, List.mem_of_getElem? (i := 606) (by decide +kernel), List.mem_of_getElem? (i := 920) (by decide +kernel), List.mem_of_getElem? (i := 921) (by decide +kernel)⟩
theorem lw_p53 : lw_okq (⟨"IceTongueModel", "readNumber", "(I)Z"⟩, 17) := ⟨⟨by decide +kernel, by decide +kernel⟩, List.mem_of_getElem? (i := 606) (by decide +kernel), List.mem_of_getElem? (i := 924) (by decide +kernel), List.mem_of_getElem? (i := 925) (by decide +kernel)⟩
theorem lw_p54 : lw_okq (⟨"IceTongueModel", "here", "()I"⟩, 17) := ⟨⟨by decide +kernel, by decide +kernel⟩, List.mem_of_getElem? (i := 606) (by decide +kernel), List.mem_of_getElem? (i := 928) (by decide +kernel), List.mem_of_getElem? (i := 929) (by decide +kernel)⟩
def lw_privs_4 : List (MethodName × Nat) := [(⟨"IceTongueModel", "bringBack", "()V"⟩, 17), (⟨"IceTongueModel", "isSo", "(II)Z"⟩, 17), (⟨"IceTongueModel", "isSteady", "()Z"⟩, 17), (⟨"IceTongueModel", "reason", "()I"⟩, 17), (⟨"IceTongueModel", "readYear", "()Z"⟩, 17), (⟨"IceTongueModel", "readNumber", "(I)Z"⟩, 17), (⟨"IceTongueModel", "here", "()I"⟩, 17)]
theorem lw_r4 : ∀ q ∈ lw_privs_4, lw_okq q := List.forall_mem_cons.mpr ⟨lw_p48, List.forall_mem_cons.mpr ⟨lw_p49, List.forall_mem_cons.mpr ⟨lw_p50, List.forall_mem_cons.mpr ⟨lw_p51, List.forall_mem_cons.mpr ⟨lw_p52, List.forall_mem_cons.mpr ⟨lw_p53, List.forall_mem_cons.mpr ⟨lw_p54, fun _ h => absurd h List.not_mem_nil⟩⟩⟩⟩⟩⟩⟩
def lw_privs : List (MethodName × Nat) := lw_privs_1 ++ (lw_privs_2 ++ (lw_privs_3 ++ (lw_privs_4)))
def lw_tbl : List Cond := k2_sels lw_privs ++ tables_1
theorem lw_privs_ok : ∀ q ∈ lw_privs, lw_okq q := by
  show ∀ q ∈ lw_privs_1 ++ (lw_privs_2 ++ (lw_privs_3 ++ (lw_privs_4))), lw_okq q
  exact List.forall_mem_append.mpr ⟨lw_r1, List.forall_mem_append.mpr ⟨lw_r2, List.forall_mem_append.mpr ⟨lw_r3, lw_r4⟩⟩⟩
end
section
def RX0 : String := "IceTongue$Band"
def TX0 : u_T := fun k => match k with
  | 0 => ("IceTongue$Band", "layers", "LIceTongue$Layers;", true)
  | 1 => ("IceTongue$Band", "height", "I", false)
  | 2 => ("IceTongue$Band", "length", "I", false)
  | 3 => ("IceTongue$Band", "creep", "I", false)
  | 4 => ("IceTongue$Band", "melted", "I", false)
  | 5 => ("IceTongue$Band", "gave", "I", false)
  | _ => ("IceTongue$Band", "got", "I", false)
def tyX0 : Nat → FieldType := fun k => match k with
  | 0 => .object "IceTongue$Layers"
  | 1 => .int
  | 2 => .int
  | 3 => .int
  | 4 => .int
  | 5 => .int
  | _ => .int
abbrev wsX00 : List Cond := u_ws RX0 TX0 7
theorem nmX0 : ∀ a, a < 7 → ∀ b, b < 7 → a ≠ b → (TX0 a).2.1 ≠ (TX0 b).2.1 := by decide +kernel
theorem tyX0_ok : ∀ k, k < 7 → parseFieldDescriptor (TX0 k).2.2.1 = some (tyX0 k) := by decide +kernel
abbrev cX0_init : ByteArray := prog_2_method_1_code
def yX0_init : MethodName := ⟨RX0, "<init>", "()V"⟩
abbrev cX0_begin : ByteArray := prog_2_method_2_code
def yX0_begin : MethodName := ⟨RX0, "begin", "(III)V"⟩
abbrev cX0_copyFrom : ByteArray := prog_2_method_3_code
def yX0_copyFrom : MethodName := ⟨RX0, "copyFrom", "(LIceTongue$Band;)V"⟩
abbrev cX0_iceToGive : ByteArray := prog_2_method_4_code
def yX0_iceToGive : MethodName := ⟨RX0, "iceToGive", "()I"⟩
abbrev cX0_way : ByteArray := prog_2_method_5_code
def yX0_way : MethodName := ⟨RX0, "way", "()I"⟩
def RX1 : String := "IceTongue$Front"
def TX1 : u_T := fun k => match k with
  | 0 => ("IceTongue$Front", "ice", "I", false)
  | 1 => ("IceTongue$Front", "rest", "I", false)
  | 2 => ("IceTongue$Front", "pieces", "I", false)
  | _ => ("IceTongue$Front", "latestCalving", "I", false)
def tyX1 : Nat → FieldType := fun k => match k with
  | 0 => .int
  | 1 => .int
  | 2 => .int
  | _ => .int
abbrev wsX10 : List Cond := u_ws RX1 TX1 4
theorem nmX1 : ∀ a, a < 4 → ∀ b, b < 4 → a ≠ b → (TX1 a).2.1 ≠ (TX1 b).2.1 := by decide +kernel
theorem tyX1_ok : ∀ k, k < 4 → parseFieldDescriptor (TX1 k).2.2.1 = some (tyX1 k) := by decide +kernel
abbrev cX1_init : ByteArray := prog_3_method_1_code
def yX1_init : MethodName := ⟨RX1, "<init>", "()V"⟩
abbrev cX1_copyFrom : ByteArray := prog_3_method_2_code
def yX1_copyFrom : MethodName := ⟨RX1, "copyFrom", "(LIceTongue$Front;)V"⟩
abbrev cX1_calve : ByteArray := prog_3_method_3_code
def yX1_calve : MethodName := ⟨RX1, "calve", "(III)I"⟩
def RX2 : String := "IceTongue$Layers"
def TX2 : u_T := fun k => match k with
  | 0 => ("IceTongue$Layers", "left", "[I", true)
  | 1 => ("IceTongue$Layers", "ice", "I", false)
  | 2 => ("IceTongue$Layers", "oldest", "I", false)
  | _ => ("IceTongue$Layers", "latest", "I", false)
def tyX2 : Nat → FieldType := fun k => match k with
  | 0 => .array .int
  | 1 => .int
  | 2 => .int
  | _ => .int
abbrev wsX20 : List Cond := u_ws RX2 TX2 4
theorem nmX2 : ∀ a, a < 4 → ∀ b, b < 4 → a ≠ b → (TX2 a).2.1 ≠ (TX2 b).2.1 := by decide +kernel
theorem tyX2_ok : ∀ k, k < 4 → parseFieldDescriptor (TX2 k).2.2.1 = some (tyX2 k) := by decide +kernel
abbrev cX2_init : ByteArray := prog_4_method_1_code
def yX2_init : MethodName := ⟨RX2, "<init>", "()V"⟩
abbrev cX2_copyFrom : ByteArray := prog_4_method_2_code
def yX2_copyFrom : MethodName := ⟨RX2, "copyFrom", "(LIceTongue$Layers;)V"⟩
abbrev cX2_empty : ByteArray := prog_4_method_3_code
def yX2_empty : MethodName := ⟨RX2, "empty", "()V"⟩
abbrev cX2_add : ByteArray := prog_4_method_4_code
def yX2_add : MethodName := ⟨RX2, "add", "(II)V"⟩
abbrev cX2_takeFromLatest : ByteArray := prog_4_method_5_code
def yX2_takeFromLatest : MethodName := ⟨RX2, "takeFromLatest", "(I)I"⟩
abbrev cX2_giveFromOldest : ByteArray := prog_4_method_6_code
def yX2_giveFromOldest : MethodName := ⟨RX2, "giveFromOldest", "(ILIceTongue$Layers;)V"⟩
abbrev cX2_takeOfYear : ByteArray := prog_4_method_7_code
def yX2_takeOfYear : MethodName := ⟨RX2, "takeOfYear", "(II)I"⟩
abbrev cX2_narrow : ByteArray := prog_4_method_8_code
def yX2_narrow : MethodName := ⟨RX2, "narrow", "()V"⟩
abbrev cX2_leftOf : ByteArray := prog_4_method_9_code
def yX2_leftOf : MethodName := ⟨RX2, "leftOf", "(I)I"⟩
abbrev cX2_number : ByteArray := prog_4_method_10_code
def yX2_number : MethodName := ⟨RX2, "number", "()I"⟩
abbrev cX2_yearOfLayer : ByteArray := prog_4_method_11_code
def yX2_yearOfLayer : MethodName := ⟨RX2, "yearOfLayer", "(I)I"⟩
def RX3 : String := "IceTongue$Stake"
def TX3 : u_T := fun k => match k with
  | 0 => ("IceTongue$Stake", "band", "I", false)
  | 1 => ("IceTongue$Stake", "place", "I", false)
  | 2 => ("IceTongue$Stake", "depth", "I", false)
  | 3 => ("IceTongue$Stake", "change", "I", false)
  | 4 => ("IceTongue$Stake", "fate", "I", false)
  | _ => ("IceTongue$Stake", "years", "I", false)
def tyX3 : Nat → FieldType := fun k => match k with
  | 0 => .int
  | 1 => .int
  | 2 => .int
  | 3 => .int
  | 4 => .int
  | _ => .int
abbrev wsX30 : List Cond := u_ws RX3 TX3 6
theorem nmX3 : ∀ a, a < 6 → ∀ b, b < 6 → a ≠ b → (TX3 a).2.1 ≠ (TX3 b).2.1 := by decide +kernel
theorem tyX3_ok : ∀ k, k < 6 → parseFieldDescriptor (TX3 k).2.2.1 = some (tyX3 k) := by decide +kernel
abbrev cX3_init : ByteArray := prog_5_method_1_code
def yX3_init : MethodName := ⟨RX3, "<init>", "()V"⟩
abbrev cX3_begin : ByteArray := prog_5_method_2_code
def yX3_begin : MethodName := ⟨RX3, "begin", "(III)V"⟩
abbrev cX3_copyFrom : ByteArray := prog_5_method_3_code
def yX3_copyFrom : MethodName := ⟨RX3, "copyFrom", "(LIceTongue$Stake;)V"⟩
def RX4 : String := "IceTongue$Text"
def TX4 : u_T := fun k => match k with
  | 0 => ("IceTongue$Text", "signs", "[C", true)
  | _ => ("IceTongue$Text", "length", "I", false)
def tyX4 : Nat → FieldType := fun k => match k with
  | 0 => .array .char
  | _ => .int
abbrev wsX40 : List Cond := u_ws RX4 TX4 2
theorem nmX4 : ∀ a, a < 2 → ∀ b, b < 2 → a ≠ b → (TX4 a).2.1 ≠ (TX4 b).2.1 := by decide +kernel
theorem tyX4_ok : ∀ k, k < 2 → parseFieldDescriptor (TX4 k).2.2.1 = some (tyX4 k) := by decide +kernel
abbrev cX4_init : ByteArray := prog_6_method_1_code
def yX4_init : MethodName := ⟨RX4, "<init>", "()V"⟩
abbrev cX4_append : ByteArray := prog_6_method_2_code
def yX4_append : MethodName := ⟨RX4, "append", "(C)V"⟩
abbrev cX4_isSignAt : ByteArray := prog_6_method_3_code
def yX4_isSignAt : MethodName := ⟨RX4, "isSignAt", "(IC)Z"⟩
abbrev cX4_isDigitAt : ByteArray := prog_6_method_4_code
def yX4_isDigitAt : MethodName := ⟨RX4, "isDigitAt", "(I)Z"⟩
abbrev cX4_endOfNumber : ByteArray := prog_6_method_5_code
def yX4_endOfNumber : MethodName := ⟨RX4, "endOfNumber", "(I)I"⟩
abbrev cX4_numberAt : ByteArray := prog_6_method_6_code
def yX4_numberAt : MethodName := ⟨RX4, "numberAt", "(I)I"⟩
abbrev cX4_endOfYear : ByteArray := prog_6_method_7_code
def yX4_endOfYear : MethodName := ⟨RX4, "endOfYear", "(I)I"⟩
abbrev cX4_snowOfYear : ByteArray := prog_6_method_8_code
def yX4_snowOfYear : MethodName := ⟨RX4, "snowOfYear", "(I)I"⟩
abbrev cX4_meltOfYear : ByteArray := prog_6_method_9_code
def yX4_meltOfYear : MethodName := ⟨RX4, "meltOfYear", "(I)I"⟩
abbrev cX4_startOfYear : ByteArray := prog_6_method_10_code
def yX4_startOfYear : MethodName := ⟨RX4, "startOfYear", "(I)I"⟩
def RX5 : String := "IceTongue$Tongue"
def TX5 : u_T := fun k => match k with
  | 0 => ("IceTongue$Tongue", "settings", "[I", true)
  | 1 => ("IceTongue$Tongue", "bands", "[LIceTongue$Band;", true)
  | 2 => ("IceTongue$Tongue", "stakes", "[LIceTongue$Stake;", true)
  | 3 => ("IceTongue$Tongue", "front", "LIceTongue$Front;", true)
  | 4 => ("IceTongue$Tongue", "bandCount", "I", false)
  | 5 => ("IceTongue$Tongue", "stakeCount", "I", false)
  | 6 => ("IceTongue$Tongue", "year", "I", false)
  | 7 => ("IceTongue$Tongue", "added", "J", false)
  | 8 => ("IceTongue$Tongue", "snowed", "J", false)
  | 9 => ("IceTongue$Tongue", "melted", "J", false)
  | _ => ("IceTongue$Tongue", "calved", "J", false)
def tyX5 : Nat → FieldType := fun k => match k with
  | 0 => .array .int
  | 1 => .array (.object "IceTongue$Band")
  | 2 => .array (.object "IceTongue$Stake")
  | 3 => .object "IceTongue$Front"
  | 4 => .int
  | 5 => .int
  | 6 => .int
  | 7 => .long
  | 8 => .long
  | 9 => .long
  | _ => .long
abbrev wsX50 : List Cond := u_ws RX5 TX5 11
theorem nmX5 : ∀ a, a < 11 → ∀ b, b < 11 → a ≠ b → (TX5 a).2.1 ≠ (TX5 b).2.1 := by decide +kernel
theorem tyX5_ok : ∀ k, k < 11 → parseFieldDescriptor (TX5 k).2.2.1 = some (tyX5 k) := by decide +kernel
abbrev cX5_init : ByteArray := prog_7_method_1_code
def yX5_init : MethodName := ⟨RX5, "<init>", "()V"⟩
abbrev cX5_copyFrom : ByteArray := prog_7_method_2_code
def yX5_copyFrom : MethodName := ⟨RX5, "copyFrom", "(LIceTongue$Tongue;)V"⟩
abbrev cX5_hasBand : ByteArray := prog_7_method_3_code
def yX5_hasBand : MethodName := ⟨RX5, "hasBand", "(I)Z"⟩
abbrev cX5_hasStake : ByteArray := prog_7_method_4_code
def yX5_hasStake : MethodName := ⟨RX5, "hasStake", "(I)Z"⟩
abbrev cX5_isBelowAll : ByteArray := prog_7_method_5_code
def yX5_isBelowAll : MethodName := ⟨RX5, "isBelowAll", "(I)Z"⟩
abbrev cX5_addBand : ByteArray := prog_7_method_6_code
def yX5_addBand : MethodName := ⟨RX5, "addBand", "(IIII)I"⟩
abbrev cX5_isStakeAt : ByteArray := prog_7_method_7_code
def yX5_isStakeAt : MethodName := ⟨RX5, "isStakeAt", "(II)Z"⟩
abbrev cX5_addStake : ByteArray := prog_7_method_8_code
def yX5_addStake : MethodName := ⟨RX5, "addStake", "(III)I"⟩
abbrev cX5_removeStake : ByteArray := prog_7_method_9_code
def yX5_removeStake : MethodName := ⟨RX5, "removeStake", "(I)I"⟩
abbrev cX5_standingStakes : ByteArray := prog_7_method_10_code
def yX5_standingStakes : MethodName := ⟨RX5, "standingStakes", "()I"⟩
abbrev cX5_snowAt : ByteArray := prog_7_method_11_code
def yX5_snowAt : MethodName := ⟨RX5, "snowAt", "(I)I"⟩
abbrev cX5_meltAt : ByteArray := prog_7_method_12_code
def yX5_meltAt : MethodName := ⟨RX5, "meltAt", "(II)I"⟩
abbrev cX5_snowOutweighsMelt : ByteArray := prog_7_method_13_code
def yX5_snowOutweighsMelt : MethodName := ⟨RX5, "snowOutweighsMelt", "(I)Z"⟩
abbrev cX5_leftOf : ByteArray := prog_7_method_14_code
def yX5_leftOf : MethodName := ⟨RX5, "leftOf", "(I)I"⟩
abbrev cX5_bandIce : ByteArray := prog_7_method_15_code
def yX5_bandIce : MethodName := ⟨RX5, "bandIce", "()I"⟩
abbrev cX5_allIce : ByteArray := prog_7_method_16_code
def yX5_allIce : MethodName := ⟨RX5, "allIce", "()J"⟩
abbrev cX5_allIceByYears : ByteArray := prog_7_method_17_code
def yX5_allIceByYears : MethodName := ⟨RX5, "allIceByYears", "()J"⟩
abbrev cX5_layersOfAllBands : ByteArray := prog_7_method_18_code
def yX5_layersOfAllBands : MethodName := ⟨RX5, "layersOfAllBands", "()I"⟩
abbrev cX5_differentYears : ByteArray := prog_7_method_19_code
def yX5_differentYears : MethodName := ⟨RX5, "differentYears", "()I"⟩
abbrev cX5_oldestYear : ByteArray := prog_7_method_20_code
def yX5_oldestYear : MethodName := ⟨RX5, "oldestYear", "()I"⟩
abbrev cX5_letYearsGoBy : ByteArray := prog_7_method_21_code
def yX5_letYearsGoBy : MethodName := ⟨RX5, "letYearsGoBy", "(I)V"⟩
abbrev cX5_letYearGoBy : ByteArray := prog_7_method_22_code
def yX5_letYearGoBy : MethodName := ⟨RX5, "letYearGoBy", "()V"⟩
abbrev cX5_snowAndMelt : ByteArray := prog_7_method_23_code
def yX5_snowAndMelt : MethodName := ⟨RX5, "snowAndMelt", "(LIceTongue$Band;)V"⟩
abbrev cX5_creepDown : ByteArray := prog_7_method_24_code
def yX5_creepDown : MethodName := ⟨RX5, "creepDown", "()V"⟩
abbrev cX5_ride : ByteArray := prog_7_method_25_code
def yX5_ride : MethodName := ⟨RX5, "ride", "(LIceTongue$Stake;)V"⟩
abbrev cX5_moveDown : ByteArray := prog_7_method_26_code
def yX5_moveDown : MethodName := ⟨RX5, "moveDown", "(LIceTongue$Stake;I)V"⟩
def RX6 : String := "IceTongue"
def TX6 : u_T := fun k => match k with
  | 0 => ("IceTongue", "trial", "LIceTongue$Tongue;", true)
  | 1 => ("IceTongue", "history", "[LIceTongue$Tongue;", true)
  | 2 => ("IceTongue", "text", "LIceTongue$Text;", true)
  | 3 => ("IceTongue", "now", "LIceTongue$Tongue;", false)
  | _ => ("IceTongue", "states", "I", false)
def tyX6 : Nat → FieldType := fun k => match k with
  | 0 => .object "IceTongue$Tongue"
  | 1 => .array (.object "IceTongue$Tongue")
  | 2 => .object "IceTongue$Text"
  | 3 => .object "IceTongue$Tongue"
  | _ => .int
abbrev wsX60 : List Cond := u_ws RX6 TX6 5
theorem nmX6 : ∀ a, a < 5 → ∀ b, b < 5 → a ≠ b → (TX6 a).2.1 ≠ (TX6 b).2.1 := by decide +kernel
theorem tyX6_ok : ∀ k, k < 5 → parseFieldDescriptor (TX6 k).2.2.1 = some (tyX6 k) := by decide +kernel
abbrev cX6_init : ByteArray := prog_1_method_1_code
def yX6_init : MethodName := ⟨RX6, "<init>", "()V"⟩
abbrev cX6_set : ByteArray := prog_1_method_2_code
def yX6_set : MethodName := ⟨RX6, "set", "(II)I"⟩
abbrev cX6_band : ByteArray := prog_1_method_3_code
def yX6_band : MethodName := ⟨RX6, "band", "(IIII)I"⟩
abbrev cX6_creep : ByteArray := prog_1_method_4_code
def yX6_creep : MethodName := ⟨RX6, "creep", "(II)I"⟩
abbrev cX6_bandInfo : ByteArray := prog_1_method_5_code
def yX6_bandInfo : MethodName := ⟨RX6, "bandInfo", "(II)I"⟩
abbrev cX6_layer : ByteArray := prog_1_method_6_code
def yX6_layer : MethodName := ⟨RX6, "layer", "(III)I"⟩
abbrev cX6_ofYear : ByteArray := prog_1_method_7_code
def yX6_ofYear : MethodName := ⟨RX6, "ofYear", "(I)I"⟩
abbrev cX6_line : ByteArray := prog_1_method_8_code
def yX6_line : MethodName := ⟨RX6, "line", "()I"⟩
abbrev cX6_front : ByteArray := prog_1_method_9_code
def yX6_front : MethodName := ⟨RX6, "front", "(I)I"⟩
abbrev cX6_account : ByteArray := prog_1_method_10_code
def yX6_account : MethodName := ⟨RX6, "account", "(I)J"⟩
abbrev cX6_count : ByteArray := prog_1_method_11_code
def yX6_count : MethodName := ⟨RX6, "count", "(I)I"⟩
abbrev cX6_stake : ByteArray := prog_1_method_12_code
def yX6_stake : MethodName := ⟨RX6, "stake", "(III)I"⟩
abbrev cX6_pull : ByteArray := prog_1_method_13_code
def yX6_pull : MethodName := ⟨RX6, "pull", "(I)I"⟩
abbrev cX6_stakeInfo : ByteArray := prog_1_method_14_code
def yX6_stakeInfo : MethodName := ⟨RX6, "stakeInfo", "(II)I"⟩
abbrev cX6_stakesIn : ByteArray := prog_1_method_15_code
def yX6_stakesIn : MethodName := ⟨RX6, "stakesIn", "(I)I"⟩
abbrev cX6_years : ByteArray := prog_1_method_16_code
def yX6_years : MethodName := ⟨RX6, "years", "(I)I"⟩
abbrev cX6_ifYears : ByteArray := prog_1_method_17_code
def yX6_ifYears : MethodName := ⟨RX6, "ifYears", "(II)I"⟩
abbrev cX6_yearsTo : ByteArray := prog_1_method_18_code
def yX6_yearsTo : MethodName := ⟨RX6, "yearsTo", "(I)I"⟩
abbrev cX6_isSoInTrial : ByteArray := prog_1_method_19_code
def yX6_isSoInTrial : MethodName := ⟨RX6, "isSoInTrial", "(II)Z"⟩
abbrev cX6_steadyMelt : ByteArray := prog_1_method_20_code
def yX6_steadyMelt : MethodName := ⟨RX6, "steadyMelt", "()I"⟩
abbrev cX6_undo : ByteArray := prog_1_method_21_code
def yX6_undo : MethodName := ⟨RX6, "undo", "()I"⟩
abbrev cX6_recordState : ByteArray := prog_1_method_22_code
def yX6_recordState : MethodName := ⟨RX6, "recordState", "()V"⟩
abbrev cX6_dropOldestState : ByteArray := prog_1_method_23_code
def yX6_dropOldestState : MethodName := ⟨RX6, "dropOldestState", "()V"⟩
abbrev cX6_type : ByteArray := prog_1_method_24_code
def yX6_type : MethodName := ⟨RX6, "type", "(I)I"⟩
abbrev cX6_clearText : ByteArray := prog_1_method_25_code
def yX6_clearText : MethodName := ⟨RX6, "clearText", "()I"⟩
abbrev cX6_fault : ByteArray := prog_1_method_26_code
def yX6_fault : MethodName := ⟨RX6, "fault", "(I)I"⟩
abbrev cX6_live : ByteArray := prog_1_method_27_code
def yX6_live : MethodName := ⟨RX6, "live", "()I"⟩
abbrev cX6_possibleYears : ByteArray := prog_1_method_28_code
def yX6_possibleYears : MethodName := ⟨RX6, "possibleYears", "()I"⟩
abbrev cX6_reasonAt : ByteArray := prog_1_method_29_code
def yX6_reasonAt : MethodName := ⟨RX6, "reasonAt", "(II)I"⟩
abbrev cX6_isWithin : ByteArray := prog_1_method_30_code
def yX6_isWithin : MethodName := ⟨RX6, "isWithin", "(III)Z"⟩
def RX7 : String := "IceTongueModel"
def TX7 : u_T := fun k => match k with
  | 0 => ("IceTongueModel", "m", "[I", true)
  | 1 => ("IceTongueModel", "ice", "[I", true)
  | 2 => ("IceTongueModel", "accounts", "[J", true)
  | 3 => ("IceTongueModel", "spare", "[I", true)
  | 4 => ("IceTongueModel", "spareIce", "[I", true)
  | 5 => ("IceTongueModel", "spareAccounts", "[J", true)
  | 6 => ("IceTongueModel", "saved", "[I", true)
  | 7 => ("IceTongueModel", "savedIce", "[I", true)
  | 8 => ("IceTongueModel", "savedIceToo", "[I", true)
  | 9 => ("IceTongueModel", "savedAccounts", "[J", true)
  | 10 => ("IceTongueModel", "savedCount", "I", false)
  | 11 => ("IceTongueModel", "text", "[I", true)
  | 12 => ("IceTongueModel", "textLength", "I", false)
  | 13 => ("IceTongueModel", "at", "I", false)
  | 14 => ("IceTongueModel", "faultAt", "I", false)
  | 15 => ("IceTongueModel", "number", "I", false)
  | _ => ("IceTongueModel", "first", "I", false)
def tyX7 : Nat → FieldType := fun k => match k with
  | 0 => .array .int
  | 1 => .array .int
  | 2 => .array .long
  | 3 => .array .int
  | 4 => .array .int
  | 5 => .array .long
  | 6 => .array .int
  | 7 => .array .int
  | 8 => .array .int
  | 9 => .array .long
  | 10 => .int
  | 11 => .array .int
  | 12 => .int
  | 13 => .int
  | 14 => .int
  | 15 => .int
  | _ => .int
abbrev wsX70 : List Cond := u_ws RX7 TX7 17
theorem nmX7 : ∀ a, a < 17 → ∀ b, b < 17 → a ≠ b → (TX7 a).2.1 ≠ (TX7 b).2.1 := by decide +kernel
theorem tyX7_ok : ∀ k, k < 17 → parseFieldDescriptor (TX7 k).2.2.1 = some (tyX7 k) := by decide +kernel
abbrev cX7_init : ByteArray := prog_9_method_1_code
def yX7_init : MethodName := ⟨RX7, "<init>", "()V"⟩
abbrev cX7_in : ByteArray := prog_9_method_2_code
def yX7_in : MethodName := ⟨RX7, "in", "(III)Z"⟩
abbrev cX7_floor : ByteArray := prog_9_method_3_code
def yX7_floor : MethodName := ⟨RX7, "floor", "(JI)I"⟩
abbrev cX7_keptIce : ByteArray := prog_9_method_4_code
def yX7_keptIce : MethodName := ⟨RX7, "keptIce", "(II)I"⟩
abbrev cX7_keepIce : ByteArray := prog_9_method_5_code
def yX7_keepIce : MethodName := ⟨RX7, "keepIce", "(III)V"⟩
abbrev cX7_dropOldest : ByteArray := prog_9_method_6_code
def yX7_dropOldest : MethodName := ⟨RX7, "dropOldest", "()V"⟩
abbrev cX7_keep : ByteArray := prog_9_method_7_code
def yX7_keep : MethodName := ⟨RX7, "keep", "()V"⟩
abbrev cX7_undo : ByteArray := prog_9_method_8_code
def yX7_undo : MethodName := ⟨RX7, "undo", "()I"⟩
abbrev cX7_setAside : ByteArray := prog_9_method_9_code
def yX7_setAside : MethodName := ⟨RX7, "setAside", "()V"⟩
abbrev cX7_bringBack : ByteArray := prog_9_method_10_code
def yX7_bringBack : MethodName := ⟨RX7, "bringBack", "()V"⟩
abbrev cX7_of : ByteArray := prog_9_method_11_code
def yX7_of : MethodName := ⟨RX7, "of", "(II)I"⟩
abbrev cX7_put : ByteArray := prog_9_method_12_code
def yX7_put : MethodName := ⟨RX7, "put", "(III)V"⟩
abbrev cX7_ofStake : ByteArray := prog_9_method_13_code
def yX7_ofStake : MethodName := ⟨RX7, "ofStake", "(II)I"⟩
abbrev cX7_putStake : ByteArray := prog_9_method_14_code
def yX7_putStake : MethodName := ⟨RX7, "putStake", "(III)V"⟩
abbrev cX7_isBand : ByteArray := prog_9_method_15_code
def yX7_isBand : MethodName := ⟨RX7, "isBand", "(I)Z"⟩
abbrev cX7_isStake : ByteArray := prog_9_method_16_code
def yX7_isStake : MethodName := ⟨RX7, "isStake", "(I)Z"⟩
abbrev cX7_iceOf : ByteArray := prog_9_method_17_code
def yX7_iceOf : MethodName := ⟨RX7, "iceOf", "(I)I"⟩
abbrev cX7_isSetting : ByteArray := prog_9_method_18_code
def yX7_isSetting : MethodName := ⟨RX7, "isSetting", "(II)Z"⟩
abbrev cX7_set : ByteArray := prog_9_method_19_code
def yX7_set : MethodName := ⟨RX7, "set", "(II)I"⟩
abbrev cX7_band : ByteArray := prog_9_method_20_code
def yX7_band : MethodName := ⟨RX7, "band", "(IIII)I"⟩
abbrev cX7_lay : ByteArray := prog_9_method_21_code
def yX7_lay : MethodName := ⟨RX7, "lay", "(II)V"⟩
abbrev cX7_creep : ByteArray := prog_9_method_22_code
def yX7_creep : MethodName := ⟨RX7, "creep", "(II)I"⟩
abbrev cX7_snowOf : ByteArray := prog_9_method_23_code
def yX7_snowOf : MethodName := ⟨RX7, "snowOf", "(I)I"⟩
abbrev cX7_meltOf : ByteArray := prog_9_method_24_code
def yX7_meltOf : MethodName := ⟨RX7, "meltOf", "(I)I"⟩
abbrev cX7_layersOf : ByteArray := prog_9_method_25_code
def yX7_layersOf : MethodName := ⟨RX7, "layersOf", "(I)I"⟩
abbrev cX7_yearOf : ByteArray := prog_9_method_26_code
def yX7_yearOf : MethodName := ⟨RX7, "yearOf", "(II)I"⟩
abbrev cX7_found : ByteArray := prog_9_method_27_code
def yX7_found : MethodName := ⟨RX7, "found", "(I)I"⟩
abbrev cX7_infoOf : ByteArray := prog_9_method_28_code
def yX7_infoOf : MethodName := ⟨RX7, "infoOf", "(II)I"⟩
abbrev cX7_bandInfo : ByteArray := prog_9_method_29_code
def yX7_bandInfo : MethodName := ⟨RX7, "bandInfo", "(II)I"⟩
abbrev cX7_layer : ByteArray := prog_9_method_30_code
def yX7_layer : MethodName := ⟨RX7, "layer", "(III)I"⟩
abbrev cX7_leftOf : ByteArray := prog_9_method_31_code
def yX7_leftOf : MethodName := ⟨RX7, "leftOf", "(I)I"⟩
abbrev cX7_ofYear : ByteArray := prog_9_method_32_code
def yX7_ofYear : MethodName := ⟨RX7, "ofYear", "(I)I"⟩
abbrev cX7_line : ByteArray := prog_9_method_33_code
def yX7_line : MethodName := ⟨RX7, "line", "()I"⟩
abbrev cX7_front : ByteArray := prog_9_method_34_code
def yX7_front : MethodName := ⟨RX7, "front", "(I)I"⟩
abbrev cX7_allOfBands : ByteArray := prog_9_method_35_code
def yX7_allOfBands : MethodName := ⟨RX7, "allOfBands", "()I"⟩
abbrev cX7_allByYears : ByteArray := prog_9_method_36_code
def yX7_allByYears : MethodName := ⟨RX7, "allByYears", "()I"⟩
abbrev cX7_account : ByteArray := prog_9_method_37_code
def yX7_account : MethodName := ⟨RX7, "account", "(I)J"⟩
abbrev cX7_standing : ByteArray := prog_9_method_38_code
def yX7_standing : MethodName := ⟨RX7, "standing", "()I"⟩
abbrev cX7_differentYears : ByteArray := prog_9_method_39_code
def yX7_differentYears : MethodName := ⟨RX7, "differentYears", "()I"⟩
abbrev cX7_allLayers : ByteArray := prog_9_method_40_code
def yX7_allLayers : MethodName := ⟨RX7, "allLayers", "()I"⟩
abbrev cX7_count : ByteArray := prog_9_method_41_code
def yX7_count : MethodName := ⟨RX7, "count", "(I)I"⟩
abbrev cX7_stake : ByteArray := prog_9_method_42_code
def yX7_stake : MethodName := ⟨RX7, "stake", "(III)I"⟩
abbrev cX7_pull : ByteArray := prog_9_method_43_code
def yX7_pull : MethodName := ⟨RX7, "pull", "(I)I"⟩
abbrev cX7_stakeInfo : ByteArray := prog_9_method_44_code
def yX7_stakeInfo : MethodName := ⟨RX7, "stakeInfo", "(II)I"⟩
abbrev cX7_stakesIn : ByteArray := prog_9_method_45_code
def yX7_stakesIn : MethodName := ⟨RX7, "stakesIn", "(I)I"⟩
abbrev cX7_weather : ByteArray := prog_9_method_46_code
def yX7_weather : MethodName := ⟨RX7, "weather", "(I)V"⟩
abbrev cX7_gives : ByteArray := prog_9_method_47_code
def yX7_gives : MethodName := ⟨RX7, "gives", "(I)V"⟩
abbrev cX7_stepFront : ByteArray := prog_9_method_48_code
def yX7_stepFront : MethodName := ⟨RX7, "stepFront", "()V"⟩
abbrev cX7_moves : ByteArray := prog_9_method_49_code
def yX7_moves : MethodName := ⟨RX7, "moves", "(I)V"⟩
abbrev cX7_stepStake : ByteArray := prog_9_method_50_code
def yX7_stepStake : MethodName := ⟨RX7, "stepStake", "(I)V"⟩
abbrev cX7_year : ByteArray := prog_9_method_51_code
def yX7_year : MethodName := ⟨RX7, "year", "()V"⟩
abbrev cX7_goOn : ByteArray := prog_9_method_52_code
def yX7_goOn : MethodName := ⟨RX7, "goOn", "(I)V"⟩
abbrev cX7_years : ByteArray := prog_9_method_53_code
def yX7_years : MethodName := ⟨RX7, "years", "(I)I"⟩
abbrev cX7_oldest : ByteArray := prog_9_method_54_code
def yX7_oldest : MethodName := ⟨RX7, "oldest", "()I"⟩
abbrev cX7_brought : ByteArray := prog_9_method_55_code
def yX7_brought : MethodName := ⟨RX7, "brought", "(I)I"⟩
abbrev cX7_ifYears : ByteArray := prog_9_method_56_code
def yX7_ifYears : MethodName := ⟨RX7, "ifYears", "(II)I"⟩
abbrev cX7_isSo : ByteArray := prog_9_method_57_code
def yX7_isSo : MethodName := ⟨RX7, "isSo", "(II)Z"⟩
abbrev cX7_yearsTo : ByteArray := prog_9_method_58_code
def yX7_yearsTo : MethodName := ⟨RX7, "yearsTo", "(I)I"⟩
abbrev cX7_isSteady : ByteArray := prog_9_method_59_code
def yX7_isSteady : MethodName := ⟨RX7, "isSteady", "()Z"⟩
abbrev cX7_steadyMelt : ByteArray := prog_9_method_60_code
def yX7_steadyMelt : MethodName := ⟨RX7, "steadyMelt", "()I"⟩
abbrev cX7_type : ByteArray := prog_9_method_61_code
def yX7_type : MethodName := ⟨RX7, "type", "(I)I"⟩
abbrev cX7_clearText : ByteArray := prog_9_method_62_code
def yX7_clearText : MethodName := ⟨RX7, "clearText", "()I"⟩
abbrev cX7_here : ByteArray := prog_9_method_63_code
def yX7_here : MethodName := ⟨RX7, "here", "()I"⟩
abbrev cX7_readNumber : ByteArray := prog_9_method_64_code
def yX7_readNumber : MethodName := ⟨RX7, "readNumber", "(I)Z"⟩
abbrev cX7_readYear : ByteArray := prog_9_method_65_code
def yX7_readYear : MethodName := ⟨RX7, "readYear", "()Z"⟩
abbrev cX7_reason : ByteArray := prog_9_method_66_code
def yX7_reason : MethodName := ⟨RX7, "reason", "()I"⟩
abbrev cX7_fault : ByteArray := prog_9_method_67_code
def yX7_fault : MethodName := ⟨RX7, "fault", "(I)I"⟩
abbrev cX7_live : ByteArray := prog_9_method_68_code
def yX7_live : MethodName := ⟨RX7, "live", "()I"⟩
def RJx8e188 : String := "java/lang/Cloneable"
def RJ9 : String := "java/lang/Math"
abbrev cJ9_floorDiv_7cf53 : ByteArray := prog_11_method_47_code
def yJ9_floorDiv_7cf53 : MethodName := ⟨RJ9, "floorDiv", "(II)I"⟩
abbrev cJ9_max_7cf53 : ByteArray := prog_11_method_65_code
def yJ9_max_7cf53 : MethodName := ⟨RJ9, "max", "(II)I"⟩
abbrev cJ9_min_7cf53 : ByteArray := prog_11_method_69_code
def yJ9_min_7cf53 : MethodName := ⟨RJ9, "min", "(II)I"⟩
def RJ10 : String := "java/lang/System"
def RJ7 : String := "java/util/Arrays"
abbrev cJ7_fill_53178 : ByteArray := prog_13_method_103_code
def yJ7_fill_53178 : MethodName := ⟨RJ7, "fill", "([II)V"⟩
def RL : String := "IceTongueLaw"
abbrev cL_law : ByteArray := code
def yL_law : MethodName := ⟨RL, "law", "([I)Z"⟩
abbrev vwCl : List vw_C := [(RX0, TX0, 7), (RX1, TX1, 4), (RX2, TX2, 4), (RX3, TX3, 6), (RX4, TX4, 2), (RX5, TX5, 11), (RX6, TX6, 5), (RX7, TX7, 17)]
end
section
theorem dJ9_floorDiv_7cf53_0 : decode cJ9_floorDiv_7cf53 0 = .ok (.iload_n 0, 1) := by decide +kernel
theorem dJ9_floorDiv_7cf53_1 : decode cJ9_floorDiv_7cf53 1 = .ok (.iload_n 1, 1) := by decide +kernel
theorem dJ9_floorDiv_7cf53_2 : decode cJ9_floorDiv_7cf53 2 = .ok (.idiv, 1) := by decide +kernel
theorem dJ9_floorDiv_7cf53_3 : decode cJ9_floorDiv_7cf53 3 = .ok (.istore_n 2, 1) := by decide +kernel
theorem dJ9_floorDiv_7cf53_4 : decode cJ9_floorDiv_7cf53 4 = .ok (.iload_n 0, 1) := by decide +kernel
theorem dJ9_floorDiv_7cf53_5 : decode cJ9_floorDiv_7cf53 5 = .ok (.iload_n 1, 1) := by decide +kernel
theorem dJ9_floorDiv_7cf53_6 : decode cJ9_floorDiv_7cf53 6 = .ok (.ixor, 1) := by decide +kernel
theorem dJ9_floorDiv_7cf53_7 : decode cJ9_floorDiv_7cf53 7 = .ok (.ifCond .ge 14, 3) := by decide +kernel
theorem dJ9_floorDiv_7cf53_10 : decode cJ9_floorDiv_7cf53 10 = .ok (.iload_n 2, 1) := by decide +kernel
theorem dJ9_floorDiv_7cf53_11 : decode cJ9_floorDiv_7cf53 11 = .ok (.iload_n 1, 1) := by decide +kernel
theorem dJ9_floorDiv_7cf53_12 : decode cJ9_floorDiv_7cf53 12 = .ok (.imul, 1) := by decide +kernel
theorem dJ9_floorDiv_7cf53_13 : decode cJ9_floorDiv_7cf53 13 = .ok (.iload_n 0, 1) := by decide +kernel
theorem dJ9_floorDiv_7cf53_14 : decode cJ9_floorDiv_7cf53 14 = .ok (.if_icmp .eq 7, 3) := by decide +kernel
theorem dJ9_floorDiv_7cf53_17 : decode cJ9_floorDiv_7cf53 17 = .ok (.iload_n 2, 1) := by decide +kernel
theorem dJ9_floorDiv_7cf53_18 : decode cJ9_floorDiv_7cf53 18 = .ok (.iconst 1, 1) := by decide +kernel
theorem dJ9_floorDiv_7cf53_19 : decode cJ9_floorDiv_7cf53 19 = .ok (.isub, 1) := by decide +kernel
theorem dJ9_floorDiv_7cf53_20 : decode cJ9_floorDiv_7cf53 20 = .ok (.ireturn, 1) := by decide +kernel
theorem dJ9_floorDiv_7cf53_21 : decode cJ9_floorDiv_7cf53 21 = .ok (.iload_n 2, 1) := by decide +kernel
theorem dJ9_floorDiv_7cf53_22 : decode cJ9_floorDiv_7cf53 22 = .ok (.ireturn, 1) := by decide +kernel
theorem dJ9_max_7cf53_0 : decode cJ9_max_7cf53 0 = .ok (.iload_n 0, 1) := by decide +kernel
theorem dJ9_max_7cf53_1 : decode cJ9_max_7cf53 1 = .ok (.iload_n 1, 1) := by decide +kernel
theorem dJ9_max_7cf53_2 : decode cJ9_max_7cf53 2 = .ok (.if_icmp .lt 7, 3) := by decide +kernel
theorem dJ9_max_7cf53_5 : decode cJ9_max_7cf53 5 = .ok (.iload_n 0, 1) := by decide +kernel
theorem dJ9_max_7cf53_6 : decode cJ9_max_7cf53 6 = .ok (.goto 4, 3) := by decide +kernel
theorem dJ9_max_7cf53_9 : decode cJ9_max_7cf53 9 = .ok (.iload_n 1, 1) := by decide +kernel
theorem dJ9_max_7cf53_10 : decode cJ9_max_7cf53 10 = .ok (.ireturn, 1) := by decide +kernel
theorem dJ9_min_7cf53_0 : decode cJ9_min_7cf53 0 = .ok (.iload_n 0, 1) := by decide +kernel
theorem dJ9_min_7cf53_1 : decode cJ9_min_7cf53 1 = .ok (.iload_n 1, 1) := by decide +kernel
theorem dJ9_min_7cf53_2 : decode cJ9_min_7cf53 2 = .ok (.if_icmp .gt 7, 3) := by decide +kernel
theorem dJ9_min_7cf53_5 : decode cJ9_min_7cf53 5 = .ok (.iload_n 0, 1) := by decide +kernel
theorem dJ9_min_7cf53_6 : decode cJ9_min_7cf53 6 = .ok (.goto 4, 3) := by decide +kernel
theorem dJ9_min_7cf53_9 : decode cJ9_min_7cf53 9 = .ok (.iload_n 1, 1) := by decide +kernel
theorem dJ9_min_7cf53_10 : decode cJ9_min_7cf53 10 = .ok (.ireturn, 1) := by decide +kernel
theorem dJ7_fill_53178_0 : decode cJ7_fill_53178 0 = .ok (.iconst 0, 1) := by decide +kernel
theorem dJ7_fill_53178_1 : decode cJ7_fill_53178 1 = .ok (.istore_n 2, 1) := by decide +kernel
theorem dJ7_fill_53178_2 : decode cJ7_fill_53178 2 = .ok (.aload_n 0, 1) := by decide +kernel
theorem dJ7_fill_53178_3 : decode cJ7_fill_53178 3 = .ok (.arraylength, 1) := by decide +kernel
theorem dJ7_fill_53178_4 : decode cJ7_fill_53178 4 = .ok (.istore_n 3, 1) := by decide +kernel
theorem dJ7_fill_53178_5 : decode cJ7_fill_53178 5 = .ok (.iload_n 2, 1) := by decide +kernel
theorem dJ7_fill_53178_6 : decode cJ7_fill_53178 6 = .ok (.iload_n 3, 1) := by decide +kernel
theorem dJ7_fill_53178_7 : decode cJ7_fill_53178 7 = .ok (.if_icmp .ge 13, 3) := by decide +kernel
theorem dJ7_fill_53178_10 : decode cJ7_fill_53178 10 = .ok (.aload_n 0, 1) := by decide +kernel
theorem dJ7_fill_53178_11 : decode cJ7_fill_53178 11 = .ok (.iload_n 2, 1) := by decide +kernel
theorem dJ7_fill_53178_12 : decode cJ7_fill_53178 12 = .ok (.iload_n 1, 1) := by decide +kernel
theorem dJ7_fill_53178_13 : decode cJ7_fill_53178 13 = .ok (.iastore, 1) := by decide +kernel
theorem dJ7_fill_53178_14 : decode cJ7_fill_53178 14 = .ok (.iinc 2 1, 3) := by decide +kernel
theorem dJ7_fill_53178_17 : decode cJ7_fill_53178 17 = .ok (.goto (-12), 3) := by decide +kernel
theorem dJ7_fill_53178_20 : decode cJ7_fill_53178 20 = .ok (.return_, 1) := by decide +kernel
theorem dX0_init_0 : decode cX0_init 0 = .ok (.aload_n 0, 1) := by decide +kernel
theorem dX0_init_1 : decode cX0_init 1 = .ok (.invokespecial 1, 3) := by decide +kernel
theorem dX0_init_4 : decode cX0_init 4 = .ok (.aload_n 0, 1) := by decide +kernel
theorem dX0_init_5 : decode cX0_init 5 = .ok (.new 7, 3) := by decide +kernel
theorem dX0_init_8 : decode cX0_init 8 = .ok (.dup, 1) := by decide +kernel
theorem dX0_init_9 : decode cX0_init 9 = .ok (.invokespecial 9, 3) := by decide +kernel
theorem dX0_init_12 : decode cX0_init 12 = .ok (.putfield 10, 3) := by decide +kernel
theorem dX0_init_15 : decode cX0_init 15 = .ok (.aload_n 0, 1) := by decide +kernel
theorem dX0_init_16 : decode cX0_init 16 = .ok (.iconst 0, 1) := by decide +kernel
theorem dX0_init_17 : decode cX0_init 17 = .ok (.putfield 16, 3) := by decide +kernel
theorem dX0_init_20 : decode cX0_init 20 = .ok (.aload_n 0, 1) := by decide +kernel
theorem dX0_init_21 : decode cX0_init 21 = .ok (.iconst 0, 1) := by decide +kernel
theorem dX0_init_22 : decode cX0_init 22 = .ok (.putfield 20, 3) := by decide +kernel
theorem dX0_init_25 : decode cX0_init 25 = .ok (.aload_n 0, 1) := by decide +kernel
theorem dX0_init_26 : decode cX0_init 26 = .ok (.iconst 0, 1) := by decide +kernel
theorem dX0_init_27 : decode cX0_init 27 = .ok (.putfield 23, 3) := by decide +kernel
theorem dX0_init_30 : decode cX0_init 30 = .ok (.aload_n 0, 1) := by decide +kernel
theorem dX0_init_31 : decode cX0_init 31 = .ok (.iconst 0, 1) := by decide +kernel
theorem dX0_init_32 : decode cX0_init 32 = .ok (.putfield 26, 3) := by decide +kernel
theorem dX0_init_35 : decode cX0_init 35 = .ok (.aload_n 0, 1) := by decide +kernel
theorem dX0_init_36 : decode cX0_init 36 = .ok (.iconst 0, 1) := by decide +kernel
theorem dX0_init_37 : decode cX0_init 37 = .ok (.putfield 29, 3) := by decide +kernel
theorem dX0_init_40 : decode cX0_init 40 = .ok (.aload_n 0, 1) := by decide +kernel
theorem dX0_init_41 : decode cX0_init 41 = .ok (.iconst 0, 1) := by decide +kernel
theorem dX0_init_42 : decode cX0_init 42 = .ok (.putfield 32, 3) := by decide +kernel
theorem dX0_init_45 : decode cX0_init 45 = .ok (.return_, 1) := by decide +kernel
theorem dX0_begin_0 : decode cX0_begin 0 = .ok (.aload_n 0, 1) := by decide +kernel
theorem dX0_begin_1 : decode cX0_begin 1 = .ok (.iload_n 1, 1) := by decide +kernel
theorem dX0_begin_2 : decode cX0_begin 2 = .ok (.putfield 16, 3) := by decide +kernel
theorem dX0_begin_5 : decode cX0_begin 5 = .ok (.aload_n 0, 1) := by decide +kernel
theorem dX0_begin_6 : decode cX0_begin 6 = .ok (.iload_n 2, 1) := by decide +kernel
theorem dX0_begin_7 : decode cX0_begin 7 = .ok (.putfield 20, 3) := by decide +kernel
theorem dX0_begin_10 : decode cX0_begin 10 = .ok (.aload_n 0, 1) := by decide +kernel
theorem dX0_begin_11 : decode cX0_begin 11 = .ok (.iload_n 3, 1) := by decide +kernel
theorem dX0_begin_12 : decode cX0_begin 12 = .ok (.putfield 23, 3) := by decide +kernel
theorem dX0_begin_15 : decode cX0_begin 15 = .ok (.aload_n 0, 1) := by decide +kernel
theorem dX0_begin_16 : decode cX0_begin 16 = .ok (.iconst 0, 1) := by decide +kernel
theorem dX0_begin_17 : decode cX0_begin 17 = .ok (.putfield 26, 3) := by decide +kernel
theorem dX0_begin_20 : decode cX0_begin 20 = .ok (.aload_n 0, 1) := by decide +kernel
theorem dX0_begin_21 : decode cX0_begin 21 = .ok (.iconst 0, 1) := by decide +kernel
theorem dX0_begin_22 : decode cX0_begin 22 = .ok (.putfield 29, 3) := by decide +kernel
theorem dX0_begin_25 : decode cX0_begin 25 = .ok (.aload_n 0, 1) := by decide +kernel
theorem dX0_begin_26 : decode cX0_begin 26 = .ok (.iconst 0, 1) := by decide +kernel
theorem dX0_begin_27 : decode cX0_begin 27 = .ok (.putfield 32, 3) := by decide +kernel
theorem dX0_begin_30 : decode cX0_begin 30 = .ok (.aload_n 0, 1) := by decide +kernel
theorem dX0_begin_31 : decode cX0_begin 31 = .ok (.getfield 10, 3) := by decide +kernel
theorem dX0_begin_34 : decode cX0_begin 34 = .ok (.invokevirtual 35, 3) := by decide +kernel
theorem dX0_begin_37 : decode cX0_begin 37 = .ok (.return_, 1) := by decide +kernel
theorem dX0_copyFrom_0 : decode cX0_copyFrom 0 = .ok (.aload_n 0, 1) := by decide +kernel
theorem dX0_copyFrom_1 : decode cX0_copyFrom 1 = .ok (.getfield 10, 3) := by decide +kernel
theorem dX0_copyFrom_4 : decode cX0_copyFrom 4 = .ok (.aload_n 1, 1) := by decide +kernel
theorem dX0_copyFrom_5 : decode cX0_copyFrom 5 = .ok (.getfield 10, 3) := by decide +kernel
theorem dX0_copyFrom_8 : decode cX0_copyFrom 8 = .ok (.invokevirtual 38, 3) := by decide +kernel
theorem dX0_copyFrom_11 : decode cX0_copyFrom 11 = .ok (.aload_n 0, 1) := by decide +kernel
theorem dX0_copyFrom_12 : decode cX0_copyFrom 12 = .ok (.aload_n 1, 1) := by decide +kernel
theorem dX0_copyFrom_13 : decode cX0_copyFrom 13 = .ok (.getfield 16, 3) := by decide +kernel
theorem dX0_copyFrom_16 : decode cX0_copyFrom 16 = .ok (.putfield 16, 3) := by decide +kernel
theorem dX0_copyFrom_19 : decode cX0_copyFrom 19 = .ok (.aload_n 0, 1) := by decide +kernel
theorem dX0_copyFrom_20 : decode cX0_copyFrom 20 = .ok (.aload_n 1, 1) := by decide +kernel
theorem dX0_copyFrom_21 : decode cX0_copyFrom 21 = .ok (.getfield 20, 3) := by decide +kernel
theorem dX0_copyFrom_24 : decode cX0_copyFrom 24 = .ok (.putfield 20, 3) := by decide +kernel
theorem dX0_copyFrom_27 : decode cX0_copyFrom 27 = .ok (.aload_n 0, 1) := by decide +kernel
theorem dX0_copyFrom_28 : decode cX0_copyFrom 28 = .ok (.aload_n 1, 1) := by decide +kernel
theorem dX0_copyFrom_29 : decode cX0_copyFrom 29 = .ok (.getfield 23, 3) := by decide +kernel
theorem dX0_copyFrom_32 : decode cX0_copyFrom 32 = .ok (.putfield 23, 3) := by decide +kernel
theorem dX0_copyFrom_35 : decode cX0_copyFrom 35 = .ok (.aload_n 0, 1) := by decide +kernel
theorem dX0_copyFrom_36 : decode cX0_copyFrom 36 = .ok (.aload_n 1, 1) := by decide +kernel
theorem dX0_copyFrom_37 : decode cX0_copyFrom 37 = .ok (.getfield 26, 3) := by decide +kernel
theorem dX0_copyFrom_40 : decode cX0_copyFrom 40 = .ok (.putfield 26, 3) := by decide +kernel
theorem dX0_copyFrom_43 : decode cX0_copyFrom 43 = .ok (.aload_n 0, 1) := by decide +kernel
theorem dX0_copyFrom_44 : decode cX0_copyFrom 44 = .ok (.aload_n 1, 1) := by decide +kernel
theorem dX0_copyFrom_45 : decode cX0_copyFrom 45 = .ok (.getfield 29, 3) := by decide +kernel
theorem dX0_copyFrom_48 : decode cX0_copyFrom 48 = .ok (.putfield 29, 3) := by decide +kernel
theorem dX0_copyFrom_51 : decode cX0_copyFrom 51 = .ok (.aload_n 0, 1) := by decide +kernel
theorem dX0_copyFrom_52 : decode cX0_copyFrom 52 = .ok (.aload_n 1, 1) := by decide +kernel
theorem dX0_copyFrom_53 : decode cX0_copyFrom 53 = .ok (.getfield 32, 3) := by decide +kernel
theorem dX0_copyFrom_56 : decode cX0_copyFrom 56 = .ok (.putfield 32, 3) := by decide +kernel
theorem dX0_copyFrom_59 : decode cX0_copyFrom 59 = .ok (.return_, 1) := by decide +kernel
theorem dX0_iceToGive_0 : decode cX0_iceToGive 0 = .ok (.aload_n 0, 1) := by decide +kernel
theorem dX0_iceToGive_1 : decode cX0_iceToGive 1 = .ok (.getfield 10, 3) := by decide +kernel
theorem dX0_iceToGive_4 : decode cX0_iceToGive 4 = .ok (.getfield 42, 3) := by decide +kernel
theorem dX0_iceToGive_7 : decode cX0_iceToGive 7 = .ok (.i2l, 1) := by decide +kernel
theorem dX0_iceToGive_8 : decode cX0_iceToGive 8 = .ok (.aload_n 0, 1) := by decide +kernel
theorem dX0_iceToGive_9 : decode cX0_iceToGive 9 = .ok (.getfield 23, 3) := by decide +kernel
theorem dX0_iceToGive_12 : decode cX0_iceToGive 12 = .ok (.i2l, 1) := by decide +kernel
theorem dX0_iceToGive_13 : decode cX0_iceToGive 13 = .ok (.lmul, 1) := by decide +kernel
theorem dX0_iceToGive_14 : decode cX0_iceToGive 14 = .ok (.ldc2_w 45, 3) := by decide +kernel
theorem dX0_iceToGive_17 : decode cX0_iceToGive 17 = .ok (.ldiv, 1) := by decide +kernel
theorem dX0_iceToGive_18 : decode cX0_iceToGive 18 = .ok (.l2i, 1) := by decide +kernel
theorem dX0_iceToGive_19 : decode cX0_iceToGive 19 = .ok (.ireturn, 1) := by decide +kernel
theorem dX0_way_0 : decode cX0_way 0 = .ok (.aload_n 0, 1) := by decide +kernel
theorem dX0_way_1 : decode cX0_way 1 = .ok (.getfield 20, 3) := by decide +kernel
theorem dX0_way_4 : decode cX0_way 4 = .ok (.aload_n 0, 1) := by decide +kernel
theorem dX0_way_5 : decode cX0_way 5 = .ok (.getfield 23, 3) := by decide +kernel
theorem dX0_way_8 : decode cX0_way 8 = .ok (.imul, 1) := by decide +kernel
theorem dX0_way_9 : decode cX0_way 9 = .ok (.sipush 1000, 3) := by decide +kernel
theorem dX0_way_12 : decode cX0_way 12 = .ok (.idiv, 1) := by decide +kernel
theorem dX0_way_13 : decode cX0_way 13 = .ok (.ireturn, 1) := by decide +kernel
theorem dX1_init_0 : decode cX1_init 0 = .ok (.aload_n 0, 1) := by decide +kernel
theorem dX1_init_1 : decode cX1_init 1 = .ok (.invokespecial 1, 3) := by decide +kernel
theorem dX1_init_4 : decode cX1_init 4 = .ok (.aload_n 0, 1) := by decide +kernel
theorem dX1_init_5 : decode cX1_init 5 = .ok (.iconst 0, 1) := by decide +kernel
theorem dX1_init_6 : decode cX1_init 6 = .ok (.putfield 7, 3) := by decide +kernel
theorem dX1_init_9 : decode cX1_init 9 = .ok (.aload_n 0, 1) := by decide +kernel
theorem dX1_init_10 : decode cX1_init 10 = .ok (.iconst 0, 1) := by decide +kernel
theorem dX1_init_11 : decode cX1_init 11 = .ok (.putfield 13, 3) := by decide +kernel
theorem dX1_init_14 : decode cX1_init 14 = .ok (.aload_n 0, 1) := by decide +kernel
theorem dX1_init_15 : decode cX1_init 15 = .ok (.iconst 0, 1) := by decide +kernel
theorem dX1_init_16 : decode cX1_init 16 = .ok (.putfield 16, 3) := by decide +kernel
theorem dX1_init_19 : decode cX1_init 19 = .ok (.aload_n 0, 1) := by decide +kernel
theorem dX1_init_20 : decode cX1_init 20 = .ok (.iconst 0, 1) := by decide +kernel
theorem dX1_init_21 : decode cX1_init 21 = .ok (.putfield 19, 3) := by decide +kernel
theorem dX1_init_24 : decode cX1_init 24 = .ok (.return_, 1) := by decide +kernel
theorem dX1_copyFrom_0 : decode cX1_copyFrom 0 = .ok (.aload_n 0, 1) := by decide +kernel
theorem dX1_copyFrom_1 : decode cX1_copyFrom 1 = .ok (.aload_n 1, 1) := by decide +kernel
theorem dX1_copyFrom_2 : decode cX1_copyFrom 2 = .ok (.getfield 7, 3) := by decide +kernel
theorem dX1_copyFrom_5 : decode cX1_copyFrom 5 = .ok (.putfield 7, 3) := by decide +kernel
theorem dX1_copyFrom_8 : decode cX1_copyFrom 8 = .ok (.aload_n 0, 1) := by decide +kernel
theorem dX1_copyFrom_9 : decode cX1_copyFrom 9 = .ok (.aload_n 1, 1) := by decide +kernel
theorem dX1_copyFrom_10 : decode cX1_copyFrom 10 = .ok (.getfield 13, 3) := by decide +kernel
theorem dX1_copyFrom_13 : decode cX1_copyFrom 13 = .ok (.putfield 13, 3) := by decide +kernel
theorem dX1_copyFrom_16 : decode cX1_copyFrom 16 = .ok (.aload_n 0, 1) := by decide +kernel
theorem dX1_copyFrom_17 : decode cX1_copyFrom 17 = .ok (.aload_n 1, 1) := by decide +kernel
theorem dX1_copyFrom_18 : decode cX1_copyFrom 18 = .ok (.getfield 16, 3) := by decide +kernel
theorem dX1_copyFrom_21 : decode cX1_copyFrom 21 = .ok (.putfield 16, 3) := by decide +kernel
theorem dX1_copyFrom_24 : decode cX1_copyFrom 24 = .ok (.aload_n 0, 1) := by decide +kernel
theorem dX1_copyFrom_25 : decode cX1_copyFrom 25 = .ok (.aload_n 1, 1) := by decide +kernel
theorem dX1_copyFrom_26 : decode cX1_copyFrom 26 = .ok (.getfield 19, 3) := by decide +kernel
theorem dX1_copyFrom_29 : decode cX1_copyFrom 29 = .ok (.putfield 19, 3) := by decide +kernel
theorem dX1_copyFrom_32 : decode cX1_copyFrom 32 = .ok (.return_, 1) := by decide +kernel
theorem dX1_calve_0 : decode cX1_calve 0 = .ok (.aload_n 0, 1) := by decide +kernel
theorem dX1_calve_1 : decode cX1_calve 1 = .ok (.getfield 13, 3) := by decide +kernel
theorem dX1_calve_4 : decode cX1_calve 4 = .ok (.ifCond .le 15, 3) := by decide +kernel
theorem dX1_calve_7 : decode cX1_calve 7 = .ok (.aload_n 0, 1) := by decide +kernel
theorem dX1_calve_8 : decode cX1_calve 8 = .ok (.dup, 1) := by decide +kernel
theorem dX1_calve_9 : decode cX1_calve 9 = .ok (.getfield 13, 3) := by decide +kernel
theorem dX1_calve_12 : decode cX1_calve 12 = .ok (.iconst 1, 1) := by decide +kernel
theorem dX1_calve_13 : decode cX1_calve 13 = .ok (.isub, 1) := by decide +kernel
theorem dX1_calve_14 : decode cX1_calve 14 = .ok (.putfield 13, 3) := by decide +kernel
theorem dX1_calve_17 : decode cX1_calve 17 = .ok (.iconst 0, 1) := by decide +kernel
theorem dX1_calve_18 : decode cX1_calve 18 = .ok (.ireturn, 1) := by decide +kernel
theorem dX1_calve_19 : decode cX1_calve 19 = .ok (.iload_n 1, 1) := by decide +kernel
theorem dX1_calve_20 : decode cX1_calve 20 = .ok (.ifCond .le 11, 3) := by decide +kernel
theorem dX1_calve_23 : decode cX1_calve 23 = .ok (.aload_n 0, 1) := by decide +kernel
theorem dX1_calve_24 : decode cX1_calve 24 = .ok (.getfield 7, 3) := by decide +kernel
theorem dX1_calve_27 : decode cX1_calve 27 = .ok (.iload_n 1, 1) := by decide +kernel
theorem dX1_calve_28 : decode cX1_calve 28 = .ok (.if_icmp .ge 5, 3) := by decide +kernel
theorem dX1_calve_31 : decode cX1_calve 31 = .ok (.iconst 0, 1) := by decide +kernel
theorem dX1_calve_32 : decode cX1_calve 32 = .ok (.ireturn, 1) := by decide +kernel
theorem dX1_calve_33 : decode cX1_calve 33 = .ok (.aload_n 0, 1) := by decide +kernel
theorem dX1_calve_34 : decode cX1_calve 34 = .ok (.getfield 7, 3) := by decide +kernel
theorem dX1_calve_37 : decode cX1_calve 37 = .ok (.iload_n 1, 1) := by decide +kernel
theorem dX1_calve_38 : decode cX1_calve 38 = .ok (.idiv, 1) := by decide +kernel
theorem dX1_calve_39 : decode cX1_calve 39 = .ok (.istore 4, 2) := by decide +kernel
theorem dX1_calve_41 : decode cX1_calve 41 = .ok (.aload_n 0, 1) := by decide +kernel
theorem dX1_calve_42 : decode cX1_calve 42 = .ok (.dup, 1) := by decide +kernel
theorem dX1_calve_43 : decode cX1_calve 43 = .ok (.getfield 16, 3) := by decide +kernel
theorem dX1_calve_46 : decode cX1_calve 46 = .ok (.iload 4, 2) := by decide +kernel
theorem dX1_calve_48 : decode cX1_calve 48 = .ok (.iadd, 1) := by decide +kernel
theorem dX1_calve_49 : decode cX1_calve 49 = .ok (.putfield 16, 3) := by decide +kernel
theorem dX1_calve_52 : decode cX1_calve 52 = .ok (.aload_n 0, 1) := by decide +kernel
theorem dX1_calve_53 : decode cX1_calve 53 = .ok (.dup, 1) := by decide +kernel
theorem dX1_calve_54 : decode cX1_calve 54 = .ok (.getfield 7, 3) := by decide +kernel
theorem dX1_calve_57 : decode cX1_calve 57 = .ok (.iload 4, 2) := by decide +kernel
theorem dX1_calve_59 : decode cX1_calve 59 = .ok (.iload_n 1, 1) := by decide +kernel
theorem dX1_calve_60 : decode cX1_calve 60 = .ok (.imul, 1) := by decide +kernel
theorem dX1_calve_61 : decode cX1_calve 61 = .ok (.isub, 1) := by decide +kernel
theorem dX1_calve_62 : decode cX1_calve 62 = .ok (.putfield 7, 3) := by decide +kernel
theorem dX1_calve_65 : decode cX1_calve 65 = .ok (.aload_n 0, 1) := by decide +kernel
theorem dX1_calve_66 : decode cX1_calve 66 = .ok (.iload_n 2, 1) := by decide +kernel
theorem dX1_calve_67 : decode cX1_calve 67 = .ok (.putfield 13, 3) := by decide +kernel
theorem dX1_calve_70 : decode cX1_calve 70 = .ok (.aload_n 0, 1) := by decide +kernel
theorem dX1_calve_71 : decode cX1_calve 71 = .ok (.iload_n 3, 1) := by decide +kernel
theorem dX1_calve_72 : decode cX1_calve 72 = .ok (.putfield 19, 3) := by decide +kernel
theorem dX1_calve_75 : decode cX1_calve 75 = .ok (.iload 4, 2) := by decide +kernel
theorem dX1_calve_77 : decode cX1_calve 77 = .ok (.iload_n 1, 1) := by decide +kernel
theorem dX1_calve_78 : decode cX1_calve 78 = .ok (.imul, 1) := by decide +kernel
theorem dX1_calve_79 : decode cX1_calve 79 = .ok (.ireturn, 1) := by decide +kernel
theorem dX2_init_0 : decode cX2_init 0 = .ok (.aload_n 0, 1) := by decide +kernel
theorem dX2_init_1 : decode cX2_init 1 = .ok (.invokespecial 3, 3) := by decide +kernel
theorem dX2_init_4 : decode cX2_init 4 = .ok (.aload_n 0, 1) := by decide +kernel
theorem dX2_init_5 : decode cX2_init 5 = .ok (.sipush 801, 3) := by decide +kernel
theorem dX2_init_8 : decode cX2_init 8 = .ok (.newarray .int, 2) := by decide +kernel
theorem dX2_init_10 : decode cX2_init 10 = .ok (.putfield 9, 3) := by decide +kernel
theorem dX2_init_13 : decode cX2_init 13 = .ok (.aload_n 0, 1) := by decide +kernel
theorem dX2_init_14 : decode cX2_init 14 = .ok (.iconst 0, 1) := by decide +kernel
theorem dX2_init_15 : decode cX2_init 15 = .ok (.putfield 15, 3) := by decide +kernel
theorem dX2_init_18 : decode cX2_init 18 = .ok (.aload_n 0, 1) := by decide +kernel
theorem dX2_init_19 : decode cX2_init 19 = .ok (.sipush 801, 3) := by decide +kernel
theorem dX2_init_22 : decode cX2_init 22 = .ok (.putfield 19, 3) := by decide +kernel
theorem dX2_init_25 : decode cX2_init 25 = .ok (.aload_n 0, 1) := by decide +kernel
theorem dX2_init_26 : decode cX2_init 26 = .ok (.iconst (-1), 1) := by decide +kernel
theorem dX2_init_27 : decode cX2_init 27 = .ok (.putfield 22, 3) := by decide +kernel
theorem dX2_init_30 : decode cX2_init 30 = .ok (.return_, 1) := by decide +kernel
theorem dX2_copyFrom_0 : decode cX2_copyFrom 0 = .ok (.aload_n 1, 1) := by decide +kernel
theorem dX2_copyFrom_1 : decode cX2_copyFrom 1 = .ok (.getfield 9, 3) := by decide +kernel
theorem dX2_copyFrom_4 : decode cX2_copyFrom 4 = .ok (.iconst 0, 1) := by decide +kernel
theorem dX2_copyFrom_5 : decode cX2_copyFrom 5 = .ok (.aload_n 0, 1) := by decide +kernel
theorem dX2_copyFrom_6 : decode cX2_copyFrom 6 = .ok (.getfield 9, 3) := by decide +kernel
theorem dX2_copyFrom_9 : decode cX2_copyFrom 9 = .ok (.iconst 0, 1) := by decide +kernel
theorem dX2_copyFrom_10 : decode cX2_copyFrom 10 = .ok (.sipush 801, 3) := by decide +kernel
theorem dX2_copyFrom_13 : decode cX2_copyFrom 13 = .ok (.invokestatic 25, 3) := by decide +kernel
theorem dX2_copyFrom_16 : decode cX2_copyFrom 16 = .ok (.aload_n 0, 1) := by decide +kernel
theorem dX2_copyFrom_17 : decode cX2_copyFrom 17 = .ok (.aload_n 1, 1) := by decide +kernel
theorem dX2_copyFrom_18 : decode cX2_copyFrom 18 = .ok (.getfield 15, 3) := by decide +kernel
theorem dX2_copyFrom_21 : decode cX2_copyFrom 21 = .ok (.putfield 15, 3) := by decide +kernel
theorem dX2_copyFrom_24 : decode cX2_copyFrom 24 = .ok (.aload_n 0, 1) := by decide +kernel
theorem dX2_copyFrom_25 : decode cX2_copyFrom 25 = .ok (.aload_n 1, 1) := by decide +kernel
theorem dX2_copyFrom_26 : decode cX2_copyFrom 26 = .ok (.getfield 19, 3) := by decide +kernel
theorem dX2_copyFrom_29 : decode cX2_copyFrom 29 = .ok (.putfield 19, 3) := by decide +kernel
theorem dX2_copyFrom_32 : decode cX2_copyFrom 32 = .ok (.aload_n 0, 1) := by decide +kernel
theorem dX2_copyFrom_33 : decode cX2_copyFrom 33 = .ok (.aload_n 1, 1) := by decide +kernel
theorem dX2_copyFrom_34 : decode cX2_copyFrom 34 = .ok (.getfield 22, 3) := by decide +kernel
theorem dX2_copyFrom_37 : decode cX2_copyFrom 37 = .ok (.putfield 22, 3) := by decide +kernel
theorem dX2_copyFrom_40 : decode cX2_copyFrom 40 = .ok (.return_, 1) := by decide +kernel
theorem dX2_empty_0 : decode cX2_empty 0 = .ok (.aload_n 0, 1) := by decide +kernel
theorem dX2_empty_1 : decode cX2_empty 1 = .ok (.getfield 9, 3) := by decide +kernel
theorem dX2_empty_4 : decode cX2_empty 4 = .ok (.iconst 0, 1) := by decide +kernel
theorem dX2_empty_5 : decode cX2_empty 5 = .ok (.invokestatic 31, 3) := by decide +kernel
theorem dX2_empty_8 : decode cX2_empty 8 = .ok (.aload_n 0, 1) := by decide +kernel
theorem dX2_empty_9 : decode cX2_empty 9 = .ok (.iconst 0, 1) := by decide +kernel
theorem dX2_empty_10 : decode cX2_empty 10 = .ok (.putfield 15, 3) := by decide +kernel
theorem dX2_empty_13 : decode cX2_empty 13 = .ok (.aload_n 0, 1) := by decide +kernel
theorem dX2_empty_14 : decode cX2_empty 14 = .ok (.invokevirtual 37, 3) := by decide +kernel
theorem dX2_empty_17 : decode cX2_empty 17 = .ok (.return_, 1) := by decide +kernel
theorem dX2_add_0 : decode cX2_add 0 = .ok (.iload_n 2, 1) := by decide +kernel
theorem dX2_add_1 : decode cX2_add 1 = .ok (.ifCond .le 14, 3) := by decide +kernel
theorem dX2_add_4 : decode cX2_add 4 = .ok (.iload_n 1, 1) := by decide +kernel
theorem dX2_add_5 : decode cX2_add 5 = .ok (.ifCond .lt 10, 3) := by decide +kernel
theorem dX2_add_8 : decode cX2_add 8 = .ok (.iload_n 1, 1) := by decide +kernel
theorem dX2_add_9 : decode cX2_add 9 = .ok (.sipush 801, 3) := by decide +kernel
theorem dX2_add_12 : decode cX2_add 12 = .ok (.if_icmp .lt 4, 3) := by decide +kernel
theorem dX2_add_15 : decode cX2_add 15 = .ok (.return_, 1) := by decide +kernel
theorem dX2_add_16 : decode cX2_add 16 = .ok (.aload_n 0, 1) := by decide +kernel
theorem dX2_add_17 : decode cX2_add 17 = .ok (.getfield 9, 3) := by decide +kernel
theorem dX2_add_20 : decode cX2_add 20 = .ok (.iload_n 1, 1) := by decide +kernel
theorem dX2_add_21 : decode cX2_add 21 = .ok (.dup2, 1) := by decide +kernel
theorem dX2_add_22 : decode cX2_add 22 = .ok (.iaload, 1) := by decide +kernel
theorem dX2_add_23 : decode cX2_add 23 = .ok (.iload_n 2, 1) := by decide +kernel
theorem dX2_add_24 : decode cX2_add 24 = .ok (.iadd, 1) := by decide +kernel
theorem dX2_add_25 : decode cX2_add 25 = .ok (.iastore, 1) := by decide +kernel
theorem dX2_add_26 : decode cX2_add 26 = .ok (.aload_n 0, 1) := by decide +kernel
theorem dX2_add_27 : decode cX2_add 27 = .ok (.dup, 1) := by decide +kernel
theorem dX2_add_28 : decode cX2_add 28 = .ok (.getfield 15, 3) := by decide +kernel
theorem dX2_add_31 : decode cX2_add 31 = .ok (.iload_n 2, 1) := by decide +kernel
theorem dX2_add_32 : decode cX2_add 32 = .ok (.iadd, 1) := by decide +kernel
theorem dX2_add_33 : decode cX2_add 33 = .ok (.putfield 15, 3) := by decide +kernel
theorem dX2_add_36 : decode cX2_add 36 = .ok (.aload_n 0, 1) := by decide +kernel
theorem dX2_add_37 : decode cX2_add 37 = .ok (.aload_n 0, 1) := by decide +kernel
theorem dX2_add_38 : decode cX2_add 38 = .ok (.getfield 19, 3) := by decide +kernel
theorem dX2_add_41 : decode cX2_add 41 = .ok (.iload_n 1, 1) := by decide +kernel
theorem dX2_add_42 : decode cX2_add 42 = .ok (.invokestatic 40, 3) := by decide +kernel
theorem dX2_add_45 : decode cX2_add 45 = .ok (.putfield 19, 3) := by decide +kernel
theorem dX2_add_48 : decode cX2_add 48 = .ok (.aload_n 0, 1) := by decide +kernel
theorem dX2_add_49 : decode cX2_add 49 = .ok (.aload_n 0, 1) := by decide +kernel
theorem dX2_add_50 : decode cX2_add 50 = .ok (.getfield 22, 3) := by decide +kernel
theorem dX2_add_53 : decode cX2_add 53 = .ok (.iload_n 1, 1) := by decide +kernel
theorem dX2_add_54 : decode cX2_add 54 = .ok (.invokestatic 46, 3) := by decide +kernel
theorem dX2_add_57 : decode cX2_add 57 = .ok (.putfield 22, 3) := by decide +kernel
theorem dX2_add_60 : decode cX2_add 60 = .ok (.return_, 1) := by decide +kernel
theorem dX2_takeFromLatest_0 : decode cX2_takeFromLatest 0 = .ok (.iload_n 1, 1) := by decide +kernel
theorem dX2_takeFromLatest_1 : decode cX2_takeFromLatest 1 = .ok (.aload_n 0, 1) := by decide +kernel
theorem dX2_takeFromLatest_2 : decode cX2_takeFromLatest 2 = .ok (.getfield 15, 3) := by decide +kernel
theorem dX2_takeFromLatest_5 : decode cX2_takeFromLatest 5 = .ok (.invokestatic 40, 3) := by decide +kernel
theorem dX2_takeFromLatest_8 : decode cX2_takeFromLatest 8 = .ok (.istore_n 2, 1) := by decide +kernel
theorem dX2_takeFromLatest_9 : decode cX2_takeFromLatest 9 = .ok (.iload_n 2, 1) := by decide +kernel
theorem dX2_takeFromLatest_10 : decode cX2_takeFromLatest 10 = .ok (.istore_n 3, 1) := by decide +kernel
theorem dX2_takeFromLatest_11 : decode cX2_takeFromLatest 11 = .ok (.aload_n 0, 1) := by decide +kernel
theorem dX2_takeFromLatest_12 : decode cX2_takeFromLatest 12 = .ok (.getfield 22, 3) := by decide +kernel
theorem dX2_takeFromLatest_15 : decode cX2_takeFromLatest 15 = .ok (.istore 4, 2) := by decide +kernel
theorem dX2_takeFromLatest_17 : decode cX2_takeFromLatest 17 = .ok (.iload 4, 2) := by decide +kernel
theorem dX2_takeFromLatest_19 : decode cX2_takeFromLatest 19 = .ok (.aload_n 0, 1) := by decide +kernel
theorem dX2_takeFromLatest_20 : decode cX2_takeFromLatest 20 = .ok (.getfield 19, 3) := by decide +kernel
theorem dX2_takeFromLatest_23 : decode cX2_takeFromLatest 23 = .ok (.if_icmp .lt 23, 3) := by decide +kernel
theorem dX2_takeFromLatest_26 : decode cX2_takeFromLatest 26 = .ok (.iload_n 3, 1) := by decide +kernel
theorem dX2_takeFromLatest_27 : decode cX2_takeFromLatest 27 = .ok (.ifCond .le 19, 3) := by decide +kernel
theorem dX2_takeFromLatest_30 : decode cX2_takeFromLatest 30 = .ok (.iload_n 3, 1) := by decide +kernel
theorem dX2_takeFromLatest_31 : decode cX2_takeFromLatest 31 = .ok (.aload_n 0, 1) := by decide +kernel
theorem dX2_takeFromLatest_32 : decode cX2_takeFromLatest 32 = .ok (.iload 4, 2) := by decide +kernel
theorem dX2_takeFromLatest_34 : decode cX2_takeFromLatest 34 = .ok (.iload_n 3, 1) := by decide +kernel
theorem dX2_takeFromLatest_35 : decode cX2_takeFromLatest 35 = .ok (.invokevirtual 49, 3) := by decide +kernel
theorem dX2_takeFromLatest_38 : decode cX2_takeFromLatest 38 = .ok (.isub, 1) := by decide +kernel
theorem dX2_takeFromLatest_39 : decode cX2_takeFromLatest 39 = .ok (.istore_n 3, 1) := by decide +kernel
theorem dX2_takeFromLatest_40 : decode cX2_takeFromLatest 40 = .ok (.iinc 4 (-1), 3) := by decide +kernel
theorem dX2_takeFromLatest_43 : decode cX2_takeFromLatest 43 = .ok (.goto (-26), 3) := by decide +kernel
theorem dX2_takeFromLatest_46 : decode cX2_takeFromLatest 46 = .ok (.aload_n 0, 1) := by decide +kernel
theorem dX2_takeFromLatest_47 : decode cX2_takeFromLatest 47 = .ok (.invokevirtual 37, 3) := by decide +kernel
theorem dX2_takeFromLatest_50 : decode cX2_takeFromLatest 50 = .ok (.iload_n 2, 1) := by decide +kernel
theorem dX2_takeFromLatest_51 : decode cX2_takeFromLatest 51 = .ok (.ireturn, 1) := by decide +kernel
theorem dX2_giveFromOldest_0 : decode cX2_giveFromOldest 0 = .ok (.iload_n 1, 1) := by decide +kernel
theorem dX2_giveFromOldest_1 : decode cX2_giveFromOldest 1 = .ok (.aload_n 0, 1) := by decide +kernel
theorem dX2_giveFromOldest_2 : decode cX2_giveFromOldest 2 = .ok (.getfield 15, 3) := by decide +kernel
theorem dX2_giveFromOldest_5 : decode cX2_giveFromOldest 5 = .ok (.invokestatic 40, 3) := by decide +kernel
theorem dX2_giveFromOldest_8 : decode cX2_giveFromOldest 8 = .ok (.istore_n 3, 1) := by decide +kernel
theorem dX2_giveFromOldest_9 : decode cX2_giveFromOldest 9 = .ok (.aload_n 0, 1) := by decide +kernel
theorem dX2_giveFromOldest_10 : decode cX2_giveFromOldest 10 = .ok (.getfield 19, 3) := by decide +kernel
theorem dX2_giveFromOldest_13 : decode cX2_giveFromOldest 13 = .ok (.istore 4, 2) := by decide +kernel
theorem dX2_giveFromOldest_15 : decode cX2_giveFromOldest 15 = .ok (.iload 4, 2) := by decide +kernel
theorem dX2_giveFromOldest_17 : decode cX2_giveFromOldest 17 = .ok (.aload_n 0, 1) := by decide +kernel
theorem dX2_giveFromOldest_18 : decode cX2_giveFromOldest 18 = .ok (.getfield 22, 3) := by decide +kernel
theorem dX2_giveFromOldest_21 : decode cX2_giveFromOldest 21 = .ok (.if_icmp .gt 39, 3) := by decide +kernel
theorem dX2_giveFromOldest_24 : decode cX2_giveFromOldest 24 = .ok (.iload_n 3, 1) := by decide +kernel
theorem dX2_giveFromOldest_25 : decode cX2_giveFromOldest 25 = .ok (.ifCond .le 35, 3) := by decide +kernel
theorem dX2_giveFromOldest_28 : decode cX2_giveFromOldest 28 = .ok (.aload_n 0, 1) := by decide +kernel
theorem dX2_giveFromOldest_29 : decode cX2_giveFromOldest 29 = .ok (.iload 4, 2) := by decide +kernel
theorem dX2_giveFromOldest_31 : decode cX2_giveFromOldest 31 = .ok (.iload_n 3, 1) := by decide +kernel
theorem dX2_giveFromOldest_32 : decode cX2_giveFromOldest 32 = .ok (.invokevirtual 49, 3) := by decide +kernel
theorem dX2_giveFromOldest_35 : decode cX2_giveFromOldest 35 = .ok (.istore 5, 2) := by decide +kernel
theorem dX2_giveFromOldest_37 : decode cX2_giveFromOldest 37 = .ok (.iload_n 3, 1) := by decide +kernel
theorem dX2_giveFromOldest_38 : decode cX2_giveFromOldest 38 = .ok (.iload 5, 2) := by decide +kernel
theorem dX2_giveFromOldest_40 : decode cX2_giveFromOldest 40 = .ok (.isub, 1) := by decide +kernel
theorem dX2_giveFromOldest_41 : decode cX2_giveFromOldest 41 = .ok (.istore_n 3, 1) := by decide +kernel
theorem dX2_giveFromOldest_42 : decode cX2_giveFromOldest 42 = .ok (.aload_n 2, 1) := by decide +kernel
theorem dX2_giveFromOldest_43 : decode cX2_giveFromOldest 43 = .ok (.ifnull 11, 3) := by decide +kernel
theorem dX2_giveFromOldest_46 : decode cX2_giveFromOldest 46 = .ok (.aload_n 2, 1) := by decide +kernel
theorem dX2_giveFromOldest_47 : decode cX2_giveFromOldest 47 = .ok (.iload 4, 2) := by decide +kernel
theorem dX2_giveFromOldest_49 : decode cX2_giveFromOldest 49 = .ok (.iload 5, 2) := by decide +kernel
theorem dX2_giveFromOldest_51 : decode cX2_giveFromOldest 51 = .ok (.invokevirtual 52, 3) := by decide +kernel
theorem dX2_giveFromOldest_54 : decode cX2_giveFromOldest 54 = .ok (.iinc 4 1, 3) := by decide +kernel
theorem dX2_giveFromOldest_57 : decode cX2_giveFromOldest 57 = .ok (.goto (-42), 3) := by decide +kernel
theorem dX2_giveFromOldest_60 : decode cX2_giveFromOldest 60 = .ok (.aload_n 0, 1) := by decide +kernel
theorem dX2_giveFromOldest_61 : decode cX2_giveFromOldest 61 = .ok (.invokevirtual 37, 3) := by decide +kernel
theorem dX2_giveFromOldest_64 : decode cX2_giveFromOldest 64 = .ok (.return_, 1) := by decide +kernel
theorem dX2_takeOfYear_0 : decode cX2_takeOfYear 0 = .ok (.aload_n 0, 1) := by decide +kernel
theorem dX2_takeOfYear_1 : decode cX2_takeOfYear 1 = .ok (.iload_n 1, 1) := by decide +kernel
theorem dX2_takeOfYear_2 : decode cX2_takeOfYear 2 = .ok (.invokevirtual 56, 3) := by decide +kernel
theorem dX2_takeOfYear_5 : decode cX2_takeOfYear 5 = .ok (.iload_n 2, 1) := by decide +kernel
theorem dX2_takeOfYear_6 : decode cX2_takeOfYear 6 = .ok (.invokestatic 40, 3) := by decide +kernel
theorem dX2_takeOfYear_9 : decode cX2_takeOfYear 9 = .ok (.istore_n 3, 1) := by decide +kernel
theorem dX2_takeOfYear_10 : decode cX2_takeOfYear 10 = .ok (.iload_n 3, 1) := by decide +kernel
theorem dX2_takeOfYear_11 : decode cX2_takeOfYear 11 = .ok (.ifCond .le 23, 3) := by decide +kernel
theorem dX2_takeOfYear_14 : decode cX2_takeOfYear 14 = .ok (.aload_n 0, 1) := by decide +kernel
theorem dX2_takeOfYear_15 : decode cX2_takeOfYear 15 = .ok (.getfield 9, 3) := by decide +kernel
theorem dX2_takeOfYear_18 : decode cX2_takeOfYear 18 = .ok (.iload_n 1, 1) := by decide +kernel
theorem dX2_takeOfYear_19 : decode cX2_takeOfYear 19 = .ok (.dup2, 1) := by decide +kernel
theorem dX2_takeOfYear_20 : decode cX2_takeOfYear 20 = .ok (.iaload, 1) := by decide +kernel
theorem dX2_takeOfYear_21 : decode cX2_takeOfYear 21 = .ok (.iload_n 3, 1) := by decide +kernel
theorem dX2_takeOfYear_22 : decode cX2_takeOfYear 22 = .ok (.isub, 1) := by decide +kernel
theorem dX2_takeOfYear_23 : decode cX2_takeOfYear 23 = .ok (.iastore, 1) := by decide +kernel
theorem dX2_takeOfYear_24 : decode cX2_takeOfYear 24 = .ok (.aload_n 0, 1) := by decide +kernel
theorem dX2_takeOfYear_25 : decode cX2_takeOfYear 25 = .ok (.dup, 1) := by decide +kernel
theorem dX2_takeOfYear_26 : decode cX2_takeOfYear 26 = .ok (.getfield 15, 3) := by decide +kernel
theorem dX2_takeOfYear_29 : decode cX2_takeOfYear 29 = .ok (.iload_n 3, 1) := by decide +kernel
theorem dX2_takeOfYear_30 : decode cX2_takeOfYear 30 = .ok (.isub, 1) := by decide +kernel
theorem dX2_takeOfYear_31 : decode cX2_takeOfYear 31 = .ok (.putfield 15, 3) := by decide +kernel
theorem dX2_takeOfYear_34 : decode cX2_takeOfYear 34 = .ok (.iload_n 3, 1) := by decide +kernel
theorem dX2_takeOfYear_35 : decode cX2_takeOfYear 35 = .ok (.ireturn, 1) := by decide +kernel
theorem dX2_narrow_0 : decode cX2_narrow 0 = .ok (.aload_n 0, 1) := by decide +kernel
theorem dX2_narrow_1 : decode cX2_narrow 1 = .ok (.getfield 15, 3) := by decide +kernel
theorem dX2_narrow_4 : decode cX2_narrow 4 = .ok (.ifCond .ne 15, 3) := by decide +kernel
theorem dX2_narrow_7 : decode cX2_narrow 7 = .ok (.aload_n 0, 1) := by decide +kernel
theorem dX2_narrow_8 : decode cX2_narrow 8 = .ok (.sipush 801, 3) := by decide +kernel
theorem dX2_narrow_11 : decode cX2_narrow 11 = .ok (.putfield 19, 3) := by decide +kernel
theorem dX2_narrow_14 : decode cX2_narrow 14 = .ok (.aload_n 0, 1) := by decide +kernel
theorem dX2_narrow_15 : decode cX2_narrow 15 = .ok (.iconst (-1), 1) := by decide +kernel
theorem dX2_narrow_16 : decode cX2_narrow 16 = .ok (.putfield 22, 3) := by decide +kernel
theorem dX2_narrow_19 : decode cX2_narrow 19 = .ok (.aload_n 0, 1) := by decide +kernel
theorem dX2_narrow_20 : decode cX2_narrow 20 = .ok (.getfield 19, 3) := by decide +kernel
theorem dX2_narrow_23 : decode cX2_narrow 23 = .ok (.aload_n 0, 1) := by decide +kernel
theorem dX2_narrow_24 : decode cX2_narrow 24 = .ok (.getfield 22, 3) := by decide +kernel
theorem dX2_narrow_27 : decode cX2_narrow 27 = .ok (.if_icmp .ge 27, 3) := by decide +kernel
theorem dX2_narrow_30 : decode cX2_narrow 30 = .ok (.aload_n 0, 1) := by decide +kernel
theorem dX2_narrow_31 : decode cX2_narrow 31 = .ok (.aload_n 0, 1) := by decide +kernel
theorem dX2_narrow_32 : decode cX2_narrow 32 = .ok (.getfield 19, 3) := by decide +kernel
theorem dX2_narrow_35 : decode cX2_narrow 35 = .ok (.invokevirtual 56, 3) := by decide +kernel
theorem dX2_narrow_38 : decode cX2_narrow 38 = .ok (.ifCond .ne 16, 3) := by decide +kernel
theorem dX2_narrow_41 : decode cX2_narrow 41 = .ok (.aload_n 0, 1) := by decide +kernel
theorem dX2_narrow_42 : decode cX2_narrow 42 = .ok (.dup, 1) := by decide +kernel
theorem dX2_narrow_43 : decode cX2_narrow 43 = .ok (.getfield 19, 3) := by decide +kernel
theorem dX2_narrow_46 : decode cX2_narrow 46 = .ok (.iconst 1, 1) := by decide +kernel
theorem dX2_narrow_47 : decode cX2_narrow 47 = .ok (.iadd, 1) := by decide +kernel
theorem dX2_narrow_48 : decode cX2_narrow 48 = .ok (.putfield 19, 3) := by decide +kernel
theorem dX2_narrow_51 : decode cX2_narrow 51 = .ok (.goto (-32), 3) := by decide +kernel
theorem dX2_narrow_54 : decode cX2_narrow 54 = .ok (.aload_n 0, 1) := by decide +kernel
theorem dX2_narrow_55 : decode cX2_narrow 55 = .ok (.getfield 22, 3) := by decide +kernel
theorem dX2_narrow_58 : decode cX2_narrow 58 = .ok (.aload_n 0, 1) := by decide +kernel
theorem dX2_narrow_59 : decode cX2_narrow 59 = .ok (.getfield 19, 3) := by decide +kernel
theorem dX2_narrow_62 : decode cX2_narrow 62 = .ok (.if_icmp .le 27, 3) := by decide +kernel
theorem dX2_narrow_65 : decode cX2_narrow 65 = .ok (.aload_n 0, 1) := by decide +kernel
theorem dX2_narrow_66 : decode cX2_narrow 66 = .ok (.aload_n 0, 1) := by decide +kernel
theorem dX2_narrow_67 : decode cX2_narrow 67 = .ok (.getfield 22, 3) := by decide +kernel
theorem dX2_narrow_70 : decode cX2_narrow 70 = .ok (.invokevirtual 56, 3) := by decide +kernel
theorem dX2_narrow_73 : decode cX2_narrow 73 = .ok (.ifCond .ne 16, 3) := by decide +kernel
theorem dX2_narrow_76 : decode cX2_narrow 76 = .ok (.aload_n 0, 1) := by decide +kernel
theorem dX2_narrow_77 : decode cX2_narrow 77 = .ok (.dup, 1) := by decide +kernel
theorem dX2_narrow_78 : decode cX2_narrow 78 = .ok (.getfield 22, 3) := by decide +kernel
theorem dX2_narrow_81 : decode cX2_narrow 81 = .ok (.iconst 1, 1) := by decide +kernel
theorem dX2_narrow_82 : decode cX2_narrow 82 = .ok (.isub, 1) := by decide +kernel
theorem dX2_narrow_83 : decode cX2_narrow 83 = .ok (.putfield 22, 3) := by decide +kernel
theorem dX2_narrow_86 : decode cX2_narrow 86 = .ok (.goto (-32), 3) := by decide +kernel
theorem dX2_narrow_89 : decode cX2_narrow 89 = .ok (.return_, 1) := by decide +kernel
theorem dX2_leftOf_0 : decode cX2_leftOf 0 = .ok (.iload_n 1, 1) := by decide +kernel
theorem dX2_leftOf_1 : decode cX2_leftOf 1 = .ok (.ifCond .lt 19, 3) := by decide +kernel
theorem dX2_leftOf_4 : decode cX2_leftOf 4 = .ok (.iload_n 1, 1) := by decide +kernel
theorem dX2_leftOf_5 : decode cX2_leftOf 5 = .ok (.sipush 801, 3) := by decide +kernel
theorem dX2_leftOf_8 : decode cX2_leftOf 8 = .ok (.if_icmp .ge 12, 3) := by decide +kernel
theorem dX2_leftOf_11 : decode cX2_leftOf 11 = .ok (.aload_n 0, 1) := by decide +kernel
theorem dX2_leftOf_12 : decode cX2_leftOf 12 = .ok (.getfield 9, 3) := by decide +kernel
theorem dX2_leftOf_15 : decode cX2_leftOf 15 = .ok (.iload_n 1, 1) := by decide +kernel
theorem dX2_leftOf_16 : decode cX2_leftOf 16 = .ok (.iaload, 1) := by decide +kernel
theorem dX2_leftOf_17 : decode cX2_leftOf 17 = .ok (.goto 4, 3) := by decide +kernel
theorem dX2_leftOf_20 : decode cX2_leftOf 20 = .ok (.iconst 0, 1) := by decide +kernel
theorem dX2_leftOf_21 : decode cX2_leftOf 21 = .ok (.ireturn, 1) := by decide +kernel
theorem dX2_number_0 : decode cX2_number 0 = .ok (.iconst 0, 1) := by decide +kernel
theorem dX2_number_1 : decode cX2_number 1 = .ok (.istore_n 1, 1) := by decide +kernel
theorem dX2_number_2 : decode cX2_number 2 = .ok (.aload_n 0, 1) := by decide +kernel
theorem dX2_number_3 : decode cX2_number 3 = .ok (.getfield 19, 3) := by decide +kernel
theorem dX2_number_6 : decode cX2_number 6 = .ok (.istore_n 2, 1) := by decide +kernel
theorem dX2_number_7 : decode cX2_number 7 = .ok (.iload_n 2, 1) := by decide +kernel
theorem dX2_number_8 : decode cX2_number 8 = .ok (.aload_n 0, 1) := by decide +kernel
theorem dX2_number_9 : decode cX2_number 9 = .ok (.getfield 22, 3) := by decide +kernel
theorem dX2_number_12 : decode cX2_number 12 = .ok (.if_icmp .gt 20, 3) := by decide +kernel
theorem dX2_number_15 : decode cX2_number 15 = .ok (.aload_n 0, 1) := by decide +kernel
theorem dX2_number_16 : decode cX2_number 16 = .ok (.iload_n 2, 1) := by decide +kernel
theorem dX2_number_17 : decode cX2_number 17 = .ok (.invokevirtual 56, 3) := by decide +kernel
theorem dX2_number_20 : decode cX2_number 20 = .ok (.ifCond .le 6, 3) := by decide +kernel
theorem dX2_number_23 : decode cX2_number 23 = .ok (.iinc 1 1, 3) := by decide +kernel
theorem dX2_number_26 : decode cX2_number 26 = .ok (.iinc 2 1, 3) := by decide +kernel
theorem dX2_number_29 : decode cX2_number 29 = .ok (.goto (-22), 3) := by decide +kernel
theorem dX2_number_32 : decode cX2_number 32 = .ok (.iload_n 1, 1) := by decide +kernel
theorem dX2_number_33 : decode cX2_number 33 = .ok (.ireturn, 1) := by decide +kernel
theorem dX2_yearOfLayer_0 : decode cX2_yearOfLayer 0 = .ok (.iconst 0, 1) := by decide +kernel
theorem dX2_yearOfLayer_1 : decode cX2_yearOfLayer 1 = .ok (.istore_n 2, 1) := by decide +kernel
theorem dX2_yearOfLayer_2 : decode cX2_yearOfLayer 2 = .ok (.aload_n 0, 1) := by decide +kernel
theorem dX2_yearOfLayer_3 : decode cX2_yearOfLayer 3 = .ok (.getfield 19, 3) := by decide +kernel
theorem dX2_yearOfLayer_6 : decode cX2_yearOfLayer 6 = .ok (.istore_n 3, 1) := by decide +kernel
theorem dX2_yearOfLayer_7 : decode cX2_yearOfLayer 7 = .ok (.iload_n 3, 1) := by decide +kernel
theorem dX2_yearOfLayer_8 : decode cX2_yearOfLayer 8 = .ok (.aload_n 0, 1) := by decide +kernel
theorem dX2_yearOfLayer_9 : decode cX2_yearOfLayer 9 = .ok (.getfield 22, 3) := by decide +kernel
theorem dX2_yearOfLayer_12 : decode cX2_yearOfLayer 12 = .ok (.if_icmp .gt 27, 3) := by decide +kernel
theorem dX2_yearOfLayer_15 : decode cX2_yearOfLayer 15 = .ok (.aload_n 0, 1) := by decide +kernel
theorem dX2_yearOfLayer_16 : decode cX2_yearOfLayer 16 = .ok (.iload_n 3, 1) := by decide +kernel
theorem dX2_yearOfLayer_17 : decode cX2_yearOfLayer 17 = .ok (.invokevirtual 56, 3) := by decide +kernel
theorem dX2_yearOfLayer_20 : decode cX2_yearOfLayer 20 = .ok (.ifCond .le 13, 3) := by decide +kernel
theorem dX2_yearOfLayer_23 : decode cX2_yearOfLayer 23 = .ok (.iload_n 2, 1) := by decide +kernel
theorem dX2_yearOfLayer_24 : decode cX2_yearOfLayer 24 = .ok (.iload_n 1, 1) := by decide +kernel
theorem dX2_yearOfLayer_25 : decode cX2_yearOfLayer 25 = .ok (.if_icmp .ne 5, 3) := by decide +kernel
theorem dX2_yearOfLayer_28 : decode cX2_yearOfLayer 28 = .ok (.iload_n 3, 1) := by decide +kernel
theorem dX2_yearOfLayer_29 : decode cX2_yearOfLayer 29 = .ok (.ireturn, 1) := by decide +kernel
theorem dX2_yearOfLayer_30 : decode cX2_yearOfLayer 30 = .ok (.iinc 2 1, 3) := by decide +kernel
theorem dX2_yearOfLayer_33 : decode cX2_yearOfLayer 33 = .ok (.iinc 3 1, 3) := by decide +kernel
theorem dX2_yearOfLayer_36 : decode cX2_yearOfLayer 36 = .ok (.goto (-29), 3) := by decide +kernel
theorem dX2_yearOfLayer_39 : decode cX2_yearOfLayer 39 = .ok (.iconst (-1), 1) := by decide +kernel
theorem dX2_yearOfLayer_40 : decode cX2_yearOfLayer 40 = .ok (.ireturn, 1) := by decide +kernel
theorem dX3_init_0 : decode cX3_init 0 = .ok (.aload_n 0, 1) := by decide +kernel
theorem dX3_init_1 : decode cX3_init 1 = .ok (.invokespecial 3, 3) := by decide +kernel
theorem dX3_init_4 : decode cX3_init 4 = .ok (.aload_n 0, 1) := by decide +kernel
theorem dX3_init_5 : decode cX3_init 5 = .ok (.iconst 0, 1) := by decide +kernel
theorem dX3_init_6 : decode cX3_init 6 = .ok (.putfield 9, 3) := by decide +kernel
theorem dX3_init_9 : decode cX3_init 9 = .ok (.aload_n 0, 1) := by decide +kernel
theorem dX3_init_10 : decode cX3_init 10 = .ok (.iconst 0, 1) := by decide +kernel
theorem dX3_init_11 : decode cX3_init 11 = .ok (.putfield 15, 3) := by decide +kernel
theorem dX3_init_14 : decode cX3_init 14 = .ok (.aload_n 0, 1) := by decide +kernel
theorem dX3_init_15 : decode cX3_init 15 = .ok (.iconst 0, 1) := by decide +kernel
theorem dX3_init_16 : decode cX3_init 16 = .ok (.putfield 18, 3) := by decide +kernel
theorem dX3_init_19 : decode cX3_init 19 = .ok (.aload_n 0, 1) := by decide +kernel
theorem dX3_init_20 : decode cX3_init 20 = .ok (.iconst 0, 1) := by decide +kernel
theorem dX3_init_21 : decode cX3_init 21 = .ok (.putfield 21, 3) := by decide +kernel
theorem dX3_init_24 : decode cX3_init 24 = .ok (.aload_n 0, 1) := by decide +kernel
theorem dX3_init_25 : decode cX3_init 25 = .ok (.iconst 0, 1) := by decide +kernel
theorem dX3_init_26 : decode cX3_init 26 = .ok (.putfield 24, 3) := by decide +kernel
theorem dX3_init_29 : decode cX3_init 29 = .ok (.aload_n 0, 1) := by decide +kernel
theorem dX3_init_30 : decode cX3_init 30 = .ok (.iconst 0, 1) := by decide +kernel
theorem dX3_init_31 : decode cX3_init 31 = .ok (.putfield 27, 3) := by decide +kernel
theorem dX3_init_34 : decode cX3_init 34 = .ok (.return_, 1) := by decide +kernel
theorem dX3_begin_0 : decode cX3_begin 0 = .ok (.aload_n 0, 1) := by decide +kernel
theorem dX3_begin_1 : decode cX3_begin 1 = .ok (.iload_n 1, 1) := by decide +kernel
theorem dX3_begin_2 : decode cX3_begin 2 = .ok (.putfield 9, 3) := by decide +kernel
theorem dX3_begin_5 : decode cX3_begin 5 = .ok (.aload_n 0, 1) := by decide +kernel
theorem dX3_begin_6 : decode cX3_begin 6 = .ok (.iload_n 2, 1) := by decide +kernel
theorem dX3_begin_7 : decode cX3_begin 7 = .ok (.putfield 15, 3) := by decide +kernel
theorem dX3_begin_10 : decode cX3_begin 10 = .ok (.aload_n 0, 1) := by decide +kernel
theorem dX3_begin_11 : decode cX3_begin 11 = .ok (.iload_n 3, 1) := by decide +kernel
theorem dX3_begin_12 : decode cX3_begin 12 = .ok (.putfield 18, 3) := by decide +kernel
theorem dX3_begin_15 : decode cX3_begin 15 = .ok (.aload_n 0, 1) := by decide +kernel
theorem dX3_begin_16 : decode cX3_begin 16 = .ok (.iconst 0, 1) := by decide +kernel
theorem dX3_begin_17 : decode cX3_begin 17 = .ok (.putfield 21, 3) := by decide +kernel
theorem dX3_begin_20 : decode cX3_begin 20 = .ok (.aload_n 0, 1) := by decide +kernel
theorem dX3_begin_21 : decode cX3_begin 21 = .ok (.iconst 0, 1) := by decide +kernel
theorem dX3_begin_22 : decode cX3_begin 22 = .ok (.putfield 24, 3) := by decide +kernel
theorem dX3_begin_25 : decode cX3_begin 25 = .ok (.aload_n 0, 1) := by decide +kernel
theorem dX3_begin_26 : decode cX3_begin 26 = .ok (.iconst 0, 1) := by decide +kernel
theorem dX3_begin_27 : decode cX3_begin 27 = .ok (.putfield 27, 3) := by decide +kernel
theorem dX3_begin_30 : decode cX3_begin 30 = .ok (.return_, 1) := by decide +kernel
theorem dX3_copyFrom_0 : decode cX3_copyFrom 0 = .ok (.aload_n 0, 1) := by decide +kernel
theorem dX3_copyFrom_1 : decode cX3_copyFrom 1 = .ok (.aload_n 1, 1) := by decide +kernel
theorem dX3_copyFrom_2 : decode cX3_copyFrom 2 = .ok (.getfield 9, 3) := by decide +kernel
theorem dX3_copyFrom_5 : decode cX3_copyFrom 5 = .ok (.putfield 9, 3) := by decide +kernel
theorem dX3_copyFrom_8 : decode cX3_copyFrom 8 = .ok (.aload_n 0, 1) := by decide +kernel
theorem dX3_copyFrom_9 : decode cX3_copyFrom 9 = .ok (.aload_n 1, 1) := by decide +kernel
theorem dX3_copyFrom_10 : decode cX3_copyFrom 10 = .ok (.getfield 15, 3) := by decide +kernel
theorem dX3_copyFrom_13 : decode cX3_copyFrom 13 = .ok (.putfield 15, 3) := by decide +kernel
theorem dX3_copyFrom_16 : decode cX3_copyFrom 16 = .ok (.aload_n 0, 1) := by decide +kernel
theorem dX3_copyFrom_17 : decode cX3_copyFrom 17 = .ok (.aload_n 1, 1) := by decide +kernel
theorem dX3_copyFrom_18 : decode cX3_copyFrom 18 = .ok (.getfield 18, 3) := by decide +kernel
theorem dX3_copyFrom_21 : decode cX3_copyFrom 21 = .ok (.putfield 18, 3) := by decide +kernel
theorem dX3_copyFrom_24 : decode cX3_copyFrom 24 = .ok (.aload_n 0, 1) := by decide +kernel
theorem dX3_copyFrom_25 : decode cX3_copyFrom 25 = .ok (.aload_n 1, 1) := by decide +kernel
theorem dX3_copyFrom_26 : decode cX3_copyFrom 26 = .ok (.getfield 21, 3) := by decide +kernel
theorem dX3_copyFrom_29 : decode cX3_copyFrom 29 = .ok (.putfield 21, 3) := by decide +kernel
theorem dX3_copyFrom_32 : decode cX3_copyFrom 32 = .ok (.aload_n 0, 1) := by decide +kernel
theorem dX3_copyFrom_33 : decode cX3_copyFrom 33 = .ok (.aload_n 1, 1) := by decide +kernel
theorem dX3_copyFrom_34 : decode cX3_copyFrom 34 = .ok (.getfield 24, 3) := by decide +kernel
theorem dX3_copyFrom_37 : decode cX3_copyFrom 37 = .ok (.putfield 24, 3) := by decide +kernel
theorem dX3_copyFrom_40 : decode cX3_copyFrom 40 = .ok (.aload_n 0, 1) := by decide +kernel
theorem dX3_copyFrom_41 : decode cX3_copyFrom 41 = .ok (.aload_n 1, 1) := by decide +kernel
theorem dX3_copyFrom_42 : decode cX3_copyFrom 42 = .ok (.getfield 27, 3) := by decide +kernel
theorem dX3_copyFrom_45 : decode cX3_copyFrom 45 = .ok (.putfield 27, 3) := by decide +kernel
theorem dX3_copyFrom_48 : decode cX3_copyFrom 48 = .ok (.return_, 1) := by decide +kernel
theorem dX4_init_0 : decode cX4_init 0 = .ok (.aload_n 0, 1) := by decide +kernel
theorem dX4_init_1 : decode cX4_init 1 = .ok (.invokespecial 3, 3) := by decide +kernel
theorem dX4_init_4 : decode cX4_init 4 = .ok (.aload_n 0, 1) := by decide +kernel
theorem dX4_init_5 : decode cX4_init 5 = .ok (.bipush 60, 2) := by decide +kernel
theorem dX4_init_7 : decode cX4_init 7 = .ok (.newarray .char, 2) := by decide +kernel
theorem dX4_init_9 : decode cX4_init 9 = .ok (.putfield 9, 3) := by decide +kernel
theorem dX4_init_12 : decode cX4_init 12 = .ok (.aload_n 0, 1) := by decide +kernel
theorem dX4_init_13 : decode cX4_init 13 = .ok (.iconst 0, 1) := by decide +kernel
theorem dX4_init_14 : decode cX4_init 14 = .ok (.putfield 15, 3) := by decide +kernel
theorem dX4_init_17 : decode cX4_init 17 = .ok (.return_, 1) := by decide +kernel
theorem dX4_append_0 : decode cX4_append 0 = .ok (.aload_n 0, 1) := by decide +kernel
theorem dX4_append_1 : decode cX4_append 1 = .ok (.getfield 15, 3) := by decide +kernel
theorem dX4_append_4 : decode cX4_append 4 = .ok (.bipush 60, 2) := by decide +kernel
theorem dX4_append_6 : decode cX4_append 6 = .ok (.if_icmp .ge 23, 3) := by decide +kernel
theorem dX4_append_9 : decode cX4_append 9 = .ok (.aload_n 0, 1) := by decide +kernel
theorem dX4_append_10 : decode cX4_append 10 = .ok (.getfield 9, 3) := by decide +kernel
theorem dX4_append_13 : decode cX4_append 13 = .ok (.aload_n 0, 1) := by decide +kernel
theorem dX4_append_14 : decode cX4_append 14 = .ok (.getfield 15, 3) := by decide +kernel
theorem dX4_append_17 : decode cX4_append 17 = .ok (.iload_n 1, 1) := by decide +kernel
theorem dX4_append_18 : decode cX4_append 18 = .ok (.castore, 1) := by decide +kernel
theorem dX4_append_19 : decode cX4_append 19 = .ok (.aload_n 0, 1) := by decide +kernel
theorem dX4_append_20 : decode cX4_append 20 = .ok (.dup, 1) := by decide +kernel
theorem dX4_append_21 : decode cX4_append 21 = .ok (.getfield 15, 3) := by decide +kernel
theorem dX4_append_24 : decode cX4_append 24 = .ok (.iconst 1, 1) := by decide +kernel
theorem dX4_append_25 : decode cX4_append 25 = .ok (.iadd, 1) := by decide +kernel
theorem dX4_append_26 : decode cX4_append 26 = .ok (.putfield 15, 3) := by decide +kernel
theorem dX4_append_29 : decode cX4_append 29 = .ok (.return_, 1) := by decide +kernel
theorem dX4_isSignAt_0 : decode cX4_isSignAt 0 = .ok (.iload_n 1, 1) := by decide +kernel
theorem dX4_isSignAt_1 : decode cX4_isSignAt 1 = .ok (.ifCond .lt 25, 3) := by decide +kernel
theorem dX4_isSignAt_4 : decode cX4_isSignAt 4 = .ok (.iload_n 1, 1) := by decide +kernel
theorem dX4_isSignAt_5 : decode cX4_isSignAt 5 = .ok (.aload_n 0, 1) := by decide +kernel
theorem dX4_isSignAt_6 : decode cX4_isSignAt 6 = .ok (.getfield 15, 3) := by decide +kernel
theorem dX4_isSignAt_9 : decode cX4_isSignAt 9 = .ok (.if_icmp .ge 17, 3) := by decide +kernel
theorem dX4_isSignAt_12 : decode cX4_isSignAt 12 = .ok (.aload_n 0, 1) := by decide +kernel
theorem dX4_isSignAt_13 : decode cX4_isSignAt 13 = .ok (.getfield 9, 3) := by decide +kernel
theorem dX4_isSignAt_16 : decode cX4_isSignAt 16 = .ok (.iload_n 1, 1) := by decide +kernel
theorem dX4_isSignAt_17 : decode cX4_isSignAt 17 = .ok (.caload, 1) := by decide +kernel
theorem dX4_isSignAt_18 : decode cX4_isSignAt 18 = .ok (.iload_n 2, 1) := by decide +kernel
theorem dX4_isSignAt_19 : decode cX4_isSignAt 19 = .ok (.if_icmp .ne 7, 3) := by decide +kernel
theorem dX4_isSignAt_22 : decode cX4_isSignAt 22 = .ok (.iconst 1, 1) := by decide +kernel
theorem dX4_isSignAt_23 : decode cX4_isSignAt 23 = .ok (.goto 4, 3) := by decide +kernel
theorem dX4_isSignAt_26 : decode cX4_isSignAt 26 = .ok (.iconst 0, 1) := by decide +kernel
theorem dX4_isSignAt_27 : decode cX4_isSignAt 27 = .ok (.ireturn, 1) := by decide +kernel
theorem dX4_isDigitAt_0 : decode cX4_isDigitAt 0 = .ok (.iload_n 1, 1) := by decide +kernel
theorem dX4_isDigitAt_1 : decode cX4_isDigitAt 1 = .ok (.ifCond .lt 37, 3) := by decide +kernel
theorem dX4_isDigitAt_4 : decode cX4_isDigitAt 4 = .ok (.iload_n 1, 1) := by decide +kernel
theorem dX4_isDigitAt_5 : decode cX4_isDigitAt 5 = .ok (.aload_n 0, 1) := by decide +kernel
theorem dX4_isDigitAt_6 : decode cX4_isDigitAt 6 = .ok (.getfield 15, 3) := by decide +kernel
theorem dX4_isDigitAt_9 : decode cX4_isDigitAt 9 = .ok (.if_icmp .ge 29, 3) := by decide +kernel
theorem dX4_isDigitAt_12 : decode cX4_isDigitAt 12 = .ok (.aload_n 0, 1) := by decide +kernel
theorem dX4_isDigitAt_13 : decode cX4_isDigitAt 13 = .ok (.getfield 9, 3) := by decide +kernel
theorem dX4_isDigitAt_16 : decode cX4_isDigitAt 16 = .ok (.iload_n 1, 1) := by decide +kernel
theorem dX4_isDigitAt_17 : decode cX4_isDigitAt 17 = .ok (.caload, 1) := by decide +kernel
theorem dX4_isDigitAt_18 : decode cX4_isDigitAt 18 = .ok (.bipush 48, 2) := by decide +kernel
theorem dX4_isDigitAt_20 : decode cX4_isDigitAt 20 = .ok (.if_icmp .lt 18, 3) := by decide +kernel
theorem dX4_isDigitAt_23 : decode cX4_isDigitAt 23 = .ok (.aload_n 0, 1) := by decide +kernel
theorem dX4_isDigitAt_24 : decode cX4_isDigitAt 24 = .ok (.getfield 9, 3) := by decide +kernel
theorem dX4_isDigitAt_27 : decode cX4_isDigitAt 27 = .ok (.iload_n 1, 1) := by decide +kernel
theorem dX4_isDigitAt_28 : decode cX4_isDigitAt 28 = .ok (.caload, 1) := by decide +kernel
theorem dX4_isDigitAt_29 : decode cX4_isDigitAt 29 = .ok (.bipush 57, 2) := by decide +kernel
theorem dX4_isDigitAt_31 : decode cX4_isDigitAt 31 = .ok (.if_icmp .gt 7, 3) := by decide +kernel
theorem dX4_isDigitAt_34 : decode cX4_isDigitAt 34 = .ok (.iconst 1, 1) := by decide +kernel
theorem dX4_isDigitAt_35 : decode cX4_isDigitAt 35 = .ok (.goto 4, 3) := by decide +kernel
theorem dX4_isDigitAt_38 : decode cX4_isDigitAt 38 = .ok (.iconst 0, 1) := by decide +kernel
theorem dX4_isDigitAt_39 : decode cX4_isDigitAt 39 = .ok (.ireturn, 1) := by decide +kernel
theorem dX4_endOfNumber_0 : decode cX4_endOfNumber 0 = .ok (.iload_n 1, 1) := by decide +kernel
theorem dX4_endOfNumber_1 : decode cX4_endOfNumber 1 = .ok (.istore_n 2, 1) := by decide +kernel
theorem dX4_endOfNumber_2 : decode cX4_endOfNumber 2 = .ok (.iload_n 2, 1) := by decide +kernel
theorem dX4_endOfNumber_3 : decode cX4_endOfNumber 3 = .ok (.aload_n 0, 1) := by decide +kernel
theorem dX4_endOfNumber_4 : decode cX4_endOfNumber 4 = .ok (.getfield 15, 3) := by decide +kernel
theorem dX4_endOfNumber_7 : decode cX4_endOfNumber 7 = .ok (.if_icmp .ge 17, 3) := by decide +kernel
theorem dX4_endOfNumber_10 : decode cX4_endOfNumber 10 = .ok (.aload_n 0, 1) := by decide +kernel
theorem dX4_endOfNumber_11 : decode cX4_endOfNumber 11 = .ok (.iload_n 2, 1) := by decide +kernel
theorem dX4_endOfNumber_12 : decode cX4_endOfNumber 12 = .ok (.invokevirtual 19, 3) := by decide +kernel
theorem dX4_endOfNumber_15 : decode cX4_endOfNumber 15 = .ok (.ifCond .eq 9, 3) := by decide +kernel
theorem dX4_endOfNumber_18 : decode cX4_endOfNumber 18 = .ok (.iinc 2 1, 3) := by decide +kernel
theorem dX4_endOfNumber_21 : decode cX4_endOfNumber 21 = .ok (.goto (-19), 3) := by decide +kernel
theorem dX4_endOfNumber_24 : decode cX4_endOfNumber 24 = .ok (.iload_n 2, 1) := by decide +kernel
theorem dX4_endOfNumber_25 : decode cX4_endOfNumber 25 = .ok (.iload_n 1, 1) := by decide +kernel
theorem dX4_endOfNumber_26 : decode cX4_endOfNumber 26 = .ok (.isub, 1) := by decide +kernel
theorem dX4_endOfNumber_27 : decode cX4_endOfNumber 27 = .ok (.iconst 1, 1) := by decide +kernel
theorem dX4_endOfNumber_28 : decode cX4_endOfNumber 28 = .ok (.if_icmp .lt 14, 3) := by decide +kernel
theorem dX4_endOfNumber_31 : decode cX4_endOfNumber 31 = .ok (.iload_n 2, 1) := by decide +kernel
theorem dX4_endOfNumber_32 : decode cX4_endOfNumber 32 = .ok (.iload_n 1, 1) := by decide +kernel
theorem dX4_endOfNumber_33 : decode cX4_endOfNumber 33 = .ok (.isub, 1) := by decide +kernel
theorem dX4_endOfNumber_34 : decode cX4_endOfNumber 34 = .ok (.iconst 4, 1) := by decide +kernel
theorem dX4_endOfNumber_35 : decode cX4_endOfNumber 35 = .ok (.if_icmp .gt 7, 3) := by decide +kernel
theorem dX4_endOfNumber_38 : decode cX4_endOfNumber 38 = .ok (.iload_n 2, 1) := by decide +kernel
theorem dX4_endOfNumber_39 : decode cX4_endOfNumber 39 = .ok (.goto 4, 3) := by decide +kernel
theorem dX4_endOfNumber_42 : decode cX4_endOfNumber 42 = .ok (.iconst (-1), 1) := by decide +kernel
theorem dX4_endOfNumber_43 : decode cX4_endOfNumber 43 = .ok (.ireturn, 1) := by decide +kernel
theorem dX4_numberAt_0 : decode cX4_numberAt 0 = .ok (.aload_n 0, 1) := by decide +kernel
theorem dX4_numberAt_1 : decode cX4_numberAt 1 = .ok (.iload_n 1, 1) := by decide +kernel
theorem dX4_numberAt_2 : decode cX4_numberAt 2 = .ok (.invokevirtual 23, 3) := by decide +kernel
theorem dX4_numberAt_5 : decode cX4_numberAt 5 = .ok (.istore_n 2, 1) := by decide +kernel
theorem dX4_numberAt_6 : decode cX4_numberAt 6 = .ok (.iconst 0, 1) := by decide +kernel
theorem dX4_numberAt_7 : decode cX4_numberAt 7 = .ok (.istore_n 3, 1) := by decide +kernel
theorem dX4_numberAt_8 : decode cX4_numberAt 8 = .ok (.iload_n 1, 1) := by decide +kernel
theorem dX4_numberAt_9 : decode cX4_numberAt 9 = .ok (.istore 4, 2) := by decide +kernel
theorem dX4_numberAt_11 : decode cX4_numberAt 11 = .ok (.iload 4, 2) := by decide +kernel
theorem dX4_numberAt_13 : decode cX4_numberAt 13 = .ok (.ifCond .lt 31, 3) := by decide +kernel
theorem dX4_numberAt_16 : decode cX4_numberAt 16 = .ok (.iload 4, 2) := by decide +kernel
theorem dX4_numberAt_18 : decode cX4_numberAt 18 = .ok (.iload_n 2, 1) := by decide +kernel
theorem dX4_numberAt_19 : decode cX4_numberAt 19 = .ok (.if_icmp .ge 25, 3) := by decide +kernel
theorem dX4_numberAt_22 : decode cX4_numberAt 22 = .ok (.iload_n 3, 1) := by decide +kernel
theorem dX4_numberAt_23 : decode cX4_numberAt 23 = .ok (.bipush 10, 2) := by decide +kernel
theorem dX4_numberAt_25 : decode cX4_numberAt 25 = .ok (.imul, 1) := by decide +kernel
theorem dX4_numberAt_26 : decode cX4_numberAt 26 = .ok (.aload_n 0, 1) := by decide +kernel
theorem dX4_numberAt_27 : decode cX4_numberAt 27 = .ok (.getfield 9, 3) := by decide +kernel
theorem dX4_numberAt_30 : decode cX4_numberAt 30 = .ok (.iload 4, 2) := by decide +kernel
theorem dX4_numberAt_32 : decode cX4_numberAt 32 = .ok (.caload, 1) := by decide +kernel
theorem dX4_numberAt_33 : decode cX4_numberAt 33 = .ok (.bipush 48, 2) := by decide +kernel
theorem dX4_numberAt_35 : decode cX4_numberAt 35 = .ok (.isub, 1) := by decide +kernel
theorem dX4_numberAt_36 : decode cX4_numberAt 36 = .ok (.iadd, 1) := by decide +kernel
theorem dX4_numberAt_37 : decode cX4_numberAt 37 = .ok (.istore_n 3, 1) := by decide +kernel
theorem dX4_numberAt_38 : decode cX4_numberAt 38 = .ok (.iinc 4 1, 3) := by decide +kernel
theorem dX4_numberAt_41 : decode cX4_numberAt 41 = .ok (.goto (-30), 3) := by decide +kernel
theorem dX4_numberAt_44 : decode cX4_numberAt 44 = .ok (.iload_n 3, 1) := by decide +kernel
theorem dX4_numberAt_45 : decode cX4_numberAt 45 = .ok (.ireturn, 1) := by decide +kernel
theorem dX4_endOfYear_0 : decode cX4_endOfYear 0 = .ok (.aload_n 0, 1) := by decide +kernel
theorem dX4_endOfYear_1 : decode cX4_endOfYear 1 = .ok (.iload_n 1, 1) := by decide +kernel
theorem dX4_endOfYear_2 : decode cX4_endOfYear 2 = .ok (.invokevirtual 23, 3) := by decide +kernel
theorem dX4_endOfYear_5 : decode cX4_endOfYear 5 = .ok (.istore_n 2, 1) := by decide +kernel
theorem dX4_endOfYear_6 : decode cX4_endOfYear 6 = .ok (.aload_n 0, 1) := by decide +kernel
theorem dX4_endOfYear_7 : decode cX4_endOfYear 7 = .ok (.iload_n 2, 1) := by decide +kernel
theorem dX4_endOfYear_8 : decode cX4_endOfYear 8 = .ok (.bipush 44, 2) := by decide +kernel
theorem dX4_endOfYear_10 : decode cX4_endOfYear 10 = .ok (.invokevirtual 27, 3) := by decide +kernel
theorem dX4_endOfYear_13 : decode cX4_endOfYear 13 = .ok (.ifCond .ne 5, 3) := by decide +kernel
theorem dX4_endOfYear_16 : decode cX4_endOfYear 16 = .ok (.iconst (-1), 1) := by decide +kernel
theorem dX4_endOfYear_17 : decode cX4_endOfYear 17 = .ok (.ireturn, 1) := by decide +kernel
theorem dX4_endOfYear_18 : decode cX4_endOfYear 18 = .ok (.aload_n 0, 1) := by decide +kernel
theorem dX4_endOfYear_19 : decode cX4_endOfYear 19 = .ok (.iload_n 2, 1) := by decide +kernel
theorem dX4_endOfYear_20 : decode cX4_endOfYear 20 = .ok (.iconst 1, 1) := by decide +kernel
theorem dX4_endOfYear_21 : decode cX4_endOfYear 21 = .ok (.iadd, 1) := by decide +kernel
theorem dX4_endOfYear_22 : decode cX4_endOfYear 22 = .ok (.invokevirtual 23, 3) := by decide +kernel
theorem dX4_endOfYear_25 : decode cX4_endOfYear 25 = .ok (.istore_n 3, 1) := by decide +kernel
theorem dX4_endOfYear_26 : decode cX4_endOfYear 26 = .ok (.aload_n 0, 1) := by decide +kernel
theorem dX4_endOfYear_27 : decode cX4_endOfYear 27 = .ok (.iload_n 3, 1) := by decide +kernel
theorem dX4_endOfYear_28 : decode cX4_endOfYear 28 = .ok (.bipush 59, 2) := by decide +kernel
theorem dX4_endOfYear_30 : decode cX4_endOfYear 30 = .ok (.invokevirtual 27, 3) := by decide +kernel
theorem dX4_endOfYear_33 : decode cX4_endOfYear 33 = .ok (.ifCond .eq 9, 3) := by decide +kernel
theorem dX4_endOfYear_36 : decode cX4_endOfYear 36 = .ok (.iload_n 3, 1) := by decide +kernel
theorem dX4_endOfYear_37 : decode cX4_endOfYear 37 = .ok (.iconst 1, 1) := by decide +kernel
theorem dX4_endOfYear_38 : decode cX4_endOfYear 38 = .ok (.iadd, 1) := by decide +kernel
theorem dX4_endOfYear_39 : decode cX4_endOfYear 39 = .ok (.goto 4, 3) := by decide +kernel
theorem dX4_endOfYear_42 : decode cX4_endOfYear 42 = .ok (.iconst (-1), 1) := by decide +kernel
theorem dX4_endOfYear_43 : decode cX4_endOfYear 43 = .ok (.ireturn, 1) := by decide +kernel
theorem dX4_snowOfYear_0 : decode cX4_snowOfYear 0 = .ok (.aload_n 0, 1) := by decide +kernel
theorem dX4_snowOfYear_1 : decode cX4_snowOfYear 1 = .ok (.iload_n 1, 1) := by decide +kernel
theorem dX4_snowOfYear_2 : decode cX4_snowOfYear 2 = .ok (.invokevirtual 31, 3) := by decide +kernel
theorem dX4_snowOfYear_5 : decode cX4_snowOfYear 5 = .ok (.ireturn, 1) := by decide +kernel
theorem dX4_meltOfYear_0 : decode cX4_meltOfYear 0 = .ok (.aload_n 0, 1) := by decide +kernel
theorem dX4_meltOfYear_1 : decode cX4_meltOfYear 1 = .ok (.aload_n 0, 1) := by decide +kernel
theorem dX4_meltOfYear_2 : decode cX4_meltOfYear 2 = .ok (.iload_n 1, 1) := by decide +kernel
theorem dX4_meltOfYear_3 : decode cX4_meltOfYear 3 = .ok (.invokevirtual 23, 3) := by decide +kernel
theorem dX4_meltOfYear_6 : decode cX4_meltOfYear 6 = .ok (.iconst 1, 1) := by decide +kernel
theorem dX4_meltOfYear_7 : decode cX4_meltOfYear 7 = .ok (.iadd, 1) := by decide +kernel
theorem dX4_meltOfYear_8 : decode cX4_meltOfYear 8 = .ok (.invokevirtual 31, 3) := by decide +kernel
theorem dX4_meltOfYear_11 : decode cX4_meltOfYear 11 = .ok (.ireturn, 1) := by decide +kernel
theorem dX4_startOfYear_0 : decode cX4_startOfYear 0 = .ok (.iconst 0, 1) := by decide +kernel
theorem dX4_startOfYear_1 : decode cX4_startOfYear 1 = .ok (.istore_n 2, 1) := by decide +kernel
theorem dX4_startOfYear_2 : decode cX4_startOfYear 2 = .ok (.iconst 0, 1) := by decide +kernel
theorem dX4_startOfYear_3 : decode cX4_startOfYear 3 = .ok (.istore_n 3, 1) := by decide +kernel
theorem dX4_startOfYear_4 : decode cX4_startOfYear 4 = .ok (.iload_n 3, 1) := by decide +kernel
theorem dX4_startOfYear_5 : decode cX4_startOfYear 5 = .ok (.iload_n 1, 1) := by decide +kernel
theorem dX4_startOfYear_6 : decode cX4_startOfYear 6 = .ok (.if_icmp .ge 19, 3) := by decide +kernel
theorem dX4_startOfYear_9 : decode cX4_startOfYear 9 = .ok (.iload_n 2, 1) := by decide +kernel
theorem dX4_startOfYear_10 : decode cX4_startOfYear 10 = .ok (.ifCond .lt 15, 3) := by decide +kernel
theorem dX4_startOfYear_13 : decode cX4_startOfYear 13 = .ok (.aload_n 0, 1) := by decide +kernel
theorem dX4_startOfYear_14 : decode cX4_startOfYear 14 = .ok (.iload_n 2, 1) := by decide +kernel
theorem dX4_startOfYear_15 : decode cX4_startOfYear 15 = .ok (.invokevirtual 34, 3) := by decide +kernel
theorem dX4_startOfYear_18 : decode cX4_startOfYear 18 = .ok (.istore_n 2, 1) := by decide +kernel
theorem dX4_startOfYear_19 : decode cX4_startOfYear 19 = .ok (.iinc 3 1, 3) := by decide +kernel
theorem dX4_startOfYear_22 : decode cX4_startOfYear 22 = .ok (.goto (-18), 3) := by decide +kernel
theorem dX4_startOfYear_25 : decode cX4_startOfYear 25 = .ok (.iload_n 2, 1) := by decide +kernel
theorem dX4_startOfYear_26 : decode cX4_startOfYear 26 = .ok (.ireturn, 1) := by decide +kernel
end
section
theorem dX5_init_0 : decode cX5_init 0 = .ok (.aload_n 0, 1) := by decide +kernel
theorem dX5_init_1 : decode cX5_init 1 = .ok (.invokespecial 3, 3) := by decide +kernel
theorem dX5_init_4 : decode cX5_init 4 = .ok (.aload_n 0, 1) := by decide +kernel
theorem dX5_init_5 : decode cX5_init 5 = .ok (.getstatic 9, 3) := by decide +kernel
theorem dX5_init_8 : decode cX5_init 8 = .ok (.invokevirtual 13, 3) := by decide +kernel
theorem dX5_init_11 : decode cX5_init 11 = .ok (.checkcast 14, 3) := by decide +kernel
theorem dX5_init_14 : decode cX5_init 14 = .ok (.putfield 18, 3) := by decide +kernel
theorem dX5_init_17 : decode cX5_init 17 = .ok (.aload_n 0, 1) := by decide +kernel
theorem dX5_init_18 : decode cX5_init 18 = .ok (.bipush 10, 2) := by decide +kernel
theorem dX5_init_20 : decode cX5_init 20 = .ok (.anewarray 23, 3) := by decide +kernel
theorem dX5_init_23 : decode cX5_init 23 = .ok (.putfield 25, 3) := by decide +kernel
theorem dX5_init_26 : decode cX5_init 26 = .ok (.aload_n 0, 1) := by decide +kernel
theorem dX5_init_27 : decode cX5_init 27 = .ok (.bipush 6, 2) := by decide +kernel
theorem dX5_init_29 : decode cX5_init 29 = .ok (.anewarray 29, 3) := by decide +kernel
theorem dX5_init_32 : decode cX5_init 32 = .ok (.putfield 31, 3) := by decide +kernel
theorem dX5_init_35 : decode cX5_init 35 = .ok (.aload_n 0, 1) := by decide +kernel
theorem dX5_init_36 : decode cX5_init 36 = .ok (.new 35, 3) := by decide +kernel
theorem dX5_init_39 : decode cX5_init 39 = .ok (.dup, 1) := by decide +kernel
theorem dX5_init_40 : decode cX5_init 40 = .ok (.invokespecial 37, 3) := by decide +kernel
theorem dX5_init_43 : decode cX5_init 43 = .ok (.putfield 38, 3) := by decide +kernel
theorem dX5_init_46 : decode cX5_init 46 = .ok (.aload_n 0, 1) := by decide +kernel
theorem dX5_init_47 : decode cX5_init 47 = .ok (.iconst 0, 1) := by decide +kernel
theorem dX5_init_48 : decode cX5_init 48 = .ok (.putfield 42, 3) := by decide +kernel
theorem dX5_init_51 : decode cX5_init 51 = .ok (.aload_n 0, 1) := by decide +kernel
theorem dX5_init_52 : decode cX5_init 52 = .ok (.iconst 0, 1) := by decide +kernel
theorem dX5_init_53 : decode cX5_init 53 = .ok (.putfield 46, 3) := by decide +kernel
theorem dX5_init_56 : decode cX5_init 56 = .ok (.aload_n 0, 1) := by decide +kernel
theorem dX5_init_57 : decode cX5_init 57 = .ok (.iconst 0, 1) := by decide +kernel
theorem dX5_init_58 : decode cX5_init 58 = .ok (.putfield 49, 3) := by decide +kernel
theorem dX5_init_61 : decode cX5_init 61 = .ok (.aload_n 0, 1) := by decide +kernel
theorem dX5_init_62 : decode cX5_init 62 = .ok (.lconst 0, 1) := by decide +kernel
theorem dX5_init_63 : decode cX5_init 63 = .ok (.putfield 52, 3) := by decide +kernel
theorem dX5_init_66 : decode cX5_init 66 = .ok (.aload_n 0, 1) := by decide +kernel
theorem dX5_init_67 : decode cX5_init 67 = .ok (.lconst 0, 1) := by decide +kernel
theorem dX5_init_68 : decode cX5_init 68 = .ok (.putfield 56, 3) := by decide +kernel
theorem dX5_init_71 : decode cX5_init 71 = .ok (.aload_n 0, 1) := by decide +kernel
theorem dX5_init_72 : decode cX5_init 72 = .ok (.lconst 0, 1) := by decide +kernel
theorem dX5_init_73 : decode cX5_init 73 = .ok (.putfield 59, 3) := by decide +kernel
theorem dX5_init_76 : decode cX5_init 76 = .ok (.aload_n 0, 1) := by decide +kernel
theorem dX5_init_77 : decode cX5_init 77 = .ok (.lconst 0, 1) := by decide +kernel
theorem dX5_init_78 : decode cX5_init 78 = .ok (.putfield 62, 3) := by decide +kernel
theorem dX5_init_81 : decode cX5_init 81 = .ok (.iconst 0, 1) := by decide +kernel
theorem dX5_init_82 : decode cX5_init 82 = .ok (.istore_n 1, 1) := by decide +kernel
theorem dX5_init_83 : decode cX5_init 83 = .ok (.iload_n 1, 1) := by decide +kernel
theorem dX5_init_84 : decode cX5_init 84 = .ok (.aload_n 0, 1) := by decide +kernel
theorem dX5_init_85 : decode cX5_init 85 = .ok (.getfield 25, 3) := by decide +kernel
theorem dX5_init_88 : decode cX5_init 88 = .ok (.arraylength, 1) := by decide +kernel
theorem dX5_init_89 : decode cX5_init 89 = .ok (.if_icmp .ge 22, 3) := by decide +kernel
theorem dX5_init_92 : decode cX5_init 92 = .ok (.aload_n 0, 1) := by decide +kernel
theorem dX5_init_93 : decode cX5_init 93 = .ok (.getfield 25, 3) := by decide +kernel
theorem dX5_init_96 : decode cX5_init 96 = .ok (.iload_n 1, 1) := by decide +kernel
theorem dX5_init_97 : decode cX5_init 97 = .ok (.new 23, 3) := by decide +kernel
theorem dX5_init_100 : decode cX5_init 100 = .ok (.dup, 1) := by decide +kernel
theorem dX5_init_101 : decode cX5_init 101 = .ok (.invokespecial 65, 3) := by decide +kernel
theorem dX5_init_104 : decode cX5_init 104 = .ok (.aastore, 1) := by decide +kernel
theorem dX5_init_105 : decode cX5_init 105 = .ok (.iinc 1 1, 3) := by decide +kernel
theorem dX5_init_108 : decode cX5_init 108 = .ok (.goto (-25), 3) := by decide +kernel
theorem dX5_init_111 : decode cX5_init 111 = .ok (.iconst 0, 1) := by decide +kernel
theorem dX5_init_112 : decode cX5_init 112 = .ok (.istore_n 1, 1) := by decide +kernel
theorem dX5_init_113 : decode cX5_init 113 = .ok (.iload_n 1, 1) := by decide +kernel
theorem dX5_init_114 : decode cX5_init 114 = .ok (.aload_n 0, 1) := by decide +kernel
theorem dX5_init_115 : decode cX5_init 115 = .ok (.getfield 31, 3) := by decide +kernel
theorem dX5_init_118 : decode cX5_init 118 = .ok (.arraylength, 1) := by decide +kernel
theorem dX5_init_119 : decode cX5_init 119 = .ok (.if_icmp .ge 22, 3) := by decide +kernel
theorem dX5_init_122 : decode cX5_init 122 = .ok (.aload_n 0, 1) := by decide +kernel
theorem dX5_init_123 : decode cX5_init 123 = .ok (.getfield 31, 3) := by decide +kernel
theorem dX5_init_126 : decode cX5_init 126 = .ok (.iload_n 1, 1) := by decide +kernel
theorem dX5_init_127 : decode cX5_init 127 = .ok (.new 29, 3) := by decide +kernel
theorem dX5_init_130 : decode cX5_init 130 = .ok (.dup, 1) := by decide +kernel
theorem dX5_init_131 : decode cX5_init 131 = .ok (.invokespecial 66, 3) := by decide +kernel
theorem dX5_init_134 : decode cX5_init 134 = .ok (.aastore, 1) := by decide +kernel
theorem dX5_init_135 : decode cX5_init 135 = .ok (.iinc 1 1, 3) := by decide +kernel
theorem dX5_init_138 : decode cX5_init 138 = .ok (.goto (-25), 3) := by decide +kernel
theorem dX5_init_141 : decode cX5_init 141 = .ok (.return_, 1) := by decide +kernel
theorem dX5_copyFrom_0 : decode cX5_copyFrom 0 = .ok (.aload_n 1, 1) := by decide +kernel
theorem dX5_copyFrom_1 : decode cX5_copyFrom 1 = .ok (.getfield 18, 3) := by decide +kernel
theorem dX5_copyFrom_4 : decode cX5_copyFrom 4 = .ok (.iconst 0, 1) := by decide +kernel
theorem dX5_copyFrom_5 : decode cX5_copyFrom 5 = .ok (.aload_n 0, 1) := by decide +kernel
theorem dX5_copyFrom_6 : decode cX5_copyFrom 6 = .ok (.getfield 18, 3) := by decide +kernel
theorem dX5_copyFrom_9 : decode cX5_copyFrom 9 = .ok (.iconst 0, 1) := by decide +kernel
theorem dX5_copyFrom_10 : decode cX5_copyFrom 10 = .ok (.bipush 7, 2) := by decide +kernel
theorem dX5_copyFrom_12 : decode cX5_copyFrom 12 = .ok (.invokestatic 67, 3) := by decide +kernel
theorem dX5_copyFrom_15 : decode cX5_copyFrom 15 = .ok (.iconst 0, 1) := by decide +kernel
theorem dX5_copyFrom_16 : decode cX5_copyFrom 16 = .ok (.istore_n 2, 1) := by decide +kernel
theorem dX5_copyFrom_17 : decode cX5_copyFrom 17 = .ok (.iload_n 2, 1) := by decide +kernel
theorem dX5_copyFrom_18 : decode cX5_copyFrom 18 = .ok (.aload_n 1, 1) := by decide +kernel
theorem dX5_copyFrom_19 : decode cX5_copyFrom 19 = .ok (.getfield 42, 3) := by decide +kernel
theorem dX5_copyFrom_22 : decode cX5_copyFrom 22 = .ok (.if_icmp .ge 24, 3) := by decide +kernel
theorem dX5_copyFrom_25 : decode cX5_copyFrom 25 = .ok (.aload_n 0, 1) := by decide +kernel
theorem dX5_copyFrom_26 : decode cX5_copyFrom 26 = .ok (.getfield 25, 3) := by decide +kernel
theorem dX5_copyFrom_29 : decode cX5_copyFrom 29 = .ok (.iload_n 2, 1) := by decide +kernel
theorem dX5_copyFrom_30 : decode cX5_copyFrom 30 = .ok (.aaload, 1) := by decide +kernel
theorem dX5_copyFrom_31 : decode cX5_copyFrom 31 = .ok (.aload_n 1, 1) := by decide +kernel
theorem dX5_copyFrom_32 : decode cX5_copyFrom 32 = .ok (.getfield 25, 3) := by decide +kernel
theorem dX5_copyFrom_35 : decode cX5_copyFrom 35 = .ok (.iload_n 2, 1) := by decide +kernel
theorem dX5_copyFrom_36 : decode cX5_copyFrom 36 = .ok (.aaload, 1) := by decide +kernel
theorem dX5_copyFrom_37 : decode cX5_copyFrom 37 = .ok (.invokevirtual 73, 3) := by decide +kernel
theorem dX5_copyFrom_40 : decode cX5_copyFrom 40 = .ok (.iinc 2 1, 3) := by decide +kernel
theorem dX5_copyFrom_43 : decode cX5_copyFrom 43 = .ok (.goto (-26), 3) := by decide +kernel
theorem dX5_copyFrom_46 : decode cX5_copyFrom 46 = .ok (.iconst 0, 1) := by decide +kernel
theorem dX5_copyFrom_47 : decode cX5_copyFrom 47 = .ok (.istore_n 2, 1) := by decide +kernel
theorem dX5_copyFrom_48 : decode cX5_copyFrom 48 = .ok (.iload_n 2, 1) := by decide +kernel
theorem dX5_copyFrom_49 : decode cX5_copyFrom 49 = .ok (.aload_n 1, 1) := by decide +kernel
theorem dX5_copyFrom_50 : decode cX5_copyFrom 50 = .ok (.getfield 46, 3) := by decide +kernel
theorem dX5_copyFrom_53 : decode cX5_copyFrom 53 = .ok (.if_icmp .ge 24, 3) := by decide +kernel
theorem dX5_copyFrom_56 : decode cX5_copyFrom 56 = .ok (.aload_n 0, 1) := by decide +kernel
theorem dX5_copyFrom_57 : decode cX5_copyFrom 57 = .ok (.getfield 31, 3) := by decide +kernel
theorem dX5_copyFrom_60 : decode cX5_copyFrom 60 = .ok (.iload_n 2, 1) := by decide +kernel
theorem dX5_copyFrom_61 : decode cX5_copyFrom 61 = .ok (.aaload, 1) := by decide +kernel
theorem dX5_copyFrom_62 : decode cX5_copyFrom 62 = .ok (.aload_n 1, 1) := by decide +kernel
theorem dX5_copyFrom_63 : decode cX5_copyFrom 63 = .ok (.getfield 31, 3) := by decide +kernel
theorem dX5_copyFrom_66 : decode cX5_copyFrom 66 = .ok (.iload_n 2, 1) := by decide +kernel
theorem dX5_copyFrom_67 : decode cX5_copyFrom 67 = .ok (.aaload, 1) := by decide +kernel
theorem dX5_copyFrom_68 : decode cX5_copyFrom 68 = .ok (.invokevirtual 77, 3) := by decide +kernel
theorem dX5_copyFrom_71 : decode cX5_copyFrom 71 = .ok (.iinc 2 1, 3) := by decide +kernel
theorem dX5_copyFrom_74 : decode cX5_copyFrom 74 = .ok (.goto (-26), 3) := by decide +kernel
theorem dX5_copyFrom_77 : decode cX5_copyFrom 77 = .ok (.aload_n 0, 1) := by decide +kernel
theorem dX5_copyFrom_78 : decode cX5_copyFrom 78 = .ok (.getfield 38, 3) := by decide +kernel
theorem dX5_copyFrom_81 : decode cX5_copyFrom 81 = .ok (.aload_n 1, 1) := by decide +kernel
theorem dX5_copyFrom_82 : decode cX5_copyFrom 82 = .ok (.getfield 38, 3) := by decide +kernel
theorem dX5_copyFrom_85 : decode cX5_copyFrom 85 = .ok (.invokevirtual 80, 3) := by decide +kernel
theorem dX5_copyFrom_88 : decode cX5_copyFrom 88 = .ok (.aload_n 0, 1) := by decide +kernel
theorem dX5_copyFrom_89 : decode cX5_copyFrom 89 = .ok (.aload_n 1, 1) := by decide +kernel
theorem dX5_copyFrom_90 : decode cX5_copyFrom 90 = .ok (.getfield 42, 3) := by decide +kernel
theorem dX5_copyFrom_93 : decode cX5_copyFrom 93 = .ok (.putfield 42, 3) := by decide +kernel
theorem dX5_copyFrom_96 : decode cX5_copyFrom 96 = .ok (.aload_n 0, 1) := by decide +kernel
theorem dX5_copyFrom_97 : decode cX5_copyFrom 97 = .ok (.aload_n 1, 1) := by decide +kernel
theorem dX5_copyFrom_98 : decode cX5_copyFrom 98 = .ok (.getfield 46, 3) := by decide +kernel
theorem dX5_copyFrom_101 : decode cX5_copyFrom 101 = .ok (.putfield 46, 3) := by decide +kernel
theorem dX5_copyFrom_104 : decode cX5_copyFrom 104 = .ok (.aload_n 0, 1) := by decide +kernel
theorem dX5_copyFrom_105 : decode cX5_copyFrom 105 = .ok (.aload_n 1, 1) := by decide +kernel
theorem dX5_copyFrom_106 : decode cX5_copyFrom 106 = .ok (.getfield 49, 3) := by decide +kernel
theorem dX5_copyFrom_109 : decode cX5_copyFrom 109 = .ok (.putfield 49, 3) := by decide +kernel
theorem dX5_copyFrom_112 : decode cX5_copyFrom 112 = .ok (.aload_n 0, 1) := by decide +kernel
theorem dX5_copyFrom_113 : decode cX5_copyFrom 113 = .ok (.aload_n 1, 1) := by decide +kernel
theorem dX5_copyFrom_114 : decode cX5_copyFrom 114 = .ok (.getfield 52, 3) := by decide +kernel
theorem dX5_copyFrom_117 : decode cX5_copyFrom 117 = .ok (.putfield 52, 3) := by decide +kernel
theorem dX5_copyFrom_120 : decode cX5_copyFrom 120 = .ok (.aload_n 0, 1) := by decide +kernel
theorem dX5_copyFrom_121 : decode cX5_copyFrom 121 = .ok (.aload_n 1, 1) := by decide +kernel
theorem dX5_copyFrom_122 : decode cX5_copyFrom 122 = .ok (.getfield 56, 3) := by decide +kernel
theorem dX5_copyFrom_125 : decode cX5_copyFrom 125 = .ok (.putfield 56, 3) := by decide +kernel
theorem dX5_copyFrom_128 : decode cX5_copyFrom 128 = .ok (.aload_n 0, 1) := by decide +kernel
theorem dX5_copyFrom_129 : decode cX5_copyFrom 129 = .ok (.aload_n 1, 1) := by decide +kernel
theorem dX5_copyFrom_130 : decode cX5_copyFrom 130 = .ok (.getfield 59, 3) := by decide +kernel
theorem dX5_copyFrom_133 : decode cX5_copyFrom 133 = .ok (.putfield 59, 3) := by decide +kernel
theorem dX5_copyFrom_136 : decode cX5_copyFrom 136 = .ok (.aload_n 0, 1) := by decide +kernel
theorem dX5_copyFrom_137 : decode cX5_copyFrom 137 = .ok (.aload_n 1, 1) := by decide +kernel
theorem dX5_copyFrom_138 : decode cX5_copyFrom 138 = .ok (.getfield 62, 3) := by decide +kernel
theorem dX5_copyFrom_141 : decode cX5_copyFrom 141 = .ok (.putfield 62, 3) := by decide +kernel
theorem dX5_copyFrom_144 : decode cX5_copyFrom 144 = .ok (.return_, 1) := by decide +kernel
theorem dX5_hasBand_0 : decode cX5_hasBand 0 = .ok (.iload_n 1, 1) := by decide +kernel
theorem dX5_hasBand_1 : decode cX5_hasBand 1 = .ok (.ifCond .lt 15, 3) := by decide +kernel
theorem dX5_hasBand_4 : decode cX5_hasBand 4 = .ok (.iload_n 1, 1) := by decide +kernel
theorem dX5_hasBand_5 : decode cX5_hasBand 5 = .ok (.aload_n 0, 1) := by decide +kernel
theorem dX5_hasBand_6 : decode cX5_hasBand 6 = .ok (.getfield 42, 3) := by decide +kernel
theorem dX5_hasBand_9 : decode cX5_hasBand 9 = .ok (.if_icmp .ge 7, 3) := by decide +kernel
theorem dX5_hasBand_12 : decode cX5_hasBand 12 = .ok (.iconst 1, 1) := by decide +kernel
theorem dX5_hasBand_13 : decode cX5_hasBand 13 = .ok (.goto 4, 3) := by decide +kernel
theorem dX5_hasBand_16 : decode cX5_hasBand 16 = .ok (.iconst 0, 1) := by decide +kernel
theorem dX5_hasBand_17 : decode cX5_hasBand 17 = .ok (.ireturn, 1) := by decide +kernel
theorem dX5_hasStake_0 : decode cX5_hasStake 0 = .ok (.iload_n 1, 1) := by decide +kernel
theorem dX5_hasStake_1 : decode cX5_hasStake 1 = .ok (.ifCond .lt 15, 3) := by decide +kernel
theorem dX5_hasStake_4 : decode cX5_hasStake 4 = .ok (.iload_n 1, 1) := by decide +kernel
theorem dX5_hasStake_5 : decode cX5_hasStake 5 = .ok (.aload_n 0, 1) := by decide +kernel
theorem dX5_hasStake_6 : decode cX5_hasStake 6 = .ok (.getfield 46, 3) := by decide +kernel
theorem dX5_hasStake_9 : decode cX5_hasStake 9 = .ok (.if_icmp .ge 7, 3) := by decide +kernel
theorem dX5_hasStake_12 : decode cX5_hasStake 12 = .ok (.iconst 1, 1) := by decide +kernel
theorem dX5_hasStake_13 : decode cX5_hasStake 13 = .ok (.goto 4, 3) := by decide +kernel
theorem dX5_hasStake_16 : decode cX5_hasStake 16 = .ok (.iconst 0, 1) := by decide +kernel
theorem dX5_hasStake_17 : decode cX5_hasStake 17 = .ok (.ireturn, 1) := by decide +kernel
theorem dX5_isBelowAll_0 : decode cX5_isBelowAll 0 = .ok (.aload_n 0, 1) := by decide +kernel
theorem dX5_isBelowAll_1 : decode cX5_isBelowAll 1 = .ok (.getfield 42, 3) := by decide +kernel
theorem dX5_isBelowAll_4 : decode cX5_isBelowAll 4 = .ok (.ifCond .eq 21, 3) := by decide +kernel
theorem dX5_isBelowAll_7 : decode cX5_isBelowAll 7 = .ok (.iload_n 1, 1) := by decide +kernel
theorem dX5_isBelowAll_8 : decode cX5_isBelowAll 8 = .ok (.aload_n 0, 1) := by decide +kernel
theorem dX5_isBelowAll_9 : decode cX5_isBelowAll 9 = .ok (.getfield 25, 3) := by decide +kernel
theorem dX5_isBelowAll_12 : decode cX5_isBelowAll 12 = .ok (.aload_n 0, 1) := by decide +kernel
theorem dX5_isBelowAll_13 : decode cX5_isBelowAll 13 = .ok (.getfield 42, 3) := by decide +kernel
theorem dX5_isBelowAll_16 : decode cX5_isBelowAll 16 = .ok (.iconst 1, 1) := by decide +kernel
theorem dX5_isBelowAll_17 : decode cX5_isBelowAll 17 = .ok (.isub, 1) := by decide +kernel
theorem dX5_isBelowAll_18 : decode cX5_isBelowAll 18 = .ok (.aaload, 1) := by decide +kernel
theorem dX5_isBelowAll_19 : decode cX5_isBelowAll 19 = .ok (.getfield 83, 3) := by decide +kernel
theorem dX5_isBelowAll_22 : decode cX5_isBelowAll 22 = .ok (.if_icmp .ge 7, 3) := by decide +kernel
theorem dX5_isBelowAll_25 : decode cX5_isBelowAll 25 = .ok (.iconst 1, 1) := by decide +kernel
theorem dX5_isBelowAll_26 : decode cX5_isBelowAll 26 = .ok (.goto 4, 3) := by decide +kernel
theorem dX5_isBelowAll_29 : decode cX5_isBelowAll 29 = .ok (.iconst 0, 1) := by decide +kernel
theorem dX5_isBelowAll_30 : decode cX5_isBelowAll 30 = .ok (.ireturn, 1) := by decide +kernel
theorem dX5_addBand_0 : decode cX5_addBand 0 = .ok (.aload_n 0, 1) := by decide +kernel
theorem dX5_addBand_1 : decode cX5_addBand 1 = .ok (.getfield 42, 3) := by decide +kernel
theorem dX5_addBand_4 : decode cX5_addBand 4 = .ok (.istore 5, 2) := by decide +kernel
theorem dX5_addBand_6 : decode cX5_addBand 6 = .ok (.aload_n 0, 1) := by decide +kernel
theorem dX5_addBand_7 : decode cX5_addBand 7 = .ok (.getfield 25, 3) := by decide +kernel
theorem dX5_addBand_10 : decode cX5_addBand 10 = .ok (.iload 5, 2) := by decide +kernel
theorem dX5_addBand_12 : decode cX5_addBand 12 = .ok (.aaload, 1) := by decide +kernel
theorem dX5_addBand_13 : decode cX5_addBand 13 = .ok (.iload_n 1, 1) := by decide +kernel
theorem dX5_addBand_14 : decode cX5_addBand 14 = .ok (.iload_n 2, 1) := by decide +kernel
theorem dX5_addBand_15 : decode cX5_addBand 15 = .ok (.iload_n 3, 1) := by decide +kernel
theorem dX5_addBand_16 : decode cX5_addBand 16 = .ok (.invokevirtual 86, 3) := by decide +kernel
theorem dX5_addBand_19 : decode cX5_addBand 19 = .ok (.aload_n 0, 1) := by decide +kernel
theorem dX5_addBand_20 : decode cX5_addBand 20 = .ok (.getfield 25, 3) := by decide +kernel
theorem dX5_addBand_23 : decode cX5_addBand 23 = .ok (.iload 5, 2) := by decide +kernel
theorem dX5_addBand_25 : decode cX5_addBand 25 = .ok (.aaload, 1) := by decide +kernel
theorem dX5_addBand_26 : decode cX5_addBand 26 = .ok (.getfield 90, 3) := by decide +kernel
theorem dX5_addBand_29 : decode cX5_addBand 29 = .ok (.aload_n 0, 1) := by decide +kernel
theorem dX5_addBand_30 : decode cX5_addBand 30 = .ok (.getfield 49, 3) := by decide +kernel
theorem dX5_addBand_33 : decode cX5_addBand 33 = .ok (.iload 4, 2) := by decide +kernel
theorem dX5_addBand_35 : decode cX5_addBand 35 = .ok (.invokevirtual 94, 3) := by decide +kernel
theorem dX5_addBand_38 : decode cX5_addBand 38 = .ok (.aload_n 0, 1) := by decide +kernel
theorem dX5_addBand_39 : decode cX5_addBand 39 = .ok (.dup, 1) := by decide +kernel
theorem dX5_addBand_40 : decode cX5_addBand 40 = .ok (.getfield 42, 3) := by decide +kernel
theorem dX5_addBand_43 : decode cX5_addBand 43 = .ok (.iconst 1, 1) := by decide +kernel
theorem dX5_addBand_44 : decode cX5_addBand 44 = .ok (.iadd, 1) := by decide +kernel
theorem dX5_addBand_45 : decode cX5_addBand 45 = .ok (.putfield 42, 3) := by decide +kernel
theorem dX5_addBand_48 : decode cX5_addBand 48 = .ok (.aload_n 0, 1) := by decide +kernel
theorem dX5_addBand_49 : decode cX5_addBand 49 = .ok (.dup, 1) := by decide +kernel
theorem dX5_addBand_50 : decode cX5_addBand 50 = .ok (.getfield 52, 3) := by decide +kernel
theorem dX5_addBand_53 : decode cX5_addBand 53 = .ok (.iload 4, 2) := by decide +kernel
theorem dX5_addBand_55 : decode cX5_addBand 55 = .ok (.i2l, 1) := by decide +kernel
theorem dX5_addBand_56 : decode cX5_addBand 56 = .ok (.ladd, 1) := by decide +kernel
theorem dX5_addBand_57 : decode cX5_addBand 57 = .ok (.putfield 52, 3) := by decide +kernel
theorem dX5_addBand_60 : decode cX5_addBand 60 = .ok (.iload 5, 2) := by decide +kernel
theorem dX5_addBand_62 : decode cX5_addBand 62 = .ok (.ireturn, 1) := by decide +kernel
theorem dX5_isStakeAt_0 : decode cX5_isStakeAt 0 = .ok (.iconst 0, 1) := by decide +kernel
theorem dX5_isStakeAt_1 : decode cX5_isStakeAt 1 = .ok (.istore_n 3, 1) := by decide +kernel
theorem dX5_isStakeAt_2 : decode cX5_isStakeAt 2 = .ok (.iload_n 3, 1) := by decide +kernel
theorem dX5_isStakeAt_3 : decode cX5_isStakeAt 3 = .ok (.aload_n 0, 1) := by decide +kernel
theorem dX5_isStakeAt_4 : decode cX5_isStakeAt 4 = .ok (.getfield 46, 3) := by decide +kernel
theorem dX5_isStakeAt_7 : decode cX5_isStakeAt 7 = .ok (.if_icmp .ge 49, 3) := by decide +kernel
theorem dX5_isStakeAt_10 : decode cX5_isStakeAt 10 = .ok (.aload_n 0, 1) := by decide +kernel
theorem dX5_isStakeAt_11 : decode cX5_isStakeAt 11 = .ok (.getfield 31, 3) := by decide +kernel
theorem dX5_isStakeAt_14 : decode cX5_isStakeAt 14 = .ok (.iload_n 3, 1) := by decide +kernel
theorem dX5_isStakeAt_15 : decode cX5_isStakeAt 15 = .ok (.aaload, 1) := by decide +kernel
theorem dX5_isStakeAt_16 : decode cX5_isStakeAt 16 = .ok (.getfield 100, 3) := by decide +kernel
theorem dX5_isStakeAt_19 : decode cX5_isStakeAt 19 = .ok (.ifCond .ne 31, 3) := by decide +kernel
theorem dX5_isStakeAt_22 : decode cX5_isStakeAt 22 = .ok (.aload_n 0, 1) := by decide +kernel
theorem dX5_isStakeAt_23 : decode cX5_isStakeAt 23 = .ok (.getfield 31, 3) := by decide +kernel
theorem dX5_isStakeAt_26 : decode cX5_isStakeAt 26 = .ok (.iload_n 3, 1) := by decide +kernel
theorem dX5_isStakeAt_27 : decode cX5_isStakeAt 27 = .ok (.aaload, 1) := by decide +kernel
theorem dX5_isStakeAt_28 : decode cX5_isStakeAt 28 = .ok (.getfield 103, 3) := by decide +kernel
theorem dX5_isStakeAt_31 : decode cX5_isStakeAt 31 = .ok (.iload_n 1, 1) := by decide +kernel
theorem dX5_isStakeAt_32 : decode cX5_isStakeAt 32 = .ok (.if_icmp .ne 18, 3) := by decide +kernel
theorem dX5_isStakeAt_35 : decode cX5_isStakeAt 35 = .ok (.aload_n 0, 1) := by decide +kernel
theorem dX5_isStakeAt_36 : decode cX5_isStakeAt 36 = .ok (.getfield 31, 3) := by decide +kernel
theorem dX5_isStakeAt_39 : decode cX5_isStakeAt 39 = .ok (.iload_n 3, 1) := by decide +kernel
theorem dX5_isStakeAt_40 : decode cX5_isStakeAt 40 = .ok (.aaload, 1) := by decide +kernel
theorem dX5_isStakeAt_41 : decode cX5_isStakeAt 41 = .ok (.getfield 106, 3) := by decide +kernel
theorem dX5_isStakeAt_44 : decode cX5_isStakeAt 44 = .ok (.iload_n 2, 1) := by decide +kernel
theorem dX5_isStakeAt_45 : decode cX5_isStakeAt 45 = .ok (.if_icmp .ne 5, 3) := by decide +kernel
theorem dX5_isStakeAt_48 : decode cX5_isStakeAt 48 = .ok (.iconst 1, 1) := by decide +kernel
theorem dX5_isStakeAt_49 : decode cX5_isStakeAt 49 = .ok (.ireturn, 1) := by decide +kernel
theorem dX5_isStakeAt_50 : decode cX5_isStakeAt 50 = .ok (.iinc 3 1, 3) := by decide +kernel
theorem dX5_isStakeAt_53 : decode cX5_isStakeAt 53 = .ok (.goto (-51), 3) := by decide +kernel
theorem dX5_isStakeAt_56 : decode cX5_isStakeAt 56 = .ok (.iconst 0, 1) := by decide +kernel
theorem dX5_isStakeAt_57 : decode cX5_isStakeAt 57 = .ok (.ireturn, 1) := by decide +kernel
theorem dX5_addStake_0 : decode cX5_addStake 0 = .ok (.aload_n 0, 1) := by decide +kernel
theorem dX5_addStake_1 : decode cX5_addStake 1 = .ok (.getfield 46, 3) := by decide +kernel
theorem dX5_addStake_4 : decode cX5_addStake 4 = .ok (.istore 4, 2) := by decide +kernel
theorem dX5_addStake_6 : decode cX5_addStake 6 = .ok (.aload_n 0, 1) := by decide +kernel
theorem dX5_addStake_7 : decode cX5_addStake 7 = .ok (.getfield 31, 3) := by decide +kernel
theorem dX5_addStake_10 : decode cX5_addStake 10 = .ok (.iload 4, 2) := by decide +kernel
theorem dX5_addStake_12 : decode cX5_addStake 12 = .ok (.aaload, 1) := by decide +kernel
theorem dX5_addStake_13 : decode cX5_addStake 13 = .ok (.iload_n 1, 1) := by decide +kernel
theorem dX5_addStake_14 : decode cX5_addStake 14 = .ok (.iload_n 2, 1) := by decide +kernel
theorem dX5_addStake_15 : decode cX5_addStake 15 = .ok (.iload_n 3, 1) := by decide +kernel
theorem dX5_addStake_16 : decode cX5_addStake 16 = .ok (.invokevirtual 109, 3) := by decide +kernel
theorem dX5_addStake_19 : decode cX5_addStake 19 = .ok (.aload_n 0, 1) := by decide +kernel
theorem dX5_addStake_20 : decode cX5_addStake 20 = .ok (.dup, 1) := by decide +kernel
theorem dX5_addStake_21 : decode cX5_addStake 21 = .ok (.getfield 46, 3) := by decide +kernel
theorem dX5_addStake_24 : decode cX5_addStake 24 = .ok (.iconst 1, 1) := by decide +kernel
theorem dX5_addStake_25 : decode cX5_addStake 25 = .ok (.iadd, 1) := by decide +kernel
theorem dX5_addStake_26 : decode cX5_addStake 26 = .ok (.putfield 46, 3) := by decide +kernel
theorem dX5_addStake_29 : decode cX5_addStake 29 = .ok (.iload 4, 2) := by decide +kernel
theorem dX5_addStake_31 : decode cX5_addStake 31 = .ok (.ireturn, 1) := by decide +kernel
theorem dX5_removeStake_0 : decode cX5_removeStake 0 = .ok (.aload_n 0, 1) := by decide +kernel
theorem dX5_removeStake_1 : decode cX5_removeStake 1 = .ok (.getfield 31, 3) := by decide +kernel
theorem dX5_removeStake_4 : decode cX5_removeStake 4 = .ok (.iload_n 1, 1) := by decide +kernel
theorem dX5_removeStake_5 : decode cX5_removeStake 5 = .ok (.aaload, 1) := by decide +kernel
theorem dX5_removeStake_6 : decode cX5_removeStake 6 = .ok (.astore_n 2, 1) := by decide +kernel
theorem dX5_removeStake_7 : decode cX5_removeStake 7 = .ok (.iload_n 1, 1) := by decide +kernel
theorem dX5_removeStake_8 : decode cX5_removeStake 8 = .ok (.istore_n 3, 1) := by decide +kernel
theorem dX5_removeStake_9 : decode cX5_removeStake 9 = .ok (.iload_n 3, 1) := by decide +kernel
theorem dX5_removeStake_10 : decode cX5_removeStake 10 = .ok (.iconst 1, 1) := by decide +kernel
theorem dX5_removeStake_11 : decode cX5_removeStake 11 = .ok (.iadd, 1) := by decide +kernel
theorem dX5_removeStake_12 : decode cX5_removeStake 12 = .ok (.aload_n 0, 1) := by decide +kernel
theorem dX5_removeStake_13 : decode cX5_removeStake 13 = .ok (.getfield 46, 3) := by decide +kernel
theorem dX5_removeStake_16 : decode cX5_removeStake 16 = .ok (.if_icmp .ge 23, 3) := by decide +kernel
theorem dX5_removeStake_19 : decode cX5_removeStake 19 = .ok (.aload_n 0, 1) := by decide +kernel
theorem dX5_removeStake_20 : decode cX5_removeStake 20 = .ok (.getfield 31, 3) := by decide +kernel
theorem dX5_removeStake_23 : decode cX5_removeStake 23 = .ok (.iload_n 3, 1) := by decide +kernel
theorem dX5_removeStake_24 : decode cX5_removeStake 24 = .ok (.aload_n 0, 1) := by decide +kernel
theorem dX5_removeStake_25 : decode cX5_removeStake 25 = .ok (.getfield 31, 3) := by decide +kernel
theorem dX5_removeStake_28 : decode cX5_removeStake 28 = .ok (.iload_n 3, 1) := by decide +kernel
theorem dX5_removeStake_29 : decode cX5_removeStake 29 = .ok (.iconst 1, 1) := by decide +kernel
theorem dX5_removeStake_30 : decode cX5_removeStake 30 = .ok (.iadd, 1) := by decide +kernel
theorem dX5_removeStake_31 : decode cX5_removeStake 31 = .ok (.aaload, 1) := by decide +kernel
theorem dX5_removeStake_32 : decode cX5_removeStake 32 = .ok (.aastore, 1) := by decide +kernel
theorem dX5_removeStake_33 : decode cX5_removeStake 33 = .ok (.iinc 3 1, 3) := by decide +kernel
theorem dX5_removeStake_36 : decode cX5_removeStake 36 = .ok (.goto (-27), 3) := by decide +kernel
theorem dX5_removeStake_39 : decode cX5_removeStake 39 = .ok (.aload_n 0, 1) := by decide +kernel
theorem dX5_removeStake_40 : decode cX5_removeStake 40 = .ok (.dup, 1) := by decide +kernel
theorem dX5_removeStake_41 : decode cX5_removeStake 41 = .ok (.getfield 46, 3) := by decide +kernel
theorem dX5_removeStake_44 : decode cX5_removeStake 44 = .ok (.iconst 1, 1) := by decide +kernel
theorem dX5_removeStake_45 : decode cX5_removeStake 45 = .ok (.isub, 1) := by decide +kernel
theorem dX5_removeStake_46 : decode cX5_removeStake 46 = .ok (.putfield 46, 3) := by decide +kernel
theorem dX5_removeStake_49 : decode cX5_removeStake 49 = .ok (.aload_n 0, 1) := by decide +kernel
theorem dX5_removeStake_50 : decode cX5_removeStake 50 = .ok (.getfield 31, 3) := by decide +kernel
theorem dX5_removeStake_53 : decode cX5_removeStake 53 = .ok (.aload_n 0, 1) := by decide +kernel
theorem dX5_removeStake_54 : decode cX5_removeStake 54 = .ok (.getfield 46, 3) := by decide +kernel
theorem dX5_removeStake_57 : decode cX5_removeStake 57 = .ok (.aload_n 2, 1) := by decide +kernel
theorem dX5_removeStake_58 : decode cX5_removeStake 58 = .ok (.aastore, 1) := by decide +kernel
theorem dX5_removeStake_59 : decode cX5_removeStake 59 = .ok (.aload_n 2, 1) := by decide +kernel
theorem dX5_removeStake_60 : decode cX5_removeStake 60 = .ok (.getfield 110, 3) := by decide +kernel
theorem dX5_removeStake_63 : decode cX5_removeStake 63 = .ok (.ireturn, 1) := by decide +kernel
theorem dX5_standingStakes_0 : decode cX5_standingStakes 0 = .ok (.iconst 0, 1) := by decide +kernel
theorem dX5_standingStakes_1 : decode cX5_standingStakes 1 = .ok (.istore_n 1, 1) := by decide +kernel
theorem dX5_standingStakes_2 : decode cX5_standingStakes 2 = .ok (.iconst 0, 1) := by decide +kernel
theorem dX5_standingStakes_3 : decode cX5_standingStakes 3 = .ok (.istore_n 2, 1) := by decide +kernel
theorem dX5_standingStakes_4 : decode cX5_standingStakes 4 = .ok (.iload_n 2, 1) := by decide +kernel
theorem dX5_standingStakes_5 : decode cX5_standingStakes 5 = .ok (.aload_n 0, 1) := by decide +kernel
theorem dX5_standingStakes_6 : decode cX5_standingStakes 6 = .ok (.getfield 46, 3) := by decide +kernel
theorem dX5_standingStakes_9 : decode cX5_standingStakes 9 = .ok (.if_icmp .ge 24, 3) := by decide +kernel
theorem dX5_standingStakes_12 : decode cX5_standingStakes 12 = .ok (.aload_n 0, 1) := by decide +kernel
theorem dX5_standingStakes_13 : decode cX5_standingStakes 13 = .ok (.getfield 31, 3) := by decide +kernel
theorem dX5_standingStakes_16 : decode cX5_standingStakes 16 = .ok (.iload_n 2, 1) := by decide +kernel
theorem dX5_standingStakes_17 : decode cX5_standingStakes 17 = .ok (.aaload, 1) := by decide +kernel
theorem dX5_standingStakes_18 : decode cX5_standingStakes 18 = .ok (.getfield 100, 3) := by decide +kernel
theorem dX5_standingStakes_21 : decode cX5_standingStakes 21 = .ok (.ifCond .ne 6, 3) := by decide +kernel
theorem dX5_standingStakes_24 : decode cX5_standingStakes 24 = .ok (.iinc 1 1, 3) := by decide +kernel
theorem dX5_standingStakes_27 : decode cX5_standingStakes 27 = .ok (.iinc 2 1, 3) := by decide +kernel
theorem dX5_standingStakes_30 : decode cX5_standingStakes 30 = .ok (.goto (-26), 3) := by decide +kernel
theorem dX5_standingStakes_33 : decode cX5_standingStakes 33 = .ok (.iload_n 1, 1) := by decide +kernel
theorem dX5_standingStakes_34 : decode cX5_standingStakes 34 = .ok (.ireturn, 1) := by decide +kernel
theorem dX5_snowAt_0 : decode cX5_snowAt 0 = .ok (.aload_n 0, 1) := by decide +kernel
theorem dX5_snowAt_1 : decode cX5_snowAt 1 = .ok (.getfield 18, 3) := by decide +kernel
theorem dX5_snowAt_4 : decode cX5_snowAt 4 = .ok (.iconst 1, 1) := by decide +kernel
theorem dX5_snowAt_5 : decode cX5_snowAt 5 = .ok (.iaload, 1) := by decide +kernel
theorem dX5_snowAt_6 : decode cX5_snowAt 6 = .ok (.iload_n 1, 1) := by decide +kernel
theorem dX5_snowAt_7 : decode cX5_snowAt 7 = .ok (.aload_n 0, 1) := by decide +kernel
theorem dX5_snowAt_8 : decode cX5_snowAt 8 = .ok (.getfield 18, 3) := by decide +kernel
theorem dX5_snowAt_11 : decode cX5_snowAt 11 = .ok (.iconst 4, 1) := by decide +kernel
theorem dX5_snowAt_12 : decode cX5_snowAt 12 = .ok (.iaload, 1) := by decide +kernel
theorem dX5_snowAt_13 : decode cX5_snowAt 13 = .ok (.isub, 1) := by decide +kernel
theorem dX5_snowAt_14 : decode cX5_snowAt 14 = .ok (.imul, 1) := by decide +kernel
theorem dX5_snowAt_15 : decode cX5_snowAt 15 = .ok (.bipush 100, 2) := by decide +kernel
theorem dX5_snowAt_17 : decode cX5_snowAt 17 = .ok (.invokestatic 113, 3) := by decide +kernel
theorem dX5_snowAt_20 : decode cX5_snowAt 20 = .ok (.istore_n 2, 1) := by decide +kernel
theorem dX5_snowAt_21 : decode cX5_snowAt 21 = .ok (.iconst 0, 1) := by decide +kernel
theorem dX5_snowAt_22 : decode cX5_snowAt 22 = .ok (.aload_n 0, 1) := by decide +kernel
theorem dX5_snowAt_23 : decode cX5_snowAt 23 = .ok (.getfield 18, 3) := by decide +kernel
theorem dX5_snowAt_26 : decode cX5_snowAt 26 = .ok (.iconst 0, 1) := by decide +kernel
theorem dX5_snowAt_27 : decode cX5_snowAt 27 = .ok (.iaload, 1) := by decide +kernel
theorem dX5_snowAt_28 : decode cX5_snowAt 28 = .ok (.iload_n 2, 1) := by decide +kernel
theorem dX5_snowAt_29 : decode cX5_snowAt 29 = .ok (.iadd, 1) := by decide +kernel
theorem dX5_snowAt_30 : decode cX5_snowAt 30 = .ok (.invokestatic 119, 3) := by decide +kernel
theorem dX5_snowAt_33 : decode cX5_snowAt 33 = .ok (.ireturn, 1) := by decide +kernel
theorem dX5_meltAt_0 : decode cX5_meltAt 0 = .ok (.aload_n 0, 1) := by decide +kernel
theorem dX5_meltAt_1 : decode cX5_meltAt 1 = .ok (.getfield 18, 3) := by decide +kernel
theorem dX5_meltAt_4 : decode cX5_meltAt 4 = .ok (.iconst 3, 1) := by decide +kernel
theorem dX5_meltAt_5 : decode cX5_meltAt 5 = .ok (.iaload, 1) := by decide +kernel
theorem dX5_meltAt_6 : decode cX5_meltAt 6 = .ok (.iload_n 1, 1) := by decide +kernel
theorem dX5_meltAt_7 : decode cX5_meltAt 7 = .ok (.aload_n 0, 1) := by decide +kernel
theorem dX5_meltAt_8 : decode cX5_meltAt 8 = .ok (.getfield 18, 3) := by decide +kernel
theorem dX5_meltAt_11 : decode cX5_meltAt 11 = .ok (.iconst 4, 1) := by decide +kernel
theorem dX5_meltAt_12 : decode cX5_meltAt 12 = .ok (.iaload, 1) := by decide +kernel
theorem dX5_meltAt_13 : decode cX5_meltAt 13 = .ok (.isub, 1) := by decide +kernel
theorem dX5_meltAt_14 : decode cX5_meltAt 14 = .ok (.imul, 1) := by decide +kernel
theorem dX5_meltAt_15 : decode cX5_meltAt 15 = .ok (.bipush 100, 2) := by decide +kernel
theorem dX5_meltAt_17 : decode cX5_meltAt 17 = .ok (.invokestatic 113, 3) := by decide +kernel
theorem dX5_meltAt_20 : decode cX5_meltAt 20 = .ok (.istore_n 3, 1) := by decide +kernel
theorem dX5_meltAt_21 : decode cX5_meltAt 21 = .ok (.iconst 0, 1) := by decide +kernel
theorem dX5_meltAt_22 : decode cX5_meltAt 22 = .ok (.iload_n 2, 1) := by decide +kernel
theorem dX5_meltAt_23 : decode cX5_meltAt 23 = .ok (.iload_n 3, 1) := by decide +kernel
theorem dX5_meltAt_24 : decode cX5_meltAt 24 = .ok (.isub, 1) := by decide +kernel
theorem dX5_meltAt_25 : decode cX5_meltAt 25 = .ok (.invokestatic 119, 3) := by decide +kernel
theorem dX5_meltAt_28 : decode cX5_meltAt 28 = .ok (.ireturn, 1) := by decide +kernel
theorem dX5_snowOutweighsMelt_0 : decode cX5_snowOutweighsMelt 0 = .ok (.iconst 0, 1) := by decide +kernel
theorem dX5_snowOutweighsMelt_1 : decode cX5_snowOutweighsMelt 1 = .ok (.istore_n 2, 1) := by decide +kernel
theorem dX5_snowOutweighsMelt_2 : decode cX5_snowOutweighsMelt 2 = .ok (.iconst 0, 1) := by decide +kernel
theorem dX5_snowOutweighsMelt_3 : decode cX5_snowOutweighsMelt 3 = .ok (.istore_n 3, 1) := by decide +kernel
theorem dX5_snowOutweighsMelt_4 : decode cX5_snowOutweighsMelt 4 = .ok (.iload_n 3, 1) := by decide +kernel
theorem dX5_snowOutweighsMelt_5 : decode cX5_snowOutweighsMelt 5 = .ok (.aload_n 0, 1) := by decide +kernel
theorem dX5_snowOutweighsMelt_6 : decode cX5_snowOutweighsMelt 6 = .ok (.getfield 42, 3) := by decide +kernel
theorem dX5_snowOutweighsMelt_9 : decode cX5_snowOutweighsMelt 9 = .ok (.if_icmp .ge 40, 3) := by decide +kernel
theorem dX5_snowOutweighsMelt_12 : decode cX5_snowOutweighsMelt 12 = .ok (.iload_n 2, 1) := by decide +kernel
theorem dX5_snowOutweighsMelt_13 : decode cX5_snowOutweighsMelt 13 = .ok (.aload_n 0, 1) := by decide +kernel
theorem dX5_snowOutweighsMelt_14 : decode cX5_snowOutweighsMelt 14 = .ok (.aload_n 0, 1) := by decide +kernel
theorem dX5_snowOutweighsMelt_15 : decode cX5_snowOutweighsMelt 15 = .ok (.getfield 25, 3) := by decide +kernel
theorem dX5_snowOutweighsMelt_18 : decode cX5_snowOutweighsMelt 18 = .ok (.iload_n 3, 1) := by decide +kernel
theorem dX5_snowOutweighsMelt_19 : decode cX5_snowOutweighsMelt 19 = .ok (.aaload, 1) := by decide +kernel
theorem dX5_snowOutweighsMelt_20 : decode cX5_snowOutweighsMelt 20 = .ok (.getfield 83, 3) := by decide +kernel
theorem dX5_snowOutweighsMelt_23 : decode cX5_snowOutweighsMelt 23 = .ok (.invokevirtual 122, 3) := by decide +kernel
theorem dX5_snowOutweighsMelt_26 : decode cX5_snowOutweighsMelt 26 = .ok (.aload_n 0, 1) := by decide +kernel
theorem dX5_snowOutweighsMelt_27 : decode cX5_snowOutweighsMelt 27 = .ok (.aload_n 0, 1) := by decide +kernel
theorem dX5_snowOutweighsMelt_28 : decode cX5_snowOutweighsMelt 28 = .ok (.getfield 25, 3) := by decide +kernel
theorem dX5_snowOutweighsMelt_31 : decode cX5_snowOutweighsMelt 31 = .ok (.iload_n 3, 1) := by decide +kernel
theorem dX5_snowOutweighsMelt_32 : decode cX5_snowOutweighsMelt 32 = .ok (.aaload, 1) := by decide +kernel
theorem dX5_snowOutweighsMelt_33 : decode cX5_snowOutweighsMelt 33 = .ok (.getfield 83, 3) := by decide +kernel
theorem dX5_snowOutweighsMelt_36 : decode cX5_snowOutweighsMelt 36 = .ok (.iload_n 1, 1) := by decide +kernel
theorem dX5_snowOutweighsMelt_37 : decode cX5_snowOutweighsMelt 37 = .ok (.invokevirtual 126, 3) := by decide +kernel
theorem dX5_snowOutweighsMelt_40 : decode cX5_snowOutweighsMelt 40 = .ok (.isub, 1) := by decide +kernel
theorem dX5_snowOutweighsMelt_41 : decode cX5_snowOutweighsMelt 41 = .ok (.iadd, 1) := by decide +kernel
theorem dX5_snowOutweighsMelt_42 : decode cX5_snowOutweighsMelt 42 = .ok (.istore_n 2, 1) := by decide +kernel
theorem dX5_snowOutweighsMelt_43 : decode cX5_snowOutweighsMelt 43 = .ok (.iinc 3 1, 3) := by decide +kernel
theorem dX5_snowOutweighsMelt_46 : decode cX5_snowOutweighsMelt 46 = .ok (.goto (-42), 3) := by decide +kernel
theorem dX5_snowOutweighsMelt_49 : decode cX5_snowOutweighsMelt 49 = .ok (.iload_n 2, 1) := by decide +kernel
theorem dX5_snowOutweighsMelt_50 : decode cX5_snowOutweighsMelt 50 = .ok (.ifCond .lt 7, 3) := by decide +kernel
theorem dX5_snowOutweighsMelt_53 : decode cX5_snowOutweighsMelt 53 = .ok (.iconst 1, 1) := by decide +kernel
theorem dX5_snowOutweighsMelt_54 : decode cX5_snowOutweighsMelt 54 = .ok (.goto 4, 3) := by decide +kernel
theorem dX5_snowOutweighsMelt_57 : decode cX5_snowOutweighsMelt 57 = .ok (.iconst 0, 1) := by decide +kernel
theorem dX5_snowOutweighsMelt_58 : decode cX5_snowOutweighsMelt 58 = .ok (.ireturn, 1) := by decide +kernel
theorem dX5_leftOf_0 : decode cX5_leftOf 0 = .ok (.iconst 0, 1) := by decide +kernel
theorem dX5_leftOf_1 : decode cX5_leftOf 1 = .ok (.istore_n 2, 1) := by decide +kernel
theorem dX5_leftOf_2 : decode cX5_leftOf 2 = .ok (.iconst 0, 1) := by decide +kernel
theorem dX5_leftOf_3 : decode cX5_leftOf 3 = .ok (.istore_n 3, 1) := by decide +kernel
theorem dX5_leftOf_4 : decode cX5_leftOf 4 = .ok (.iload_n 3, 1) := by decide +kernel
theorem dX5_leftOf_5 : decode cX5_leftOf 5 = .ok (.aload_n 0, 1) := by decide +kernel
theorem dX5_leftOf_6 : decode cX5_leftOf 6 = .ok (.getfield 42, 3) := by decide +kernel
theorem dX5_leftOf_9 : decode cX5_leftOf 9 = .ok (.if_icmp .ge 25, 3) := by decide +kernel
theorem dX5_leftOf_12 : decode cX5_leftOf 12 = .ok (.iload_n 2, 1) := by decide +kernel
theorem dX5_leftOf_13 : decode cX5_leftOf 13 = .ok (.aload_n 0, 1) := by decide +kernel
theorem dX5_leftOf_14 : decode cX5_leftOf 14 = .ok (.getfield 25, 3) := by decide +kernel
theorem dX5_leftOf_17 : decode cX5_leftOf 17 = .ok (.iload_n 3, 1) := by decide +kernel
theorem dX5_leftOf_18 : decode cX5_leftOf 18 = .ok (.aaload, 1) := by decide +kernel
theorem dX5_leftOf_19 : decode cX5_leftOf 19 = .ok (.getfield 90, 3) := by decide +kernel
theorem dX5_leftOf_22 : decode cX5_leftOf 22 = .ok (.iload_n 1, 1) := by decide +kernel
theorem dX5_leftOf_23 : decode cX5_leftOf 23 = .ok (.invokevirtual 129, 3) := by decide +kernel
theorem dX5_leftOf_26 : decode cX5_leftOf 26 = .ok (.iadd, 1) := by decide +kernel
theorem dX5_leftOf_27 : decode cX5_leftOf 27 = .ok (.istore_n 2, 1) := by decide +kernel
theorem dX5_leftOf_28 : decode cX5_leftOf 28 = .ok (.iinc 3 1, 3) := by decide +kernel
theorem dX5_leftOf_31 : decode cX5_leftOf 31 = .ok (.goto (-27), 3) := by decide +kernel
theorem dX5_leftOf_34 : decode cX5_leftOf 34 = .ok (.iload_n 2, 1) := by decide +kernel
theorem dX5_leftOf_35 : decode cX5_leftOf 35 = .ok (.ireturn, 1) := by decide +kernel
theorem dX5_bandIce_0 : decode cX5_bandIce 0 = .ok (.iconst 0, 1) := by decide +kernel
theorem dX5_bandIce_1 : decode cX5_bandIce 1 = .ok (.istore_n 1, 1) := by decide +kernel
theorem dX5_bandIce_2 : decode cX5_bandIce 2 = .ok (.iconst 0, 1) := by decide +kernel
theorem dX5_bandIce_3 : decode cX5_bandIce 3 = .ok (.istore_n 2, 1) := by decide +kernel
theorem dX5_bandIce_4 : decode cX5_bandIce 4 = .ok (.iload_n 2, 1) := by decide +kernel
theorem dX5_bandIce_5 : decode cX5_bandIce 5 = .ok (.aload_n 0, 1) := by decide +kernel
theorem dX5_bandIce_6 : decode cX5_bandIce 6 = .ok (.getfield 42, 3) := by decide +kernel
theorem dX5_bandIce_9 : decode cX5_bandIce 9 = .ok (.if_icmp .ge 24, 3) := by decide +kernel
theorem dX5_bandIce_12 : decode cX5_bandIce 12 = .ok (.iload_n 1, 1) := by decide +kernel
theorem dX5_bandIce_13 : decode cX5_bandIce 13 = .ok (.aload_n 0, 1) := by decide +kernel
theorem dX5_bandIce_14 : decode cX5_bandIce 14 = .ok (.getfield 25, 3) := by decide +kernel
theorem dX5_bandIce_17 : decode cX5_bandIce 17 = .ok (.iload_n 2, 1) := by decide +kernel
theorem dX5_bandIce_18 : decode cX5_bandIce 18 = .ok (.aaload, 1) := by decide +kernel
theorem dX5_bandIce_19 : decode cX5_bandIce 19 = .ok (.getfield 90, 3) := by decide +kernel
theorem dX5_bandIce_22 : decode cX5_bandIce 22 = .ok (.getfield 132, 3) := by decide +kernel
theorem dX5_bandIce_25 : decode cX5_bandIce 25 = .ok (.iadd, 1) := by decide +kernel
theorem dX5_bandIce_26 : decode cX5_bandIce 26 = .ok (.istore_n 1, 1) := by decide +kernel
theorem dX5_bandIce_27 : decode cX5_bandIce 27 = .ok (.iinc 2 1, 3) := by decide +kernel
theorem dX5_bandIce_30 : decode cX5_bandIce 30 = .ok (.goto (-26), 3) := by decide +kernel
theorem dX5_bandIce_33 : decode cX5_bandIce 33 = .ok (.iload_n 1, 1) := by decide +kernel
theorem dX5_bandIce_34 : decode cX5_bandIce 34 = .ok (.ireturn, 1) := by decide +kernel
theorem dX5_allIce_0 : decode cX5_allIce 0 = .ok (.aload_n 0, 1) := by decide +kernel
theorem dX5_allIce_1 : decode cX5_allIce 1 = .ok (.invokevirtual 135, 3) := by decide +kernel
theorem dX5_allIce_4 : decode cX5_allIce 4 = .ok (.i2l, 1) := by decide +kernel
theorem dX5_allIce_5 : decode cX5_allIce 5 = .ok (.aload_n 0, 1) := by decide +kernel
theorem dX5_allIce_6 : decode cX5_allIce 6 = .ok (.getfield 38, 3) := by decide +kernel
theorem dX5_allIce_9 : decode cX5_allIce 9 = .ok (.getfield 139, 3) := by decide +kernel
theorem dX5_allIce_12 : decode cX5_allIce 12 = .ok (.i2l, 1) := by decide +kernel
theorem dX5_allIce_13 : decode cX5_allIce 13 = .ok (.ladd, 1) := by decide +kernel
theorem dX5_allIce_14 : decode cX5_allIce 14 = .ok (.lreturn, 1) := by decide +kernel
theorem dX5_allIceByYears_0 : decode cX5_allIceByYears 0 = .ok (.aload_n 0, 1) := by decide +kernel
theorem dX5_allIceByYears_1 : decode cX5_allIceByYears 1 = .ok (.getfield 38, 3) := by decide +kernel
theorem dX5_allIceByYears_4 : decode cX5_allIceByYears 4 = .ok (.getfield 139, 3) := by decide +kernel
theorem dX5_allIceByYears_7 : decode cX5_allIceByYears 7 = .ok (.i2l, 1) := by decide +kernel
theorem dX5_allIceByYears_8 : decode cX5_allIceByYears 8 = .ok (.lstore_n 1, 1) := by decide +kernel
theorem dX5_allIceByYears_9 : decode cX5_allIceByYears 9 = .ok (.iconst 0, 1) := by decide +kernel
theorem dX5_allIceByYears_10 : decode cX5_allIceByYears 10 = .ok (.istore_n 3, 1) := by decide +kernel
theorem dX5_allIceByYears_11 : decode cX5_allIceByYears 11 = .ok (.iload_n 3, 1) := by decide +kernel
theorem dX5_allIceByYears_12 : decode cX5_allIceByYears 12 = .ok (.aload_n 0, 1) := by decide +kernel
theorem dX5_allIceByYears_13 : decode cX5_allIceByYears 13 = .ok (.getfield 49, 3) := by decide +kernel
theorem dX5_allIceByYears_16 : decode cX5_allIceByYears 16 = .ok (.if_icmp .gt 18, 3) := by decide +kernel
theorem dX5_allIceByYears_19 : decode cX5_allIceByYears 19 = .ok (.lload_n 1, 1) := by decide +kernel
theorem dX5_allIceByYears_20 : decode cX5_allIceByYears 20 = .ok (.aload_n 0, 1) := by decide +kernel
theorem dX5_allIceByYears_21 : decode cX5_allIceByYears 21 = .ok (.iload_n 3, 1) := by decide +kernel
theorem dX5_allIceByYears_22 : decode cX5_allIceByYears 22 = .ok (.invokevirtual 140, 3) := by decide +kernel
theorem dX5_allIceByYears_25 : decode cX5_allIceByYears 25 = .ok (.i2l, 1) := by decide +kernel
theorem dX5_allIceByYears_26 : decode cX5_allIceByYears 26 = .ok (.ladd, 1) := by decide +kernel
theorem dX5_allIceByYears_27 : decode cX5_allIceByYears 27 = .ok (.lstore_n 1, 1) := by decide +kernel
theorem dX5_allIceByYears_28 : decode cX5_allIceByYears 28 = .ok (.iinc 3 1, 3) := by decide +kernel
theorem dX5_allIceByYears_31 : decode cX5_allIceByYears 31 = .ok (.goto (-20), 3) := by decide +kernel
theorem dX5_allIceByYears_34 : decode cX5_allIceByYears 34 = .ok (.lload_n 1, 1) := by decide +kernel
theorem dX5_allIceByYears_35 : decode cX5_allIceByYears 35 = .ok (.lreturn, 1) := by decide +kernel
theorem dX5_layersOfAllBands_0 : decode cX5_layersOfAllBands 0 = .ok (.iconst 0, 1) := by decide +kernel
theorem dX5_layersOfAllBands_1 : decode cX5_layersOfAllBands 1 = .ok (.istore_n 1, 1) := by decide +kernel
theorem dX5_layersOfAllBands_2 : decode cX5_layersOfAllBands 2 = .ok (.iconst 0, 1) := by decide +kernel
theorem dX5_layersOfAllBands_3 : decode cX5_layersOfAllBands 3 = .ok (.istore_n 2, 1) := by decide +kernel
theorem dX5_layersOfAllBands_4 : decode cX5_layersOfAllBands 4 = .ok (.iload_n 2, 1) := by decide +kernel
theorem dX5_layersOfAllBands_5 : decode cX5_layersOfAllBands 5 = .ok (.aload_n 0, 1) := by decide +kernel
theorem dX5_layersOfAllBands_6 : decode cX5_layersOfAllBands 6 = .ok (.getfield 42, 3) := by decide +kernel
theorem dX5_layersOfAllBands_9 : decode cX5_layersOfAllBands 9 = .ok (.if_icmp .ge 24, 3) := by decide +kernel
theorem dX5_layersOfAllBands_12 : decode cX5_layersOfAllBands 12 = .ok (.iload_n 1, 1) := by decide +kernel
theorem dX5_layersOfAllBands_13 : decode cX5_layersOfAllBands 13 = .ok (.aload_n 0, 1) := by decide +kernel
theorem dX5_layersOfAllBands_14 : decode cX5_layersOfAllBands 14 = .ok (.getfield 25, 3) := by decide +kernel
theorem dX5_layersOfAllBands_17 : decode cX5_layersOfAllBands 17 = .ok (.iload_n 2, 1) := by decide +kernel
theorem dX5_layersOfAllBands_18 : decode cX5_layersOfAllBands 18 = .ok (.aaload, 1) := by decide +kernel
theorem dX5_layersOfAllBands_19 : decode cX5_layersOfAllBands 19 = .ok (.getfield 90, 3) := by decide +kernel
theorem dX5_layersOfAllBands_22 : decode cX5_layersOfAllBands 22 = .ok (.invokevirtual 141, 3) := by decide +kernel
theorem dX5_layersOfAllBands_25 : decode cX5_layersOfAllBands 25 = .ok (.iadd, 1) := by decide +kernel
theorem dX5_layersOfAllBands_26 : decode cX5_layersOfAllBands 26 = .ok (.istore_n 1, 1) := by decide +kernel
theorem dX5_layersOfAllBands_27 : decode cX5_layersOfAllBands 27 = .ok (.iinc 2 1, 3) := by decide +kernel
theorem dX5_layersOfAllBands_30 : decode cX5_layersOfAllBands 30 = .ok (.goto (-26), 3) := by decide +kernel
theorem dX5_layersOfAllBands_33 : decode cX5_layersOfAllBands 33 = .ok (.iload_n 1, 1) := by decide +kernel
theorem dX5_layersOfAllBands_34 : decode cX5_layersOfAllBands 34 = .ok (.ireturn, 1) := by decide +kernel
theorem dX5_differentYears_0 : decode cX5_differentYears 0 = .ok (.iconst 0, 1) := by decide +kernel
theorem dX5_differentYears_1 : decode cX5_differentYears 1 = .ok (.istore_n 1, 1) := by decide +kernel
theorem dX5_differentYears_2 : decode cX5_differentYears 2 = .ok (.iconst 0, 1) := by decide +kernel
theorem dX5_differentYears_3 : decode cX5_differentYears 3 = .ok (.istore_n 2, 1) := by decide +kernel
theorem dX5_differentYears_4 : decode cX5_differentYears 4 = .ok (.iload_n 2, 1) := by decide +kernel
theorem dX5_differentYears_5 : decode cX5_differentYears 5 = .ok (.aload_n 0, 1) := by decide +kernel
theorem dX5_differentYears_6 : decode cX5_differentYears 6 = .ok (.getfield 49, 3) := by decide +kernel
theorem dX5_differentYears_9 : decode cX5_differentYears 9 = .ok (.if_icmp .gt 20, 3) := by decide +kernel
theorem dX5_differentYears_12 : decode cX5_differentYears 12 = .ok (.aload_n 0, 1) := by decide +kernel
theorem dX5_differentYears_13 : decode cX5_differentYears 13 = .ok (.iload_n 2, 1) := by decide +kernel
theorem dX5_differentYears_14 : decode cX5_differentYears 14 = .ok (.invokevirtual 140, 3) := by decide +kernel
theorem dX5_differentYears_17 : decode cX5_differentYears 17 = .ok (.ifCond .le 6, 3) := by decide +kernel
theorem dX5_differentYears_20 : decode cX5_differentYears 20 = .ok (.iinc 1 1, 3) := by decide +kernel
theorem dX5_differentYears_23 : decode cX5_differentYears 23 = .ok (.iinc 2 1, 3) := by decide +kernel
theorem dX5_differentYears_26 : decode cX5_differentYears 26 = .ok (.goto (-22), 3) := by decide +kernel
theorem dX5_differentYears_29 : decode cX5_differentYears 29 = .ok (.iload_n 1, 1) := by decide +kernel
theorem dX5_differentYears_30 : decode cX5_differentYears 30 = .ok (.ireturn, 1) := by decide +kernel
theorem dX5_oldestYear_0 : decode cX5_oldestYear 0 = .ok (.sipush 801, 3) := by decide +kernel
theorem dX5_oldestYear_3 : decode cX5_oldestYear 3 = .ok (.istore_n 1, 1) := by decide +kernel
theorem dX5_oldestYear_4 : decode cX5_oldestYear 4 = .ok (.iconst 0, 1) := by decide +kernel
theorem dX5_oldestYear_5 : decode cX5_oldestYear 5 = .ok (.istore_n 2, 1) := by decide +kernel
theorem dX5_oldestYear_6 : decode cX5_oldestYear 6 = .ok (.iload_n 2, 1) := by decide +kernel
theorem dX5_oldestYear_7 : decode cX5_oldestYear 7 = .ok (.aload_n 0, 1) := by decide +kernel
theorem dX5_oldestYear_8 : decode cX5_oldestYear 8 = .ok (.getfield 42, 3) := by decide +kernel
theorem dX5_oldestYear_11 : decode cX5_oldestYear 11 = .ok (.if_icmp .ge 26, 3) := by decide +kernel
theorem dX5_oldestYear_14 : decode cX5_oldestYear 14 = .ok (.iload_n 1, 1) := by decide +kernel
theorem dX5_oldestYear_15 : decode cX5_oldestYear 15 = .ok (.aload_n 0, 1) := by decide +kernel
theorem dX5_oldestYear_16 : decode cX5_oldestYear 16 = .ok (.getfield 25, 3) := by decide +kernel
theorem dX5_oldestYear_19 : decode cX5_oldestYear 19 = .ok (.iload_n 2, 1) := by decide +kernel
theorem dX5_oldestYear_20 : decode cX5_oldestYear 20 = .ok (.aaload, 1) := by decide +kernel
theorem dX5_oldestYear_21 : decode cX5_oldestYear 21 = .ok (.getfield 90, 3) := by decide +kernel
theorem dX5_oldestYear_24 : decode cX5_oldestYear 24 = .ok (.getfield 144, 3) := by decide +kernel
theorem dX5_oldestYear_27 : decode cX5_oldestYear 27 = .ok (.invokestatic 147, 3) := by decide +kernel
theorem dX5_oldestYear_30 : decode cX5_oldestYear 30 = .ok (.istore_n 1, 1) := by decide +kernel
theorem dX5_oldestYear_31 : decode cX5_oldestYear 31 = .ok (.iinc 2 1, 3) := by decide +kernel
theorem dX5_oldestYear_34 : decode cX5_oldestYear 34 = .ok (.goto (-28), 3) := by decide +kernel
theorem dX5_oldestYear_37 : decode cX5_oldestYear 37 = .ok (.iload_n 1, 1) := by decide +kernel
theorem dX5_oldestYear_38 : decode cX5_oldestYear 38 = .ok (.ireturn, 1) := by decide +kernel
theorem dX5_letYearsGoBy_0 : decode cX5_letYearsGoBy 0 = .ok (.iconst 0, 1) := by decide +kernel
theorem dX5_letYearsGoBy_1 : decode cX5_letYearsGoBy 1 = .ok (.istore_n 2, 1) := by decide +kernel
theorem dX5_letYearsGoBy_2 : decode cX5_letYearsGoBy 2 = .ok (.iload_n 2, 1) := by decide +kernel
theorem dX5_letYearsGoBy_3 : decode cX5_letYearsGoBy 3 = .ok (.iload_n 1, 1) := by decide +kernel
theorem dX5_letYearsGoBy_4 : decode cX5_letYearsGoBy 4 = .ok (.if_icmp .ge 13, 3) := by decide +kernel
theorem dX5_letYearsGoBy_7 : decode cX5_letYearsGoBy 7 = .ok (.aload_n 0, 1) := by decide +kernel
theorem dX5_letYearsGoBy_8 : decode cX5_letYearsGoBy 8 = .ok (.invokevirtual 150, 3) := by decide +kernel
theorem dX5_letYearsGoBy_11 : decode cX5_letYearsGoBy 11 = .ok (.iinc 2 1, 3) := by decide +kernel
theorem dX5_letYearsGoBy_14 : decode cX5_letYearsGoBy 14 = .ok (.goto (-12), 3) := by decide +kernel
theorem dX5_letYearsGoBy_17 : decode cX5_letYearsGoBy 17 = .ok (.return_, 1) := by decide +kernel
theorem dX5_letYearGoBy_0 : decode cX5_letYearGoBy 0 = .ok (.aload_n 0, 1) := by decide +kernel
theorem dX5_letYearGoBy_1 : decode cX5_letYearGoBy 1 = .ok (.dup, 1) := by decide +kernel
theorem dX5_letYearGoBy_2 : decode cX5_letYearGoBy 2 = .ok (.getfield 49, 3) := by decide +kernel
theorem dX5_letYearGoBy_5 : decode cX5_letYearGoBy 5 = .ok (.iconst 1, 1) := by decide +kernel
theorem dX5_letYearGoBy_6 : decode cX5_letYearGoBy 6 = .ok (.iadd, 1) := by decide +kernel
theorem dX5_letYearGoBy_7 : decode cX5_letYearGoBy 7 = .ok (.putfield 49, 3) := by decide +kernel
theorem dX5_letYearGoBy_10 : decode cX5_letYearGoBy 10 = .ok (.iconst 0, 1) := by decide +kernel
theorem dX5_letYearGoBy_11 : decode cX5_letYearGoBy 11 = .ok (.istore_n 1, 1) := by decide +kernel
theorem dX5_letYearGoBy_12 : decode cX5_letYearGoBy 12 = .ok (.iload_n 1, 1) := by decide +kernel
theorem dX5_letYearGoBy_13 : decode cX5_letYearGoBy 13 = .ok (.aload_n 0, 1) := by decide +kernel
theorem dX5_letYearGoBy_14 : decode cX5_letYearGoBy 14 = .ok (.getfield 42, 3) := by decide +kernel
theorem dX5_letYearGoBy_17 : decode cX5_letYearGoBy 17 = .ok (.if_icmp .ge 19, 3) := by decide +kernel
theorem dX5_letYearGoBy_20 : decode cX5_letYearGoBy 20 = .ok (.aload_n 0, 1) := by decide +kernel
theorem dX5_letYearGoBy_21 : decode cX5_letYearGoBy 21 = .ok (.aload_n 0, 1) := by decide +kernel
theorem dX5_letYearGoBy_22 : decode cX5_letYearGoBy 22 = .ok (.getfield 25, 3) := by decide +kernel
theorem dX5_letYearGoBy_25 : decode cX5_letYearGoBy 25 = .ok (.iload_n 1, 1) := by decide +kernel
theorem dX5_letYearGoBy_26 : decode cX5_letYearGoBy 26 = .ok (.aaload, 1) := by decide +kernel
theorem dX5_letYearGoBy_27 : decode cX5_letYearGoBy 27 = .ok (.invokevirtual 153, 3) := by decide +kernel
theorem dX5_letYearGoBy_30 : decode cX5_letYearGoBy 30 = .ok (.iinc 1 1, 3) := by decide +kernel
theorem dX5_letYearGoBy_33 : decode cX5_letYearGoBy 33 = .ok (.goto (-21), 3) := by decide +kernel
theorem dX5_letYearGoBy_36 : decode cX5_letYearGoBy 36 = .ok (.aload_n 0, 1) := by decide +kernel
theorem dX5_letYearGoBy_37 : decode cX5_letYearGoBy 37 = .ok (.invokevirtual 156, 3) := by decide +kernel
theorem dX5_letYearGoBy_40 : decode cX5_letYearGoBy 40 = .ok (.aload_n 0, 1) := by decide +kernel
theorem dX5_letYearGoBy_41 : decode cX5_letYearGoBy 41 = .ok (.dup, 1) := by decide +kernel
theorem dX5_letYearGoBy_42 : decode cX5_letYearGoBy 42 = .ok (.getfield 62, 3) := by decide +kernel
theorem dX5_letYearGoBy_45 : decode cX5_letYearGoBy 45 = .ok (.aload_n 0, 1) := by decide +kernel
theorem dX5_letYearGoBy_46 : decode cX5_letYearGoBy 46 = .ok (.getfield 38, 3) := by decide +kernel
theorem dX5_letYearGoBy_49 : decode cX5_letYearGoBy 49 = .ok (.aload_n 0, 1) := by decide +kernel
theorem dX5_letYearGoBy_50 : decode cX5_letYearGoBy 50 = .ok (.getfield 18, 3) := by decide +kernel
theorem dX5_letYearGoBy_53 : decode cX5_letYearGoBy 53 = .ok (.iconst 5, 1) := by decide +kernel
theorem dX5_letYearGoBy_54 : decode cX5_letYearGoBy 54 = .ok (.iaload, 1) := by decide +kernel
theorem dX5_letYearGoBy_55 : decode cX5_letYearGoBy 55 = .ok (.aload_n 0, 1) := by decide +kernel
theorem dX5_letYearGoBy_56 : decode cX5_letYearGoBy 56 = .ok (.getfield 18, 3) := by decide +kernel
theorem dX5_letYearGoBy_59 : decode cX5_letYearGoBy 59 = .ok (.bipush 6, 2) := by decide +kernel
theorem dX5_letYearGoBy_61 : decode cX5_letYearGoBy 61 = .ok (.iaload, 1) := by decide +kernel
theorem dX5_letYearGoBy_62 : decode cX5_letYearGoBy 62 = .ok (.aload_n 0, 1) := by decide +kernel
theorem dX5_letYearGoBy_63 : decode cX5_letYearGoBy 63 = .ok (.getfield 49, 3) := by decide +kernel
theorem dX5_letYearGoBy_66 : decode cX5_letYearGoBy 66 = .ok (.invokevirtual 159, 3) := by decide +kernel
theorem dX5_letYearGoBy_69 : decode cX5_letYearGoBy 69 = .ok (.i2l, 1) := by decide +kernel
theorem dX5_letYearGoBy_70 : decode cX5_letYearGoBy 70 = .ok (.ladd, 1) := by decide +kernel
theorem dX5_letYearGoBy_71 : decode cX5_letYearGoBy 71 = .ok (.putfield 62, 3) := by decide +kernel
theorem dX5_letYearGoBy_74 : decode cX5_letYearGoBy 74 = .ok (.iconst 0, 1) := by decide +kernel
theorem dX5_letYearGoBy_75 : decode cX5_letYearGoBy 75 = .ok (.istore_n 1, 1) := by decide +kernel
theorem dX5_letYearGoBy_76 : decode cX5_letYearGoBy 76 = .ok (.iload_n 1, 1) := by decide +kernel
theorem dX5_letYearGoBy_77 : decode cX5_letYearGoBy 77 = .ok (.aload_n 0, 1) := by decide +kernel
theorem dX5_letYearGoBy_78 : decode cX5_letYearGoBy 78 = .ok (.getfield 46, 3) := by decide +kernel
theorem dX5_letYearGoBy_81 : decode cX5_letYearGoBy 81 = .ok (.if_icmp .ge 31, 3) := by decide +kernel
theorem dX5_letYearGoBy_84 : decode cX5_letYearGoBy 84 = .ok (.aload_n 0, 1) := by decide +kernel
theorem dX5_letYearGoBy_85 : decode cX5_letYearGoBy 85 = .ok (.getfield 31, 3) := by decide +kernel
theorem dX5_letYearGoBy_88 : decode cX5_letYearGoBy 88 = .ok (.iload_n 1, 1) := by decide +kernel
theorem dX5_letYearGoBy_89 : decode cX5_letYearGoBy 89 = .ok (.aaload, 1) := by decide +kernel
theorem dX5_letYearGoBy_90 : decode cX5_letYearGoBy 90 = .ok (.getfield 100, 3) := by decide +kernel
theorem dX5_letYearGoBy_93 : decode cX5_letYearGoBy 93 = .ok (.ifCond .ne 13, 3) := by decide +kernel
theorem dX5_letYearGoBy_96 : decode cX5_letYearGoBy 96 = .ok (.aload_n 0, 1) := by decide +kernel
theorem dX5_letYearGoBy_97 : decode cX5_letYearGoBy 97 = .ok (.aload_n 0, 1) := by decide +kernel
theorem dX5_letYearGoBy_98 : decode cX5_letYearGoBy 98 = .ok (.getfield 31, 3) := by decide +kernel
theorem dX5_letYearGoBy_101 : decode cX5_letYearGoBy 101 = .ok (.iload_n 1, 1) := by decide +kernel
theorem dX5_letYearGoBy_102 : decode cX5_letYearGoBy 102 = .ok (.aaload, 1) := by decide +kernel
theorem dX5_letYearGoBy_103 : decode cX5_letYearGoBy 103 = .ok (.invokevirtual 163, 3) := by decide +kernel
theorem dX5_letYearGoBy_106 : decode cX5_letYearGoBy 106 = .ok (.iinc 1 1, 3) := by decide +kernel
theorem dX5_letYearGoBy_109 : decode cX5_letYearGoBy 109 = .ok (.goto (-33), 3) := by decide +kernel
theorem dX5_letYearGoBy_112 : decode cX5_letYearGoBy 112 = .ok (.return_, 1) := by decide +kernel
theorem dX5_snowAndMelt_0 : decode cX5_snowAndMelt 0 = .ok (.aload_n 0, 1) := by decide +kernel
theorem dX5_snowAndMelt_1 : decode cX5_snowAndMelt 1 = .ok (.aload_n 1, 1) := by decide +kernel
theorem dX5_snowAndMelt_2 : decode cX5_snowAndMelt 2 = .ok (.getfield 83, 3) := by decide +kernel
theorem dX5_snowAndMelt_5 : decode cX5_snowAndMelt 5 = .ok (.invokevirtual 122, 3) := by decide +kernel
theorem dX5_snowAndMelt_8 : decode cX5_snowAndMelt 8 = .ok (.istore_n 2, 1) := by decide +kernel
theorem dX5_snowAndMelt_9 : decode cX5_snowAndMelt 9 = .ok (.aload_n 1, 1) := by decide +kernel
theorem dX5_snowAndMelt_10 : decode cX5_snowAndMelt 10 = .ok (.getfield 90, 3) := by decide +kernel
theorem dX5_snowAndMelt_13 : decode cX5_snowAndMelt 13 = .ok (.aload_n 0, 1) := by decide +kernel
theorem dX5_snowAndMelt_14 : decode cX5_snowAndMelt 14 = .ok (.getfield 49, 3) := by decide +kernel
theorem dX5_snowAndMelt_17 : decode cX5_snowAndMelt 17 = .ok (.iload_n 2, 1) := by decide +kernel
theorem dX5_snowAndMelt_18 : decode cX5_snowAndMelt 18 = .ok (.invokevirtual 94, 3) := by decide +kernel
theorem dX5_snowAndMelt_21 : decode cX5_snowAndMelt 21 = .ok (.aload_n 0, 1) := by decide +kernel
theorem dX5_snowAndMelt_22 : decode cX5_snowAndMelt 22 = .ok (.dup, 1) := by decide +kernel
theorem dX5_snowAndMelt_23 : decode cX5_snowAndMelt 23 = .ok (.getfield 56, 3) := by decide +kernel
theorem dX5_snowAndMelt_26 : decode cX5_snowAndMelt 26 = .ok (.iload_n 2, 1) := by decide +kernel
theorem dX5_snowAndMelt_27 : decode cX5_snowAndMelt 27 = .ok (.i2l, 1) := by decide +kernel
theorem dX5_snowAndMelt_28 : decode cX5_snowAndMelt 28 = .ok (.ladd, 1) := by decide +kernel
theorem dX5_snowAndMelt_29 : decode cX5_snowAndMelt 29 = .ok (.putfield 56, 3) := by decide +kernel
theorem dX5_snowAndMelt_32 : decode cX5_snowAndMelt 32 = .ok (.aload_n 1, 1) := by decide +kernel
theorem dX5_snowAndMelt_33 : decode cX5_snowAndMelt 33 = .ok (.aload_n 1, 1) := by decide +kernel
theorem dX5_snowAndMelt_34 : decode cX5_snowAndMelt 34 = .ok (.getfield 90, 3) := by decide +kernel
theorem dX5_snowAndMelt_37 : decode cX5_snowAndMelt 37 = .ok (.aload_n 0, 1) := by decide +kernel
theorem dX5_snowAndMelt_38 : decode cX5_snowAndMelt 38 = .ok (.aload_n 1, 1) := by decide +kernel
theorem dX5_snowAndMelt_39 : decode cX5_snowAndMelt 39 = .ok (.getfield 83, 3) := by decide +kernel
theorem dX5_snowAndMelt_42 : decode cX5_snowAndMelt 42 = .ok (.aload_n 0, 1) := by decide +kernel
theorem dX5_snowAndMelt_43 : decode cX5_snowAndMelt 43 = .ok (.getfield 18, 3) := by decide +kernel
theorem dX5_snowAndMelt_46 : decode cX5_snowAndMelt 46 = .ok (.iconst 2, 1) := by decide +kernel
theorem dX5_snowAndMelt_47 : decode cX5_snowAndMelt 47 = .ok (.iaload, 1) := by decide +kernel
theorem dX5_snowAndMelt_48 : decode cX5_snowAndMelt 48 = .ok (.invokevirtual 126, 3) := by decide +kernel
theorem dX5_snowAndMelt_51 : decode cX5_snowAndMelt 51 = .ok (.invokevirtual 166, 3) := by decide +kernel
theorem dX5_snowAndMelt_54 : decode cX5_snowAndMelt 54 = .ok (.putfield 169, 3) := by decide +kernel
theorem dX5_snowAndMelt_57 : decode cX5_snowAndMelt 57 = .ok (.aload_n 0, 1) := by decide +kernel
theorem dX5_snowAndMelt_58 : decode cX5_snowAndMelt 58 = .ok (.dup, 1) := by decide +kernel
theorem dX5_snowAndMelt_59 : decode cX5_snowAndMelt 59 = .ok (.getfield 59, 3) := by decide +kernel
theorem dX5_snowAndMelt_62 : decode cX5_snowAndMelt 62 = .ok (.aload_n 1, 1) := by decide +kernel
theorem dX5_snowAndMelt_63 : decode cX5_snowAndMelt 63 = .ok (.getfield 169, 3) := by decide +kernel
theorem dX5_snowAndMelt_66 : decode cX5_snowAndMelt 66 = .ok (.i2l, 1) := by decide +kernel
theorem dX5_snowAndMelt_67 : decode cX5_snowAndMelt 67 = .ok (.ladd, 1) := by decide +kernel
theorem dX5_snowAndMelt_68 : decode cX5_snowAndMelt 68 = .ok (.putfield 59, 3) := by decide +kernel
theorem dX5_snowAndMelt_71 : decode cX5_snowAndMelt 71 = .ok (.return_, 1) := by decide +kernel
theorem dX5_creepDown_0 : decode cX5_creepDown 0 = .ok (.aload_n 0, 1) := by decide +kernel
theorem dX5_creepDown_1 : decode cX5_creepDown 1 = .ok (.getfield 42, 3) := by decide +kernel
theorem dX5_creepDown_4 : decode cX5_creepDown 4 = .ok (.iconst 1, 1) := by decide +kernel
theorem dX5_creepDown_5 : decode cX5_creepDown 5 = .ok (.isub, 1) := by decide +kernel
theorem dX5_creepDown_6 : decode cX5_creepDown 6 = .ok (.istore_n 1, 1) := by decide +kernel
theorem dX5_creepDown_7 : decode cX5_creepDown 7 = .ok (.iload_n 1, 1) := by decide +kernel
theorem dX5_creepDown_8 : decode cX5_creepDown 8 = .ok (.ifCond .lt 102, 3) := by decide +kernel
theorem dX5_creepDown_11 : decode cX5_creepDown 11 = .ok (.aload_n 0, 1) := by decide +kernel
theorem dX5_creepDown_12 : decode cX5_creepDown 12 = .ok (.getfield 25, 3) := by decide +kernel
theorem dX5_creepDown_15 : decode cX5_creepDown 15 = .ok (.iload_n 1, 1) := by decide +kernel
theorem dX5_creepDown_16 : decode cX5_creepDown 16 = .ok (.aaload, 1) := by decide +kernel
theorem dX5_creepDown_17 : decode cX5_creepDown 17 = .ok (.astore_n 2, 1) := by decide +kernel
theorem dX5_creepDown_18 : decode cX5_creepDown 18 = .ok (.aload_n 2, 1) := by decide +kernel
theorem dX5_creepDown_19 : decode cX5_creepDown 19 = .ok (.aload_n 2, 1) := by decide +kernel
theorem dX5_creepDown_20 : decode cX5_creepDown 20 = .ok (.invokevirtual 171, 3) := by decide +kernel
theorem dX5_creepDown_23 : decode cX5_creepDown 23 = .ok (.putfield 174, 3) := by decide +kernel
theorem dX5_creepDown_26 : decode cX5_creepDown 26 = .ok (.iload_n 1, 1) := by decide +kernel
theorem dX5_creepDown_27 : decode cX5_creepDown 27 = .ok (.iconst 1, 1) := by decide +kernel
theorem dX5_creepDown_28 : decode cX5_creepDown 28 = .ok (.iadd, 1) := by decide +kernel
theorem dX5_creepDown_29 : decode cX5_creepDown 29 = .ok (.aload_n 0, 1) := by decide +kernel
theorem dX5_creepDown_30 : decode cX5_creepDown 30 = .ok (.getfield 42, 3) := by decide +kernel
theorem dX5_creepDown_33 : decode cX5_creepDown 33 = .ok (.if_icmp .ge 43, 3) := by decide +kernel
theorem dX5_creepDown_36 : decode cX5_creepDown 36 = .ok (.aload_n 2, 1) := by decide +kernel
theorem dX5_creepDown_37 : decode cX5_creepDown 37 = .ok (.getfield 90, 3) := by decide +kernel
theorem dX5_creepDown_40 : decode cX5_creepDown 40 = .ok (.aload_n 2, 1) := by decide +kernel
theorem dX5_creepDown_41 : decode cX5_creepDown 41 = .ok (.getfield 174, 3) := by decide +kernel
theorem dX5_creepDown_44 : decode cX5_creepDown 44 = .ok (.aload_n 0, 1) := by decide +kernel
theorem dX5_creepDown_45 : decode cX5_creepDown 45 = .ok (.getfield 25, 3) := by decide +kernel
theorem dX5_creepDown_48 : decode cX5_creepDown 48 = .ok (.iload_n 1, 1) := by decide +kernel
theorem dX5_creepDown_49 : decode cX5_creepDown 49 = .ok (.iconst 1, 1) := by decide +kernel
theorem dX5_creepDown_50 : decode cX5_creepDown 50 = .ok (.iadd, 1) := by decide +kernel
theorem dX5_creepDown_51 : decode cX5_creepDown 51 = .ok (.aaload, 1) := by decide +kernel
theorem dX5_creepDown_52 : decode cX5_creepDown 52 = .ok (.getfield 90, 3) := by decide +kernel
theorem dX5_creepDown_55 : decode cX5_creepDown 55 = .ok (.invokevirtual 177, 3) := by decide +kernel
theorem dX5_creepDown_58 : decode cX5_creepDown 58 = .ok (.aload_n 0, 1) := by decide +kernel
theorem dX5_creepDown_59 : decode cX5_creepDown 59 = .ok (.getfield 25, 3) := by decide +kernel
theorem dX5_creepDown_62 : decode cX5_creepDown 62 = .ok (.iload_n 1, 1) := by decide +kernel
theorem dX5_creepDown_63 : decode cX5_creepDown 63 = .ok (.iconst 1, 1) := by decide +kernel
theorem dX5_creepDown_64 : decode cX5_creepDown 64 = .ok (.iadd, 1) := by decide +kernel
theorem dX5_creepDown_65 : decode cX5_creepDown 65 = .ok (.aaload, 1) := by decide +kernel
theorem dX5_creepDown_66 : decode cX5_creepDown 66 = .ok (.aload_n 2, 1) := by decide +kernel
theorem dX5_creepDown_67 : decode cX5_creepDown 67 = .ok (.getfield 174, 3) := by decide +kernel
theorem dX5_creepDown_70 : decode cX5_creepDown 70 = .ok (.putfield 181, 3) := by decide +kernel
theorem dX5_creepDown_73 : decode cX5_creepDown 73 = .ok (.goto 31, 3) := by decide +kernel
theorem dX5_creepDown_76 : decode cX5_creepDown 76 = .ok (.aload_n 2, 1) := by decide +kernel
theorem dX5_creepDown_77 : decode cX5_creepDown 77 = .ok (.getfield 90, 3) := by decide +kernel
theorem dX5_creepDown_80 : decode cX5_creepDown 80 = .ok (.aload_n 2, 1) := by decide +kernel
theorem dX5_creepDown_81 : decode cX5_creepDown 81 = .ok (.getfield 174, 3) := by decide +kernel
theorem dX5_creepDown_84 : decode cX5_creepDown 84 = .ok (.aconst_null, 1) := by decide +kernel
theorem dX5_creepDown_85 : decode cX5_creepDown 85 = .ok (.invokevirtual 177, 3) := by decide +kernel
theorem dX5_creepDown_88 : decode cX5_creepDown 88 = .ok (.aload_n 0, 1) := by decide +kernel
theorem dX5_creepDown_89 : decode cX5_creepDown 89 = .ok (.getfield 38, 3) := by decide +kernel
theorem dX5_creepDown_92 : decode cX5_creepDown 92 = .ok (.dup, 1) := by decide +kernel
theorem dX5_creepDown_93 : decode cX5_creepDown 93 = .ok (.getfield 139, 3) := by decide +kernel
theorem dX5_creepDown_96 : decode cX5_creepDown 96 = .ok (.aload_n 2, 1) := by decide +kernel
theorem dX5_creepDown_97 : decode cX5_creepDown 97 = .ok (.getfield 174, 3) := by decide +kernel
theorem dX5_creepDown_100 : decode cX5_creepDown 100 = .ok (.iadd, 1) := by decide +kernel
theorem dX5_creepDown_101 : decode cX5_creepDown 101 = .ok (.putfield 139, 3) := by decide +kernel
theorem dX5_creepDown_104 : decode cX5_creepDown 104 = .ok (.iinc 1 (-1), 3) := by decide +kernel
theorem dX5_creepDown_107 : decode cX5_creepDown 107 = .ok (.goto (-100), 3) := by decide +kernel
theorem dX5_creepDown_110 : decode cX5_creepDown 110 = .ok (.return_, 1) := by decide +kernel
theorem dX5_ride_0 : decode cX5_ride 0 = .ok (.aload_n 0, 1) := by decide +kernel
theorem dX5_ride_1 : decode cX5_ride 1 = .ok (.aload_n 1, 1) := by decide +kernel
theorem dX5_ride_2 : decode cX5_ride 2 = .ok (.getfield 103, 3) := by decide +kernel
theorem dX5_ride_5 : decode cX5_ride 5 = .ok (.invokevirtual 184, 3) := by decide +kernel
theorem dX5_ride_8 : decode cX5_ride 8 = .ok (.ifCond .ne 4, 3) := by decide +kernel
theorem dX5_ride_11 : decode cX5_ride 11 = .ok (.return_, 1) := by decide +kernel
theorem dX5_ride_12 : decode cX5_ride 12 = .ok (.aload_n 0, 1) := by decide +kernel
theorem dX5_ride_13 : decode cX5_ride 13 = .ok (.getfield 25, 3) := by decide +kernel
theorem dX5_ride_16 : decode cX5_ride 16 = .ok (.aload_n 1, 1) := by decide +kernel
theorem dX5_ride_17 : decode cX5_ride 17 = .ok (.getfield 103, 3) := by decide +kernel
theorem dX5_ride_20 : decode cX5_ride 20 = .ok (.aaload, 1) := by decide +kernel
theorem dX5_ride_21 : decode cX5_ride 21 = .ok (.astore_n 2, 1) := by decide +kernel
theorem dX5_ride_22 : decode cX5_ride 22 = .ok (.aload_n 1, 1) := by decide +kernel
theorem dX5_ride_23 : decode cX5_ride 23 = .ok (.dup, 1) := by decide +kernel
theorem dX5_ride_24 : decode cX5_ride 24 = .ok (.getfield 188, 3) := by decide +kernel
theorem dX5_ride_27 : decode cX5_ride 27 = .ok (.iconst 1, 1) := by decide +kernel
theorem dX5_ride_28 : decode cX5_ride 28 = .ok (.iadd, 1) := by decide +kernel
theorem dX5_ride_29 : decode cX5_ride 29 = .ok (.putfield 188, 3) := by decide +kernel
theorem dX5_ride_32 : decode cX5_ride 32 = .ok (.aload_n 1, 1) := by decide +kernel
theorem dX5_ride_33 : decode cX5_ride 33 = .ok (.dup, 1) := by decide +kernel
theorem dX5_ride_34 : decode cX5_ride 34 = .ok (.getfield 110, 3) := by decide +kernel
theorem dX5_ride_37 : decode cX5_ride 37 = .ok (.aload_n 0, 1) := by decide +kernel
theorem dX5_ride_38 : decode cX5_ride 38 = .ok (.aload_n 2, 1) := by decide +kernel
theorem dX5_ride_39 : decode cX5_ride 39 = .ok (.getfield 83, 3) := by decide +kernel
theorem dX5_ride_42 : decode cX5_ride 42 = .ok (.invokevirtual 122, 3) := by decide +kernel
theorem dX5_ride_45 : decode cX5_ride 45 = .ok (.aload_n 2, 1) := by decide +kernel
theorem dX5_ride_46 : decode cX5_ride 46 = .ok (.getfield 169, 3) := by decide +kernel
theorem dX5_ride_49 : decode cX5_ride 49 = .ok (.isub, 1) := by decide +kernel
theorem dX5_ride_50 : decode cX5_ride 50 = .ok (.iadd, 1) := by decide +kernel
theorem dX5_ride_51 : decode cX5_ride 51 = .ok (.putfield 110, 3) := by decide +kernel
theorem dX5_ride_54 : decode cX5_ride 54 = .ok (.aload_n 1, 1) := by decide +kernel
theorem dX5_ride_55 : decode cX5_ride 55 = .ok (.getfield 110, 3) := by decide +kernel
theorem dX5_ride_58 : decode cX5_ride 58 = .ok (.aload_n 1, 1) := by decide +kernel
theorem dX5_ride_59 : decode cX5_ride 59 = .ok (.getfield 191, 3) := by decide +kernel
theorem dX5_ride_62 : decode cX5_ride 62 = .ok (.ineg, 1) := by decide +kernel
theorem dX5_ride_63 : decode cX5_ride 63 = .ok (.if_icmp .ge 11, 3) := by decide +kernel
theorem dX5_ride_66 : decode cX5_ride 66 = .ok (.aload_n 1, 1) := by decide +kernel
theorem dX5_ride_67 : decode cX5_ride 67 = .ok (.iconst 1, 1) := by decide +kernel
theorem dX5_ride_68 : decode cX5_ride 68 = .ok (.putfield 100, 3) := by decide +kernel
theorem dX5_ride_71 : decode cX5_ride 71 = .ok (.goto 17, 3) := by decide +kernel
theorem dX5_ride_74 : decode cX5_ride 74 = .ok (.aload_n 0, 1) := by decide +kernel
theorem dX5_ride_75 : decode cX5_ride 75 = .ok (.aload_n 1, 1) := by decide +kernel
theorem dX5_ride_76 : decode cX5_ride 76 = .ok (.aload_n 1, 1) := by decide +kernel
theorem dX5_ride_77 : decode cX5_ride 77 = .ok (.getfield 106, 3) := by decide +kernel
theorem dX5_ride_80 : decode cX5_ride 80 = .ok (.aload_n 2, 1) := by decide +kernel
theorem dX5_ride_81 : decode cX5_ride 81 = .ok (.invokevirtual 194, 3) := by decide +kernel
theorem dX5_ride_84 : decode cX5_ride 84 = .ok (.iadd, 1) := by decide +kernel
theorem dX5_ride_85 : decode cX5_ride 85 = .ok (.invokevirtual 197, 3) := by decide +kernel
theorem dX5_ride_88 : decode cX5_ride 88 = .ok (.return_, 1) := by decide +kernel
theorem dX5_moveDown_0 : decode cX5_moveDown 0 = .ok (.iload_n 2, 1) := by decide +kernel
theorem dX5_moveDown_1 : decode cX5_moveDown 1 = .ok (.istore_n 3, 1) := by decide +kernel
theorem dX5_moveDown_2 : decode cX5_moveDown 2 = .ok (.aload_n 1, 1) := by decide +kernel
theorem dX5_moveDown_3 : decode cX5_moveDown 3 = .ok (.getfield 103, 3) := by decide +kernel
theorem dX5_moveDown_6 : decode cX5_moveDown 6 = .ok (.istore 4, 2) := by decide +kernel
theorem dX5_moveDown_8 : decode cX5_moveDown 8 = .ok (.iload 4, 2) := by decide +kernel
theorem dX5_moveDown_10 : decode cX5_moveDown 10 = .ok (.aload_n 0, 1) := by decide +kernel
theorem dX5_moveDown_11 : decode cX5_moveDown 11 = .ok (.getfield 42, 3) := by decide +kernel
theorem dX5_moveDown_14 : decode cX5_moveDown 14 = .ok (.if_icmp .ge 48, 3) := by decide +kernel
theorem dX5_moveDown_17 : decode cX5_moveDown 17 = .ok (.iload_n 3, 1) := by decide +kernel
theorem dX5_moveDown_18 : decode cX5_moveDown 18 = .ok (.aload_n 0, 1) := by decide +kernel
theorem dX5_moveDown_19 : decode cX5_moveDown 19 = .ok (.getfield 25, 3) := by decide +kernel
theorem dX5_moveDown_22 : decode cX5_moveDown 22 = .ok (.iload 4, 2) := by decide +kernel
theorem dX5_moveDown_24 : decode cX5_moveDown 24 = .ok (.aaload, 1) := by decide +kernel
theorem dX5_moveDown_25 : decode cX5_moveDown 25 = .ok (.getfield 201, 3) := by decide +kernel
theorem dX5_moveDown_28 : decode cX5_moveDown 28 = .ok (.if_icmp .ge 15, 3) := by decide +kernel
theorem dX5_moveDown_31 : decode cX5_moveDown 31 = .ok (.aload_n 1, 1) := by decide +kernel
theorem dX5_moveDown_32 : decode cX5_moveDown 32 = .ok (.iload 4, 2) := by decide +kernel
theorem dX5_moveDown_34 : decode cX5_moveDown 34 = .ok (.putfield 103, 3) := by decide +kernel
theorem dX5_moveDown_37 : decode cX5_moveDown 37 = .ok (.aload_n 1, 1) := by decide +kernel
theorem dX5_moveDown_38 : decode cX5_moveDown 38 = .ok (.iload_n 3, 1) := by decide +kernel
theorem dX5_moveDown_39 : decode cX5_moveDown 39 = .ok (.putfield 106, 3) := by decide +kernel
theorem dX5_moveDown_42 : decode cX5_moveDown 42 = .ok (.return_, 1) := by decide +kernel
theorem dX5_moveDown_43 : decode cX5_moveDown 43 = .ok (.iload_n 3, 1) := by decide +kernel
theorem dX5_moveDown_44 : decode cX5_moveDown 44 = .ok (.aload_n 0, 1) := by decide +kernel
theorem dX5_moveDown_45 : decode cX5_moveDown 45 = .ok (.getfield 25, 3) := by decide +kernel
theorem dX5_moveDown_48 : decode cX5_moveDown 48 = .ok (.iload 4, 2) := by decide +kernel
theorem dX5_moveDown_50 : decode cX5_moveDown 50 = .ok (.aaload, 1) := by decide +kernel
theorem dX5_moveDown_51 : decode cX5_moveDown 51 = .ok (.getfield 201, 3) := by decide +kernel
theorem dX5_moveDown_54 : decode cX5_moveDown 54 = .ok (.isub, 1) := by decide +kernel
theorem dX5_moveDown_55 : decode cX5_moveDown 55 = .ok (.istore_n 3, 1) := by decide +kernel
theorem dX5_moveDown_56 : decode cX5_moveDown 56 = .ok (.iinc 4 1, 3) := by decide +kernel
theorem dX5_moveDown_59 : decode cX5_moveDown 59 = .ok (.goto (-51), 3) := by decide +kernel
theorem dX5_moveDown_62 : decode cX5_moveDown 62 = .ok (.aload_n 1, 1) := by decide +kernel
theorem dX5_moveDown_63 : decode cX5_moveDown 63 = .ok (.iconst 2, 1) := by decide +kernel
theorem dX5_moveDown_64 : decode cX5_moveDown 64 = .ok (.putfield 100, 3) := by decide +kernel
theorem dX5_moveDown_67 : decode cX5_moveDown 67 = .ok (.return_, 1) := by decide +kernel
end
section
theorem dX6_init_0 : decode cX6_init 0 = .ok (.aload_n 0, 1) := by decide +kernel
theorem dX6_init_1 : decode cX6_init 1 = .ok (.invokespecial 3, 3) := by decide +kernel
theorem dX6_init_4 : decode cX6_init 4 = .ok (.aload_n 0, 1) := by decide +kernel
theorem dX6_init_5 : decode cX6_init 5 = .ok (.new 9, 3) := by decide +kernel
theorem dX6_init_8 : decode cX6_init 8 = .ok (.dup, 1) := by decide +kernel
theorem dX6_init_9 : decode cX6_init 9 = .ok (.invokespecial 11, 3) := by decide +kernel
theorem dX6_init_12 : decode cX6_init 12 = .ok (.putfield 12, 3) := by decide +kernel
theorem dX6_init_15 : decode cX6_init 15 = .ok (.aload_n 0, 1) := by decide +kernel
theorem dX6_init_16 : decode cX6_init 16 = .ok (.iconst 4, 1) := by decide +kernel
theorem dX6_init_17 : decode cX6_init 17 = .ok (.anewarray 9, 3) := by decide +kernel
theorem dX6_init_20 : decode cX6_init 20 = .ok (.putfield 16, 3) := by decide +kernel
theorem dX6_init_23 : decode cX6_init 23 = .ok (.iconst 0, 1) := by decide +kernel
theorem dX6_init_24 : decode cX6_init 24 = .ok (.istore_n 1, 1) := by decide +kernel
theorem dX6_init_25 : decode cX6_init 25 = .ok (.iload_n 1, 1) := by decide +kernel
theorem dX6_init_26 : decode cX6_init 26 = .ok (.aload_n 0, 1) := by decide +kernel
theorem dX6_init_27 : decode cX6_init 27 = .ok (.getfield 16, 3) := by decide +kernel
theorem dX6_init_30 : decode cX6_init 30 = .ok (.arraylength, 1) := by decide +kernel
theorem dX6_init_31 : decode cX6_init 31 = .ok (.if_icmp .ge 22, 3) := by decide +kernel
theorem dX6_init_34 : decode cX6_init 34 = .ok (.aload_n 0, 1) := by decide +kernel
theorem dX6_init_35 : decode cX6_init 35 = .ok (.getfield 16, 3) := by decide +kernel
theorem dX6_init_38 : decode cX6_init 38 = .ok (.iload_n 1, 1) := by decide +kernel
theorem dX6_init_39 : decode cX6_init 39 = .ok (.new 9, 3) := by decide +kernel
theorem dX6_init_42 : decode cX6_init 42 = .ok (.dup, 1) := by decide +kernel
theorem dX6_init_43 : decode cX6_init 43 = .ok (.invokespecial 11, 3) := by decide +kernel
theorem dX6_init_46 : decode cX6_init 46 = .ok (.aastore, 1) := by decide +kernel
theorem dX6_init_47 : decode cX6_init 47 = .ok (.iinc 1 1, 3) := by decide +kernel
theorem dX6_init_50 : decode cX6_init 50 = .ok (.goto (-25), 3) := by decide +kernel
theorem dX6_init_53 : decode cX6_init 53 = .ok (.aload_n 0, 1) := by decide +kernel
theorem dX6_init_54 : decode cX6_init 54 = .ok (.new 20, 3) := by decide +kernel
theorem dX6_init_57 : decode cX6_init 57 = .ok (.dup, 1) := by decide +kernel
theorem dX6_init_58 : decode cX6_init 58 = .ok (.invokespecial 22, 3) := by decide +kernel
theorem dX6_init_61 : decode cX6_init 61 = .ok (.putfield 23, 3) := by decide +kernel
theorem dX6_init_64 : decode cX6_init 64 = .ok (.aload_n 0, 1) := by decide +kernel
theorem dX6_init_65 : decode cX6_init 65 = .ok (.new 9, 3) := by decide +kernel
theorem dX6_init_68 : decode cX6_init 68 = .ok (.dup, 1) := by decide +kernel
theorem dX6_init_69 : decode cX6_init 69 = .ok (.invokespecial 11, 3) := by decide +kernel
theorem dX6_init_72 : decode cX6_init 72 = .ok (.putfield 27, 3) := by decide +kernel
theorem dX6_init_75 : decode cX6_init 75 = .ok (.aload_n 0, 1) := by decide +kernel
theorem dX6_init_76 : decode cX6_init 76 = .ok (.iconst 0, 1) := by decide +kernel
theorem dX6_init_77 : decode cX6_init 77 = .ok (.putfield 30, 3) := by decide +kernel
theorem dX6_init_80 : decode cX6_init 80 = .ok (.return_, 1) := by decide +kernel
theorem dX6_set_0 : decode cX6_set 0 = .ok (.iload_n 1, 1) := by decide +kernel
theorem dX6_set_1 : decode cX6_set 1 = .ok (.iconst 0, 1) := by decide +kernel
theorem dX6_set_2 : decode cX6_set 2 = .ok (.bipush 6, 2) := by decide +kernel
theorem dX6_set_4 : decode cX6_set 4 = .ok (.invokestatic 34, 3) := by decide +kernel
theorem dX6_set_7 : decode cX6_set 7 = .ok (.ifCond .ne 6, 3) := by decide +kernel
theorem dX6_set_10 : decode cX6_set 10 = .ok (.ldc 38, 2) := by decide +kernel
theorem dX6_set_12 : decode cX6_set 12 = .ok (.ireturn, 1) := by decide +kernel
theorem dX6_set_13 : decode cX6_set 13 = .ok (.iload_n 2, 1) := by decide +kernel
theorem dX6_set_14 : decode cX6_set 14 = .ok (.getstatic 39, 3) := by decide +kernel
theorem dX6_set_17 : decode cX6_set 17 = .ok (.iload_n 1, 1) := by decide +kernel
theorem dX6_set_18 : decode cX6_set 18 = .ok (.iaload, 1) := by decide +kernel
theorem dX6_set_19 : decode cX6_set 19 = .ok (.getstatic 43, 3) := by decide +kernel
theorem dX6_set_22 : decode cX6_set 22 = .ok (.iload_n 1, 1) := by decide +kernel
theorem dX6_set_23 : decode cX6_set 23 = .ok (.iaload, 1) := by decide +kernel
theorem dX6_set_24 : decode cX6_set 24 = .ok (.invokestatic 34, 3) := by decide +kernel
theorem dX6_set_27 : decode cX6_set 27 = .ok (.ifCond .ne 6, 3) := by decide +kernel
theorem dX6_set_30 : decode cX6_set 30 = .ok (.ldc 38, 2) := by decide +kernel
theorem dX6_set_32 : decode cX6_set 32 = .ok (.ireturn, 1) := by decide +kernel
theorem dX6_set_33 : decode cX6_set 33 = .ok (.aload_n 0, 1) := by decide +kernel
theorem dX6_set_34 : decode cX6_set 34 = .ok (.invokevirtual 46, 3) := by decide +kernel
theorem dX6_set_37 : decode cX6_set 37 = .ok (.aload_n 0, 1) := by decide +kernel
theorem dX6_set_38 : decode cX6_set 38 = .ok (.getfield 27, 3) := by decide +kernel
theorem dX6_set_41 : decode cX6_set 41 = .ok (.getfield 49, 3) := by decide +kernel
theorem dX6_set_44 : decode cX6_set 44 = .ok (.iload_n 1, 1) := by decide +kernel
theorem dX6_set_45 : decode cX6_set 45 = .ok (.iaload, 1) := by decide +kernel
theorem dX6_set_46 : decode cX6_set 46 = .ok (.istore_n 3, 1) := by decide +kernel
theorem dX6_set_47 : decode cX6_set 47 = .ok (.aload_n 0, 1) := by decide +kernel
theorem dX6_set_48 : decode cX6_set 48 = .ok (.getfield 27, 3) := by decide +kernel
theorem dX6_set_51 : decode cX6_set 51 = .ok (.getfield 49, 3) := by decide +kernel
theorem dX6_set_54 : decode cX6_set 54 = .ok (.iload_n 1, 1) := by decide +kernel
theorem dX6_set_55 : decode cX6_set 55 = .ok (.iload_n 2, 1) := by decide +kernel
theorem dX6_set_56 : decode cX6_set 56 = .ok (.iastore, 1) := by decide +kernel
theorem dX6_set_57 : decode cX6_set 57 = .ok (.iload_n 3, 1) := by decide +kernel
theorem dX6_set_58 : decode cX6_set 58 = .ok (.ireturn, 1) := by decide +kernel
theorem dX6_band_0 : decode cX6_band 0 = .ok (.iload_n 1, 1) := by decide +kernel
theorem dX6_band_1 : decode cX6_band 1 = .ok (.iconst 0, 1) := by decide +kernel
theorem dX6_band_2 : decode cX6_band 2 = .ok (.sipush 5000, 3) := by decide +kernel
theorem dX6_band_5 : decode cX6_band 5 = .ok (.invokestatic 34, 3) := by decide +kernel
theorem dX6_band_8 : decode cX6_band 8 = .ok (.ifCond .eq 37, 3) := by decide +kernel
theorem dX6_band_11 : decode cX6_band 11 = .ok (.iload_n 2, 1) := by decide +kernel
theorem dX6_band_12 : decode cX6_band 12 = .ok (.bipush 100, 2) := by decide +kernel
theorem dX6_band_14 : decode cX6_band 14 = .ok (.sipush 5000, 3) := by decide +kernel
theorem dX6_band_17 : decode cX6_band 17 = .ok (.invokestatic 34, 3) := by decide +kernel
theorem dX6_band_20 : decode cX6_band 20 = .ok (.ifCond .eq 25, 3) := by decide +kernel
theorem dX6_band_23 : decode cX6_band 23 = .ok (.iload_n 3, 1) := by decide +kernel
theorem dX6_band_24 : decode cX6_band 24 = .ok (.iconst 0, 1) := by decide +kernel
theorem dX6_band_25 : decode cX6_band 25 = .ok (.sipush 500, 3) := by decide +kernel
theorem dX6_band_28 : decode cX6_band 28 = .ok (.invokestatic 34, 3) := by decide +kernel
theorem dX6_band_31 : decode cX6_band 31 = .ok (.ifCond .eq 14, 3) := by decide +kernel
theorem dX6_band_34 : decode cX6_band 34 = .ok (.iload 4, 2) := by decide +kernel
theorem dX6_band_36 : decode cX6_band 36 = .ok (.iconst 0, 1) := by decide +kernel
theorem dX6_band_37 : decode cX6_band 37 = .ok (.ldc 52, 2) := by decide +kernel
theorem dX6_band_39 : decode cX6_band 39 = .ok (.invokestatic 34, 3) := by decide +kernel
theorem dX6_band_42 : decode cX6_band 42 = .ok (.ifCond .ne 6, 3) := by decide +kernel
theorem dX6_band_45 : decode cX6_band 45 = .ok (.ldc 38, 2) := by decide +kernel
theorem dX6_band_47 : decode cX6_band 47 = .ok (.ireturn, 1) := by decide +kernel
theorem dX6_band_48 : decode cX6_band 48 = .ok (.aload_n 0, 1) := by decide +kernel
theorem dX6_band_49 : decode cX6_band 49 = .ok (.getfield 27, 3) := by decide +kernel
theorem dX6_band_52 : decode cX6_band 52 = .ok (.iload_n 1, 1) := by decide +kernel
theorem dX6_band_53 : decode cX6_band 53 = .ok (.invokevirtual 53, 3) := by decide +kernel
theorem dX6_band_56 : decode cX6_band 56 = .ok (.ifCond .ne 6, 3) := by decide +kernel
theorem dX6_band_59 : decode cX6_band 59 = .ok (.ldc 57, 2) := by decide +kernel
theorem dX6_band_61 : decode cX6_band 61 = .ok (.ireturn, 1) := by decide +kernel
theorem dX6_band_62 : decode cX6_band 62 = .ok (.aload_n 0, 1) := by decide +kernel
theorem dX6_band_63 : decode cX6_band 63 = .ok (.getfield 27, 3) := by decide +kernel
theorem dX6_band_66 : decode cX6_band 66 = .ok (.getfield 58, 3) := by decide +kernel
theorem dX6_band_69 : decode cX6_band 69 = .ok (.bipush 10, 2) := by decide +kernel
theorem dX6_band_71 : decode cX6_band 71 = .ok (.if_icmp .lt 6, 3) := by decide +kernel
theorem dX6_band_74 : decode cX6_band 74 = .ok (.ldc 61, 2) := by decide +kernel
theorem dX6_band_76 : decode cX6_band 76 = .ok (.ireturn, 1) := by decide +kernel
theorem dX6_band_77 : decode cX6_band 77 = .ok (.aload_n 0, 1) := by decide +kernel
theorem dX6_band_78 : decode cX6_band 78 = .ok (.invokevirtual 46, 3) := by decide +kernel
theorem dX6_band_81 : decode cX6_band 81 = .ok (.aload_n 0, 1) := by decide +kernel
theorem dX6_band_82 : decode cX6_band 82 = .ok (.getfield 27, 3) := by decide +kernel
theorem dX6_band_85 : decode cX6_band 85 = .ok (.iload_n 1, 1) := by decide +kernel
theorem dX6_band_86 : decode cX6_band 86 = .ok (.iload_n 2, 1) := by decide +kernel
theorem dX6_band_87 : decode cX6_band 87 = .ok (.iload_n 3, 1) := by decide +kernel
theorem dX6_band_88 : decode cX6_band 88 = .ok (.iload 4, 2) := by decide +kernel
theorem dX6_band_90 : decode cX6_band 90 = .ok (.invokevirtual 62, 3) := by decide +kernel
theorem dX6_band_93 : decode cX6_band 93 = .ok (.ireturn, 1) := by decide +kernel
theorem dX6_creep_0 : decode cX6_creep 0 = .ok (.aload_n 0, 1) := by decide +kernel
theorem dX6_creep_1 : decode cX6_creep 1 = .ok (.getfield 27, 3) := by decide +kernel
theorem dX6_creep_4 : decode cX6_creep 4 = .ok (.iload_n 1, 1) := by decide +kernel
theorem dX6_creep_5 : decode cX6_creep 5 = .ok (.invokevirtual 66, 3) := by decide +kernel
theorem dX6_creep_8 : decode cX6_creep 8 = .ok (.ifCond .eq 14, 3) := by decide +kernel
theorem dX6_creep_11 : decode cX6_creep 11 = .ok (.iload_n 2, 1) := by decide +kernel
theorem dX6_creep_12 : decode cX6_creep 12 = .ok (.iconst 0, 1) := by decide +kernel
theorem dX6_creep_13 : decode cX6_creep 13 = .ok (.sipush 500, 3) := by decide +kernel
theorem dX6_creep_16 : decode cX6_creep 16 = .ok (.invokestatic 34, 3) := by decide +kernel
theorem dX6_creep_19 : decode cX6_creep 19 = .ok (.ifCond .ne 6, 3) := by decide +kernel
theorem dX6_creep_22 : decode cX6_creep 22 = .ok (.ldc 38, 2) := by decide +kernel
theorem dX6_creep_24 : decode cX6_creep 24 = .ok (.ireturn, 1) := by decide +kernel
theorem dX6_creep_25 : decode cX6_creep 25 = .ok (.aload_n 0, 1) := by decide +kernel
theorem dX6_creep_26 : decode cX6_creep 26 = .ok (.invokevirtual 46, 3) := by decide +kernel
theorem dX6_creep_29 : decode cX6_creep 29 = .ok (.aload_n 0, 1) := by decide +kernel
theorem dX6_creep_30 : decode cX6_creep 30 = .ok (.getfield 27, 3) := by decide +kernel
theorem dX6_creep_33 : decode cX6_creep 33 = .ok (.getfield 69, 3) := by decide +kernel
theorem dX6_creep_36 : decode cX6_creep 36 = .ok (.iload_n 1, 1) := by decide +kernel
theorem dX6_creep_37 : decode cX6_creep 37 = .ok (.aaload, 1) := by decide +kernel
theorem dX6_creep_38 : decode cX6_creep 38 = .ok (.getfield 73, 3) := by decide +kernel
theorem dX6_creep_41 : decode cX6_creep 41 = .ok (.istore_n 3, 1) := by decide +kernel
theorem dX6_creep_42 : decode cX6_creep 42 = .ok (.aload_n 0, 1) := by decide +kernel
theorem dX6_creep_43 : decode cX6_creep 43 = .ok (.getfield 27, 3) := by decide +kernel
theorem dX6_creep_46 : decode cX6_creep 46 = .ok (.getfield 69, 3) := by decide +kernel
theorem dX6_creep_49 : decode cX6_creep 49 = .ok (.iload_n 1, 1) := by decide +kernel
theorem dX6_creep_50 : decode cX6_creep 50 = .ok (.aaload, 1) := by decide +kernel
theorem dX6_creep_51 : decode cX6_creep 51 = .ok (.iload_n 2, 1) := by decide +kernel
theorem dX6_creep_52 : decode cX6_creep 52 = .ok (.putfield 73, 3) := by decide +kernel
theorem dX6_creep_55 : decode cX6_creep 55 = .ok (.iload_n 3, 1) := by decide +kernel
theorem dX6_creep_56 : decode cX6_creep 56 = .ok (.ireturn, 1) := by decide +kernel
theorem dX6_bandInfo_0 : decode cX6_bandInfo 0 = .ok (.aload_n 0, 1) := by decide +kernel
theorem dX6_bandInfo_1 : decode cX6_bandInfo 1 = .ok (.getfield 27, 3) := by decide +kernel
theorem dX6_bandInfo_4 : decode cX6_bandInfo 4 = .ok (.iload_n 1, 1) := by decide +kernel
theorem dX6_bandInfo_5 : decode cX6_bandInfo 5 = .ok (.invokevirtual 66, 3) := by decide +kernel
theorem dX6_bandInfo_8 : decode cX6_bandInfo 8 = .ok (.ifCond .eq 13, 3) := by decide +kernel
theorem dX6_bandInfo_11 : decode cX6_bandInfo 11 = .ok (.iload_n 2, 1) := by decide +kernel
theorem dX6_bandInfo_12 : decode cX6_bandInfo 12 = .ok (.iconst 0, 1) := by decide +kernel
theorem dX6_bandInfo_13 : decode cX6_bandInfo 13 = .ok (.bipush 11, 2) := by decide +kernel
theorem dX6_bandInfo_15 : decode cX6_bandInfo 15 = .ok (.invokestatic 34, 3) := by decide +kernel
theorem dX6_bandInfo_18 : decode cX6_bandInfo 18 = .ok (.ifCond .ne 6, 3) := by decide +kernel
theorem dX6_bandInfo_21 : decode cX6_bandInfo 21 = .ok (.ldc 38, 2) := by decide +kernel
theorem dX6_bandInfo_23 : decode cX6_bandInfo 23 = .ok (.ireturn, 1) := by decide +kernel
theorem dX6_bandInfo_24 : decode cX6_bandInfo 24 = .ok (.aload_n 0, 1) := by decide +kernel
theorem dX6_bandInfo_25 : decode cX6_bandInfo 25 = .ok (.getfield 27, 3) := by decide +kernel
theorem dX6_bandInfo_28 : decode cX6_bandInfo 28 = .ok (.getfield 69, 3) := by decide +kernel
theorem dX6_bandInfo_31 : decode cX6_bandInfo 31 = .ok (.iload_n 1, 1) := by decide +kernel
theorem dX6_bandInfo_32 : decode cX6_bandInfo 32 = .ok (.aaload, 1) := by decide +kernel
theorem dX6_bandInfo_33 : decode cX6_bandInfo 33 = .ok (.astore_n 3, 1) := by decide +kernel
theorem dX6_bandInfo_34 : decode cX6_bandInfo 34 = .ok (.iload_n 2, 1) := by decide +kernel
theorem dX6_bandInfo_35 : decode cX6_bandInfo 35 = .ok (.tableswitch 177 0 10 #[57, 62, 67, 72, 80, 88, 111, 134, 146, 167, 172], 57) := by decide +kernel
theorem dX6_bandInfo_92 : decode cX6_bandInfo 92 = .ok (.aload_n 3, 1) := by decide +kernel
theorem dX6_bandInfo_93 : decode cX6_bandInfo 93 = .ok (.getfield 78, 3) := by decide +kernel
theorem dX6_bandInfo_96 : decode cX6_bandInfo 96 = .ok (.ireturn, 1) := by decide +kernel
theorem dX6_bandInfo_97 : decode cX6_bandInfo 97 = .ok (.aload_n 3, 1) := by decide +kernel
theorem dX6_bandInfo_98 : decode cX6_bandInfo 98 = .ok (.getfield 81, 3) := by decide +kernel
theorem dX6_bandInfo_101 : decode cX6_bandInfo 101 = .ok (.ireturn, 1) := by decide +kernel
theorem dX6_bandInfo_102 : decode cX6_bandInfo 102 = .ok (.aload_n 3, 1) := by decide +kernel
theorem dX6_bandInfo_103 : decode cX6_bandInfo 103 = .ok (.getfield 73, 3) := by decide +kernel
theorem dX6_bandInfo_106 : decode cX6_bandInfo 106 = .ok (.ireturn, 1) := by decide +kernel
theorem dX6_bandInfo_107 : decode cX6_bandInfo 107 = .ok (.aload_n 3, 1) := by decide +kernel
theorem dX6_bandInfo_108 : decode cX6_bandInfo 108 = .ok (.getfield 84, 3) := by decide +kernel
theorem dX6_bandInfo_111 : decode cX6_bandInfo 111 = .ok (.getfield 88, 3) := by decide +kernel
theorem dX6_bandInfo_114 : decode cX6_bandInfo 114 = .ok (.ireturn, 1) := by decide +kernel
theorem dX6_bandInfo_115 : decode cX6_bandInfo 115 = .ok (.aload_n 3, 1) := by decide +kernel
theorem dX6_bandInfo_116 : decode cX6_bandInfo 116 = .ok (.getfield 84, 3) := by decide +kernel
theorem dX6_bandInfo_119 : decode cX6_bandInfo 119 = .ok (.invokevirtual 93, 3) := by decide +kernel
theorem dX6_bandInfo_122 : decode cX6_bandInfo 122 = .ok (.ireturn, 1) := by decide +kernel
theorem dX6_bandInfo_123 : decode cX6_bandInfo 123 = .ok (.aload_n 3, 1) := by decide +kernel
theorem dX6_bandInfo_124 : decode cX6_bandInfo 124 = .ok (.getfield 84, 3) := by decide +kernel
theorem dX6_bandInfo_127 : decode cX6_bandInfo 127 = .ok (.getfield 88, 3) := by decide +kernel
theorem dX6_bandInfo_130 : decode cX6_bandInfo 130 = .ok (.ifCond .ne 8, 3) := by decide +kernel
theorem dX6_bandInfo_133 : decode cX6_bandInfo 133 = .ok (.ldc 97, 2) := by decide +kernel
theorem dX6_bandInfo_135 : decode cX6_bandInfo 135 = .ok (.goto 10, 3) := by decide +kernel
theorem dX6_bandInfo_138 : decode cX6_bandInfo 138 = .ok (.aload_n 3, 1) := by decide +kernel
theorem dX6_bandInfo_139 : decode cX6_bandInfo 139 = .ok (.getfield 84, 3) := by decide +kernel
theorem dX6_bandInfo_142 : decode cX6_bandInfo 142 = .ok (.getfield 98, 3) := by decide +kernel
theorem dX6_bandInfo_145 : decode cX6_bandInfo 145 = .ok (.ireturn, 1) := by decide +kernel
theorem dX6_bandInfo_146 : decode cX6_bandInfo 146 = .ok (.aload_n 3, 1) := by decide +kernel
theorem dX6_bandInfo_147 : decode cX6_bandInfo 147 = .ok (.getfield 84, 3) := by decide +kernel
theorem dX6_bandInfo_150 : decode cX6_bandInfo 150 = .ok (.getfield 88, 3) := by decide +kernel
theorem dX6_bandInfo_153 : decode cX6_bandInfo 153 = .ok (.ifCond .ne 8, 3) := by decide +kernel
theorem dX6_bandInfo_156 : decode cX6_bandInfo 156 = .ok (.ldc 97, 2) := by decide +kernel
theorem dX6_bandInfo_158 : decode cX6_bandInfo 158 = .ok (.goto 10, 3) := by decide +kernel
theorem dX6_bandInfo_161 : decode cX6_bandInfo 161 = .ok (.aload_n 3, 1) := by decide +kernel
theorem dX6_bandInfo_162 : decode cX6_bandInfo 162 = .ok (.getfield 84, 3) := by decide +kernel
theorem dX6_bandInfo_165 : decode cX6_bandInfo 165 = .ok (.getfield 101, 3) := by decide +kernel
theorem dX6_bandInfo_168 : decode cX6_bandInfo 168 = .ok (.ireturn, 1) := by decide +kernel
theorem dX6_bandInfo_169 : decode cX6_bandInfo 169 = .ok (.aload_n 0, 1) := by decide +kernel
theorem dX6_bandInfo_170 : decode cX6_bandInfo 170 = .ok (.getfield 27, 3) := by decide +kernel
theorem dX6_bandInfo_173 : decode cX6_bandInfo 173 = .ok (.aload_n 3, 1) := by decide +kernel
theorem dX6_bandInfo_174 : decode cX6_bandInfo 174 = .ok (.getfield 78, 3) := by decide +kernel
theorem dX6_bandInfo_177 : decode cX6_bandInfo 177 = .ok (.invokevirtual 104, 3) := by decide +kernel
theorem dX6_bandInfo_180 : decode cX6_bandInfo 180 = .ok (.ireturn, 1) := by decide +kernel
theorem dX6_bandInfo_181 : decode cX6_bandInfo 181 = .ok (.aload_n 0, 1) := by decide +kernel
theorem dX6_bandInfo_182 : decode cX6_bandInfo 182 = .ok (.getfield 27, 3) := by decide +kernel
theorem dX6_bandInfo_185 : decode cX6_bandInfo 185 = .ok (.aload_n 3, 1) := by decide +kernel
theorem dX6_bandInfo_186 : decode cX6_bandInfo 186 = .ok (.getfield 78, 3) := by decide +kernel
theorem dX6_bandInfo_189 : decode cX6_bandInfo 189 = .ok (.aload_n 0, 1) := by decide +kernel
theorem dX6_bandInfo_190 : decode cX6_bandInfo 190 = .ok (.getfield 27, 3) := by decide +kernel
theorem dX6_bandInfo_193 : decode cX6_bandInfo 193 = .ok (.getfield 49, 3) := by decide +kernel
theorem dX6_bandInfo_196 : decode cX6_bandInfo 196 = .ok (.iconst 2, 1) := by decide +kernel
theorem dX6_bandInfo_197 : decode cX6_bandInfo 197 = .ok (.iaload, 1) := by decide +kernel
theorem dX6_bandInfo_198 : decode cX6_bandInfo 198 = .ok (.invokevirtual 108, 3) := by decide +kernel
theorem dX6_bandInfo_201 : decode cX6_bandInfo 201 = .ok (.ireturn, 1) := by decide +kernel
theorem dX6_bandInfo_202 : decode cX6_bandInfo 202 = .ok (.aload_n 3, 1) := by decide +kernel
theorem dX6_bandInfo_203 : decode cX6_bandInfo 203 = .ok (.getfield 112, 3) := by decide +kernel
theorem dX6_bandInfo_206 : decode cX6_bandInfo 206 = .ok (.ireturn, 1) := by decide +kernel
theorem dX6_bandInfo_207 : decode cX6_bandInfo 207 = .ok (.aload_n 3, 1) := by decide +kernel
theorem dX6_bandInfo_208 : decode cX6_bandInfo 208 = .ok (.getfield 115, 3) := by decide +kernel
theorem dX6_bandInfo_211 : decode cX6_bandInfo 211 = .ok (.ireturn, 1) := by decide +kernel
theorem dX6_bandInfo_212 : decode cX6_bandInfo 212 = .ok (.aload_n 3, 1) := by decide +kernel
theorem dX6_bandInfo_213 : decode cX6_bandInfo 213 = .ok (.getfield 118, 3) := by decide +kernel
theorem dX6_bandInfo_216 : decode cX6_bandInfo 216 = .ok (.ireturn, 1) := by decide +kernel
theorem dX6_layer_0 : decode cX6_layer 0 = .ok (.aload_n 0, 1) := by decide +kernel
theorem dX6_layer_1 : decode cX6_layer 1 = .ok (.getfield 27, 3) := by decide +kernel
theorem dX6_layer_4 : decode cX6_layer 4 = .ok (.iload_n 1, 1) := by decide +kernel
theorem dX6_layer_5 : decode cX6_layer 5 = .ok (.invokevirtual 66, 3) := by decide +kernel
theorem dX6_layer_8 : decode cX6_layer 8 = .ok (.ifCond .eq 16, 3) := by decide +kernel
theorem dX6_layer_11 : decode cX6_layer 11 = .ok (.iload_n 2, 1) := by decide +kernel
theorem dX6_layer_12 : decode cX6_layer 12 = .ok (.ifCond .lt 12, 3) := by decide +kernel
theorem dX6_layer_15 : decode cX6_layer 15 = .ok (.iload_n 3, 1) := by decide +kernel
theorem dX6_layer_16 : decode cX6_layer 16 = .ok (.iconst 0, 1) := by decide +kernel
theorem dX6_layer_17 : decode cX6_layer 17 = .ok (.iconst 1, 1) := by decide +kernel
theorem dX6_layer_18 : decode cX6_layer 18 = .ok (.invokestatic 34, 3) := by decide +kernel
theorem dX6_layer_21 : decode cX6_layer 21 = .ok (.ifCond .ne 6, 3) := by decide +kernel
theorem dX6_layer_24 : decode cX6_layer 24 = .ok (.ldc 38, 2) := by decide +kernel
theorem dX6_layer_26 : decode cX6_layer 26 = .ok (.ireturn, 1) := by decide +kernel
theorem dX6_layer_27 : decode cX6_layer 27 = .ok (.aload_n 0, 1) := by decide +kernel
theorem dX6_layer_28 : decode cX6_layer 28 = .ok (.getfield 27, 3) := by decide +kernel
theorem dX6_layer_31 : decode cX6_layer 31 = .ok (.getfield 69, 3) := by decide +kernel
theorem dX6_layer_34 : decode cX6_layer 34 = .ok (.iload_n 1, 1) := by decide +kernel
theorem dX6_layer_35 : decode cX6_layer 35 = .ok (.aaload, 1) := by decide +kernel
theorem dX6_layer_36 : decode cX6_layer 36 = .ok (.getfield 84, 3) := by decide +kernel
theorem dX6_layer_39 : decode cX6_layer 39 = .ok (.astore 4, 2) := by decide +kernel
theorem dX6_layer_41 : decode cX6_layer 41 = .ok (.aload 4, 2) := by decide +kernel
theorem dX6_layer_43 : decode cX6_layer 43 = .ok (.iload_n 2, 1) := by decide +kernel
theorem dX6_layer_44 : decode cX6_layer 44 = .ok (.invokevirtual 121, 3) := by decide +kernel
theorem dX6_layer_47 : decode cX6_layer 47 = .ok (.istore 5, 2) := by decide +kernel
theorem dX6_layer_49 : decode cX6_layer 49 = .ok (.iload 5, 2) := by decide +kernel
theorem dX6_layer_51 : decode cX6_layer 51 = .ok (.ifCond .ge 6, 3) := by decide +kernel
theorem dX6_layer_54 : decode cX6_layer 54 = .ok (.ldc 97, 2) := by decide +kernel
theorem dX6_layer_56 : decode cX6_layer 56 = .ok (.ireturn, 1) := by decide +kernel
theorem dX6_layer_57 : decode cX6_layer 57 = .ok (.iload_n 3, 1) := by decide +kernel
theorem dX6_layer_58 : decode cX6_layer 58 = .ok (.ifCond .ne 8, 3) := by decide +kernel
theorem dX6_layer_61 : decode cX6_layer 61 = .ok (.iload 5, 2) := by decide +kernel
theorem dX6_layer_63 : decode cX6_layer 63 = .ok (.goto 10, 3) := by decide +kernel
theorem dX6_layer_66 : decode cX6_layer 66 = .ok (.aload 4, 2) := by decide +kernel
theorem dX6_layer_68 : decode cX6_layer 68 = .ok (.iload 5, 2) := by decide +kernel
theorem dX6_layer_70 : decode cX6_layer 70 = .ok (.invokevirtual 124, 3) := by decide +kernel
theorem dX6_layer_73 : decode cX6_layer 73 = .ok (.ireturn, 1) := by decide +kernel
theorem dX6_ofYear_0 : decode cX6_ofYear 0 = .ok (.iload_n 1, 1) := by decide +kernel
theorem dX6_ofYear_1 : decode cX6_ofYear 1 = .ok (.iconst 0, 1) := by decide +kernel
theorem dX6_ofYear_2 : decode cX6_ofYear 2 = .ok (.sipush 500, 3) := by decide +kernel
theorem dX6_ofYear_5 : decode cX6_ofYear 5 = .ok (.invokestatic 34, 3) := by decide +kernel
theorem dX6_ofYear_8 : decode cX6_ofYear 8 = .ok (.ifCond .ne 6, 3) := by decide +kernel
theorem dX6_ofYear_11 : decode cX6_ofYear 11 = .ok (.ldc 38, 2) := by decide +kernel
theorem dX6_ofYear_13 : decode cX6_ofYear 13 = .ok (.ireturn, 1) := by decide +kernel
theorem dX6_ofYear_14 : decode cX6_ofYear 14 = .ok (.aload_n 0, 1) := by decide +kernel
theorem dX6_ofYear_15 : decode cX6_ofYear 15 = .ok (.getfield 27, 3) := by decide +kernel
theorem dX6_ofYear_18 : decode cX6_ofYear 18 = .ok (.iload_n 1, 1) := by decide +kernel
theorem dX6_ofYear_19 : decode cX6_ofYear 19 = .ok (.invokevirtual 127, 3) := by decide +kernel
theorem dX6_ofYear_22 : decode cX6_ofYear 22 = .ok (.ireturn, 1) := by decide +kernel
theorem dX6_line_0 : decode cX6_line 0 = .ok (.aload_n 0, 1) := by decide +kernel
theorem dX6_line_1 : decode cX6_line 1 = .ok (.getfield 27, 3) := by decide +kernel
theorem dX6_line_4 : decode cX6_line 4 = .ok (.getfield 58, 3) := by decide +kernel
theorem dX6_line_7 : decode cX6_line 7 = .ok (.iconst 1, 1) := by decide +kernel
theorem dX6_line_8 : decode cX6_line 8 = .ok (.isub, 1) := by decide +kernel
theorem dX6_line_9 : decode cX6_line 9 = .ok (.istore_n 1, 1) := by decide +kernel
theorem dX6_line_10 : decode cX6_line 10 = .ok (.iload_n 1, 1) := by decide +kernel
theorem dX6_line_11 : decode cX6_line 11 = .ok (.ifCond .lt 52, 3) := by decide +kernel
theorem dX6_line_14 : decode cX6_line 14 = .ok (.aload_n 0, 1) := by decide +kernel
theorem dX6_line_15 : decode cX6_line 15 = .ok (.getfield 27, 3) := by decide +kernel
theorem dX6_line_18 : decode cX6_line 18 = .ok (.getfield 69, 3) := by decide +kernel
theorem dX6_line_21 : decode cX6_line 21 = .ok (.iload_n 1, 1) := by decide +kernel
theorem dX6_line_22 : decode cX6_line 22 = .ok (.aaload, 1) := by decide +kernel
theorem dX6_line_23 : decode cX6_line 23 = .ok (.getfield 78, 3) := by decide +kernel
theorem dX6_line_26 : decode cX6_line 26 = .ok (.istore_n 2, 1) := by decide +kernel
theorem dX6_line_27 : decode cX6_line 27 = .ok (.aload_n 0, 1) := by decide +kernel
theorem dX6_line_28 : decode cX6_line 28 = .ok (.getfield 27, 3) := by decide +kernel
theorem dX6_line_31 : decode cX6_line 31 = .ok (.iload_n 2, 1) := by decide +kernel
theorem dX6_line_32 : decode cX6_line 32 = .ok (.invokevirtual 104, 3) := by decide +kernel
theorem dX6_line_35 : decode cX6_line 35 = .ok (.aload_n 0, 1) := by decide +kernel
theorem dX6_line_36 : decode cX6_line 36 = .ok (.getfield 27, 3) := by decide +kernel
theorem dX6_line_39 : decode cX6_line 39 = .ok (.iload_n 2, 1) := by decide +kernel
theorem dX6_line_40 : decode cX6_line 40 = .ok (.aload_n 0, 1) := by decide +kernel
theorem dX6_line_41 : decode cX6_line 41 = .ok (.getfield 27, 3) := by decide +kernel
theorem dX6_line_44 : decode cX6_line 44 = .ok (.getfield 49, 3) := by decide +kernel
theorem dX6_line_47 : decode cX6_line 47 = .ok (.iconst 2, 1) := by decide +kernel
theorem dX6_line_48 : decode cX6_line 48 = .ok (.iaload, 1) := by decide +kernel
theorem dX6_line_49 : decode cX6_line 49 = .ok (.invokevirtual 108, 3) := by decide +kernel
theorem dX6_line_52 : decode cX6_line 52 = .ok (.if_icmp .lt 5, 3) := by decide +kernel
theorem dX6_line_55 : decode cX6_line 55 = .ok (.iload_n 1, 1) := by decide +kernel
theorem dX6_line_56 : decode cX6_line 56 = .ok (.ireturn, 1) := by decide +kernel
theorem dX6_line_57 : decode cX6_line 57 = .ok (.iinc 1 (-1), 3) := by decide +kernel
theorem dX6_line_60 : decode cX6_line 60 = .ok (.goto (-50), 3) := by decide +kernel
theorem dX6_line_63 : decode cX6_line 63 = .ok (.ldc 97, 2) := by decide +kernel
theorem dX6_line_65 : decode cX6_line 65 = .ok (.ireturn, 1) := by decide +kernel
theorem dX6_front_0 : decode cX6_front 0 = .ok (.iload_n 1, 1) := by decide +kernel
theorem dX6_front_1 : decode cX6_front 1 = .ok (.iconst 0, 1) := by decide +kernel
theorem dX6_front_2 : decode cX6_front 2 = .ok (.iconst 3, 1) := by decide +kernel
theorem dX6_front_3 : decode cX6_front 3 = .ok (.invokestatic 34, 3) := by decide +kernel
theorem dX6_front_6 : decode cX6_front 6 = .ok (.ifCond .ne 6, 3) := by decide +kernel
theorem dX6_front_9 : decode cX6_front 9 = .ok (.ldc 38, 2) := by decide +kernel
theorem dX6_front_11 : decode cX6_front 11 = .ok (.ireturn, 1) := by decide +kernel
theorem dX6_front_12 : decode cX6_front 12 = .ok (.iload_n 1, 1) := by decide +kernel
theorem dX6_front_13 : decode cX6_front 13 = .ok (.tableswitch 60 0 2 #[27, 38, 49], 27) := by decide +kernel
theorem dX6_front_40 : decode cX6_front 40 = .ok (.aload_n 0, 1) := by decide +kernel
theorem dX6_front_41 : decode cX6_front 41 = .ok (.getfield 27, 3) := by decide +kernel
theorem dX6_front_44 : decode cX6_front 44 = .ok (.getfield 128, 3) := by decide +kernel
theorem dX6_front_47 : decode cX6_front 47 = .ok (.getfield 132, 3) := by decide +kernel
theorem dX6_front_50 : decode cX6_front 50 = .ok (.ireturn, 1) := by decide +kernel
theorem dX6_front_51 : decode cX6_front 51 = .ok (.aload_n 0, 1) := by decide +kernel
theorem dX6_front_52 : decode cX6_front 52 = .ok (.getfield 27, 3) := by decide +kernel
theorem dX6_front_55 : decode cX6_front 55 = .ok (.getfield 128, 3) := by decide +kernel
theorem dX6_front_58 : decode cX6_front 58 = .ok (.getfield 135, 3) := by decide +kernel
theorem dX6_front_61 : decode cX6_front 61 = .ok (.ireturn, 1) := by decide +kernel
theorem dX6_front_62 : decode cX6_front 62 = .ok (.aload_n 0, 1) := by decide +kernel
theorem dX6_front_63 : decode cX6_front 63 = .ok (.getfield 27, 3) := by decide +kernel
theorem dX6_front_66 : decode cX6_front 66 = .ok (.getfield 128, 3) := by decide +kernel
theorem dX6_front_69 : decode cX6_front 69 = .ok (.getfield 138, 3) := by decide +kernel
theorem dX6_front_72 : decode cX6_front 72 = .ok (.ireturn, 1) := by decide +kernel
theorem dX6_front_73 : decode cX6_front 73 = .ok (.aload_n 0, 1) := by decide +kernel
theorem dX6_front_74 : decode cX6_front 74 = .ok (.getfield 27, 3) := by decide +kernel
theorem dX6_front_77 : decode cX6_front 77 = .ok (.getfield 128, 3) := by decide +kernel
theorem dX6_front_80 : decode cX6_front 80 = .ok (.getfield 138, 3) := by decide +kernel
theorem dX6_front_83 : decode cX6_front 83 = .ok (.ifCond .ne 8, 3) := by decide +kernel
theorem dX6_front_86 : decode cX6_front 86 = .ok (.ldc 97, 2) := by decide +kernel
theorem dX6_front_88 : decode cX6_front 88 = .ok (.goto 13, 3) := by decide +kernel
theorem dX6_front_91 : decode cX6_front 91 = .ok (.aload_n 0, 1) := by decide +kernel
theorem dX6_front_92 : decode cX6_front 92 = .ok (.getfield 27, 3) := by decide +kernel
theorem dX6_front_95 : decode cX6_front 95 = .ok (.getfield 128, 3) := by decide +kernel
theorem dX6_front_98 : decode cX6_front 98 = .ok (.getfield 141, 3) := by decide +kernel
theorem dX6_front_101 : decode cX6_front 101 = .ok (.ireturn, 1) := by decide +kernel
theorem dX6_account_0 : decode cX6_account 0 = .ok (.iload_n 1, 1) := by decide +kernel
theorem dX6_account_1 : decode cX6_account 1 = .ok (.iconst 0, 1) := by decide +kernel
theorem dX6_account_2 : decode cX6_account 2 = .ok (.iconst 5, 1) := by decide +kernel
theorem dX6_account_3 : decode cX6_account 3 = .ok (.invokestatic 34, 3) := by decide +kernel
theorem dX6_account_6 : decode cX6_account 6 = .ok (.ifCond .ne 7, 3) := by decide +kernel
theorem dX6_account_9 : decode cX6_account 9 = .ok (.ldc2_w 144, 3) := by decide +kernel
theorem dX6_account_12 : decode cX6_account 12 = .ok (.lreturn, 1) := by decide +kernel
theorem dX6_account_13 : decode cX6_account 13 = .ok (.iload_n 1, 1) := by decide +kernel
theorem dX6_account_14 : decode cX6_account 14 = .ok (.tableswitch 74 0 4 #[34, 42, 50, 58, 66], 34) := by decide +kernel
theorem dX6_account_48 : decode cX6_account 48 = .ok (.aload_n 0, 1) := by decide +kernel
theorem dX6_account_49 : decode cX6_account 49 = .ok (.getfield 27, 3) := by decide +kernel
theorem dX6_account_52 : decode cX6_account 52 = .ok (.getfield 146, 3) := by decide +kernel
theorem dX6_account_55 : decode cX6_account 55 = .ok (.lreturn, 1) := by decide +kernel
theorem dX6_account_56 : decode cX6_account 56 = .ok (.aload_n 0, 1) := by decide +kernel
theorem dX6_account_57 : decode cX6_account 57 = .ok (.getfield 27, 3) := by decide +kernel
theorem dX6_account_60 : decode cX6_account 60 = .ok (.getfield 150, 3) := by decide +kernel
theorem dX6_account_63 : decode cX6_account 63 = .ok (.lreturn, 1) := by decide +kernel
theorem dX6_account_64 : decode cX6_account 64 = .ok (.aload_n 0, 1) := by decide +kernel
theorem dX6_account_65 : decode cX6_account 65 = .ok (.getfield 27, 3) := by decide +kernel
theorem dX6_account_68 : decode cX6_account 68 = .ok (.getfield 153, 3) := by decide +kernel
theorem dX6_account_71 : decode cX6_account 71 = .ok (.lreturn, 1) := by decide +kernel
theorem dX6_account_72 : decode cX6_account 72 = .ok (.aload_n 0, 1) := by decide +kernel
theorem dX6_account_73 : decode cX6_account 73 = .ok (.getfield 27, 3) := by decide +kernel
theorem dX6_account_76 : decode cX6_account 76 = .ok (.getfield 155, 3) := by decide +kernel
theorem dX6_account_79 : decode cX6_account 79 = .ok (.lreturn, 1) := by decide +kernel
theorem dX6_account_80 : decode cX6_account 80 = .ok (.aload_n 0, 1) := by decide +kernel
theorem dX6_account_81 : decode cX6_account 81 = .ok (.getfield 27, 3) := by decide +kernel
theorem dX6_account_84 : decode cX6_account 84 = .ok (.invokevirtual 158, 3) := by decide +kernel
theorem dX6_account_87 : decode cX6_account 87 = .ok (.lreturn, 1) := by decide +kernel
theorem dX6_account_88 : decode cX6_account 88 = .ok (.aload_n 0, 1) := by decide +kernel
theorem dX6_account_89 : decode cX6_account 89 = .ok (.getfield 27, 3) := by decide +kernel
theorem dX6_account_92 : decode cX6_account 92 = .ok (.invokevirtual 162, 3) := by decide +kernel
theorem dX6_account_95 : decode cX6_account 95 = .ok (.lreturn, 1) := by decide +kernel
theorem dX6_count_0 : decode cX6_count 0 = .ok (.iload_n 1, 1) := by decide +kernel
theorem dX6_count_1 : decode cX6_count 1 = .ok (.iconst 0, 1) := by decide +kernel
theorem dX6_count_2 : decode cX6_count 2 = .ok (.bipush 14, 2) := by decide +kernel
theorem dX6_count_4 : decode cX6_count 4 = .ok (.invokestatic 34, 3) := by decide +kernel
theorem dX6_count_7 : decode cX6_count 7 = .ok (.ifCond .ne 6, 3) := by decide +kernel
theorem dX6_count_10 : decode cX6_count 10 = .ok (.ldc 38, 2) := by decide +kernel
theorem dX6_count_12 : decode cX6_count 12 = .ok (.ireturn, 1) := by decide +kernel
theorem dX6_count_13 : decode cX6_count 13 = .ok (.iload_n 1, 1) := by decide +kernel
theorem dX6_count_14 : decode cX6_count 14 = .ok (.bipush 6, 2) := by decide +kernel
theorem dX6_count_16 : decode cX6_count 16 = .ok (.bipush 12, 2) := by decide +kernel
theorem dX6_count_18 : decode cX6_count 18 = .ok (.invokestatic 34, 3) := by decide +kernel
theorem dX6_count_21 : decode cX6_count 21 = .ok (.ifCond .eq 16, 3) := by decide +kernel
theorem dX6_count_24 : decode cX6_count 24 = .ok (.aload_n 0, 1) := by decide +kernel
theorem dX6_count_25 : decode cX6_count 25 = .ok (.getfield 27, 3) := by decide +kernel
theorem dX6_count_28 : decode cX6_count 28 = .ok (.getfield 49, 3) := by decide +kernel
theorem dX6_count_31 : decode cX6_count 31 = .ok (.iload_n 1, 1) := by decide +kernel
theorem dX6_count_32 : decode cX6_count 32 = .ok (.bipush 6, 2) := by decide +kernel
theorem dX6_count_34 : decode cX6_count 34 = .ok (.isub, 1) := by decide +kernel
theorem dX6_count_35 : decode cX6_count 35 = .ok (.iaload, 1) := by decide +kernel
theorem dX6_count_36 : decode cX6_count 36 = .ok (.ireturn, 1) := by decide +kernel
theorem dX6_count_37 : decode cX6_count 37 = .ok (.iload_n 1, 1) := by decide +kernel
theorem dX6_count_38 : decode cX6_count 38 = .ok (.tableswitch 123 0 13 #[70, 78, 86, 94, 102, 110, 123, 123, 123, 123, 123, 123, 123, 118], 70) := by decide +kernel
theorem dX6_count_108 : decode cX6_count 108 = .ok (.aload_n 0, 1) := by decide +kernel
theorem dX6_count_109 : decode cX6_count 109 = .ok (.getfield 27, 3) := by decide +kernel
theorem dX6_count_112 : decode cX6_count 112 = .ok (.getfield 58, 3) := by decide +kernel
theorem dX6_count_115 : decode cX6_count 115 = .ok (.ireturn, 1) := by decide +kernel
theorem dX6_count_116 : decode cX6_count 116 = .ok (.aload_n 0, 1) := by decide +kernel
theorem dX6_count_117 : decode cX6_count 117 = .ok (.getfield 27, 3) := by decide +kernel
theorem dX6_count_120 : decode cX6_count 120 = .ok (.getfield 165, 3) := by decide +kernel
theorem dX6_count_123 : decode cX6_count 123 = .ok (.ireturn, 1) := by decide +kernel
theorem dX6_count_124 : decode cX6_count 124 = .ok (.aload_n 0, 1) := by decide +kernel
theorem dX6_count_125 : decode cX6_count 125 = .ok (.getfield 27, 3) := by decide +kernel
theorem dX6_count_128 : decode cX6_count 128 = .ok (.getfield 168, 3) := by decide +kernel
theorem dX6_count_131 : decode cX6_count 131 = .ok (.ireturn, 1) := by decide +kernel
theorem dX6_count_132 : decode cX6_count 132 = .ok (.aload_n 0, 1) := by decide +kernel
theorem dX6_count_133 : decode cX6_count 133 = .ok (.getfield 27, 3) := by decide +kernel
theorem dX6_count_136 : decode cX6_count 136 = .ok (.invokevirtual 171, 3) := by decide +kernel
theorem dX6_count_139 : decode cX6_count 139 = .ok (.ireturn, 1) := by decide +kernel
theorem dX6_count_140 : decode cX6_count 140 = .ok (.aload_n 0, 1) := by decide +kernel
theorem dX6_count_141 : decode cX6_count 141 = .ok (.getfield 27, 3) := by decide +kernel
theorem dX6_count_144 : decode cX6_count 144 = .ok (.invokevirtual 174, 3) := by decide +kernel
theorem dX6_count_147 : decode cX6_count 147 = .ok (.ireturn, 1) := by decide +kernel
theorem dX6_count_148 : decode cX6_count 148 = .ok (.aload_n 0, 1) := by decide +kernel
theorem dX6_count_149 : decode cX6_count 149 = .ok (.getfield 27, 3) := by decide +kernel
theorem dX6_count_152 : decode cX6_count 152 = .ok (.invokevirtual 177, 3) := by decide +kernel
theorem dX6_count_155 : decode cX6_count 155 = .ok (.ireturn, 1) := by decide +kernel
theorem dX6_count_156 : decode cX6_count 156 = .ok (.aload_n 0, 1) := by decide +kernel
theorem dX6_count_157 : decode cX6_count 157 = .ok (.getfield 30, 3) := by decide +kernel
theorem dX6_count_160 : decode cX6_count 160 = .ok (.ireturn, 1) := by decide +kernel
theorem dX6_count_161 : decode cX6_count 161 = .ok (.aload_n 0, 1) := by decide +kernel
theorem dX6_count_162 : decode cX6_count 162 = .ok (.getfield 23, 3) := by decide +kernel
theorem dX6_count_165 : decode cX6_count 165 = .ok (.getfield 180, 3) := by decide +kernel
theorem dX6_count_168 : decode cX6_count 168 = .ok (.ireturn, 1) := by decide +kernel
theorem dX6_stake_0 : decode cX6_stake 0 = .ok (.aload_n 0, 1) := by decide +kernel
theorem dX6_stake_1 : decode cX6_stake 1 = .ok (.getfield 27, 3) := by decide +kernel
theorem dX6_stake_4 : decode cX6_stake 4 = .ok (.iload_n 1, 1) := by decide +kernel
theorem dX6_stake_5 : decode cX6_stake 5 = .ok (.invokevirtual 66, 3) := by decide +kernel
theorem dX6_stake_8 : decode cX6_stake 8 = .ok (.ifCond .eq 36, 3) := by decide +kernel
theorem dX6_stake_11 : decode cX6_stake 11 = .ok (.iload_n 2, 1) := by decide +kernel
theorem dX6_stake_12 : decode cX6_stake 12 = .ok (.iconst 0, 1) := by decide +kernel
theorem dX6_stake_13 : decode cX6_stake 13 = .ok (.aload_n 0, 1) := by decide +kernel
theorem dX6_stake_14 : decode cX6_stake 14 = .ok (.getfield 27, 3) := by decide +kernel
theorem dX6_stake_17 : decode cX6_stake 17 = .ok (.getfield 69, 3) := by decide +kernel
theorem dX6_stake_20 : decode cX6_stake 20 = .ok (.iload_n 1, 1) := by decide +kernel
theorem dX6_stake_21 : decode cX6_stake 21 = .ok (.aaload, 1) := by decide +kernel
theorem dX6_stake_22 : decode cX6_stake 22 = .ok (.getfield 81, 3) := by decide +kernel
theorem dX6_stake_25 : decode cX6_stake 25 = .ok (.iconst 1, 1) := by decide +kernel
theorem dX6_stake_26 : decode cX6_stake 26 = .ok (.isub, 1) := by decide +kernel
theorem dX6_stake_27 : decode cX6_stake 27 = .ok (.invokestatic 34, 3) := by decide +kernel
theorem dX6_stake_30 : decode cX6_stake 30 = .ok (.ifCond .eq 14, 3) := by decide +kernel
theorem dX6_stake_33 : decode cX6_stake 33 = .ok (.iload_n 3, 1) := by decide +kernel
theorem dX6_stake_34 : decode cX6_stake 34 = .ok (.iconst 1, 1) := by decide +kernel
theorem dX6_stake_35 : decode cX6_stake 35 = .ok (.sipush 10000, 3) := by decide +kernel
theorem dX6_stake_38 : decode cX6_stake 38 = .ok (.invokestatic 34, 3) := by decide +kernel
theorem dX6_stake_41 : decode cX6_stake 41 = .ok (.ifCond .ne 6, 3) := by decide +kernel
theorem dX6_stake_44 : decode cX6_stake 44 = .ok (.ldc 38, 2) := by decide +kernel
theorem dX6_stake_46 : decode cX6_stake 46 = .ok (.ireturn, 1) := by decide +kernel
theorem dX6_stake_47 : decode cX6_stake 47 = .ok (.aload_n 0, 1) := by decide +kernel
theorem dX6_stake_48 : decode cX6_stake 48 = .ok (.getfield 27, 3) := by decide +kernel
theorem dX6_stake_51 : decode cX6_stake 51 = .ok (.iload_n 1, 1) := by decide +kernel
theorem dX6_stake_52 : decode cX6_stake 52 = .ok (.iload_n 2, 1) := by decide +kernel
theorem dX6_stake_53 : decode cX6_stake 53 = .ok (.invokevirtual 181, 3) := by decide +kernel
theorem dX6_stake_56 : decode cX6_stake 56 = .ok (.ifCond .eq 6, 3) := by decide +kernel
theorem dX6_stake_59 : decode cX6_stake 59 = .ok (.ldc 57, 2) := by decide +kernel
theorem dX6_stake_61 : decode cX6_stake 61 = .ok (.ireturn, 1) := by decide +kernel
theorem dX6_stake_62 : decode cX6_stake 62 = .ok (.aload_n 0, 1) := by decide +kernel
theorem dX6_stake_63 : decode cX6_stake 63 = .ok (.getfield 27, 3) := by decide +kernel
theorem dX6_stake_66 : decode cX6_stake 66 = .ok (.getfield 168, 3) := by decide +kernel
theorem dX6_stake_69 : decode cX6_stake 69 = .ok (.bipush 6, 2) := by decide +kernel
theorem dX6_stake_71 : decode cX6_stake 71 = .ok (.if_icmp .lt 6, 3) := by decide +kernel
theorem dX6_stake_74 : decode cX6_stake 74 = .ok (.ldc 61, 2) := by decide +kernel
theorem dX6_stake_76 : decode cX6_stake 76 = .ok (.ireturn, 1) := by decide +kernel
theorem dX6_stake_77 : decode cX6_stake 77 = .ok (.aload_n 0, 1) := by decide +kernel
theorem dX6_stake_78 : decode cX6_stake 78 = .ok (.invokevirtual 46, 3) := by decide +kernel
theorem dX6_stake_81 : decode cX6_stake 81 = .ok (.aload_n 0, 1) := by decide +kernel
theorem dX6_stake_82 : decode cX6_stake 82 = .ok (.getfield 27, 3) := by decide +kernel
theorem dX6_stake_85 : decode cX6_stake 85 = .ok (.iload_n 1, 1) := by decide +kernel
theorem dX6_stake_86 : decode cX6_stake 86 = .ok (.iload_n 2, 1) := by decide +kernel
theorem dX6_stake_87 : decode cX6_stake 87 = .ok (.iload_n 3, 1) := by decide +kernel
theorem dX6_stake_88 : decode cX6_stake 88 = .ok (.invokevirtual 185, 3) := by decide +kernel
theorem dX6_stake_91 : decode cX6_stake 91 = .ok (.ireturn, 1) := by decide +kernel
theorem dX6_pull_0 : decode cX6_pull 0 = .ok (.aload_n 0, 1) := by decide +kernel
theorem dX6_pull_1 : decode cX6_pull 1 = .ok (.getfield 27, 3) := by decide +kernel
theorem dX6_pull_4 : decode cX6_pull 4 = .ok (.iload_n 1, 1) := by decide +kernel
theorem dX6_pull_5 : decode cX6_pull 5 = .ok (.invokevirtual 189, 3) := by decide +kernel
theorem dX6_pull_8 : decode cX6_pull 8 = .ok (.ifCond .ne 6, 3) := by decide +kernel
theorem dX6_pull_11 : decode cX6_pull 11 = .ok (.ldc 38, 2) := by decide +kernel
theorem dX6_pull_13 : decode cX6_pull 13 = .ok (.ireturn, 1) := by decide +kernel
theorem dX6_pull_14 : decode cX6_pull 14 = .ok (.aload_n 0, 1) := by decide +kernel
theorem dX6_pull_15 : decode cX6_pull 15 = .ok (.invokevirtual 46, 3) := by decide +kernel
theorem dX6_pull_18 : decode cX6_pull 18 = .ok (.aload_n 0, 1) := by decide +kernel
theorem dX6_pull_19 : decode cX6_pull 19 = .ok (.getfield 27, 3) := by decide +kernel
theorem dX6_pull_22 : decode cX6_pull 22 = .ok (.iload_n 1, 1) := by decide +kernel
theorem dX6_pull_23 : decode cX6_pull 23 = .ok (.invokevirtual 192, 3) := by decide +kernel
theorem dX6_pull_26 : decode cX6_pull 26 = .ok (.ireturn, 1) := by decide +kernel
theorem dX6_stakeInfo_0 : decode cX6_stakeInfo 0 = .ok (.aload_n 0, 1) := by decide +kernel
theorem dX6_stakeInfo_1 : decode cX6_stakeInfo 1 = .ok (.getfield 27, 3) := by decide +kernel
theorem dX6_stakeInfo_4 : decode cX6_stakeInfo 4 = .ok (.iload_n 1, 1) := by decide +kernel
theorem dX6_stakeInfo_5 : decode cX6_stakeInfo 5 = .ok (.invokevirtual 189, 3) := by decide +kernel
theorem dX6_stakeInfo_8 : decode cX6_stakeInfo 8 = .ok (.ifCond .eq 12, 3) := by decide +kernel
theorem dX6_stakeInfo_11 : decode cX6_stakeInfo 11 = .ok (.iload_n 2, 1) := by decide +kernel
theorem dX6_stakeInfo_12 : decode cX6_stakeInfo 12 = .ok (.iconst 0, 1) := by decide +kernel
theorem dX6_stakeInfo_13 : decode cX6_stakeInfo 13 = .ok (.iconst 5, 1) := by decide +kernel
theorem dX6_stakeInfo_14 : decode cX6_stakeInfo 14 = .ok (.invokestatic 34, 3) := by decide +kernel
theorem dX6_stakeInfo_17 : decode cX6_stakeInfo 17 = .ok (.ifCond .ne 6, 3) := by decide +kernel
theorem dX6_stakeInfo_20 : decode cX6_stakeInfo 20 = .ok (.ldc 38, 2) := by decide +kernel
theorem dX6_stakeInfo_22 : decode cX6_stakeInfo 22 = .ok (.ireturn, 1) := by decide +kernel
theorem dX6_stakeInfo_23 : decode cX6_stakeInfo 23 = .ok (.aload_n 0, 1) := by decide +kernel
theorem dX6_stakeInfo_24 : decode cX6_stakeInfo 24 = .ok (.getfield 27, 3) := by decide +kernel
theorem dX6_stakeInfo_27 : decode cX6_stakeInfo 27 = .ok (.getfield 195, 3) := by decide +kernel
theorem dX6_stakeInfo_30 : decode cX6_stakeInfo 30 = .ok (.iload_n 1, 1) := by decide +kernel
theorem dX6_stakeInfo_31 : decode cX6_stakeInfo 31 = .ok (.aaload, 1) := by decide +kernel
theorem dX6_stakeInfo_32 : decode cX6_stakeInfo 32 = .ok (.astore_n 3, 1) := by decide +kernel
theorem dX6_stakeInfo_33 : decode cX6_stakeInfo 33 = .ok (.iload_n 2, 1) := by decide +kernel
theorem dX6_stakeInfo_34 : decode cX6_stakeInfo 34 = .ok (.tableswitch 59 0 4 #[34, 39, 44, 49, 54], 34) := by decide +kernel
theorem dX6_stakeInfo_68 : decode cX6_stakeInfo 68 = .ok (.aload_n 3, 1) := by decide +kernel
theorem dX6_stakeInfo_69 : decode cX6_stakeInfo 69 = .ok (.getfield 199, 3) := by decide +kernel
theorem dX6_stakeInfo_72 : decode cX6_stakeInfo 72 = .ok (.ireturn, 1) := by decide +kernel
theorem dX6_stakeInfo_73 : decode cX6_stakeInfo 73 = .ok (.aload_n 3, 1) := by decide +kernel
theorem dX6_stakeInfo_74 : decode cX6_stakeInfo 74 = .ok (.getfield 204, 3) := by decide +kernel
theorem dX6_stakeInfo_77 : decode cX6_stakeInfo 77 = .ok (.ireturn, 1) := by decide +kernel
theorem dX6_stakeInfo_78 : decode cX6_stakeInfo 78 = .ok (.aload_n 3, 1) := by decide +kernel
theorem dX6_stakeInfo_79 : decode cX6_stakeInfo 79 = .ok (.getfield 207, 3) := by decide +kernel
theorem dX6_stakeInfo_82 : decode cX6_stakeInfo 82 = .ok (.ireturn, 1) := by decide +kernel
theorem dX6_stakeInfo_83 : decode cX6_stakeInfo 83 = .ok (.aload_n 3, 1) := by decide +kernel
theorem dX6_stakeInfo_84 : decode cX6_stakeInfo 84 = .ok (.getfield 210, 3) := by decide +kernel
theorem dX6_stakeInfo_87 : decode cX6_stakeInfo 87 = .ok (.ireturn, 1) := by decide +kernel
theorem dX6_stakeInfo_88 : decode cX6_stakeInfo 88 = .ok (.aload_n 3, 1) := by decide +kernel
theorem dX6_stakeInfo_89 : decode cX6_stakeInfo 89 = .ok (.getfield 213, 3) := by decide +kernel
theorem dX6_stakeInfo_92 : decode cX6_stakeInfo 92 = .ok (.ireturn, 1) := by decide +kernel
theorem dX6_stakeInfo_93 : decode cX6_stakeInfo 93 = .ok (.aload_n 3, 1) := by decide +kernel
theorem dX6_stakeInfo_94 : decode cX6_stakeInfo 94 = .ok (.getfield 216, 3) := by decide +kernel
theorem dX6_stakeInfo_97 : decode cX6_stakeInfo 97 = .ok (.ireturn, 1) := by decide +kernel
theorem dX6_stakesIn_0 : decode cX6_stakesIn 0 = .ok (.aload_n 0, 1) := by decide +kernel
theorem dX6_stakesIn_1 : decode cX6_stakesIn 1 = .ok (.getfield 27, 3) := by decide +kernel
theorem dX6_stakesIn_4 : decode cX6_stakesIn 4 = .ok (.iload_n 1, 1) := by decide +kernel
theorem dX6_stakesIn_5 : decode cX6_stakesIn 5 = .ok (.invokevirtual 66, 3) := by decide +kernel
theorem dX6_stakesIn_8 : decode cX6_stakesIn 8 = .ok (.ifCond .ne 6, 3) := by decide +kernel
theorem dX6_stakesIn_11 : decode cX6_stakesIn 11 = .ok (.ldc 38, 2) := by decide +kernel
theorem dX6_stakesIn_13 : decode cX6_stakesIn 13 = .ok (.ireturn, 1) := by decide +kernel
theorem dX6_stakesIn_14 : decode cX6_stakesIn 14 = .ok (.iconst 0, 1) := by decide +kernel
theorem dX6_stakesIn_15 : decode cX6_stakesIn 15 = .ok (.istore_n 2, 1) := by decide +kernel
theorem dX6_stakesIn_16 : decode cX6_stakesIn 16 = .ok (.iconst 0, 1) := by decide +kernel
theorem dX6_stakesIn_17 : decode cX6_stakesIn 17 = .ok (.istore_n 3, 1) := by decide +kernel
theorem dX6_stakesIn_18 : decode cX6_stakesIn 18 = .ok (.iload_n 3, 1) := by decide +kernel
theorem dX6_stakesIn_19 : decode cX6_stakesIn 19 = .ok (.aload_n 0, 1) := by decide +kernel
theorem dX6_stakesIn_20 : decode cX6_stakesIn 20 = .ok (.getfield 27, 3) := by decide +kernel
theorem dX6_stakesIn_23 : decode cX6_stakesIn 23 = .ok (.getfield 168, 3) := by decide +kernel
theorem dX6_stakesIn_26 : decode cX6_stakesIn 26 = .ok (.if_icmp .ge 46, 3) := by decide +kernel
theorem dX6_stakesIn_29 : decode cX6_stakesIn 29 = .ok (.aload_n 0, 1) := by decide +kernel
theorem dX6_stakesIn_30 : decode cX6_stakesIn 30 = .ok (.getfield 27, 3) := by decide +kernel
theorem dX6_stakesIn_33 : decode cX6_stakesIn 33 = .ok (.getfield 195, 3) := by decide +kernel
theorem dX6_stakesIn_36 : decode cX6_stakesIn 36 = .ok (.iload_n 3, 1) := by decide +kernel
theorem dX6_stakesIn_37 : decode cX6_stakesIn 37 = .ok (.aaload, 1) := by decide +kernel
theorem dX6_stakesIn_38 : decode cX6_stakesIn 38 = .ok (.getfield 213, 3) := by decide +kernel
theorem dX6_stakesIn_41 : decode cX6_stakesIn 41 = .ok (.ifCond .ne 25, 3) := by decide +kernel
theorem dX6_stakesIn_44 : decode cX6_stakesIn 44 = .ok (.aload_n 0, 1) := by decide +kernel
theorem dX6_stakesIn_45 : decode cX6_stakesIn 45 = .ok (.getfield 27, 3) := by decide +kernel
theorem dX6_stakesIn_48 : decode cX6_stakesIn 48 = .ok (.getfield 195, 3) := by decide +kernel
theorem dX6_stakesIn_51 : decode cX6_stakesIn 51 = .ok (.iload_n 3, 1) := by decide +kernel
theorem dX6_stakesIn_52 : decode cX6_stakesIn 52 = .ok (.aaload, 1) := by decide +kernel
theorem dX6_stakesIn_53 : decode cX6_stakesIn 53 = .ok (.getfield 199, 3) := by decide +kernel
theorem dX6_stakesIn_56 : decode cX6_stakesIn 56 = .ok (.iload_n 1, 1) := by decide +kernel
theorem dX6_stakesIn_57 : decode cX6_stakesIn 57 = .ok (.if_icmp .ne 9, 3) := by decide +kernel
theorem dX6_stakesIn_60 : decode cX6_stakesIn 60 = .ok (.iload_n 2, 1) := by decide +kernel
theorem dX6_stakesIn_61 : decode cX6_stakesIn 61 = .ok (.iconst 1, 1) := by decide +kernel
theorem dX6_stakesIn_62 : decode cX6_stakesIn 62 = .ok (.iload_n 3, 1) := by decide +kernel
theorem dX6_stakesIn_63 : decode cX6_stakesIn 63 = .ok (.ishl, 1) := by decide +kernel
theorem dX6_stakesIn_64 : decode cX6_stakesIn 64 = .ok (.ior, 1) := by decide +kernel
theorem dX6_stakesIn_65 : decode cX6_stakesIn 65 = .ok (.istore_n 2, 1) := by decide +kernel
theorem dX6_stakesIn_66 : decode cX6_stakesIn 66 = .ok (.iinc 3 1, 3) := by decide +kernel
theorem dX6_stakesIn_69 : decode cX6_stakesIn 69 = .ok (.goto (-51), 3) := by decide +kernel
theorem dX6_stakesIn_72 : decode cX6_stakesIn 72 = .ok (.iload_n 2, 1) := by decide +kernel
theorem dX6_stakesIn_73 : decode cX6_stakesIn 73 = .ok (.ireturn, 1) := by decide +kernel
theorem dX6_years_0 : decode cX6_years 0 = .ok (.iload_n 1, 1) := by decide +kernel
theorem dX6_years_1 : decode cX6_years 1 = .ok (.iconst 1, 1) := by decide +kernel
theorem dX6_years_2 : decode cX6_years 2 = .ok (.bipush 100, 2) := by decide +kernel
theorem dX6_years_4 : decode cX6_years 4 = .ok (.invokestatic 34, 3) := by decide +kernel
theorem dX6_years_7 : decode cX6_years 7 = .ok (.ifCond .ne 6, 3) := by decide +kernel
theorem dX6_years_10 : decode cX6_years 10 = .ok (.ldc 38, 2) := by decide +kernel
theorem dX6_years_12 : decode cX6_years 12 = .ok (.ireturn, 1) := by decide +kernel
theorem dX6_years_13 : decode cX6_years 13 = .ok (.aload_n 0, 1) := by decide +kernel
theorem dX6_years_14 : decode cX6_years 14 = .ok (.getfield 27, 3) := by decide +kernel
theorem dX6_years_17 : decode cX6_years 17 = .ok (.getfield 58, 3) := by decide +kernel
theorem dX6_years_20 : decode cX6_years 20 = .ok (.ifCond .ne 6, 3) := by decide +kernel
theorem dX6_years_23 : decode cX6_years 23 = .ok (.ldc 57, 2) := by decide +kernel
theorem dX6_years_25 : decode cX6_years 25 = .ok (.ireturn, 1) := by decide +kernel
theorem dX6_years_26 : decode cX6_years 26 = .ok (.aload_n 0, 1) := by decide +kernel
theorem dX6_years_27 : decode cX6_years 27 = .ok (.getfield 27, 3) := by decide +kernel
theorem dX6_years_30 : decode cX6_years 30 = .ok (.getfield 165, 3) := by decide +kernel
theorem dX6_years_33 : decode cX6_years 33 = .ok (.iload_n 1, 1) := by decide +kernel
theorem dX6_years_34 : decode cX6_years 34 = .ok (.iadd, 1) := by decide +kernel
theorem dX6_years_35 : decode cX6_years 35 = .ok (.sipush 500, 3) := by decide +kernel
theorem dX6_years_38 : decode cX6_years 38 = .ok (.if_icmp .le 6, 3) := by decide +kernel
theorem dX6_years_41 : decode cX6_years 41 = .ok (.ldc 61, 2) := by decide +kernel
theorem dX6_years_43 : decode cX6_years 43 = .ok (.ireturn, 1) := by decide +kernel
theorem dX6_years_44 : decode cX6_years 44 = .ok (.aload_n 0, 1) := by decide +kernel
theorem dX6_years_45 : decode cX6_years 45 = .ok (.invokevirtual 46, 3) := by decide +kernel
theorem dX6_years_48 : decode cX6_years 48 = .ok (.aload_n 0, 1) := by decide +kernel
theorem dX6_years_49 : decode cX6_years 49 = .ok (.getfield 27, 3) := by decide +kernel
theorem dX6_years_52 : decode cX6_years 52 = .ok (.getfield 128, 3) := by decide +kernel
theorem dX6_years_55 : decode cX6_years 55 = .ok (.getfield 138, 3) := by decide +kernel
theorem dX6_years_58 : decode cX6_years 58 = .ok (.istore_n 2, 1) := by decide +kernel
theorem dX6_years_59 : decode cX6_years 59 = .ok (.aload_n 0, 1) := by decide +kernel
theorem dX6_years_60 : decode cX6_years 60 = .ok (.getfield 27, 3) := by decide +kernel
theorem dX6_years_63 : decode cX6_years 63 = .ok (.iload_n 1, 1) := by decide +kernel
theorem dX6_years_64 : decode cX6_years 64 = .ok (.invokevirtual 219, 3) := by decide +kernel
theorem dX6_years_67 : decode cX6_years 67 = .ok (.aload_n 0, 1) := by decide +kernel
theorem dX6_years_68 : decode cX6_years 68 = .ok (.getfield 27, 3) := by decide +kernel
theorem dX6_years_71 : decode cX6_years 71 = .ok (.getfield 128, 3) := by decide +kernel
theorem dX6_years_74 : decode cX6_years 74 = .ok (.getfield 138, 3) := by decide +kernel
theorem dX6_years_77 : decode cX6_years 77 = .ok (.iload_n 2, 1) := by decide +kernel
theorem dX6_years_78 : decode cX6_years 78 = .ok (.isub, 1) := by decide +kernel
theorem dX6_years_79 : decode cX6_years 79 = .ok (.ireturn, 1) := by decide +kernel
theorem dX6_ifYears_0 : decode cX6_ifYears 0 = .ok (.iload_n 1, 1) := by decide +kernel
theorem dX6_ifYears_1 : decode cX6_ifYears 1 = .ok (.iconst 1, 1) := by decide +kernel
theorem dX6_ifYears_2 : decode cX6_ifYears 2 = .ok (.bipush 100, 2) := by decide +kernel
theorem dX6_ifYears_4 : decode cX6_ifYears 4 = .ok (.invokestatic 34, 3) := by decide +kernel
theorem dX6_ifYears_7 : decode cX6_ifYears 7 = .ok (.ifCond .eq 12, 3) := by decide +kernel
theorem dX6_ifYears_10 : decode cX6_ifYears 10 = .ok (.iload_n 2, 1) := by decide +kernel
theorem dX6_ifYears_11 : decode cX6_ifYears 11 = .ok (.iconst 0, 1) := by decide +kernel
theorem dX6_ifYears_12 : decode cX6_ifYears 12 = .ok (.iconst 4, 1) := by decide +kernel
theorem dX6_ifYears_13 : decode cX6_ifYears 13 = .ok (.invokestatic 34, 3) := by decide +kernel
theorem dX6_ifYears_16 : decode cX6_ifYears 16 = .ok (.ifCond .ne 6, 3) := by decide +kernel
theorem dX6_ifYears_19 : decode cX6_ifYears 19 = .ok (.ldc 38, 2) := by decide +kernel
theorem dX6_ifYears_21 : decode cX6_ifYears 21 = .ok (.ireturn, 1) := by decide +kernel
theorem dX6_ifYears_22 : decode cX6_ifYears 22 = .ok (.aload_n 0, 1) := by decide +kernel
theorem dX6_ifYears_23 : decode cX6_ifYears 23 = .ok (.getfield 27, 3) := by decide +kernel
theorem dX6_ifYears_26 : decode cX6_ifYears 26 = .ok (.getfield 58, 3) := by decide +kernel
theorem dX6_ifYears_29 : decode cX6_ifYears 29 = .ok (.ifCond .ne 6, 3) := by decide +kernel
theorem dX6_ifYears_32 : decode cX6_ifYears 32 = .ok (.ldc 57, 2) := by decide +kernel
theorem dX6_ifYears_34 : decode cX6_ifYears 34 = .ok (.ireturn, 1) := by decide +kernel
theorem dX6_ifYears_35 : decode cX6_ifYears 35 = .ok (.aload_n 0, 1) := by decide +kernel
theorem dX6_ifYears_36 : decode cX6_ifYears 36 = .ok (.getfield 12, 3) := by decide +kernel
theorem dX6_ifYears_39 : decode cX6_ifYears 39 = .ok (.aload_n 0, 1) := by decide +kernel
theorem dX6_ifYears_40 : decode cX6_ifYears 40 = .ok (.getfield 27, 3) := by decide +kernel
theorem dX6_ifYears_43 : decode cX6_ifYears 43 = .ok (.invokevirtual 223, 3) := by decide +kernel
theorem dX6_ifYears_46 : decode cX6_ifYears 46 = .ok (.aload_n 0, 1) := by decide +kernel
theorem dX6_ifYears_47 : decode cX6_ifYears 47 = .ok (.getfield 12, 3) := by decide +kernel
theorem dX6_ifYears_50 : decode cX6_ifYears 50 = .ok (.iload_n 1, 1) := by decide +kernel
theorem dX6_ifYears_51 : decode cX6_ifYears 51 = .ok (.invokevirtual 219, 3) := by decide +kernel
theorem dX6_ifYears_54 : decode cX6_ifYears 54 = .ok (.iload_n 2, 1) := by decide +kernel
theorem dX6_ifYears_55 : decode cX6_ifYears 55 = .ok (.tableswitch 85 0 3 #[29, 38, 60, 77], 29) := by decide +kernel
theorem dX6_ifYears_84 : decode cX6_ifYears 84 = .ok (.aload_n 0, 1) := by decide +kernel
theorem dX6_ifYears_85 : decode cX6_ifYears 85 = .ok (.getfield 12, 3) := by decide +kernel
theorem dX6_ifYears_88 : decode cX6_ifYears 88 = .ok (.invokevirtual 158, 3) := by decide +kernel
theorem dX6_ifYears_91 : decode cX6_ifYears 91 = .ok (.l2i, 1) := by decide +kernel
theorem dX6_ifYears_92 : decode cX6_ifYears 92 = .ok (.ireturn, 1) := by decide +kernel
theorem dX6_ifYears_93 : decode cX6_ifYears 93 = .ok (.aload_n 0, 1) := by decide +kernel
theorem dX6_ifYears_94 : decode cX6_ifYears 94 = .ok (.getfield 12, 3) := by decide +kernel
theorem dX6_ifYears_97 : decode cX6_ifYears 97 = .ok (.getfield 128, 3) := by decide +kernel
theorem dX6_ifYears_100 : decode cX6_ifYears 100 = .ok (.getfield 138, 3) := by decide +kernel
theorem dX6_ifYears_103 : decode cX6_ifYears 103 = .ok (.aload_n 0, 1) := by decide +kernel
theorem dX6_ifYears_104 : decode cX6_ifYears 104 = .ok (.getfield 27, 3) := by decide +kernel
theorem dX6_ifYears_107 : decode cX6_ifYears 107 = .ok (.getfield 128, 3) := by decide +kernel
theorem dX6_ifYears_110 : decode cX6_ifYears 110 = .ok (.getfield 138, 3) := by decide +kernel
theorem dX6_ifYears_113 : decode cX6_ifYears 113 = .ok (.isub, 1) := by decide +kernel
theorem dX6_ifYears_114 : decode cX6_ifYears 114 = .ok (.ireturn, 1) := by decide +kernel
theorem dX6_ifYears_115 : decode cX6_ifYears 115 = .ok (.aload_n 0, 1) := by decide +kernel
theorem dX6_ifYears_116 : decode cX6_ifYears 116 = .ok (.getfield 12, 3) := by decide +kernel
theorem dX6_ifYears_119 : decode cX6_ifYears 119 = .ok (.getfield 153, 3) := by decide +kernel
theorem dX6_ifYears_122 : decode cX6_ifYears 122 = .ok (.aload_n 0, 1) := by decide +kernel
theorem dX6_ifYears_123 : decode cX6_ifYears 123 = .ok (.getfield 27, 3) := by decide +kernel
theorem dX6_ifYears_126 : decode cX6_ifYears 126 = .ok (.getfield 153, 3) := by decide +kernel
theorem dX6_ifYears_129 : decode cX6_ifYears 129 = .ok (.lsub, 1) := by decide +kernel
theorem dX6_ifYears_130 : decode cX6_ifYears 130 = .ok (.l2i, 1) := by decide +kernel
theorem dX6_ifYears_131 : decode cX6_ifYears 131 = .ok (.ireturn, 1) := by decide +kernel
theorem dX6_ifYears_132 : decode cX6_ifYears 132 = .ok (.aload_n 0, 1) := by decide +kernel
theorem dX6_ifYears_133 : decode cX6_ifYears 133 = .ok (.getfield 12, 3) := by decide +kernel
theorem dX6_ifYears_136 : decode cX6_ifYears 136 = .ok (.invokevirtual 171, 3) := by decide +kernel
theorem dX6_ifYears_139 : decode cX6_ifYears 139 = .ok (.ireturn, 1) := by decide +kernel
theorem dX6_ifYears_140 : decode cX6_ifYears 140 = .ok (.aload_n 0, 1) := by decide +kernel
theorem dX6_ifYears_141 : decode cX6_ifYears 141 = .ok (.getfield 12, 3) := by decide +kernel
theorem dX6_ifYears_144 : decode cX6_ifYears 144 = .ok (.invokevirtual 227, 3) := by decide +kernel
theorem dX6_ifYears_147 : decode cX6_ifYears 147 = .ok (.ifCond .ne 8, 3) := by decide +kernel
theorem dX6_ifYears_150 : decode cX6_ifYears 150 = .ok (.ldc 97, 2) := by decide +kernel
theorem dX6_ifYears_152 : decode cX6_ifYears 152 = .ok (.goto 10, 3) := by decide +kernel
theorem dX6_ifYears_155 : decode cX6_ifYears 155 = .ok (.aload_n 0, 1) := by decide +kernel
theorem dX6_ifYears_156 : decode cX6_ifYears 156 = .ok (.getfield 12, 3) := by decide +kernel
theorem dX6_ifYears_159 : decode cX6_ifYears 159 = .ok (.invokevirtual 230, 3) := by decide +kernel
theorem dX6_ifYears_162 : decode cX6_ifYears 162 = .ok (.ireturn, 1) := by decide +kernel
theorem dX6_yearsTo_0 : decode cX6_yearsTo 0 = .ok (.iload_n 1, 1) := by decide +kernel
theorem dX6_yearsTo_1 : decode cX6_yearsTo 1 = .ok (.iconst 0, 1) := by decide +kernel
theorem dX6_yearsTo_2 : decode cX6_yearsTo 2 = .ok (.iconst 2, 1) := by decide +kernel
theorem dX6_yearsTo_3 : decode cX6_yearsTo 3 = .ok (.invokestatic 34, 3) := by decide +kernel
theorem dX6_yearsTo_6 : decode cX6_yearsTo 6 = .ok (.ifCond .ne 6, 3) := by decide +kernel
theorem dX6_yearsTo_9 : decode cX6_yearsTo 9 = .ok (.ldc 38, 2) := by decide +kernel
theorem dX6_yearsTo_11 : decode cX6_yearsTo 11 = .ok (.ireturn, 1) := by decide +kernel
theorem dX6_yearsTo_12 : decode cX6_yearsTo 12 = .ok (.aload_n 0, 1) := by decide +kernel
theorem dX6_yearsTo_13 : decode cX6_yearsTo 13 = .ok (.getfield 27, 3) := by decide +kernel
theorem dX6_yearsTo_16 : decode cX6_yearsTo 16 = .ok (.getfield 58, 3) := by decide +kernel
theorem dX6_yearsTo_19 : decode cX6_yearsTo 19 = .ok (.ifCond .ne 6, 3) := by decide +kernel
theorem dX6_yearsTo_22 : decode cX6_yearsTo 22 = .ok (.ldc 57, 2) := by decide +kernel
theorem dX6_yearsTo_24 : decode cX6_yearsTo 24 = .ok (.ireturn, 1) := by decide +kernel
theorem dX6_yearsTo_25 : decode cX6_yearsTo 25 = .ok (.aload_n 0, 1) := by decide +kernel
theorem dX6_yearsTo_26 : decode cX6_yearsTo 26 = .ok (.getfield 12, 3) := by decide +kernel
theorem dX6_yearsTo_29 : decode cX6_yearsTo 29 = .ok (.aload_n 0, 1) := by decide +kernel
theorem dX6_yearsTo_30 : decode cX6_yearsTo 30 = .ok (.getfield 27, 3) := by decide +kernel
theorem dX6_yearsTo_33 : decode cX6_yearsTo 33 = .ok (.invokevirtual 223, 3) := by decide +kernel
theorem dX6_yearsTo_36 : decode cX6_yearsTo 36 = .ok (.iconst 1, 1) := by decide +kernel
theorem dX6_yearsTo_37 : decode cX6_yearsTo 37 = .ok (.istore_n 2, 1) := by decide +kernel
theorem dX6_yearsTo_38 : decode cX6_yearsTo 38 = .ok (.iload_n 2, 1) := by decide +kernel
theorem dX6_yearsTo_39 : decode cX6_yearsTo 39 = .ok (.sipush 300, 3) := by decide +kernel
theorem dX6_yearsTo_42 : decode cX6_yearsTo 42 = .ok (.if_icmp .gt 38, 3) := by decide +kernel
theorem dX6_yearsTo_45 : decode cX6_yearsTo 45 = .ok (.aload_n 0, 1) := by decide +kernel
theorem dX6_yearsTo_46 : decode cX6_yearsTo 46 = .ok (.getfield 12, 3) := by decide +kernel
theorem dX6_yearsTo_49 : decode cX6_yearsTo 49 = .ok (.getfield 128, 3) := by decide +kernel
theorem dX6_yearsTo_52 : decode cX6_yearsTo 52 = .ok (.getfield 138, 3) := by decide +kernel
theorem dX6_yearsTo_55 : decode cX6_yearsTo 55 = .ok (.istore_n 3, 1) := by decide +kernel
theorem dX6_yearsTo_56 : decode cX6_yearsTo 56 = .ok (.aload_n 0, 1) := by decide +kernel
theorem dX6_yearsTo_57 : decode cX6_yearsTo 57 = .ok (.getfield 12, 3) := by decide +kernel
theorem dX6_yearsTo_60 : decode cX6_yearsTo 60 = .ok (.invokevirtual 233, 3) := by decide +kernel
theorem dX6_yearsTo_63 : decode cX6_yearsTo 63 = .ok (.aload_n 0, 1) := by decide +kernel
theorem dX6_yearsTo_64 : decode cX6_yearsTo 64 = .ok (.iload_n 1, 1) := by decide +kernel
theorem dX6_yearsTo_65 : decode cX6_yearsTo 65 = .ok (.iload_n 3, 1) := by decide +kernel
theorem dX6_yearsTo_66 : decode cX6_yearsTo 66 = .ok (.invokevirtual 236, 3) := by decide +kernel
theorem dX6_yearsTo_69 : decode cX6_yearsTo 69 = .ok (.ifCond .eq 5, 3) := by decide +kernel
theorem dX6_yearsTo_72 : decode cX6_yearsTo 72 = .ok (.iload_n 2, 1) := by decide +kernel
theorem dX6_yearsTo_73 : decode cX6_yearsTo 73 = .ok (.ireturn, 1) := by decide +kernel
theorem dX6_yearsTo_74 : decode cX6_yearsTo 74 = .ok (.iinc 2 1, 3) := by decide +kernel
theorem dX6_yearsTo_77 : decode cX6_yearsTo 77 = .ok (.goto (-39), 3) := by decide +kernel
theorem dX6_yearsTo_80 : decode cX6_yearsTo 80 = .ok (.ldc 97, 2) := by decide +kernel
theorem dX6_yearsTo_82 : decode cX6_yearsTo 82 = .ok (.ireturn, 1) := by decide +kernel
theorem dX6_isSoInTrial_0 : decode cX6_isSoInTrial 0 = .ok (.iload_n 1, 1) := by decide +kernel
theorem dX6_isSoInTrial_1 : decode cX6_isSoInTrial 1 = .ok (.lookupswitch 63 #[(0, 27), (1, 47)], 27) := by decide +kernel
theorem dX6_isSoInTrial_28 : decode cX6_isSoInTrial 28 = .ok (.aload_n 0, 1) := by decide +kernel
theorem dX6_isSoInTrial_29 : decode cX6_isSoInTrial 29 = .ok (.getfield 12, 3) := by decide +kernel
theorem dX6_isSoInTrial_32 : decode cX6_isSoInTrial 32 = .ok (.getfield 128, 3) := by decide +kernel
theorem dX6_isSoInTrial_35 : decode cX6_isSoInTrial 35 = .ok (.getfield 138, 3) := by decide +kernel
theorem dX6_isSoInTrial_38 : decode cX6_isSoInTrial 38 = .ok (.iload_n 2, 1) := by decide +kernel
theorem dX6_isSoInTrial_39 : decode cX6_isSoInTrial 39 = .ok (.if_icmp .le 7, 3) := by decide +kernel
theorem dX6_isSoInTrial_42 : decode cX6_isSoInTrial 42 = .ok (.iconst 1, 1) := by decide +kernel
theorem dX6_isSoInTrial_43 : decode cX6_isSoInTrial 43 = .ok (.goto 4, 3) := by decide +kernel
theorem dX6_isSoInTrial_46 : decode cX6_isSoInTrial 46 = .ok (.iconst 0, 1) := by decide +kernel
theorem dX6_isSoInTrial_47 : decode cX6_isSoInTrial 47 = .ok (.ireturn, 1) := by decide +kernel
theorem dX6_isSoInTrial_48 : decode cX6_isSoInTrial 48 = .ok (.aload_n 0, 1) := by decide +kernel
theorem dX6_isSoInTrial_49 : decode cX6_isSoInTrial 49 = .ok (.getfield 12, 3) := by decide +kernel
theorem dX6_isSoInTrial_52 : decode cX6_isSoInTrial 52 = .ok (.invokevirtual 227, 3) := by decide +kernel
theorem dX6_isSoInTrial_55 : decode cX6_isSoInTrial 55 = .ok (.ifCond .ne 7, 3) := by decide +kernel
theorem dX6_isSoInTrial_58 : decode cX6_isSoInTrial 58 = .ok (.iconst 1, 1) := by decide +kernel
theorem dX6_isSoInTrial_59 : decode cX6_isSoInTrial 59 = .ok (.goto 4, 3) := by decide +kernel
theorem dX6_isSoInTrial_62 : decode cX6_isSoInTrial 62 = .ok (.iconst 0, 1) := by decide +kernel
theorem dX6_isSoInTrial_63 : decode cX6_isSoInTrial 63 = .ok (.ireturn, 1) := by decide +kernel
theorem dX6_isSoInTrial_64 : decode cX6_isSoInTrial 64 = .ok (.aload_n 0, 1) := by decide +kernel
theorem dX6_isSoInTrial_65 : decode cX6_isSoInTrial 65 = .ok (.getfield 12, 3) := by decide +kernel
theorem dX6_isSoInTrial_68 : decode cX6_isSoInTrial 68 = .ok (.invokevirtual 171, 3) := by decide +kernel
theorem dX6_isSoInTrial_71 : decode cX6_isSoInTrial 71 = .ok (.ifCond .ne 7, 3) := by decide +kernel
theorem dX6_isSoInTrial_74 : decode cX6_isSoInTrial 74 = .ok (.iconst 1, 1) := by decide +kernel
theorem dX6_isSoInTrial_75 : decode cX6_isSoInTrial 75 = .ok (.goto 4, 3) := by decide +kernel
theorem dX6_isSoInTrial_78 : decode cX6_isSoInTrial 78 = .ok (.iconst 0, 1) := by decide +kernel
theorem dX6_isSoInTrial_79 : decode cX6_isSoInTrial 79 = .ok (.ireturn, 1) := by decide +kernel
theorem dX6_steadyMelt_0 : decode cX6_steadyMelt 0 = .ok (.aload_n 0, 1) := by decide +kernel
theorem dX6_steadyMelt_1 : decode cX6_steadyMelt 1 = .ok (.getfield 27, 3) := by decide +kernel
theorem dX6_steadyMelt_4 : decode cX6_steadyMelt 4 = .ok (.getfield 58, 3) := by decide +kernel
theorem dX6_steadyMelt_7 : decode cX6_steadyMelt 7 = .ok (.ifCond .ne 6, 3) := by decide +kernel
theorem dX6_steadyMelt_10 : decode cX6_steadyMelt 10 = .ok (.ldc 57, 2) := by decide +kernel
theorem dX6_steadyMelt_12 : decode cX6_steadyMelt 12 = .ok (.ireturn, 1) := by decide +kernel
theorem dX6_steadyMelt_13 : decode cX6_steadyMelt 13 = .ok (.aload_n 0, 1) := by decide +kernel
theorem dX6_steadyMelt_14 : decode cX6_steadyMelt 14 = .ok (.getfield 27, 3) := by decide +kernel
theorem dX6_steadyMelt_17 : decode cX6_steadyMelt 17 = .ok (.getstatic 39, 3) := by decide +kernel
theorem dX6_steadyMelt_20 : decode cX6_steadyMelt 20 = .ok (.iconst 2, 1) := by decide +kernel
theorem dX6_steadyMelt_21 : decode cX6_steadyMelt 21 = .ok (.iaload, 1) := by decide +kernel
theorem dX6_steadyMelt_22 : decode cX6_steadyMelt 22 = .ok (.invokevirtual 239, 3) := by decide +kernel
theorem dX6_steadyMelt_25 : decode cX6_steadyMelt 25 = .ok (.ifCond .ne 6, 3) := by decide +kernel
theorem dX6_steadyMelt_28 : decode cX6_steadyMelt 28 = .ok (.ldc 97, 2) := by decide +kernel
theorem dX6_steadyMelt_30 : decode cX6_steadyMelt 30 = .ok (.ireturn, 1) := by decide +kernel
theorem dX6_steadyMelt_31 : decode cX6_steadyMelt 31 = .ok (.getstatic 39, 3) := by decide +kernel
theorem dX6_steadyMelt_34 : decode cX6_steadyMelt 34 = .ok (.iconst 2, 1) := by decide +kernel
theorem dX6_steadyMelt_35 : decode cX6_steadyMelt 35 = .ok (.iaload, 1) := by decide +kernel
theorem dX6_steadyMelt_36 : decode cX6_steadyMelt 36 = .ok (.istore_n 1, 1) := by decide +kernel
theorem dX6_steadyMelt_37 : decode cX6_steadyMelt 37 = .ok (.sipush 8192, 3) := by decide +kernel
theorem dX6_steadyMelt_40 : decode cX6_steadyMelt 40 = .ok (.istore_n 2, 1) := by decide +kernel
theorem dX6_steadyMelt_41 : decode cX6_steadyMelt 41 = .ok (.iload_n 2, 1) := by decide +kernel
theorem dX6_steadyMelt_42 : decode cX6_steadyMelt 42 = .ok (.ifCond .le 38, 3) := by decide +kernel
theorem dX6_steadyMelt_45 : decode cX6_steadyMelt 45 = .ok (.iload_n 1, 1) := by decide +kernel
theorem dX6_steadyMelt_46 : decode cX6_steadyMelt 46 = .ok (.iload_n 2, 1) := by decide +kernel
theorem dX6_steadyMelt_47 : decode cX6_steadyMelt 47 = .ok (.iadd, 1) := by decide +kernel
theorem dX6_steadyMelt_48 : decode cX6_steadyMelt 48 = .ok (.getstatic 43, 3) := by decide +kernel
theorem dX6_steadyMelt_51 : decode cX6_steadyMelt 51 = .ok (.iconst 2, 1) := by decide +kernel
theorem dX6_steadyMelt_52 : decode cX6_steadyMelt 52 = .ok (.iaload, 1) := by decide +kernel
theorem dX6_steadyMelt_53 : decode cX6_steadyMelt 53 = .ok (.if_icmp .gt 20, 3) := by decide +kernel
theorem dX6_steadyMelt_56 : decode cX6_steadyMelt 56 = .ok (.aload_n 0, 1) := by decide +kernel
theorem dX6_steadyMelt_57 : decode cX6_steadyMelt 57 = .ok (.getfield 27, 3) := by decide +kernel
theorem dX6_steadyMelt_60 : decode cX6_steadyMelt 60 = .ok (.iload_n 1, 1) := by decide +kernel
theorem dX6_steadyMelt_61 : decode cX6_steadyMelt 61 = .ok (.iload_n 2, 1) := by decide +kernel
theorem dX6_steadyMelt_62 : decode cX6_steadyMelt 62 = .ok (.iadd, 1) := by decide +kernel
theorem dX6_steadyMelt_63 : decode cX6_steadyMelt 63 = .ok (.invokevirtual 239, 3) := by decide +kernel
theorem dX6_steadyMelt_66 : decode cX6_steadyMelt 66 = .ok (.ifCond .eq 7, 3) := by decide +kernel
theorem dX6_steadyMelt_69 : decode cX6_steadyMelt 69 = .ok (.iload_n 1, 1) := by decide +kernel
theorem dX6_steadyMelt_70 : decode cX6_steadyMelt 70 = .ok (.iload_n 2, 1) := by decide +kernel
theorem dX6_steadyMelt_71 : decode cX6_steadyMelt 71 = .ok (.iadd, 1) := by decide +kernel
theorem dX6_steadyMelt_72 : decode cX6_steadyMelt 72 = .ok (.istore_n 1, 1) := by decide +kernel
theorem dX6_steadyMelt_73 : decode cX6_steadyMelt 73 = .ok (.iload_n 2, 1) := by decide +kernel
theorem dX6_steadyMelt_74 : decode cX6_steadyMelt 74 = .ok (.iconst 2, 1) := by decide +kernel
theorem dX6_steadyMelt_75 : decode cX6_steadyMelt 75 = .ok (.idiv, 1) := by decide +kernel
theorem dX6_steadyMelt_76 : decode cX6_steadyMelt 76 = .ok (.istore_n 2, 1) := by decide +kernel
theorem dX6_steadyMelt_77 : decode cX6_steadyMelt 77 = .ok (.goto (-36), 3) := by decide +kernel
theorem dX6_steadyMelt_80 : decode cX6_steadyMelt 80 = .ok (.iload_n 1, 1) := by decide +kernel
theorem dX6_steadyMelt_81 : decode cX6_steadyMelt 81 = .ok (.ireturn, 1) := by decide +kernel
theorem dX6_undo_0 : decode cX6_undo 0 = .ok (.aload_n 0, 1) := by decide +kernel
theorem dX6_undo_1 : decode cX6_undo 1 = .ok (.getfield 30, 3) := by decide +kernel
theorem dX6_undo_4 : decode cX6_undo 4 = .ok (.ifCond .ne 6, 3) := by decide +kernel
theorem dX6_undo_7 : decode cX6_undo 7 = .ok (.ldc 57, 2) := by decide +kernel
theorem dX6_undo_9 : decode cX6_undo 9 = .ok (.ireturn, 1) := by decide +kernel
theorem dX6_undo_10 : decode cX6_undo 10 = .ok (.aload_n 0, 1) := by decide +kernel
theorem dX6_undo_11 : decode cX6_undo 11 = .ok (.dup, 1) := by decide +kernel
theorem dX6_undo_12 : decode cX6_undo 12 = .ok (.getfield 30, 3) := by decide +kernel
theorem dX6_undo_15 : decode cX6_undo 15 = .ok (.iconst 1, 1) := by decide +kernel
theorem dX6_undo_16 : decode cX6_undo 16 = .ok (.isub, 1) := by decide +kernel
theorem dX6_undo_17 : decode cX6_undo 17 = .ok (.putfield 30, 3) := by decide +kernel
theorem dX6_undo_20 : decode cX6_undo 20 = .ok (.aload_n 0, 1) := by decide +kernel
theorem dX6_undo_21 : decode cX6_undo 21 = .ok (.getfield 16, 3) := by decide +kernel
theorem dX6_undo_24 : decode cX6_undo 24 = .ok (.aload_n 0, 1) := by decide +kernel
theorem dX6_undo_25 : decode cX6_undo 25 = .ok (.getfield 30, 3) := by decide +kernel
theorem dX6_undo_28 : decode cX6_undo 28 = .ok (.aaload, 1) := by decide +kernel
theorem dX6_undo_29 : decode cX6_undo 29 = .ok (.astore_n 1, 1) := by decide +kernel
theorem dX6_undo_30 : decode cX6_undo 30 = .ok (.aload_n 0, 1) := by decide +kernel
theorem dX6_undo_31 : decode cX6_undo 31 = .ok (.getfield 16, 3) := by decide +kernel
theorem dX6_undo_34 : decode cX6_undo 34 = .ok (.aload_n 0, 1) := by decide +kernel
theorem dX6_undo_35 : decode cX6_undo 35 = .ok (.getfield 30, 3) := by decide +kernel
theorem dX6_undo_38 : decode cX6_undo 38 = .ok (.aload_n 0, 1) := by decide +kernel
theorem dX6_undo_39 : decode cX6_undo 39 = .ok (.getfield 27, 3) := by decide +kernel
theorem dX6_undo_42 : decode cX6_undo 42 = .ok (.aastore, 1) := by decide +kernel
theorem dX6_undo_43 : decode cX6_undo 43 = .ok (.aload_n 0, 1) := by decide +kernel
theorem dX6_undo_44 : decode cX6_undo 44 = .ok (.aload_n 1, 1) := by decide +kernel
theorem dX6_undo_45 : decode cX6_undo 45 = .ok (.putfield 27, 3) := by decide +kernel
theorem dX6_undo_48 : decode cX6_undo 48 = .ok (.aload_n 0, 1) := by decide +kernel
theorem dX6_undo_49 : decode cX6_undo 49 = .ok (.getfield 30, 3) := by decide +kernel
theorem dX6_undo_52 : decode cX6_undo 52 = .ok (.ireturn, 1) := by decide +kernel
theorem dX6_recordState_0 : decode cX6_recordState 0 = .ok (.aload_n 0, 1) := by decide +kernel
theorem dX6_recordState_1 : decode cX6_recordState 1 = .ok (.getfield 30, 3) := by decide +kernel
theorem dX6_recordState_4 : decode cX6_recordState 4 = .ok (.iconst 4, 1) := by decide +kernel
theorem dX6_recordState_5 : decode cX6_recordState 5 = .ok (.if_icmp .lt 7, 3) := by decide +kernel
theorem dX6_recordState_8 : decode cX6_recordState 8 = .ok (.aload_n 0, 1) := by decide +kernel
theorem dX6_recordState_9 : decode cX6_recordState 9 = .ok (.invokevirtual 242, 3) := by decide +kernel
theorem dX6_recordState_12 : decode cX6_recordState 12 = .ok (.aload_n 0, 1) := by decide +kernel
theorem dX6_recordState_13 : decode cX6_recordState 13 = .ok (.getfield 16, 3) := by decide +kernel
theorem dX6_recordState_16 : decode cX6_recordState 16 = .ok (.aload_n 0, 1) := by decide +kernel
theorem dX6_recordState_17 : decode cX6_recordState 17 = .ok (.getfield 30, 3) := by decide +kernel
theorem dX6_recordState_20 : decode cX6_recordState 20 = .ok (.aaload, 1) := by decide +kernel
theorem dX6_recordState_21 : decode cX6_recordState 21 = .ok (.aload_n 0, 1) := by decide +kernel
theorem dX6_recordState_22 : decode cX6_recordState 22 = .ok (.getfield 27, 3) := by decide +kernel
theorem dX6_recordState_25 : decode cX6_recordState 25 = .ok (.invokevirtual 223, 3) := by decide +kernel
theorem dX6_recordState_28 : decode cX6_recordState 28 = .ok (.aload_n 0, 1) := by decide +kernel
theorem dX6_recordState_29 : decode cX6_recordState 29 = .ok (.dup, 1) := by decide +kernel
theorem dX6_recordState_30 : decode cX6_recordState 30 = .ok (.getfield 30, 3) := by decide +kernel
theorem dX6_recordState_33 : decode cX6_recordState 33 = .ok (.iconst 1, 1) := by decide +kernel
theorem dX6_recordState_34 : decode cX6_recordState 34 = .ok (.iadd, 1) := by decide +kernel
theorem dX6_recordState_35 : decode cX6_recordState 35 = .ok (.putfield 30, 3) := by decide +kernel
theorem dX6_recordState_38 : decode cX6_recordState 38 = .ok (.return_, 1) := by decide +kernel
theorem dX6_dropOldestState_0 : decode cX6_dropOldestState 0 = .ok (.aload_n 0, 1) := by decide +kernel
theorem dX6_dropOldestState_1 : decode cX6_dropOldestState 1 = .ok (.getfield 16, 3) := by decide +kernel
theorem dX6_dropOldestState_4 : decode cX6_dropOldestState 4 = .ok (.iconst 0, 1) := by decide +kernel
theorem dX6_dropOldestState_5 : decode cX6_dropOldestState 5 = .ok (.aaload, 1) := by decide +kernel
theorem dX6_dropOldestState_6 : decode cX6_dropOldestState 6 = .ok (.astore_n 1, 1) := by decide +kernel
theorem dX6_dropOldestState_7 : decode cX6_dropOldestState 7 = .ok (.iconst 1, 1) := by decide +kernel
theorem dX6_dropOldestState_8 : decode cX6_dropOldestState 8 = .ok (.istore_n 2, 1) := by decide +kernel
theorem dX6_dropOldestState_9 : decode cX6_dropOldestState 9 = .ok (.iload_n 2, 1) := by decide +kernel
theorem dX6_dropOldestState_10 : decode cX6_dropOldestState 10 = .ok (.aload_n 0, 1) := by decide +kernel
theorem dX6_dropOldestState_11 : decode cX6_dropOldestState 11 = .ok (.getfield 16, 3) := by decide +kernel
theorem dX6_dropOldestState_14 : decode cX6_dropOldestState 14 = .ok (.arraylength, 1) := by decide +kernel
theorem dX6_dropOldestState_15 : decode cX6_dropOldestState 15 = .ok (.if_icmp .ge 23, 3) := by decide +kernel
theorem dX6_dropOldestState_18 : decode cX6_dropOldestState 18 = .ok (.aload_n 0, 1) := by decide +kernel
theorem dX6_dropOldestState_19 : decode cX6_dropOldestState 19 = .ok (.getfield 16, 3) := by decide +kernel
theorem dX6_dropOldestState_22 : decode cX6_dropOldestState 22 = .ok (.iload_n 2, 1) := by decide +kernel
theorem dX6_dropOldestState_23 : decode cX6_dropOldestState 23 = .ok (.iconst 1, 1) := by decide +kernel
theorem dX6_dropOldestState_24 : decode cX6_dropOldestState 24 = .ok (.isub, 1) := by decide +kernel
theorem dX6_dropOldestState_25 : decode cX6_dropOldestState 25 = .ok (.aload_n 0, 1) := by decide +kernel
theorem dX6_dropOldestState_26 : decode cX6_dropOldestState 26 = .ok (.getfield 16, 3) := by decide +kernel
theorem dX6_dropOldestState_29 : decode cX6_dropOldestState 29 = .ok (.iload_n 2, 1) := by decide +kernel
theorem dX6_dropOldestState_30 : decode cX6_dropOldestState 30 = .ok (.aaload, 1) := by decide +kernel
theorem dX6_dropOldestState_31 : decode cX6_dropOldestState 31 = .ok (.aastore, 1) := by decide +kernel
theorem dX6_dropOldestState_32 : decode cX6_dropOldestState 32 = .ok (.iinc 2 1, 3) := by decide +kernel
theorem dX6_dropOldestState_35 : decode cX6_dropOldestState 35 = .ok (.goto (-26), 3) := by decide +kernel
theorem dX6_dropOldestState_38 : decode cX6_dropOldestState 38 = .ok (.aload_n 0, 1) := by decide +kernel
theorem dX6_dropOldestState_39 : decode cX6_dropOldestState 39 = .ok (.getfield 16, 3) := by decide +kernel
theorem dX6_dropOldestState_42 : decode cX6_dropOldestState 42 = .ok (.iconst 3, 1) := by decide +kernel
theorem dX6_dropOldestState_43 : decode cX6_dropOldestState 43 = .ok (.aload_n 1, 1) := by decide +kernel
theorem dX6_dropOldestState_44 : decode cX6_dropOldestState 44 = .ok (.aastore, 1) := by decide +kernel
theorem dX6_dropOldestState_45 : decode cX6_dropOldestState 45 = .ok (.aload_n 0, 1) := by decide +kernel
theorem dX6_dropOldestState_46 : decode cX6_dropOldestState 46 = .ok (.iconst 3, 1) := by decide +kernel
theorem dX6_dropOldestState_47 : decode cX6_dropOldestState 47 = .ok (.putfield 30, 3) := by decide +kernel
theorem dX6_dropOldestState_50 : decode cX6_dropOldestState 50 = .ok (.return_, 1) := by decide +kernel
theorem dX6_type_0 : decode cX6_type 0 = .ok (.iload_n 1, 1) := by decide +kernel
theorem dX6_type_1 : decode cX6_type 1 = .ok (.bipush 32, 2) := by decide +kernel
theorem dX6_type_3 : decode cX6_type 3 = .ok (.bipush 126, 2) := by decide +kernel
theorem dX6_type_5 : decode cX6_type 5 = .ok (.invokestatic 34, 3) := by decide +kernel
theorem dX6_type_8 : decode cX6_type 8 = .ok (.ifCond .ne 6, 3) := by decide +kernel
theorem dX6_type_11 : decode cX6_type 11 = .ok (.ldc 38, 2) := by decide +kernel
theorem dX6_type_13 : decode cX6_type 13 = .ok (.ireturn, 1) := by decide +kernel
theorem dX6_type_14 : decode cX6_type 14 = .ok (.aload_n 0, 1) := by decide +kernel
theorem dX6_type_15 : decode cX6_type 15 = .ok (.getfield 23, 3) := by decide +kernel
theorem dX6_type_18 : decode cX6_type 18 = .ok (.getfield 180, 3) := by decide +kernel
theorem dX6_type_21 : decode cX6_type 21 = .ok (.bipush 60, 2) := by decide +kernel
theorem dX6_type_23 : decode cX6_type 23 = .ok (.if_icmp .lt 6, 3) := by decide +kernel
theorem dX6_type_26 : decode cX6_type 26 = .ok (.ldc 61, 2) := by decide +kernel
theorem dX6_type_28 : decode cX6_type 28 = .ok (.ireturn, 1) := by decide +kernel
theorem dX6_type_29 : decode cX6_type 29 = .ok (.aload_n 0, 1) := by decide +kernel
theorem dX6_type_30 : decode cX6_type 30 = .ok (.getfield 23, 3) := by decide +kernel
theorem dX6_type_33 : decode cX6_type 33 = .ok (.iload_n 1, 1) := by decide +kernel
theorem dX6_type_34 : decode cX6_type 34 = .ok (.i2c, 1) := by decide +kernel
theorem dX6_type_35 : decode cX6_type 35 = .ok (.invokevirtual 245, 3) := by decide +kernel
theorem dX6_type_38 : decode cX6_type 38 = .ok (.aload_n 0, 1) := by decide +kernel
theorem dX6_type_39 : decode cX6_type 39 = .ok (.getfield 23, 3) := by decide +kernel
theorem dX6_type_42 : decode cX6_type 42 = .ok (.getfield 180, 3) := by decide +kernel
theorem dX6_type_45 : decode cX6_type 45 = .ok (.ireturn, 1) := by decide +kernel
theorem dX6_clearText_0 : decode cX6_clearText 0 = .ok (.aload_n 0, 1) := by decide +kernel
theorem dX6_clearText_1 : decode cX6_clearText 1 = .ok (.getfield 23, 3) := by decide +kernel
theorem dX6_clearText_4 : decode cX6_clearText 4 = .ok (.getfield 180, 3) := by decide +kernel
theorem dX6_clearText_7 : decode cX6_clearText 7 = .ok (.istore_n 1, 1) := by decide +kernel
theorem dX6_clearText_8 : decode cX6_clearText 8 = .ok (.aload_n 0, 1) := by decide +kernel
theorem dX6_clearText_9 : decode cX6_clearText 9 = .ok (.getfield 23, 3) := by decide +kernel
theorem dX6_clearText_12 : decode cX6_clearText 12 = .ok (.iconst 0, 1) := by decide +kernel
theorem dX6_clearText_13 : decode cX6_clearText 13 = .ok (.putfield 180, 3) := by decide +kernel
theorem dX6_clearText_16 : decode cX6_clearText 16 = .ok (.iload_n 1, 1) := by decide +kernel
theorem dX6_clearText_17 : decode cX6_clearText 17 = .ok (.ireturn, 1) := by decide +kernel
theorem dX6_fault_0 : decode cX6_fault 0 = .ok (.iload_n 1, 1) := by decide +kernel
theorem dX6_fault_1 : decode cX6_fault 1 = .ok (.iconst 0, 1) := by decide +kernel
theorem dX6_fault_2 : decode cX6_fault 2 = .ok (.iconst 1, 1) := by decide +kernel
theorem dX6_fault_3 : decode cX6_fault 3 = .ok (.invokestatic 34, 3) := by decide +kernel
theorem dX6_fault_6 : decode cX6_fault 6 = .ok (.ifCond .ne 6, 3) := by decide +kernel
theorem dX6_fault_9 : decode cX6_fault 9 = .ok (.ldc 38, 2) := by decide +kernel
theorem dX6_fault_11 : decode cX6_fault 11 = .ok (.ireturn, 1) := by decide +kernel
theorem dX6_fault_12 : decode cX6_fault 12 = .ok (.aload_n 0, 1) := by decide +kernel
theorem dX6_fault_13 : decode cX6_fault 13 = .ok (.invokevirtual 249, 3) := by decide +kernel
theorem dX6_fault_16 : decode cX6_fault 16 = .ok (.istore_n 2, 1) := by decide +kernel
theorem dX6_fault_17 : decode cX6_fault 17 = .ok (.aload_n 0, 1) := by decide +kernel
theorem dX6_fault_18 : decode cX6_fault 18 = .ok (.getfield 23, 3) := by decide +kernel
theorem dX6_fault_21 : decode cX6_fault 21 = .ok (.iload_n 2, 1) := by decide +kernel
theorem dX6_fault_22 : decode cX6_fault 22 = .ok (.invokevirtual 252, 3) := by decide +kernel
theorem dX6_fault_25 : decode cX6_fault 25 = .ok (.istore_n 3, 1) := by decide +kernel
theorem dX6_fault_26 : decode cX6_fault 26 = .ok (.iload_n 3, 1) := by decide +kernel
theorem dX6_fault_27 : decode cX6_fault 27 = .ok (.aload_n 0, 1) := by decide +kernel
theorem dX6_fault_28 : decode cX6_fault 28 = .ok (.getfield 23, 3) := by decide +kernel
theorem dX6_fault_31 : decode cX6_fault 31 = .ok (.getfield 180, 3) := by decide +kernel
theorem dX6_fault_34 : decode cX6_fault 34 = .ok (.if_icmp .lt 6, 3) := by decide +kernel
theorem dX6_fault_37 : decode cX6_fault 37 = .ok (.ldc 97, 2) := by decide +kernel
theorem dX6_fault_39 : decode cX6_fault 39 = .ok (.ireturn, 1) := by decide +kernel
theorem dX6_fault_40 : decode cX6_fault 40 = .ok (.iload_n 1, 1) := by decide +kernel
theorem dX6_fault_41 : decode cX6_fault 41 = .ok (.ifCond .ne 7, 3) := by decide +kernel
theorem dX6_fault_44 : decode cX6_fault 44 = .ok (.iload_n 3, 1) := by decide +kernel
theorem dX6_fault_45 : decode cX6_fault 45 = .ok (.goto 9, 3) := by decide +kernel
theorem dX6_fault_48 : decode cX6_fault 48 = .ok (.aload_n 0, 1) := by decide +kernel
theorem dX6_fault_49 : decode cX6_fault 49 = .ok (.iload_n 3, 1) := by decide +kernel
theorem dX6_fault_50 : decode cX6_fault 50 = .ok (.iload_n 2, 1) := by decide +kernel
theorem dX6_fault_51 : decode cX6_fault 51 = .ok (.invokevirtual 255, 3) := by decide +kernel
theorem dX6_fault_54 : decode cX6_fault 54 = .ok (.ireturn, 1) := by decide +kernel
theorem dX6_live_0 : decode cX6_live 0 = .ok (.aload_n 0, 1) := by decide +kernel
theorem dX6_live_1 : decode cX6_live 1 = .ok (.invokevirtual 249, 3) := by decide +kernel
theorem dX6_live_4 : decode cX6_live 4 = .ok (.istore_n 1, 1) := by decide +kernel
theorem dX6_live_5 : decode cX6_live 5 = .ok (.aload_n 0, 1) := by decide +kernel
theorem dX6_live_6 : decode cX6_live 6 = .ok (.getfield 23, 3) := by decide +kernel
theorem dX6_live_9 : decode cX6_live 9 = .ok (.iload_n 1, 1) := by decide +kernel
theorem dX6_live_10 : decode cX6_live 10 = .ok (.invokevirtual 252, 3) := by decide +kernel
theorem dX6_live_13 : decode cX6_live 13 = .ok (.aload_n 0, 1) := by decide +kernel
theorem dX6_live_14 : decode cX6_live 14 = .ok (.getfield 23, 3) := by decide +kernel
theorem dX6_live_17 : decode cX6_live 17 = .ok (.getfield 180, 3) := by decide +kernel
theorem dX6_live_20 : decode cX6_live 20 = .ok (.if_icmp .lt 13, 3) := by decide +kernel
theorem dX6_live_23 : decode cX6_live 23 = .ok (.aload_n 0, 1) := by decide +kernel
theorem dX6_live_24 : decode cX6_live 24 = .ok (.getfield 27, 3) := by decide +kernel
theorem dX6_live_27 : decode cX6_live 27 = .ok (.getfield 58, 3) := by decide +kernel
theorem dX6_live_30 : decode cX6_live 30 = .ok (.ifCond .ne 6, 3) := by decide +kernel
theorem dX6_live_33 : decode cX6_live 33 = .ok (.ldc 57, 2) := by decide +kernel
theorem dX6_live_35 : decode cX6_live 35 = .ok (.ireturn, 1) := by decide +kernel
theorem dX6_live_36 : decode cX6_live 36 = .ok (.aload_n 0, 1) := by decide +kernel
theorem dX6_live_37 : decode cX6_live 37 = .ok (.invokevirtual 46, 3) := by decide +kernel
theorem dX6_live_40 : decode cX6_live 40 = .ok (.iconst 0, 1) := by decide +kernel
theorem dX6_live_41 : decode cX6_live 41 = .ok (.istore_n 2, 1) := by decide +kernel
theorem dX6_live_42 : decode cX6_live 42 = .ok (.iconst 0, 1) := by decide +kernel
theorem dX6_live_43 : decode cX6_live 43 = .ok (.istore_n 3, 1) := by decide +kernel
theorem dX6_live_44 : decode cX6_live 44 = .ok (.iload_n 3, 1) := by decide +kernel
theorem dX6_live_45 : decode cX6_live 45 = .ok (.iload_n 1, 1) := by decide +kernel
theorem dX6_live_46 : decode cX6_live 46 = .ok (.if_icmp .ge 59, 3) := by decide +kernel
theorem dX6_live_49 : decode cX6_live 49 = .ok (.aload_n 0, 1) := by decide +kernel
theorem dX6_live_50 : decode cX6_live 50 = .ok (.getfield 27, 3) := by decide +kernel
theorem dX6_live_53 : decode cX6_live 53 = .ok (.getfield 49, 3) := by decide +kernel
theorem dX6_live_56 : decode cX6_live 56 = .ok (.iconst 0, 1) := by decide +kernel
theorem dX6_live_57 : decode cX6_live 57 = .ok (.aload_n 0, 1) := by decide +kernel
theorem dX6_live_58 : decode cX6_live 58 = .ok (.getfield 23, 3) := by decide +kernel
theorem dX6_live_61 : decode cX6_live 61 = .ok (.iload_n 2, 1) := by decide +kernel
theorem dX6_live_62 : decode cX6_live 62 = .ok (.invokevirtual 258, 3) := by decide +kernel
theorem dX6_live_65 : decode cX6_live 65 = .ok (.iastore, 1) := by decide +kernel
theorem dX6_live_66 : decode cX6_live 66 = .ok (.aload_n 0, 1) := by decide +kernel
theorem dX6_live_67 : decode cX6_live 67 = .ok (.getfield 27, 3) := by decide +kernel
theorem dX6_live_70 : decode cX6_live 70 = .ok (.getfield 49, 3) := by decide +kernel
theorem dX6_live_73 : decode cX6_live 73 = .ok (.iconst 2, 1) := by decide +kernel
theorem dX6_live_74 : decode cX6_live 74 = .ok (.aload_n 0, 1) := by decide +kernel
theorem dX6_live_75 : decode cX6_live 75 = .ok (.getfield 23, 3) := by decide +kernel
theorem dX6_live_78 : decode cX6_live 78 = .ok (.iload_n 2, 1) := by decide +kernel
theorem dX6_live_79 : decode cX6_live 79 = .ok (.invokevirtual 261, 3) := by decide +kernel
theorem dX6_live_82 : decode cX6_live 82 = .ok (.iastore, 1) := by decide +kernel
theorem dX6_live_83 : decode cX6_live 83 = .ok (.aload_n 0, 1) := by decide +kernel
theorem dX6_live_84 : decode cX6_live 84 = .ok (.getfield 27, 3) := by decide +kernel
theorem dX6_live_87 : decode cX6_live 87 = .ok (.invokevirtual 233, 3) := by decide +kernel
theorem dX6_live_90 : decode cX6_live 90 = .ok (.aload_n 0, 1) := by decide +kernel
theorem dX6_live_91 : decode cX6_live 91 = .ok (.getfield 23, 3) := by decide +kernel
theorem dX6_live_94 : decode cX6_live 94 = .ok (.iload_n 2, 1) := by decide +kernel
theorem dX6_live_95 : decode cX6_live 95 = .ok (.invokevirtual 264, 3) := by decide +kernel
theorem dX6_live_98 : decode cX6_live 98 = .ok (.istore_n 2, 1) := by decide +kernel
theorem dX6_live_99 : decode cX6_live 99 = .ok (.iinc 3 1, 3) := by decide +kernel
theorem dX6_live_102 : decode cX6_live 102 = .ok (.goto (-58), 3) := by decide +kernel
theorem dX6_live_105 : decode cX6_live 105 = .ok (.iload_n 1, 1) := by decide +kernel
theorem dX6_live_106 : decode cX6_live 106 = .ok (.ireturn, 1) := by decide +kernel
theorem dX6_possibleYears_0 : decode cX6_possibleYears 0 = .ok (.iconst 0, 1) := by decide +kernel
theorem dX6_possibleYears_1 : decode cX6_possibleYears 1 = .ok (.istore_n 1, 1) := by decide +kernel
theorem dX6_possibleYears_2 : decode cX6_possibleYears 2 = .ok (.iconst 0, 1) := by decide +kernel
theorem dX6_possibleYears_3 : decode cX6_possibleYears 3 = .ok (.istore_n 2, 1) := by decide +kernel
theorem dX6_possibleYears_4 : decode cX6_possibleYears 4 = .ok (.iload_n 2, 1) := by decide +kernel
theorem dX6_possibleYears_5 : decode cX6_possibleYears 5 = .ok (.bipush 60, 2) := by decide +kernel
theorem dX6_possibleYears_7 : decode cX6_possibleYears 7 = .ok (.if_icmp .ge 40, 3) := by decide +kernel
theorem dX6_possibleYears_10 : decode cX6_possibleYears 10 = .ok (.iload_n 1, 1) := by decide +kernel
theorem dX6_possibleYears_11 : decode cX6_possibleYears 11 = .ok (.aload_n 0, 1) := by decide +kernel
theorem dX6_possibleYears_12 : decode cX6_possibleYears 12 = .ok (.getfield 23, 3) := by decide +kernel
theorem dX6_possibleYears_15 : decode cX6_possibleYears 15 = .ok (.getfield 180, 3) := by decide +kernel
theorem dX6_possibleYears_18 : decode cX6_possibleYears 18 = .ok (.if_icmp .ge 12, 3) := by decide +kernel
theorem dX6_possibleYears_21 : decode cX6_possibleYears 21 = .ok (.aload_n 0, 1) := by decide +kernel
theorem dX6_possibleYears_22 : decode cX6_possibleYears 22 = .ok (.iload_n 1, 1) := by decide +kernel
theorem dX6_possibleYears_23 : decode cX6_possibleYears 23 = .ok (.iload_n 2, 1) := by decide +kernel
theorem dX6_possibleYears_24 : decode cX6_possibleYears 24 = .ok (.invokevirtual 255, 3) := by decide +kernel
theorem dX6_possibleYears_27 : decode cX6_possibleYears 27 = .ok (.ifCond .eq 5, 3) := by decide +kernel
theorem dX6_possibleYears_30 : decode cX6_possibleYears 30 = .ok (.iload_n 2, 1) := by decide +kernel
theorem dX6_possibleYears_31 : decode cX6_possibleYears 31 = .ok (.ireturn, 1) := by decide +kernel
theorem dX6_possibleYears_32 : decode cX6_possibleYears 32 = .ok (.aload_n 0, 1) := by decide +kernel
theorem dX6_possibleYears_33 : decode cX6_possibleYears 33 = .ok (.getfield 23, 3) := by decide +kernel
theorem dX6_possibleYears_36 : decode cX6_possibleYears 36 = .ok (.iload_n 1, 1) := by decide +kernel
theorem dX6_possibleYears_37 : decode cX6_possibleYears 37 = .ok (.invokevirtual 264, 3) := by decide +kernel
theorem dX6_possibleYears_40 : decode cX6_possibleYears 40 = .ok (.istore_n 1, 1) := by decide +kernel
theorem dX6_possibleYears_41 : decode cX6_possibleYears 41 = .ok (.iinc 2 1, 3) := by decide +kernel
theorem dX6_possibleYears_44 : decode cX6_possibleYears 44 = .ok (.goto (-40), 3) := by decide +kernel
theorem dX6_possibleYears_47 : decode cX6_possibleYears 47 = .ok (.bipush 60, 2) := by decide +kernel
theorem dX6_possibleYears_49 : decode cX6_possibleYears 49 = .ok (.ireturn, 1) := by decide +kernel
theorem dX6_reasonAt_0 : decode cX6_reasonAt 0 = .ok (.aload_n 0, 1) := by decide +kernel
theorem dX6_reasonAt_1 : decode cX6_reasonAt 1 = .ok (.getfield 23, 3) := by decide +kernel
theorem dX6_reasonAt_4 : decode cX6_reasonAt 4 = .ok (.iload_n 1, 1) := by decide +kernel
theorem dX6_reasonAt_5 : decode cX6_reasonAt 5 = .ok (.invokevirtual 264, 3) := by decide +kernel
theorem dX6_reasonAt_8 : decode cX6_reasonAt 8 = .ok (.ifCond .ge 5, 3) := by decide +kernel
theorem dX6_reasonAt_11 : decode cX6_reasonAt 11 = .ok (.iconst 1, 1) := by decide +kernel
theorem dX6_reasonAt_12 : decode cX6_reasonAt 12 = .ok (.ireturn, 1) := by decide +kernel
theorem dX6_reasonAt_13 : decode cX6_reasonAt 13 = .ok (.aload_n 0, 1) := by decide +kernel
theorem dX6_reasonAt_14 : decode cX6_reasonAt 14 = .ok (.getfield 23, 3) := by decide +kernel
theorem dX6_reasonAt_17 : decode cX6_reasonAt 17 = .ok (.iload_n 1, 1) := by decide +kernel
theorem dX6_reasonAt_18 : decode cX6_reasonAt 18 = .ok (.invokevirtual 258, 3) := by decide +kernel
theorem dX6_reasonAt_21 : decode cX6_reasonAt 21 = .ok (.getstatic 39, 3) := by decide +kernel
theorem dX6_reasonAt_24 : decode cX6_reasonAt 24 = .ok (.iconst 0, 1) := by decide +kernel
theorem dX6_reasonAt_25 : decode cX6_reasonAt 25 = .ok (.iaload, 1) := by decide +kernel
theorem dX6_reasonAt_26 : decode cX6_reasonAt 26 = .ok (.getstatic 43, 3) := by decide +kernel
theorem dX6_reasonAt_29 : decode cX6_reasonAt 29 = .ok (.iconst 0, 1) := by decide +kernel
theorem dX6_reasonAt_30 : decode cX6_reasonAt 30 = .ok (.iaload, 1) := by decide +kernel
theorem dX6_reasonAt_31 : decode cX6_reasonAt 31 = .ok (.invokestatic 34, 3) := by decide +kernel
theorem dX6_reasonAt_34 : decode cX6_reasonAt 34 = .ok (.ifCond .eq 27, 3) := by decide +kernel
theorem dX6_reasonAt_37 : decode cX6_reasonAt 37 = .ok (.aload_n 0, 1) := by decide +kernel
theorem dX6_reasonAt_38 : decode cX6_reasonAt 38 = .ok (.getfield 23, 3) := by decide +kernel
theorem dX6_reasonAt_41 : decode cX6_reasonAt 41 = .ok (.iload_n 1, 1) := by decide +kernel
theorem dX6_reasonAt_42 : decode cX6_reasonAt 42 = .ok (.invokevirtual 261, 3) := by decide +kernel
theorem dX6_reasonAt_45 : decode cX6_reasonAt 45 = .ok (.getstatic 39, 3) := by decide +kernel
theorem dX6_reasonAt_48 : decode cX6_reasonAt 48 = .ok (.iconst 2, 1) := by decide +kernel
theorem dX6_reasonAt_49 : decode cX6_reasonAt 49 = .ok (.iaload, 1) := by decide +kernel
theorem dX6_reasonAt_50 : decode cX6_reasonAt 50 = .ok (.getstatic 43, 3) := by decide +kernel
theorem dX6_reasonAt_53 : decode cX6_reasonAt 53 = .ok (.iconst 2, 1) := by decide +kernel
theorem dX6_reasonAt_54 : decode cX6_reasonAt 54 = .ok (.iaload, 1) := by decide +kernel
theorem dX6_reasonAt_55 : decode cX6_reasonAt 55 = .ok (.invokestatic 34, 3) := by decide +kernel
theorem dX6_reasonAt_58 : decode cX6_reasonAt 58 = .ok (.ifCond .ne 5, 3) := by decide +kernel
theorem dX6_reasonAt_61 : decode cX6_reasonAt 61 = .ok (.iconst 2, 1) := by decide +kernel
theorem dX6_reasonAt_62 : decode cX6_reasonAt 62 = .ok (.ireturn, 1) := by decide +kernel
theorem dX6_reasonAt_63 : decode cX6_reasonAt 63 = .ok (.aload_n 0, 1) := by decide +kernel
theorem dX6_reasonAt_64 : decode cX6_reasonAt 64 = .ok (.getfield 27, 3) := by decide +kernel
theorem dX6_reasonAt_67 : decode cX6_reasonAt 67 = .ok (.getfield 165, 3) := by decide +kernel
theorem dX6_reasonAt_70 : decode cX6_reasonAt 70 = .ok (.iload_n 2, 1) := by decide +kernel
theorem dX6_reasonAt_71 : decode cX6_reasonAt 71 = .ok (.iadd, 1) := by decide +kernel
theorem dX6_reasonAt_72 : decode cX6_reasonAt 72 = .ok (.iconst 1, 1) := by decide +kernel
theorem dX6_reasonAt_73 : decode cX6_reasonAt 73 = .ok (.iadd, 1) := by decide +kernel
theorem dX6_reasonAt_74 : decode cX6_reasonAt 74 = .ok (.sipush 500, 3) := by decide +kernel
theorem dX6_reasonAt_77 : decode cX6_reasonAt 77 = .ok (.if_icmp .le 7, 3) := by decide +kernel
theorem dX6_reasonAt_80 : decode cX6_reasonAt 80 = .ok (.iconst 3, 1) := by decide +kernel
theorem dX6_reasonAt_81 : decode cX6_reasonAt 81 = .ok (.goto 4, 3) := by decide +kernel
theorem dX6_reasonAt_84 : decode cX6_reasonAt 84 = .ok (.iconst 0, 1) := by decide +kernel
theorem dX6_reasonAt_85 : decode cX6_reasonAt 85 = .ok (.ireturn, 1) := by decide +kernel
theorem dX6_isWithin_0 : decode cX6_isWithin 0 = .ok (.iload_n 0, 1) := by decide +kernel
theorem dX6_isWithin_1 : decode cX6_isWithin 1 = .ok (.iload_n 1, 1) := by decide +kernel
theorem dX6_isWithin_2 : decode cX6_isWithin 2 = .ok (.if_icmp .lt 12, 3) := by decide +kernel
theorem dX6_isWithin_5 : decode cX6_isWithin 5 = .ok (.iload_n 0, 1) := by decide +kernel
theorem dX6_isWithin_6 : decode cX6_isWithin 6 = .ok (.iload_n 2, 1) := by decide +kernel
theorem dX6_isWithin_7 : decode cX6_isWithin 7 = .ok (.if_icmp .gt 7, 3) := by decide +kernel
theorem dX6_isWithin_10 : decode cX6_isWithin 10 = .ok (.iconst 1, 1) := by decide +kernel
theorem dX6_isWithin_11 : decode cX6_isWithin 11 = .ok (.goto 4, 3) := by decide +kernel
theorem dX6_isWithin_14 : decode cX6_isWithin 14 = .ok (.iconst 0, 1) := by decide +kernel
theorem dX6_isWithin_15 : decode cX6_isWithin 15 = .ok (.ireturn, 1) := by decide +kernel
end
section
theorem dX7_init_0 : decode cX7_init 0 = .ok (.aload_n 0, 1) := by decide +kernel
theorem dX7_init_1 : decode cX7_init 1 = .ok (.invokespecial 1, 3) := by decide +kernel
theorem dX7_init_4 : decode cX7_init 4 = .ok (.aload_n 0, 1) := by decide +kernel
theorem dX7_init_5 : decode cX7_init 5 = .ok (.bipush 110, 2) := by decide +kernel
theorem dX7_init_7 : decode cX7_init 7 = .ok (.newarray .int, 2) := by decide +kernel
theorem dX7_init_9 : decode cX7_init 9 = .ok (.putfield 7, 3) := by decide +kernel
theorem dX7_init_12 : decode cX7_init 12 = .ok (.aload_n 0, 1) := by decide +kernel
theorem dX7_init_13 : decode cX7_init 13 = .ok (.sipush 8010, 3) := by decide +kernel
theorem dX7_init_16 : decode cX7_init 16 = .ok (.newarray .int, 2) := by decide +kernel
theorem dX7_init_18 : decode cX7_init 18 = .ok (.putfield 13, 3) := by decide +kernel
theorem dX7_init_21 : decode cX7_init 21 = .ok (.aload_n 0, 1) := by decide +kernel
theorem dX7_init_22 : decode cX7_init 22 = .ok (.iconst 4, 1) := by decide +kernel
theorem dX7_init_23 : decode cX7_init 23 = .ok (.newarray .long, 2) := by decide +kernel
theorem dX7_init_25 : decode cX7_init 25 = .ok (.putfield 16, 3) := by decide +kernel
theorem dX7_init_28 : decode cX7_init 28 = .ok (.aload_n 0, 1) := by decide +kernel
theorem dX7_init_29 : decode cX7_init 29 = .ok (.bipush 110, 2) := by decide +kernel
theorem dX7_init_31 : decode cX7_init 31 = .ok (.newarray .int, 2) := by decide +kernel
theorem dX7_init_33 : decode cX7_init 33 = .ok (.putfield 20, 3) := by decide +kernel
theorem dX7_init_36 : decode cX7_init 36 = .ok (.aload_n 0, 1) := by decide +kernel
theorem dX7_init_37 : decode cX7_init 37 = .ok (.sipush 8010, 3) := by decide +kernel
theorem dX7_init_40 : decode cX7_init 40 = .ok (.newarray .int, 2) := by decide +kernel
theorem dX7_init_42 : decode cX7_init 42 = .ok (.putfield 23, 3) := by decide +kernel
theorem dX7_init_45 : decode cX7_init 45 = .ok (.aload_n 0, 1) := by decide +kernel
theorem dX7_init_46 : decode cX7_init 46 = .ok (.iconst 4, 1) := by decide +kernel
theorem dX7_init_47 : decode cX7_init 47 = .ok (.newarray .long, 2) := by decide +kernel
theorem dX7_init_49 : decode cX7_init 49 = .ok (.putfield 26, 3) := by decide +kernel
theorem dX7_init_52 : decode cX7_init 52 = .ok (.aload_n 0, 1) := by decide +kernel
theorem dX7_init_53 : decode cX7_init 53 = .ok (.sipush 440, 3) := by decide +kernel
theorem dX7_init_56 : decode cX7_init 56 = .ok (.newarray .int, 2) := by decide +kernel
theorem dX7_init_58 : decode cX7_init 58 = .ok (.putfield 29, 3) := by decide +kernel
theorem dX7_init_61 : decode cX7_init 61 = .ok (.aload_n 0, 1) := by decide +kernel
theorem dX7_init_62 : decode cX7_init 62 = .ok (.sipush 10020, 3) := by decide +kernel
theorem dX7_init_65 : decode cX7_init 65 = .ok (.newarray .int, 2) := by decide +kernel
theorem dX7_init_67 : decode cX7_init 67 = .ok (.putfield 32, 3) := by decide +kernel
theorem dX7_init_70 : decode cX7_init 70 = .ok (.aload_n 0, 1) := by decide +kernel
theorem dX7_init_71 : decode cX7_init 71 = .ok (.sipush 10020, 3) := by decide +kernel
theorem dX7_init_74 : decode cX7_init 74 = .ok (.newarray .int, 2) := by decide +kernel
theorem dX7_init_76 : decode cX7_init 76 = .ok (.putfield 35, 3) := by decide +kernel
theorem dX7_init_79 : decode cX7_init 79 = .ok (.aload_n 0, 1) := by decide +kernel
theorem dX7_init_80 : decode cX7_init 80 = .ok (.bipush 16, 2) := by decide +kernel
theorem dX7_init_82 : decode cX7_init 82 = .ok (.newarray .long, 2) := by decide +kernel
theorem dX7_init_84 : decode cX7_init 84 = .ok (.putfield 38, 3) := by decide +kernel
theorem dX7_init_87 : decode cX7_init 87 = .ok (.aload_n 0, 1) := by decide +kernel
theorem dX7_init_88 : decode cX7_init 88 = .ok (.bipush 60, 2) := by decide +kernel
theorem dX7_init_90 : decode cX7_init 90 = .ok (.newarray .int, 2) := by decide +kernel
theorem dX7_init_92 : decode cX7_init 92 = .ok (.putfield 41, 3) := by decide +kernel
theorem dX7_init_95 : decode cX7_init 95 = .ok (.aload_n 0, 1) := by decide +kernel
theorem dX7_init_96 : decode cX7_init 96 = .ok (.getfield 7, 3) := by decide +kernel
theorem dX7_init_99 : decode cX7_init 99 = .ok (.iconst 0, 1) := by decide +kernel
theorem dX7_init_100 : decode cX7_init 100 = .ok (.sipush 1000, 3) := by decide +kernel
theorem dX7_init_103 : decode cX7_init 103 = .ok (.iastore, 1) := by decide +kernel
theorem dX7_init_104 : decode cX7_init 104 = .ok (.aload_n 0, 1) := by decide +kernel
theorem dX7_init_105 : decode cX7_init 105 = .ok (.getfield 7, 3) := by decide +kernel
theorem dX7_init_108 : decode cX7_init 108 = .ok (.iconst 1, 1) := by decide +kernel
theorem dX7_init_109 : decode cX7_init 109 = .ok (.bipush 50, 2) := by decide +kernel
theorem dX7_init_111 : decode cX7_init 111 = .ok (.iastore, 1) := by decide +kernel
theorem dX7_init_112 : decode cX7_init 112 = .ok (.aload_n 0, 1) := by decide +kernel
theorem dX7_init_113 : decode cX7_init 113 = .ok (.getfield 7, 3) := by decide +kernel
theorem dX7_init_116 : decode cX7_init 116 = .ok (.iconst 2, 1) := by decide +kernel
theorem dX7_init_117 : decode cX7_init 117 = .ok (.sipush 1500, 3) := by decide +kernel
theorem dX7_init_120 : decode cX7_init 120 = .ok (.iastore, 1) := by decide +kernel
theorem dX7_init_121 : decode cX7_init 121 = .ok (.aload_n 0, 1) := by decide +kernel
theorem dX7_init_122 : decode cX7_init 122 = .ok (.getfield 7, 3) := by decide +kernel
theorem dX7_init_125 : decode cX7_init 125 = .ok (.iconst 3, 1) := by decide +kernel
theorem dX7_init_126 : decode cX7_init 126 = .ok (.bipush 100, 2) := by decide +kernel
theorem dX7_init_128 : decode cX7_init 128 = .ok (.iastore, 1) := by decide +kernel
theorem dX7_init_129 : decode cX7_init 129 = .ok (.aload_n 0, 1) := by decide +kernel
theorem dX7_init_130 : decode cX7_init 130 = .ok (.getfield 7, 3) := by decide +kernel
theorem dX7_init_133 : decode cX7_init 133 = .ok (.iconst 4, 1) := by decide +kernel
theorem dX7_init_134 : decode cX7_init 134 = .ok (.sipush 2500, 3) := by decide +kernel
theorem dX7_init_137 : decode cX7_init 137 = .ok (.iastore, 1) := by decide +kernel
theorem dX7_init_138 : decode cX7_init 138 = .ok (.aload_n 0, 1) := by decide +kernel
theorem dX7_init_139 : decode cX7_init 139 = .ok (.getfield 7, 3) := by decide +kernel
theorem dX7_init_142 : decode cX7_init 142 = .ok (.iconst 5, 1) := by decide +kernel
theorem dX7_init_143 : decode cX7_init 143 = .ok (.sipush 500, 3) := by decide +kernel
theorem dX7_init_146 : decode cX7_init 146 = .ok (.iastore, 1) := by decide +kernel
theorem dX7_init_147 : decode cX7_init 147 = .ok (.aload_n 0, 1) := by decide +kernel
theorem dX7_init_148 : decode cX7_init 148 = .ok (.getfield 7, 3) := by decide +kernel
theorem dX7_init_151 : decode cX7_init 151 = .ok (.bipush 6, 2) := by decide +kernel
theorem dX7_init_153 : decode cX7_init 153 = .ok (.iconst 2, 1) := by decide +kernel
theorem dX7_init_154 : decode cX7_init 154 = .ok (.iastore, 1) := by decide +kernel
theorem dX7_init_155 : decode cX7_init 155 = .ok (.aload_n 0, 1) := by decide +kernel
theorem dX7_init_156 : decode cX7_init 156 = .ok (.getfield 7, 3) := by decide +kernel
theorem dX7_init_159 : decode cX7_init 159 = .ok (.bipush 13, 2) := by decide +kernel
theorem dX7_init_161 : decode cX7_init 161 = .ok (.iconst (-1), 1) := by decide +kernel
theorem dX7_init_162 : decode cX7_init 162 = .ok (.iastore, 1) := by decide +kernel
theorem dX7_init_163 : decode cX7_init 163 = .ok (.return_, 1) := by decide +kernel
theorem dX7_in_0 : decode cX7_in 0 = .ok (.iload_n 0, 1) := by decide +kernel
theorem dX7_in_1 : decode cX7_in 1 = .ok (.iload_n 1, 1) := by decide +kernel
theorem dX7_in_2 : decode cX7_in 2 = .ok (.if_icmp .lt 12, 3) := by decide +kernel
theorem dX7_in_5 : decode cX7_in 5 = .ok (.iload_n 0, 1) := by decide +kernel
theorem dX7_in_6 : decode cX7_in 6 = .ok (.iload_n 2, 1) := by decide +kernel
theorem dX7_in_7 : decode cX7_in 7 = .ok (.if_icmp .gt 7, 3) := by decide +kernel
theorem dX7_in_10 : decode cX7_in 10 = .ok (.iconst 1, 1) := by decide +kernel
theorem dX7_in_11 : decode cX7_in 11 = .ok (.goto 4, 3) := by decide +kernel
theorem dX7_in_14 : decode cX7_in 14 = .ok (.iconst 0, 1) := by decide +kernel
theorem dX7_in_15 : decode cX7_in 15 = .ok (.ireturn, 1) := by decide +kernel
theorem dX7_floor_0 : decode cX7_floor 0 = .ok (.lload_n 0, 1) := by decide +kernel
theorem dX7_floor_1 : decode cX7_floor 1 = .ok (.lconst 0, 1) := by decide +kernel
theorem dX7_floor_2 : decode cX7_floor 2 = .ok (.lcmp, 1) := by decide +kernel
theorem dX7_floor_3 : decode cX7_floor 3 = .ok (.ifCond .lt 10, 3) := by decide +kernel
theorem dX7_floor_6 : decode cX7_floor 6 = .ok (.lload_n 0, 1) := by decide +kernel
theorem dX7_floor_7 : decode cX7_floor 7 = .ok (.iload_n 2, 1) := by decide +kernel
theorem dX7_floor_8 : decode cX7_floor 8 = .ok (.i2l, 1) := by decide +kernel
theorem dX7_floor_9 : decode cX7_floor 9 = .ok (.ldiv, 1) := by decide +kernel
theorem dX7_floor_10 : decode cX7_floor 10 = .ok (.goto 13, 3) := by decide +kernel
theorem dX7_floor_13 : decode cX7_floor 13 = .ok (.iload_n 2, 1) := by decide +kernel
theorem dX7_floor_14 : decode cX7_floor 14 = .ok (.i2l, 1) := by decide +kernel
theorem dX7_floor_15 : decode cX7_floor 15 = .ok (.lconst 1, 1) := by decide +kernel
theorem dX7_floor_16 : decode cX7_floor 16 = .ok (.lsub, 1) := by decide +kernel
theorem dX7_floor_17 : decode cX7_floor 17 = .ok (.lload_n 0, 1) := by decide +kernel
theorem dX7_floor_18 : decode cX7_floor 18 = .ok (.lsub, 1) := by decide +kernel
theorem dX7_floor_19 : decode cX7_floor 19 = .ok (.iload_n 2, 1) := by decide +kernel
theorem dX7_floor_20 : decode cX7_floor 20 = .ok (.i2l, 1) := by decide +kernel
theorem dX7_floor_21 : decode cX7_floor 21 = .ok (.ldiv, 1) := by decide +kernel
theorem dX7_floor_22 : decode cX7_floor 22 = .ok (.lneg, 1) := by decide +kernel
theorem dX7_floor_23 : decode cX7_floor 23 = .ok (.l2i, 1) := by decide +kernel
theorem dX7_floor_24 : decode cX7_floor 24 = .ok (.ireturn, 1) := by decide +kernel
theorem dX7_keptIce_0 : decode cX7_keptIce 0 = .ok (.iload_n 1, 1) := by decide +kernel
theorem dX7_keptIce_1 : decode cX7_keptIce 1 = .ok (.iconst 2, 1) := by decide +kernel
theorem dX7_keptIce_2 : decode cX7_keptIce 2 = .ok (.if_icmp .ge 18, 3) := by decide +kernel
theorem dX7_keptIce_5 : decode cX7_keptIce 5 = .ok (.aload_n 0, 1) := by decide +kernel
theorem dX7_keptIce_6 : decode cX7_keptIce 6 = .ok (.getfield 32, 3) := by decide +kernel
theorem dX7_keptIce_9 : decode cX7_keptIce 9 = .ok (.sipush 5010, 3) := by decide +kernel
theorem dX7_keptIce_12 : decode cX7_keptIce 12 = .ok (.iload_n 1, 1) := by decide +kernel
theorem dX7_keptIce_13 : decode cX7_keptIce 13 = .ok (.imul, 1) := by decide +kernel
theorem dX7_keptIce_14 : decode cX7_keptIce 14 = .ok (.iload_n 2, 1) := by decide +kernel
theorem dX7_keptIce_15 : decode cX7_keptIce 15 = .ok (.iadd, 1) := by decide +kernel
theorem dX7_keptIce_16 : decode cX7_keptIce 16 = .ok (.iaload, 1) := by decide +kernel
theorem dX7_keptIce_17 : decode cX7_keptIce 17 = .ok (.goto 17, 3) := by decide +kernel
theorem dX7_keptIce_20 : decode cX7_keptIce 20 = .ok (.aload_n 0, 1) := by decide +kernel
theorem dX7_keptIce_21 : decode cX7_keptIce 21 = .ok (.getfield 35, 3) := by decide +kernel
theorem dX7_keptIce_24 : decode cX7_keptIce 24 = .ok (.sipush 5010, 3) := by decide +kernel
theorem dX7_keptIce_27 : decode cX7_keptIce 27 = .ok (.iload_n 1, 1) := by decide +kernel
theorem dX7_keptIce_28 : decode cX7_keptIce 28 = .ok (.iconst 2, 1) := by decide +kernel
theorem dX7_keptIce_29 : decode cX7_keptIce 29 = .ok (.isub, 1) := by decide +kernel
theorem dX7_keptIce_30 : decode cX7_keptIce 30 = .ok (.imul, 1) := by decide +kernel
theorem dX7_keptIce_31 : decode cX7_keptIce 31 = .ok (.iload_n 2, 1) := by decide +kernel
theorem dX7_keptIce_32 : decode cX7_keptIce 32 = .ok (.iadd, 1) := by decide +kernel
theorem dX7_keptIce_33 : decode cX7_keptIce 33 = .ok (.iaload, 1) := by decide +kernel
theorem dX7_keptIce_34 : decode cX7_keptIce 34 = .ok (.ireturn, 1) := by decide +kernel
theorem dX7_keepIce_0 : decode cX7_keepIce 0 = .ok (.iload_n 1, 1) := by decide +kernel
theorem dX7_keepIce_1 : decode cX7_keepIce 1 = .ok (.iconst 2, 1) := by decide +kernel
theorem dX7_keepIce_2 : decode cX7_keepIce 2 = .ok (.if_icmp .ge 19, 3) := by decide +kernel
theorem dX7_keepIce_5 : decode cX7_keepIce 5 = .ok (.aload_n 0, 1) := by decide +kernel
theorem dX7_keepIce_6 : decode cX7_keepIce 6 = .ok (.getfield 32, 3) := by decide +kernel
theorem dX7_keepIce_9 : decode cX7_keepIce 9 = .ok (.sipush 5010, 3) := by decide +kernel
theorem dX7_keepIce_12 : decode cX7_keepIce 12 = .ok (.iload_n 1, 1) := by decide +kernel
theorem dX7_keepIce_13 : decode cX7_keepIce 13 = .ok (.imul, 1) := by decide +kernel
theorem dX7_keepIce_14 : decode cX7_keepIce 14 = .ok (.iload_n 2, 1) := by decide +kernel
theorem dX7_keepIce_15 : decode cX7_keepIce 15 = .ok (.iadd, 1) := by decide +kernel
theorem dX7_keepIce_16 : decode cX7_keepIce 16 = .ok (.iload_n 3, 1) := by decide +kernel
theorem dX7_keepIce_17 : decode cX7_keepIce 17 = .ok (.iastore, 1) := by decide +kernel
theorem dX7_keepIce_18 : decode cX7_keepIce 18 = .ok (.goto 18, 3) := by decide +kernel
theorem dX7_keepIce_21 : decode cX7_keepIce 21 = .ok (.aload_n 0, 1) := by decide +kernel
theorem dX7_keepIce_22 : decode cX7_keepIce 22 = .ok (.getfield 35, 3) := by decide +kernel
theorem dX7_keepIce_25 : decode cX7_keepIce 25 = .ok (.sipush 5010, 3) := by decide +kernel
theorem dX7_keepIce_28 : decode cX7_keepIce 28 = .ok (.iload_n 1, 1) := by decide +kernel
theorem dX7_keepIce_29 : decode cX7_keepIce 29 = .ok (.iconst 2, 1) := by decide +kernel
theorem dX7_keepIce_30 : decode cX7_keepIce 30 = .ok (.isub, 1) := by decide +kernel
theorem dX7_keepIce_31 : decode cX7_keepIce 31 = .ok (.imul, 1) := by decide +kernel
theorem dX7_keepIce_32 : decode cX7_keepIce 32 = .ok (.iload_n 2, 1) := by decide +kernel
theorem dX7_keepIce_33 : decode cX7_keepIce 33 = .ok (.iadd, 1) := by decide +kernel
theorem dX7_keepIce_34 : decode cX7_keepIce 34 = .ok (.iload_n 3, 1) := by decide +kernel
theorem dX7_keepIce_35 : decode cX7_keepIce 35 = .ok (.iastore, 1) := by decide +kernel
theorem dX7_keepIce_36 : decode cX7_keepIce 36 = .ok (.return_, 1) := by decide +kernel
theorem dX7_dropOldest_0 : decode cX7_dropOldest 0 = .ok (.iconst 0, 1) := by decide +kernel
theorem dX7_dropOldest_1 : decode cX7_dropOldest 1 = .ok (.istore_n 1, 1) := by decide +kernel
theorem dX7_dropOldest_2 : decode cX7_dropOldest 2 = .ok (.iload_n 1, 1) := by decide +kernel
theorem dX7_dropOldest_3 : decode cX7_dropOldest 3 = .ok (.iconst 3, 1) := by decide +kernel
theorem dX7_dropOldest_4 : decode cX7_dropOldest 4 = .ok (.if_icmp .ge 38, 3) := by decide +kernel
theorem dX7_dropOldest_7 : decode cX7_dropOldest 7 = .ok (.iconst 0, 1) := by decide +kernel
theorem dX7_dropOldest_8 : decode cX7_dropOldest 8 = .ok (.istore_n 2, 1) := by decide +kernel
theorem dX7_dropOldest_9 : decode cX7_dropOldest 9 = .ok (.iload_n 2, 1) := by decide +kernel
theorem dX7_dropOldest_10 : decode cX7_dropOldest 10 = .ok (.sipush 5010, 3) := by decide +kernel
theorem dX7_dropOldest_13 : decode cX7_dropOldest 13 = .ok (.if_icmp .ge 23, 3) := by decide +kernel
theorem dX7_dropOldest_16 : decode cX7_dropOldest 16 = .ok (.aload_n 0, 1) := by decide +kernel
theorem dX7_dropOldest_17 : decode cX7_dropOldest 17 = .ok (.iload_n 1, 1) := by decide +kernel
theorem dX7_dropOldest_18 : decode cX7_dropOldest 18 = .ok (.iload_n 2, 1) := by decide +kernel
theorem dX7_dropOldest_19 : decode cX7_dropOldest 19 = .ok (.aload_n 0, 1) := by decide +kernel
theorem dX7_dropOldest_20 : decode cX7_dropOldest 20 = .ok (.iload_n 1, 1) := by decide +kernel
theorem dX7_dropOldest_21 : decode cX7_dropOldest 21 = .ok (.iconst 1, 1) := by decide +kernel
theorem dX7_dropOldest_22 : decode cX7_dropOldest 22 = .ok (.iadd, 1) := by decide +kernel
theorem dX7_dropOldest_23 : decode cX7_dropOldest 23 = .ok (.iload_n 2, 1) := by decide +kernel
theorem dX7_dropOldest_24 : decode cX7_dropOldest 24 = .ok (.invokevirtual 44, 3) := by decide +kernel
theorem dX7_dropOldest_27 : decode cX7_dropOldest 27 = .ok (.invokevirtual 48, 3) := by decide +kernel
theorem dX7_dropOldest_30 : decode cX7_dropOldest 30 = .ok (.iinc 2 1, 3) := by decide +kernel
theorem dX7_dropOldest_33 : decode cX7_dropOldest 33 = .ok (.goto (-24), 3) := by decide +kernel
theorem dX7_dropOldest_36 : decode cX7_dropOldest 36 = .ok (.iinc 1 1, 3) := by decide +kernel
theorem dX7_dropOldest_39 : decode cX7_dropOldest 39 = .ok (.goto (-37), 3) := by decide +kernel
theorem dX7_dropOldest_42 : decode cX7_dropOldest 42 = .ok (.iconst 0, 1) := by decide +kernel
theorem dX7_dropOldest_43 : decode cX7_dropOldest 43 = .ok (.istore_n 1, 1) := by decide +kernel
theorem dX7_dropOldest_44 : decode cX7_dropOldest 44 = .ok (.iload_n 1, 1) := by decide +kernel
theorem dX7_dropOldest_45 : decode cX7_dropOldest 45 = .ok (.sipush 330, 3) := by decide +kernel
theorem dX7_dropOldest_48 : decode cX7_dropOldest 48 = .ok (.if_icmp .ge 24, 3) := by decide +kernel
theorem dX7_dropOldest_51 : decode cX7_dropOldest 51 = .ok (.aload_n 0, 1) := by decide +kernel
theorem dX7_dropOldest_52 : decode cX7_dropOldest 52 = .ok (.getfield 29, 3) := by decide +kernel
theorem dX7_dropOldest_55 : decode cX7_dropOldest 55 = .ok (.iload_n 1, 1) := by decide +kernel
theorem dX7_dropOldest_56 : decode cX7_dropOldest 56 = .ok (.aload_n 0, 1) := by decide +kernel
theorem dX7_dropOldest_57 : decode cX7_dropOldest 57 = .ok (.getfield 29, 3) := by decide +kernel
theorem dX7_dropOldest_60 : decode cX7_dropOldest 60 = .ok (.iload_n 1, 1) := by decide +kernel
theorem dX7_dropOldest_61 : decode cX7_dropOldest 61 = .ok (.bipush 110, 2) := by decide +kernel
theorem dX7_dropOldest_63 : decode cX7_dropOldest 63 = .ok (.iadd, 1) := by decide +kernel
theorem dX7_dropOldest_64 : decode cX7_dropOldest 64 = .ok (.iaload, 1) := by decide +kernel
theorem dX7_dropOldest_65 : decode cX7_dropOldest 65 = .ok (.iastore, 1) := by decide +kernel
theorem dX7_dropOldest_66 : decode cX7_dropOldest 66 = .ok (.iinc 1 1, 3) := by decide +kernel
theorem dX7_dropOldest_69 : decode cX7_dropOldest 69 = .ok (.goto (-25), 3) := by decide +kernel
theorem dX7_dropOldest_72 : decode cX7_dropOldest 72 = .ok (.iconst 0, 1) := by decide +kernel
theorem dX7_dropOldest_73 : decode cX7_dropOldest 73 = .ok (.istore_n 1, 1) := by decide +kernel
theorem dX7_dropOldest_74 : decode cX7_dropOldest 74 = .ok (.iload_n 1, 1) := by decide +kernel
theorem dX7_dropOldest_75 : decode cX7_dropOldest 75 = .ok (.bipush 12, 2) := by decide +kernel
theorem dX7_dropOldest_77 : decode cX7_dropOldest 77 = .ok (.if_icmp .ge 23, 3) := by decide +kernel
theorem dX7_dropOldest_80 : decode cX7_dropOldest 80 = .ok (.aload_n 0, 1) := by decide +kernel
theorem dX7_dropOldest_81 : decode cX7_dropOldest 81 = .ok (.getfield 38, 3) := by decide +kernel
theorem dX7_dropOldest_84 : decode cX7_dropOldest 84 = .ok (.iload_n 1, 1) := by decide +kernel
theorem dX7_dropOldest_85 : decode cX7_dropOldest 85 = .ok (.aload_n 0, 1) := by decide +kernel
theorem dX7_dropOldest_86 : decode cX7_dropOldest 86 = .ok (.getfield 38, 3) := by decide +kernel
theorem dX7_dropOldest_89 : decode cX7_dropOldest 89 = .ok (.iload_n 1, 1) := by decide +kernel
theorem dX7_dropOldest_90 : decode cX7_dropOldest 90 = .ok (.iconst 4, 1) := by decide +kernel
theorem dX7_dropOldest_91 : decode cX7_dropOldest 91 = .ok (.iadd, 1) := by decide +kernel
theorem dX7_dropOldest_92 : decode cX7_dropOldest 92 = .ok (.laload, 1) := by decide +kernel
theorem dX7_dropOldest_93 : decode cX7_dropOldest 93 = .ok (.lastore, 1) := by decide +kernel
theorem dX7_dropOldest_94 : decode cX7_dropOldest 94 = .ok (.iinc 1 1, 3) := by decide +kernel
theorem dX7_dropOldest_97 : decode cX7_dropOldest 97 = .ok (.goto (-23), 3) := by decide +kernel
theorem dX7_dropOldest_100 : decode cX7_dropOldest 100 = .ok (.aload_n 0, 1) := by decide +kernel
theorem dX7_dropOldest_101 : decode cX7_dropOldest 101 = .ok (.dup, 1) := by decide +kernel
theorem dX7_dropOldest_102 : decode cX7_dropOldest 102 = .ok (.getfield 52, 3) := by decide +kernel
theorem dX7_dropOldest_105 : decode cX7_dropOldest 105 = .ok (.iconst 1, 1) := by decide +kernel
theorem dX7_dropOldest_106 : decode cX7_dropOldest 106 = .ok (.isub, 1) := by decide +kernel
theorem dX7_dropOldest_107 : decode cX7_dropOldest 107 = .ok (.putfield 52, 3) := by decide +kernel
theorem dX7_dropOldest_110 : decode cX7_dropOldest 110 = .ok (.return_, 1) := by decide +kernel
theorem dX7_keep_0 : decode cX7_keep 0 = .ok (.aload_n 0, 1) := by decide +kernel
theorem dX7_keep_1 : decode cX7_keep 1 = .ok (.getfield 52, 3) := by decide +kernel
theorem dX7_keep_4 : decode cX7_keep 4 = .ok (.iconst 4, 1) := by decide +kernel
theorem dX7_keep_5 : decode cX7_keep 5 = .ok (.if_icmp .ne 7, 3) := by decide +kernel
theorem dX7_keep_8 : decode cX7_keep 8 = .ok (.aload_n 0, 1) := by decide +kernel
theorem dX7_keep_9 : decode cX7_keep 9 = .ok (.invokevirtual 56, 3) := by decide +kernel
theorem dX7_keep_12 : decode cX7_keep 12 = .ok (.iconst 0, 1) := by decide +kernel
theorem dX7_keep_13 : decode cX7_keep 13 = .ok (.istore_n 1, 1) := by decide +kernel
theorem dX7_keep_14 : decode cX7_keep 14 = .ok (.iload_n 1, 1) := by decide +kernel
theorem dX7_keep_15 : decode cX7_keep 15 = .ok (.sipush 5010, 3) := by decide +kernel
theorem dX7_keep_18 : decode cX7_keep 18 = .ok (.if_icmp .ge 38, 3) := by decide +kernel
theorem dX7_keep_21 : decode cX7_keep 21 = .ok (.aload_n 0, 1) := by decide +kernel
theorem dX7_keep_22 : decode cX7_keep 22 = .ok (.aload_n 0, 1) := by decide +kernel
theorem dX7_keep_23 : decode cX7_keep 23 = .ok (.getfield 52, 3) := by decide +kernel
theorem dX7_keep_26 : decode cX7_keep 26 = .ok (.iload_n 1, 1) := by decide +kernel
theorem dX7_keep_27 : decode cX7_keep 27 = .ok (.aload_n 0, 1) := by decide +kernel
theorem dX7_keep_28 : decode cX7_keep 28 = .ok (.getfield 13, 3) := by decide +kernel
theorem dX7_keep_31 : decode cX7_keep 31 = .ok (.sipush 801, 3) := by decide +kernel
theorem dX7_keep_34 : decode cX7_keep 34 = .ok (.iload_n 1, 1) := by decide +kernel
theorem dX7_keep_35 : decode cX7_keep 35 = .ok (.sipush 501, 3) := by decide +kernel
theorem dX7_keep_38 : decode cX7_keep 38 = .ok (.idiv, 1) := by decide +kernel
theorem dX7_keep_39 : decode cX7_keep 39 = .ok (.imul, 1) := by decide +kernel
theorem dX7_keep_40 : decode cX7_keep 40 = .ok (.iload_n 1, 1) := by decide +kernel
theorem dX7_keep_41 : decode cX7_keep 41 = .ok (.sipush 501, 3) := by decide +kernel
theorem dX7_keep_44 : decode cX7_keep 44 = .ok (.irem, 1) := by decide +kernel
theorem dX7_keep_45 : decode cX7_keep 45 = .ok (.iadd, 1) := by decide +kernel
theorem dX7_keep_46 : decode cX7_keep 46 = .ok (.iaload, 1) := by decide +kernel
theorem dX7_keep_47 : decode cX7_keep 47 = .ok (.invokevirtual 48, 3) := by decide +kernel
theorem dX7_keep_50 : decode cX7_keep 50 = .ok (.iinc 1 1, 3) := by decide +kernel
theorem dX7_keep_53 : decode cX7_keep 53 = .ok (.goto (-39), 3) := by decide +kernel
theorem dX7_keep_56 : decode cX7_keep 56 = .ok (.iconst 0, 1) := by decide +kernel
theorem dX7_keep_57 : decode cX7_keep 57 = .ok (.istore_n 1, 1) := by decide +kernel
theorem dX7_keep_58 : decode cX7_keep 58 = .ok (.iload_n 1, 1) := by decide +kernel
theorem dX7_keep_59 : decode cX7_keep 59 = .ok (.bipush 110, 2) := by decide +kernel
theorem dX7_keep_61 : decode cX7_keep 61 = .ok (.if_icmp .ge 29, 3) := by decide +kernel
theorem dX7_keep_64 : decode cX7_keep 64 = .ok (.aload_n 0, 1) := by decide +kernel
theorem dX7_keep_65 : decode cX7_keep 65 = .ok (.getfield 29, 3) := by decide +kernel
theorem dX7_keep_68 : decode cX7_keep 68 = .ok (.bipush 110, 2) := by decide +kernel
theorem dX7_keep_70 : decode cX7_keep 70 = .ok (.aload_n 0, 1) := by decide +kernel
theorem dX7_keep_71 : decode cX7_keep 71 = .ok (.getfield 52, 3) := by decide +kernel
theorem dX7_keep_74 : decode cX7_keep 74 = .ok (.imul, 1) := by decide +kernel
theorem dX7_keep_75 : decode cX7_keep 75 = .ok (.iload_n 1, 1) := by decide +kernel
theorem dX7_keep_76 : decode cX7_keep 76 = .ok (.iadd, 1) := by decide +kernel
theorem dX7_keep_77 : decode cX7_keep 77 = .ok (.aload_n 0, 1) := by decide +kernel
theorem dX7_keep_78 : decode cX7_keep 78 = .ok (.getfield 7, 3) := by decide +kernel
theorem dX7_keep_81 : decode cX7_keep 81 = .ok (.iload_n 1, 1) := by decide +kernel
theorem dX7_keep_82 : decode cX7_keep 82 = .ok (.iaload, 1) := by decide +kernel
theorem dX7_keep_83 : decode cX7_keep 83 = .ok (.iastore, 1) := by decide +kernel
theorem dX7_keep_84 : decode cX7_keep 84 = .ok (.iinc 1 1, 3) := by decide +kernel
theorem dX7_keep_87 : decode cX7_keep 87 = .ok (.goto (-29), 3) := by decide +kernel
theorem dX7_keep_90 : decode cX7_keep 90 = .ok (.iconst 0, 1) := by decide +kernel
theorem dX7_keep_91 : decode cX7_keep 91 = .ok (.istore_n 1, 1) := by decide +kernel
theorem dX7_keep_92 : decode cX7_keep 92 = .ok (.iload_n 1, 1) := by decide +kernel
theorem dX7_keep_93 : decode cX7_keep 93 = .ok (.iconst 4, 1) := by decide +kernel
theorem dX7_keep_94 : decode cX7_keep 94 = .ok (.if_icmp .ge 28, 3) := by decide +kernel
theorem dX7_keep_97 : decode cX7_keep 97 = .ok (.aload_n 0, 1) := by decide +kernel
theorem dX7_keep_98 : decode cX7_keep 98 = .ok (.getfield 38, 3) := by decide +kernel
theorem dX7_keep_101 : decode cX7_keep 101 = .ok (.iconst 4, 1) := by decide +kernel
theorem dX7_keep_102 : decode cX7_keep 102 = .ok (.aload_n 0, 1) := by decide +kernel
theorem dX7_keep_103 : decode cX7_keep 103 = .ok (.getfield 52, 3) := by decide +kernel
theorem dX7_keep_106 : decode cX7_keep 106 = .ok (.imul, 1) := by decide +kernel
theorem dX7_keep_107 : decode cX7_keep 107 = .ok (.iload_n 1, 1) := by decide +kernel
theorem dX7_keep_108 : decode cX7_keep 108 = .ok (.iadd, 1) := by decide +kernel
theorem dX7_keep_109 : decode cX7_keep 109 = .ok (.aload_n 0, 1) := by decide +kernel
theorem dX7_keep_110 : decode cX7_keep 110 = .ok (.getfield 16, 3) := by decide +kernel
theorem dX7_keep_113 : decode cX7_keep 113 = .ok (.iload_n 1, 1) := by decide +kernel
theorem dX7_keep_114 : decode cX7_keep 114 = .ok (.laload, 1) := by decide +kernel
theorem dX7_keep_115 : decode cX7_keep 115 = .ok (.lastore, 1) := by decide +kernel
theorem dX7_keep_116 : decode cX7_keep 116 = .ok (.iinc 1 1, 3) := by decide +kernel
theorem dX7_keep_119 : decode cX7_keep 119 = .ok (.goto (-27), 3) := by decide +kernel
theorem dX7_keep_122 : decode cX7_keep 122 = .ok (.aload_n 0, 1) := by decide +kernel
theorem dX7_keep_123 : decode cX7_keep 123 = .ok (.dup, 1) := by decide +kernel
theorem dX7_keep_124 : decode cX7_keep 124 = .ok (.getfield 52, 3) := by decide +kernel
theorem dX7_keep_127 : decode cX7_keep 127 = .ok (.iconst 1, 1) := by decide +kernel
theorem dX7_keep_128 : decode cX7_keep 128 = .ok (.iadd, 1) := by decide +kernel
theorem dX7_keep_129 : decode cX7_keep 129 = .ok (.putfield 52, 3) := by decide +kernel
theorem dX7_keep_132 : decode cX7_keep 132 = .ok (.return_, 1) := by decide +kernel
theorem dX7_undo_0 : decode cX7_undo 0 = .ok (.aload_n 0, 1) := by decide +kernel
theorem dX7_undo_1 : decode cX7_undo 1 = .ok (.getfield 52, 3) := by decide +kernel
theorem dX7_undo_4 : decode cX7_undo 4 = .ok (.ifCond .ne 6, 3) := by decide +kernel
theorem dX7_undo_7 : decode cX7_undo 7 = .ok (.ldc 59, 2) := by decide +kernel
theorem dX7_undo_9 : decode cX7_undo 9 = .ok (.ireturn, 1) := by decide +kernel
theorem dX7_undo_10 : decode cX7_undo 10 = .ok (.aload_n 0, 1) := by decide +kernel
theorem dX7_undo_11 : decode cX7_undo 11 = .ok (.dup, 1) := by decide +kernel
theorem dX7_undo_12 : decode cX7_undo 12 = .ok (.getfield 52, 3) := by decide +kernel
theorem dX7_undo_15 : decode cX7_undo 15 = .ok (.iconst 1, 1) := by decide +kernel
theorem dX7_undo_16 : decode cX7_undo 16 = .ok (.isub, 1) := by decide +kernel
theorem dX7_undo_17 : decode cX7_undo 17 = .ok (.putfield 52, 3) := by decide +kernel
theorem dX7_undo_20 : decode cX7_undo 20 = .ok (.iconst 0, 1) := by decide +kernel
theorem dX7_undo_21 : decode cX7_undo 21 = .ok (.istore_n 1, 1) := by decide +kernel
theorem dX7_undo_22 : decode cX7_undo 22 = .ok (.iload_n 1, 1) := by decide +kernel
theorem dX7_undo_23 : decode cX7_undo 23 = .ok (.sipush 5010, 3) := by decide +kernel
theorem dX7_undo_26 : decode cX7_undo 26 = .ok (.if_icmp .ge 38, 3) := by decide +kernel
theorem dX7_undo_29 : decode cX7_undo 29 = .ok (.aload_n 0, 1) := by decide +kernel
theorem dX7_undo_30 : decode cX7_undo 30 = .ok (.getfield 13, 3) := by decide +kernel
theorem dX7_undo_33 : decode cX7_undo 33 = .ok (.sipush 801, 3) := by decide +kernel
theorem dX7_undo_36 : decode cX7_undo 36 = .ok (.iload_n 1, 1) := by decide +kernel
theorem dX7_undo_37 : decode cX7_undo 37 = .ok (.sipush 501, 3) := by decide +kernel
theorem dX7_undo_40 : decode cX7_undo 40 = .ok (.idiv, 1) := by decide +kernel
theorem dX7_undo_41 : decode cX7_undo 41 = .ok (.imul, 1) := by decide +kernel
theorem dX7_undo_42 : decode cX7_undo 42 = .ok (.iload_n 1, 1) := by decide +kernel
theorem dX7_undo_43 : decode cX7_undo 43 = .ok (.sipush 501, 3) := by decide +kernel
theorem dX7_undo_46 : decode cX7_undo 46 = .ok (.irem, 1) := by decide +kernel
theorem dX7_undo_47 : decode cX7_undo 47 = .ok (.iadd, 1) := by decide +kernel
theorem dX7_undo_48 : decode cX7_undo 48 = .ok (.aload_n 0, 1) := by decide +kernel
theorem dX7_undo_49 : decode cX7_undo 49 = .ok (.aload_n 0, 1) := by decide +kernel
theorem dX7_undo_50 : decode cX7_undo 50 = .ok (.getfield 52, 3) := by decide +kernel
theorem dX7_undo_53 : decode cX7_undo 53 = .ok (.iload_n 1, 1) := by decide +kernel
theorem dX7_undo_54 : decode cX7_undo 54 = .ok (.invokevirtual 44, 3) := by decide +kernel
theorem dX7_undo_57 : decode cX7_undo 57 = .ok (.iastore, 1) := by decide +kernel
theorem dX7_undo_58 : decode cX7_undo 58 = .ok (.iinc 1 1, 3) := by decide +kernel
theorem dX7_undo_61 : decode cX7_undo 61 = .ok (.goto (-39), 3) := by decide +kernel
theorem dX7_undo_64 : decode cX7_undo 64 = .ok (.iconst 0, 1) := by decide +kernel
theorem dX7_undo_65 : decode cX7_undo 65 = .ok (.istore_n 1, 1) := by decide +kernel
theorem dX7_undo_66 : decode cX7_undo 66 = .ok (.iload_n 1, 1) := by decide +kernel
theorem dX7_undo_67 : decode cX7_undo 67 = .ok (.bipush 110, 2) := by decide +kernel
theorem dX7_undo_69 : decode cX7_undo 69 = .ok (.if_icmp .ge 29, 3) := by decide +kernel
theorem dX7_undo_72 : decode cX7_undo 72 = .ok (.aload_n 0, 1) := by decide +kernel
theorem dX7_undo_73 : decode cX7_undo 73 = .ok (.getfield 7, 3) := by decide +kernel
theorem dX7_undo_76 : decode cX7_undo 76 = .ok (.iload_n 1, 1) := by decide +kernel
theorem dX7_undo_77 : decode cX7_undo 77 = .ok (.aload_n 0, 1) := by decide +kernel
theorem dX7_undo_78 : decode cX7_undo 78 = .ok (.getfield 29, 3) := by decide +kernel
theorem dX7_undo_81 : decode cX7_undo 81 = .ok (.bipush 110, 2) := by decide +kernel
theorem dX7_undo_83 : decode cX7_undo 83 = .ok (.aload_n 0, 1) := by decide +kernel
theorem dX7_undo_84 : decode cX7_undo 84 = .ok (.getfield 52, 3) := by decide +kernel
theorem dX7_undo_87 : decode cX7_undo 87 = .ok (.imul, 1) := by decide +kernel
theorem dX7_undo_88 : decode cX7_undo 88 = .ok (.iload_n 1, 1) := by decide +kernel
theorem dX7_undo_89 : decode cX7_undo 89 = .ok (.iadd, 1) := by decide +kernel
theorem dX7_undo_90 : decode cX7_undo 90 = .ok (.iaload, 1) := by decide +kernel
theorem dX7_undo_91 : decode cX7_undo 91 = .ok (.iastore, 1) := by decide +kernel
theorem dX7_undo_92 : decode cX7_undo 92 = .ok (.iinc 1 1, 3) := by decide +kernel
theorem dX7_undo_95 : decode cX7_undo 95 = .ok (.goto (-29), 3) := by decide +kernel
theorem dX7_undo_98 : decode cX7_undo 98 = .ok (.iconst 0, 1) := by decide +kernel
theorem dX7_undo_99 : decode cX7_undo 99 = .ok (.istore_n 1, 1) := by decide +kernel
theorem dX7_undo_100 : decode cX7_undo 100 = .ok (.iload_n 1, 1) := by decide +kernel
theorem dX7_undo_101 : decode cX7_undo 101 = .ok (.iconst 4, 1) := by decide +kernel
theorem dX7_undo_102 : decode cX7_undo 102 = .ok (.if_icmp .ge 28, 3) := by decide +kernel
theorem dX7_undo_105 : decode cX7_undo 105 = .ok (.aload_n 0, 1) := by decide +kernel
theorem dX7_undo_106 : decode cX7_undo 106 = .ok (.getfield 16, 3) := by decide +kernel
theorem dX7_undo_109 : decode cX7_undo 109 = .ok (.iload_n 1, 1) := by decide +kernel
theorem dX7_undo_110 : decode cX7_undo 110 = .ok (.aload_n 0, 1) := by decide +kernel
theorem dX7_undo_111 : decode cX7_undo 111 = .ok (.getfield 38, 3) := by decide +kernel
theorem dX7_undo_114 : decode cX7_undo 114 = .ok (.iconst 4, 1) := by decide +kernel
theorem dX7_undo_115 : decode cX7_undo 115 = .ok (.aload_n 0, 1) := by decide +kernel
theorem dX7_undo_116 : decode cX7_undo 116 = .ok (.getfield 52, 3) := by decide +kernel
theorem dX7_undo_119 : decode cX7_undo 119 = .ok (.imul, 1) := by decide +kernel
theorem dX7_undo_120 : decode cX7_undo 120 = .ok (.iload_n 1, 1) := by decide +kernel
theorem dX7_undo_121 : decode cX7_undo 121 = .ok (.iadd, 1) := by decide +kernel
theorem dX7_undo_122 : decode cX7_undo 122 = .ok (.laload, 1) := by decide +kernel
theorem dX7_undo_123 : decode cX7_undo 123 = .ok (.lastore, 1) := by decide +kernel
theorem dX7_undo_124 : decode cX7_undo 124 = .ok (.iinc 1 1, 3) := by decide +kernel
theorem dX7_undo_127 : decode cX7_undo 127 = .ok (.goto (-27), 3) := by decide +kernel
theorem dX7_undo_130 : decode cX7_undo 130 = .ok (.aload_n 0, 1) := by decide +kernel
theorem dX7_undo_131 : decode cX7_undo 131 = .ok (.getfield 52, 3) := by decide +kernel
theorem dX7_undo_134 : decode cX7_undo 134 = .ok (.ireturn, 1) := by decide +kernel
theorem dX7_setAside_0 : decode cX7_setAside 0 = .ok (.iconst 0, 1) := by decide +kernel
theorem dX7_setAside_1 : decode cX7_setAside 1 = .ok (.istore_n 1, 1) := by decide +kernel
theorem dX7_setAside_2 : decode cX7_setAside 2 = .ok (.iload_n 1, 1) := by decide +kernel
theorem dX7_setAside_3 : decode cX7_setAside 3 = .ok (.sipush 8010, 3) := by decide +kernel
theorem dX7_setAside_6 : decode cX7_setAside 6 = .ok (.if_icmp .ge 21, 3) := by decide +kernel
theorem dX7_setAside_9 : decode cX7_setAside 9 = .ok (.aload_n 0, 1) := by decide +kernel
theorem dX7_setAside_10 : decode cX7_setAside 10 = .ok (.getfield 23, 3) := by decide +kernel
theorem dX7_setAside_13 : decode cX7_setAside 13 = .ok (.iload_n 1, 1) := by decide +kernel
theorem dX7_setAside_14 : decode cX7_setAside 14 = .ok (.aload_n 0, 1) := by decide +kernel
theorem dX7_setAside_15 : decode cX7_setAside 15 = .ok (.getfield 13, 3) := by decide +kernel
theorem dX7_setAside_18 : decode cX7_setAside 18 = .ok (.iload_n 1, 1) := by decide +kernel
theorem dX7_setAside_19 : decode cX7_setAside 19 = .ok (.iaload, 1) := by decide +kernel
theorem dX7_setAside_20 : decode cX7_setAside 20 = .ok (.iastore, 1) := by decide +kernel
theorem dX7_setAside_21 : decode cX7_setAside 21 = .ok (.iinc 1 1, 3) := by decide +kernel
theorem dX7_setAside_24 : decode cX7_setAside 24 = .ok (.goto (-22), 3) := by decide +kernel
theorem dX7_setAside_27 : decode cX7_setAside 27 = .ok (.iconst 0, 1) := by decide +kernel
theorem dX7_setAside_28 : decode cX7_setAside 28 = .ok (.istore_n 1, 1) := by decide +kernel
theorem dX7_setAside_29 : decode cX7_setAside 29 = .ok (.iload_n 1, 1) := by decide +kernel
theorem dX7_setAside_30 : decode cX7_setAside 30 = .ok (.bipush 110, 2) := by decide +kernel
theorem dX7_setAside_32 : decode cX7_setAside 32 = .ok (.if_icmp .ge 21, 3) := by decide +kernel
theorem dX7_setAside_35 : decode cX7_setAside 35 = .ok (.aload_n 0, 1) := by decide +kernel
theorem dX7_setAside_36 : decode cX7_setAside 36 = .ok (.getfield 20, 3) := by decide +kernel
theorem dX7_setAside_39 : decode cX7_setAside 39 = .ok (.iload_n 1, 1) := by decide +kernel
theorem dX7_setAside_40 : decode cX7_setAside 40 = .ok (.aload_n 0, 1) := by decide +kernel
theorem dX7_setAside_41 : decode cX7_setAside 41 = .ok (.getfield 7, 3) := by decide +kernel
theorem dX7_setAside_44 : decode cX7_setAside 44 = .ok (.iload_n 1, 1) := by decide +kernel
theorem dX7_setAside_45 : decode cX7_setAside 45 = .ok (.iaload, 1) := by decide +kernel
theorem dX7_setAside_46 : decode cX7_setAside 46 = .ok (.iastore, 1) := by decide +kernel
theorem dX7_setAside_47 : decode cX7_setAside 47 = .ok (.iinc 1 1, 3) := by decide +kernel
theorem dX7_setAside_50 : decode cX7_setAside 50 = .ok (.goto (-21), 3) := by decide +kernel
theorem dX7_setAside_53 : decode cX7_setAside 53 = .ok (.iconst 0, 1) := by decide +kernel
theorem dX7_setAside_54 : decode cX7_setAside 54 = .ok (.istore_n 1, 1) := by decide +kernel
theorem dX7_setAside_55 : decode cX7_setAside 55 = .ok (.iload_n 1, 1) := by decide +kernel
theorem dX7_setAside_56 : decode cX7_setAside 56 = .ok (.iconst 4, 1) := by decide +kernel
theorem dX7_setAside_57 : decode cX7_setAside 57 = .ok (.if_icmp .ge 21, 3) := by decide +kernel
theorem dX7_setAside_60 : decode cX7_setAside 60 = .ok (.aload_n 0, 1) := by decide +kernel
theorem dX7_setAside_61 : decode cX7_setAside 61 = .ok (.getfield 26, 3) := by decide +kernel
theorem dX7_setAside_64 : decode cX7_setAside 64 = .ok (.iload_n 1, 1) := by decide +kernel
theorem dX7_setAside_65 : decode cX7_setAside 65 = .ok (.aload_n 0, 1) := by decide +kernel
theorem dX7_setAside_66 : decode cX7_setAside 66 = .ok (.getfield 16, 3) := by decide +kernel
theorem dX7_setAside_69 : decode cX7_setAside 69 = .ok (.iload_n 1, 1) := by decide +kernel
theorem dX7_setAside_70 : decode cX7_setAside 70 = .ok (.laload, 1) := by decide +kernel
theorem dX7_setAside_71 : decode cX7_setAside 71 = .ok (.lastore, 1) := by decide +kernel
theorem dX7_setAside_72 : decode cX7_setAside 72 = .ok (.iinc 1 1, 3) := by decide +kernel
theorem dX7_setAside_75 : decode cX7_setAside 75 = .ok (.goto (-20), 3) := by decide +kernel
theorem dX7_setAside_78 : decode cX7_setAside 78 = .ok (.return_, 1) := by decide +kernel
theorem dX7_bringBack_0 : decode cX7_bringBack 0 = .ok (.iconst 0, 1) := by decide +kernel
theorem dX7_bringBack_1 : decode cX7_bringBack 1 = .ok (.istore_n 1, 1) := by decide +kernel
theorem dX7_bringBack_2 : decode cX7_bringBack 2 = .ok (.iload_n 1, 1) := by decide +kernel
theorem dX7_bringBack_3 : decode cX7_bringBack 3 = .ok (.sipush 8010, 3) := by decide +kernel
theorem dX7_bringBack_6 : decode cX7_bringBack 6 = .ok (.if_icmp .ge 21, 3) := by decide +kernel
theorem dX7_bringBack_9 : decode cX7_bringBack 9 = .ok (.aload_n 0, 1) := by decide +kernel
theorem dX7_bringBack_10 : decode cX7_bringBack 10 = .ok (.getfield 13, 3) := by decide +kernel
theorem dX7_bringBack_13 : decode cX7_bringBack 13 = .ok (.iload_n 1, 1) := by decide +kernel
theorem dX7_bringBack_14 : decode cX7_bringBack 14 = .ok (.aload_n 0, 1) := by decide +kernel
theorem dX7_bringBack_15 : decode cX7_bringBack 15 = .ok (.getfield 23, 3) := by decide +kernel
theorem dX7_bringBack_18 : decode cX7_bringBack 18 = .ok (.iload_n 1, 1) := by decide +kernel
theorem dX7_bringBack_19 : decode cX7_bringBack 19 = .ok (.iaload, 1) := by decide +kernel
theorem dX7_bringBack_20 : decode cX7_bringBack 20 = .ok (.iastore, 1) := by decide +kernel
theorem dX7_bringBack_21 : decode cX7_bringBack 21 = .ok (.iinc 1 1, 3) := by decide +kernel
theorem dX7_bringBack_24 : decode cX7_bringBack 24 = .ok (.goto (-22), 3) := by decide +kernel
theorem dX7_bringBack_27 : decode cX7_bringBack 27 = .ok (.iconst 0, 1) := by decide +kernel
theorem dX7_bringBack_28 : decode cX7_bringBack 28 = .ok (.istore_n 1, 1) := by decide +kernel
theorem dX7_bringBack_29 : decode cX7_bringBack 29 = .ok (.iload_n 1, 1) := by decide +kernel
theorem dX7_bringBack_30 : decode cX7_bringBack 30 = .ok (.bipush 110, 2) := by decide +kernel
theorem dX7_bringBack_32 : decode cX7_bringBack 32 = .ok (.if_icmp .ge 21, 3) := by decide +kernel
theorem dX7_bringBack_35 : decode cX7_bringBack 35 = .ok (.aload_n 0, 1) := by decide +kernel
theorem dX7_bringBack_36 : decode cX7_bringBack 36 = .ok (.getfield 7, 3) := by decide +kernel
theorem dX7_bringBack_39 : decode cX7_bringBack 39 = .ok (.iload_n 1, 1) := by decide +kernel
theorem dX7_bringBack_40 : decode cX7_bringBack 40 = .ok (.aload_n 0, 1) := by decide +kernel
theorem dX7_bringBack_41 : decode cX7_bringBack 41 = .ok (.getfield 20, 3) := by decide +kernel
theorem dX7_bringBack_44 : decode cX7_bringBack 44 = .ok (.iload_n 1, 1) := by decide +kernel
theorem dX7_bringBack_45 : decode cX7_bringBack 45 = .ok (.iaload, 1) := by decide +kernel
theorem dX7_bringBack_46 : decode cX7_bringBack 46 = .ok (.iastore, 1) := by decide +kernel
theorem dX7_bringBack_47 : decode cX7_bringBack 47 = .ok (.iinc 1 1, 3) := by decide +kernel
theorem dX7_bringBack_50 : decode cX7_bringBack 50 = .ok (.goto (-21), 3) := by decide +kernel
theorem dX7_bringBack_53 : decode cX7_bringBack 53 = .ok (.iconst 0, 1) := by decide +kernel
theorem dX7_bringBack_54 : decode cX7_bringBack 54 = .ok (.istore_n 1, 1) := by decide +kernel
theorem dX7_bringBack_55 : decode cX7_bringBack 55 = .ok (.iload_n 1, 1) := by decide +kernel
theorem dX7_bringBack_56 : decode cX7_bringBack 56 = .ok (.iconst 4, 1) := by decide +kernel
theorem dX7_bringBack_57 : decode cX7_bringBack 57 = .ok (.if_icmp .ge 21, 3) := by decide +kernel
theorem dX7_bringBack_60 : decode cX7_bringBack 60 = .ok (.aload_n 0, 1) := by decide +kernel
theorem dX7_bringBack_61 : decode cX7_bringBack 61 = .ok (.getfield 16, 3) := by decide +kernel
theorem dX7_bringBack_64 : decode cX7_bringBack 64 = .ok (.iload_n 1, 1) := by decide +kernel
theorem dX7_bringBack_65 : decode cX7_bringBack 65 = .ok (.aload_n 0, 1) := by decide +kernel
theorem dX7_bringBack_66 : decode cX7_bringBack 66 = .ok (.getfield 26, 3) := by decide +kernel
theorem dX7_bringBack_69 : decode cX7_bringBack 69 = .ok (.iload_n 1, 1) := by decide +kernel
theorem dX7_bringBack_70 : decode cX7_bringBack 70 = .ok (.laload, 1) := by decide +kernel
theorem dX7_bringBack_71 : decode cX7_bringBack 71 = .ok (.lastore, 1) := by decide +kernel
theorem dX7_bringBack_72 : decode cX7_bringBack 72 = .ok (.iinc 1 1, 3) := by decide +kernel
theorem dX7_bringBack_75 : decode cX7_bringBack 75 = .ok (.goto (-20), 3) := by decide +kernel
theorem dX7_bringBack_78 : decode cX7_bringBack 78 = .ok (.return_, 1) := by decide +kernel
theorem dX7_of_0 : decode cX7_of 0 = .ok (.aload_n 0, 1) := by decide +kernel
theorem dX7_of_1 : decode cX7_of 1 = .ok (.getfield 7, 3) := by decide +kernel
theorem dX7_of_4 : decode cX7_of 4 = .ok (.bipush 14, 2) := by decide +kernel
theorem dX7_of_6 : decode cX7_of 6 = .ok (.bipush 6, 2) := by decide +kernel
theorem dX7_of_8 : decode cX7_of 8 = .ok (.iload_n 1, 1) := by decide +kernel
theorem dX7_of_9 : decode cX7_of 9 = .ok (.imul, 1) := by decide +kernel
theorem dX7_of_10 : decode cX7_of 10 = .ok (.iadd, 1) := by decide +kernel
theorem dX7_of_11 : decode cX7_of 11 = .ok (.iload_n 2, 1) := by decide +kernel
theorem dX7_of_12 : decode cX7_of 12 = .ok (.iadd, 1) := by decide +kernel
theorem dX7_of_13 : decode cX7_of 13 = .ok (.iaload, 1) := by decide +kernel
theorem dX7_of_14 : decode cX7_of 14 = .ok (.ireturn, 1) := by decide +kernel
theorem dX7_put_0 : decode cX7_put 0 = .ok (.aload_n 0, 1) := by decide +kernel
theorem dX7_put_1 : decode cX7_put 1 = .ok (.getfield 7, 3) := by decide +kernel
theorem dX7_put_4 : decode cX7_put 4 = .ok (.bipush 14, 2) := by decide +kernel
theorem dX7_put_6 : decode cX7_put 6 = .ok (.bipush 6, 2) := by decide +kernel
theorem dX7_put_8 : decode cX7_put 8 = .ok (.iload_n 1, 1) := by decide +kernel
theorem dX7_put_9 : decode cX7_put 9 = .ok (.imul, 1) := by decide +kernel
theorem dX7_put_10 : decode cX7_put 10 = .ok (.iadd, 1) := by decide +kernel
theorem dX7_put_11 : decode cX7_put 11 = .ok (.iload_n 2, 1) := by decide +kernel
theorem dX7_put_12 : decode cX7_put 12 = .ok (.iadd, 1) := by decide +kernel
theorem dX7_put_13 : decode cX7_put 13 = .ok (.iload_n 3, 1) := by decide +kernel
theorem dX7_put_14 : decode cX7_put 14 = .ok (.iastore, 1) := by decide +kernel
theorem dX7_put_15 : decode cX7_put 15 = .ok (.return_, 1) := by decide +kernel
theorem dX7_ofStake_0 : decode cX7_ofStake 0 = .ok (.aload_n 0, 1) := by decide +kernel
theorem dX7_ofStake_1 : decode cX7_ofStake 1 = .ok (.getfield 7, 3) := by decide +kernel
theorem dX7_ofStake_4 : decode cX7_ofStake 4 = .ok (.bipush 74, 2) := by decide +kernel
theorem dX7_ofStake_6 : decode cX7_ofStake 6 = .ok (.bipush 6, 2) := by decide +kernel
theorem dX7_ofStake_8 : decode cX7_ofStake 8 = .ok (.iload_n 1, 1) := by decide +kernel
theorem dX7_ofStake_9 : decode cX7_ofStake 9 = .ok (.imul, 1) := by decide +kernel
theorem dX7_ofStake_10 : decode cX7_ofStake 10 = .ok (.iadd, 1) := by decide +kernel
theorem dX7_ofStake_11 : decode cX7_ofStake 11 = .ok (.iload_n 2, 1) := by decide +kernel
theorem dX7_ofStake_12 : decode cX7_ofStake 12 = .ok (.iadd, 1) := by decide +kernel
theorem dX7_ofStake_13 : decode cX7_ofStake 13 = .ok (.iaload, 1) := by decide +kernel
theorem dX7_ofStake_14 : decode cX7_ofStake 14 = .ok (.ireturn, 1) := by decide +kernel
theorem dX7_putStake_0 : decode cX7_putStake 0 = .ok (.aload_n 0, 1) := by decide +kernel
theorem dX7_putStake_1 : decode cX7_putStake 1 = .ok (.getfield 7, 3) := by decide +kernel
theorem dX7_putStake_4 : decode cX7_putStake 4 = .ok (.bipush 74, 2) := by decide +kernel
theorem dX7_putStake_6 : decode cX7_putStake 6 = .ok (.bipush 6, 2) := by decide +kernel
theorem dX7_putStake_8 : decode cX7_putStake 8 = .ok (.iload_n 1, 1) := by decide +kernel
theorem dX7_putStake_9 : decode cX7_putStake 9 = .ok (.imul, 1) := by decide +kernel
theorem dX7_putStake_10 : decode cX7_putStake 10 = .ok (.iadd, 1) := by decide +kernel
theorem dX7_putStake_11 : decode cX7_putStake 11 = .ok (.iload_n 2, 1) := by decide +kernel
theorem dX7_putStake_12 : decode cX7_putStake 12 = .ok (.iadd, 1) := by decide +kernel
theorem dX7_putStake_13 : decode cX7_putStake 13 = .ok (.iload_n 3, 1) := by decide +kernel
theorem dX7_putStake_14 : decode cX7_putStake 14 = .ok (.iastore, 1) := by decide +kernel
theorem dX7_putStake_15 : decode cX7_putStake 15 = .ok (.return_, 1) := by decide +kernel
theorem dX7_isBand_0 : decode cX7_isBand 0 = .ok (.iload_n 1, 1) := by decide +kernel
theorem dX7_isBand_1 : decode cX7_isBand 1 = .ok (.iconst 0, 1) := by decide +kernel
theorem dX7_isBand_2 : decode cX7_isBand 2 = .ok (.aload_n 0, 1) := by decide +kernel
theorem dX7_isBand_3 : decode cX7_isBand 3 = .ok (.getfield 7, 3) := by decide +kernel
theorem dX7_isBand_6 : decode cX7_isBand 6 = .ok (.bipush 8, 2) := by decide +kernel
theorem dX7_isBand_8 : decode cX7_isBand 8 = .ok (.iaload, 1) := by decide +kernel
theorem dX7_isBand_9 : decode cX7_isBand 9 = .ok (.iconst 1, 1) := by decide +kernel
theorem dX7_isBand_10 : decode cX7_isBand 10 = .ok (.isub, 1) := by decide +kernel
theorem dX7_isBand_11 : decode cX7_isBand 11 = .ok (.invokestatic 60, 3) := by decide +kernel
theorem dX7_isBand_14 : decode cX7_isBand 14 = .ok (.ireturn, 1) := by decide +kernel
theorem dX7_isStake_0 : decode cX7_isStake 0 = .ok (.iload_n 1, 1) := by decide +kernel
theorem dX7_isStake_1 : decode cX7_isStake 1 = .ok (.iconst 0, 1) := by decide +kernel
theorem dX7_isStake_2 : decode cX7_isStake 2 = .ok (.aload_n 0, 1) := by decide +kernel
theorem dX7_isStake_3 : decode cX7_isStake 3 = .ok (.getfield 7, 3) := by decide +kernel
theorem dX7_isStake_6 : decode cX7_isStake 6 = .ok (.bipush 9, 2) := by decide +kernel
theorem dX7_isStake_8 : decode cX7_isStake 8 = .ok (.iaload, 1) := by decide +kernel
theorem dX7_isStake_9 : decode cX7_isStake 9 = .ok (.iconst 1, 1) := by decide +kernel
theorem dX7_isStake_10 : decode cX7_isStake 10 = .ok (.isub, 1) := by decide +kernel
theorem dX7_isStake_11 : decode cX7_isStake 11 = .ok (.invokestatic 60, 3) := by decide +kernel
theorem dX7_isStake_14 : decode cX7_isStake 14 = .ok (.ireturn, 1) := by decide +kernel
theorem dX7_iceOf_0 : decode cX7_iceOf 0 = .ok (.iconst 0, 1) := by decide +kernel
theorem dX7_iceOf_1 : decode cX7_iceOf 1 = .ok (.istore_n 2, 1) := by decide +kernel
theorem dX7_iceOf_2 : decode cX7_iceOf 2 = .ok (.iconst 0, 1) := by decide +kernel
theorem dX7_iceOf_3 : decode cX7_iceOf 3 = .ok (.istore_n 3, 1) := by decide +kernel
theorem dX7_iceOf_4 : decode cX7_iceOf 4 = .ok (.iload_n 3, 1) := by decide +kernel
theorem dX7_iceOf_5 : decode cX7_iceOf 5 = .ok (.aload_n 0, 1) := by decide +kernel
theorem dX7_iceOf_6 : decode cX7_iceOf 6 = .ok (.getfield 7, 3) := by decide +kernel
theorem dX7_iceOf_9 : decode cX7_iceOf 9 = .ok (.bipush 7, 2) := by decide +kernel
theorem dX7_iceOf_11 : decode cX7_iceOf 11 = .ok (.iaload, 1) := by decide +kernel
theorem dX7_iceOf_12 : decode cX7_iceOf 12 = .ok (.if_icmp .gt 24, 3) := by decide +kernel
theorem dX7_iceOf_15 : decode cX7_iceOf 15 = .ok (.iload_n 2, 1) := by decide +kernel
theorem dX7_iceOf_16 : decode cX7_iceOf 16 = .ok (.aload_n 0, 1) := by decide +kernel
theorem dX7_iceOf_17 : decode cX7_iceOf 17 = .ok (.getfield 13, 3) := by decide +kernel
theorem dX7_iceOf_20 : decode cX7_iceOf 20 = .ok (.sipush 801, 3) := by decide +kernel
theorem dX7_iceOf_23 : decode cX7_iceOf 23 = .ok (.iload_n 1, 1) := by decide +kernel
theorem dX7_iceOf_24 : decode cX7_iceOf 24 = .ok (.imul, 1) := by decide +kernel
theorem dX7_iceOf_25 : decode cX7_iceOf 25 = .ok (.iload_n 3, 1) := by decide +kernel
theorem dX7_iceOf_26 : decode cX7_iceOf 26 = .ok (.iadd, 1) := by decide +kernel
theorem dX7_iceOf_27 : decode cX7_iceOf 27 = .ok (.iaload, 1) := by decide +kernel
theorem dX7_iceOf_28 : decode cX7_iceOf 28 = .ok (.iadd, 1) := by decide +kernel
theorem dX7_iceOf_29 : decode cX7_iceOf 29 = .ok (.istore_n 2, 1) := by decide +kernel
theorem dX7_iceOf_30 : decode cX7_iceOf 30 = .ok (.iinc 3 1, 3) := by decide +kernel
theorem dX7_iceOf_33 : decode cX7_iceOf 33 = .ok (.goto (-29), 3) := by decide +kernel
theorem dX7_iceOf_36 : decode cX7_iceOf 36 = .ok (.iload_n 2, 1) := by decide +kernel
theorem dX7_iceOf_37 : decode cX7_iceOf 37 = .ok (.ireturn, 1) := by decide +kernel
theorem dX7_isSetting_0 : decode cX7_isSetting 0 = .ok (.iload_n 0, 1) := by decide +kernel
theorem dX7_isSetting_1 : decode cX7_isSetting 1 = .ok (.tableswitch 74 0 5 #[39, 48, 57, 48, 39, 66], 39) := by decide +kernel
theorem dX7_isSetting_40 : decode cX7_isSetting 40 = .ok (.iload_n 1, 1) := by decide +kernel
theorem dX7_isSetting_41 : decode cX7_isSetting 41 = .ok (.iconst 0, 1) := by decide +kernel
theorem dX7_isSetting_42 : decode cX7_isSetting 42 = .ok (.sipush 5000, 3) := by decide +kernel
theorem dX7_isSetting_45 : decode cX7_isSetting 45 = .ok (.invokestatic 60, 3) := by decide +kernel
theorem dX7_isSetting_48 : decode cX7_isSetting 48 = .ok (.ireturn, 1) := by decide +kernel
theorem dX7_isSetting_49 : decode cX7_isSetting 49 = .ok (.iload_n 1, 1) := by decide +kernel
theorem dX7_isSetting_50 : decode cX7_isSetting 50 = .ok (.iconst 0, 1) := by decide +kernel
theorem dX7_isSetting_51 : decode cX7_isSetting 51 = .ok (.sipush 500, 3) := by decide +kernel
theorem dX7_isSetting_54 : decode cX7_isSetting 54 = .ok (.invokestatic 60, 3) := by decide +kernel
theorem dX7_isSetting_57 : decode cX7_isSetting 57 = .ok (.ireturn, 1) := by decide +kernel
theorem dX7_isSetting_58 : decode cX7_isSetting 58 = .ok (.iload_n 1, 1) := by decide +kernel
theorem dX7_isSetting_59 : decode cX7_isSetting 59 = .ok (.iconst 0, 1) := by decide +kernel
theorem dX7_isSetting_60 : decode cX7_isSetting 60 = .ok (.sipush 9000, 3) := by decide +kernel
theorem dX7_isSetting_63 : decode cX7_isSetting 63 = .ok (.invokestatic 60, 3) := by decide +kernel
theorem dX7_isSetting_66 : decode cX7_isSetting 66 = .ok (.ireturn, 1) := by decide +kernel
theorem dX7_isSetting_67 : decode cX7_isSetting 67 = .ok (.iload_n 1, 1) := by decide +kernel
theorem dX7_isSetting_68 : decode cX7_isSetting 68 = .ok (.iconst 1, 1) := by decide +kernel
theorem dX7_isSetting_69 : decode cX7_isSetting 69 = .ok (.ldc 64, 2) := by decide +kernel
theorem dX7_isSetting_71 : decode cX7_isSetting 71 = .ok (.invokestatic 60, 3) := by decide +kernel
theorem dX7_isSetting_74 : decode cX7_isSetting 74 = .ok (.ireturn, 1) := by decide +kernel
theorem dX7_isSetting_75 : decode cX7_isSetting 75 = .ok (.iload_n 0, 1) := by decide +kernel
theorem dX7_isSetting_76 : decode cX7_isSetting 76 = .ok (.bipush 6, 2) := by decide +kernel
theorem dX7_isSetting_78 : decode cX7_isSetting 78 = .ok (.if_icmp .ne 17, 3) := by decide +kernel
theorem dX7_isSetting_81 : decode cX7_isSetting 81 = .ok (.iload_n 1, 1) := by decide +kernel
theorem dX7_isSetting_82 : decode cX7_isSetting 82 = .ok (.iconst 0, 1) := by decide +kernel
theorem dX7_isSetting_83 : decode cX7_isSetting 83 = .ok (.bipush 50, 2) := by decide +kernel
theorem dX7_isSetting_85 : decode cX7_isSetting 85 = .ok (.invokestatic 60, 3) := by decide +kernel
theorem dX7_isSetting_88 : decode cX7_isSetting 88 = .ok (.ifCond .eq 7, 3) := by decide +kernel
theorem dX7_isSetting_91 : decode cX7_isSetting 91 = .ok (.iconst 1, 1) := by decide +kernel
theorem dX7_isSetting_92 : decode cX7_isSetting 92 = .ok (.goto 4, 3) := by decide +kernel
theorem dX7_isSetting_95 : decode cX7_isSetting 95 = .ok (.iconst 0, 1) := by decide +kernel
theorem dX7_isSetting_96 : decode cX7_isSetting 96 = .ok (.ireturn, 1) := by decide +kernel
theorem dX7_set_0 : decode cX7_set 0 = .ok (.iload_n 1, 1) := by decide +kernel
theorem dX7_set_1 : decode cX7_set 1 = .ok (.iload_n 2, 1) := by decide +kernel
theorem dX7_set_2 : decode cX7_set 2 = .ok (.invokestatic 65, 3) := by decide +kernel
theorem dX7_set_5 : decode cX7_set 5 = .ok (.ifCond .ne 6, 3) := by decide +kernel
theorem dX7_set_8 : decode cX7_set 8 = .ok (.ldc 69, 2) := by decide +kernel
theorem dX7_set_10 : decode cX7_set 10 = .ok (.ireturn, 1) := by decide +kernel
theorem dX7_set_11 : decode cX7_set 11 = .ok (.aload_n 0, 1) := by decide +kernel
theorem dX7_set_12 : decode cX7_set 12 = .ok (.invokevirtual 70, 3) := by decide +kernel
theorem dX7_set_15 : decode cX7_set 15 = .ok (.aload_n 0, 1) := by decide +kernel
theorem dX7_set_16 : decode cX7_set 16 = .ok (.getfield 7, 3) := by decide +kernel
theorem dX7_set_19 : decode cX7_set 19 = .ok (.iload_n 1, 1) := by decide +kernel
theorem dX7_set_20 : decode cX7_set 20 = .ok (.iaload, 1) := by decide +kernel
theorem dX7_set_21 : decode cX7_set 21 = .ok (.istore_n 3, 1) := by decide +kernel
theorem dX7_set_22 : decode cX7_set 22 = .ok (.aload_n 0, 1) := by decide +kernel
theorem dX7_set_23 : decode cX7_set 23 = .ok (.getfield 7, 3) := by decide +kernel
theorem dX7_set_26 : decode cX7_set 26 = .ok (.iload_n 1, 1) := by decide +kernel
theorem dX7_set_27 : decode cX7_set 27 = .ok (.iload_n 2, 1) := by decide +kernel
theorem dX7_set_28 : decode cX7_set 28 = .ok (.iastore, 1) := by decide +kernel
theorem dX7_set_29 : decode cX7_set 29 = .ok (.iload_n 3, 1) := by decide +kernel
theorem dX7_set_30 : decode cX7_set 30 = .ok (.ireturn, 1) := by decide +kernel
theorem dX7_band_0 : decode cX7_band 0 = .ok (.iload_n 1, 1) := by decide +kernel
theorem dX7_band_1 : decode cX7_band 1 = .ok (.iconst 0, 1) := by decide +kernel
theorem dX7_band_2 : decode cX7_band 2 = .ok (.sipush 5000, 3) := by decide +kernel
theorem dX7_band_5 : decode cX7_band 5 = .ok (.invokestatic 60, 3) := by decide +kernel
theorem dX7_band_8 : decode cX7_band 8 = .ok (.ifCond .eq 37, 3) := by decide +kernel
theorem dX7_band_11 : decode cX7_band 11 = .ok (.iload_n 2, 1) := by decide +kernel
theorem dX7_band_12 : decode cX7_band 12 = .ok (.bipush 100, 2) := by decide +kernel
theorem dX7_band_14 : decode cX7_band 14 = .ok (.sipush 5000, 3) := by decide +kernel
theorem dX7_band_17 : decode cX7_band 17 = .ok (.invokestatic 60, 3) := by decide +kernel
theorem dX7_band_20 : decode cX7_band 20 = .ok (.ifCond .eq 25, 3) := by decide +kernel
theorem dX7_band_23 : decode cX7_band 23 = .ok (.iload_n 3, 1) := by decide +kernel
theorem dX7_band_24 : decode cX7_band 24 = .ok (.iconst 0, 1) := by decide +kernel
theorem dX7_band_25 : decode cX7_band 25 = .ok (.sipush 500, 3) := by decide +kernel
theorem dX7_band_28 : decode cX7_band 28 = .ok (.invokestatic 60, 3) := by decide +kernel
theorem dX7_band_31 : decode cX7_band 31 = .ok (.ifCond .eq 14, 3) := by decide +kernel
theorem dX7_band_34 : decode cX7_band 34 = .ok (.iload 4, 2) := by decide +kernel
theorem dX7_band_36 : decode cX7_band 36 = .ok (.iconst 0, 1) := by decide +kernel
theorem dX7_band_37 : decode cX7_band 37 = .ok (.ldc 64, 2) := by decide +kernel
theorem dX7_band_39 : decode cX7_band 39 = .ok (.invokestatic 60, 3) := by decide +kernel
theorem dX7_band_42 : decode cX7_band 42 = .ok (.ifCond .ne 6, 3) := by decide +kernel
theorem dX7_band_45 : decode cX7_band 45 = .ok (.ldc 69, 2) := by decide +kernel
theorem dX7_band_47 : decode cX7_band 47 = .ok (.ireturn, 1) := by decide +kernel
theorem dX7_band_48 : decode cX7_band 48 = .ok (.aload_n 0, 1) := by decide +kernel
theorem dX7_band_49 : decode cX7_band 49 = .ok (.getfield 7, 3) := by decide +kernel
theorem dX7_band_52 : decode cX7_band 52 = .ok (.bipush 8, 2) := by decide +kernel
theorem dX7_band_54 : decode cX7_band 54 = .ok (.iaload, 1) := by decide +kernel
theorem dX7_band_55 : decode cX7_band 55 = .ok (.istore 5, 2) := by decide +kernel
theorem dX7_band_57 : decode cX7_band 57 = .ok (.iload 5, 2) := by decide +kernel
theorem dX7_band_59 : decode cX7_band 59 = .ok (.ifCond .le 19, 3) := by decide +kernel
theorem dX7_band_62 : decode cX7_band 62 = .ok (.iload_n 1, 1) := by decide +kernel
theorem dX7_band_63 : decode cX7_band 63 = .ok (.aload_n 0, 1) := by decide +kernel
theorem dX7_band_64 : decode cX7_band 64 = .ok (.iload 5, 2) := by decide +kernel
theorem dX7_band_66 : decode cX7_band 66 = .ok (.iconst 1, 1) := by decide +kernel
theorem dX7_band_67 : decode cX7_band 67 = .ok (.isub, 1) := by decide +kernel
theorem dX7_band_68 : decode cX7_band 68 = .ok (.iconst 0, 1) := by decide +kernel
theorem dX7_band_69 : decode cX7_band 69 = .ok (.invokevirtual 73, 3) := by decide +kernel
theorem dX7_band_72 : decode cX7_band 72 = .ok (.if_icmp .lt 6, 3) := by decide +kernel
theorem dX7_band_75 : decode cX7_band 75 = .ok (.ldc 59, 2) := by decide +kernel
theorem dX7_band_77 : decode cX7_band 77 = .ok (.ireturn, 1) := by decide +kernel
theorem dX7_band_78 : decode cX7_band 78 = .ok (.iload 5, 2) := by decide +kernel
theorem dX7_band_80 : decode cX7_band 80 = .ok (.bipush 10, 2) := by decide +kernel
theorem dX7_band_82 : decode cX7_band 82 = .ok (.if_icmp .ne 6, 3) := by decide +kernel
theorem dX7_band_85 : decode cX7_band 85 = .ok (.ldc 76, 2) := by decide +kernel
theorem dX7_band_87 : decode cX7_band 87 = .ok (.ireturn, 1) := by decide +kernel
theorem dX7_band_88 : decode cX7_band 88 = .ok (.aload_n 0, 1) := by decide +kernel
theorem dX7_band_89 : decode cX7_band 89 = .ok (.invokevirtual 70, 3) := by decide +kernel
theorem dX7_band_92 : decode cX7_band 92 = .ok (.aload_n 0, 1) := by decide +kernel
theorem dX7_band_93 : decode cX7_band 93 = .ok (.getfield 7, 3) := by decide +kernel
theorem dX7_band_96 : decode cX7_band 96 = .ok (.bipush 8, 2) := by decide +kernel
theorem dX7_band_98 : decode cX7_band 98 = .ok (.dup2, 1) := by decide +kernel
theorem dX7_band_99 : decode cX7_band 99 = .ok (.iaload, 1) := by decide +kernel
theorem dX7_band_100 : decode cX7_band 100 = .ok (.iconst 1, 1) := by decide +kernel
theorem dX7_band_101 : decode cX7_band 101 = .ok (.iadd, 1) := by decide +kernel
theorem dX7_band_102 : decode cX7_band 102 = .ok (.iastore, 1) := by decide +kernel
theorem dX7_band_103 : decode cX7_band 103 = .ok (.aload_n 0, 1) := by decide +kernel
theorem dX7_band_104 : decode cX7_band 104 = .ok (.iload 5, 2) := by decide +kernel
theorem dX7_band_106 : decode cX7_band 106 = .ok (.iconst 0, 1) := by decide +kernel
theorem dX7_band_107 : decode cX7_band 107 = .ok (.iload_n 1, 1) := by decide +kernel
theorem dX7_band_108 : decode cX7_band 108 = .ok (.invokevirtual 77, 3) := by decide +kernel
theorem dX7_band_111 : decode cX7_band 111 = .ok (.aload_n 0, 1) := by decide +kernel
theorem dX7_band_112 : decode cX7_band 112 = .ok (.iload 5, 2) := by decide +kernel
theorem dX7_band_114 : decode cX7_band 114 = .ok (.iconst 1, 1) := by decide +kernel
theorem dX7_band_115 : decode cX7_band 115 = .ok (.iload_n 2, 1) := by decide +kernel
theorem dX7_band_116 : decode cX7_band 116 = .ok (.invokevirtual 77, 3) := by decide +kernel
theorem dX7_band_119 : decode cX7_band 119 = .ok (.aload_n 0, 1) := by decide +kernel
theorem dX7_band_120 : decode cX7_band 120 = .ok (.iload 5, 2) := by decide +kernel
theorem dX7_band_122 : decode cX7_band 122 = .ok (.iconst 2, 1) := by decide +kernel
theorem dX7_band_123 : decode cX7_band 123 = .ok (.iload_n 3, 1) := by decide +kernel
theorem dX7_band_124 : decode cX7_band 124 = .ok (.invokevirtual 77, 3) := by decide +kernel
theorem dX7_band_127 : decode cX7_band 127 = .ok (.aload_n 0, 1) := by decide +kernel
theorem dX7_band_128 : decode cX7_band 128 = .ok (.iload 5, 2) := by decide +kernel
theorem dX7_band_130 : decode cX7_band 130 = .ok (.iconst 3, 1) := by decide +kernel
theorem dX7_band_131 : decode cX7_band 131 = .ok (.iconst 0, 1) := by decide +kernel
theorem dX7_band_132 : decode cX7_band 132 = .ok (.invokevirtual 77, 3) := by decide +kernel
theorem dX7_band_135 : decode cX7_band 135 = .ok (.aload_n 0, 1) := by decide +kernel
theorem dX7_band_136 : decode cX7_band 136 = .ok (.iload 5, 2) := by decide +kernel
theorem dX7_band_138 : decode cX7_band 138 = .ok (.iconst 4, 1) := by decide +kernel
theorem dX7_band_139 : decode cX7_band 139 = .ok (.iconst 0, 1) := by decide +kernel
theorem dX7_band_140 : decode cX7_band 140 = .ok (.invokevirtual 77, 3) := by decide +kernel
theorem dX7_band_143 : decode cX7_band 143 = .ok (.aload_n 0, 1) := by decide +kernel
theorem dX7_band_144 : decode cX7_band 144 = .ok (.iload 5, 2) := by decide +kernel
theorem dX7_band_146 : decode cX7_band 146 = .ok (.iconst 5, 1) := by decide +kernel
theorem dX7_band_147 : decode cX7_band 147 = .ok (.iconst 0, 1) := by decide +kernel
theorem dX7_band_148 : decode cX7_band 148 = .ok (.invokevirtual 77, 3) := by decide +kernel
theorem dX7_band_151 : decode cX7_band 151 = .ok (.aload_n 0, 1) := by decide +kernel
theorem dX7_band_152 : decode cX7_band 152 = .ok (.iload 5, 2) := by decide +kernel
theorem dX7_band_154 : decode cX7_band 154 = .ok (.iload 4, 2) := by decide +kernel
theorem dX7_band_156 : decode cX7_band 156 = .ok (.invokevirtual 80, 3) := by decide +kernel
theorem dX7_band_159 : decode cX7_band 159 = .ok (.iload 5, 2) := by decide +kernel
theorem dX7_band_161 : decode cX7_band 161 = .ok (.ireturn, 1) := by decide +kernel
theorem dX7_lay_0 : decode cX7_lay 0 = .ok (.iconst 0, 1) := by decide +kernel
theorem dX7_lay_1 : decode cX7_lay 1 = .ok (.istore_n 3, 1) := by decide +kernel
theorem dX7_lay_2 : decode cX7_lay 2 = .ok (.iload_n 3, 1) := by decide +kernel
theorem dX7_lay_3 : decode cX7_lay 3 = .ok (.sipush 801, 3) := by decide +kernel
theorem dX7_lay_6 : decode cX7_lay 6 = .ok (.if_icmp .ge 22, 3) := by decide +kernel
theorem dX7_lay_9 : decode cX7_lay 9 = .ok (.aload_n 0, 1) := by decide +kernel
theorem dX7_lay_10 : decode cX7_lay 10 = .ok (.getfield 13, 3) := by decide +kernel
theorem dX7_lay_13 : decode cX7_lay 13 = .ok (.sipush 801, 3) := by decide +kernel
theorem dX7_lay_16 : decode cX7_lay 16 = .ok (.iload_n 1, 1) := by decide +kernel
theorem dX7_lay_17 : decode cX7_lay 17 = .ok (.imul, 1) := by decide +kernel
theorem dX7_lay_18 : decode cX7_lay 18 = .ok (.iload_n 3, 1) := by decide +kernel
theorem dX7_lay_19 : decode cX7_lay 19 = .ok (.iadd, 1) := by decide +kernel
theorem dX7_lay_20 : decode cX7_lay 20 = .ok (.iconst 0, 1) := by decide +kernel
theorem dX7_lay_21 : decode cX7_lay 21 = .ok (.iastore, 1) := by decide +kernel
theorem dX7_lay_22 : decode cX7_lay 22 = .ok (.iinc 3 1, 3) := by decide +kernel
theorem dX7_lay_25 : decode cX7_lay 25 = .ok (.goto (-23), 3) := by decide +kernel
theorem dX7_lay_28 : decode cX7_lay 28 = .ok (.aload_n 0, 1) := by decide +kernel
theorem dX7_lay_29 : decode cX7_lay 29 = .ok (.getfield 13, 3) := by decide +kernel
theorem dX7_lay_32 : decode cX7_lay 32 = .ok (.sipush 801, 3) := by decide +kernel
theorem dX7_lay_35 : decode cX7_lay 35 = .ok (.iload_n 1, 1) := by decide +kernel
theorem dX7_lay_36 : decode cX7_lay 36 = .ok (.imul, 1) := by decide +kernel
theorem dX7_lay_37 : decode cX7_lay 37 = .ok (.aload_n 0, 1) := by decide +kernel
theorem dX7_lay_38 : decode cX7_lay 38 = .ok (.getfield 7, 3) := by decide +kernel
theorem dX7_lay_41 : decode cX7_lay 41 = .ok (.bipush 7, 2) := by decide +kernel
theorem dX7_lay_43 : decode cX7_lay 43 = .ok (.iaload, 1) := by decide +kernel
theorem dX7_lay_44 : decode cX7_lay 44 = .ok (.iadd, 1) := by decide +kernel
theorem dX7_lay_45 : decode cX7_lay 45 = .ok (.iload_n 2, 1) := by decide +kernel
theorem dX7_lay_46 : decode cX7_lay 46 = .ok (.iastore, 1) := by decide +kernel
theorem dX7_lay_47 : decode cX7_lay 47 = .ok (.aload_n 0, 1) := by decide +kernel
theorem dX7_lay_48 : decode cX7_lay 48 = .ok (.getfield 16, 3) := by decide +kernel
theorem dX7_lay_51 : decode cX7_lay 51 = .ok (.iconst 0, 1) := by decide +kernel
theorem dX7_lay_52 : decode cX7_lay 52 = .ok (.dup2, 1) := by decide +kernel
theorem dX7_lay_53 : decode cX7_lay 53 = .ok (.laload, 1) := by decide +kernel
theorem dX7_lay_54 : decode cX7_lay 54 = .ok (.iload_n 2, 1) := by decide +kernel
theorem dX7_lay_55 : decode cX7_lay 55 = .ok (.i2l, 1) := by decide +kernel
theorem dX7_lay_56 : decode cX7_lay 56 = .ok (.ladd, 1) := by decide +kernel
theorem dX7_lay_57 : decode cX7_lay 57 = .ok (.lastore, 1) := by decide +kernel
theorem dX7_lay_58 : decode cX7_lay 58 = .ok (.return_, 1) := by decide +kernel
theorem dX7_creep_0 : decode cX7_creep 0 = .ok (.aload_n 0, 1) := by decide +kernel
theorem dX7_creep_1 : decode cX7_creep 1 = .ok (.iload_n 1, 1) := by decide +kernel
theorem dX7_creep_2 : decode cX7_creep 2 = .ok (.invokevirtual 84, 3) := by decide +kernel
theorem dX7_creep_5 : decode cX7_creep 5 = .ok (.ifCond .eq 14, 3) := by decide +kernel
theorem dX7_creep_8 : decode cX7_creep 8 = .ok (.iload_n 2, 1) := by decide +kernel
theorem dX7_creep_9 : decode cX7_creep 9 = .ok (.iconst 0, 1) := by decide +kernel
theorem dX7_creep_10 : decode cX7_creep 10 = .ok (.sipush 500, 3) := by decide +kernel
theorem dX7_creep_13 : decode cX7_creep 13 = .ok (.invokestatic 60, 3) := by decide +kernel
theorem dX7_creep_16 : decode cX7_creep 16 = .ok (.ifCond .ne 6, 3) := by decide +kernel
theorem dX7_creep_19 : decode cX7_creep 19 = .ok (.ldc 69, 2) := by decide +kernel
theorem dX7_creep_21 : decode cX7_creep 21 = .ok (.ireturn, 1) := by decide +kernel
theorem dX7_creep_22 : decode cX7_creep 22 = .ok (.aload_n 0, 1) := by decide +kernel
theorem dX7_creep_23 : decode cX7_creep 23 = .ok (.invokevirtual 70, 3) := by decide +kernel
theorem dX7_creep_26 : decode cX7_creep 26 = .ok (.aload_n 0, 1) := by decide +kernel
theorem dX7_creep_27 : decode cX7_creep 27 = .ok (.iload_n 1, 1) := by decide +kernel
theorem dX7_creep_28 : decode cX7_creep 28 = .ok (.iconst 2, 1) := by decide +kernel
theorem dX7_creep_29 : decode cX7_creep 29 = .ok (.invokevirtual 73, 3) := by decide +kernel
theorem dX7_creep_32 : decode cX7_creep 32 = .ok (.istore_n 3, 1) := by decide +kernel
theorem dX7_creep_33 : decode cX7_creep 33 = .ok (.aload_n 0, 1) := by decide +kernel
theorem dX7_creep_34 : decode cX7_creep 34 = .ok (.iload_n 1, 1) := by decide +kernel
theorem dX7_creep_35 : decode cX7_creep 35 = .ok (.iconst 2, 1) := by decide +kernel
theorem dX7_creep_36 : decode cX7_creep 36 = .ok (.iload_n 2, 1) := by decide +kernel
theorem dX7_creep_37 : decode cX7_creep 37 = .ok (.invokevirtual 77, 3) := by decide +kernel
theorem dX7_creep_40 : decode cX7_creep 40 = .ok (.iload_n 3, 1) := by decide +kernel
theorem dX7_creep_41 : decode cX7_creep 41 = .ok (.ireturn, 1) := by decide +kernel
theorem dX7_snowOf_0 : decode cX7_snowOf 0 = .ok (.aload_n 0, 1) := by decide +kernel
theorem dX7_snowOf_1 : decode cX7_snowOf 1 = .ok (.getfield 7, 3) := by decide +kernel
theorem dX7_snowOf_4 : decode cX7_snowOf 4 = .ok (.iconst 0, 1) := by decide +kernel
theorem dX7_snowOf_5 : decode cX7_snowOf 5 = .ok (.iaload, 1) := by decide +kernel
theorem dX7_snowOf_6 : decode cX7_snowOf 6 = .ok (.aload_n 0, 1) := by decide +kernel
theorem dX7_snowOf_7 : decode cX7_snowOf 7 = .ok (.getfield 7, 3) := by decide +kernel
theorem dX7_snowOf_10 : decode cX7_snowOf 10 = .ok (.iconst 1, 1) := by decide +kernel
theorem dX7_snowOf_11 : decode cX7_snowOf 11 = .ok (.iaload, 1) := by decide +kernel
theorem dX7_snowOf_12 : decode cX7_snowOf 12 = .ok (.i2l, 1) := by decide +kernel
theorem dX7_snowOf_13 : decode cX7_snowOf 13 = .ok (.aload_n 0, 1) := by decide +kernel
theorem dX7_snowOf_14 : decode cX7_snowOf 14 = .ok (.iload_n 1, 1) := by decide +kernel
theorem dX7_snowOf_15 : decode cX7_snowOf 15 = .ok (.iconst 0, 1) := by decide +kernel
theorem dX7_snowOf_16 : decode cX7_snowOf 16 = .ok (.invokevirtual 73, 3) := by decide +kernel
theorem dX7_snowOf_19 : decode cX7_snowOf 19 = .ok (.aload_n 0, 1) := by decide +kernel
theorem dX7_snowOf_20 : decode cX7_snowOf 20 = .ok (.getfield 7, 3) := by decide +kernel
theorem dX7_snowOf_23 : decode cX7_snowOf 23 = .ok (.iconst 4, 1) := by decide +kernel
theorem dX7_snowOf_24 : decode cX7_snowOf 24 = .ok (.iaload, 1) := by decide +kernel
theorem dX7_snowOf_25 : decode cX7_snowOf 25 = .ok (.isub, 1) := by decide +kernel
theorem dX7_snowOf_26 : decode cX7_snowOf 26 = .ok (.i2l, 1) := by decide +kernel
theorem dX7_snowOf_27 : decode cX7_snowOf 27 = .ok (.lmul, 1) := by decide +kernel
theorem dX7_snowOf_28 : decode cX7_snowOf 28 = .ok (.bipush 100, 2) := by decide +kernel
theorem dX7_snowOf_30 : decode cX7_snowOf 30 = .ok (.invokestatic 88, 3) := by decide +kernel
theorem dX7_snowOf_33 : decode cX7_snowOf 33 = .ok (.iadd, 1) := by decide +kernel
theorem dX7_snowOf_34 : decode cX7_snowOf 34 = .ok (.istore_n 2, 1) := by decide +kernel
theorem dX7_snowOf_35 : decode cX7_snowOf 35 = .ok (.iload_n 2, 1) := by decide +kernel
theorem dX7_snowOf_36 : decode cX7_snowOf 36 = .ok (.ifCond .ge 7, 3) := by decide +kernel
theorem dX7_snowOf_39 : decode cX7_snowOf 39 = .ok (.iconst 0, 1) := by decide +kernel
theorem dX7_snowOf_40 : decode cX7_snowOf 40 = .ok (.goto 4, 3) := by decide +kernel
theorem dX7_snowOf_43 : decode cX7_snowOf 43 = .ok (.iload_n 2, 1) := by decide +kernel
theorem dX7_snowOf_44 : decode cX7_snowOf 44 = .ok (.ireturn, 1) := by decide +kernel
theorem dX7_meltOf_0 : decode cX7_meltOf 0 = .ok (.aload_n 0, 1) := by decide +kernel
theorem dX7_meltOf_1 : decode cX7_meltOf 1 = .ok (.getfield 7, 3) := by decide +kernel
theorem dX7_meltOf_4 : decode cX7_meltOf 4 = .ok (.iconst 2, 1) := by decide +kernel
theorem dX7_meltOf_5 : decode cX7_meltOf 5 = .ok (.iaload, 1) := by decide +kernel
theorem dX7_meltOf_6 : decode cX7_meltOf 6 = .ok (.aload_n 0, 1) := by decide +kernel
theorem dX7_meltOf_7 : decode cX7_meltOf 7 = .ok (.getfield 7, 3) := by decide +kernel
theorem dX7_meltOf_10 : decode cX7_meltOf 10 = .ok (.iconst 3, 1) := by decide +kernel
theorem dX7_meltOf_11 : decode cX7_meltOf 11 = .ok (.iaload, 1) := by decide +kernel
theorem dX7_meltOf_12 : decode cX7_meltOf 12 = .ok (.i2l, 1) := by decide +kernel
theorem dX7_meltOf_13 : decode cX7_meltOf 13 = .ok (.aload_n 0, 1) := by decide +kernel
theorem dX7_meltOf_14 : decode cX7_meltOf 14 = .ok (.iload_n 1, 1) := by decide +kernel
theorem dX7_meltOf_15 : decode cX7_meltOf 15 = .ok (.iconst 0, 1) := by decide +kernel
theorem dX7_meltOf_16 : decode cX7_meltOf 16 = .ok (.invokevirtual 73, 3) := by decide +kernel
theorem dX7_meltOf_19 : decode cX7_meltOf 19 = .ok (.aload_n 0, 1) := by decide +kernel
theorem dX7_meltOf_20 : decode cX7_meltOf 20 = .ok (.getfield 7, 3) := by decide +kernel
theorem dX7_meltOf_23 : decode cX7_meltOf 23 = .ok (.iconst 4, 1) := by decide +kernel
theorem dX7_meltOf_24 : decode cX7_meltOf 24 = .ok (.iaload, 1) := by decide +kernel
theorem dX7_meltOf_25 : decode cX7_meltOf 25 = .ok (.isub, 1) := by decide +kernel
theorem dX7_meltOf_26 : decode cX7_meltOf 26 = .ok (.i2l, 1) := by decide +kernel
theorem dX7_meltOf_27 : decode cX7_meltOf 27 = .ok (.lmul, 1) := by decide +kernel
theorem dX7_meltOf_28 : decode cX7_meltOf 28 = .ok (.bipush 100, 2) := by decide +kernel
theorem dX7_meltOf_30 : decode cX7_meltOf 30 = .ok (.invokestatic 88, 3) := by decide +kernel
theorem dX7_meltOf_33 : decode cX7_meltOf 33 = .ok (.isub, 1) := by decide +kernel
theorem dX7_meltOf_34 : decode cX7_meltOf 34 = .ok (.istore_n 2, 1) := by decide +kernel
theorem dX7_meltOf_35 : decode cX7_meltOf 35 = .ok (.iload_n 2, 1) := by decide +kernel
theorem dX7_meltOf_36 : decode cX7_meltOf 36 = .ok (.ifCond .ge 7, 3) := by decide +kernel
theorem dX7_meltOf_39 : decode cX7_meltOf 39 = .ok (.iconst 0, 1) := by decide +kernel
theorem dX7_meltOf_40 : decode cX7_meltOf 40 = .ok (.goto 4, 3) := by decide +kernel
theorem dX7_meltOf_43 : decode cX7_meltOf 43 = .ok (.iload_n 2, 1) := by decide +kernel
theorem dX7_meltOf_44 : decode cX7_meltOf 44 = .ok (.ireturn, 1) := by decide +kernel
theorem dX7_layersOf_0 : decode cX7_layersOf 0 = .ok (.iconst 0, 1) := by decide +kernel
theorem dX7_layersOf_1 : decode cX7_layersOf 1 = .ok (.istore_n 2, 1) := by decide +kernel
theorem dX7_layersOf_2 : decode cX7_layersOf 2 = .ok (.iconst 0, 1) := by decide +kernel
theorem dX7_layersOf_3 : decode cX7_layersOf 3 = .ok (.istore_n 3, 1) := by decide +kernel
theorem dX7_layersOf_4 : decode cX7_layersOf 4 = .ok (.iload_n 3, 1) := by decide +kernel
theorem dX7_layersOf_5 : decode cX7_layersOf 5 = .ok (.aload_n 0, 1) := by decide +kernel
theorem dX7_layersOf_6 : decode cX7_layersOf 6 = .ok (.getfield 7, 3) := by decide +kernel
theorem dX7_layersOf_9 : decode cX7_layersOf 9 = .ok (.bipush 7, 2) := by decide +kernel
theorem dX7_layersOf_11 : decode cX7_layersOf 11 = .ok (.iaload, 1) := by decide +kernel
theorem dX7_layersOf_12 : decode cX7_layersOf 12 = .ok (.if_icmp .gt 32, 3) := by decide +kernel
theorem dX7_layersOf_15 : decode cX7_layersOf 15 = .ok (.iload_n 2, 1) := by decide +kernel
theorem dX7_layersOf_16 : decode cX7_layersOf 16 = .ok (.aload_n 0, 1) := by decide +kernel
theorem dX7_layersOf_17 : decode cX7_layersOf 17 = .ok (.getfield 13, 3) := by decide +kernel
theorem dX7_layersOf_20 : decode cX7_layersOf 20 = .ok (.sipush 801, 3) := by decide +kernel
theorem dX7_layersOf_23 : decode cX7_layersOf 23 = .ok (.iload_n 1, 1) := by decide +kernel
theorem dX7_layersOf_24 : decode cX7_layersOf 24 = .ok (.imul, 1) := by decide +kernel
theorem dX7_layersOf_25 : decode cX7_layersOf 25 = .ok (.iload_n 3, 1) := by decide +kernel
theorem dX7_layersOf_26 : decode cX7_layersOf 26 = .ok (.iadd, 1) := by decide +kernel
theorem dX7_layersOf_27 : decode cX7_layersOf 27 = .ok (.iaload, 1) := by decide +kernel
theorem dX7_layersOf_28 : decode cX7_layersOf 28 = .ok (.ifCond .le 7, 3) := by decide +kernel
theorem dX7_layersOf_31 : decode cX7_layersOf 31 = .ok (.iconst 1, 1) := by decide +kernel
theorem dX7_layersOf_32 : decode cX7_layersOf 32 = .ok (.goto 4, 3) := by decide +kernel
theorem dX7_layersOf_35 : decode cX7_layersOf 35 = .ok (.iconst 0, 1) := by decide +kernel
theorem dX7_layersOf_36 : decode cX7_layersOf 36 = .ok (.iadd, 1) := by decide +kernel
theorem dX7_layersOf_37 : decode cX7_layersOf 37 = .ok (.istore_n 2, 1) := by decide +kernel
theorem dX7_layersOf_38 : decode cX7_layersOf 38 = .ok (.iinc 3 1, 3) := by decide +kernel
theorem dX7_layersOf_41 : decode cX7_layersOf 41 = .ok (.goto (-37), 3) := by decide +kernel
theorem dX7_layersOf_44 : decode cX7_layersOf 44 = .ok (.iload_n 2, 1) := by decide +kernel
theorem dX7_layersOf_45 : decode cX7_layersOf 45 = .ok (.ireturn, 1) := by decide +kernel
theorem dX7_yearOf_0 : decode cX7_yearOf 0 = .ok (.iload_n 2, 1) := by decide +kernel
theorem dX7_yearOf_1 : decode cX7_yearOf 1 = .ok (.istore_n 3, 1) := by decide +kernel
theorem dX7_yearOf_2 : decode cX7_yearOf 2 = .ok (.iconst 0, 1) := by decide +kernel
theorem dX7_yearOf_3 : decode cX7_yearOf 3 = .ok (.istore 4, 2) := by decide +kernel
theorem dX7_yearOf_5 : decode cX7_yearOf 5 = .ok (.iload 4, 2) := by decide +kernel
theorem dX7_yearOf_7 : decode cX7_yearOf 7 = .ok (.aload_n 0, 1) := by decide +kernel
theorem dX7_yearOf_8 : decode cX7_yearOf 8 = .ok (.getfield 7, 3) := by decide +kernel
theorem dX7_yearOf_11 : decode cX7_yearOf 11 = .ok (.bipush 7, 2) := by decide +kernel
theorem dX7_yearOf_13 : decode cX7_yearOf 13 = .ok (.iaload, 1) := by decide +kernel
theorem dX7_yearOf_14 : decode cX7_yearOf 14 = .ok (.if_icmp .gt 35, 3) := by decide +kernel
theorem dX7_yearOf_17 : decode cX7_yearOf 17 = .ok (.aload_n 0, 1) := by decide +kernel
theorem dX7_yearOf_18 : decode cX7_yearOf 18 = .ok (.getfield 13, 3) := by decide +kernel
theorem dX7_yearOf_21 : decode cX7_yearOf 21 = .ok (.sipush 801, 3) := by decide +kernel
theorem dX7_yearOf_24 : decode cX7_yearOf 24 = .ok (.iload_n 1, 1) := by decide +kernel
theorem dX7_yearOf_25 : decode cX7_yearOf 25 = .ok (.imul, 1) := by decide +kernel
theorem dX7_yearOf_26 : decode cX7_yearOf 26 = .ok (.iload 4, 2) := by decide +kernel
theorem dX7_yearOf_28 : decode cX7_yearOf 28 = .ok (.iadd, 1) := by decide +kernel
theorem dX7_yearOf_29 : decode cX7_yearOf 29 = .ok (.iaload, 1) := by decide +kernel
theorem dX7_yearOf_30 : decode cX7_yearOf 30 = .ok (.ifCond .le 13, 3) := by decide +kernel
theorem dX7_yearOf_33 : decode cX7_yearOf 33 = .ok (.iload_n 3, 1) := by decide +kernel
theorem dX7_yearOf_34 : decode cX7_yearOf 34 = .ok (.ifCond .ne 6, 3) := by decide +kernel
theorem dX7_yearOf_37 : decode cX7_yearOf 37 = .ok (.iload 4, 2) := by decide +kernel
theorem dX7_yearOf_39 : decode cX7_yearOf 39 = .ok (.ireturn, 1) := by decide +kernel
theorem dX7_yearOf_40 : decode cX7_yearOf 40 = .ok (.iinc 3 (-1), 3) := by decide +kernel
theorem dX7_yearOf_43 : decode cX7_yearOf 43 = .ok (.iinc 4 1, 3) := by decide +kernel
theorem dX7_yearOf_46 : decode cX7_yearOf 46 = .ok (.goto (-41), 3) := by decide +kernel
theorem dX7_yearOf_49 : decode cX7_yearOf 49 = .ok (.iconst (-1), 1) := by decide +kernel
theorem dX7_yearOf_50 : decode cX7_yearOf 50 = .ok (.ireturn, 1) := by decide +kernel
theorem dX7_found_0 : decode cX7_found 0 = .ok (.iload_n 0, 1) := by decide +kernel
theorem dX7_found_1 : decode cX7_found 1 = .ok (.iconst (-1), 1) := by decide +kernel
theorem dX7_found_2 : decode cX7_found 2 = .ok (.if_icmp .ne 8, 3) := by decide +kernel
theorem dX7_found_5 : decode cX7_found 5 = .ok (.ldc 92, 2) := by decide +kernel
theorem dX7_found_7 : decode cX7_found 7 = .ok (.goto 4, 3) := by decide +kernel
theorem dX7_found_10 : decode cX7_found 10 = .ok (.iload_n 0, 1) := by decide +kernel
theorem dX7_found_11 : decode cX7_found 11 = .ok (.ireturn, 1) := by decide +kernel
theorem dX7_infoOf_0 : decode cX7_infoOf 0 = .ok (.iload_n 2, 1) := by decide +kernel
theorem dX7_infoOf_1 : decode cX7_infoOf 1 = .ok (.tableswitch 113 3 11 #[51, 57, 63, 73, 89, 95, 101, 101, 101], 51) := by decide +kernel
theorem dX7_infoOf_52 : decode cX7_infoOf 52 = .ok (.aload_n 0, 1) := by decide +kernel
theorem dX7_infoOf_53 : decode cX7_infoOf 53 = .ok (.iload_n 1, 1) := by decide +kernel
theorem dX7_infoOf_54 : decode cX7_infoOf 54 = .ok (.invokevirtual 93, 3) := by decide +kernel
theorem dX7_infoOf_57 : decode cX7_infoOf 57 = .ok (.ireturn, 1) := by decide +kernel
theorem dX7_infoOf_58 : decode cX7_infoOf 58 = .ok (.aload_n 0, 1) := by decide +kernel
theorem dX7_infoOf_59 : decode cX7_infoOf 59 = .ok (.iload_n 1, 1) := by decide +kernel
theorem dX7_infoOf_60 : decode cX7_infoOf 60 = .ok (.invokevirtual 97, 3) := by decide +kernel
theorem dX7_infoOf_63 : decode cX7_infoOf 63 = .ok (.ireturn, 1) := by decide +kernel
theorem dX7_infoOf_64 : decode cX7_infoOf 64 = .ok (.aload_n 0, 1) := by decide +kernel
theorem dX7_infoOf_65 : decode cX7_infoOf 65 = .ok (.iload_n 1, 1) := by decide +kernel
theorem dX7_infoOf_66 : decode cX7_infoOf 66 = .ok (.iconst 0, 1) := by decide +kernel
theorem dX7_infoOf_67 : decode cX7_infoOf 67 = .ok (.invokevirtual 100, 3) := by decide +kernel
theorem dX7_infoOf_70 : decode cX7_infoOf 70 = .ok (.invokestatic 103, 3) := by decide +kernel
theorem dX7_infoOf_73 : decode cX7_infoOf 73 = .ok (.ireturn, 1) := by decide +kernel
theorem dX7_infoOf_74 : decode cX7_infoOf 74 = .ok (.aload_n 0, 1) := by decide +kernel
theorem dX7_infoOf_75 : decode cX7_infoOf 75 = .ok (.iload_n 1, 1) := by decide +kernel
theorem dX7_infoOf_76 : decode cX7_infoOf 76 = .ok (.aload_n 0, 1) := by decide +kernel
theorem dX7_infoOf_77 : decode cX7_infoOf 77 = .ok (.iload_n 1, 1) := by decide +kernel
theorem dX7_infoOf_78 : decode cX7_infoOf 78 = .ok (.invokevirtual 97, 3) := by decide +kernel
theorem dX7_infoOf_81 : decode cX7_infoOf 81 = .ok (.iconst 1, 1) := by decide +kernel
theorem dX7_infoOf_82 : decode cX7_infoOf 82 = .ok (.isub, 1) := by decide +kernel
theorem dX7_infoOf_83 : decode cX7_infoOf 83 = .ok (.invokevirtual 100, 3) := by decide +kernel
theorem dX7_infoOf_86 : decode cX7_infoOf 86 = .ok (.invokestatic 103, 3) := by decide +kernel
theorem dX7_infoOf_89 : decode cX7_infoOf 89 = .ok (.ireturn, 1) := by decide +kernel
theorem dX7_infoOf_90 : decode cX7_infoOf 90 = .ok (.aload_n 0, 1) := by decide +kernel
theorem dX7_infoOf_91 : decode cX7_infoOf 91 = .ok (.iload_n 1, 1) := by decide +kernel
theorem dX7_infoOf_92 : decode cX7_infoOf 92 = .ok (.invokevirtual 106, 3) := by decide +kernel
theorem dX7_infoOf_95 : decode cX7_infoOf 95 = .ok (.ireturn, 1) := by decide +kernel
theorem dX7_infoOf_96 : decode cX7_infoOf 96 = .ok (.aload_n 0, 1) := by decide +kernel
theorem dX7_infoOf_97 : decode cX7_infoOf 97 = .ok (.iload_n 1, 1) := by decide +kernel
theorem dX7_infoOf_98 : decode cX7_infoOf 98 = .ok (.invokevirtual 109, 3) := by decide +kernel
theorem dX7_infoOf_101 : decode cX7_infoOf 101 = .ok (.ireturn, 1) := by decide +kernel
theorem dX7_infoOf_102 : decode cX7_infoOf 102 = .ok (.aload_n 0, 1) := by decide +kernel
theorem dX7_infoOf_103 : decode cX7_infoOf 103 = .ok (.iload_n 1, 1) := by decide +kernel
theorem dX7_infoOf_104 : decode cX7_infoOf 104 = .ok (.iconst 3, 1) := by decide +kernel
theorem dX7_infoOf_105 : decode cX7_infoOf 105 = .ok (.iload_n 2, 1) := by decide +kernel
theorem dX7_infoOf_106 : decode cX7_infoOf 106 = .ok (.iadd, 1) := by decide +kernel
theorem dX7_infoOf_107 : decode cX7_infoOf 107 = .ok (.bipush 9, 2) := by decide +kernel
theorem dX7_infoOf_109 : decode cX7_infoOf 109 = .ok (.isub, 1) := by decide +kernel
theorem dX7_infoOf_110 : decode cX7_infoOf 110 = .ok (.invokevirtual 73, 3) := by decide +kernel
theorem dX7_infoOf_113 : decode cX7_infoOf 113 = .ok (.ireturn, 1) := by decide +kernel
theorem dX7_infoOf_114 : decode cX7_infoOf 114 = .ok (.aload_n 0, 1) := by decide +kernel
theorem dX7_infoOf_115 : decode cX7_infoOf 115 = .ok (.iload_n 1, 1) := by decide +kernel
theorem dX7_infoOf_116 : decode cX7_infoOf 116 = .ok (.iload_n 2, 1) := by decide +kernel
theorem dX7_infoOf_117 : decode cX7_infoOf 117 = .ok (.invokevirtual 73, 3) := by decide +kernel
theorem dX7_infoOf_120 : decode cX7_infoOf 120 = .ok (.ireturn, 1) := by decide +kernel
theorem dX7_bandInfo_0 : decode cX7_bandInfo 0 = .ok (.aload_n 0, 1) := by decide +kernel
theorem dX7_bandInfo_1 : decode cX7_bandInfo 1 = .ok (.iload_n 1, 1) := by decide +kernel
theorem dX7_bandInfo_2 : decode cX7_bandInfo 2 = .ok (.invokevirtual 84, 3) := by decide +kernel
theorem dX7_bandInfo_5 : decode cX7_bandInfo 5 = .ok (.ifCond .eq 22, 3) := by decide +kernel
theorem dX7_bandInfo_8 : decode cX7_bandInfo 8 = .ok (.iload_n 2, 1) := by decide +kernel
theorem dX7_bandInfo_9 : decode cX7_bandInfo 9 = .ok (.iconst 0, 1) := by decide +kernel
theorem dX7_bandInfo_10 : decode cX7_bandInfo 10 = .ok (.bipush 11, 2) := by decide +kernel
theorem dX7_bandInfo_12 : decode cX7_bandInfo 12 = .ok (.invokestatic 60, 3) := by decide +kernel
theorem dX7_bandInfo_15 : decode cX7_bandInfo 15 = .ok (.ifCond .eq 12, 3) := by decide +kernel
theorem dX7_bandInfo_18 : decode cX7_bandInfo 18 = .ok (.aload_n 0, 1) := by decide +kernel
theorem dX7_bandInfo_19 : decode cX7_bandInfo 19 = .ok (.iload_n 1, 1) := by decide +kernel
theorem dX7_bandInfo_20 : decode cX7_bandInfo 20 = .ok (.iload_n 2, 1) := by decide +kernel
theorem dX7_bandInfo_21 : decode cX7_bandInfo 21 = .ok (.invokevirtual 112, 3) := by decide +kernel
theorem dX7_bandInfo_24 : decode cX7_bandInfo 24 = .ok (.goto 5, 3) := by decide +kernel
theorem dX7_bandInfo_27 : decode cX7_bandInfo 27 = .ok (.ldc 69, 2) := by decide +kernel
theorem dX7_bandInfo_29 : decode cX7_bandInfo 29 = .ok (.ireturn, 1) := by decide +kernel
theorem dX7_layer_0 : decode cX7_layer 0 = .ok (.aload_n 0, 1) := by decide +kernel
theorem dX7_layer_1 : decode cX7_layer 1 = .ok (.iload_n 1, 1) := by decide +kernel
theorem dX7_layer_2 : decode cX7_layer 2 = .ok (.invokevirtual 84, 3) := by decide +kernel
theorem dX7_layer_5 : decode cX7_layer 5 = .ok (.ifCond .eq 16, 3) := by decide +kernel
theorem dX7_layer_8 : decode cX7_layer 8 = .ok (.iload_n 2, 1) := by decide +kernel
theorem dX7_layer_9 : decode cX7_layer 9 = .ok (.ifCond .lt 12, 3) := by decide +kernel
theorem dX7_layer_12 : decode cX7_layer 12 = .ok (.iload_n 3, 1) := by decide +kernel
theorem dX7_layer_13 : decode cX7_layer 13 = .ok (.iconst 0, 1) := by decide +kernel
theorem dX7_layer_14 : decode cX7_layer 14 = .ok (.iconst 1, 1) := by decide +kernel
theorem dX7_layer_15 : decode cX7_layer 15 = .ok (.invokestatic 60, 3) := by decide +kernel
theorem dX7_layer_18 : decode cX7_layer 18 = .ok (.ifCond .ne 6, 3) := by decide +kernel
theorem dX7_layer_21 : decode cX7_layer 21 = .ok (.ldc 69, 2) := by decide +kernel
theorem dX7_layer_23 : decode cX7_layer 23 = .ok (.ireturn, 1) := by decide +kernel
theorem dX7_layer_24 : decode cX7_layer 24 = .ok (.aload_n 0, 1) := by decide +kernel
theorem dX7_layer_25 : decode cX7_layer 25 = .ok (.iload_n 1, 1) := by decide +kernel
theorem dX7_layer_26 : decode cX7_layer 26 = .ok (.iload_n 2, 1) := by decide +kernel
theorem dX7_layer_27 : decode cX7_layer 27 = .ok (.invokevirtual 100, 3) := by decide +kernel
theorem dX7_layer_30 : decode cX7_layer 30 = .ok (.istore 4, 2) := by decide +kernel
theorem dX7_layer_32 : decode cX7_layer 32 = .ok (.iload 4, 2) := by decide +kernel
theorem dX7_layer_34 : decode cX7_layer 34 = .ok (.iconst (-1), 1) := by decide +kernel
theorem dX7_layer_35 : decode cX7_layer 35 = .ok (.if_icmp .ne 8, 3) := by decide +kernel
theorem dX7_layer_38 : decode cX7_layer 38 = .ok (.ldc 92, 2) := by decide +kernel
theorem dX7_layer_40 : decode cX7_layer 40 = .ok (.goto 25, 3) := by decide +kernel
theorem dX7_layer_43 : decode cX7_layer 43 = .ok (.iload_n 3, 1) := by decide +kernel
theorem dX7_layer_44 : decode cX7_layer 44 = .ok (.ifCond .ne 8, 3) := by decide +kernel
theorem dX7_layer_47 : decode cX7_layer 47 = .ok (.iload 4, 2) := by decide +kernel
theorem dX7_layer_49 : decode cX7_layer 49 = .ok (.goto 16, 3) := by decide +kernel
theorem dX7_layer_52 : decode cX7_layer 52 = .ok (.aload_n 0, 1) := by decide +kernel
theorem dX7_layer_53 : decode cX7_layer 53 = .ok (.getfield 13, 3) := by decide +kernel
theorem dX7_layer_56 : decode cX7_layer 56 = .ok (.sipush 801, 3) := by decide +kernel
theorem dX7_layer_59 : decode cX7_layer 59 = .ok (.iload_n 1, 1) := by decide +kernel
theorem dX7_layer_60 : decode cX7_layer 60 = .ok (.imul, 1) := by decide +kernel
theorem dX7_layer_61 : decode cX7_layer 61 = .ok (.iload 4, 2) := by decide +kernel
theorem dX7_layer_63 : decode cX7_layer 63 = .ok (.iadd, 1) := by decide +kernel
theorem dX7_layer_64 : decode cX7_layer 64 = .ok (.iaload, 1) := by decide +kernel
theorem dX7_layer_65 : decode cX7_layer 65 = .ok (.ireturn, 1) := by decide +kernel
theorem dX7_leftOf_0 : decode cX7_leftOf 0 = .ok (.iconst 0, 1) := by decide +kernel
theorem dX7_leftOf_1 : decode cX7_leftOf 1 = .ok (.istore_n 2, 1) := by decide +kernel
theorem dX7_leftOf_2 : decode cX7_leftOf 2 = .ok (.iconst 0, 1) := by decide +kernel
theorem dX7_leftOf_3 : decode cX7_leftOf 3 = .ok (.istore_n 3, 1) := by decide +kernel
theorem dX7_leftOf_4 : decode cX7_leftOf 4 = .ok (.iload_n 3, 1) := by decide +kernel
theorem dX7_leftOf_5 : decode cX7_leftOf 5 = .ok (.aload_n 0, 1) := by decide +kernel
theorem dX7_leftOf_6 : decode cX7_leftOf 6 = .ok (.getfield 7, 3) := by decide +kernel
theorem dX7_leftOf_9 : decode cX7_leftOf 9 = .ok (.bipush 8, 2) := by decide +kernel
theorem dX7_leftOf_11 : decode cX7_leftOf 11 = .ok (.iaload, 1) := by decide +kernel
theorem dX7_leftOf_12 : decode cX7_leftOf 12 = .ok (.if_icmp .ge 24, 3) := by decide +kernel
theorem dX7_leftOf_15 : decode cX7_leftOf 15 = .ok (.iload_n 2, 1) := by decide +kernel
theorem dX7_leftOf_16 : decode cX7_leftOf 16 = .ok (.aload_n 0, 1) := by decide +kernel
theorem dX7_leftOf_17 : decode cX7_leftOf 17 = .ok (.getfield 13, 3) := by decide +kernel
theorem dX7_leftOf_20 : decode cX7_leftOf 20 = .ok (.sipush 801, 3) := by decide +kernel
theorem dX7_leftOf_23 : decode cX7_leftOf 23 = .ok (.iload_n 3, 1) := by decide +kernel
theorem dX7_leftOf_24 : decode cX7_leftOf 24 = .ok (.imul, 1) := by decide +kernel
theorem dX7_leftOf_25 : decode cX7_leftOf 25 = .ok (.iload_n 1, 1) := by decide +kernel
theorem dX7_leftOf_26 : decode cX7_leftOf 26 = .ok (.iadd, 1) := by decide +kernel
theorem dX7_leftOf_27 : decode cX7_leftOf 27 = .ok (.iaload, 1) := by decide +kernel
theorem dX7_leftOf_28 : decode cX7_leftOf 28 = .ok (.iadd, 1) := by decide +kernel
theorem dX7_leftOf_29 : decode cX7_leftOf 29 = .ok (.istore_n 2, 1) := by decide +kernel
theorem dX7_leftOf_30 : decode cX7_leftOf 30 = .ok (.iinc 3 1, 3) := by decide +kernel
theorem dX7_leftOf_33 : decode cX7_leftOf 33 = .ok (.goto (-29), 3) := by decide +kernel
theorem dX7_leftOf_36 : decode cX7_leftOf 36 = .ok (.iload_n 2, 1) := by decide +kernel
theorem dX7_leftOf_37 : decode cX7_leftOf 37 = .ok (.ireturn, 1) := by decide +kernel
theorem dX7_ofYear_0 : decode cX7_ofYear 0 = .ok (.iload_n 1, 1) := by decide +kernel
theorem dX7_ofYear_1 : decode cX7_ofYear 1 = .ok (.iconst 0, 1) := by decide +kernel
theorem dX7_ofYear_2 : decode cX7_ofYear 2 = .ok (.sipush 500, 3) := by decide +kernel
theorem dX7_ofYear_5 : decode cX7_ofYear 5 = .ok (.invokestatic 60, 3) := by decide +kernel
theorem dX7_ofYear_8 : decode cX7_ofYear 8 = .ok (.ifCond .eq 11, 3) := by decide +kernel
theorem dX7_ofYear_11 : decode cX7_ofYear 11 = .ok (.aload_n 0, 1) := by decide +kernel
theorem dX7_ofYear_12 : decode cX7_ofYear 12 = .ok (.iload_n 1, 1) := by decide +kernel
theorem dX7_ofYear_13 : decode cX7_ofYear 13 = .ok (.invokevirtual 115, 3) := by decide +kernel
theorem dX7_ofYear_16 : decode cX7_ofYear 16 = .ok (.goto 5, 3) := by decide +kernel
theorem dX7_ofYear_19 : decode cX7_ofYear 19 = .ok (.ldc 69, 2) := by decide +kernel
theorem dX7_ofYear_21 : decode cX7_ofYear 21 = .ok (.ireturn, 1) := by decide +kernel
theorem dX7_line_0 : decode cX7_line 0 = .ok (.aload_n 0, 1) := by decide +kernel
theorem dX7_line_1 : decode cX7_line 1 = .ok (.getfield 7, 3) := by decide +kernel
theorem dX7_line_4 : decode cX7_line 4 = .ok (.bipush 8, 2) := by decide +kernel
theorem dX7_line_6 : decode cX7_line 6 = .ok (.iaload, 1) := by decide +kernel
theorem dX7_line_7 : decode cX7_line 7 = .ok (.iconst 1, 1) := by decide +kernel
theorem dX7_line_8 : decode cX7_line 8 = .ok (.isub, 1) := by decide +kernel
theorem dX7_line_9 : decode cX7_line 9 = .ok (.istore_n 1, 1) := by decide +kernel
theorem dX7_line_10 : decode cX7_line 10 = .ok (.iload_n 1, 1) := by decide +kernel
theorem dX7_line_11 : decode cX7_line 11 = .ok (.ifCond .lt 24, 3) := by decide +kernel
theorem dX7_line_14 : decode cX7_line 14 = .ok (.aload_n 0, 1) := by decide +kernel
theorem dX7_line_15 : decode cX7_line 15 = .ok (.iload_n 1, 1) := by decide +kernel
theorem dX7_line_16 : decode cX7_line 16 = .ok (.invokevirtual 106, 3) := by decide +kernel
theorem dX7_line_19 : decode cX7_line 19 = .ok (.aload_n 0, 1) := by decide +kernel
theorem dX7_line_20 : decode cX7_line 20 = .ok (.iload_n 1, 1) := by decide +kernel
theorem dX7_line_21 : decode cX7_line 21 = .ok (.invokevirtual 109, 3) := by decide +kernel
theorem dX7_line_24 : decode cX7_line 24 = .ok (.if_icmp .lt 5, 3) := by decide +kernel
theorem dX7_line_27 : decode cX7_line 27 = .ok (.iload_n 1, 1) := by decide +kernel
theorem dX7_line_28 : decode cX7_line 28 = .ok (.ireturn, 1) := by decide +kernel
theorem dX7_line_29 : decode cX7_line 29 = .ok (.iinc 1 (-1), 3) := by decide +kernel
theorem dX7_line_32 : decode cX7_line 32 = .ok (.goto (-22), 3) := by decide +kernel
theorem dX7_line_35 : decode cX7_line 35 = .ok (.ldc 92, 2) := by decide +kernel
theorem dX7_line_37 : decode cX7_line 37 = .ok (.ireturn, 1) := by decide +kernel
theorem dX7_front_0 : decode cX7_front 0 = .ok (.iload_n 1, 1) := by decide +kernel
theorem dX7_front_1 : decode cX7_front 1 = .ok (.iconst 0, 1) := by decide +kernel
theorem dX7_front_2 : decode cX7_front 2 = .ok (.iconst 3, 1) := by decide +kernel
theorem dX7_front_3 : decode cX7_front 3 = .ok (.invokestatic 60, 3) := by decide +kernel
theorem dX7_front_6 : decode cX7_front 6 = .ok (.ifCond .ne 6, 3) := by decide +kernel
theorem dX7_front_9 : decode cX7_front 9 = .ok (.ldc 69, 2) := by decide +kernel
theorem dX7_front_11 : decode cX7_front 11 = .ok (.ireturn, 1) := by decide +kernel
theorem dX7_front_12 : decode cX7_front 12 = .ok (.iload_n 1, 1) := by decide +kernel
theorem dX7_front_13 : decode cX7_front 13 = .ok (.iconst 3, 1) := by decide +kernel
theorem dX7_front_14 : decode cX7_front 14 = .ok (.if_icmp .ne 16, 3) := by decide +kernel
theorem dX7_front_17 : decode cX7_front 17 = .ok (.aload_n 0, 1) := by decide +kernel
theorem dX7_front_18 : decode cX7_front 18 = .ok (.getfield 7, 3) := by decide +kernel
theorem dX7_front_21 : decode cX7_front 21 = .ok (.bipush 13, 2) := by decide +kernel
theorem dX7_front_23 : decode cX7_front 23 = .ok (.iaload, 1) := by decide +kernel
theorem dX7_front_24 : decode cX7_front 24 = .ok (.invokestatic 103, 3) := by decide +kernel
theorem dX7_front_27 : decode cX7_front 27 = .ok (.goto 12, 3) := by decide +kernel
theorem dX7_front_30 : decode cX7_front 30 = .ok (.aload_n 0, 1) := by decide +kernel
theorem dX7_front_31 : decode cX7_front 31 = .ok (.getfield 7, 3) := by decide +kernel
theorem dX7_front_34 : decode cX7_front 34 = .ok (.bipush 10, 2) := by decide +kernel
theorem dX7_front_36 : decode cX7_front 36 = .ok (.iload_n 1, 1) := by decide +kernel
theorem dX7_front_37 : decode cX7_front 37 = .ok (.iadd, 1) := by decide +kernel
theorem dX7_front_38 : decode cX7_front 38 = .ok (.iaload, 1) := by decide +kernel
theorem dX7_front_39 : decode cX7_front 39 = .ok (.ireturn, 1) := by decide +kernel
theorem dX7_allOfBands_0 : decode cX7_allOfBands 0 = .ok (.iconst 0, 1) := by decide +kernel
theorem dX7_allOfBands_1 : decode cX7_allOfBands 1 = .ok (.istore_n 1, 1) := by decide +kernel
theorem dX7_allOfBands_2 : decode cX7_allOfBands 2 = .ok (.iconst 0, 1) := by decide +kernel
theorem dX7_allOfBands_3 : decode cX7_allOfBands 3 = .ok (.istore_n 2, 1) := by decide +kernel
theorem dX7_allOfBands_4 : decode cX7_allOfBands 4 = .ok (.iload_n 2, 1) := by decide +kernel
theorem dX7_allOfBands_5 : decode cX7_allOfBands 5 = .ok (.aload_n 0, 1) := by decide +kernel
theorem dX7_allOfBands_6 : decode cX7_allOfBands 6 = .ok (.getfield 7, 3) := by decide +kernel
theorem dX7_allOfBands_9 : decode cX7_allOfBands 9 = .ok (.bipush 8, 2) := by decide +kernel
theorem dX7_allOfBands_11 : decode cX7_allOfBands 11 = .ok (.iaload, 1) := by decide +kernel
theorem dX7_allOfBands_12 : decode cX7_allOfBands 12 = .ok (.if_icmp .ge 17, 3) := by decide +kernel
theorem dX7_allOfBands_15 : decode cX7_allOfBands 15 = .ok (.iload_n 1, 1) := by decide +kernel
theorem dX7_allOfBands_16 : decode cX7_allOfBands 16 = .ok (.aload_n 0, 1) := by decide +kernel
theorem dX7_allOfBands_17 : decode cX7_allOfBands 17 = .ok (.iload_n 2, 1) := by decide +kernel
theorem dX7_allOfBands_18 : decode cX7_allOfBands 18 = .ok (.invokevirtual 93, 3) := by decide +kernel
theorem dX7_allOfBands_21 : decode cX7_allOfBands 21 = .ok (.iadd, 1) := by decide +kernel
theorem dX7_allOfBands_22 : decode cX7_allOfBands 22 = .ok (.istore_n 1, 1) := by decide +kernel
theorem dX7_allOfBands_23 : decode cX7_allOfBands 23 = .ok (.iinc 2 1, 3) := by decide +kernel
theorem dX7_allOfBands_26 : decode cX7_allOfBands 26 = .ok (.goto (-22), 3) := by decide +kernel
theorem dX7_allOfBands_29 : decode cX7_allOfBands 29 = .ok (.iload_n 1, 1) := by decide +kernel
theorem dX7_allOfBands_30 : decode cX7_allOfBands 30 = .ok (.ireturn, 1) := by decide +kernel
theorem dX7_allByYears_0 : decode cX7_allByYears 0 = .ok (.iconst 0, 1) := by decide +kernel
theorem dX7_allByYears_1 : decode cX7_allByYears 1 = .ok (.istore_n 1, 1) := by decide +kernel
theorem dX7_allByYears_2 : decode cX7_allByYears 2 = .ok (.iconst 0, 1) := by decide +kernel
theorem dX7_allByYears_3 : decode cX7_allByYears 3 = .ok (.istore_n 2, 1) := by decide +kernel
theorem dX7_allByYears_4 : decode cX7_allByYears 4 = .ok (.iload_n 2, 1) := by decide +kernel
theorem dX7_allByYears_5 : decode cX7_allByYears 5 = .ok (.aload_n 0, 1) := by decide +kernel
theorem dX7_allByYears_6 : decode cX7_allByYears 6 = .ok (.getfield 7, 3) := by decide +kernel
theorem dX7_allByYears_9 : decode cX7_allByYears 9 = .ok (.bipush 7, 2) := by decide +kernel
theorem dX7_allByYears_11 : decode cX7_allByYears 11 = .ok (.iaload, 1) := by decide +kernel
theorem dX7_allByYears_12 : decode cX7_allByYears 12 = .ok (.if_icmp .gt 17, 3) := by decide +kernel
theorem dX7_allByYears_15 : decode cX7_allByYears 15 = .ok (.iload_n 1, 1) := by decide +kernel
theorem dX7_allByYears_16 : decode cX7_allByYears 16 = .ok (.aload_n 0, 1) := by decide +kernel
theorem dX7_allByYears_17 : decode cX7_allByYears 17 = .ok (.iload_n 2, 1) := by decide +kernel
theorem dX7_allByYears_18 : decode cX7_allByYears 18 = .ok (.invokevirtual 115, 3) := by decide +kernel
theorem dX7_allByYears_21 : decode cX7_allByYears 21 = .ok (.iadd, 1) := by decide +kernel
theorem dX7_allByYears_22 : decode cX7_allByYears 22 = .ok (.istore_n 1, 1) := by decide +kernel
theorem dX7_allByYears_23 : decode cX7_allByYears 23 = .ok (.iinc 2 1, 3) := by decide +kernel
theorem dX7_allByYears_26 : decode cX7_allByYears 26 = .ok (.goto (-22), 3) := by decide +kernel
theorem dX7_allByYears_29 : decode cX7_allByYears 29 = .ok (.iload_n 1, 1) := by decide +kernel
theorem dX7_allByYears_30 : decode cX7_allByYears 30 = .ok (.ireturn, 1) := by decide +kernel
theorem dX7_account_0 : decode cX7_account 0 = .ok (.iload_n 1, 1) := by decide +kernel
theorem dX7_account_1 : decode cX7_account 1 = .ok (.iconst 0, 1) := by decide +kernel
theorem dX7_account_2 : decode cX7_account 2 = .ok (.iconst 5, 1) := by decide +kernel
theorem dX7_account_3 : decode cX7_account 3 = .ok (.invokestatic 60, 3) := by decide +kernel
theorem dX7_account_6 : decode cX7_account 6 = .ok (.ifCond .ne 7, 3) := by decide +kernel
theorem dX7_account_9 : decode cX7_account 9 = .ok (.ldc2_w 118, 3) := by decide +kernel
theorem dX7_account_12 : decode cX7_account 12 = .ok (.lreturn, 1) := by decide +kernel
theorem dX7_account_13 : decode cX7_account 13 = .ok (.iload_n 1, 1) := by decide +kernel
theorem dX7_account_14 : decode cX7_account 14 = .ok (.iconst 4, 1) := by decide +kernel
theorem dX7_account_15 : decode cX7_account 15 = .ok (.if_icmp .ge 12, 3) := by decide +kernel
theorem dX7_account_18 : decode cX7_account 18 = .ok (.aload_n 0, 1) := by decide +kernel
theorem dX7_account_19 : decode cX7_account 19 = .ok (.getfield 16, 3) := by decide +kernel
theorem dX7_account_22 : decode cX7_account 22 = .ok (.iload_n 1, 1) := by decide +kernel
theorem dX7_account_23 : decode cX7_account 23 = .ok (.laload, 1) := by decide +kernel
theorem dX7_account_24 : decode cX7_account 24 = .ok (.goto 28, 3) := by decide +kernel
theorem dX7_account_27 : decode cX7_account 27 = .ok (.aload_n 0, 1) := by decide +kernel
theorem dX7_account_28 : decode cX7_account 28 = .ok (.getfield 7, 3) := by decide +kernel
theorem dX7_account_31 : decode cX7_account 31 = .ok (.bipush 10, 2) := by decide +kernel
theorem dX7_account_33 : decode cX7_account 33 = .ok (.iaload, 1) := by decide +kernel
theorem dX7_account_34 : decode cX7_account 34 = .ok (.iload_n 1, 1) := by decide +kernel
theorem dX7_account_35 : decode cX7_account 35 = .ok (.iconst 4, 1) := by decide +kernel
theorem dX7_account_36 : decode cX7_account 36 = .ok (.if_icmp .ne 10, 3) := by decide +kernel
theorem dX7_account_39 : decode cX7_account 39 = .ok (.aload_n 0, 1) := by decide +kernel
theorem dX7_account_40 : decode cX7_account 40 = .ok (.invokevirtual 120, 3) := by decide +kernel
theorem dX7_account_43 : decode cX7_account 43 = .ok (.goto 7, 3) := by decide +kernel
theorem dX7_account_46 : decode cX7_account 46 = .ok (.aload_n 0, 1) := by decide +kernel
theorem dX7_account_47 : decode cX7_account 47 = .ok (.invokevirtual 124, 3) := by decide +kernel
theorem dX7_account_50 : decode cX7_account 50 = .ok (.iadd, 1) := by decide +kernel
theorem dX7_account_51 : decode cX7_account 51 = .ok (.i2l, 1) := by decide +kernel
theorem dX7_account_52 : decode cX7_account 52 = .ok (.lreturn, 1) := by decide +kernel
theorem dX7_standing_0 : decode cX7_standing 0 = .ok (.iconst 0, 1) := by decide +kernel
theorem dX7_standing_1 : decode cX7_standing 1 = .ok (.istore_n 1, 1) := by decide +kernel
theorem dX7_standing_2 : decode cX7_standing 2 = .ok (.iconst 0, 1) := by decide +kernel
theorem dX7_standing_3 : decode cX7_standing 3 = .ok (.istore_n 2, 1) := by decide +kernel
theorem dX7_standing_4 : decode cX7_standing 4 = .ok (.iload_n 2, 1) := by decide +kernel
theorem dX7_standing_5 : decode cX7_standing 5 = .ok (.aload_n 0, 1) := by decide +kernel
theorem dX7_standing_6 : decode cX7_standing 6 = .ok (.getfield 7, 3) := by decide +kernel
theorem dX7_standing_9 : decode cX7_standing 9 = .ok (.bipush 9, 2) := by decide +kernel
theorem dX7_standing_11 : decode cX7_standing 11 = .ok (.iaload, 1) := by decide +kernel
theorem dX7_standing_12 : decode cX7_standing 12 = .ok (.if_icmp .ge 26, 3) := by decide +kernel
theorem dX7_standing_15 : decode cX7_standing 15 = .ok (.iload_n 1, 1) := by decide +kernel
theorem dX7_standing_16 : decode cX7_standing 16 = .ok (.aload_n 0, 1) := by decide +kernel
theorem dX7_standing_17 : decode cX7_standing 17 = .ok (.iload_n 2, 1) := by decide +kernel
theorem dX7_standing_18 : decode cX7_standing 18 = .ok (.iconst 4, 1) := by decide +kernel
theorem dX7_standing_19 : decode cX7_standing 19 = .ok (.invokevirtual 127, 3) := by decide +kernel
theorem dX7_standing_22 : decode cX7_standing 22 = .ok (.ifCond .ne 7, 3) := by decide +kernel
theorem dX7_standing_25 : decode cX7_standing 25 = .ok (.iconst 1, 1) := by decide +kernel
theorem dX7_standing_26 : decode cX7_standing 26 = .ok (.goto 4, 3) := by decide +kernel
theorem dX7_standing_29 : decode cX7_standing 29 = .ok (.iconst 0, 1) := by decide +kernel
theorem dX7_standing_30 : decode cX7_standing 30 = .ok (.iadd, 1) := by decide +kernel
theorem dX7_standing_31 : decode cX7_standing 31 = .ok (.istore_n 1, 1) := by decide +kernel
theorem dX7_standing_32 : decode cX7_standing 32 = .ok (.iinc 2 1, 3) := by decide +kernel
theorem dX7_standing_35 : decode cX7_standing 35 = .ok (.goto (-31), 3) := by decide +kernel
theorem dX7_standing_38 : decode cX7_standing 38 = .ok (.iload_n 1, 1) := by decide +kernel
theorem dX7_standing_39 : decode cX7_standing 39 = .ok (.ireturn, 1) := by decide +kernel
theorem dX7_differentYears_0 : decode cX7_differentYears 0 = .ok (.iconst 0, 1) := by decide +kernel
theorem dX7_differentYears_1 : decode cX7_differentYears 1 = .ok (.istore_n 1, 1) := by decide +kernel
theorem dX7_differentYears_2 : decode cX7_differentYears 2 = .ok (.iconst 0, 1) := by decide +kernel
theorem dX7_differentYears_3 : decode cX7_differentYears 3 = .ok (.istore_n 2, 1) := by decide +kernel
theorem dX7_differentYears_4 : decode cX7_differentYears 4 = .ok (.iload_n 2, 1) := by decide +kernel
theorem dX7_differentYears_5 : decode cX7_differentYears 5 = .ok (.aload_n 0, 1) := by decide +kernel
theorem dX7_differentYears_6 : decode cX7_differentYears 6 = .ok (.getfield 7, 3) := by decide +kernel
theorem dX7_differentYears_9 : decode cX7_differentYears 9 = .ok (.bipush 7, 2) := by decide +kernel
theorem dX7_differentYears_11 : decode cX7_differentYears 11 = .ok (.iaload, 1) := by decide +kernel
theorem dX7_differentYears_12 : decode cX7_differentYears 12 = .ok (.if_icmp .gt 25, 3) := by decide +kernel
theorem dX7_differentYears_15 : decode cX7_differentYears 15 = .ok (.iload_n 1, 1) := by decide +kernel
theorem dX7_differentYears_16 : decode cX7_differentYears 16 = .ok (.aload_n 0, 1) := by decide +kernel
theorem dX7_differentYears_17 : decode cX7_differentYears 17 = .ok (.iload_n 2, 1) := by decide +kernel
theorem dX7_differentYears_18 : decode cX7_differentYears 18 = .ok (.invokevirtual 115, 3) := by decide +kernel
theorem dX7_differentYears_21 : decode cX7_differentYears 21 = .ok (.ifCond .le 7, 3) := by decide +kernel
theorem dX7_differentYears_24 : decode cX7_differentYears 24 = .ok (.iconst 1, 1) := by decide +kernel
theorem dX7_differentYears_25 : decode cX7_differentYears 25 = .ok (.goto 4, 3) := by decide +kernel
theorem dX7_differentYears_28 : decode cX7_differentYears 28 = .ok (.iconst 0, 1) := by decide +kernel
theorem dX7_differentYears_29 : decode cX7_differentYears 29 = .ok (.iadd, 1) := by decide +kernel
theorem dX7_differentYears_30 : decode cX7_differentYears 30 = .ok (.istore_n 1, 1) := by decide +kernel
theorem dX7_differentYears_31 : decode cX7_differentYears 31 = .ok (.iinc 2 1, 3) := by decide +kernel
theorem dX7_differentYears_34 : decode cX7_differentYears 34 = .ok (.goto (-30), 3) := by decide +kernel
theorem dX7_differentYears_37 : decode cX7_differentYears 37 = .ok (.iload_n 1, 1) := by decide +kernel
theorem dX7_differentYears_38 : decode cX7_differentYears 38 = .ok (.ireturn, 1) := by decide +kernel
theorem dX7_allLayers_0 : decode cX7_allLayers 0 = .ok (.iconst 0, 1) := by decide +kernel
theorem dX7_allLayers_1 : decode cX7_allLayers 1 = .ok (.istore_n 1, 1) := by decide +kernel
theorem dX7_allLayers_2 : decode cX7_allLayers 2 = .ok (.iconst 0, 1) := by decide +kernel
theorem dX7_allLayers_3 : decode cX7_allLayers 3 = .ok (.istore_n 2, 1) := by decide +kernel
theorem dX7_allLayers_4 : decode cX7_allLayers 4 = .ok (.iload_n 2, 1) := by decide +kernel
theorem dX7_allLayers_5 : decode cX7_allLayers 5 = .ok (.aload_n 0, 1) := by decide +kernel
theorem dX7_allLayers_6 : decode cX7_allLayers 6 = .ok (.getfield 7, 3) := by decide +kernel
theorem dX7_allLayers_9 : decode cX7_allLayers 9 = .ok (.bipush 8, 2) := by decide +kernel
theorem dX7_allLayers_11 : decode cX7_allLayers 11 = .ok (.iaload, 1) := by decide +kernel
theorem dX7_allLayers_12 : decode cX7_allLayers 12 = .ok (.if_icmp .ge 17, 3) := by decide +kernel
theorem dX7_allLayers_15 : decode cX7_allLayers 15 = .ok (.iload_n 1, 1) := by decide +kernel
theorem dX7_allLayers_16 : decode cX7_allLayers 16 = .ok (.aload_n 0, 1) := by decide +kernel
theorem dX7_allLayers_17 : decode cX7_allLayers 17 = .ok (.iload_n 2, 1) := by decide +kernel
theorem dX7_allLayers_18 : decode cX7_allLayers 18 = .ok (.invokevirtual 97, 3) := by decide +kernel
theorem dX7_allLayers_21 : decode cX7_allLayers 21 = .ok (.iadd, 1) := by decide +kernel
theorem dX7_allLayers_22 : decode cX7_allLayers 22 = .ok (.istore_n 1, 1) := by decide +kernel
theorem dX7_allLayers_23 : decode cX7_allLayers 23 = .ok (.iinc 2 1, 3) := by decide +kernel
theorem dX7_allLayers_26 : decode cX7_allLayers 26 = .ok (.goto (-22), 3) := by decide +kernel
theorem dX7_allLayers_29 : decode cX7_allLayers 29 = .ok (.iload_n 1, 1) := by decide +kernel
theorem dX7_allLayers_30 : decode cX7_allLayers 30 = .ok (.ireturn, 1) := by decide +kernel
theorem dX7_count_0 : decode cX7_count 0 = .ok (.iload_n 1, 1) := by decide +kernel
theorem dX7_count_1 : decode cX7_count 1 = .ok (.tableswitch 124 0 14 #[75, 83, 91, 99, 104, 109, 124, 124, 124, 124, 124, 124, 124, 114, 119], 75) := by decide +kernel
theorem dX7_count_76 : decode cX7_count 76 = .ok (.aload_n 0, 1) := by decide +kernel
theorem dX7_count_77 : decode cX7_count 77 = .ok (.getfield 7, 3) := by decide +kernel
theorem dX7_count_80 : decode cX7_count 80 = .ok (.bipush 8, 2) := by decide +kernel
theorem dX7_count_82 : decode cX7_count 82 = .ok (.iaload, 1) := by decide +kernel
theorem dX7_count_83 : decode cX7_count 83 = .ok (.ireturn, 1) := by decide +kernel
theorem dX7_count_84 : decode cX7_count 84 = .ok (.aload_n 0, 1) := by decide +kernel
theorem dX7_count_85 : decode cX7_count 85 = .ok (.getfield 7, 3) := by decide +kernel
theorem dX7_count_88 : decode cX7_count 88 = .ok (.bipush 7, 2) := by decide +kernel
theorem dX7_count_90 : decode cX7_count 90 = .ok (.iaload, 1) := by decide +kernel
theorem dX7_count_91 : decode cX7_count 91 = .ok (.ireturn, 1) := by decide +kernel
theorem dX7_count_92 : decode cX7_count 92 = .ok (.aload_n 0, 1) := by decide +kernel
theorem dX7_count_93 : decode cX7_count 93 = .ok (.getfield 7, 3) := by decide +kernel
theorem dX7_count_96 : decode cX7_count 96 = .ok (.bipush 9, 2) := by decide +kernel
theorem dX7_count_98 : decode cX7_count 98 = .ok (.iaload, 1) := by decide +kernel
theorem dX7_count_99 : decode cX7_count 99 = .ok (.ireturn, 1) := by decide +kernel
theorem dX7_count_100 : decode cX7_count 100 = .ok (.aload_n 0, 1) := by decide +kernel
theorem dX7_count_101 : decode cX7_count 101 = .ok (.invokevirtual 130, 3) := by decide +kernel
theorem dX7_count_104 : decode cX7_count 104 = .ok (.ireturn, 1) := by decide +kernel
theorem dX7_count_105 : decode cX7_count 105 = .ok (.aload_n 0, 1) := by decide +kernel
theorem dX7_count_106 : decode cX7_count 106 = .ok (.invokevirtual 133, 3) := by decide +kernel
theorem dX7_count_109 : decode cX7_count 109 = .ok (.ireturn, 1) := by decide +kernel
theorem dX7_count_110 : decode cX7_count 110 = .ok (.aload_n 0, 1) := by decide +kernel
theorem dX7_count_111 : decode cX7_count 111 = .ok (.invokevirtual 136, 3) := by decide +kernel
theorem dX7_count_114 : decode cX7_count 114 = .ok (.ireturn, 1) := by decide +kernel
theorem dX7_count_115 : decode cX7_count 115 = .ok (.aload_n 0, 1) := by decide +kernel
theorem dX7_count_116 : decode cX7_count 116 = .ok (.getfield 52, 3) := by decide +kernel
theorem dX7_count_119 : decode cX7_count 119 = .ok (.ireturn, 1) := by decide +kernel
theorem dX7_count_120 : decode cX7_count 120 = .ok (.aload_n 0, 1) := by decide +kernel
theorem dX7_count_121 : decode cX7_count 121 = .ok (.getfield 139, 3) := by decide +kernel
theorem dX7_count_124 : decode cX7_count 124 = .ok (.ireturn, 1) := by decide +kernel
theorem dX7_count_125 : decode cX7_count 125 = .ok (.iload_n 1, 1) := by decide +kernel
theorem dX7_count_126 : decode cX7_count 126 = .ok (.bipush 6, 2) := by decide +kernel
theorem dX7_count_128 : decode cX7_count 128 = .ok (.bipush 12, 2) := by decide +kernel
theorem dX7_count_130 : decode cX7_count 130 = .ok (.invokestatic 60, 3) := by decide +kernel
theorem dX7_count_133 : decode cX7_count 133 = .ok (.ifCond .eq 15, 3) := by decide +kernel
theorem dX7_count_136 : decode cX7_count 136 = .ok (.aload_n 0, 1) := by decide +kernel
theorem dX7_count_137 : decode cX7_count 137 = .ok (.getfield 7, 3) := by decide +kernel
theorem dX7_count_140 : decode cX7_count 140 = .ok (.iload_n 1, 1) := by decide +kernel
theorem dX7_count_141 : decode cX7_count 141 = .ok (.bipush 6, 2) := by decide +kernel
theorem dX7_count_143 : decode cX7_count 143 = .ok (.isub, 1) := by decide +kernel
theorem dX7_count_144 : decode cX7_count 144 = .ok (.iaload, 1) := by decide +kernel
theorem dX7_count_145 : decode cX7_count 145 = .ok (.goto 5, 3) := by decide +kernel
theorem dX7_count_148 : decode cX7_count 148 = .ok (.ldc 69, 2) := by decide +kernel
theorem dX7_count_150 : decode cX7_count 150 = .ok (.ireturn, 1) := by decide +kernel
theorem dX7_stake_0 : decode cX7_stake 0 = .ok (.aload_n 0, 1) := by decide +kernel
theorem dX7_stake_1 : decode cX7_stake 1 = .ok (.iload_n 1, 1) := by decide +kernel
theorem dX7_stake_2 : decode cX7_stake 2 = .ok (.invokevirtual 84, 3) := by decide +kernel
theorem dX7_stake_5 : decode cX7_stake 5 = .ok (.ifCond .eq 30, 3) := by decide +kernel
theorem dX7_stake_8 : decode cX7_stake 8 = .ok (.iload_n 2, 1) := by decide +kernel
theorem dX7_stake_9 : decode cX7_stake 9 = .ok (.iconst 0, 1) := by decide +kernel
theorem dX7_stake_10 : decode cX7_stake 10 = .ok (.aload_n 0, 1) := by decide +kernel
theorem dX7_stake_11 : decode cX7_stake 11 = .ok (.iload_n 1, 1) := by decide +kernel
theorem dX7_stake_12 : decode cX7_stake 12 = .ok (.iconst 1, 1) := by decide +kernel
theorem dX7_stake_13 : decode cX7_stake 13 = .ok (.invokevirtual 73, 3) := by decide +kernel
theorem dX7_stake_16 : decode cX7_stake 16 = .ok (.iconst 1, 1) := by decide +kernel
theorem dX7_stake_17 : decode cX7_stake 17 = .ok (.isub, 1) := by decide +kernel
theorem dX7_stake_18 : decode cX7_stake 18 = .ok (.invokestatic 60, 3) := by decide +kernel
theorem dX7_stake_21 : decode cX7_stake 21 = .ok (.ifCond .eq 14, 3) := by decide +kernel
theorem dX7_stake_24 : decode cX7_stake 24 = .ok (.iload_n 3, 1) := by decide +kernel
theorem dX7_stake_25 : decode cX7_stake 25 = .ok (.iconst 1, 1) := by decide +kernel
theorem dX7_stake_26 : decode cX7_stake 26 = .ok (.sipush 10000, 3) := by decide +kernel
theorem dX7_stake_29 : decode cX7_stake 29 = .ok (.invokestatic 60, 3) := by decide +kernel
theorem dX7_stake_32 : decode cX7_stake 32 = .ok (.ifCond .ne 6, 3) := by decide +kernel
theorem dX7_stake_35 : decode cX7_stake 35 = .ok (.ldc 69, 2) := by decide +kernel
theorem dX7_stake_37 : decode cX7_stake 37 = .ok (.ireturn, 1) := by decide +kernel
theorem dX7_stake_38 : decode cX7_stake 38 = .ok (.iconst 0, 1) := by decide +kernel
theorem dX7_stake_39 : decode cX7_stake 39 = .ok (.istore 4, 2) := by decide +kernel
theorem dX7_stake_41 : decode cX7_stake 41 = .ok (.iload 4, 2) := by decide +kernel
theorem dX7_stake_43 : decode cX7_stake 43 = .ok (.aload_n 0, 1) := by decide +kernel
theorem dX7_stake_44 : decode cX7_stake 44 = .ok (.getfield 7, 3) := by decide +kernel
theorem dX7_stake_47 : decode cX7_stake 47 = .ok (.bipush 9, 2) := by decide +kernel
theorem dX7_stake_49 : decode cX7_stake 49 = .ok (.iaload, 1) := by decide +kernel
theorem dX7_stake_50 : decode cX7_stake 50 = .ok (.if_icmp .ge 44, 3) := by decide +kernel
theorem dX7_stake_53 : decode cX7_stake 53 = .ok (.aload_n 0, 1) := by decide +kernel
theorem dX7_stake_54 : decode cX7_stake 54 = .ok (.iload 4, 2) := by decide +kernel
theorem dX7_stake_56 : decode cX7_stake 56 = .ok (.iconst 4, 1) := by decide +kernel
theorem dX7_stake_57 : decode cX7_stake 57 = .ok (.invokevirtual 127, 3) := by decide +kernel
theorem dX7_stake_60 : decode cX7_stake 60 = .ok (.ifCond .ne 28, 3) := by decide +kernel
theorem dX7_stake_63 : decode cX7_stake 63 = .ok (.aload_n 0, 1) := by decide +kernel
theorem dX7_stake_64 : decode cX7_stake 64 = .ok (.iload 4, 2) := by decide +kernel
theorem dX7_stake_66 : decode cX7_stake 66 = .ok (.iconst 0, 1) := by decide +kernel
theorem dX7_stake_67 : decode cX7_stake 67 = .ok (.invokevirtual 127, 3) := by decide +kernel
theorem dX7_stake_70 : decode cX7_stake 70 = .ok (.iload_n 1, 1) := by decide +kernel
theorem dX7_stake_71 : decode cX7_stake 71 = .ok (.if_icmp .ne 17, 3) := by decide +kernel
theorem dX7_stake_74 : decode cX7_stake 74 = .ok (.aload_n 0, 1) := by decide +kernel
theorem dX7_stake_75 : decode cX7_stake 75 = .ok (.iload 4, 2) := by decide +kernel
theorem dX7_stake_77 : decode cX7_stake 77 = .ok (.iconst 1, 1) := by decide +kernel
theorem dX7_stake_78 : decode cX7_stake 78 = .ok (.invokevirtual 127, 3) := by decide +kernel
theorem dX7_stake_81 : decode cX7_stake 81 = .ok (.iload_n 2, 1) := by decide +kernel
theorem dX7_stake_82 : decode cX7_stake 82 = .ok (.if_icmp .ne 6, 3) := by decide +kernel
theorem dX7_stake_85 : decode cX7_stake 85 = .ok (.ldc 59, 2) := by decide +kernel
theorem dX7_stake_87 : decode cX7_stake 87 = .ok (.ireturn, 1) := by decide +kernel
theorem dX7_stake_88 : decode cX7_stake 88 = .ok (.iinc 4 1, 3) := by decide +kernel
theorem dX7_stake_91 : decode cX7_stake 91 = .ok (.goto (-50), 3) := by decide +kernel
theorem dX7_stake_94 : decode cX7_stake 94 = .ok (.aload_n 0, 1) := by decide +kernel
theorem dX7_stake_95 : decode cX7_stake 95 = .ok (.getfield 7, 3) := by decide +kernel
theorem dX7_stake_98 : decode cX7_stake 98 = .ok (.bipush 9, 2) := by decide +kernel
theorem dX7_stake_100 : decode cX7_stake 100 = .ok (.iaload, 1) := by decide +kernel
theorem dX7_stake_101 : decode cX7_stake 101 = .ok (.bipush 6, 2) := by decide +kernel
theorem dX7_stake_103 : decode cX7_stake 103 = .ok (.if_icmp .ne 6, 3) := by decide +kernel
theorem dX7_stake_106 : decode cX7_stake 106 = .ok (.ldc 76, 2) := by decide +kernel
theorem dX7_stake_108 : decode cX7_stake 108 = .ok (.ireturn, 1) := by decide +kernel
theorem dX7_stake_109 : decode cX7_stake 109 = .ok (.aload_n 0, 1) := by decide +kernel
theorem dX7_stake_110 : decode cX7_stake 110 = .ok (.invokevirtual 70, 3) := by decide +kernel
theorem dX7_stake_113 : decode cX7_stake 113 = .ok (.aload_n 0, 1) := by decide +kernel
theorem dX7_stake_114 : decode cX7_stake 114 = .ok (.getfield 7, 3) := by decide +kernel
theorem dX7_stake_117 : decode cX7_stake 117 = .ok (.bipush 9, 2) := by decide +kernel
theorem dX7_stake_119 : decode cX7_stake 119 = .ok (.iaload, 1) := by decide +kernel
theorem dX7_stake_120 : decode cX7_stake 120 = .ok (.istore 4, 2) := by decide +kernel
theorem dX7_stake_122 : decode cX7_stake 122 = .ok (.aload_n 0, 1) := by decide +kernel
theorem dX7_stake_123 : decode cX7_stake 123 = .ok (.getfield 7, 3) := by decide +kernel
theorem dX7_stake_126 : decode cX7_stake 126 = .ok (.bipush 9, 2) := by decide +kernel
theorem dX7_stake_128 : decode cX7_stake 128 = .ok (.dup2, 1) := by decide +kernel
theorem dX7_stake_129 : decode cX7_stake 129 = .ok (.iaload, 1) := by decide +kernel
theorem dX7_stake_130 : decode cX7_stake 130 = .ok (.iconst 1, 1) := by decide +kernel
theorem dX7_stake_131 : decode cX7_stake 131 = .ok (.iadd, 1) := by decide +kernel
theorem dX7_stake_132 : decode cX7_stake 132 = .ok (.iastore, 1) := by decide +kernel
theorem dX7_stake_133 : decode cX7_stake 133 = .ok (.aload_n 0, 1) := by decide +kernel
theorem dX7_stake_134 : decode cX7_stake 134 = .ok (.iload 4, 2) := by decide +kernel
theorem dX7_stake_136 : decode cX7_stake 136 = .ok (.iconst 0, 1) := by decide +kernel
theorem dX7_stake_137 : decode cX7_stake 137 = .ok (.iload_n 1, 1) := by decide +kernel
theorem dX7_stake_138 : decode cX7_stake 138 = .ok (.invokevirtual 142, 3) := by decide +kernel
theorem dX7_stake_141 : decode cX7_stake 141 = .ok (.aload_n 0, 1) := by decide +kernel
theorem dX7_stake_142 : decode cX7_stake 142 = .ok (.iload 4, 2) := by decide +kernel
theorem dX7_stake_144 : decode cX7_stake 144 = .ok (.iconst 1, 1) := by decide +kernel
theorem dX7_stake_145 : decode cX7_stake 145 = .ok (.iload_n 2, 1) := by decide +kernel
theorem dX7_stake_146 : decode cX7_stake 146 = .ok (.invokevirtual 142, 3) := by decide +kernel
theorem dX7_stake_149 : decode cX7_stake 149 = .ok (.aload_n 0, 1) := by decide +kernel
theorem dX7_stake_150 : decode cX7_stake 150 = .ok (.iload 4, 2) := by decide +kernel
theorem dX7_stake_152 : decode cX7_stake 152 = .ok (.iconst 2, 1) := by decide +kernel
theorem dX7_stake_153 : decode cX7_stake 153 = .ok (.iload_n 3, 1) := by decide +kernel
theorem dX7_stake_154 : decode cX7_stake 154 = .ok (.invokevirtual 142, 3) := by decide +kernel
theorem dX7_stake_157 : decode cX7_stake 157 = .ok (.aload_n 0, 1) := by decide +kernel
theorem dX7_stake_158 : decode cX7_stake 158 = .ok (.iload 4, 2) := by decide +kernel
theorem dX7_stake_160 : decode cX7_stake 160 = .ok (.iconst 3, 1) := by decide +kernel
theorem dX7_stake_161 : decode cX7_stake 161 = .ok (.iconst 0, 1) := by decide +kernel
theorem dX7_stake_162 : decode cX7_stake 162 = .ok (.invokevirtual 142, 3) := by decide +kernel
theorem dX7_stake_165 : decode cX7_stake 165 = .ok (.aload_n 0, 1) := by decide +kernel
theorem dX7_stake_166 : decode cX7_stake 166 = .ok (.iload 4, 2) := by decide +kernel
theorem dX7_stake_168 : decode cX7_stake 168 = .ok (.iconst 4, 1) := by decide +kernel
theorem dX7_stake_169 : decode cX7_stake 169 = .ok (.iconst 0, 1) := by decide +kernel
theorem dX7_stake_170 : decode cX7_stake 170 = .ok (.invokevirtual 142, 3) := by decide +kernel
theorem dX7_stake_173 : decode cX7_stake 173 = .ok (.aload_n 0, 1) := by decide +kernel
theorem dX7_stake_174 : decode cX7_stake 174 = .ok (.iload 4, 2) := by decide +kernel
theorem dX7_stake_176 : decode cX7_stake 176 = .ok (.iconst 5, 1) := by decide +kernel
theorem dX7_stake_177 : decode cX7_stake 177 = .ok (.iconst 0, 1) := by decide +kernel
theorem dX7_stake_178 : decode cX7_stake 178 = .ok (.invokevirtual 142, 3) := by decide +kernel
theorem dX7_stake_181 : decode cX7_stake 181 = .ok (.iload 4, 2) := by decide +kernel
theorem dX7_stake_183 : decode cX7_stake 183 = .ok (.ireturn, 1) := by decide +kernel
theorem dX7_pull_0 : decode cX7_pull 0 = .ok (.aload_n 0, 1) := by decide +kernel
theorem dX7_pull_1 : decode cX7_pull 1 = .ok (.iload_n 1, 1) := by decide +kernel
theorem dX7_pull_2 : decode cX7_pull 2 = .ok (.invokevirtual 145, 3) := by decide +kernel
theorem dX7_pull_5 : decode cX7_pull 5 = .ok (.ifCond .ne 6, 3) := by decide +kernel
theorem dX7_pull_8 : decode cX7_pull 8 = .ok (.ldc 69, 2) := by decide +kernel
theorem dX7_pull_10 : decode cX7_pull 10 = .ok (.ireturn, 1) := by decide +kernel
theorem dX7_pull_11 : decode cX7_pull 11 = .ok (.aload_n 0, 1) := by decide +kernel
theorem dX7_pull_12 : decode cX7_pull 12 = .ok (.invokevirtual 70, 3) := by decide +kernel
theorem dX7_pull_15 : decode cX7_pull 15 = .ok (.aload_n 0, 1) := by decide +kernel
theorem dX7_pull_16 : decode cX7_pull 16 = .ok (.iload_n 1, 1) := by decide +kernel
theorem dX7_pull_17 : decode cX7_pull 17 = .ok (.iconst 3, 1) := by decide +kernel
theorem dX7_pull_18 : decode cX7_pull 18 = .ok (.invokevirtual 127, 3) := by decide +kernel
theorem dX7_pull_21 : decode cX7_pull 21 = .ok (.istore_n 2, 1) := by decide +kernel
theorem dX7_pull_22 : decode cX7_pull 22 = .ok (.aload_n 0, 1) := by decide +kernel
theorem dX7_pull_23 : decode cX7_pull 23 = .ok (.getfield 7, 3) := by decide +kernel
theorem dX7_pull_26 : decode cX7_pull 26 = .ok (.bipush 9, 2) := by decide +kernel
theorem dX7_pull_28 : decode cX7_pull 28 = .ok (.dup2, 1) := by decide +kernel
theorem dX7_pull_29 : decode cX7_pull 29 = .ok (.iaload, 1) := by decide +kernel
theorem dX7_pull_30 : decode cX7_pull 30 = .ok (.iconst 1, 1) := by decide +kernel
theorem dX7_pull_31 : decode cX7_pull 31 = .ok (.isub, 1) := by decide +kernel
theorem dX7_pull_32 : decode cX7_pull 32 = .ok (.iastore, 1) := by decide +kernel
theorem dX7_pull_33 : decode cX7_pull 33 = .ok (.bipush 74, 2) := by decide +kernel
theorem dX7_pull_35 : decode cX7_pull 35 = .ok (.bipush 6, 2) := by decide +kernel
theorem dX7_pull_37 : decode cX7_pull 37 = .ok (.iload_n 1, 1) := by decide +kernel
theorem dX7_pull_38 : decode cX7_pull 38 = .ok (.imul, 1) := by decide +kernel
theorem dX7_pull_39 : decode cX7_pull 39 = .ok (.iadd, 1) := by decide +kernel
theorem dX7_pull_40 : decode cX7_pull 40 = .ok (.istore_n 3, 1) := by decide +kernel
theorem dX7_pull_41 : decode cX7_pull 41 = .ok (.iload_n 3, 1) := by decide +kernel
theorem dX7_pull_42 : decode cX7_pull 42 = .ok (.bipush 74, 2) := by decide +kernel
theorem dX7_pull_44 : decode cX7_pull 44 = .ok (.bipush 6, 2) := by decide +kernel
theorem dX7_pull_46 : decode cX7_pull 46 = .ok (.aload_n 0, 1) := by decide +kernel
theorem dX7_pull_47 : decode cX7_pull 47 = .ok (.getfield 7, 3) := by decide +kernel
theorem dX7_pull_50 : decode cX7_pull 50 = .ok (.bipush 9, 2) := by decide +kernel
theorem dX7_pull_52 : decode cX7_pull 52 = .ok (.iaload, 1) := by decide +kernel
theorem dX7_pull_53 : decode cX7_pull 53 = .ok (.imul, 1) := by decide +kernel
theorem dX7_pull_54 : decode cX7_pull 54 = .ok (.iadd, 1) := by decide +kernel
theorem dX7_pull_55 : decode cX7_pull 55 = .ok (.if_icmp .ge 24, 3) := by decide +kernel
theorem dX7_pull_58 : decode cX7_pull 58 = .ok (.aload_n 0, 1) := by decide +kernel
theorem dX7_pull_59 : decode cX7_pull 59 = .ok (.getfield 7, 3) := by decide +kernel
theorem dX7_pull_62 : decode cX7_pull 62 = .ok (.iload_n 3, 1) := by decide +kernel
theorem dX7_pull_63 : decode cX7_pull 63 = .ok (.aload_n 0, 1) := by decide +kernel
theorem dX7_pull_64 : decode cX7_pull 64 = .ok (.getfield 7, 3) := by decide +kernel
theorem dX7_pull_67 : decode cX7_pull 67 = .ok (.iload_n 3, 1) := by decide +kernel
theorem dX7_pull_68 : decode cX7_pull 68 = .ok (.bipush 6, 2) := by decide +kernel
theorem dX7_pull_70 : decode cX7_pull 70 = .ok (.iadd, 1) := by decide +kernel
theorem dX7_pull_71 : decode cX7_pull 71 = .ok (.iaload, 1) := by decide +kernel
theorem dX7_pull_72 : decode cX7_pull 72 = .ok (.iastore, 1) := by decide +kernel
theorem dX7_pull_73 : decode cX7_pull 73 = .ok (.iinc 3 1, 3) := by decide +kernel
theorem dX7_pull_76 : decode cX7_pull 76 = .ok (.goto (-35), 3) := by decide +kernel
theorem dX7_pull_79 : decode cX7_pull 79 = .ok (.iload_n 2, 1) := by decide +kernel
theorem dX7_pull_80 : decode cX7_pull 80 = .ok (.ireturn, 1) := by decide +kernel
theorem dX7_stakeInfo_0 : decode cX7_stakeInfo 0 = .ok (.aload_n 0, 1) := by decide +kernel
theorem dX7_stakeInfo_1 : decode cX7_stakeInfo 1 = .ok (.iload_n 1, 1) := by decide +kernel
theorem dX7_stakeInfo_2 : decode cX7_stakeInfo 2 = .ok (.invokevirtual 145, 3) := by decide +kernel
theorem dX7_stakeInfo_5 : decode cX7_stakeInfo 5 = .ok (.ifCond .eq 21, 3) := by decide +kernel
theorem dX7_stakeInfo_8 : decode cX7_stakeInfo 8 = .ok (.iload_n 2, 1) := by decide +kernel
theorem dX7_stakeInfo_9 : decode cX7_stakeInfo 9 = .ok (.iconst 0, 1) := by decide +kernel
theorem dX7_stakeInfo_10 : decode cX7_stakeInfo 10 = .ok (.iconst 5, 1) := by decide +kernel
theorem dX7_stakeInfo_11 : decode cX7_stakeInfo 11 = .ok (.invokestatic 60, 3) := by decide +kernel
theorem dX7_stakeInfo_14 : decode cX7_stakeInfo 14 = .ok (.ifCond .eq 12, 3) := by decide +kernel
theorem dX7_stakeInfo_17 : decode cX7_stakeInfo 17 = .ok (.aload_n 0, 1) := by decide +kernel
theorem dX7_stakeInfo_18 : decode cX7_stakeInfo 18 = .ok (.iload_n 1, 1) := by decide +kernel
theorem dX7_stakeInfo_19 : decode cX7_stakeInfo 19 = .ok (.iload_n 2, 1) := by decide +kernel
theorem dX7_stakeInfo_20 : decode cX7_stakeInfo 20 = .ok (.invokevirtual 127, 3) := by decide +kernel
theorem dX7_stakeInfo_23 : decode cX7_stakeInfo 23 = .ok (.goto 5, 3) := by decide +kernel
theorem dX7_stakeInfo_26 : decode cX7_stakeInfo 26 = .ok (.ldc 69, 2) := by decide +kernel
theorem dX7_stakeInfo_28 : decode cX7_stakeInfo 28 = .ok (.ireturn, 1) := by decide +kernel
theorem dX7_stakesIn_0 : decode cX7_stakesIn 0 = .ok (.aload_n 0, 1) := by decide +kernel
theorem dX7_stakesIn_1 : decode cX7_stakesIn 1 = .ok (.iload_n 1, 1) := by decide +kernel
theorem dX7_stakesIn_2 : decode cX7_stakesIn 2 = .ok (.invokevirtual 84, 3) := by decide +kernel
theorem dX7_stakesIn_5 : decode cX7_stakesIn 5 = .ok (.ifCond .ne 6, 3) := by decide +kernel
theorem dX7_stakesIn_8 : decode cX7_stakesIn 8 = .ok (.ldc 69, 2) := by decide +kernel
theorem dX7_stakesIn_10 : decode cX7_stakesIn 10 = .ok (.ireturn, 1) := by decide +kernel
theorem dX7_stakesIn_11 : decode cX7_stakesIn 11 = .ok (.iconst 0, 1) := by decide +kernel
theorem dX7_stakesIn_12 : decode cX7_stakesIn 12 = .ok (.istore_n 2, 1) := by decide +kernel
theorem dX7_stakesIn_13 : decode cX7_stakesIn 13 = .ok (.iconst 0, 1) := by decide +kernel
theorem dX7_stakesIn_14 : decode cX7_stakesIn 14 = .ok (.istore_n 3, 1) := by decide +kernel
theorem dX7_stakesIn_15 : decode cX7_stakesIn 15 = .ok (.iload_n 3, 1) := by decide +kernel
theorem dX7_stakesIn_16 : decode cX7_stakesIn 16 = .ok (.aload_n 0, 1) := by decide +kernel
theorem dX7_stakesIn_17 : decode cX7_stakesIn 17 = .ok (.getfield 7, 3) := by decide +kernel
theorem dX7_stakesIn_20 : decode cX7_stakesIn 20 = .ok (.bipush 9, 2) := by decide +kernel
theorem dX7_stakesIn_22 : decode cX7_stakesIn 22 = .ok (.iaload, 1) := by decide +kernel
theorem dX7_stakesIn_23 : decode cX7_stakesIn 23 = .ok (.if_icmp .ge 38, 3) := by decide +kernel
theorem dX7_stakesIn_26 : decode cX7_stakesIn 26 = .ok (.iload_n 2, 1) := by decide +kernel
theorem dX7_stakesIn_27 : decode cX7_stakesIn 27 = .ok (.aload_n 0, 1) := by decide +kernel
theorem dX7_stakesIn_28 : decode cX7_stakesIn 28 = .ok (.iload_n 3, 1) := by decide +kernel
theorem dX7_stakesIn_29 : decode cX7_stakesIn 29 = .ok (.iconst 4, 1) := by decide +kernel
theorem dX7_stakesIn_30 : decode cX7_stakesIn 30 = .ok (.invokevirtual 127, 3) := by decide +kernel
theorem dX7_stakesIn_33 : decode cX7_stakesIn 33 = .ok (.ifCond .ne 19, 3) := by decide +kernel
theorem dX7_stakesIn_36 : decode cX7_stakesIn 36 = .ok (.aload_n 0, 1) := by decide +kernel
theorem dX7_stakesIn_37 : decode cX7_stakesIn 37 = .ok (.iload_n 3, 1) := by decide +kernel
theorem dX7_stakesIn_38 : decode cX7_stakesIn 38 = .ok (.iconst 0, 1) := by decide +kernel
theorem dX7_stakesIn_39 : decode cX7_stakesIn 39 = .ok (.invokevirtual 127, 3) := by decide +kernel
theorem dX7_stakesIn_42 : decode cX7_stakesIn 42 = .ok (.iload_n 1, 1) := by decide +kernel
theorem dX7_stakesIn_43 : decode cX7_stakesIn 43 = .ok (.if_icmp .ne 9, 3) := by decide +kernel
theorem dX7_stakesIn_46 : decode cX7_stakesIn 46 = .ok (.iconst 1, 1) := by decide +kernel
theorem dX7_stakesIn_47 : decode cX7_stakesIn 47 = .ok (.iload_n 3, 1) := by decide +kernel
theorem dX7_stakesIn_48 : decode cX7_stakesIn 48 = .ok (.ishl, 1) := by decide +kernel
theorem dX7_stakesIn_49 : decode cX7_stakesIn 49 = .ok (.goto 4, 3) := by decide +kernel
theorem dX7_stakesIn_52 : decode cX7_stakesIn 52 = .ok (.iconst 0, 1) := by decide +kernel
theorem dX7_stakesIn_53 : decode cX7_stakesIn 53 = .ok (.ior, 1) := by decide +kernel
theorem dX7_stakesIn_54 : decode cX7_stakesIn 54 = .ok (.istore_n 2, 1) := by decide +kernel
theorem dX7_stakesIn_55 : decode cX7_stakesIn 55 = .ok (.iinc 3 1, 3) := by decide +kernel
theorem dX7_stakesIn_58 : decode cX7_stakesIn 58 = .ok (.goto (-43), 3) := by decide +kernel
theorem dX7_stakesIn_61 : decode cX7_stakesIn 61 = .ok (.iload_n 2, 1) := by decide +kernel
theorem dX7_stakesIn_62 : decode cX7_stakesIn 62 = .ok (.ireturn, 1) := by decide +kernel
theorem dX7_weather_0 : decode cX7_weather 0 = .ok (.aload_n 0, 1) := by decide +kernel
theorem dX7_weather_1 : decode cX7_weather 1 = .ok (.iload_n 1, 1) := by decide +kernel
theorem dX7_weather_2 : decode cX7_weather 2 = .ok (.invokevirtual 106, 3) := by decide +kernel
theorem dX7_weather_5 : decode cX7_weather 5 = .ok (.istore_n 2, 1) := by decide +kernel
theorem dX7_weather_6 : decode cX7_weather 6 = .ok (.aload_n 0, 1) := by decide +kernel
theorem dX7_weather_7 : decode cX7_weather 7 = .ok (.getfield 13, 3) := by decide +kernel
theorem dX7_weather_10 : decode cX7_weather 10 = .ok (.sipush 801, 3) := by decide +kernel
theorem dX7_weather_13 : decode cX7_weather 13 = .ok (.iload_n 1, 1) := by decide +kernel
theorem dX7_weather_14 : decode cX7_weather 14 = .ok (.imul, 1) := by decide +kernel
theorem dX7_weather_15 : decode cX7_weather 15 = .ok (.aload_n 0, 1) := by decide +kernel
theorem dX7_weather_16 : decode cX7_weather 16 = .ok (.getfield 7, 3) := by decide +kernel
theorem dX7_weather_19 : decode cX7_weather 19 = .ok (.bipush 7, 2) := by decide +kernel
theorem dX7_weather_21 : decode cX7_weather 21 = .ok (.iaload, 1) := by decide +kernel
theorem dX7_weather_22 : decode cX7_weather 22 = .ok (.iadd, 1) := by decide +kernel
theorem dX7_weather_23 : decode cX7_weather 23 = .ok (.dup2, 1) := by decide +kernel
theorem dX7_weather_24 : decode cX7_weather 24 = .ok (.iaload, 1) := by decide +kernel
theorem dX7_weather_25 : decode cX7_weather 25 = .ok (.iload_n 2, 1) := by decide +kernel
theorem dX7_weather_26 : decode cX7_weather 26 = .ok (.iadd, 1) := by decide +kernel
theorem dX7_weather_27 : decode cX7_weather 27 = .ok (.iastore, 1) := by decide +kernel
theorem dX7_weather_28 : decode cX7_weather 28 = .ok (.aload_n 0, 1) := by decide +kernel
theorem dX7_weather_29 : decode cX7_weather 29 = .ok (.getfield 16, 3) := by decide +kernel
theorem dX7_weather_32 : decode cX7_weather 32 = .ok (.iconst 1, 1) := by decide +kernel
theorem dX7_weather_33 : decode cX7_weather 33 = .ok (.dup2, 1) := by decide +kernel
theorem dX7_weather_34 : decode cX7_weather 34 = .ok (.laload, 1) := by decide +kernel
theorem dX7_weather_35 : decode cX7_weather 35 = .ok (.iload_n 2, 1) := by decide +kernel
theorem dX7_weather_36 : decode cX7_weather 36 = .ok (.i2l, 1) := by decide +kernel
theorem dX7_weather_37 : decode cX7_weather 37 = .ok (.ladd, 1) := by decide +kernel
theorem dX7_weather_38 : decode cX7_weather 38 = .ok (.lastore, 1) := by decide +kernel
theorem dX7_weather_39 : decode cX7_weather 39 = .ok (.aload_n 0, 1) := by decide +kernel
theorem dX7_weather_40 : decode cX7_weather 40 = .ok (.iload_n 1, 1) := by decide +kernel
theorem dX7_weather_41 : decode cX7_weather 41 = .ok (.invokevirtual 109, 3) := by decide +kernel
theorem dX7_weather_44 : decode cX7_weather 44 = .ok (.istore_n 3, 1) := by decide +kernel
theorem dX7_weather_45 : decode cX7_weather 45 = .ok (.iconst 0, 1) := by decide +kernel
theorem dX7_weather_46 : decode cX7_weather 46 = .ok (.istore 4, 2) := by decide +kernel
theorem dX7_weather_48 : decode cX7_weather 48 = .ok (.aload_n 0, 1) := by decide +kernel
theorem dX7_weather_49 : decode cX7_weather 49 = .ok (.getfield 7, 3) := by decide +kernel
theorem dX7_weather_52 : decode cX7_weather 52 = .ok (.bipush 7, 2) := by decide +kernel
theorem dX7_weather_54 : decode cX7_weather 54 = .ok (.iaload, 1) := by decide +kernel
theorem dX7_weather_55 : decode cX7_weather 55 = .ok (.istore 5, 2) := by decide +kernel
theorem dX7_weather_57 : decode cX7_weather 57 = .ok (.iload 5, 2) := by decide +kernel
theorem dX7_weather_59 : decode cX7_weather 59 = .ok (.ifCond .lt 72, 3) := by decide +kernel
theorem dX7_weather_62 : decode cX7_weather 62 = .ok (.iload_n 3, 1) := by decide +kernel
theorem dX7_weather_63 : decode cX7_weather 63 = .ok (.ifCond .le 68, 3) := by decide +kernel
theorem dX7_weather_66 : decode cX7_weather 66 = .ok (.aload_n 0, 1) := by decide +kernel
theorem dX7_weather_67 : decode cX7_weather 67 = .ok (.getfield 13, 3) := by decide +kernel
theorem dX7_weather_70 : decode cX7_weather 70 = .ok (.sipush 801, 3) := by decide +kernel
theorem dX7_weather_73 : decode cX7_weather 73 = .ok (.iload_n 1, 1) := by decide +kernel
theorem dX7_weather_74 : decode cX7_weather 74 = .ok (.imul, 1) := by decide +kernel
theorem dX7_weather_75 : decode cX7_weather 75 = .ok (.iload 5, 2) := by decide +kernel
theorem dX7_weather_77 : decode cX7_weather 77 = .ok (.iadd, 1) := by decide +kernel
theorem dX7_weather_78 : decode cX7_weather 78 = .ok (.iaload, 1) := by decide +kernel
theorem dX7_weather_79 : decode cX7_weather 79 = .ok (.istore 6, 2) := by decide +kernel
theorem dX7_weather_81 : decode cX7_weather 81 = .ok (.iload 6, 2) := by decide +kernel
theorem dX7_weather_83 : decode cX7_weather 83 = .ok (.iload_n 3, 1) := by decide +kernel
theorem dX7_weather_84 : decode cX7_weather 84 = .ok (.if_icmp .ge 8, 3) := by decide +kernel
theorem dX7_weather_87 : decode cX7_weather 87 = .ok (.iload 6, 2) := by decide +kernel
theorem dX7_weather_89 : decode cX7_weather 89 = .ok (.goto 4, 3) := by decide +kernel
theorem dX7_weather_92 : decode cX7_weather 92 = .ok (.iload_n 3, 1) := by decide +kernel
theorem dX7_weather_93 : decode cX7_weather 93 = .ok (.istore 7, 2) := by decide +kernel
theorem dX7_weather_95 : decode cX7_weather 95 = .ok (.aload_n 0, 1) := by decide +kernel
theorem dX7_weather_96 : decode cX7_weather 96 = .ok (.getfield 13, 3) := by decide +kernel
theorem dX7_weather_99 : decode cX7_weather 99 = .ok (.sipush 801, 3) := by decide +kernel
theorem dX7_weather_102 : decode cX7_weather 102 = .ok (.iload_n 1, 1) := by decide +kernel
theorem dX7_weather_103 : decode cX7_weather 103 = .ok (.imul, 1) := by decide +kernel
theorem dX7_weather_104 : decode cX7_weather 104 = .ok (.iload 5, 2) := by decide +kernel
theorem dX7_weather_106 : decode cX7_weather 106 = .ok (.iadd, 1) := by decide +kernel
theorem dX7_weather_107 : decode cX7_weather 107 = .ok (.dup2, 1) := by decide +kernel
theorem dX7_weather_108 : decode cX7_weather 108 = .ok (.iaload, 1) := by decide +kernel
theorem dX7_weather_109 : decode cX7_weather 109 = .ok (.iload 7, 2) := by decide +kernel
theorem dX7_weather_111 : decode cX7_weather 111 = .ok (.isub, 1) := by decide +kernel
theorem dX7_weather_112 : decode cX7_weather 112 = .ok (.iastore, 1) := by decide +kernel
theorem dX7_weather_113 : decode cX7_weather 113 = .ok (.iload_n 3, 1) := by decide +kernel
theorem dX7_weather_114 : decode cX7_weather 114 = .ok (.iload 7, 2) := by decide +kernel
theorem dX7_weather_116 : decode cX7_weather 116 = .ok (.isub, 1) := by decide +kernel
theorem dX7_weather_117 : decode cX7_weather 117 = .ok (.istore_n 3, 1) := by decide +kernel
theorem dX7_weather_118 : decode cX7_weather 118 = .ok (.iload 4, 2) := by decide +kernel
theorem dX7_weather_120 : decode cX7_weather 120 = .ok (.iload 7, 2) := by decide +kernel
theorem dX7_weather_122 : decode cX7_weather 122 = .ok (.iadd, 1) := by decide +kernel
theorem dX7_weather_123 : decode cX7_weather 123 = .ok (.istore 4, 2) := by decide +kernel
theorem dX7_weather_125 : decode cX7_weather 125 = .ok (.iinc 5 (-1), 3) := by decide +kernel
theorem dX7_weather_128 : decode cX7_weather 128 = .ok (.goto (-71), 3) := by decide +kernel
theorem dX7_weather_131 : decode cX7_weather 131 = .ok (.aload_n 0, 1) := by decide +kernel
theorem dX7_weather_132 : decode cX7_weather 132 = .ok (.iload_n 1, 1) := by decide +kernel
theorem dX7_weather_133 : decode cX7_weather 133 = .ok (.iconst 3, 1) := by decide +kernel
theorem dX7_weather_134 : decode cX7_weather 134 = .ok (.iload 4, 2) := by decide +kernel
theorem dX7_weather_136 : decode cX7_weather 136 = .ok (.invokevirtual 77, 3) := by decide +kernel
theorem dX7_weather_139 : decode cX7_weather 139 = .ok (.aload_n 0, 1) := by decide +kernel
theorem dX7_weather_140 : decode cX7_weather 140 = .ok (.getfield 16, 3) := by decide +kernel
theorem dX7_weather_143 : decode cX7_weather 143 = .ok (.iconst 2, 1) := by decide +kernel
theorem dX7_weather_144 : decode cX7_weather 144 = .ok (.dup2, 1) := by decide +kernel
theorem dX7_weather_145 : decode cX7_weather 145 = .ok (.laload, 1) := by decide +kernel
theorem dX7_weather_146 : decode cX7_weather 146 = .ok (.iload 4, 2) := by decide +kernel
theorem dX7_weather_148 : decode cX7_weather 148 = .ok (.i2l, 1) := by decide +kernel
theorem dX7_weather_149 : decode cX7_weather 149 = .ok (.ladd, 1) := by decide +kernel
theorem dX7_weather_150 : decode cX7_weather 150 = .ok (.lastore, 1) := by decide +kernel
theorem dX7_weather_151 : decode cX7_weather 151 = .ok (.return_, 1) := by decide +kernel
theorem dX7_gives_0 : decode cX7_gives 0 = .ok (.aload_n 0, 1) := by decide +kernel
theorem dX7_gives_1 : decode cX7_gives 1 = .ok (.iload_n 1, 1) := by decide +kernel
theorem dX7_gives_2 : decode cX7_gives 2 = .ok (.invokevirtual 93, 3) := by decide +kernel
theorem dX7_gives_5 : decode cX7_gives 5 = .ok (.i2l, 1) := by decide +kernel
theorem dX7_gives_6 : decode cX7_gives 6 = .ok (.aload_n 0, 1) := by decide +kernel
theorem dX7_gives_7 : decode cX7_gives 7 = .ok (.iload_n 1, 1) := by decide +kernel
theorem dX7_gives_8 : decode cX7_gives 8 = .ok (.iconst 2, 1) := by decide +kernel
theorem dX7_gives_9 : decode cX7_gives 9 = .ok (.invokevirtual 73, 3) := by decide +kernel
theorem dX7_gives_12 : decode cX7_gives 12 = .ok (.i2l, 1) := by decide +kernel
theorem dX7_gives_13 : decode cX7_gives 13 = .ok (.lmul, 1) := by decide +kernel
theorem dX7_gives_14 : decode cX7_gives 14 = .ok (.ldc2_w 148, 3) := by decide +kernel
theorem dX7_gives_17 : decode cX7_gives 17 = .ok (.ldiv, 1) := by decide +kernel
theorem dX7_gives_18 : decode cX7_gives 18 = .ok (.l2i, 1) := by decide +kernel
theorem dX7_gives_19 : decode cX7_gives 19 = .ok (.istore_n 2, 1) := by decide +kernel
theorem dX7_gives_20 : decode cX7_gives 20 = .ok (.aload_n 0, 1) := by decide +kernel
theorem dX7_gives_21 : decode cX7_gives 21 = .ok (.iload_n 1, 1) := by decide +kernel
theorem dX7_gives_22 : decode cX7_gives 22 = .ok (.iconst 4, 1) := by decide +kernel
theorem dX7_gives_23 : decode cX7_gives 23 = .ok (.iload_n 2, 1) := by decide +kernel
theorem dX7_gives_24 : decode cX7_gives 24 = .ok (.invokevirtual 77, 3) := by decide +kernel
theorem dX7_gives_27 : decode cX7_gives 27 = .ok (.iload_n 1, 1) := by decide +kernel
theorem dX7_gives_28 : decode cX7_gives 28 = .ok (.aload_n 0, 1) := by decide +kernel
theorem dX7_gives_29 : decode cX7_gives 29 = .ok (.getfield 7, 3) := by decide +kernel
theorem dX7_gives_32 : decode cX7_gives 32 = .ok (.bipush 8, 2) := by decide +kernel
theorem dX7_gives_34 : decode cX7_gives 34 = .ok (.iaload, 1) := by decide +kernel
theorem dX7_gives_35 : decode cX7_gives 35 = .ok (.iconst 1, 1) := by decide +kernel
theorem dX7_gives_36 : decode cX7_gives 36 = .ok (.isub, 1) := by decide +kernel
theorem dX7_gives_37 : decode cX7_gives 37 = .ok (.if_icmp .ne 7, 3) := by decide +kernel
theorem dX7_gives_40 : decode cX7_gives 40 = .ok (.iconst 1, 1) := by decide +kernel
theorem dX7_gives_41 : decode cX7_gives 41 = .ok (.goto 4, 3) := by decide +kernel
theorem dX7_gives_44 : decode cX7_gives 44 = .ok (.iconst 0, 1) := by decide +kernel
theorem dX7_gives_45 : decode cX7_gives 45 = .ok (.istore_n 3, 1) := by decide +kernel
theorem dX7_gives_46 : decode cX7_gives 46 = .ok (.aload_n 0, 1) := by decide +kernel
theorem dX7_gives_47 : decode cX7_gives 47 = .ok (.getfield 7, 3) := by decide +kernel
theorem dX7_gives_50 : decode cX7_gives 50 = .ok (.bipush 10, 2) := by decide +kernel
theorem dX7_gives_52 : decode cX7_gives 52 = .ok (.dup2, 1) := by decide +kernel
theorem dX7_gives_53 : decode cX7_gives 53 = .ok (.iaload, 1) := by decide +kernel
theorem dX7_gives_54 : decode cX7_gives 54 = .ok (.iload_n 3, 1) := by decide +kernel
theorem dX7_gives_55 : decode cX7_gives 55 = .ok (.ifCond .eq 7, 3) := by decide +kernel
theorem dX7_gives_58 : decode cX7_gives 58 = .ok (.iload_n 2, 1) := by decide +kernel
theorem dX7_gives_59 : decode cX7_gives 59 = .ok (.goto 4, 3) := by decide +kernel
theorem dX7_gives_62 : decode cX7_gives 62 = .ok (.iconst 0, 1) := by decide +kernel
theorem dX7_gives_63 : decode cX7_gives 63 = .ok (.iadd, 1) := by decide +kernel
theorem dX7_gives_64 : decode cX7_gives 64 = .ok (.iastore, 1) := by decide +kernel
theorem dX7_gives_65 : decode cX7_gives 65 = .ok (.iload_n 3, 1) := by decide +kernel
theorem dX7_gives_66 : decode cX7_gives 66 = .ok (.ifCond .ne 12, 3) := by decide +kernel
theorem dX7_gives_69 : decode cX7_gives 69 = .ok (.aload_n 0, 1) := by decide +kernel
theorem dX7_gives_70 : decode cX7_gives 70 = .ok (.iload_n 1, 1) := by decide +kernel
theorem dX7_gives_71 : decode cX7_gives 71 = .ok (.iconst 1, 1) := by decide +kernel
theorem dX7_gives_72 : decode cX7_gives 72 = .ok (.iadd, 1) := by decide +kernel
theorem dX7_gives_73 : decode cX7_gives 73 = .ok (.iconst 5, 1) := by decide +kernel
theorem dX7_gives_74 : decode cX7_gives 74 = .ok (.iload_n 2, 1) := by decide +kernel
theorem dX7_gives_75 : decode cX7_gives 75 = .ok (.invokevirtual 77, 3) := by decide +kernel
theorem dX7_gives_78 : decode cX7_gives 78 = .ok (.iconst 0, 1) := by decide +kernel
theorem dX7_gives_79 : decode cX7_gives 79 = .ok (.istore 4, 2) := by decide +kernel
theorem dX7_gives_81 : decode cX7_gives 81 = .ok (.iload 4, 2) := by decide +kernel
theorem dX7_gives_83 : decode cX7_gives 83 = .ok (.aload_n 0, 1) := by decide +kernel
theorem dX7_gives_84 : decode cX7_gives 84 = .ok (.getfield 7, 3) := by decide +kernel
theorem dX7_gives_87 : decode cX7_gives 87 = .ok (.bipush 7, 2) := by decide +kernel
theorem dX7_gives_89 : decode cX7_gives 89 = .ok (.iaload, 1) := by decide +kernel
theorem dX7_gives_90 : decode cX7_gives 90 = .ok (.if_icmp .gt 89, 3) := by decide +kernel
theorem dX7_gives_93 : decode cX7_gives 93 = .ok (.iload_n 2, 1) := by decide +kernel
theorem dX7_gives_94 : decode cX7_gives 94 = .ok (.ifCond .le 85, 3) := by decide +kernel
theorem dX7_gives_97 : decode cX7_gives 97 = .ok (.aload_n 0, 1) := by decide +kernel
theorem dX7_gives_98 : decode cX7_gives 98 = .ok (.getfield 13, 3) := by decide +kernel
theorem dX7_gives_101 : decode cX7_gives 101 = .ok (.sipush 801, 3) := by decide +kernel
theorem dX7_gives_104 : decode cX7_gives 104 = .ok (.iload_n 1, 1) := by decide +kernel
theorem dX7_gives_105 : decode cX7_gives 105 = .ok (.imul, 1) := by decide +kernel
theorem dX7_gives_106 : decode cX7_gives 106 = .ok (.iload 4, 2) := by decide +kernel
theorem dX7_gives_108 : decode cX7_gives 108 = .ok (.iadd, 1) := by decide +kernel
theorem dX7_gives_109 : decode cX7_gives 109 = .ok (.iaload, 1) := by decide +kernel
theorem dX7_gives_110 : decode cX7_gives 110 = .ok (.istore 5, 2) := by decide +kernel
theorem dX7_gives_112 : decode cX7_gives 112 = .ok (.iload 5, 2) := by decide +kernel
theorem dX7_gives_114 : decode cX7_gives 114 = .ok (.iload_n 2, 1) := by decide +kernel
theorem dX7_gives_115 : decode cX7_gives 115 = .ok (.if_icmp .ge 8, 3) := by decide +kernel
theorem dX7_gives_118 : decode cX7_gives 118 = .ok (.iload 5, 2) := by decide +kernel
theorem dX7_gives_120 : decode cX7_gives 120 = .ok (.goto 4, 3) := by decide +kernel
theorem dX7_gives_123 : decode cX7_gives 123 = .ok (.iload_n 2, 1) := by decide +kernel
theorem dX7_gives_124 : decode cX7_gives 124 = .ok (.istore 6, 2) := by decide +kernel
theorem dX7_gives_126 : decode cX7_gives 126 = .ok (.aload_n 0, 1) := by decide +kernel
theorem dX7_gives_127 : decode cX7_gives 127 = .ok (.getfield 13, 3) := by decide +kernel
theorem dX7_gives_130 : decode cX7_gives 130 = .ok (.sipush 801, 3) := by decide +kernel
theorem dX7_gives_133 : decode cX7_gives 133 = .ok (.iload_n 1, 1) := by decide +kernel
theorem dX7_gives_134 : decode cX7_gives 134 = .ok (.imul, 1) := by decide +kernel
theorem dX7_gives_135 : decode cX7_gives 135 = .ok (.iload 4, 2) := by decide +kernel
theorem dX7_gives_137 : decode cX7_gives 137 = .ok (.iadd, 1) := by decide +kernel
theorem dX7_gives_138 : decode cX7_gives 138 = .ok (.dup2, 1) := by decide +kernel
theorem dX7_gives_139 : decode cX7_gives 139 = .ok (.iaload, 1) := by decide +kernel
theorem dX7_gives_140 : decode cX7_gives 140 = .ok (.iload 6, 2) := by decide +kernel
theorem dX7_gives_142 : decode cX7_gives 142 = .ok (.isub, 1) := by decide +kernel
theorem dX7_gives_143 : decode cX7_gives 143 = .ok (.iastore, 1) := by decide +kernel
theorem dX7_gives_144 : decode cX7_gives 144 = .ok (.iload_n 2, 1) := by decide +kernel
theorem dX7_gives_145 : decode cX7_gives 145 = .ok (.iload 6, 2) := by decide +kernel
theorem dX7_gives_147 : decode cX7_gives 147 = .ok (.isub, 1) := by decide +kernel
theorem dX7_gives_148 : decode cX7_gives 148 = .ok (.istore_n 2, 1) := by decide +kernel
theorem dX7_gives_149 : decode cX7_gives 149 = .ok (.iload_n 3, 1) := by decide +kernel
theorem dX7_gives_150 : decode cX7_gives 150 = .ok (.ifCond .ne 23, 3) := by decide +kernel
theorem dX7_gives_153 : decode cX7_gives 153 = .ok (.aload_n 0, 1) := by decide +kernel
theorem dX7_gives_154 : decode cX7_gives 154 = .ok (.getfield 13, 3) := by decide +kernel
theorem dX7_gives_157 : decode cX7_gives 157 = .ok (.sipush 801, 3) := by decide +kernel
theorem dX7_gives_160 : decode cX7_gives 160 = .ok (.iload_n 1, 1) := by decide +kernel
theorem dX7_gives_161 : decode cX7_gives 161 = .ok (.iconst 1, 1) := by decide +kernel
theorem dX7_gives_162 : decode cX7_gives 162 = .ok (.iadd, 1) := by decide +kernel
theorem dX7_gives_163 : decode cX7_gives 163 = .ok (.imul, 1) := by decide +kernel
theorem dX7_gives_164 : decode cX7_gives 164 = .ok (.iload 4, 2) := by decide +kernel
theorem dX7_gives_166 : decode cX7_gives 166 = .ok (.iadd, 1) := by decide +kernel
theorem dX7_gives_167 : decode cX7_gives 167 = .ok (.dup2, 1) := by decide +kernel
theorem dX7_gives_168 : decode cX7_gives 168 = .ok (.iaload, 1) := by decide +kernel
theorem dX7_gives_169 : decode cX7_gives 169 = .ok (.iload 6, 2) := by decide +kernel
theorem dX7_gives_171 : decode cX7_gives 171 = .ok (.iadd, 1) := by decide +kernel
theorem dX7_gives_172 : decode cX7_gives 172 = .ok (.iastore, 1) := by decide +kernel
theorem dX7_gives_173 : decode cX7_gives 173 = .ok (.iinc 4 1, 3) := by decide +kernel
theorem dX7_gives_176 : decode cX7_gives 176 = .ok (.goto (-95), 3) := by decide +kernel
theorem dX7_gives_179 : decode cX7_gives 179 = .ok (.return_, 1) := by decide +kernel
theorem dX7_stepFront_0 : decode cX7_stepFront 0 = .ok (.aload_n 0, 1) := by decide +kernel
theorem dX7_stepFront_1 : decode cX7_stepFront 1 = .ok (.getfield 7, 3) := by decide +kernel
theorem dX7_stepFront_4 : decode cX7_stepFront 4 = .ok (.bipush 11, 2) := by decide +kernel
theorem dX7_stepFront_6 : decode cX7_stepFront 6 = .ok (.iaload, 1) := by decide +kernel
theorem dX7_stepFront_7 : decode cX7_stepFront 7 = .ok (.ifCond .le 17, 3) := by decide +kernel
theorem dX7_stepFront_10 : decode cX7_stepFront 10 = .ok (.aload_n 0, 1) := by decide +kernel
theorem dX7_stepFront_11 : decode cX7_stepFront 11 = .ok (.getfield 7, 3) := by decide +kernel
theorem dX7_stepFront_14 : decode cX7_stepFront 14 = .ok (.bipush 11, 2) := by decide +kernel
theorem dX7_stepFront_16 : decode cX7_stepFront 16 = .ok (.dup2, 1) := by decide +kernel
theorem dX7_stepFront_17 : decode cX7_stepFront 17 = .ok (.iaload, 1) := by decide +kernel
theorem dX7_stepFront_18 : decode cX7_stepFront 18 = .ok (.iconst 1, 1) := by decide +kernel
theorem dX7_stepFront_19 : decode cX7_stepFront 19 = .ok (.isub, 1) := by decide +kernel
theorem dX7_stepFront_20 : decode cX7_stepFront 20 = .ok (.iastore, 1) := by decide +kernel
theorem dX7_stepFront_21 : decode cX7_stepFront 21 = .ok (.goto 109, 3) := by decide +kernel
theorem dX7_stepFront_24 : decode cX7_stepFront 24 = .ok (.aload_n 0, 1) := by decide +kernel
theorem dX7_stepFront_25 : decode cX7_stepFront 25 = .ok (.getfield 7, 3) := by decide +kernel
theorem dX7_stepFront_28 : decode cX7_stepFront 28 = .ok (.bipush 10, 2) := by decide +kernel
theorem dX7_stepFront_30 : decode cX7_stepFront 30 = .ok (.iaload, 1) := by decide +kernel
theorem dX7_stepFront_31 : decode cX7_stepFront 31 = .ok (.aload_n 0, 1) := by decide +kernel
theorem dX7_stepFront_32 : decode cX7_stepFront 32 = .ok (.getfield 7, 3) := by decide +kernel
theorem dX7_stepFront_35 : decode cX7_stepFront 35 = .ok (.iconst 5, 1) := by decide +kernel
theorem dX7_stepFront_36 : decode cX7_stepFront 36 = .ok (.iaload, 1) := by decide +kernel
theorem dX7_stepFront_37 : decode cX7_stepFront 37 = .ok (.if_icmp .lt 93, 3) := by decide +kernel
theorem dX7_stepFront_40 : decode cX7_stepFront 40 = .ok (.aload_n 0, 1) := by decide +kernel
theorem dX7_stepFront_41 : decode cX7_stepFront 41 = .ok (.getfield 7, 3) := by decide +kernel
theorem dX7_stepFront_44 : decode cX7_stepFront 44 = .ok (.bipush 10, 2) := by decide +kernel
theorem dX7_stepFront_46 : decode cX7_stepFront 46 = .ok (.iaload, 1) := by decide +kernel
theorem dX7_stepFront_47 : decode cX7_stepFront 47 = .ok (.aload_n 0, 1) := by decide +kernel
theorem dX7_stepFront_48 : decode cX7_stepFront 48 = .ok (.getfield 7, 3) := by decide +kernel
theorem dX7_stepFront_51 : decode cX7_stepFront 51 = .ok (.iconst 5, 1) := by decide +kernel
theorem dX7_stepFront_52 : decode cX7_stepFront 52 = .ok (.iaload, 1) := by decide +kernel
theorem dX7_stepFront_53 : decode cX7_stepFront 53 = .ok (.idiv, 1) := by decide +kernel
theorem dX7_stepFront_54 : decode cX7_stepFront 54 = .ok (.istore_n 1, 1) := by decide +kernel
theorem dX7_stepFront_55 : decode cX7_stepFront 55 = .ok (.aload_n 0, 1) := by decide +kernel
theorem dX7_stepFront_56 : decode cX7_stepFront 56 = .ok (.getfield 7, 3) := by decide +kernel
theorem dX7_stepFront_59 : decode cX7_stepFront 59 = .ok (.bipush 10, 2) := by decide +kernel
theorem dX7_stepFront_61 : decode cX7_stepFront 61 = .ok (.dup2, 1) := by decide +kernel
theorem dX7_stepFront_62 : decode cX7_stepFront 62 = .ok (.iaload, 1) := by decide +kernel
theorem dX7_stepFront_63 : decode cX7_stepFront 63 = .ok (.iload_n 1, 1) := by decide +kernel
theorem dX7_stepFront_64 : decode cX7_stepFront 64 = .ok (.aload_n 0, 1) := by decide +kernel
theorem dX7_stepFront_65 : decode cX7_stepFront 65 = .ok (.getfield 7, 3) := by decide +kernel
theorem dX7_stepFront_68 : decode cX7_stepFront 68 = .ok (.iconst 5, 1) := by decide +kernel
theorem dX7_stepFront_69 : decode cX7_stepFront 69 = .ok (.iaload, 1) := by decide +kernel
theorem dX7_stepFront_70 : decode cX7_stepFront 70 = .ok (.imul, 1) := by decide +kernel
theorem dX7_stepFront_71 : decode cX7_stepFront 71 = .ok (.isub, 1) := by decide +kernel
theorem dX7_stepFront_72 : decode cX7_stepFront 72 = .ok (.iastore, 1) := by decide +kernel
theorem dX7_stepFront_73 : decode cX7_stepFront 73 = .ok (.aload_n 0, 1) := by decide +kernel
theorem dX7_stepFront_74 : decode cX7_stepFront 74 = .ok (.getfield 7, 3) := by decide +kernel
theorem dX7_stepFront_77 : decode cX7_stepFront 77 = .ok (.bipush 12, 2) := by decide +kernel
theorem dX7_stepFront_79 : decode cX7_stepFront 79 = .ok (.dup2, 1) := by decide +kernel
theorem dX7_stepFront_80 : decode cX7_stepFront 80 = .ok (.iaload, 1) := by decide +kernel
theorem dX7_stepFront_81 : decode cX7_stepFront 81 = .ok (.iload_n 1, 1) := by decide +kernel
theorem dX7_stepFront_82 : decode cX7_stepFront 82 = .ok (.iadd, 1) := by decide +kernel
theorem dX7_stepFront_83 : decode cX7_stepFront 83 = .ok (.iastore, 1) := by decide +kernel
theorem dX7_stepFront_84 : decode cX7_stepFront 84 = .ok (.aload_n 0, 1) := by decide +kernel
theorem dX7_stepFront_85 : decode cX7_stepFront 85 = .ok (.getfield 16, 3) := by decide +kernel
theorem dX7_stepFront_88 : decode cX7_stepFront 88 = .ok (.iconst 3, 1) := by decide +kernel
theorem dX7_stepFront_89 : decode cX7_stepFront 89 = .ok (.dup2, 1) := by decide +kernel
theorem dX7_stepFront_90 : decode cX7_stepFront 90 = .ok (.laload, 1) := by decide +kernel
theorem dX7_stepFront_91 : decode cX7_stepFront 91 = .ok (.iload_n 1, 1) := by decide +kernel
theorem dX7_stepFront_92 : decode cX7_stepFront 92 = .ok (.aload_n 0, 1) := by decide +kernel
theorem dX7_stepFront_93 : decode cX7_stepFront 93 = .ok (.getfield 7, 3) := by decide +kernel
theorem dX7_stepFront_96 : decode cX7_stepFront 96 = .ok (.iconst 5, 1) := by decide +kernel
theorem dX7_stepFront_97 : decode cX7_stepFront 97 = .ok (.iaload, 1) := by decide +kernel
theorem dX7_stepFront_98 : decode cX7_stepFront 98 = .ok (.imul, 1) := by decide +kernel
theorem dX7_stepFront_99 : decode cX7_stepFront 99 = .ok (.i2l, 1) := by decide +kernel
theorem dX7_stepFront_100 : decode cX7_stepFront 100 = .ok (.ladd, 1) := by decide +kernel
theorem dX7_stepFront_101 : decode cX7_stepFront 101 = .ok (.lastore, 1) := by decide +kernel
theorem dX7_stepFront_102 : decode cX7_stepFront 102 = .ok (.aload_n 0, 1) := by decide +kernel
theorem dX7_stepFront_103 : decode cX7_stepFront 103 = .ok (.getfield 7, 3) := by decide +kernel
theorem dX7_stepFront_106 : decode cX7_stepFront 106 = .ok (.bipush 13, 2) := by decide +kernel
theorem dX7_stepFront_108 : decode cX7_stepFront 108 = .ok (.aload_n 0, 1) := by decide +kernel
theorem dX7_stepFront_109 : decode cX7_stepFront 109 = .ok (.getfield 7, 3) := by decide +kernel
theorem dX7_stepFront_112 : decode cX7_stepFront 112 = .ok (.bipush 7, 2) := by decide +kernel
theorem dX7_stepFront_114 : decode cX7_stepFront 114 = .ok (.iaload, 1) := by decide +kernel
theorem dX7_stepFront_115 : decode cX7_stepFront 115 = .ok (.iastore, 1) := by decide +kernel
theorem dX7_stepFront_116 : decode cX7_stepFront 116 = .ok (.aload_n 0, 1) := by decide +kernel
theorem dX7_stepFront_117 : decode cX7_stepFront 117 = .ok (.getfield 7, 3) := by decide +kernel
theorem dX7_stepFront_120 : decode cX7_stepFront 120 = .ok (.bipush 11, 2) := by decide +kernel
theorem dX7_stepFront_122 : decode cX7_stepFront 122 = .ok (.aload_n 0, 1) := by decide +kernel
theorem dX7_stepFront_123 : decode cX7_stepFront 123 = .ok (.getfield 7, 3) := by decide +kernel
theorem dX7_stepFront_126 : decode cX7_stepFront 126 = .ok (.bipush 6, 2) := by decide +kernel
theorem dX7_stepFront_128 : decode cX7_stepFront 128 = .ok (.iaload, 1) := by decide +kernel
theorem dX7_stepFront_129 : decode cX7_stepFront 129 = .ok (.iastore, 1) := by decide +kernel
theorem dX7_stepFront_130 : decode cX7_stepFront 130 = .ok (.return_, 1) := by decide +kernel
theorem dX7_moves_0 : decode cX7_moves 0 = .ok (.aload_n 0, 1) := by decide +kernel
theorem dX7_moves_1 : decode cX7_moves 1 = .ok (.iload_n 1, 1) := by decide +kernel
theorem dX7_moves_2 : decode cX7_moves 2 = .ok (.iconst 0, 1) := by decide +kernel
theorem dX7_moves_3 : decode cX7_moves 3 = .ok (.invokevirtual 127, 3) := by decide +kernel
theorem dX7_moves_6 : decode cX7_moves 6 = .ok (.istore_n 2, 1) := by decide +kernel
theorem dX7_moves_7 : decode cX7_moves 7 = .ok (.aload_n 0, 1) := by decide +kernel
theorem dX7_moves_8 : decode cX7_moves 8 = .ok (.iload_n 1, 1) := by decide +kernel
theorem dX7_moves_9 : decode cX7_moves 9 = .ok (.iconst 1, 1) := by decide +kernel
theorem dX7_moves_10 : decode cX7_moves 10 = .ok (.invokevirtual 127, 3) := by decide +kernel
theorem dX7_moves_13 : decode cX7_moves 13 = .ok (.aload_n 0, 1) := by decide +kernel
theorem dX7_moves_14 : decode cX7_moves 14 = .ok (.iload_n 2, 1) := by decide +kernel
theorem dX7_moves_15 : decode cX7_moves 15 = .ok (.iconst 1, 1) := by decide +kernel
theorem dX7_moves_16 : decode cX7_moves 16 = .ok (.invokevirtual 73, 3) := by decide +kernel
theorem dX7_moves_19 : decode cX7_moves 19 = .ok (.aload_n 0, 1) := by decide +kernel
theorem dX7_moves_20 : decode cX7_moves 20 = .ok (.iload_n 2, 1) := by decide +kernel
theorem dX7_moves_21 : decode cX7_moves 21 = .ok (.iconst 2, 1) := by decide +kernel
theorem dX7_moves_22 : decode cX7_moves 22 = .ok (.invokevirtual 73, 3) := by decide +kernel
theorem dX7_moves_25 : decode cX7_moves 25 = .ok (.imul, 1) := by decide +kernel
theorem dX7_moves_26 : decode cX7_moves 26 = .ok (.sipush 1000, 3) := by decide +kernel
theorem dX7_moves_29 : decode cX7_moves 29 = .ok (.idiv, 1) := by decide +kernel
theorem dX7_moves_30 : decode cX7_moves 30 = .ok (.iadd, 1) := by decide +kernel
theorem dX7_moves_31 : decode cX7_moves 31 = .ok (.istore_n 3, 1) := by decide +kernel
theorem dX7_moves_32 : decode cX7_moves 32 = .ok (.iload_n 2, 1) := by decide +kernel
theorem dX7_moves_33 : decode cX7_moves 33 = .ok (.aload_n 0, 1) := by decide +kernel
theorem dX7_moves_34 : decode cX7_moves 34 = .ok (.getfield 7, 3) := by decide +kernel
theorem dX7_moves_37 : decode cX7_moves 37 = .ok (.bipush 8, 2) := by decide +kernel
theorem dX7_moves_39 : decode cX7_moves 39 = .ok (.iaload, 1) := by decide +kernel
theorem dX7_moves_40 : decode cX7_moves 40 = .ok (.if_icmp .ge 28, 3) := by decide +kernel
theorem dX7_moves_43 : decode cX7_moves 43 = .ok (.iload_n 3, 1) := by decide +kernel
theorem dX7_moves_44 : decode cX7_moves 44 = .ok (.aload_n 0, 1) := by decide +kernel
theorem dX7_moves_45 : decode cX7_moves 45 = .ok (.iload_n 2, 1) := by decide +kernel
theorem dX7_moves_46 : decode cX7_moves 46 = .ok (.iconst 1, 1) := by decide +kernel
theorem dX7_moves_47 : decode cX7_moves 47 = .ok (.invokevirtual 73, 3) := by decide +kernel
theorem dX7_moves_50 : decode cX7_moves 50 = .ok (.if_icmp .lt 18, 3) := by decide +kernel
theorem dX7_moves_53 : decode cX7_moves 53 = .ok (.iload_n 3, 1) := by decide +kernel
theorem dX7_moves_54 : decode cX7_moves 54 = .ok (.aload_n 0, 1) := by decide +kernel
theorem dX7_moves_55 : decode cX7_moves 55 = .ok (.iload_n 2, 1) := by decide +kernel
theorem dX7_moves_56 : decode cX7_moves 56 = .ok (.iconst 1, 1) := by decide +kernel
theorem dX7_moves_57 : decode cX7_moves 57 = .ok (.invokevirtual 73, 3) := by decide +kernel
theorem dX7_moves_60 : decode cX7_moves 60 = .ok (.isub, 1) := by decide +kernel
theorem dX7_moves_61 : decode cX7_moves 61 = .ok (.istore_n 3, 1) := by decide +kernel
theorem dX7_moves_62 : decode cX7_moves 62 = .ok (.iinc 2 1, 3) := by decide +kernel
theorem dX7_moves_65 : decode cX7_moves 65 = .ok (.goto (-33), 3) := by decide +kernel
theorem dX7_moves_68 : decode cX7_moves 68 = .ok (.iload_n 2, 1) := by decide +kernel
theorem dX7_moves_69 : decode cX7_moves 69 = .ok (.aload_n 0, 1) := by decide +kernel
theorem dX7_moves_70 : decode cX7_moves 70 = .ok (.getfield 7, 3) := by decide +kernel
theorem dX7_moves_73 : decode cX7_moves 73 = .ok (.bipush 8, 2) := by decide +kernel
theorem dX7_moves_75 : decode cX7_moves 75 = .ok (.iaload, 1) := by decide +kernel
theorem dX7_moves_76 : decode cX7_moves 76 = .ok (.if_icmp .ne 13, 3) := by decide +kernel
theorem dX7_moves_79 : decode cX7_moves 79 = .ok (.aload_n 0, 1) := by decide +kernel
theorem dX7_moves_80 : decode cX7_moves 80 = .ok (.iload_n 1, 1) := by decide +kernel
theorem dX7_moves_81 : decode cX7_moves 81 = .ok (.iconst 4, 1) := by decide +kernel
theorem dX7_moves_82 : decode cX7_moves 82 = .ok (.iconst 2, 1) := by decide +kernel
theorem dX7_moves_83 : decode cX7_moves 83 = .ok (.invokevirtual 142, 3) := by decide +kernel
theorem dX7_moves_86 : decode cX7_moves 86 = .ok (.goto 17, 3) := by decide +kernel
theorem dX7_moves_89 : decode cX7_moves 89 = .ok (.aload_n 0, 1) := by decide +kernel
theorem dX7_moves_90 : decode cX7_moves 90 = .ok (.iload_n 1, 1) := by decide +kernel
theorem dX7_moves_91 : decode cX7_moves 91 = .ok (.iconst 0, 1) := by decide +kernel
theorem dX7_moves_92 : decode cX7_moves 92 = .ok (.iload_n 2, 1) := by decide +kernel
theorem dX7_moves_93 : decode cX7_moves 93 = .ok (.invokevirtual 142, 3) := by decide +kernel
theorem dX7_moves_96 : decode cX7_moves 96 = .ok (.aload_n 0, 1) := by decide +kernel
theorem dX7_moves_97 : decode cX7_moves 97 = .ok (.iload_n 1, 1) := by decide +kernel
theorem dX7_moves_98 : decode cX7_moves 98 = .ok (.iconst 1, 1) := by decide +kernel
theorem dX7_moves_99 : decode cX7_moves 99 = .ok (.iload_n 3, 1) := by decide +kernel
theorem dX7_moves_100 : decode cX7_moves 100 = .ok (.invokevirtual 142, 3) := by decide +kernel
theorem dX7_moves_103 : decode cX7_moves 103 = .ok (.return_, 1) := by decide +kernel
theorem dX7_stepStake_0 : decode cX7_stepStake 0 = .ok (.aload_n 0, 1) := by decide +kernel
theorem dX7_stepStake_1 : decode cX7_stepStake 1 = .ok (.iload_n 1, 1) := by decide +kernel
theorem dX7_stepStake_2 : decode cX7_stepStake 2 = .ok (.iconst 0, 1) := by decide +kernel
theorem dX7_stepStake_3 : decode cX7_stepStake 3 = .ok (.invokevirtual 127, 3) := by decide +kernel
theorem dX7_stepStake_6 : decode cX7_stepStake 6 = .ok (.istore_n 2, 1) := by decide +kernel
theorem dX7_stepStake_7 : decode cX7_stepStake 7 = .ok (.aload_n 0, 1) := by decide +kernel
theorem dX7_stepStake_8 : decode cX7_stepStake 8 = .ok (.iload_n 1, 1) := by decide +kernel
theorem dX7_stepStake_9 : decode cX7_stepStake 9 = .ok (.iconst 5, 1) := by decide +kernel
theorem dX7_stepStake_10 : decode cX7_stepStake 10 = .ok (.aload_n 0, 1) := by decide +kernel
theorem dX7_stepStake_11 : decode cX7_stepStake 11 = .ok (.iload_n 1, 1) := by decide +kernel
theorem dX7_stepStake_12 : decode cX7_stepStake 12 = .ok (.iconst 5, 1) := by decide +kernel
theorem dX7_stepStake_13 : decode cX7_stepStake 13 = .ok (.invokevirtual 127, 3) := by decide +kernel
theorem dX7_stepStake_16 : decode cX7_stepStake 16 = .ok (.iconst 1, 1) := by decide +kernel
theorem dX7_stepStake_17 : decode cX7_stepStake 17 = .ok (.iadd, 1) := by decide +kernel
theorem dX7_stepStake_18 : decode cX7_stepStake 18 = .ok (.invokevirtual 142, 3) := by decide +kernel
theorem dX7_stepStake_21 : decode cX7_stepStake 21 = .ok (.aload_n 0, 1) := by decide +kernel
theorem dX7_stepStake_22 : decode cX7_stepStake 22 = .ok (.iload_n 1, 1) := by decide +kernel
theorem dX7_stepStake_23 : decode cX7_stepStake 23 = .ok (.iconst 3, 1) := by decide +kernel
theorem dX7_stepStake_24 : decode cX7_stepStake 24 = .ok (.aload_n 0, 1) := by decide +kernel
theorem dX7_stepStake_25 : decode cX7_stepStake 25 = .ok (.iload_n 1, 1) := by decide +kernel
theorem dX7_stepStake_26 : decode cX7_stepStake 26 = .ok (.iconst 3, 1) := by decide +kernel
theorem dX7_stepStake_27 : decode cX7_stepStake 27 = .ok (.invokevirtual 127, 3) := by decide +kernel
theorem dX7_stepStake_30 : decode cX7_stepStake 30 = .ok (.aload_n 0, 1) := by decide +kernel
theorem dX7_stepStake_31 : decode cX7_stepStake 31 = .ok (.iload_n 2, 1) := by decide +kernel
theorem dX7_stepStake_32 : decode cX7_stepStake 32 = .ok (.invokevirtual 106, 3) := by decide +kernel
theorem dX7_stepStake_35 : decode cX7_stepStake 35 = .ok (.iadd, 1) := by decide +kernel
theorem dX7_stepStake_36 : decode cX7_stepStake 36 = .ok (.aload_n 0, 1) := by decide +kernel
theorem dX7_stepStake_37 : decode cX7_stepStake 37 = .ok (.iload_n 2, 1) := by decide +kernel
theorem dX7_stepStake_38 : decode cX7_stepStake 38 = .ok (.iconst 3, 1) := by decide +kernel
theorem dX7_stepStake_39 : decode cX7_stepStake 39 = .ok (.invokevirtual 73, 3) := by decide +kernel
theorem dX7_stepStake_42 : decode cX7_stepStake 42 = .ok (.isub, 1) := by decide +kernel
theorem dX7_stepStake_43 : decode cX7_stepStake 43 = .ok (.invokevirtual 142, 3) := by decide +kernel
theorem dX7_stepStake_46 : decode cX7_stepStake 46 = .ok (.aload_n 0, 1) := by decide +kernel
theorem dX7_stepStake_47 : decode cX7_stepStake 47 = .ok (.iload_n 1, 1) := by decide +kernel
theorem dX7_stepStake_48 : decode cX7_stepStake 48 = .ok (.iconst 3, 1) := by decide +kernel
theorem dX7_stepStake_49 : decode cX7_stepStake 49 = .ok (.invokevirtual 127, 3) := by decide +kernel
theorem dX7_stepStake_52 : decode cX7_stepStake 52 = .ok (.aload_n 0, 1) := by decide +kernel
theorem dX7_stepStake_53 : decode cX7_stepStake 53 = .ok (.iload_n 1, 1) := by decide +kernel
theorem dX7_stepStake_54 : decode cX7_stepStake 54 = .ok (.iconst 2, 1) := by decide +kernel
theorem dX7_stepStake_55 : decode cX7_stepStake 55 = .ok (.invokevirtual 127, 3) := by decide +kernel
theorem dX7_stepStake_58 : decode cX7_stepStake 58 = .ok (.ineg, 1) := by decide +kernel
theorem dX7_stepStake_59 : decode cX7_stepStake 59 = .ok (.if_icmp .ge 13, 3) := by decide +kernel
theorem dX7_stepStake_62 : decode cX7_stepStake 62 = .ok (.aload_n 0, 1) := by decide +kernel
theorem dX7_stepStake_63 : decode cX7_stepStake 63 = .ok (.iload_n 1, 1) := by decide +kernel
theorem dX7_stepStake_64 : decode cX7_stepStake 64 = .ok (.iconst 4, 1) := by decide +kernel
theorem dX7_stepStake_65 : decode cX7_stepStake 65 = .ok (.iconst 1, 1) := by decide +kernel
theorem dX7_stepStake_66 : decode cX7_stepStake 66 = .ok (.invokevirtual 142, 3) := by decide +kernel
theorem dX7_stepStake_69 : decode cX7_stepStake 69 = .ok (.goto 8, 3) := by decide +kernel
theorem dX7_stepStake_72 : decode cX7_stepStake 72 = .ok (.aload_n 0, 1) := by decide +kernel
theorem dX7_stepStake_73 : decode cX7_stepStake 73 = .ok (.iload_n 1, 1) := by decide +kernel
theorem dX7_stepStake_74 : decode cX7_stepStake 74 = .ok (.invokevirtual 150, 3) := by decide +kernel
theorem dX7_stepStake_77 : decode cX7_stepStake 77 = .ok (.return_, 1) := by decide +kernel
theorem dX7_year_0 : decode cX7_year 0 = .ok (.aload_n 0, 1) := by decide +kernel
theorem dX7_year_1 : decode cX7_year 1 = .ok (.getfield 7, 3) := by decide +kernel
theorem dX7_year_4 : decode cX7_year 4 = .ok (.bipush 7, 2) := by decide +kernel
theorem dX7_year_6 : decode cX7_year 6 = .ok (.dup2, 1) := by decide +kernel
theorem dX7_year_7 : decode cX7_year 7 = .ok (.iaload, 1) := by decide +kernel
theorem dX7_year_8 : decode cX7_year 8 = .ok (.iconst 1, 1) := by decide +kernel
theorem dX7_year_9 : decode cX7_year 9 = .ok (.iadd, 1) := by decide +kernel
theorem dX7_year_10 : decode cX7_year 10 = .ok (.iastore, 1) := by decide +kernel
theorem dX7_year_11 : decode cX7_year 11 = .ok (.iconst 0, 1) := by decide +kernel
theorem dX7_year_12 : decode cX7_year 12 = .ok (.istore_n 1, 1) := by decide +kernel
theorem dX7_year_13 : decode cX7_year 13 = .ok (.iload_n 1, 1) := by decide +kernel
theorem dX7_year_14 : decode cX7_year 14 = .ok (.aload_n 0, 1) := by decide +kernel
theorem dX7_year_15 : decode cX7_year 15 = .ok (.getfield 7, 3) := by decide +kernel
theorem dX7_year_18 : decode cX7_year 18 = .ok (.bipush 8, 2) := by decide +kernel
theorem dX7_year_20 : decode cX7_year 20 = .ok (.iaload, 1) := by decide +kernel
theorem dX7_year_21 : decode cX7_year 21 = .ok (.if_icmp .ge 21, 3) := by decide +kernel
theorem dX7_year_24 : decode cX7_year 24 = .ok (.aload_n 0, 1) := by decide +kernel
theorem dX7_year_25 : decode cX7_year 25 = .ok (.iload_n 1, 1) := by decide +kernel
theorem dX7_year_26 : decode cX7_year 26 = .ok (.invokevirtual 154, 3) := by decide +kernel
theorem dX7_year_29 : decode cX7_year 29 = .ok (.aload_n 0, 1) := by decide +kernel
theorem dX7_year_30 : decode cX7_year 30 = .ok (.iload_n 1, 1) := by decide +kernel
theorem dX7_year_31 : decode cX7_year 31 = .ok (.iconst 5, 1) := by decide +kernel
theorem dX7_year_32 : decode cX7_year 32 = .ok (.iconst 0, 1) := by decide +kernel
theorem dX7_year_33 : decode cX7_year 33 = .ok (.invokevirtual 77, 3) := by decide +kernel
theorem dX7_year_36 : decode cX7_year 36 = .ok (.iinc 1 1, 3) := by decide +kernel
theorem dX7_year_39 : decode cX7_year 39 = .ok (.goto (-26), 3) := by decide +kernel
theorem dX7_year_42 : decode cX7_year 42 = .ok (.aload_n 0, 1) := by decide +kernel
theorem dX7_year_43 : decode cX7_year 43 = .ok (.getfield 7, 3) := by decide +kernel
theorem dX7_year_46 : decode cX7_year 46 = .ok (.bipush 8, 2) := by decide +kernel
theorem dX7_year_48 : decode cX7_year 48 = .ok (.iaload, 1) := by decide +kernel
theorem dX7_year_49 : decode cX7_year 49 = .ok (.iconst 1, 1) := by decide +kernel
theorem dX7_year_50 : decode cX7_year 50 = .ok (.isub, 1) := by decide +kernel
theorem dX7_year_51 : decode cX7_year 51 = .ok (.istore_n 1, 1) := by decide +kernel
theorem dX7_year_52 : decode cX7_year 52 = .ok (.iload_n 1, 1) := by decide +kernel
theorem dX7_year_53 : decode cX7_year 53 = .ok (.ifCond .lt 14, 3) := by decide +kernel
theorem dX7_year_56 : decode cX7_year 56 = .ok (.aload_n 0, 1) := by decide +kernel
theorem dX7_year_57 : decode cX7_year 57 = .ok (.iload_n 1, 1) := by decide +kernel
theorem dX7_year_58 : decode cX7_year 58 = .ok (.invokevirtual 157, 3) := by decide +kernel
theorem dX7_year_61 : decode cX7_year 61 = .ok (.iinc 1 (-1), 3) := by decide +kernel
theorem dX7_year_64 : decode cX7_year 64 = .ok (.goto (-12), 3) := by decide +kernel
theorem dX7_year_67 : decode cX7_year 67 = .ok (.aload_n 0, 1) := by decide +kernel
theorem dX7_year_68 : decode cX7_year 68 = .ok (.invokevirtual 160, 3) := by decide +kernel
theorem dX7_year_71 : decode cX7_year 71 = .ok (.iconst 0, 1) := by decide +kernel
theorem dX7_year_72 : decode cX7_year 72 = .ok (.istore_n 1, 1) := by decide +kernel
theorem dX7_year_73 : decode cX7_year 73 = .ok (.iload_n 1, 1) := by decide +kernel
theorem dX7_year_74 : decode cX7_year 74 = .ok (.aload_n 0, 1) := by decide +kernel
theorem dX7_year_75 : decode cX7_year 75 = .ok (.getfield 7, 3) := by decide +kernel
theorem dX7_year_78 : decode cX7_year 78 = .ok (.bipush 9, 2) := by decide +kernel
theorem dX7_year_80 : decode cX7_year 80 = .ok (.iaload, 1) := by decide +kernel
theorem dX7_year_81 : decode cX7_year 81 = .ok (.if_icmp .ge 23, 3) := by decide +kernel
theorem dX7_year_84 : decode cX7_year 84 = .ok (.aload_n 0, 1) := by decide +kernel
theorem dX7_year_85 : decode cX7_year 85 = .ok (.iload_n 1, 1) := by decide +kernel
theorem dX7_year_86 : decode cX7_year 86 = .ok (.iconst 4, 1) := by decide +kernel
theorem dX7_year_87 : decode cX7_year 87 = .ok (.invokevirtual 127, 3) := by decide +kernel
theorem dX7_year_90 : decode cX7_year 90 = .ok (.ifCond .ne 8, 3) := by decide +kernel
theorem dX7_year_93 : decode cX7_year 93 = .ok (.aload_n 0, 1) := by decide +kernel
theorem dX7_year_94 : decode cX7_year 94 = .ok (.iload_n 1, 1) := by decide +kernel
theorem dX7_year_95 : decode cX7_year 95 = .ok (.invokevirtual 163, 3) := by decide +kernel
theorem dX7_year_98 : decode cX7_year 98 = .ok (.iinc 1 1, 3) := by decide +kernel
theorem dX7_year_101 : decode cX7_year 101 = .ok (.goto (-28), 3) := by decide +kernel
theorem dX7_year_104 : decode cX7_year 104 = .ok (.return_, 1) := by decide +kernel
theorem dX7_goOn_0 : decode cX7_goOn 0 = .ok (.iconst 0, 1) := by decide +kernel
theorem dX7_goOn_1 : decode cX7_goOn 1 = .ok (.istore_n 2, 1) := by decide +kernel
theorem dX7_goOn_2 : decode cX7_goOn 2 = .ok (.iload_n 2, 1) := by decide +kernel
theorem dX7_goOn_3 : decode cX7_goOn 3 = .ok (.iload_n 1, 1) := by decide +kernel
theorem dX7_goOn_4 : decode cX7_goOn 4 = .ok (.if_icmp .ge 13, 3) := by decide +kernel
theorem dX7_goOn_7 : decode cX7_goOn 7 = .ok (.aload_n 0, 1) := by decide +kernel
theorem dX7_goOn_8 : decode cX7_goOn 8 = .ok (.invokevirtual 166, 3) := by decide +kernel
theorem dX7_goOn_11 : decode cX7_goOn 11 = .ok (.iinc 2 1, 3) := by decide +kernel
theorem dX7_goOn_14 : decode cX7_goOn 14 = .ok (.goto (-12), 3) := by decide +kernel
theorem dX7_goOn_17 : decode cX7_goOn 17 = .ok (.return_, 1) := by decide +kernel
theorem dX7_years_0 : decode cX7_years 0 = .ok (.iload_n 1, 1) := by decide +kernel
theorem dX7_years_1 : decode cX7_years 1 = .ok (.iconst 1, 1) := by decide +kernel
theorem dX7_years_2 : decode cX7_years 2 = .ok (.bipush 100, 2) := by decide +kernel
theorem dX7_years_4 : decode cX7_years 4 = .ok (.invokestatic 60, 3) := by decide +kernel
theorem dX7_years_7 : decode cX7_years 7 = .ok (.ifCond .ne 6, 3) := by decide +kernel
theorem dX7_years_10 : decode cX7_years 10 = .ok (.ldc 69, 2) := by decide +kernel
theorem dX7_years_12 : decode cX7_years 12 = .ok (.ireturn, 1) := by decide +kernel
theorem dX7_years_13 : decode cX7_years 13 = .ok (.aload_n 0, 1) := by decide +kernel
theorem dX7_years_14 : decode cX7_years 14 = .ok (.getfield 7, 3) := by decide +kernel
theorem dX7_years_17 : decode cX7_years 17 = .ok (.bipush 8, 2) := by decide +kernel
theorem dX7_years_19 : decode cX7_years 19 = .ok (.iaload, 1) := by decide +kernel
theorem dX7_years_20 : decode cX7_years 20 = .ok (.ifCond .ne 6, 3) := by decide +kernel
theorem dX7_years_23 : decode cX7_years 23 = .ok (.ldc 59, 2) := by decide +kernel
theorem dX7_years_25 : decode cX7_years 25 = .ok (.ireturn, 1) := by decide +kernel
theorem dX7_years_26 : decode cX7_years 26 = .ok (.aload_n 0, 1) := by decide +kernel
theorem dX7_years_27 : decode cX7_years 27 = .ok (.getfield 7, 3) := by decide +kernel
theorem dX7_years_30 : decode cX7_years 30 = .ok (.bipush 7, 2) := by decide +kernel
theorem dX7_years_32 : decode cX7_years 32 = .ok (.iaload, 1) := by decide +kernel
theorem dX7_years_33 : decode cX7_years 33 = .ok (.iload_n 1, 1) := by decide +kernel
theorem dX7_years_34 : decode cX7_years 34 = .ok (.iadd, 1) := by decide +kernel
theorem dX7_years_35 : decode cX7_years 35 = .ok (.sipush 500, 3) := by decide +kernel
theorem dX7_years_38 : decode cX7_years 38 = .ok (.if_icmp .le 6, 3) := by decide +kernel
theorem dX7_years_41 : decode cX7_years 41 = .ok (.ldc 76, 2) := by decide +kernel
theorem dX7_years_43 : decode cX7_years 43 = .ok (.ireturn, 1) := by decide +kernel
theorem dX7_years_44 : decode cX7_years 44 = .ok (.aload_n 0, 1) := by decide +kernel
theorem dX7_years_45 : decode cX7_years 45 = .ok (.invokevirtual 70, 3) := by decide +kernel
theorem dX7_years_48 : decode cX7_years 48 = .ok (.aload_n 0, 1) := by decide +kernel
theorem dX7_years_49 : decode cX7_years 49 = .ok (.getfield 7, 3) := by decide +kernel
theorem dX7_years_52 : decode cX7_years 52 = .ok (.bipush 12, 2) := by decide +kernel
theorem dX7_years_54 : decode cX7_years 54 = .ok (.iaload, 1) := by decide +kernel
theorem dX7_years_55 : decode cX7_years 55 = .ok (.istore_n 2, 1) := by decide +kernel
theorem dX7_years_56 : decode cX7_years 56 = .ok (.aload_n 0, 1) := by decide +kernel
theorem dX7_years_57 : decode cX7_years 57 = .ok (.iload_n 1, 1) := by decide +kernel
theorem dX7_years_58 : decode cX7_years 58 = .ok (.invokevirtual 169, 3) := by decide +kernel
theorem dX7_years_61 : decode cX7_years 61 = .ok (.aload_n 0, 1) := by decide +kernel
theorem dX7_years_62 : decode cX7_years 62 = .ok (.getfield 7, 3) := by decide +kernel
theorem dX7_years_65 : decode cX7_years 65 = .ok (.bipush 12, 2) := by decide +kernel
theorem dX7_years_67 : decode cX7_years 67 = .ok (.iaload, 1) := by decide +kernel
theorem dX7_years_68 : decode cX7_years 68 = .ok (.iload_n 2, 1) := by decide +kernel
theorem dX7_years_69 : decode cX7_years 69 = .ok (.isub, 1) := by decide +kernel
theorem dX7_years_70 : decode cX7_years 70 = .ok (.ireturn, 1) := by decide +kernel
theorem dX7_oldest_0 : decode cX7_oldest 0 = .ok (.iconst 0, 1) := by decide +kernel
theorem dX7_oldest_1 : decode cX7_oldest 1 = .ok (.istore_n 1, 1) := by decide +kernel
theorem dX7_oldest_2 : decode cX7_oldest 2 = .ok (.iload_n 1, 1) := by decide +kernel
theorem dX7_oldest_3 : decode cX7_oldest 3 = .ok (.aload_n 0, 1) := by decide +kernel
theorem dX7_oldest_4 : decode cX7_oldest 4 = .ok (.getfield 7, 3) := by decide +kernel
theorem dX7_oldest_7 : decode cX7_oldest 7 = .ok (.bipush 7, 2) := by decide +kernel
theorem dX7_oldest_9 : decode cX7_oldest 9 = .ok (.iaload, 1) := by decide +kernel
theorem dX7_oldest_10 : decode cX7_oldest 10 = .ok (.if_icmp .gt 19, 3) := by decide +kernel
theorem dX7_oldest_13 : decode cX7_oldest 13 = .ok (.aload_n 0, 1) := by decide +kernel
theorem dX7_oldest_14 : decode cX7_oldest 14 = .ok (.iload_n 1, 1) := by decide +kernel
theorem dX7_oldest_15 : decode cX7_oldest 15 = .ok (.invokevirtual 115, 3) := by decide +kernel
theorem dX7_oldest_18 : decode cX7_oldest 18 = .ok (.ifCond .le 5, 3) := by decide +kernel
theorem dX7_oldest_21 : decode cX7_oldest 21 = .ok (.iload_n 1, 1) := by decide +kernel
theorem dX7_oldest_22 : decode cX7_oldest 22 = .ok (.ireturn, 1) := by decide +kernel
theorem dX7_oldest_23 : decode cX7_oldest 23 = .ok (.iinc 1 1, 3) := by decide +kernel
theorem dX7_oldest_26 : decode cX7_oldest 26 = .ok (.goto (-24), 3) := by decide +kernel
theorem dX7_oldest_29 : decode cX7_oldest 29 = .ok (.ldc 92, 2) := by decide +kernel
theorem dX7_oldest_31 : decode cX7_oldest 31 = .ok (.ireturn, 1) := by decide +kernel
theorem dX7_brought_0 : decode cX7_brought 0 = .ok (.iload_n 1, 1) := by decide +kernel
theorem dX7_brought_1 : decode cX7_brought 1 = .ok (.tableswitch 80 0 3 #[31, 44, 60, 75], 31) := by decide +kernel
theorem dX7_brought_32 : decode cX7_brought 32 = .ok (.aload_n 0, 1) := by decide +kernel
theorem dX7_brought_33 : decode cX7_brought 33 = .ok (.getfield 7, 3) := by decide +kernel
theorem dX7_brought_36 : decode cX7_brought 36 = .ok (.bipush 10, 2) := by decide +kernel
theorem dX7_brought_38 : decode cX7_brought 38 = .ok (.iaload, 1) := by decide +kernel
theorem dX7_brought_39 : decode cX7_brought 39 = .ok (.aload_n 0, 1) := by decide +kernel
theorem dX7_brought_40 : decode cX7_brought 40 = .ok (.invokevirtual 120, 3) := by decide +kernel
theorem dX7_brought_43 : decode cX7_brought 43 = .ok (.iadd, 1) := by decide +kernel
theorem dX7_brought_44 : decode cX7_brought 44 = .ok (.ireturn, 1) := by decide +kernel
theorem dX7_brought_45 : decode cX7_brought 45 = .ok (.aload_n 0, 1) := by decide +kernel
theorem dX7_brought_46 : decode cX7_brought 46 = .ok (.getfield 7, 3) := by decide +kernel
theorem dX7_brought_49 : decode cX7_brought 49 = .ok (.bipush 12, 2) := by decide +kernel
theorem dX7_brought_51 : decode cX7_brought 51 = .ok (.iaload, 1) := by decide +kernel
theorem dX7_brought_52 : decode cX7_brought 52 = .ok (.aload_n 0, 1) := by decide +kernel
theorem dX7_brought_53 : decode cX7_brought 53 = .ok (.getfield 20, 3) := by decide +kernel
theorem dX7_brought_56 : decode cX7_brought 56 = .ok (.bipush 12, 2) := by decide +kernel
theorem dX7_brought_58 : decode cX7_brought 58 = .ok (.iaload, 1) := by decide +kernel
theorem dX7_brought_59 : decode cX7_brought 59 = .ok (.isub, 1) := by decide +kernel
theorem dX7_brought_60 : decode cX7_brought 60 = .ok (.ireturn, 1) := by decide +kernel
theorem dX7_brought_61 : decode cX7_brought 61 = .ok (.aload_n 0, 1) := by decide +kernel
theorem dX7_brought_62 : decode cX7_brought 62 = .ok (.getfield 16, 3) := by decide +kernel
theorem dX7_brought_65 : decode cX7_brought 65 = .ok (.iconst 2, 1) := by decide +kernel
theorem dX7_brought_66 : decode cX7_brought 66 = .ok (.laload, 1) := by decide +kernel
theorem dX7_brought_67 : decode cX7_brought 67 = .ok (.aload_n 0, 1) := by decide +kernel
theorem dX7_brought_68 : decode cX7_brought 68 = .ok (.getfield 26, 3) := by decide +kernel
theorem dX7_brought_71 : decode cX7_brought 71 = .ok (.iconst 2, 1) := by decide +kernel
theorem dX7_brought_72 : decode cX7_brought 72 = .ok (.laload, 1) := by decide +kernel
theorem dX7_brought_73 : decode cX7_brought 73 = .ok (.lsub, 1) := by decide +kernel
theorem dX7_brought_74 : decode cX7_brought 74 = .ok (.l2i, 1) := by decide +kernel
theorem dX7_brought_75 : decode cX7_brought 75 = .ok (.ireturn, 1) := by decide +kernel
theorem dX7_brought_76 : decode cX7_brought 76 = .ok (.aload_n 0, 1) := by decide +kernel
theorem dX7_brought_77 : decode cX7_brought 77 = .ok (.invokevirtual 130, 3) := by decide +kernel
theorem dX7_brought_80 : decode cX7_brought 80 = .ok (.ireturn, 1) := by decide +kernel
theorem dX7_brought_81 : decode cX7_brought 81 = .ok (.aload_n 0, 1) := by decide +kernel
theorem dX7_brought_82 : decode cX7_brought 82 = .ok (.invokevirtual 172, 3) := by decide +kernel
theorem dX7_brought_85 : decode cX7_brought 85 = .ok (.ireturn, 1) := by decide +kernel
theorem dX7_ifYears_0 : decode cX7_ifYears 0 = .ok (.iload_n 1, 1) := by decide +kernel
theorem dX7_ifYears_1 : decode cX7_ifYears 1 = .ok (.iconst 1, 1) := by decide +kernel
theorem dX7_ifYears_2 : decode cX7_ifYears 2 = .ok (.bipush 100, 2) := by decide +kernel
theorem dX7_ifYears_4 : decode cX7_ifYears 4 = .ok (.invokestatic 60, 3) := by decide +kernel
theorem dX7_ifYears_7 : decode cX7_ifYears 7 = .ok (.ifCond .eq 12, 3) := by decide +kernel
theorem dX7_ifYears_10 : decode cX7_ifYears 10 = .ok (.iload_n 2, 1) := by decide +kernel
theorem dX7_ifYears_11 : decode cX7_ifYears 11 = .ok (.iconst 0, 1) := by decide +kernel
theorem dX7_ifYears_12 : decode cX7_ifYears 12 = .ok (.iconst 4, 1) := by decide +kernel
theorem dX7_ifYears_13 : decode cX7_ifYears 13 = .ok (.invokestatic 60, 3) := by decide +kernel
theorem dX7_ifYears_16 : decode cX7_ifYears 16 = .ok (.ifCond .ne 6, 3) := by decide +kernel
theorem dX7_ifYears_19 : decode cX7_ifYears 19 = .ok (.ldc 69, 2) := by decide +kernel
theorem dX7_ifYears_21 : decode cX7_ifYears 21 = .ok (.ireturn, 1) := by decide +kernel
theorem dX7_ifYears_22 : decode cX7_ifYears 22 = .ok (.aload_n 0, 1) := by decide +kernel
theorem dX7_ifYears_23 : decode cX7_ifYears 23 = .ok (.getfield 7, 3) := by decide +kernel
theorem dX7_ifYears_26 : decode cX7_ifYears 26 = .ok (.bipush 8, 2) := by decide +kernel
theorem dX7_ifYears_28 : decode cX7_ifYears 28 = .ok (.iaload, 1) := by decide +kernel
theorem dX7_ifYears_29 : decode cX7_ifYears 29 = .ok (.ifCond .ne 6, 3) := by decide +kernel
theorem dX7_ifYears_32 : decode cX7_ifYears 32 = .ok (.ldc 59, 2) := by decide +kernel
theorem dX7_ifYears_34 : decode cX7_ifYears 34 = .ok (.ireturn, 1) := by decide +kernel
theorem dX7_ifYears_35 : decode cX7_ifYears 35 = .ok (.aload_n 0, 1) := by decide +kernel
theorem dX7_ifYears_36 : decode cX7_ifYears 36 = .ok (.invokevirtual 175, 3) := by decide +kernel
theorem dX7_ifYears_39 : decode cX7_ifYears 39 = .ok (.aload_n 0, 1) := by decide +kernel
theorem dX7_ifYears_40 : decode cX7_ifYears 40 = .ok (.iload_n 1, 1) := by decide +kernel
theorem dX7_ifYears_41 : decode cX7_ifYears 41 = .ok (.invokevirtual 169, 3) := by decide +kernel
theorem dX7_ifYears_44 : decode cX7_ifYears 44 = .ok (.aload_n 0, 1) := by decide +kernel
theorem dX7_ifYears_45 : decode cX7_ifYears 45 = .ok (.iload_n 2, 1) := by decide +kernel
theorem dX7_ifYears_46 : decode cX7_ifYears 46 = .ok (.invokevirtual 178, 3) := by decide +kernel
theorem dX7_ifYears_49 : decode cX7_ifYears 49 = .ok (.istore_n 3, 1) := by decide +kernel
theorem dX7_ifYears_50 : decode cX7_ifYears 50 = .ok (.aload_n 0, 1) := by decide +kernel
theorem dX7_ifYears_51 : decode cX7_ifYears 51 = .ok (.invokevirtual 181, 3) := by decide +kernel
theorem dX7_ifYears_54 : decode cX7_ifYears 54 = .ok (.iload_n 3, 1) := by decide +kernel
theorem dX7_ifYears_55 : decode cX7_ifYears 55 = .ok (.ireturn, 1) := by decide +kernel
theorem dX7_isSo_0 : decode cX7_isSo 0 = .ok (.iload_n 1, 1) := by decide +kernel
theorem dX7_isSo_1 : decode cX7_isSo 1 = .ok (.ifCond .ne 22, 3) := by decide +kernel
theorem dX7_isSo_4 : decode cX7_isSo 4 = .ok (.aload_n 0, 1) := by decide +kernel
theorem dX7_isSo_5 : decode cX7_isSo 5 = .ok (.getfield 7, 3) := by decide +kernel
theorem dX7_isSo_8 : decode cX7_isSo 8 = .ok (.bipush 12, 2) := by decide +kernel
theorem dX7_isSo_10 : decode cX7_isSo 10 = .ok (.iaload, 1) := by decide +kernel
theorem dX7_isSo_11 : decode cX7_isSo 11 = .ok (.iload_n 2, 1) := by decide +kernel
theorem dX7_isSo_12 : decode cX7_isSo 12 = .ok (.if_icmp .le 7, 3) := by decide +kernel
theorem dX7_isSo_15 : decode cX7_isSo 15 = .ok (.iconst 1, 1) := by decide +kernel
theorem dX7_isSo_16 : decode cX7_isSo 16 = .ok (.goto 39, 3) := by decide +kernel
theorem dX7_isSo_19 : decode cX7_isSo 19 = .ok (.iconst 0, 1) := by decide +kernel
theorem dX7_isSo_20 : decode cX7_isSo 20 = .ok (.goto 35, 3) := by decide +kernel
theorem dX7_isSo_23 : decode cX7_isSo 23 = .ok (.iload_n 1, 1) := by decide +kernel
theorem dX7_isSo_24 : decode cX7_isSo 24 = .ok (.iconst 1, 1) := by decide +kernel
theorem dX7_isSo_25 : decode cX7_isSo 25 = .ok (.if_icmp .ne 18, 3) := by decide +kernel
theorem dX7_isSo_28 : decode cX7_isSo 28 = .ok (.aload_n 0, 1) := by decide +kernel
theorem dX7_isSo_29 : decode cX7_isSo 29 = .ok (.invokevirtual 120, 3) := by decide +kernel
theorem dX7_isSo_32 : decode cX7_isSo 32 = .ok (.ifCond .ne 7, 3) := by decide +kernel
theorem dX7_isSo_35 : decode cX7_isSo 35 = .ok (.iconst 1, 1) := by decide +kernel
theorem dX7_isSo_36 : decode cX7_isSo 36 = .ok (.goto 19, 3) := by decide +kernel
theorem dX7_isSo_39 : decode cX7_isSo 39 = .ok (.iconst 0, 1) := by decide +kernel
theorem dX7_isSo_40 : decode cX7_isSo 40 = .ok (.goto 15, 3) := by decide +kernel
theorem dX7_isSo_43 : decode cX7_isSo 43 = .ok (.aload_n 0, 1) := by decide +kernel
theorem dX7_isSo_44 : decode cX7_isSo 44 = .ok (.invokevirtual 130, 3) := by decide +kernel
theorem dX7_isSo_47 : decode cX7_isSo 47 = .ok (.ifCond .ne 7, 3) := by decide +kernel
theorem dX7_isSo_50 : decode cX7_isSo 50 = .ok (.iconst 1, 1) := by decide +kernel
theorem dX7_isSo_51 : decode cX7_isSo 51 = .ok (.goto 4, 3) := by decide +kernel
theorem dX7_isSo_54 : decode cX7_isSo 54 = .ok (.iconst 0, 1) := by decide +kernel
theorem dX7_isSo_55 : decode cX7_isSo 55 = .ok (.ireturn, 1) := by decide +kernel
theorem dX7_yearsTo_0 : decode cX7_yearsTo 0 = .ok (.iload_n 1, 1) := by decide +kernel
theorem dX7_yearsTo_1 : decode cX7_yearsTo 1 = .ok (.iconst 0, 1) := by decide +kernel
theorem dX7_yearsTo_2 : decode cX7_yearsTo 2 = .ok (.iconst 2, 1) := by decide +kernel
theorem dX7_yearsTo_3 : decode cX7_yearsTo 3 = .ok (.invokestatic 60, 3) := by decide +kernel
theorem dX7_yearsTo_6 : decode cX7_yearsTo 6 = .ok (.ifCond .ne 6, 3) := by decide +kernel
theorem dX7_yearsTo_9 : decode cX7_yearsTo 9 = .ok (.ldc 69, 2) := by decide +kernel
theorem dX7_yearsTo_11 : decode cX7_yearsTo 11 = .ok (.ireturn, 1) := by decide +kernel
theorem dX7_yearsTo_12 : decode cX7_yearsTo 12 = .ok (.aload_n 0, 1) := by decide +kernel
theorem dX7_yearsTo_13 : decode cX7_yearsTo 13 = .ok (.getfield 7, 3) := by decide +kernel
theorem dX7_yearsTo_16 : decode cX7_yearsTo 16 = .ok (.bipush 8, 2) := by decide +kernel
theorem dX7_yearsTo_18 : decode cX7_yearsTo 18 = .ok (.iaload, 1) := by decide +kernel
theorem dX7_yearsTo_19 : decode cX7_yearsTo 19 = .ok (.ifCond .ne 6, 3) := by decide +kernel
theorem dX7_yearsTo_22 : decode cX7_yearsTo 22 = .ok (.ldc 59, 2) := by decide +kernel
theorem dX7_yearsTo_24 : decode cX7_yearsTo 24 = .ok (.ireturn, 1) := by decide +kernel
theorem dX7_yearsTo_25 : decode cX7_yearsTo 25 = .ok (.aload_n 0, 1) := by decide +kernel
theorem dX7_yearsTo_26 : decode cX7_yearsTo 26 = .ok (.invokevirtual 175, 3) := by decide +kernel
theorem dX7_yearsTo_29 : decode cX7_yearsTo 29 = .ok (.ldc 92, 2) := by decide +kernel
theorem dX7_yearsTo_31 : decode cX7_yearsTo 31 = .ok (.istore_n 2, 1) := by decide +kernel
theorem dX7_yearsTo_32 : decode cX7_yearsTo 32 = .ok (.iconst 1, 1) := by decide +kernel
theorem dX7_yearsTo_33 : decode cX7_yearsTo 33 = .ok (.istore_n 3, 1) := by decide +kernel
theorem dX7_yearsTo_34 : decode cX7_yearsTo 34 = .ok (.iload_n 3, 1) := by decide +kernel
theorem dX7_yearsTo_35 : decode cX7_yearsTo 35 = .ok (.sipush 300, 3) := by decide +kernel
theorem dX7_yearsTo_38 : decode cX7_yearsTo 38 = .ok (.if_icmp .gt 45, 3) := by decide +kernel
theorem dX7_yearsTo_41 : decode cX7_yearsTo 41 = .ok (.iload_n 2, 1) := by decide +kernel
theorem dX7_yearsTo_42 : decode cX7_yearsTo 42 = .ok (.ldc 92, 2) := by decide +kernel
theorem dX7_yearsTo_44 : decode cX7_yearsTo 44 = .ok (.if_icmp .ne 39, 3) := by decide +kernel
theorem dX7_yearsTo_47 : decode cX7_yearsTo 47 = .ok (.aload_n 0, 1) := by decide +kernel
theorem dX7_yearsTo_48 : decode cX7_yearsTo 48 = .ok (.getfield 7, 3) := by decide +kernel
theorem dX7_yearsTo_51 : decode cX7_yearsTo 51 = .ok (.bipush 12, 2) := by decide +kernel
theorem dX7_yearsTo_53 : decode cX7_yearsTo 53 = .ok (.iaload, 1) := by decide +kernel
theorem dX7_yearsTo_54 : decode cX7_yearsTo 54 = .ok (.istore 4, 2) := by decide +kernel
theorem dX7_yearsTo_56 : decode cX7_yearsTo 56 = .ok (.aload_n 0, 1) := by decide +kernel
theorem dX7_yearsTo_57 : decode cX7_yearsTo 57 = .ok (.invokevirtual 166, 3) := by decide +kernel
theorem dX7_yearsTo_60 : decode cX7_yearsTo 60 = .ok (.aload_n 0, 1) := by decide +kernel
theorem dX7_yearsTo_61 : decode cX7_yearsTo 61 = .ok (.iload_n 1, 1) := by decide +kernel
theorem dX7_yearsTo_62 : decode cX7_yearsTo 62 = .ok (.iload 4, 2) := by decide +kernel
theorem dX7_yearsTo_64 : decode cX7_yearsTo 64 = .ok (.invokevirtual 184, 3) := by decide +kernel
theorem dX7_yearsTo_67 : decode cX7_yearsTo 67 = .ok (.ifCond .eq 7, 3) := by decide +kernel
theorem dX7_yearsTo_70 : decode cX7_yearsTo 70 = .ok (.iload_n 3, 1) := by decide +kernel
theorem dX7_yearsTo_71 : decode cX7_yearsTo 71 = .ok (.goto 5, 3) := by decide +kernel
theorem dX7_yearsTo_74 : decode cX7_yearsTo 74 = .ok (.ldc 92, 2) := by decide +kernel
theorem dX7_yearsTo_76 : decode cX7_yearsTo 76 = .ok (.istore_n 2, 1) := by decide +kernel
theorem dX7_yearsTo_77 : decode cX7_yearsTo 77 = .ok (.iinc 3 1, 3) := by decide +kernel
theorem dX7_yearsTo_80 : decode cX7_yearsTo 80 = .ok (.goto (-46), 3) := by decide +kernel
theorem dX7_yearsTo_83 : decode cX7_yearsTo 83 = .ok (.aload_n 0, 1) := by decide +kernel
theorem dX7_yearsTo_84 : decode cX7_yearsTo 84 = .ok (.invokevirtual 181, 3) := by decide +kernel
theorem dX7_yearsTo_87 : decode cX7_yearsTo 87 = .ok (.iload_n 2, 1) := by decide +kernel
theorem dX7_yearsTo_88 : decode cX7_yearsTo 88 = .ok (.ireturn, 1) := by decide +kernel
theorem dX7_isSteady_0 : decode cX7_isSteady 0 = .ok (.lconst 0, 1) := by decide +kernel
theorem dX7_isSteady_1 : decode cX7_isSteady 1 = .ok (.lstore_n 1, 1) := by decide +kernel
theorem dX7_isSteady_2 : decode cX7_isSteady 2 = .ok (.iconst 0, 1) := by decide +kernel
theorem dX7_isSteady_3 : decode cX7_isSteady 3 = .ok (.istore_n 3, 1) := by decide +kernel
theorem dX7_isSteady_4 : decode cX7_isSteady 4 = .ok (.iload_n 3, 1) := by decide +kernel
theorem dX7_isSteady_5 : decode cX7_isSteady 5 = .ok (.aload_n 0, 1) := by decide +kernel
theorem dX7_isSteady_6 : decode cX7_isSteady 6 = .ok (.getfield 7, 3) := by decide +kernel
theorem dX7_isSteady_9 : decode cX7_isSteady 9 = .ok (.bipush 8, 2) := by decide +kernel
theorem dX7_isSteady_11 : decode cX7_isSteady 11 = .ok (.iaload, 1) := by decide +kernel
theorem dX7_isSteady_12 : decode cX7_isSteady 12 = .ok (.if_icmp .ge 24, 3) := by decide +kernel
theorem dX7_isSteady_15 : decode cX7_isSteady 15 = .ok (.lload_n 1, 1) := by decide +kernel
theorem dX7_isSteady_16 : decode cX7_isSteady 16 = .ok (.aload_n 0, 1) := by decide +kernel
theorem dX7_isSteady_17 : decode cX7_isSteady 17 = .ok (.iload_n 3, 1) := by decide +kernel
theorem dX7_isSteady_18 : decode cX7_isSteady 18 = .ok (.invokevirtual 106, 3) := by decide +kernel
theorem dX7_isSteady_21 : decode cX7_isSteady 21 = .ok (.aload_n 0, 1) := by decide +kernel
theorem dX7_isSteady_22 : decode cX7_isSteady 22 = .ok (.iload_n 3, 1) := by decide +kernel
theorem dX7_isSteady_23 : decode cX7_isSteady 23 = .ok (.invokevirtual 109, 3) := by decide +kernel
theorem dX7_isSteady_26 : decode cX7_isSteady 26 = .ok (.isub, 1) := by decide +kernel
theorem dX7_isSteady_27 : decode cX7_isSteady 27 = .ok (.i2l, 1) := by decide +kernel
theorem dX7_isSteady_28 : decode cX7_isSteady 28 = .ok (.ladd, 1) := by decide +kernel
theorem dX7_isSteady_29 : decode cX7_isSteady 29 = .ok (.lstore_n 1, 1) := by decide +kernel
theorem dX7_isSteady_30 : decode cX7_isSteady 30 = .ok (.iinc 3 1, 3) := by decide +kernel
theorem dX7_isSteady_33 : decode cX7_isSteady 33 = .ok (.goto (-29), 3) := by decide +kernel
theorem dX7_isSteady_36 : decode cX7_isSteady 36 = .ok (.lload_n 1, 1) := by decide +kernel
theorem dX7_isSteady_37 : decode cX7_isSteady 37 = .ok (.lconst 0, 1) := by decide +kernel
theorem dX7_isSteady_38 : decode cX7_isSteady 38 = .ok (.lcmp, 1) := by decide +kernel
theorem dX7_isSteady_39 : decode cX7_isSteady 39 = .ok (.ifCond .lt 7, 3) := by decide +kernel
theorem dX7_isSteady_42 : decode cX7_isSteady 42 = .ok (.iconst 1, 1) := by decide +kernel
theorem dX7_isSteady_43 : decode cX7_isSteady 43 = .ok (.goto 4, 3) := by decide +kernel
theorem dX7_isSteady_46 : decode cX7_isSteady 46 = .ok (.iconst 0, 1) := by decide +kernel
theorem dX7_isSteady_47 : decode cX7_isSteady 47 = .ok (.ireturn, 1) := by decide +kernel
theorem dX7_steadyMelt_0 : decode cX7_steadyMelt 0 = .ok (.aload_n 0, 1) := by decide +kernel
theorem dX7_steadyMelt_1 : decode cX7_steadyMelt 1 = .ok (.getfield 7, 3) := by decide +kernel
theorem dX7_steadyMelt_4 : decode cX7_steadyMelt 4 = .ok (.bipush 8, 2) := by decide +kernel
theorem dX7_steadyMelt_6 : decode cX7_steadyMelt 6 = .ok (.iaload, 1) := by decide +kernel
theorem dX7_steadyMelt_7 : decode cX7_steadyMelt 7 = .ok (.ifCond .ne 6, 3) := by decide +kernel
theorem dX7_steadyMelt_10 : decode cX7_steadyMelt 10 = .ok (.ldc 59, 2) := by decide +kernel
theorem dX7_steadyMelt_12 : decode cX7_steadyMelt 12 = .ok (.ireturn, 1) := by decide +kernel
theorem dX7_steadyMelt_13 : decode cX7_steadyMelt 13 = .ok (.aload_n 0, 1) := by decide +kernel
theorem dX7_steadyMelt_14 : decode cX7_steadyMelt 14 = .ok (.getfield 7, 3) := by decide +kernel
theorem dX7_steadyMelt_17 : decode cX7_steadyMelt 17 = .ok (.iconst 2, 1) := by decide +kernel
theorem dX7_steadyMelt_18 : decode cX7_steadyMelt 18 = .ok (.iaload, 1) := by decide +kernel
theorem dX7_steadyMelt_19 : decode cX7_steadyMelt 19 = .ok (.istore_n 1, 1) := by decide +kernel
theorem dX7_steadyMelt_20 : decode cX7_steadyMelt 20 = .ok (.aload_n 0, 1) := by decide +kernel
theorem dX7_steadyMelt_21 : decode cX7_steadyMelt 21 = .ok (.getfield 7, 3) := by decide +kernel
theorem dX7_steadyMelt_24 : decode cX7_steadyMelt 24 = .ok (.iconst 2, 1) := by decide +kernel
theorem dX7_steadyMelt_25 : decode cX7_steadyMelt 25 = .ok (.sipush 9000, 3) := by decide +kernel
theorem dX7_steadyMelt_28 : decode cX7_steadyMelt 28 = .ok (.iastore, 1) := by decide +kernel
theorem dX7_steadyMelt_29 : decode cX7_steadyMelt 29 = .ok (.aload_n 0, 1) := by decide +kernel
theorem dX7_steadyMelt_30 : decode cX7_steadyMelt 30 = .ok (.getfield 7, 3) := by decide +kernel
theorem dX7_steadyMelt_33 : decode cX7_steadyMelt 33 = .ok (.iconst 2, 1) := by decide +kernel
theorem dX7_steadyMelt_34 : decode cX7_steadyMelt 34 = .ok (.iaload, 1) := by decide +kernel
theorem dX7_steadyMelt_35 : decode cX7_steadyMelt 35 = .ok (.ifCond .lt 23, 3) := by decide +kernel
theorem dX7_steadyMelt_38 : decode cX7_steadyMelt 38 = .ok (.aload_n 0, 1) := by decide +kernel
theorem dX7_steadyMelt_39 : decode cX7_steadyMelt 39 = .ok (.invokevirtual 187, 3) := by decide +kernel
theorem dX7_steadyMelt_42 : decode cX7_steadyMelt 42 = .ok (.ifCond .ne 16, 3) := by decide +kernel
theorem dX7_steadyMelt_45 : decode cX7_steadyMelt 45 = .ok (.aload_n 0, 1) := by decide +kernel
theorem dX7_steadyMelt_46 : decode cX7_steadyMelt 46 = .ok (.getfield 7, 3) := by decide +kernel
theorem dX7_steadyMelt_49 : decode cX7_steadyMelt 49 = .ok (.iconst 2, 1) := by decide +kernel
theorem dX7_steadyMelt_50 : decode cX7_steadyMelt 50 = .ok (.dup2, 1) := by decide +kernel
theorem dX7_steadyMelt_51 : decode cX7_steadyMelt 51 = .ok (.iaload, 1) := by decide +kernel
theorem dX7_steadyMelt_52 : decode cX7_steadyMelt 52 = .ok (.iconst 1, 1) := by decide +kernel
theorem dX7_steadyMelt_53 : decode cX7_steadyMelt 53 = .ok (.isub, 1) := by decide +kernel
theorem dX7_steadyMelt_54 : decode cX7_steadyMelt 54 = .ok (.iastore, 1) := by decide +kernel
theorem dX7_steadyMelt_55 : decode cX7_steadyMelt 55 = .ok (.goto (-26), 3) := by decide +kernel
theorem dX7_steadyMelt_58 : decode cX7_steadyMelt 58 = .ok (.aload_n 0, 1) := by decide +kernel
theorem dX7_steadyMelt_59 : decode cX7_steadyMelt 59 = .ok (.getfield 7, 3) := by decide +kernel
theorem dX7_steadyMelt_62 : decode cX7_steadyMelt 62 = .ok (.iconst 2, 1) := by decide +kernel
theorem dX7_steadyMelt_63 : decode cX7_steadyMelt 63 = .ok (.iaload, 1) := by decide +kernel
theorem dX7_steadyMelt_64 : decode cX7_steadyMelt 64 = .ok (.istore_n 2, 1) := by decide +kernel
theorem dX7_steadyMelt_65 : decode cX7_steadyMelt 65 = .ok (.aload_n 0, 1) := by decide +kernel
theorem dX7_steadyMelt_66 : decode cX7_steadyMelt 66 = .ok (.getfield 7, 3) := by decide +kernel
theorem dX7_steadyMelt_69 : decode cX7_steadyMelt 69 = .ok (.iconst 2, 1) := by decide +kernel
theorem dX7_steadyMelt_70 : decode cX7_steadyMelt 70 = .ok (.iload_n 1, 1) := by decide +kernel
theorem dX7_steadyMelt_71 : decode cX7_steadyMelt 71 = .ok (.iastore, 1) := by decide +kernel
theorem dX7_steadyMelt_72 : decode cX7_steadyMelt 72 = .ok (.iload_n 2, 1) := by decide +kernel
theorem dX7_steadyMelt_73 : decode cX7_steadyMelt 73 = .ok (.ifCond .ge 8, 3) := by decide +kernel
theorem dX7_steadyMelt_76 : decode cX7_steadyMelt 76 = .ok (.ldc 92, 2) := by decide +kernel
theorem dX7_steadyMelt_78 : decode cX7_steadyMelt 78 = .ok (.goto 4, 3) := by decide +kernel
theorem dX7_steadyMelt_81 : decode cX7_steadyMelt 81 = .ok (.iload_n 2, 1) := by decide +kernel
theorem dX7_steadyMelt_82 : decode cX7_steadyMelt 82 = .ok (.ireturn, 1) := by decide +kernel
theorem dX7_type_0 : decode cX7_type 0 = .ok (.iload_n 1, 1) := by decide +kernel
theorem dX7_type_1 : decode cX7_type 1 = .ok (.bipush 32, 2) := by decide +kernel
theorem dX7_type_3 : decode cX7_type 3 = .ok (.bipush 126, 2) := by decide +kernel
theorem dX7_type_5 : decode cX7_type 5 = .ok (.invokestatic 60, 3) := by decide +kernel
theorem dX7_type_8 : decode cX7_type 8 = .ok (.ifCond .ne 6, 3) := by decide +kernel
theorem dX7_type_11 : decode cX7_type 11 = .ok (.ldc 69, 2) := by decide +kernel
theorem dX7_type_13 : decode cX7_type 13 = .ok (.ireturn, 1) := by decide +kernel
theorem dX7_type_14 : decode cX7_type 14 = .ok (.aload_n 0, 1) := by decide +kernel
theorem dX7_type_15 : decode cX7_type 15 = .ok (.getfield 139, 3) := by decide +kernel
theorem dX7_type_18 : decode cX7_type 18 = .ok (.bipush 60, 2) := by decide +kernel
theorem dX7_type_20 : decode cX7_type 20 = .ok (.if_icmp .ne 6, 3) := by decide +kernel
theorem dX7_type_23 : decode cX7_type 23 = .ok (.ldc 76, 2) := by decide +kernel
theorem dX7_type_25 : decode cX7_type 25 = .ok (.ireturn, 1) := by decide +kernel
theorem dX7_type_26 : decode cX7_type 26 = .ok (.aload_n 0, 1) := by decide +kernel
theorem dX7_type_27 : decode cX7_type 27 = .ok (.getfield 41, 3) := by decide +kernel
theorem dX7_type_30 : decode cX7_type 30 = .ok (.aload_n 0, 1) := by decide +kernel
theorem dX7_type_31 : decode cX7_type 31 = .ok (.getfield 139, 3) := by decide +kernel
theorem dX7_type_34 : decode cX7_type 34 = .ok (.iload_n 1, 1) := by decide +kernel
theorem dX7_type_35 : decode cX7_type 35 = .ok (.iastore, 1) := by decide +kernel
theorem dX7_type_36 : decode cX7_type 36 = .ok (.aload_n 0, 1) := by decide +kernel
theorem dX7_type_37 : decode cX7_type 37 = .ok (.dup, 1) := by decide +kernel
theorem dX7_type_38 : decode cX7_type 38 = .ok (.getfield 139, 3) := by decide +kernel
theorem dX7_type_41 : decode cX7_type 41 = .ok (.iconst 1, 1) := by decide +kernel
theorem dX7_type_42 : decode cX7_type 42 = .ok (.iadd, 1) := by decide +kernel
theorem dX7_type_43 : decode cX7_type 43 = .ok (.putfield 139, 3) := by decide +kernel
theorem dX7_type_46 : decode cX7_type 46 = .ok (.aload_n 0, 1) := by decide +kernel
theorem dX7_type_47 : decode cX7_type 47 = .ok (.getfield 139, 3) := by decide +kernel
theorem dX7_type_50 : decode cX7_type 50 = .ok (.ireturn, 1) := by decide +kernel
theorem dX7_clearText_0 : decode cX7_clearText 0 = .ok (.aload_n 0, 1) := by decide +kernel
theorem dX7_clearText_1 : decode cX7_clearText 1 = .ok (.getfield 139, 3) := by decide +kernel
theorem dX7_clearText_4 : decode cX7_clearText 4 = .ok (.istore_n 1, 1) := by decide +kernel
theorem dX7_clearText_5 : decode cX7_clearText 5 = .ok (.aload_n 0, 1) := by decide +kernel
theorem dX7_clearText_6 : decode cX7_clearText 6 = .ok (.iconst 0, 1) := by decide +kernel
theorem dX7_clearText_7 : decode cX7_clearText 7 = .ok (.putfield 139, 3) := by decide +kernel
theorem dX7_clearText_10 : decode cX7_clearText 10 = .ok (.iload_n 1, 1) := by decide +kernel
theorem dX7_clearText_11 : decode cX7_clearText 11 = .ok (.ireturn, 1) := by decide +kernel
theorem dX7_here_0 : decode cX7_here 0 = .ok (.aload_n 0, 1) := by decide +kernel
theorem dX7_here_1 : decode cX7_here 1 = .ok (.getfield 191, 3) := by decide +kernel
theorem dX7_here_4 : decode cX7_here 4 = .ok (.aload_n 0, 1) := by decide +kernel
theorem dX7_here_5 : decode cX7_here 5 = .ok (.getfield 139, 3) := by decide +kernel
theorem dX7_here_8 : decode cX7_here 8 = .ok (.if_icmp .ge 15, 3) := by decide +kernel
theorem dX7_here_11 : decode cX7_here 11 = .ok (.aload_n 0, 1) := by decide +kernel
theorem dX7_here_12 : decode cX7_here 12 = .ok (.getfield 41, 3) := by decide +kernel
theorem dX7_here_15 : decode cX7_here 15 = .ok (.aload_n 0, 1) := by decide +kernel
theorem dX7_here_16 : decode cX7_here 16 = .ok (.getfield 191, 3) := by decide +kernel
theorem dX7_here_19 : decode cX7_here 19 = .ok (.iaload, 1) := by decide +kernel
theorem dX7_here_20 : decode cX7_here 20 = .ok (.goto 4, 3) := by decide +kernel
theorem dX7_here_23 : decode cX7_here 23 = .ok (.iconst (-1), 1) := by decide +kernel
theorem dX7_here_24 : decode cX7_here 24 = .ok (.ireturn, 1) := by decide +kernel
theorem dX7_readNumber_0 : decode cX7_readNumber 0 = .ok (.aload_n 0, 1) := by decide +kernel
theorem dX7_readNumber_1 : decode cX7_readNumber 1 = .ok (.getfield 191, 3) := by decide +kernel
theorem dX7_readNumber_4 : decode cX7_readNumber 4 = .ok (.istore_n 2, 1) := by decide +kernel
theorem dX7_readNumber_5 : decode cX7_readNumber 5 = .ok (.aload_n 0, 1) := by decide +kernel
theorem dX7_readNumber_6 : decode cX7_readNumber 6 = .ok (.iconst 0, 1) := by decide +kernel
theorem dX7_readNumber_7 : decode cX7_readNumber 7 = .ok (.putfield 194, 3) := by decide +kernel
theorem dX7_readNumber_10 : decode cX7_readNumber 10 = .ok (.aload_n 0, 1) := by decide +kernel
theorem dX7_readNumber_11 : decode cX7_readNumber 11 = .ok (.getfield 191, 3) := by decide +kernel
theorem dX7_readNumber_14 : decode cX7_readNumber 14 = .ok (.iload_n 2, 1) := by decide +kernel
theorem dX7_readNumber_15 : decode cX7_readNumber 15 = .ok (.iconst 4, 1) := by decide +kernel
theorem dX7_readNumber_16 : decode cX7_readNumber 16 = .ok (.iadd, 1) := by decide +kernel
theorem dX7_readNumber_17 : decode cX7_readNumber 17 = .ok (.if_icmp .ge 49, 3) := by decide +kernel
theorem dX7_readNumber_20 : decode cX7_readNumber 20 = .ok (.aload_n 0, 1) := by decide +kernel
theorem dX7_readNumber_21 : decode cX7_readNumber 21 = .ok (.invokevirtual 197, 3) := by decide +kernel
theorem dX7_readNumber_24 : decode cX7_readNumber 24 = .ok (.bipush 48, 2) := by decide +kernel
theorem dX7_readNumber_26 : decode cX7_readNumber 26 = .ok (.bipush 57, 2) := by decide +kernel
theorem dX7_readNumber_28 : decode cX7_readNumber 28 = .ok (.invokestatic 60, 3) := by decide +kernel
theorem dX7_readNumber_31 : decode cX7_readNumber 31 = .ok (.ifCond .eq 35, 3) := by decide +kernel
theorem dX7_readNumber_34 : decode cX7_readNumber 34 = .ok (.aload_n 0, 1) := by decide +kernel
theorem dX7_readNumber_35 : decode cX7_readNumber 35 = .ok (.bipush 10, 2) := by decide +kernel
theorem dX7_readNumber_37 : decode cX7_readNumber 37 = .ok (.aload_n 0, 1) := by decide +kernel
theorem dX7_readNumber_38 : decode cX7_readNumber 38 = .ok (.getfield 194, 3) := by decide +kernel
theorem dX7_readNumber_41 : decode cX7_readNumber 41 = .ok (.imul, 1) := by decide +kernel
theorem dX7_readNumber_42 : decode cX7_readNumber 42 = .ok (.aload_n 0, 1) := by decide +kernel
theorem dX7_readNumber_43 : decode cX7_readNumber 43 = .ok (.invokevirtual 197, 3) := by decide +kernel
theorem dX7_readNumber_46 : decode cX7_readNumber 46 = .ok (.iadd, 1) := by decide +kernel
theorem dX7_readNumber_47 : decode cX7_readNumber 47 = .ok (.bipush 48, 2) := by decide +kernel
theorem dX7_readNumber_49 : decode cX7_readNumber 49 = .ok (.isub, 1) := by decide +kernel
theorem dX7_readNumber_50 : decode cX7_readNumber 50 = .ok (.putfield 194, 3) := by decide +kernel
theorem dX7_readNumber_53 : decode cX7_readNumber 53 = .ok (.aload_n 0, 1) := by decide +kernel
theorem dX7_readNumber_54 : decode cX7_readNumber 54 = .ok (.dup, 1) := by decide +kernel
theorem dX7_readNumber_55 : decode cX7_readNumber 55 = .ok (.getfield 191, 3) := by decide +kernel
theorem dX7_readNumber_58 : decode cX7_readNumber 58 = .ok (.iconst 1, 1) := by decide +kernel
theorem dX7_readNumber_59 : decode cX7_readNumber 59 = .ok (.iadd, 1) := by decide +kernel
theorem dX7_readNumber_60 : decode cX7_readNumber 60 = .ok (.putfield 191, 3) := by decide +kernel
theorem dX7_readNumber_63 : decode cX7_readNumber 63 = .ok (.goto (-53), 3) := by decide +kernel
theorem dX7_readNumber_66 : decode cX7_readNumber 66 = .ok (.aload_n 0, 1) := by decide +kernel
theorem dX7_readNumber_67 : decode cX7_readNumber 67 = .ok (.getfield 191, 3) := by decide +kernel
theorem dX7_readNumber_70 : decode cX7_readNumber 70 = .ok (.iload_n 2, 1) := by decide +kernel
theorem dX7_readNumber_71 : decode cX7_readNumber 71 = .ok (.if_icmp .le 15, 3) := by decide +kernel
theorem dX7_readNumber_74 : decode cX7_readNumber 74 = .ok (.aload_n 0, 1) := by decide +kernel
theorem dX7_readNumber_75 : decode cX7_readNumber 75 = .ok (.invokevirtual 197, 3) := by decide +kernel
theorem dX7_readNumber_78 : decode cX7_readNumber 78 = .ok (.iload_n 1, 1) := by decide +kernel
theorem dX7_readNumber_79 : decode cX7_readNumber 79 = .ok (.if_icmp .ne 7, 3) := by decide +kernel
theorem dX7_readNumber_82 : decode cX7_readNumber 82 = .ok (.iconst 1, 1) := by decide +kernel
theorem dX7_readNumber_83 : decode cX7_readNumber 83 = .ok (.goto 4, 3) := by decide +kernel
theorem dX7_readNumber_86 : decode cX7_readNumber 86 = .ok (.iconst 0, 1) := by decide +kernel
theorem dX7_readNumber_87 : decode cX7_readNumber 87 = .ok (.istore_n 3, 1) := by decide +kernel
theorem dX7_readNumber_88 : decode cX7_readNumber 88 = .ok (.aload_n 0, 1) := by decide +kernel
theorem dX7_readNumber_89 : decode cX7_readNumber 89 = .ok (.dup, 1) := by decide +kernel
theorem dX7_readNumber_90 : decode cX7_readNumber 90 = .ok (.getfield 191, 3) := by decide +kernel
theorem dX7_readNumber_93 : decode cX7_readNumber 93 = .ok (.iconst 1, 1) := by decide +kernel
theorem dX7_readNumber_94 : decode cX7_readNumber 94 = .ok (.iadd, 1) := by decide +kernel
theorem dX7_readNumber_95 : decode cX7_readNumber 95 = .ok (.putfield 191, 3) := by decide +kernel
theorem dX7_readNumber_98 : decode cX7_readNumber 98 = .ok (.iload_n 3, 1) := by decide +kernel
theorem dX7_readNumber_99 : decode cX7_readNumber 99 = .ok (.ireturn, 1) := by decide +kernel
theorem dX7_readYear_0 : decode cX7_readYear 0 = .ok (.aload_n 0, 1) := by decide +kernel
theorem dX7_readYear_1 : decode cX7_readYear 1 = .ok (.bipush 44, 2) := by decide +kernel
theorem dX7_readYear_3 : decode cX7_readYear 3 = .ok (.invokevirtual 200, 3) := by decide +kernel
theorem dX7_readYear_6 : decode cX7_readYear 6 = .ok (.ifCond .ne 5, 3) := by decide +kernel
theorem dX7_readYear_9 : decode cX7_readYear 9 = .ok (.iconst 0, 1) := by decide +kernel
theorem dX7_readYear_10 : decode cX7_readYear 10 = .ok (.ireturn, 1) := by decide +kernel
theorem dX7_readYear_11 : decode cX7_readYear 11 = .ok (.aload_n 0, 1) := by decide +kernel
theorem dX7_readYear_12 : decode cX7_readYear 12 = .ok (.aload_n 0, 1) := by decide +kernel
theorem dX7_readYear_13 : decode cX7_readYear 13 = .ok (.getfield 194, 3) := by decide +kernel
theorem dX7_readYear_16 : decode cX7_readYear 16 = .ok (.putfield 203, 3) := by decide +kernel
theorem dX7_readYear_19 : decode cX7_readYear 19 = .ok (.aload_n 0, 1) := by decide +kernel
theorem dX7_readYear_20 : decode cX7_readYear 20 = .ok (.bipush 59, 2) := by decide +kernel
theorem dX7_readYear_22 : decode cX7_readYear 22 = .ok (.invokevirtual 200, 3) := by decide +kernel
theorem dX7_readYear_25 : decode cX7_readYear 25 = .ok (.ireturn, 1) := by decide +kernel
theorem dX7_reason_0 : decode cX7_reason 0 = .ok (.aload_n 0, 1) := by decide +kernel
theorem dX7_reason_1 : decode cX7_reason 1 = .ok (.iconst 0, 1) := by decide +kernel
theorem dX7_reason_2 : decode cX7_reason 2 = .ok (.putfield 191, 3) := by decide +kernel
theorem dX7_reason_5 : decode cX7_reason 5 = .ok (.aload_n 0, 1) := by decide +kernel
theorem dX7_reason_6 : decode cX7_reason 6 = .ok (.getfield 7, 3) := by decide +kernel
theorem dX7_reason_9 : decode cX7_reason 9 = .ok (.bipush 7, 2) := by decide +kernel
theorem dX7_reason_11 : decode cX7_reason 11 = .ok (.iaload, 1) := by decide +kernel
theorem dX7_reason_12 : decode cX7_reason 12 = .ok (.istore_n 1, 1) := by decide +kernel
theorem dX7_reason_13 : decode cX7_reason 13 = .ok (.aload_n 0, 1) := by decide +kernel
theorem dX7_reason_14 : decode cX7_reason 14 = .ok (.getfield 191, 3) := by decide +kernel
theorem dX7_reason_17 : decode cX7_reason 17 = .ok (.aload_n 0, 1) := by decide +kernel
theorem dX7_reason_18 : decode cX7_reason 18 = .ok (.getfield 139, 3) := by decide +kernel
theorem dX7_reason_21 : decode cX7_reason 21 = .ok (.if_icmp .ge 57, 3) := by decide +kernel
theorem dX7_reason_24 : decode cX7_reason 24 = .ok (.aload_n 0, 1) := by decide +kernel
theorem dX7_reason_25 : decode cX7_reason 25 = .ok (.aload_n 0, 1) := by decide +kernel
theorem dX7_reason_26 : decode cX7_reason 26 = .ok (.getfield 191, 3) := by decide +kernel
theorem dX7_reason_29 : decode cX7_reason 29 = .ok (.putfield 206, 3) := by decide +kernel
theorem dX7_reason_32 : decode cX7_reason 32 = .ok (.aload_n 0, 1) := by decide +kernel
theorem dX7_reason_33 : decode cX7_reason 33 = .ok (.invokevirtual 209, 3) := by decide +kernel
theorem dX7_reason_36 : decode cX7_reason 36 = .ok (.ifCond .ne 5, 3) := by decide +kernel
theorem dX7_reason_39 : decode cX7_reason 39 = .ok (.iconst 1, 1) := by decide +kernel
theorem dX7_reason_40 : decode cX7_reason 40 = .ok (.ireturn, 1) := by decide +kernel
theorem dX7_reason_41 : decode cX7_reason 41 = .ok (.aload_n 0, 1) := by decide +kernel
theorem dX7_reason_42 : decode cX7_reason 42 = .ok (.getfield 203, 3) := by decide +kernel
theorem dX7_reason_45 : decode cX7_reason 45 = .ok (.sipush 5000, 3) := by decide +kernel
theorem dX7_reason_48 : decode cX7_reason 48 = .ok (.if_icmp .gt 13, 3) := by decide +kernel
theorem dX7_reason_51 : decode cX7_reason 51 = .ok (.aload_n 0, 1) := by decide +kernel
theorem dX7_reason_52 : decode cX7_reason 52 = .ok (.getfield 194, 3) := by decide +kernel
theorem dX7_reason_55 : decode cX7_reason 55 = .ok (.sipush 9000, 3) := by decide +kernel
theorem dX7_reason_58 : decode cX7_reason 58 = .ok (.if_icmp .le 5, 3) := by decide +kernel
theorem dX7_reason_61 : decode cX7_reason 61 = .ok (.iconst 2, 1) := by decide +kernel
theorem dX7_reason_62 : decode cX7_reason 62 = .ok (.ireturn, 1) := by decide +kernel
theorem dX7_reason_63 : decode cX7_reason 63 = .ok (.iload_n 1, 1) := by decide +kernel
theorem dX7_reason_64 : decode cX7_reason 64 = .ok (.sipush 500, 3) := by decide +kernel
theorem dX7_reason_67 : decode cX7_reason 67 = .ok (.if_icmp .ne 5, 3) := by decide +kernel
theorem dX7_reason_70 : decode cX7_reason 70 = .ok (.iconst 3, 1) := by decide +kernel
theorem dX7_reason_71 : decode cX7_reason 71 = .ok (.ireturn, 1) := by decide +kernel
theorem dX7_reason_72 : decode cX7_reason 72 = .ok (.iinc 1 1, 3) := by decide +kernel
theorem dX7_reason_75 : decode cX7_reason 75 = .ok (.goto (-62), 3) := by decide +kernel
theorem dX7_reason_78 : decode cX7_reason 78 = .ok (.iconst 0, 1) := by decide +kernel
theorem dX7_reason_79 : decode cX7_reason 79 = .ok (.ireturn, 1) := by decide +kernel
theorem dX7_fault_0 : decode cX7_fault 0 = .ok (.iload_n 1, 1) := by decide +kernel
theorem dX7_fault_1 : decode cX7_fault 1 = .ok (.iconst 0, 1) := by decide +kernel
theorem dX7_fault_2 : decode cX7_fault 2 = .ok (.iconst 1, 1) := by decide +kernel
theorem dX7_fault_3 : decode cX7_fault 3 = .ok (.invokestatic 60, 3) := by decide +kernel
theorem dX7_fault_6 : decode cX7_fault 6 = .ok (.ifCond .ne 6, 3) := by decide +kernel
theorem dX7_fault_9 : decode cX7_fault 9 = .ok (.ldc 69, 2) := by decide +kernel
theorem dX7_fault_11 : decode cX7_fault 11 = .ok (.ireturn, 1) := by decide +kernel
theorem dX7_fault_12 : decode cX7_fault 12 = .ok (.aload_n 0, 1) := by decide +kernel
theorem dX7_fault_13 : decode cX7_fault 13 = .ok (.invokevirtual 212, 3) := by decide +kernel
theorem dX7_fault_16 : decode cX7_fault 16 = .ok (.istore_n 2, 1) := by decide +kernel
theorem dX7_fault_17 : decode cX7_fault 17 = .ok (.iload_n 2, 1) := by decide +kernel
theorem dX7_fault_18 : decode cX7_fault 18 = .ok (.ifCond .ne 8, 3) := by decide +kernel
theorem dX7_fault_21 : decode cX7_fault 21 = .ok (.ldc 92, 2) := by decide +kernel
theorem dX7_fault_23 : decode cX7_fault 23 = .ok (.goto 15, 3) := by decide +kernel
theorem dX7_fault_26 : decode cX7_fault 26 = .ok (.iload_n 1, 1) := by decide +kernel
theorem dX7_fault_27 : decode cX7_fault 27 = .ok (.ifCond .ne 10, 3) := by decide +kernel
theorem dX7_fault_30 : decode cX7_fault 30 = .ok (.aload_n 0, 1) := by decide +kernel
theorem dX7_fault_31 : decode cX7_fault 31 = .ok (.getfield 206, 3) := by decide +kernel
theorem dX7_fault_34 : decode cX7_fault 34 = .ok (.goto 4, 3) := by decide +kernel
theorem dX7_fault_37 : decode cX7_fault 37 = .ok (.iload_n 2, 1) := by decide +kernel
theorem dX7_fault_38 : decode cX7_fault 38 = .ok (.ireturn, 1) := by decide +kernel
theorem dX7_live_0 : decode cX7_live 0 = .ok (.aload_n 0, 1) := by decide +kernel
theorem dX7_live_1 : decode cX7_live 1 = .ok (.invokevirtual 212, 3) := by decide +kernel
theorem dX7_live_4 : decode cX7_live 4 = .ok (.ifCond .ne 13, 3) := by decide +kernel
theorem dX7_live_7 : decode cX7_live 7 = .ok (.aload_n 0, 1) := by decide +kernel
theorem dX7_live_8 : decode cX7_live 8 = .ok (.getfield 7, 3) := by decide +kernel
theorem dX7_live_11 : decode cX7_live 11 = .ok (.bipush 8, 2) := by decide +kernel
theorem dX7_live_13 : decode cX7_live 13 = .ok (.iaload, 1) := by decide +kernel
theorem dX7_live_14 : decode cX7_live 14 = .ok (.ifCond .ne 6, 3) := by decide +kernel
theorem dX7_live_17 : decode cX7_live 17 = .ok (.ldc 59, 2) := by decide +kernel
theorem dX7_live_19 : decode cX7_live 19 = .ok (.ireturn, 1) := by decide +kernel
theorem dX7_live_20 : decode cX7_live 20 = .ok (.aload_n 0, 1) := by decide +kernel
theorem dX7_live_21 : decode cX7_live 21 = .ok (.invokevirtual 70, 3) := by decide +kernel
theorem dX7_live_24 : decode cX7_live 24 = .ok (.iconst 0, 1) := by decide +kernel
theorem dX7_live_25 : decode cX7_live 25 = .ok (.istore_n 1, 1) := by decide +kernel
theorem dX7_live_26 : decode cX7_live 26 = .ok (.aload_n 0, 1) := by decide +kernel
theorem dX7_live_27 : decode cX7_live 27 = .ok (.iconst 0, 1) := by decide +kernel
theorem dX7_live_28 : decode cX7_live 28 = .ok (.putfield 191, 3) := by decide +kernel
theorem dX7_live_31 : decode cX7_live 31 = .ok (.aload_n 0, 1) := by decide +kernel
theorem dX7_live_32 : decode cX7_live 32 = .ok (.getfield 191, 3) := by decide +kernel
theorem dX7_live_35 : decode cX7_live 35 = .ok (.aload_n 0, 1) := by decide +kernel
theorem dX7_live_36 : decode cX7_live 36 = .ok (.getfield 139, 3) := by decide +kernel
theorem dX7_live_39 : decode cX7_live 39 = .ok (.if_icmp .ge 40, 3) := by decide +kernel
theorem dX7_live_42 : decode cX7_live 42 = .ok (.aload_n 0, 1) := by decide +kernel
theorem dX7_live_43 : decode cX7_live 43 = .ok (.invokevirtual 209, 3) := by decide +kernel
theorem dX7_live_46 : decode cX7_live 46 = .ok (.ifCond .eq 33, 3) := by decide +kernel
theorem dX7_live_49 : decode cX7_live 49 = .ok (.aload_n 0, 1) := by decide +kernel
theorem dX7_live_50 : decode cX7_live 50 = .ok (.getfield 7, 3) := by decide +kernel
theorem dX7_live_53 : decode cX7_live 53 = .ok (.iconst 0, 1) := by decide +kernel
theorem dX7_live_54 : decode cX7_live 54 = .ok (.aload_n 0, 1) := by decide +kernel
theorem dX7_live_55 : decode cX7_live 55 = .ok (.getfield 203, 3) := by decide +kernel
theorem dX7_live_58 : decode cX7_live 58 = .ok (.iastore, 1) := by decide +kernel
theorem dX7_live_59 : decode cX7_live 59 = .ok (.aload_n 0, 1) := by decide +kernel
theorem dX7_live_60 : decode cX7_live 60 = .ok (.getfield 7, 3) := by decide +kernel
theorem dX7_live_63 : decode cX7_live 63 = .ok (.iconst 2, 1) := by decide +kernel
theorem dX7_live_64 : decode cX7_live 64 = .ok (.aload_n 0, 1) := by decide +kernel
theorem dX7_live_65 : decode cX7_live 65 = .ok (.getfield 194, 3) := by decide +kernel
theorem dX7_live_68 : decode cX7_live 68 = .ok (.iastore, 1) := by decide +kernel
theorem dX7_live_69 : decode cX7_live 69 = .ok (.aload_n 0, 1) := by decide +kernel
theorem dX7_live_70 : decode cX7_live 70 = .ok (.invokevirtual 166, 3) := by decide +kernel
theorem dX7_live_73 : decode cX7_live 73 = .ok (.iinc 1 1, 3) := by decide +kernel
theorem dX7_live_76 : decode cX7_live 76 = .ok (.goto (-45), 3) := by decide +kernel
theorem dX7_live_79 : decode cX7_live 79 = .ok (.iload_n 1, 1) := by decide +kernel
theorem dX7_live_80 : decode cX7_live 80 = .ok (.ireturn, 1) := by decide +kernel
end
section
theorem dL_law_0 : decode cL_law 0 = .ok (.new 7, 3) := by decide +kernel
theorem dL_law_3 : decode cL_law 3 = .ok (.dup, 1) := by decide +kernel
theorem dL_law_4 : decode cL_law 4 = .ok (.invokespecial 9, 3) := by decide +kernel
theorem dL_law_7 : decode cL_law 7 = .ok (.astore_n 1, 1) := by decide +kernel
theorem dL_law_8 : decode cL_law 8 = .ok (.new 10, 3) := by decide +kernel
theorem dL_law_11 : decode cL_law 11 = .ok (.dup, 1) := by decide +kernel
theorem dL_law_12 : decode cL_law 12 = .ok (.invokespecial 12, 3) := by decide +kernel
theorem dL_law_15 : decode cL_law 15 = .ok (.astore_n 2, 1) := by decide +kernel
theorem dL_law_16 : decode cL_law 16 = .ok (.iconst 0, 1) := by decide +kernel
theorem dL_law_17 : decode cL_law 17 = .ok (.istore_n 3, 1) := by decide +kernel
theorem dL_law_18 : decode cL_law 18 = .ok (.iload_n 3, 1) := by decide +kernel
theorem dL_law_19 : decode cL_law 19 = .ok (.aload_n 0, 1) := by decide +kernel
theorem dL_law_20 : decode cL_law 20 = .ok (.arraylength, 1) := by decide +kernel
theorem dL_law_21 : decode cL_law 21 = .ok (.iconst 5, 1) := by decide +kernel
theorem dL_law_22 : decode cL_law 22 = .ok (.isub, 1) := by decide +kernel
theorem dL_law_23 : decode cL_law 23 = .ok (.if_icmp .gt 723, 3) := by decide +kernel
theorem dL_law_26 : decode cL_law 26 = .ok (.aload_n 0, 1) := by decide +kernel
theorem dL_law_27 : decode cL_law 27 = .ok (.iload_n 3, 1) := by decide +kernel
theorem dL_law_28 : decode cL_law 28 = .ok (.iaload, 1) := by decide +kernel
theorem dL_law_29 : decode cL_law 29 = .ok (.bipush 31, 2) := by decide +kernel
theorem dL_law_31 : decode cL_law 31 = .ok (.iand, 1) := by decide +kernel
theorem dL_law_32 : decode cL_law 32 = .ok (.tableswitch 708 0 22 #[108, 141, 194, 227, 260, 303, 326, 339, 362, 386, 409, 452, 475, 508, 531, 554, 587, 610, 623, 636, 659, 672, 695], 108) := by decide +kernel
theorem dL_law_140 : decode cL_law 140 = .ok (.aload_n 1, 1) := by decide +kernel
theorem dL_law_141 : decode cL_law 141 = .ok (.aload_n 0, 1) := by decide +kernel
theorem dL_law_142 : decode cL_law 142 = .ok (.iload_n 3, 1) := by decide +kernel
theorem dL_law_143 : decode cL_law 143 = .ok (.iconst 1, 1) := by decide +kernel
theorem dL_law_144 : decode cL_law 144 = .ok (.iadd, 1) := by decide +kernel
theorem dL_law_145 : decode cL_law 145 = .ok (.iaload, 1) := by decide +kernel
theorem dL_law_146 : decode cL_law 146 = .ok (.aload_n 0, 1) := by decide +kernel
theorem dL_law_147 : decode cL_law 147 = .ok (.iload_n 3, 1) := by decide +kernel
theorem dL_law_148 : decode cL_law 148 = .ok (.iconst 2, 1) := by decide +kernel
theorem dL_law_149 : decode cL_law 149 = .ok (.iadd, 1) := by decide +kernel
theorem dL_law_150 : decode cL_law 150 = .ok (.iaload, 1) := by decide +kernel
theorem dL_law_151 : decode cL_law 151 = .ok (.invokevirtual 13, 3) := by decide +kernel
theorem dL_law_154 : decode cL_law 154 = .ok (.aload_n 2, 1) := by decide +kernel
theorem dL_law_155 : decode cL_law 155 = .ok (.aload_n 0, 1) := by decide +kernel
theorem dL_law_156 : decode cL_law 156 = .ok (.iload_n 3, 1) := by decide +kernel
theorem dL_law_157 : decode cL_law 157 = .ok (.iconst 1, 1) := by decide +kernel
theorem dL_law_158 : decode cL_law 158 = .ok (.iadd, 1) := by decide +kernel
theorem dL_law_159 : decode cL_law 159 = .ok (.iaload, 1) := by decide +kernel
theorem dL_law_160 : decode cL_law 160 = .ok (.aload_n 0, 1) := by decide +kernel
theorem dL_law_161 : decode cL_law 161 = .ok (.iload_n 3, 1) := by decide +kernel
theorem dL_law_162 : decode cL_law 162 = .ok (.iconst 2, 1) := by decide +kernel
theorem dL_law_163 : decode cL_law 163 = .ok (.iadd, 1) := by decide +kernel
theorem dL_law_164 : decode cL_law 164 = .ok (.iaload, 1) := by decide +kernel
theorem dL_law_165 : decode cL_law 165 = .ok (.invokevirtual 17, 3) := by decide +kernel
theorem dL_law_168 : decode cL_law 168 = .ok (.if_icmp .eq 572, 3) := by decide +kernel
theorem dL_law_171 : decode cL_law 171 = .ok (.iconst 0, 1) := by decide +kernel
theorem dL_law_172 : decode cL_law 172 = .ok (.ireturn, 1) := by decide +kernel
theorem dL_law_173 : decode cL_law 173 = .ok (.aload_n 1, 1) := by decide +kernel
theorem dL_law_174 : decode cL_law 174 = .ok (.aload_n 0, 1) := by decide +kernel
theorem dL_law_175 : decode cL_law 175 = .ok (.iload_n 3, 1) := by decide +kernel
theorem dL_law_176 : decode cL_law 176 = .ok (.iconst 1, 1) := by decide +kernel
theorem dL_law_177 : decode cL_law 177 = .ok (.iadd, 1) := by decide +kernel
theorem dL_law_178 : decode cL_law 178 = .ok (.iaload, 1) := by decide +kernel
theorem dL_law_179 : decode cL_law 179 = .ok (.aload_n 0, 1) := by decide +kernel
theorem dL_law_180 : decode cL_law 180 = .ok (.iload_n 3, 1) := by decide +kernel
theorem dL_law_181 : decode cL_law 181 = .ok (.iconst 2, 1) := by decide +kernel
theorem dL_law_182 : decode cL_law 182 = .ok (.iadd, 1) := by decide +kernel
theorem dL_law_183 : decode cL_law 183 = .ok (.iaload, 1) := by decide +kernel
theorem dL_law_184 : decode cL_law 184 = .ok (.aload_n 0, 1) := by decide +kernel
theorem dL_law_185 : decode cL_law 185 = .ok (.iload_n 3, 1) := by decide +kernel
theorem dL_law_186 : decode cL_law 186 = .ok (.iconst 3, 1) := by decide +kernel
theorem dL_law_187 : decode cL_law 187 = .ok (.iadd, 1) := by decide +kernel
theorem dL_law_188 : decode cL_law 188 = .ok (.iaload, 1) := by decide +kernel
theorem dL_law_189 : decode cL_law 189 = .ok (.aload_n 0, 1) := by decide +kernel
theorem dL_law_190 : decode cL_law 190 = .ok (.iload_n 3, 1) := by decide +kernel
theorem dL_law_191 : decode cL_law 191 = .ok (.iconst 4, 1) := by decide +kernel
theorem dL_law_192 : decode cL_law 192 = .ok (.iadd, 1) := by decide +kernel
theorem dL_law_193 : decode cL_law 193 = .ok (.iaload, 1) := by decide +kernel
theorem dL_law_194 : decode cL_law 194 = .ok (.invokevirtual 18, 3) := by decide +kernel
theorem dL_law_197 : decode cL_law 197 = .ok (.aload_n 2, 1) := by decide +kernel
theorem dL_law_198 : decode cL_law 198 = .ok (.aload_n 0, 1) := by decide +kernel
theorem dL_law_199 : decode cL_law 199 = .ok (.iload_n 3, 1) := by decide +kernel
theorem dL_law_200 : decode cL_law 200 = .ok (.iconst 1, 1) := by decide +kernel
theorem dL_law_201 : decode cL_law 201 = .ok (.iadd, 1) := by decide +kernel
theorem dL_law_202 : decode cL_law 202 = .ok (.iaload, 1) := by decide +kernel
theorem dL_law_203 : decode cL_law 203 = .ok (.aload_n 0, 1) := by decide +kernel
theorem dL_law_204 : decode cL_law 204 = .ok (.iload_n 3, 1) := by decide +kernel
theorem dL_law_205 : decode cL_law 205 = .ok (.iconst 2, 1) := by decide +kernel
theorem dL_law_206 : decode cL_law 206 = .ok (.iadd, 1) := by decide +kernel
theorem dL_law_207 : decode cL_law 207 = .ok (.iaload, 1) := by decide +kernel
theorem dL_law_208 : decode cL_law 208 = .ok (.aload_n 0, 1) := by decide +kernel
theorem dL_law_209 : decode cL_law 209 = .ok (.iload_n 3, 1) := by decide +kernel
theorem dL_law_210 : decode cL_law 210 = .ok (.iconst 3, 1) := by decide +kernel
theorem dL_law_211 : decode cL_law 211 = .ok (.iadd, 1) := by decide +kernel
theorem dL_law_212 : decode cL_law 212 = .ok (.iaload, 1) := by decide +kernel
theorem dL_law_213 : decode cL_law 213 = .ok (.aload_n 0, 1) := by decide +kernel
theorem dL_law_214 : decode cL_law 214 = .ok (.iload_n 3, 1) := by decide +kernel
theorem dL_law_215 : decode cL_law 215 = .ok (.iconst 4, 1) := by decide +kernel
theorem dL_law_216 : decode cL_law 216 = .ok (.iadd, 1) := by decide +kernel
theorem dL_law_217 : decode cL_law 217 = .ok (.iaload, 1) := by decide +kernel
theorem dL_law_218 : decode cL_law 218 = .ok (.invokevirtual 22, 3) := by decide +kernel
theorem dL_law_221 : decode cL_law 221 = .ok (.if_icmp .eq 519, 3) := by decide +kernel
theorem dL_law_224 : decode cL_law 224 = .ok (.iconst 0, 1) := by decide +kernel
theorem dL_law_225 : decode cL_law 225 = .ok (.ireturn, 1) := by decide +kernel
theorem dL_law_226 : decode cL_law 226 = .ok (.aload_n 1, 1) := by decide +kernel
theorem dL_law_227 : decode cL_law 227 = .ok (.aload_n 0, 1) := by decide +kernel
theorem dL_law_228 : decode cL_law 228 = .ok (.iload_n 3, 1) := by decide +kernel
theorem dL_law_229 : decode cL_law 229 = .ok (.iconst 1, 1) := by decide +kernel
theorem dL_law_230 : decode cL_law 230 = .ok (.iadd, 1) := by decide +kernel
theorem dL_law_231 : decode cL_law 231 = .ok (.iaload, 1) := by decide +kernel
theorem dL_law_232 : decode cL_law 232 = .ok (.aload_n 0, 1) := by decide +kernel
theorem dL_law_233 : decode cL_law 233 = .ok (.iload_n 3, 1) := by decide +kernel
theorem dL_law_234 : decode cL_law 234 = .ok (.iconst 2, 1) := by decide +kernel
theorem dL_law_235 : decode cL_law 235 = .ok (.iadd, 1) := by decide +kernel
theorem dL_law_236 : decode cL_law 236 = .ok (.iaload, 1) := by decide +kernel
theorem dL_law_237 : decode cL_law 237 = .ok (.invokevirtual 23, 3) := by decide +kernel
theorem dL_law_240 : decode cL_law 240 = .ok (.aload_n 2, 1) := by decide +kernel
theorem dL_law_241 : decode cL_law 241 = .ok (.aload_n 0, 1) := by decide +kernel
theorem dL_law_242 : decode cL_law 242 = .ok (.iload_n 3, 1) := by decide +kernel
theorem dL_law_243 : decode cL_law 243 = .ok (.iconst 1, 1) := by decide +kernel
theorem dL_law_244 : decode cL_law 244 = .ok (.iadd, 1) := by decide +kernel
theorem dL_law_245 : decode cL_law 245 = .ok (.iaload, 1) := by decide +kernel
theorem dL_law_246 : decode cL_law 246 = .ok (.aload_n 0, 1) := by decide +kernel
theorem dL_law_247 : decode cL_law 247 = .ok (.iload_n 3, 1) := by decide +kernel
theorem dL_law_248 : decode cL_law 248 = .ok (.iconst 2, 1) := by decide +kernel
theorem dL_law_249 : decode cL_law 249 = .ok (.iadd, 1) := by decide +kernel
theorem dL_law_250 : decode cL_law 250 = .ok (.iaload, 1) := by decide +kernel
theorem dL_law_251 : decode cL_law 251 = .ok (.invokevirtual 26, 3) := by decide +kernel
theorem dL_law_254 : decode cL_law 254 = .ok (.if_icmp .eq 486, 3) := by decide +kernel
theorem dL_law_257 : decode cL_law 257 = .ok (.iconst 0, 1) := by decide +kernel
theorem dL_law_258 : decode cL_law 258 = .ok (.ireturn, 1) := by decide +kernel
theorem dL_law_259 : decode cL_law 259 = .ok (.aload_n 1, 1) := by decide +kernel
theorem dL_law_260 : decode cL_law 260 = .ok (.aload_n 0, 1) := by decide +kernel
theorem dL_law_261 : decode cL_law 261 = .ok (.iload_n 3, 1) := by decide +kernel
theorem dL_law_262 : decode cL_law 262 = .ok (.iconst 1, 1) := by decide +kernel
theorem dL_law_263 : decode cL_law 263 = .ok (.iadd, 1) := by decide +kernel
theorem dL_law_264 : decode cL_law 264 = .ok (.iaload, 1) := by decide +kernel
theorem dL_law_265 : decode cL_law 265 = .ok (.aload_n 0, 1) := by decide +kernel
theorem dL_law_266 : decode cL_law 266 = .ok (.iload_n 3, 1) := by decide +kernel
theorem dL_law_267 : decode cL_law 267 = .ok (.iconst 2, 1) := by decide +kernel
theorem dL_law_268 : decode cL_law 268 = .ok (.iadd, 1) := by decide +kernel
theorem dL_law_269 : decode cL_law 269 = .ok (.iaload, 1) := by decide +kernel
theorem dL_law_270 : decode cL_law 270 = .ok (.invokevirtual 27, 3) := by decide +kernel
theorem dL_law_273 : decode cL_law 273 = .ok (.aload_n 2, 1) := by decide +kernel
theorem dL_law_274 : decode cL_law 274 = .ok (.aload_n 0, 1) := by decide +kernel
theorem dL_law_275 : decode cL_law 275 = .ok (.iload_n 3, 1) := by decide +kernel
theorem dL_law_276 : decode cL_law 276 = .ok (.iconst 1, 1) := by decide +kernel
theorem dL_law_277 : decode cL_law 277 = .ok (.iadd, 1) := by decide +kernel
theorem dL_law_278 : decode cL_law 278 = .ok (.iaload, 1) := by decide +kernel
theorem dL_law_279 : decode cL_law 279 = .ok (.aload_n 0, 1) := by decide +kernel
theorem dL_law_280 : decode cL_law 280 = .ok (.iload_n 3, 1) := by decide +kernel
theorem dL_law_281 : decode cL_law 281 = .ok (.iconst 2, 1) := by decide +kernel
theorem dL_law_282 : decode cL_law 282 = .ok (.iadd, 1) := by decide +kernel
theorem dL_law_283 : decode cL_law 283 = .ok (.iaload, 1) := by decide +kernel
theorem dL_law_284 : decode cL_law 284 = .ok (.invokevirtual 30, 3) := by decide +kernel
theorem dL_law_287 : decode cL_law 287 = .ok (.if_icmp .eq 453, 3) := by decide +kernel
theorem dL_law_290 : decode cL_law 290 = .ok (.iconst 0, 1) := by decide +kernel
theorem dL_law_291 : decode cL_law 291 = .ok (.ireturn, 1) := by decide +kernel
theorem dL_law_292 : decode cL_law 292 = .ok (.aload_n 1, 1) := by decide +kernel
theorem dL_law_293 : decode cL_law 293 = .ok (.aload_n 0, 1) := by decide +kernel
theorem dL_law_294 : decode cL_law 294 = .ok (.iload_n 3, 1) := by decide +kernel
theorem dL_law_295 : decode cL_law 295 = .ok (.iconst 1, 1) := by decide +kernel
theorem dL_law_296 : decode cL_law 296 = .ok (.iadd, 1) := by decide +kernel
theorem dL_law_297 : decode cL_law 297 = .ok (.iaload, 1) := by decide +kernel
theorem dL_law_298 : decode cL_law 298 = .ok (.aload_n 0, 1) := by decide +kernel
theorem dL_law_299 : decode cL_law 299 = .ok (.iload_n 3, 1) := by decide +kernel
theorem dL_law_300 : decode cL_law 300 = .ok (.iconst 2, 1) := by decide +kernel
theorem dL_law_301 : decode cL_law 301 = .ok (.iadd, 1) := by decide +kernel
theorem dL_law_302 : decode cL_law 302 = .ok (.iaload, 1) := by decide +kernel
theorem dL_law_303 : decode cL_law 303 = .ok (.aload_n 0, 1) := by decide +kernel
theorem dL_law_304 : decode cL_law 304 = .ok (.iload_n 3, 1) := by decide +kernel
theorem dL_law_305 : decode cL_law 305 = .ok (.iconst 3, 1) := by decide +kernel
theorem dL_law_306 : decode cL_law 306 = .ok (.iadd, 1) := by decide +kernel
theorem dL_law_307 : decode cL_law 307 = .ok (.iaload, 1) := by decide +kernel
theorem dL_law_308 : decode cL_law 308 = .ok (.invokevirtual 31, 3) := by decide +kernel
theorem dL_law_311 : decode cL_law 311 = .ok (.aload_n 2, 1) := by decide +kernel
theorem dL_law_312 : decode cL_law 312 = .ok (.aload_n 0, 1) := by decide +kernel
theorem dL_law_313 : decode cL_law 313 = .ok (.iload_n 3, 1) := by decide +kernel
theorem dL_law_314 : decode cL_law 314 = .ok (.iconst 1, 1) := by decide +kernel
theorem dL_law_315 : decode cL_law 315 = .ok (.iadd, 1) := by decide +kernel
theorem dL_law_316 : decode cL_law 316 = .ok (.iaload, 1) := by decide +kernel
theorem dL_law_317 : decode cL_law 317 = .ok (.aload_n 0, 1) := by decide +kernel
theorem dL_law_318 : decode cL_law 318 = .ok (.iload_n 3, 1) := by decide +kernel
theorem dL_law_319 : decode cL_law 319 = .ok (.iconst 2, 1) := by decide +kernel
theorem dL_law_320 : decode cL_law 320 = .ok (.iadd, 1) := by decide +kernel
theorem dL_law_321 : decode cL_law 321 = .ok (.iaload, 1) := by decide +kernel
theorem dL_law_322 : decode cL_law 322 = .ok (.aload_n 0, 1) := by decide +kernel
theorem dL_law_323 : decode cL_law 323 = .ok (.iload_n 3, 1) := by decide +kernel
theorem dL_law_324 : decode cL_law 324 = .ok (.iconst 3, 1) := by decide +kernel
theorem dL_law_325 : decode cL_law 325 = .ok (.iadd, 1) := by decide +kernel
theorem dL_law_326 : decode cL_law 326 = .ok (.iaload, 1) := by decide +kernel
theorem dL_law_327 : decode cL_law 327 = .ok (.invokevirtual 35, 3) := by decide +kernel
theorem dL_law_330 : decode cL_law 330 = .ok (.if_icmp .eq 410, 3) := by decide +kernel
theorem dL_law_333 : decode cL_law 333 = .ok (.iconst 0, 1) := by decide +kernel
theorem dL_law_334 : decode cL_law 334 = .ok (.ireturn, 1) := by decide +kernel
theorem dL_law_335 : decode cL_law 335 = .ok (.aload_n 1, 1) := by decide +kernel
theorem dL_law_336 : decode cL_law 336 = .ok (.aload_n 0, 1) := by decide +kernel
theorem dL_law_337 : decode cL_law 337 = .ok (.iload_n 3, 1) := by decide +kernel
theorem dL_law_338 : decode cL_law 338 = .ok (.iconst 1, 1) := by decide +kernel
theorem dL_law_339 : decode cL_law 339 = .ok (.iadd, 1) := by decide +kernel
theorem dL_law_340 : decode cL_law 340 = .ok (.iaload, 1) := by decide +kernel
theorem dL_law_341 : decode cL_law 341 = .ok (.invokevirtual 36, 3) := by decide +kernel
theorem dL_law_344 : decode cL_law 344 = .ok (.aload_n 2, 1) := by decide +kernel
theorem dL_law_345 : decode cL_law 345 = .ok (.aload_n 0, 1) := by decide +kernel
theorem dL_law_346 : decode cL_law 346 = .ok (.iload_n 3, 1) := by decide +kernel
theorem dL_law_347 : decode cL_law 347 = .ok (.iconst 1, 1) := by decide +kernel
theorem dL_law_348 : decode cL_law 348 = .ok (.iadd, 1) := by decide +kernel
theorem dL_law_349 : decode cL_law 349 = .ok (.iaload, 1) := by decide +kernel
theorem dL_law_350 : decode cL_law 350 = .ok (.invokevirtual 40, 3) := by decide +kernel
theorem dL_law_353 : decode cL_law 353 = .ok (.if_icmp .eq 387, 3) := by decide +kernel
theorem dL_law_356 : decode cL_law 356 = .ok (.iconst 0, 1) := by decide +kernel
theorem dL_law_357 : decode cL_law 357 = .ok (.ireturn, 1) := by decide +kernel
theorem dL_law_358 : decode cL_law 358 = .ok (.aload_n 1, 1) := by decide +kernel
theorem dL_law_359 : decode cL_law 359 = .ok (.invokevirtual 41, 3) := by decide +kernel
theorem dL_law_362 : decode cL_law 362 = .ok (.aload_n 2, 1) := by decide +kernel
theorem dL_law_363 : decode cL_law 363 = .ok (.invokevirtual 45, 3) := by decide +kernel
theorem dL_law_366 : decode cL_law 366 = .ok (.if_icmp .eq 374, 3) := by decide +kernel
theorem dL_law_369 : decode cL_law 369 = .ok (.iconst 0, 1) := by decide +kernel
theorem dL_law_370 : decode cL_law 370 = .ok (.ireturn, 1) := by decide +kernel
theorem dL_law_371 : decode cL_law 371 = .ok (.aload_n 1, 1) := by decide +kernel
theorem dL_law_372 : decode cL_law 372 = .ok (.aload_n 0, 1) := by decide +kernel
theorem dL_law_373 : decode cL_law 373 = .ok (.iload_n 3, 1) := by decide +kernel
theorem dL_law_374 : decode cL_law 374 = .ok (.iconst 1, 1) := by decide +kernel
theorem dL_law_375 : decode cL_law 375 = .ok (.iadd, 1) := by decide +kernel
theorem dL_law_376 : decode cL_law 376 = .ok (.iaload, 1) := by decide +kernel
theorem dL_law_377 : decode cL_law 377 = .ok (.invokevirtual 46, 3) := by decide +kernel
theorem dL_law_380 : decode cL_law 380 = .ok (.aload_n 2, 1) := by decide +kernel
theorem dL_law_381 : decode cL_law 381 = .ok (.aload_n 0, 1) := by decide +kernel
theorem dL_law_382 : decode cL_law 382 = .ok (.iload_n 3, 1) := by decide +kernel
theorem dL_law_383 : decode cL_law 383 = .ok (.iconst 1, 1) := by decide +kernel
theorem dL_law_384 : decode cL_law 384 = .ok (.iadd, 1) := by decide +kernel
theorem dL_law_385 : decode cL_law 385 = .ok (.iaload, 1) := by decide +kernel
theorem dL_law_386 : decode cL_law 386 = .ok (.invokevirtual 49, 3) := by decide +kernel
theorem dL_law_389 : decode cL_law 389 = .ok (.if_icmp .eq 351, 3) := by decide +kernel
theorem dL_law_392 : decode cL_law 392 = .ok (.iconst 0, 1) := by decide +kernel
theorem dL_law_393 : decode cL_law 393 = .ok (.ireturn, 1) := by decide +kernel
theorem dL_law_394 : decode cL_law 394 = .ok (.aload_n 1, 1) := by decide +kernel
theorem dL_law_395 : decode cL_law 395 = .ok (.aload_n 0, 1) := by decide +kernel
theorem dL_law_396 : decode cL_law 396 = .ok (.iload_n 3, 1) := by decide +kernel
theorem dL_law_397 : decode cL_law 397 = .ok (.iconst 1, 1) := by decide +kernel
theorem dL_law_398 : decode cL_law 398 = .ok (.iadd, 1) := by decide +kernel
theorem dL_law_399 : decode cL_law 399 = .ok (.iaload, 1) := by decide +kernel
theorem dL_law_400 : decode cL_law 400 = .ok (.invokevirtual 50, 3) := by decide +kernel
theorem dL_law_403 : decode cL_law 403 = .ok (.aload_n 2, 1) := by decide +kernel
theorem dL_law_404 : decode cL_law 404 = .ok (.aload_n 0, 1) := by decide +kernel
theorem dL_law_405 : decode cL_law 405 = .ok (.iload_n 3, 1) := by decide +kernel
theorem dL_law_406 : decode cL_law 406 = .ok (.iconst 1, 1) := by decide +kernel
theorem dL_law_407 : decode cL_law 407 = .ok (.iadd, 1) := by decide +kernel
theorem dL_law_408 : decode cL_law 408 = .ok (.iaload, 1) := by decide +kernel
theorem dL_law_409 : decode cL_law 409 = .ok (.invokevirtual 54, 3) := by decide +kernel
theorem dL_law_412 : decode cL_law 412 = .ok (.lcmp, 1) := by decide +kernel
theorem dL_law_413 : decode cL_law 413 = .ok (.ifCond .eq 327, 3) := by decide +kernel
theorem dL_law_416 : decode cL_law 416 = .ok (.iconst 0, 1) := by decide +kernel
theorem dL_law_417 : decode cL_law 417 = .ok (.ireturn, 1) := by decide +kernel
theorem dL_law_418 : decode cL_law 418 = .ok (.aload_n 1, 1) := by decide +kernel
theorem dL_law_419 : decode cL_law 419 = .ok (.aload_n 0, 1) := by decide +kernel
theorem dL_law_420 : decode cL_law 420 = .ok (.iload_n 3, 1) := by decide +kernel
theorem dL_law_421 : decode cL_law 421 = .ok (.iconst 1, 1) := by decide +kernel
theorem dL_law_422 : decode cL_law 422 = .ok (.iadd, 1) := by decide +kernel
theorem dL_law_423 : decode cL_law 423 = .ok (.iaload, 1) := by decide +kernel
theorem dL_law_424 : decode cL_law 424 = .ok (.invokevirtual 55, 3) := by decide +kernel
theorem dL_law_427 : decode cL_law 427 = .ok (.aload_n 2, 1) := by decide +kernel
theorem dL_law_428 : decode cL_law 428 = .ok (.aload_n 0, 1) := by decide +kernel
theorem dL_law_429 : decode cL_law 429 = .ok (.iload_n 3, 1) := by decide +kernel
theorem dL_law_430 : decode cL_law 430 = .ok (.iconst 1, 1) := by decide +kernel
theorem dL_law_431 : decode cL_law 431 = .ok (.iadd, 1) := by decide +kernel
theorem dL_law_432 : decode cL_law 432 = .ok (.iaload, 1) := by decide +kernel
theorem dL_law_433 : decode cL_law 433 = .ok (.invokevirtual 58, 3) := by decide +kernel
theorem dL_law_436 : decode cL_law 436 = .ok (.if_icmp .eq 304, 3) := by decide +kernel
theorem dL_law_439 : decode cL_law 439 = .ok (.iconst 0, 1) := by decide +kernel
theorem dL_law_440 : decode cL_law 440 = .ok (.ireturn, 1) := by decide +kernel
theorem dL_law_441 : decode cL_law 441 = .ok (.aload_n 1, 1) := by decide +kernel
theorem dL_law_442 : decode cL_law 442 = .ok (.aload_n 0, 1) := by decide +kernel
theorem dL_law_443 : decode cL_law 443 = .ok (.iload_n 3, 1) := by decide +kernel
theorem dL_law_444 : decode cL_law 444 = .ok (.iconst 1, 1) := by decide +kernel
theorem dL_law_445 : decode cL_law 445 = .ok (.iadd, 1) := by decide +kernel
theorem dL_law_446 : decode cL_law 446 = .ok (.iaload, 1) := by decide +kernel
theorem dL_law_447 : decode cL_law 447 = .ok (.aload_n 0, 1) := by decide +kernel
theorem dL_law_448 : decode cL_law 448 = .ok (.iload_n 3, 1) := by decide +kernel
theorem dL_law_449 : decode cL_law 449 = .ok (.iconst 2, 1) := by decide +kernel
theorem dL_law_450 : decode cL_law 450 = .ok (.iadd, 1) := by decide +kernel
theorem dL_law_451 : decode cL_law 451 = .ok (.iaload, 1) := by decide +kernel
theorem dL_law_452 : decode cL_law 452 = .ok (.aload_n 0, 1) := by decide +kernel
theorem dL_law_453 : decode cL_law 453 = .ok (.iload_n 3, 1) := by decide +kernel
theorem dL_law_454 : decode cL_law 454 = .ok (.iconst 3, 1) := by decide +kernel
theorem dL_law_455 : decode cL_law 455 = .ok (.iadd, 1) := by decide +kernel
theorem dL_law_456 : decode cL_law 456 = .ok (.iaload, 1) := by decide +kernel
theorem dL_law_457 : decode cL_law 457 = .ok (.invokevirtual 59, 3) := by decide +kernel
theorem dL_law_460 : decode cL_law 460 = .ok (.aload_n 2, 1) := by decide +kernel
theorem dL_law_461 : decode cL_law 461 = .ok (.aload_n 0, 1) := by decide +kernel
theorem dL_law_462 : decode cL_law 462 = .ok (.iload_n 3, 1) := by decide +kernel
theorem dL_law_463 : decode cL_law 463 = .ok (.iconst 1, 1) := by decide +kernel
theorem dL_law_464 : decode cL_law 464 = .ok (.iadd, 1) := by decide +kernel
theorem dL_law_465 : decode cL_law 465 = .ok (.iaload, 1) := by decide +kernel
theorem dL_law_466 : decode cL_law 466 = .ok (.aload_n 0, 1) := by decide +kernel
theorem dL_law_467 : decode cL_law 467 = .ok (.iload_n 3, 1) := by decide +kernel
theorem dL_law_468 : decode cL_law 468 = .ok (.iconst 2, 1) := by decide +kernel
theorem dL_law_469 : decode cL_law 469 = .ok (.iadd, 1) := by decide +kernel
theorem dL_law_470 : decode cL_law 470 = .ok (.iaload, 1) := by decide +kernel
theorem dL_law_471 : decode cL_law 471 = .ok (.aload_n 0, 1) := by decide +kernel
theorem dL_law_472 : decode cL_law 472 = .ok (.iload_n 3, 1) := by decide +kernel
theorem dL_law_473 : decode cL_law 473 = .ok (.iconst 3, 1) := by decide +kernel
theorem dL_law_474 : decode cL_law 474 = .ok (.iadd, 1) := by decide +kernel
theorem dL_law_475 : decode cL_law 475 = .ok (.iaload, 1) := by decide +kernel
theorem dL_law_476 : decode cL_law 476 = .ok (.invokevirtual 62, 3) := by decide +kernel
theorem dL_law_479 : decode cL_law 479 = .ok (.if_icmp .eq 261, 3) := by decide +kernel
theorem dL_law_482 : decode cL_law 482 = .ok (.iconst 0, 1) := by decide +kernel
theorem dL_law_483 : decode cL_law 483 = .ok (.ireturn, 1) := by decide +kernel
theorem dL_law_484 : decode cL_law 484 = .ok (.aload_n 1, 1) := by decide +kernel
theorem dL_law_485 : decode cL_law 485 = .ok (.aload_n 0, 1) := by decide +kernel
theorem dL_law_486 : decode cL_law 486 = .ok (.iload_n 3, 1) := by decide +kernel
theorem dL_law_487 : decode cL_law 487 = .ok (.iconst 1, 1) := by decide +kernel
theorem dL_law_488 : decode cL_law 488 = .ok (.iadd, 1) := by decide +kernel
theorem dL_law_489 : decode cL_law 489 = .ok (.iaload, 1) := by decide +kernel
theorem dL_law_490 : decode cL_law 490 = .ok (.invokevirtual 63, 3) := by decide +kernel
theorem dL_law_493 : decode cL_law 493 = .ok (.aload_n 2, 1) := by decide +kernel
theorem dL_law_494 : decode cL_law 494 = .ok (.aload_n 0, 1) := by decide +kernel
theorem dL_law_495 : decode cL_law 495 = .ok (.iload_n 3, 1) := by decide +kernel
theorem dL_law_496 : decode cL_law 496 = .ok (.iconst 1, 1) := by decide +kernel
theorem dL_law_497 : decode cL_law 497 = .ok (.iadd, 1) := by decide +kernel
theorem dL_law_498 : decode cL_law 498 = .ok (.iaload, 1) := by decide +kernel
theorem dL_law_499 : decode cL_law 499 = .ok (.invokevirtual 66, 3) := by decide +kernel
theorem dL_law_502 : decode cL_law 502 = .ok (.if_icmp .eq 238, 3) := by decide +kernel
theorem dL_law_505 : decode cL_law 505 = .ok (.iconst 0, 1) := by decide +kernel
theorem dL_law_506 : decode cL_law 506 = .ok (.ireturn, 1) := by decide +kernel
theorem dL_law_507 : decode cL_law 507 = .ok (.aload_n 1, 1) := by decide +kernel
theorem dL_law_508 : decode cL_law 508 = .ok (.aload_n 0, 1) := by decide +kernel
theorem dL_law_509 : decode cL_law 509 = .ok (.iload_n 3, 1) := by decide +kernel
theorem dL_law_510 : decode cL_law 510 = .ok (.iconst 1, 1) := by decide +kernel
theorem dL_law_511 : decode cL_law 511 = .ok (.iadd, 1) := by decide +kernel
theorem dL_law_512 : decode cL_law 512 = .ok (.iaload, 1) := by decide +kernel
theorem dL_law_513 : decode cL_law 513 = .ok (.aload_n 0, 1) := by decide +kernel
theorem dL_law_514 : decode cL_law 514 = .ok (.iload_n 3, 1) := by decide +kernel
theorem dL_law_515 : decode cL_law 515 = .ok (.iconst 2, 1) := by decide +kernel
theorem dL_law_516 : decode cL_law 516 = .ok (.iadd, 1) := by decide +kernel
theorem dL_law_517 : decode cL_law 517 = .ok (.iaload, 1) := by decide +kernel
theorem dL_law_518 : decode cL_law 518 = .ok (.invokevirtual 67, 3) := by decide +kernel
theorem dL_law_521 : decode cL_law 521 = .ok (.aload_n 2, 1) := by decide +kernel
theorem dL_law_522 : decode cL_law 522 = .ok (.aload_n 0, 1) := by decide +kernel
theorem dL_law_523 : decode cL_law 523 = .ok (.iload_n 3, 1) := by decide +kernel
theorem dL_law_524 : decode cL_law 524 = .ok (.iconst 1, 1) := by decide +kernel
theorem dL_law_525 : decode cL_law 525 = .ok (.iadd, 1) := by decide +kernel
theorem dL_law_526 : decode cL_law 526 = .ok (.iaload, 1) := by decide +kernel
theorem dL_law_527 : decode cL_law 527 = .ok (.aload_n 0, 1) := by decide +kernel
theorem dL_law_528 : decode cL_law 528 = .ok (.iload_n 3, 1) := by decide +kernel
theorem dL_law_529 : decode cL_law 529 = .ok (.iconst 2, 1) := by decide +kernel
theorem dL_law_530 : decode cL_law 530 = .ok (.iadd, 1) := by decide +kernel
theorem dL_law_531 : decode cL_law 531 = .ok (.iaload, 1) := by decide +kernel
theorem dL_law_532 : decode cL_law 532 = .ok (.invokevirtual 70, 3) := by decide +kernel
theorem dL_law_535 : decode cL_law 535 = .ok (.if_icmp .eq 205, 3) := by decide +kernel
theorem dL_law_538 : decode cL_law 538 = .ok (.iconst 0, 1) := by decide +kernel
theorem dL_law_539 : decode cL_law 539 = .ok (.ireturn, 1) := by decide +kernel
theorem dL_law_540 : decode cL_law 540 = .ok (.aload_n 1, 1) := by decide +kernel
theorem dL_law_541 : decode cL_law 541 = .ok (.aload_n 0, 1) := by decide +kernel
theorem dL_law_542 : decode cL_law 542 = .ok (.iload_n 3, 1) := by decide +kernel
theorem dL_law_543 : decode cL_law 543 = .ok (.iconst 1, 1) := by decide +kernel
theorem dL_law_544 : decode cL_law 544 = .ok (.iadd, 1) := by decide +kernel
theorem dL_law_545 : decode cL_law 545 = .ok (.iaload, 1) := by decide +kernel
theorem dL_law_546 : decode cL_law 546 = .ok (.invokevirtual 71, 3) := by decide +kernel
theorem dL_law_549 : decode cL_law 549 = .ok (.aload_n 2, 1) := by decide +kernel
theorem dL_law_550 : decode cL_law 550 = .ok (.aload_n 0, 1) := by decide +kernel
theorem dL_law_551 : decode cL_law 551 = .ok (.iload_n 3, 1) := by decide +kernel
theorem dL_law_552 : decode cL_law 552 = .ok (.iconst 1, 1) := by decide +kernel
theorem dL_law_553 : decode cL_law 553 = .ok (.iadd, 1) := by decide +kernel
theorem dL_law_554 : decode cL_law 554 = .ok (.iaload, 1) := by decide +kernel
theorem dL_law_555 : decode cL_law 555 = .ok (.invokevirtual 74, 3) := by decide +kernel
theorem dL_law_558 : decode cL_law 558 = .ok (.if_icmp .eq 182, 3) := by decide +kernel
theorem dL_law_561 : decode cL_law 561 = .ok (.iconst 0, 1) := by decide +kernel
theorem dL_law_562 : decode cL_law 562 = .ok (.ireturn, 1) := by decide +kernel
theorem dL_law_563 : decode cL_law 563 = .ok (.aload_n 1, 1) := by decide +kernel
theorem dL_law_564 : decode cL_law 564 = .ok (.aload_n 0, 1) := by decide +kernel
theorem dL_law_565 : decode cL_law 565 = .ok (.iload_n 3, 1) := by decide +kernel
theorem dL_law_566 : decode cL_law 566 = .ok (.iconst 1, 1) := by decide +kernel
theorem dL_law_567 : decode cL_law 567 = .ok (.iadd, 1) := by decide +kernel
theorem dL_law_568 : decode cL_law 568 = .ok (.iaload, 1) := by decide +kernel
theorem dL_law_569 : decode cL_law 569 = .ok (.invokevirtual 75, 3) := by decide +kernel
theorem dL_law_572 : decode cL_law 572 = .ok (.aload_n 2, 1) := by decide +kernel
theorem dL_law_573 : decode cL_law 573 = .ok (.aload_n 0, 1) := by decide +kernel
theorem dL_law_574 : decode cL_law 574 = .ok (.iload_n 3, 1) := by decide +kernel
theorem dL_law_575 : decode cL_law 575 = .ok (.iconst 1, 1) := by decide +kernel
theorem dL_law_576 : decode cL_law 576 = .ok (.iadd, 1) := by decide +kernel
theorem dL_law_577 : decode cL_law 577 = .ok (.iaload, 1) := by decide +kernel
theorem dL_law_578 : decode cL_law 578 = .ok (.invokevirtual 78, 3) := by decide +kernel
theorem dL_law_581 : decode cL_law 581 = .ok (.if_icmp .eq 159, 3) := by decide +kernel
theorem dL_law_584 : decode cL_law 584 = .ok (.iconst 0, 1) := by decide +kernel
theorem dL_law_585 : decode cL_law 585 = .ok (.ireturn, 1) := by decide +kernel
theorem dL_law_586 : decode cL_law 586 = .ok (.aload_n 1, 1) := by decide +kernel
theorem dL_law_587 : decode cL_law 587 = .ok (.aload_n 0, 1) := by decide +kernel
theorem dL_law_588 : decode cL_law 588 = .ok (.iload_n 3, 1) := by decide +kernel
theorem dL_law_589 : decode cL_law 589 = .ok (.iconst 1, 1) := by decide +kernel
theorem dL_law_590 : decode cL_law 590 = .ok (.iadd, 1) := by decide +kernel
theorem dL_law_591 : decode cL_law 591 = .ok (.iaload, 1) := by decide +kernel
theorem dL_law_592 : decode cL_law 592 = .ok (.aload_n 0, 1) := by decide +kernel
theorem dL_law_593 : decode cL_law 593 = .ok (.iload_n 3, 1) := by decide +kernel
theorem dL_law_594 : decode cL_law 594 = .ok (.iconst 2, 1) := by decide +kernel
theorem dL_law_595 : decode cL_law 595 = .ok (.iadd, 1) := by decide +kernel
theorem dL_law_596 : decode cL_law 596 = .ok (.iaload, 1) := by decide +kernel
theorem dL_law_597 : decode cL_law 597 = .ok (.invokevirtual 79, 3) := by decide +kernel
theorem dL_law_600 : decode cL_law 600 = .ok (.aload_n 2, 1) := by decide +kernel
theorem dL_law_601 : decode cL_law 601 = .ok (.aload_n 0, 1) := by decide +kernel
theorem dL_law_602 : decode cL_law 602 = .ok (.iload_n 3, 1) := by decide +kernel
theorem dL_law_603 : decode cL_law 603 = .ok (.iconst 1, 1) := by decide +kernel
theorem dL_law_604 : decode cL_law 604 = .ok (.iadd, 1) := by decide +kernel
theorem dL_law_605 : decode cL_law 605 = .ok (.iaload, 1) := by decide +kernel
theorem dL_law_606 : decode cL_law 606 = .ok (.aload_n 0, 1) := by decide +kernel
theorem dL_law_607 : decode cL_law 607 = .ok (.iload_n 3, 1) := by decide +kernel
theorem dL_law_608 : decode cL_law 608 = .ok (.iconst 2, 1) := by decide +kernel
theorem dL_law_609 : decode cL_law 609 = .ok (.iadd, 1) := by decide +kernel
theorem dL_law_610 : decode cL_law 610 = .ok (.iaload, 1) := by decide +kernel
theorem dL_law_611 : decode cL_law 611 = .ok (.invokevirtual 82, 3) := by decide +kernel
theorem dL_law_614 : decode cL_law 614 = .ok (.if_icmp .eq 126, 3) := by decide +kernel
theorem dL_law_617 : decode cL_law 617 = .ok (.iconst 0, 1) := by decide +kernel
theorem dL_law_618 : decode cL_law 618 = .ok (.ireturn, 1) := by decide +kernel
theorem dL_law_619 : decode cL_law 619 = .ok (.aload_n 1, 1) := by decide +kernel
theorem dL_law_620 : decode cL_law 620 = .ok (.aload_n 0, 1) := by decide +kernel
theorem dL_law_621 : decode cL_law 621 = .ok (.iload_n 3, 1) := by decide +kernel
theorem dL_law_622 : decode cL_law 622 = .ok (.iconst 1, 1) := by decide +kernel
theorem dL_law_623 : decode cL_law 623 = .ok (.iadd, 1) := by decide +kernel
theorem dL_law_624 : decode cL_law 624 = .ok (.iaload, 1) := by decide +kernel
theorem dL_law_625 : decode cL_law 625 = .ok (.invokevirtual 83, 3) := by decide +kernel
theorem dL_law_628 : decode cL_law 628 = .ok (.aload_n 2, 1) := by decide +kernel
theorem dL_law_629 : decode cL_law 629 = .ok (.aload_n 0, 1) := by decide +kernel
theorem dL_law_630 : decode cL_law 630 = .ok (.iload_n 3, 1) := by decide +kernel
theorem dL_law_631 : decode cL_law 631 = .ok (.iconst 1, 1) := by decide +kernel
theorem dL_law_632 : decode cL_law 632 = .ok (.iadd, 1) := by decide +kernel
theorem dL_law_633 : decode cL_law 633 = .ok (.iaload, 1) := by decide +kernel
theorem dL_law_634 : decode cL_law 634 = .ok (.invokevirtual 86, 3) := by decide +kernel
theorem dL_law_637 : decode cL_law 637 = .ok (.if_icmp .eq 103, 3) := by decide +kernel
theorem dL_law_640 : decode cL_law 640 = .ok (.iconst 0, 1) := by decide +kernel
theorem dL_law_641 : decode cL_law 641 = .ok (.ireturn, 1) := by decide +kernel
theorem dL_law_642 : decode cL_law 642 = .ok (.aload_n 1, 1) := by decide +kernel
theorem dL_law_643 : decode cL_law 643 = .ok (.invokevirtual 87, 3) := by decide +kernel
theorem dL_law_646 : decode cL_law 646 = .ok (.aload_n 2, 1) := by decide +kernel
theorem dL_law_647 : decode cL_law 647 = .ok (.invokevirtual 90, 3) := by decide +kernel
theorem dL_law_650 : decode cL_law 650 = .ok (.if_icmp .eq 90, 3) := by decide +kernel
theorem dL_law_653 : decode cL_law 653 = .ok (.iconst 0, 1) := by decide +kernel
theorem dL_law_654 : decode cL_law 654 = .ok (.ireturn, 1) := by decide +kernel
theorem dL_law_655 : decode cL_law 655 = .ok (.aload_n 1, 1) := by decide +kernel
theorem dL_law_656 : decode cL_law 656 = .ok (.invokevirtual 91, 3) := by decide +kernel
theorem dL_law_659 : decode cL_law 659 = .ok (.aload_n 2, 1) := by decide +kernel
theorem dL_law_660 : decode cL_law 660 = .ok (.invokevirtual 94, 3) := by decide +kernel
theorem dL_law_663 : decode cL_law 663 = .ok (.if_icmp .eq 77, 3) := by decide +kernel
theorem dL_law_666 : decode cL_law 666 = .ok (.iconst 0, 1) := by decide +kernel
theorem dL_law_667 : decode cL_law 667 = .ok (.ireturn, 1) := by decide +kernel
theorem dL_law_668 : decode cL_law 668 = .ok (.aload_n 1, 1) := by decide +kernel
theorem dL_law_669 : decode cL_law 669 = .ok (.aload_n 0, 1) := by decide +kernel
theorem dL_law_670 : decode cL_law 670 = .ok (.iload_n 3, 1) := by decide +kernel
theorem dL_law_671 : decode cL_law 671 = .ok (.iconst 1, 1) := by decide +kernel
theorem dL_law_672 : decode cL_law 672 = .ok (.iadd, 1) := by decide +kernel
theorem dL_law_673 : decode cL_law 673 = .ok (.iaload, 1) := by decide +kernel
theorem dL_law_674 : decode cL_law 674 = .ok (.invokevirtual 95, 3) := by decide +kernel
theorem dL_law_677 : decode cL_law 677 = .ok (.aload_n 2, 1) := by decide +kernel
theorem dL_law_678 : decode cL_law 678 = .ok (.aload_n 0, 1) := by decide +kernel
theorem dL_law_679 : decode cL_law 679 = .ok (.iload_n 3, 1) := by decide +kernel
theorem dL_law_680 : decode cL_law 680 = .ok (.iconst 1, 1) := by decide +kernel
theorem dL_law_681 : decode cL_law 681 = .ok (.iadd, 1) := by decide +kernel
theorem dL_law_682 : decode cL_law 682 = .ok (.iaload, 1) := by decide +kernel
theorem dL_law_683 : decode cL_law 683 = .ok (.invokevirtual 98, 3) := by decide +kernel
theorem dL_law_686 : decode cL_law 686 = .ok (.if_icmp .eq 54, 3) := by decide +kernel
theorem dL_law_689 : decode cL_law 689 = .ok (.iconst 0, 1) := by decide +kernel
theorem dL_law_690 : decode cL_law 690 = .ok (.ireturn, 1) := by decide +kernel
theorem dL_law_691 : decode cL_law 691 = .ok (.aload_n 1, 1) := by decide +kernel
theorem dL_law_692 : decode cL_law 692 = .ok (.invokevirtual 99, 3) := by decide +kernel
theorem dL_law_695 : decode cL_law 695 = .ok (.aload_n 2, 1) := by decide +kernel
theorem dL_law_696 : decode cL_law 696 = .ok (.invokevirtual 102, 3) := by decide +kernel
theorem dL_law_699 : decode cL_law 699 = .ok (.if_icmp .eq 41, 3) := by decide +kernel
theorem dL_law_702 : decode cL_law 702 = .ok (.iconst 0, 1) := by decide +kernel
theorem dL_law_703 : decode cL_law 703 = .ok (.ireturn, 1) := by decide +kernel
theorem dL_law_704 : decode cL_law 704 = .ok (.aload_n 1, 1) := by decide +kernel
theorem dL_law_705 : decode cL_law 705 = .ok (.aload_n 0, 1) := by decide +kernel
theorem dL_law_706 : decode cL_law 706 = .ok (.iload_n 3, 1) := by decide +kernel
theorem dL_law_707 : decode cL_law 707 = .ok (.iconst 1, 1) := by decide +kernel
theorem dL_law_708 : decode cL_law 708 = .ok (.iadd, 1) := by decide +kernel
theorem dL_law_709 : decode cL_law 709 = .ok (.iaload, 1) := by decide +kernel
theorem dL_law_710 : decode cL_law 710 = .ok (.invokevirtual 103, 3) := by decide +kernel
theorem dL_law_713 : decode cL_law 713 = .ok (.aload_n 2, 1) := by decide +kernel
theorem dL_law_714 : decode cL_law 714 = .ok (.aload_n 0, 1) := by decide +kernel
theorem dL_law_715 : decode cL_law 715 = .ok (.iload_n 3, 1) := by decide +kernel
theorem dL_law_716 : decode cL_law 716 = .ok (.iconst 1, 1) := by decide +kernel
theorem dL_law_717 : decode cL_law 717 = .ok (.iadd, 1) := by decide +kernel
theorem dL_law_718 : decode cL_law 718 = .ok (.iaload, 1) := by decide +kernel
theorem dL_law_719 : decode cL_law 719 = .ok (.invokevirtual 106, 3) := by decide +kernel
theorem dL_law_722 : decode cL_law 722 = .ok (.if_icmp .eq 18, 3) := by decide +kernel
theorem dL_law_725 : decode cL_law 725 = .ok (.iconst 0, 1) := by decide +kernel
theorem dL_law_726 : decode cL_law 726 = .ok (.ireturn, 1) := by decide +kernel
theorem dL_law_727 : decode cL_law 727 = .ok (.aload_n 1, 1) := by decide +kernel
theorem dL_law_728 : decode cL_law 728 = .ok (.invokevirtual 107, 3) := by decide +kernel
theorem dL_law_731 : decode cL_law 731 = .ok (.aload_n 2, 1) := by decide +kernel
theorem dL_law_732 : decode cL_law 732 = .ok (.invokevirtual 110, 3) := by decide +kernel
theorem dL_law_735 : decode cL_law 735 = .ok (.if_icmp .eq 5, 3) := by decide +kernel
theorem dL_law_738 : decode cL_law 738 = .ok (.iconst 0, 1) := by decide +kernel
theorem dL_law_739 : decode cL_law 739 = .ok (.ireturn, 1) := by decide +kernel
theorem dL_law_740 : decode cL_law 740 = .ok (.iinc 3 5, 3) := by decide +kernel
theorem dL_law_743 : decode cL_law 743 = .ok (.goto (-725), 3) := by decide +kernel
theorem dL_law_746 : decode cL_law 746 = .ok (.iconst 1, 1) := by decide +kernel
theorem dL_law_747 : decode cL_law 747 = .ok (.ireturn, 1) := by decide +kernel
end
section
def GW : List Cond := lw_tbl.filter goodWord
theorem gw_of {w : Cond} (i : Nat) (h : lw_tbl[i]? = some w) (hg : goodWord w = true) : w ∈ GW := List.mem_filter.mpr ⟨List.mem_of_getElem? h, hg⟩
theorem gw_sub {ws : List Cond} (ps : List Nat) (hp : ws = ps.filterMap (fun i => lw_tbl[i]?)) (hg : ws.all goodWord = true) : ∀ w ∈ ws, w ∈ GW := by
  intro w hw
  have h1 := List.all_eq_true.mp hg w hw
  rw [hp] at hw
  obtain ⟨i, -, hi⟩ := List.mem_filterMap.mp hw
  exact gw_of i hi h1
theorem gw_tbl : ∀ w ∈ GW, w ∈ lw_tbl := fun w h => (List.mem_filter.mp h).1
theorem wl_0 : Cond.classLink RL 7 RX6 ∈ GW := gw_of 67 (by decide +kernel) rfl
theorem wl_1 : Cond.instantiable RX6 5 ∈ GW := gw_of 68 (by decide +kernel) rfl
theorem wl_2 : Cond.initialized RX6 ∈ GW := gw_of 56 (by decide +kernel) rfl
theorem wl_3 : Cond.classLink RL 10 RX7 ∈ GW := gw_of 660 (by decide +kernel) rfl
theorem wl_4 : Cond.instantiable RX7 17 ∈ GW := gw_of 661 (by decide +kernel) rfl
theorem wl_5 : Cond.initialized RX7 ∈ GW := gw_of 63 (by decide +kernel) rfl
theorem wl_6 : Cond.methodLink RL 9 yX6_init ∈ GW := gw_of 69 (by decide +kernel) rfl
theorem wl_7 : Cond.instanceMethod yX6_init ∈ GW := gw_of 70 (by decide +kernel) rfl
theorem wl_8 : Cond.code yX6_init cX6_init 2 none ∈ GW := gw_of 71 (by decide +kernel) rfl
theorem wl_9 : Cond.methodLink RX6 3 objectInit ∈ GW := gw_of 72 (by decide +kernel) rfl
theorem wl_10 : Cond.instanceMethod objectInit ∈ GW := gw_of 73 (by decide +kernel) rfl
theorem wl_11 : Cond.code objectInit ⟨#[0xb1]⟩ 1 none ∈ GW := gw_of 74 (by decide +kernel) rfl
theorem wl_12 : Cond.classLink RX6 9 RX5 ∈ GW := gw_of 75 (by decide +kernel) rfl
theorem wl_13 : Cond.instantiable RX5 11 ∈ GW := gw_of 76 (by decide +kernel) rfl
theorem wl_14 : Cond.initialized RX5 ∈ GW := gw_of 57 (by decide +kernel) rfl
theorem wl_15 : Cond.fieldLink RX6 12 "IceTongue" "trial" "LIceTongue$Tongue;" ∈ GW := gw_of 281 (by decide +kernel) rfl
theorem wl_16 : Cond.fieldLink RX6 16 "IceTongue" "history" "[LIceTongue$Tongue;" ∈ GW := gw_of 282 (by decide +kernel) rfl
theorem wl_17 : Cond.classLink RX6 20 RX4 ∈ GW := gw_of 266 (by decide +kernel) rfl
theorem wl_18 : Cond.instantiable RX4 2 ∈ GW := gw_of 267 (by decide +kernel) rfl
theorem wl_19 : Cond.initialized RX4 ∈ GW := gw_of 62 (by decide +kernel) rfl
theorem wl_20 : Cond.fieldLink RX6 23 "IceTongue" "text" "LIceTongue$Text;" ∈ GW := gw_of 283 (by decide +kernel) rfl
theorem wl_21 : Cond.fieldLink RX6 27 "IceTongue" "now" "LIceTongue$Tongue;" ∈ GW := gw_of 284 (by decide +kernel) rfl
theorem wl_22 : Cond.fieldLink RX6 30 "IceTongue" "states" "I" ∈ GW := gw_of 285 (by decide +kernel) rfl
theorem wl_23 : Cond.methodLink RX6 11 yX5_init ∈ GW := gw_of 77 (by decide +kernel) rfl
theorem wl_24 : Cond.instanceMethod yX5_init ∈ GW := gw_of 78 (by decide +kernel) rfl
theorem wl_25 : Cond.code yX5_init cX5_init 2 none ∈ GW := gw_of 79 (by decide +kernel) rfl
theorem wl_26 : Cond.methodLink RX5 3 objectInit ∈ GW := gw_of 80 (by decide +kernel) rfl
theorem wl_27 : Cond.methodLink RX5 13 ⟨"[I", "clone", "()Ljava/lang/Object;"⟩ ∈ GW := gw_of 83 (by decide +kernel) rfl
theorem wl_28 : Cond.sameMethod "[I" "java/lang/Object" "clone" "()Ljava/lang/Object;" ∈ GW := gw_of 84 (by decide +kernel) rfl
theorem wl_29 : Cond.native ⟨"java/lang/Object", "clone", "()Ljava/lang/Object;"⟩ ∈ GW := gw_of 85 (by decide +kernel) rfl
theorem wl_30 : Cond.instanceMethod ⟨"java/lang/Object", "clone", "()Ljava/lang/Object;"⟩ ∈ GW := gw_of 86 (by decide +kernel) rfl
theorem wl_31 : Cond.selects "[I" ⟨"[I", "clone", "()Ljava/lang/Object;"⟩ ⟨"java/lang/Object", "clone", "()Ljava/lang/Object;"⟩ ∈ GW := gw_of 87 (by decide +kernel) rfl
theorem wl_32 : Cond.classLink RX5 14 "[I" ∈ GW := gw_of 89 (by decide +kernel) rfl
theorem wl_33 : Cond.fieldLink RX5 18 "IceTongue$Tongue" "settings" "[I" ∈ GW := gw_of 220 (by decide +kernel) rfl
theorem wl_34 : Cond.classLink RX5 23 RX0 ∈ GW := gw_of 90 (by decide +kernel) rfl
theorem wl_35 : Cond.fieldLink RX5 25 "IceTongue$Tongue" "bands" "[LIceTongue$Band;" ∈ GW := gw_of 222 (by decide +kernel) rfl
theorem wl_36 : Cond.classLink RX5 29 RX3 ∈ GW := gw_of 92 (by decide +kernel) rfl
theorem wl_37 : Cond.fieldLink RX5 31 "IceTongue$Tongue" "stakes" "[LIceTongue$Stake;" ∈ GW := gw_of 224 (by decide +kernel) rfl
theorem wl_38 : Cond.classLink RX5 35 RX1 ∈ GW := gw_of 94 (by decide +kernel) rfl
theorem wl_39 : Cond.instantiable RX1 4 ∈ GW := gw_of 95 (by decide +kernel) rfl
theorem wl_40 : Cond.initialized RX1 ∈ GW := gw_of 58 (by decide +kernel) rfl
theorem wl_41 : Cond.fieldLink RX5 38 "IceTongue$Tongue" "front" "LIceTongue$Front;" ∈ GW := gw_of 226 (by decide +kernel) rfl
theorem wl_42 : Cond.fieldLink RX5 42 "IceTongue$Tongue" "bandCount" "I" ∈ GW := gw_of 228 (by decide +kernel) rfl
theorem wl_43 : Cond.fieldLink RX5 46 "IceTongue$Tongue" "stakeCount" "I" ∈ GW := gw_of 230 (by decide +kernel) rfl
theorem wl_44 : Cond.fieldLink RX5 49 "IceTongue$Tongue" "year" "I" ∈ GW := gw_of 232 (by decide +kernel) rfl
theorem wl_45 : Cond.fieldLink RX5 52 "IceTongue$Tongue" "added" "J" ∈ GW := gw_of 234 (by decide +kernel) rfl
theorem wl_46 : Cond.fieldLink RX5 56 "IceTongue$Tongue" "snowed" "J" ∈ GW := gw_of 236 (by decide +kernel) rfl
theorem wl_47 : Cond.fieldLink RX5 59 "IceTongue$Tongue" "melted" "J" ∈ GW := gw_of 238 (by decide +kernel) rfl
theorem wl_48 : Cond.fieldLink RX5 62 "IceTongue$Tongue" "calved" "J" ∈ GW := gw_of 240 (by decide +kernel) rfl
theorem wl_49 : Cond.instantiable RX0 7 ∈ GW := gw_of 119 (by decide +kernel) rfl
theorem wl_50 : Cond.initialized RX0 ∈ GW := gw_of 59 (by decide +kernel) rfl
theorem wl_51 : Cond.instantiable RX3 6 ∈ GW := gw_of 184 (by decide +kernel) rfl
theorem wl_52 : Cond.initialized RX3 ∈ GW := gw_of 61 (by decide +kernel) rfl
theorem wl_53 : Cond.instanceMethod yX1_init ∈ GW := gw_of 97 (by decide +kernel) rfl
theorem wl_54 : Cond.code yX1_init cX1_init 1 none ∈ GW := gw_of 98 (by decide +kernel) rfl
theorem wl_55 : Cond.methodLink RX1 1 objectInit ∈ GW := gw_of 99 (by decide +kernel) rfl
theorem wl_56 : Cond.fieldLink RX1 7 "IceTongue$Front" "ice" "I" ∈ GW := gw_of 100 (by decide +kernel) rfl
theorem wl_57 : Cond.fieldLink RX1 13 "IceTongue$Front" "rest" "I" ∈ GW := gw_of 103 (by decide +kernel) rfl
theorem wl_58 : Cond.fieldLink RX1 16 "IceTongue$Front" "pieces" "I" ∈ GW := gw_of 105 (by decide +kernel) rfl
theorem wl_59 : Cond.fieldLink RX1 19 "IceTongue$Front" "latestCalving" "I" ∈ GW := gw_of 107 (by decide +kernel) rfl
theorem wl_60 : Cond.instanceMethod yX0_init ∈ GW := gw_of 121 (by decide +kernel) rfl
theorem wl_61 : Cond.code yX0_init cX0_init 1 none ∈ GW := gw_of 122 (by decide +kernel) rfl
theorem wl_62 : Cond.methodLink RX0 1 objectInit ∈ GW := gw_of 123 (by decide +kernel) rfl
theorem wl_63 : Cond.classLink RX0 7 RX2 ∈ GW := gw_of 124 (by decide +kernel) rfl
theorem wl_64 : Cond.instantiable RX2 4 ∈ GW := gw_of 125 (by decide +kernel) rfl
theorem wl_65 : Cond.initialized RX2 ∈ GW := gw_of 60 (by decide +kernel) rfl
theorem wl_66 : Cond.fieldLink RX0 10 "IceTongue$Band" "layers" "LIceTongue$Layers;" ∈ GW := gw_of 149 (by decide +kernel) rfl
theorem wl_67 : Cond.fieldLink RX0 16 "IceTongue$Band" "height" "I" ∈ GW := gw_of 152 (by decide +kernel) rfl
theorem wl_68 : Cond.fieldLink RX0 20 "IceTongue$Band" "length" "I" ∈ GW := gw_of 155 (by decide +kernel) rfl
theorem wl_69 : Cond.fieldLink RX0 23 "IceTongue$Band" "creep" "I" ∈ GW := gw_of 158 (by decide +kernel) rfl
theorem wl_70 : Cond.fieldLink RX0 26 "IceTongue$Band" "melted" "I" ∈ GW := gw_of 160 (by decide +kernel) rfl
theorem wl_71 : Cond.fieldLink RX0 29 "IceTongue$Band" "gave" "I" ∈ GW := gw_of 163 (by decide +kernel) rfl
theorem wl_72 : Cond.fieldLink RX0 32 "IceTongue$Band" "got" "I" ∈ GW := gw_of 166 (by decide +kernel) rfl
theorem wl_73 : Cond.instanceMethod yX2_init ∈ GW := gw_of 127 (by decide +kernel) rfl
theorem wl_74 : Cond.code yX2_init cX2_init 1 none ∈ GW := gw_of 128 (by decide +kernel) rfl
theorem wl_75 : Cond.methodLink RX2 3 objectInit ∈ GW := gw_of 129 (by decide +kernel) rfl
theorem wl_76 : Cond.arrayClass .int ∈ GW := gw_of 118 (by decide +kernel) rfl
theorem wl_77 : Cond.fieldLink RX2 9 "IceTongue$Layers" "left" "[I" ∈ GW := gw_of 130 (by decide +kernel) rfl
theorem wl_78 : Cond.fieldLink RX2 15 "IceTongue$Layers" "ice" "I" ∈ GW := gw_of 131 (by decide +kernel) rfl
theorem wl_79 : Cond.fieldLink RX2 19 "IceTongue$Layers" "oldest" "I" ∈ GW := gw_of 135 (by decide +kernel) rfl
theorem wl_80 : Cond.fieldLink RX2 22 "IceTongue$Layers" "latest" "I" ∈ GW := gw_of 138 (by decide +kernel) rfl
theorem wl_81 : Cond.instanceMethod yX3_init ∈ GW := gw_of 186 (by decide +kernel) rfl
theorem wl_82 : Cond.code yX3_init cX3_init 1 none ∈ GW := gw_of 187 (by decide +kernel) rfl
theorem wl_83 : Cond.methodLink RX3 3 objectInit ∈ GW := gw_of 188 (by decide +kernel) rfl
theorem wl_84 : Cond.fieldLink RX3 9 "IceTongue$Stake" "band" "I" ∈ GW := gw_of 189 (by decide +kernel) rfl
theorem wl_85 : Cond.fieldLink RX3 15 "IceTongue$Stake" "place" "I" ∈ GW := gw_of 192 (by decide +kernel) rfl
theorem wl_86 : Cond.fieldLink RX3 18 "IceTongue$Stake" "depth" "I" ∈ GW := gw_of 195 (by decide +kernel) rfl
theorem wl_87 : Cond.fieldLink RX3 21 "IceTongue$Stake" "change" "I" ∈ GW := gw_of 198 (by decide +kernel) rfl
theorem wl_88 : Cond.fieldLink RX3 24 "IceTongue$Stake" "fate" "I" ∈ GW := gw_of 201 (by decide +kernel) rfl
theorem wl_89 : Cond.fieldLink RX3 27 "IceTongue$Stake" "years" "I" ∈ GW := gw_of 204 (by decide +kernel) rfl
theorem wl_90 : Cond.instanceMethod yX4_init ∈ GW := gw_of 269 (by decide +kernel) rfl
theorem wl_91 : Cond.code yX4_init cX4_init 1 none ∈ GW := gw_of 270 (by decide +kernel) rfl
theorem wl_92 : Cond.methodLink RX4 3 objectInit ∈ GW := gw_of 271 (by decide +kernel) rfl
theorem wl_93 : Cond.arrayClass .char ∈ GW := gw_of 280 (by decide +kernel) rfl
theorem wl_94 : Cond.fieldLink RX4 9 "IceTongue$Text" "signs" "[C" ∈ GW := gw_of 272 (by decide +kernel) rfl
theorem wl_95 : Cond.fieldLink RX4 15 "IceTongue$Text" "length" "I" ∈ GW := gw_of 273 (by decide +kernel) rfl
theorem wl_96 : Cond.methodLink RL 12 yX7_init ∈ GW := gw_of 662 (by decide +kernel) rfl
theorem wl_97 : Cond.instanceMethod yX7_init ∈ GW := gw_of 663 (by decide +kernel) rfl
theorem wl_98 : Cond.code yX7_init cX7_init 1 none ∈ GW := gw_of 664 (by decide +kernel) rfl
theorem wl_99 : Cond.methodLink RX7 1 objectInit ∈ GW := gw_of 665 (by decide +kernel) rfl
theorem wl_100 : Cond.fieldLink RX7 7 "IceTongueModel" "m" "[I" ∈ GW := gw_of 666 (by decide +kernel) rfl
theorem wl_101 : Cond.fieldLink RX7 13 "IceTongueModel" "ice" "[I" ∈ GW := gw_of 667 (by decide +kernel) rfl
theorem wl_102 : Cond.arrayClass .long ∈ GW := gw_of 718 (by decide +kernel) rfl
theorem wl_103 : Cond.fieldLink RX7 16 "IceTongueModel" "accounts" "[J" ∈ GW := gw_of 668 (by decide +kernel) rfl
theorem wl_104 : Cond.fieldLink RX7 20 "IceTongueModel" "spare" "[I" ∈ GW := gw_of 669 (by decide +kernel) rfl
theorem wl_105 : Cond.fieldLink RX7 23 "IceTongueModel" "spareIce" "[I" ∈ GW := gw_of 670 (by decide +kernel) rfl
theorem wl_106 : Cond.fieldLink RX7 26 "IceTongueModel" "spareAccounts" "[J" ∈ GW := gw_of 671 (by decide +kernel) rfl
theorem wl_107 : Cond.fieldLink RX7 29 "IceTongueModel" "saved" "[I" ∈ GW := gw_of 672 (by decide +kernel) rfl
theorem wl_108 : Cond.fieldLink RX7 32 "IceTongueModel" "savedIce" "[I" ∈ GW := gw_of 673 (by decide +kernel) rfl
theorem wl_109 : Cond.fieldLink RX7 35 "IceTongueModel" "savedIceToo" "[I" ∈ GW := gw_of 674 (by decide +kernel) rfl
theorem wl_110 : Cond.fieldLink RX7 38 "IceTongueModel" "savedAccounts" "[J" ∈ GW := gw_of 675 (by decide +kernel) rfl
theorem wl_111 : Cond.fieldLink RX7 41 "IceTongueModel" "text" "[I" ∈ GW := gw_of 677 (by decide +kernel) rfl
theorem wl_112 : Cond.methodLink RL 13 yX6_set ∈ GW := gw_of 297 (by decide +kernel) rfl
theorem wl_113 : Cond.instanceMethod yX6_set ∈ GW := gw_of 298 (by decide +kernel) rfl
theorem wl_114 : Cond.selects RX6 yX6_set yX6_set ∈ GW := gw_of 299 (by decide +kernel) rfl
theorem wl_115 : Cond.code yX6_set cX6_set 4 (some .int) ∈ GW := gw_of 300 (by decide +kernel) rfl
theorem wl_116 : Cond.constant RX6 38 (-2000000001) ∈ GW := gw_of 304 (by decide +kernel) rfl
theorem wl_117 : Cond.fieldLink RX6 39 "IceTongue" "LEAST_SETTING" "[I" ∈ GW := gw_of 305 (by decide +kernel) rfl
theorem wl_118 : Cond.fieldLink RX6 43 "IceTongue" "MOST_SETTING" "[I" ∈ GW := gw_of 307 (by decide +kernel) rfl
theorem wl_119 : Cond.fieldLink RX6 49 "IceTongue$Tongue" "settings" "[I" ∈ GW := gw_of 221 (by decide +kernel) rfl
theorem wl_120 : Cond.methodLink RX6 34 yX6_isWithin ∈ GW := gw_of 301 (by decide +kernel) rfl
theorem wl_121 : Cond.static yX6_isWithin ∈ GW := gw_of 302 (by decide +kernel) rfl
theorem wl_122 : Cond.code yX6_isWithin cX6_isWithin 3 (some .boolean) ∈ GW := gw_of 303 (by decide +kernel) rfl
theorem wl_123 : Cond.methodLink RX6 46 yX6_recordState ∈ GW := gw_of 309 (by decide +kernel) rfl
theorem wl_124 : Cond.instanceMethod yX6_recordState ∈ GW := gw_of 311 (by decide +kernel) rfl
theorem wl_125 : Cond.selects RX6 yX6_recordState yX6_recordState ∈ GW := gw_of 0 (by decide +kernel) rfl
theorem wl_126 : Cond.code yX6_recordState cX6_recordState 1 none ∈ GW := gw_of 312 (by decide +kernel) rfl
theorem wl_127 : Cond.methodLink RX6 242 yX6_dropOldestState ∈ GW := gw_of 313 (by decide +kernel) rfl
theorem wl_128 : Cond.instanceMethod yX6_dropOldestState ∈ GW := gw_of 315 (by decide +kernel) rfl
theorem wl_129 : Cond.selects RX6 yX6_dropOldestState yX6_dropOldestState ∈ GW := gw_of 1 (by decide +kernel) rfl
theorem wl_130 : Cond.code yX6_dropOldestState cX6_dropOldestState 3 none ∈ GW := gw_of 316 (by decide +kernel) rfl
theorem wl_131 : Cond.methodLink RX6 223 yX5_copyFrom ∈ GW := gw_of 317 (by decide +kernel) rfl
theorem wl_132 : Cond.instanceMethod yX5_copyFrom ∈ GW := gw_of 318 (by decide +kernel) rfl
theorem wl_133 : Cond.selects RX5 yX5_copyFrom yX5_copyFrom ∈ GW := gw_of 319 (by decide +kernel) rfl
theorem wl_134 : Cond.code yX5_copyFrom cX5_copyFrom 3 none ∈ GW := gw_of 320 (by decide +kernel) rfl
theorem wl_135 : Cond.methodLink RX5 67 arraycopyName ∈ GW := gw_of 321 (by decide +kernel) rfl
theorem wl_136 : Cond.native arraycopyName ∈ GW := gw_of 323 (by decide +kernel) rfl
theorem wl_137 : Cond.static arraycopyName ∈ GW := gw_of 322 (by decide +kernel) rfl
theorem wl_138 : Cond.initialized "java/lang/System" ∈ GW := gw_of 64 (by decide +kernel) rfl
theorem wl_139 : Cond.methodLink RX5 73 yX0_copyFrom ∈ GW := gw_of 324 (by decide +kernel) rfl
theorem wl_140 : Cond.instanceMethod yX0_copyFrom ∈ GW := gw_of 325 (by decide +kernel) rfl
theorem wl_141 : Cond.selects RX0 yX0_copyFrom yX0_copyFrom ∈ GW := gw_of 326 (by decide +kernel) rfl
theorem wl_142 : Cond.code yX0_copyFrom cX0_copyFrom 2 none ∈ GW := gw_of 327 (by decide +kernel) rfl
theorem wl_143 : Cond.methodLink RX0 38 yX2_copyFrom ∈ GW := gw_of 328 (by decide +kernel) rfl
theorem wl_144 : Cond.instanceMethod yX2_copyFrom ∈ GW := gw_of 329 (by decide +kernel) rfl
theorem wl_145 : Cond.selects RX2 yX2_copyFrom yX2_copyFrom ∈ GW := gw_of 330 (by decide +kernel) rfl
theorem wl_146 : Cond.code yX2_copyFrom cX2_copyFrom 2 none ∈ GW := gw_of 331 (by decide +kernel) rfl
theorem wl_147 : Cond.methodLink RX2 25 arraycopyName ∈ GW := gw_of 332 (by decide +kernel) rfl
theorem wl_148 : Cond.methodLink RX5 77 yX3_copyFrom ∈ GW := gw_of 333 (by decide +kernel) rfl
theorem wl_149 : Cond.instanceMethod yX3_copyFrom ∈ GW := gw_of 334 (by decide +kernel) rfl
theorem wl_150 : Cond.selects RX3 yX3_copyFrom yX3_copyFrom ∈ GW := gw_of 335 (by decide +kernel) rfl
theorem wl_151 : Cond.code yX3_copyFrom cX3_copyFrom 2 none ∈ GW := gw_of 336 (by decide +kernel) rfl
theorem wl_152 : Cond.methodLink RX5 80 yX1_copyFrom ∈ GW := gw_of 337 (by decide +kernel) rfl
theorem wl_153 : Cond.instanceMethod yX1_copyFrom ∈ GW := gw_of 338 (by decide +kernel) rfl
theorem wl_154 : Cond.selects RX1 yX1_copyFrom yX1_copyFrom ∈ GW := gw_of 339 (by decide +kernel) rfl
theorem wl_155 : Cond.code yX1_copyFrom cX1_copyFrom 2 none ∈ GW := gw_of 340 (by decide +kernel) rfl
theorem wl_156 : Cond.methodLink RL 17 yX7_set ∈ GW := gw_of 728 (by decide +kernel) rfl
theorem wl_157 : Cond.instanceMethod yX7_set ∈ GW := gw_of 729 (by decide +kernel) rfl
theorem wl_158 : Cond.selects RX7 yX7_set yX7_set ∈ GW := gw_of 730 (by decide +kernel) rfl
theorem wl_159 : Cond.code yX7_set cX7_set 4 (some .int) ∈ GW := gw_of 731 (by decide +kernel) rfl
theorem wl_160 : Cond.constant RX7 69 (-2000000001) ∈ GW := gw_of 739 (by decide +kernel) rfl
theorem wl_161 : Cond.methodLink RX7 65 yX7_isSetting ∈ GW := gw_of 732 (by decide +kernel) rfl
theorem wl_162 : Cond.static yX7_isSetting ∈ GW := gw_of 733 (by decide +kernel) rfl
theorem wl_163 : Cond.code yX7_isSetting cX7_isSetting 2 (some .boolean) ∈ GW := gw_of 734 (by decide +kernel) rfl
theorem wl_164 : Cond.constant RX7 64 (1000000) ∈ GW := gw_of 738 (by decide +kernel) rfl
theorem wl_165 : Cond.methodLink RX7 60 yX7_in ∈ GW := gw_of 735 (by decide +kernel) rfl
theorem wl_166 : Cond.static yX7_in ∈ GW := gw_of 736 (by decide +kernel) rfl
theorem wl_167 : Cond.code yX7_in cX7_in 3 (some .boolean) ∈ GW := gw_of 737 (by decide +kernel) rfl
theorem wl_168 : Cond.methodLink RX7 70 yX7_keep ∈ GW := gw_of 740 (by decide +kernel) rfl
theorem wl_169 : Cond.instanceMethod yX7_keep ∈ GW := gw_of 742 (by decide +kernel) rfl
theorem wl_170 : Cond.selects RX7 yX7_keep yX7_keep ∈ GW := gw_of 16 (by decide +kernel) rfl
theorem wl_171 : Cond.code yX7_keep cX7_keep 2 none ∈ GW := gw_of 743 (by decide +kernel) rfl
theorem wl_172 : Cond.fieldLink RX7 52 "IceTongueModel" "savedCount" "I" ∈ GW := gw_of 676 (by decide +kernel) rfl
theorem wl_173 : Cond.methodLink RX7 56 yX7_dropOldest ∈ GW := gw_of 744 (by decide +kernel) rfl
theorem wl_174 : Cond.instanceMethod yX7_dropOldest ∈ GW := gw_of 746 (by decide +kernel) rfl
theorem wl_175 : Cond.selects RX7 yX7_dropOldest yX7_dropOldest ∈ GW := gw_of 17 (by decide +kernel) rfl
theorem wl_176 : Cond.code yX7_dropOldest cX7_dropOldest 3 none ∈ GW := gw_of 747 (by decide +kernel) rfl
theorem wl_177 : Cond.methodLink RX7 44 yX7_keptIce ∈ GW := gw_of 724 (by decide +kernel) rfl
theorem wl_178 : Cond.instanceMethod yX7_keptIce ∈ GW := gw_of 726 (by decide +kernel) rfl
theorem wl_179 : Cond.selects RX7 yX7_keptIce yX7_keptIce ∈ GW := gw_of 15 (by decide +kernel) rfl
theorem wl_180 : Cond.code yX7_keptIce cX7_keptIce 3 (some .int) ∈ GW := gw_of 727 (by decide +kernel) rfl
theorem wl_181 : Cond.methodLink RX7 48 yX7_keepIce ∈ GW := gw_of 748 (by decide +kernel) rfl
theorem wl_182 : Cond.instanceMethod yX7_keepIce ∈ GW := gw_of 750 (by decide +kernel) rfl
theorem wl_183 : Cond.selects RX7 yX7_keepIce yX7_keepIce ∈ GW := gw_of 18 (by decide +kernel) rfl
theorem wl_184 : Cond.code yX7_keepIce cX7_keepIce 4 none ∈ GW := gw_of 751 (by decide +kernel) rfl
theorem wl_185 : Cond.methodLink RL 18 yX6_band ∈ GW := gw_of 341 (by decide +kernel) rfl
theorem wl_186 : Cond.instanceMethod yX6_band ∈ GW := gw_of 342 (by decide +kernel) rfl
theorem wl_187 : Cond.selects RX6 yX6_band yX6_band ∈ GW := gw_of 343 (by decide +kernel) rfl
theorem wl_188 : Cond.code yX6_band cX6_band 5 (some .int) ∈ GW := gw_of 344 (by decide +kernel) rfl
theorem wl_189 : Cond.constant RX6 52 (1000000) ∈ GW := gw_of 345 (by decide +kernel) rfl
theorem wl_190 : Cond.constant RX6 57 (-2000000002) ∈ GW := gw_of 350 (by decide +kernel) rfl
theorem wl_191 : Cond.fieldLink RX6 58 "IceTongue$Tongue" "bandCount" "I" ∈ GW := gw_of 229 (by decide +kernel) rfl
theorem wl_192 : Cond.constant RX6 61 (-2000000003) ∈ GW := gw_of 351 (by decide +kernel) rfl
theorem wl_193 : Cond.methodLink RX6 53 yX5_isBelowAll ∈ GW := gw_of 346 (by decide +kernel) rfl
theorem wl_194 : Cond.instanceMethod yX5_isBelowAll ∈ GW := gw_of 347 (by decide +kernel) rfl
theorem wl_195 : Cond.selects RX5 yX5_isBelowAll yX5_isBelowAll ∈ GW := gw_of 348 (by decide +kernel) rfl
theorem wl_196 : Cond.code yX5_isBelowAll cX5_isBelowAll 2 (some .boolean) ∈ GW := gw_of 349 (by decide +kernel) rfl
theorem wl_197 : Cond.fieldLink RX5 83 "IceTongue$Band" "height" "I" ∈ GW := gw_of 153 (by decide +kernel) rfl
theorem wl_198 : Cond.methodLink RX6 62 yX5_addBand ∈ GW := gw_of 352 (by decide +kernel) rfl
theorem wl_199 : Cond.instanceMethod yX5_addBand ∈ GW := gw_of 353 (by decide +kernel) rfl
theorem wl_200 : Cond.selects RX5 yX5_addBand yX5_addBand ∈ GW := gw_of 354 (by decide +kernel) rfl
theorem wl_201 : Cond.code yX5_addBand cX5_addBand 6 (some .int) ∈ GW := gw_of 355 (by decide +kernel) rfl
theorem wl_202 : Cond.fieldLink RX5 90 "IceTongue$Band" "layers" "LIceTongue$Layers;" ∈ GW := gw_of 151 (by decide +kernel) rfl
theorem wl_203 : Cond.methodLink RX5 86 yX0_begin ∈ GW := gw_of 356 (by decide +kernel) rfl
theorem wl_204 : Cond.instanceMethod yX0_begin ∈ GW := gw_of 357 (by decide +kernel) rfl
theorem wl_205 : Cond.selects RX0 yX0_begin yX0_begin ∈ GW := gw_of 358 (by decide +kernel) rfl
theorem wl_206 : Cond.code yX0_begin cX0_begin 4 none ∈ GW := gw_of 359 (by decide +kernel) rfl
theorem wl_207 : Cond.methodLink RX0 35 yX2_empty ∈ GW := gw_of 360 (by decide +kernel) rfl
theorem wl_208 : Cond.instanceMethod yX2_empty ∈ GW := gw_of 361 (by decide +kernel) rfl
theorem wl_209 : Cond.selects RX2 yX2_empty yX2_empty ∈ GW := gw_of 362 (by decide +kernel) rfl
theorem wl_210 : Cond.code yX2_empty cX2_empty 1 none ∈ GW := gw_of 363 (by decide +kernel) rfl
theorem wl_211 : Cond.methodLink RX2 31 yJ7_fill_53178 ∈ GW := gw_of 364 (by decide +kernel) rfl
theorem wl_212 : Cond.static yJ7_fill_53178 ∈ GW := gw_of 365 (by decide +kernel) rfl
theorem wl_213 : Cond.initialized RJ7 ∈ GW := gw_of 65 (by decide +kernel) rfl
theorem wl_214 : Cond.code yJ7_fill_53178 cJ7_fill_53178 4 none ∈ GW := gw_of 366 (by decide +kernel) rfl
theorem wl_215 : Cond.methodLink RX2 37 yX2_narrow ∈ GW := gw_of 367 (by decide +kernel) rfl
theorem wl_216 : Cond.instanceMethod yX2_narrow ∈ GW := gw_of 369 (by decide +kernel) rfl
theorem wl_217 : Cond.selects RX2 yX2_narrow yX2_narrow ∈ GW := gw_of 2 (by decide +kernel) rfl
theorem wl_218 : Cond.code yX2_narrow cX2_narrow 1 none ∈ GW := gw_of 370 (by decide +kernel) rfl
theorem wl_219 : Cond.methodLink RX2 56 yX2_leftOf ∈ GW := gw_of 371 (by decide +kernel) rfl
theorem wl_220 : Cond.instanceMethod yX2_leftOf ∈ GW := gw_of 372 (by decide +kernel) rfl
theorem wl_221 : Cond.selects RX2 yX2_leftOf yX2_leftOf ∈ GW := gw_of 373 (by decide +kernel) rfl
theorem wl_222 : Cond.code yX2_leftOf cX2_leftOf 2 (some .int) ∈ GW := gw_of 374 (by decide +kernel) rfl
theorem wl_223 : Cond.methodLink RX5 94 yX2_add ∈ GW := gw_of 375 (by decide +kernel) rfl
theorem wl_224 : Cond.instanceMethod yX2_add ∈ GW := gw_of 376 (by decide +kernel) rfl
theorem wl_225 : Cond.selects RX2 yX2_add yX2_add ∈ GW := gw_of 377 (by decide +kernel) rfl
theorem wl_226 : Cond.code yX2_add cX2_add 3 none ∈ GW := gw_of 378 (by decide +kernel) rfl
theorem wl_227 : Cond.methodLink RX2 40 Lib.Math.min.name ∈ GW := gw_of 379 (by decide +kernel) rfl
theorem wl_228 : Cond.static Lib.Math.min.name ∈ GW := gw_of 380 (by decide +kernel) rfl
theorem wl_229 : Cond.initialized "java/lang/Math" ∈ GW := gw_of 66 (by decide +kernel) rfl
theorem wl_230 : Cond.code Lib.Math.min.name Lib.Math.min.code 2 (some .int) ∈ GW := gw_of 381 (by decide +kernel) rfl
theorem wl_231 : Cond.methodLink RX2 46 Lib.Math.max.name ∈ GW := gw_of 382 (by decide +kernel) rfl
theorem wl_232 : Cond.static Lib.Math.max.name ∈ GW := gw_of 383 (by decide +kernel) rfl
theorem wl_233 : Cond.code Lib.Math.max.name Lib.Math.max.code 2 (some .int) ∈ GW := gw_of 384 (by decide +kernel) rfl
theorem wl_234 : Cond.methodLink RL 22 yX7_band ∈ GW := gw_of 752 (by decide +kernel) rfl
theorem wl_235 : Cond.instanceMethod yX7_band ∈ GW := gw_of 753 (by decide +kernel) rfl
theorem wl_236 : Cond.selects RX7 yX7_band yX7_band ∈ GW := gw_of 754 (by decide +kernel) rfl
theorem wl_237 : Cond.code yX7_band cX7_band 6 (some .int) ∈ GW := gw_of 755 (by decide +kernel) rfl
theorem wl_238 : Cond.constant RX7 59 (-2000000002) ∈ GW := gw_of 723 (by decide +kernel) rfl
theorem wl_239 : Cond.constant RX7 76 (-2000000003) ∈ GW := gw_of 760 (by decide +kernel) rfl
theorem wl_240 : Cond.methodLink RX7 73 yX7_of ∈ GW := gw_of 756 (by decide +kernel) rfl
theorem wl_241 : Cond.instanceMethod yX7_of ∈ GW := gw_of 758 (by decide +kernel) rfl
theorem wl_242 : Cond.selects RX7 yX7_of yX7_of ∈ GW := gw_of 19 (by decide +kernel) rfl
theorem wl_243 : Cond.code yX7_of cX7_of 3 (some .int) ∈ GW := gw_of 759 (by decide +kernel) rfl
theorem wl_244 : Cond.methodLink RX7 77 yX7_put ∈ GW := gw_of 761 (by decide +kernel) rfl
theorem wl_245 : Cond.instanceMethod yX7_put ∈ GW := gw_of 763 (by decide +kernel) rfl
theorem wl_246 : Cond.selects RX7 yX7_put yX7_put ∈ GW := gw_of 20 (by decide +kernel) rfl
theorem wl_247 : Cond.code yX7_put cX7_put 4 none ∈ GW := gw_of 764 (by decide +kernel) rfl
theorem wl_248 : Cond.methodLink RX7 80 yX7_lay ∈ GW := gw_of 765 (by decide +kernel) rfl
theorem wl_249 : Cond.instanceMethod yX7_lay ∈ GW := gw_of 767 (by decide +kernel) rfl
theorem wl_250 : Cond.selects RX7 yX7_lay yX7_lay ∈ GW := gw_of 21 (by decide +kernel) rfl
theorem wl_251 : Cond.code yX7_lay cX7_lay 4 none ∈ GW := gw_of 768 (by decide +kernel) rfl
theorem wl_252 : Cond.methodLink RL 23 yX6_creep ∈ GW := gw_of 385 (by decide +kernel) rfl
theorem wl_253 : Cond.instanceMethod yX6_creep ∈ GW := gw_of 386 (by decide +kernel) rfl
theorem wl_254 : Cond.selects RX6 yX6_creep yX6_creep ∈ GW := gw_of 387 (by decide +kernel) rfl
theorem wl_255 : Cond.code yX6_creep cX6_creep 4 (some .int) ∈ GW := gw_of 388 (by decide +kernel) rfl
theorem wl_256 : Cond.fieldLink RX6 69 "IceTongue$Tongue" "bands" "[LIceTongue$Band;" ∈ GW := gw_of 223 (by decide +kernel) rfl
theorem wl_257 : Cond.fieldLink RX6 73 "IceTongue$Band" "creep" "I" ∈ GW := gw_of 159 (by decide +kernel) rfl
theorem wl_258 : Cond.methodLink RX6 66 yX5_hasBand ∈ GW := gw_of 389 (by decide +kernel) rfl
theorem wl_259 : Cond.instanceMethod yX5_hasBand ∈ GW := gw_of 390 (by decide +kernel) rfl
theorem wl_260 : Cond.selects RX5 yX5_hasBand yX5_hasBand ∈ GW := gw_of 391 (by decide +kernel) rfl
theorem wl_261 : Cond.code yX5_hasBand cX5_hasBand 2 (some .boolean) ∈ GW := gw_of 392 (by decide +kernel) rfl
theorem wl_262 : Cond.methodLink RL 26 yX7_creep ∈ GW := gw_of 769 (by decide +kernel) rfl
theorem wl_263 : Cond.instanceMethod yX7_creep ∈ GW := gw_of 770 (by decide +kernel) rfl
theorem wl_264 : Cond.selects RX7 yX7_creep yX7_creep ∈ GW := gw_of 771 (by decide +kernel) rfl
theorem wl_265 : Cond.code yX7_creep cX7_creep 4 (some .int) ∈ GW := gw_of 772 (by decide +kernel) rfl
theorem wl_266 : Cond.methodLink RX7 84 yX7_isBand ∈ GW := gw_of 773 (by decide +kernel) rfl
theorem wl_267 : Cond.instanceMethod yX7_isBand ∈ GW := gw_of 775 (by decide +kernel) rfl
theorem wl_268 : Cond.selects RX7 yX7_isBand yX7_isBand ∈ GW := gw_of 22 (by decide +kernel) rfl
theorem wl_269 : Cond.code yX7_isBand cX7_isBand 2 (some .boolean) ∈ GW := gw_of 776 (by decide +kernel) rfl
theorem wl_270 : Cond.methodLink RL 27 yX6_bandInfo ∈ GW := gw_of 393 (by decide +kernel) rfl
theorem wl_271 : Cond.instanceMethod yX6_bandInfo ∈ GW := gw_of 394 (by decide +kernel) rfl
theorem wl_272 : Cond.selects RX6 yX6_bandInfo yX6_bandInfo ∈ GW := gw_of 395 (by decide +kernel) rfl
theorem wl_273 : Cond.code yX6_bandInfo cX6_bandInfo 4 (some .int) ∈ GW := gw_of 396 (by decide +kernel) rfl
theorem wl_274 : Cond.fieldLink RX6 78 "IceTongue$Band" "height" "I" ∈ GW := gw_of 154 (by decide +kernel) rfl
theorem wl_275 : Cond.fieldLink RX6 81 "IceTongue$Band" "length" "I" ∈ GW := gw_of 156 (by decide +kernel) rfl
theorem wl_276 : Cond.fieldLink RX6 84 "IceTongue$Band" "layers" "LIceTongue$Layers;" ∈ GW := gw_of 150 (by decide +kernel) rfl
theorem wl_277 : Cond.fieldLink RX6 88 "IceTongue$Layers" "ice" "I" ∈ GW := gw_of 133 (by decide +kernel) rfl
theorem wl_278 : Cond.constant RX6 97 (-2000000004) ∈ GW := gw_of 401 (by decide +kernel) rfl
theorem wl_279 : Cond.fieldLink RX6 98 "IceTongue$Layers" "oldest" "I" ∈ GW := gw_of 136 (by decide +kernel) rfl
theorem wl_280 : Cond.fieldLink RX6 101 "IceTongue$Layers" "latest" "I" ∈ GW := gw_of 139 (by decide +kernel) rfl
theorem wl_281 : Cond.fieldLink RX6 112 "IceTongue$Band" "melted" "I" ∈ GW := gw_of 161 (by decide +kernel) rfl
theorem wl_282 : Cond.fieldLink RX6 115 "IceTongue$Band" "gave" "I" ∈ GW := gw_of 164 (by decide +kernel) rfl
theorem wl_283 : Cond.fieldLink RX6 118 "IceTongue$Band" "got" "I" ∈ GW := gw_of 167 (by decide +kernel) rfl
theorem wl_284 : Cond.methodLink RX6 93 yX2_number ∈ GW := gw_of 397 (by decide +kernel) rfl
theorem wl_285 : Cond.instanceMethod yX2_number ∈ GW := gw_of 398 (by decide +kernel) rfl
theorem wl_286 : Cond.selects RX2 yX2_number yX2_number ∈ GW := gw_of 399 (by decide +kernel) rfl
theorem wl_287 : Cond.code yX2_number cX2_number 3 (some .int) ∈ GW := gw_of 400 (by decide +kernel) rfl
theorem wl_288 : Cond.methodLink RX6 104 yX5_snowAt ∈ GW := gw_of 402 (by decide +kernel) rfl
theorem wl_289 : Cond.instanceMethod yX5_snowAt ∈ GW := gw_of 403 (by decide +kernel) rfl
theorem wl_290 : Cond.selects RX5 yX5_snowAt yX5_snowAt ∈ GW := gw_of 404 (by decide +kernel) rfl
theorem wl_291 : Cond.code yX5_snowAt cX5_snowAt 3 (some .int) ∈ GW := gw_of 405 (by decide +kernel) rfl
theorem wl_292 : Cond.methodLink RX5 119 Lib.Math.max.name ∈ GW := gw_of 409 (by decide +kernel) rfl
theorem wl_293 : Cond.methodLink RX5 113 yJ9_floorDiv_7cf53 ∈ GW := gw_of 406 (by decide +kernel) rfl
theorem wl_294 : Cond.static yJ9_floorDiv_7cf53 ∈ GW := gw_of 407 (by decide +kernel) rfl
theorem wl_295 : Cond.initialized RJ9 ∈ GW := gw_of 66 (by decide +kernel) rfl
theorem wl_296 : Cond.code yJ9_floorDiv_7cf53 cJ9_floorDiv_7cf53 3 (some .int) ∈ GW := gw_of 408 (by decide +kernel) rfl
theorem wl_297 : Cond.methodLink RX6 108 yX5_meltAt ∈ GW := gw_of 410 (by decide +kernel) rfl
theorem wl_298 : Cond.instanceMethod yX5_meltAt ∈ GW := gw_of 411 (by decide +kernel) rfl
theorem wl_299 : Cond.selects RX5 yX5_meltAt yX5_meltAt ∈ GW := gw_of 412 (by decide +kernel) rfl
theorem wl_300 : Cond.code yX5_meltAt cX5_meltAt 4 (some .int) ∈ GW := gw_of 413 (by decide +kernel) rfl
theorem wl_301 : Cond.methodLink RL 30 yX7_bandInfo ∈ GW := gw_of 777 (by decide +kernel) rfl
theorem wl_302 : Cond.instanceMethod yX7_bandInfo ∈ GW := gw_of 778 (by decide +kernel) rfl
theorem wl_303 : Cond.selects RX7 yX7_bandInfo yX7_bandInfo ∈ GW := gw_of 779 (by decide +kernel) rfl
theorem wl_304 : Cond.code yX7_bandInfo cX7_bandInfo 3 (some .int) ∈ GW := gw_of 780 (by decide +kernel) rfl
theorem wl_305 : Cond.methodLink RX7 112 yX7_infoOf ∈ GW := gw_of 781 (by decide +kernel) rfl
theorem wl_306 : Cond.instanceMethod yX7_infoOf ∈ GW := gw_of 783 (by decide +kernel) rfl
theorem wl_307 : Cond.selects RX7 yX7_infoOf yX7_infoOf ∈ GW := gw_of 23 (by decide +kernel) rfl
theorem wl_308 : Cond.code yX7_infoOf cX7_infoOf 3 (some .int) ∈ GW := gw_of 784 (by decide +kernel) rfl
theorem wl_309 : Cond.methodLink RX7 93 yX7_iceOf ∈ GW := gw_of 785 (by decide +kernel) rfl
theorem wl_310 : Cond.instanceMethod yX7_iceOf ∈ GW := gw_of 787 (by decide +kernel) rfl
theorem wl_311 : Cond.selects RX7 yX7_iceOf yX7_iceOf ∈ GW := gw_of 24 (by decide +kernel) rfl
theorem wl_312 : Cond.code yX7_iceOf cX7_iceOf 4 (some .int) ∈ GW := gw_of 788 (by decide +kernel) rfl
theorem wl_313 : Cond.methodLink RX7 97 yX7_layersOf ∈ GW := gw_of 789 (by decide +kernel) rfl
theorem wl_314 : Cond.instanceMethod yX7_layersOf ∈ GW := gw_of 791 (by decide +kernel) rfl
theorem wl_315 : Cond.selects RX7 yX7_layersOf yX7_layersOf ∈ GW := gw_of 25 (by decide +kernel) rfl
theorem wl_316 : Cond.code yX7_layersOf cX7_layersOf 4 (some .int) ∈ GW := gw_of 792 (by decide +kernel) rfl
theorem wl_317 : Cond.methodLink RX7 100 yX7_yearOf ∈ GW := gw_of 793 (by decide +kernel) rfl
theorem wl_318 : Cond.instanceMethod yX7_yearOf ∈ GW := gw_of 795 (by decide +kernel) rfl
theorem wl_319 : Cond.selects RX7 yX7_yearOf yX7_yearOf ∈ GW := gw_of 26 (by decide +kernel) rfl
theorem wl_320 : Cond.code yX7_yearOf cX7_yearOf 5 (some .int) ∈ GW := gw_of 796 (by decide +kernel) rfl
theorem wl_321 : Cond.methodLink RX7 103 yX7_found ∈ GW := gw_of 797 (by decide +kernel) rfl
theorem wl_322 : Cond.static yX7_found ∈ GW := gw_of 798 (by decide +kernel) rfl
theorem wl_323 : Cond.code yX7_found cX7_found 1 (some .int) ∈ GW := gw_of 799 (by decide +kernel) rfl
theorem wl_324 : Cond.constant RX7 92 (-2000000004) ∈ GW := gw_of 800 (by decide +kernel) rfl
theorem wl_325 : Cond.methodLink RX7 106 yX7_snowOf ∈ GW := gw_of 801 (by decide +kernel) rfl
theorem wl_326 : Cond.instanceMethod yX7_snowOf ∈ GW := gw_of 803 (by decide +kernel) rfl
theorem wl_327 : Cond.selects RX7 yX7_snowOf yX7_snowOf ∈ GW := gw_of 27 (by decide +kernel) rfl
theorem wl_328 : Cond.code yX7_snowOf cX7_snowOf 3 (some .int) ∈ GW := gw_of 804 (by decide +kernel) rfl
theorem wl_329 : Cond.methodLink RX7 88 yX7_floor ∈ GW := gw_of 805 (by decide +kernel) rfl
theorem wl_330 : Cond.static yX7_floor ∈ GW := gw_of 806 (by decide +kernel) rfl
theorem wl_331 : Cond.code yX7_floor cX7_floor 3 (some .int) ∈ GW := gw_of 807 (by decide +kernel) rfl
theorem wl_332 : Cond.methodLink RX7 109 yX7_meltOf ∈ GW := gw_of 808 (by decide +kernel) rfl
theorem wl_333 : Cond.instanceMethod yX7_meltOf ∈ GW := gw_of 810 (by decide +kernel) rfl
theorem wl_334 : Cond.selects RX7 yX7_meltOf yX7_meltOf ∈ GW := gw_of 28 (by decide +kernel) rfl
theorem wl_335 : Cond.code yX7_meltOf cX7_meltOf 3 (some .int) ∈ GW := gw_of 811 (by decide +kernel) rfl
theorem wl_336 : Cond.methodLink RL 31 yX6_layer ∈ GW := gw_of 414 (by decide +kernel) rfl
theorem wl_337 : Cond.instanceMethod yX6_layer ∈ GW := gw_of 415 (by decide +kernel) rfl
theorem wl_338 : Cond.selects RX6 yX6_layer yX6_layer ∈ GW := gw_of 416 (by decide +kernel) rfl
theorem wl_339 : Cond.code yX6_layer cX6_layer 6 (some .int) ∈ GW := gw_of 417 (by decide +kernel) rfl
theorem wl_340 : Cond.methodLink RX6 121 yX2_yearOfLayer ∈ GW := gw_of 418 (by decide +kernel) rfl
theorem wl_341 : Cond.instanceMethod yX2_yearOfLayer ∈ GW := gw_of 419 (by decide +kernel) rfl
theorem wl_342 : Cond.selects RX2 yX2_yearOfLayer yX2_yearOfLayer ∈ GW := gw_of 420 (by decide +kernel) rfl
theorem wl_343 : Cond.code yX2_yearOfLayer cX2_yearOfLayer 4 (some .int) ∈ GW := gw_of 421 (by decide +kernel) rfl
theorem wl_344 : Cond.methodLink RX6 124 yX2_leftOf ∈ GW := gw_of 422 (by decide +kernel) rfl
theorem wl_345 : Cond.methodLink RL 35 yX7_layer ∈ GW := gw_of 812 (by decide +kernel) rfl
theorem wl_346 : Cond.instanceMethod yX7_layer ∈ GW := gw_of 813 (by decide +kernel) rfl
theorem wl_347 : Cond.selects RX7 yX7_layer yX7_layer ∈ GW := gw_of 814 (by decide +kernel) rfl
theorem wl_348 : Cond.code yX7_layer cX7_layer 5 (some .int) ∈ GW := gw_of 815 (by decide +kernel) rfl
theorem wl_349 : Cond.methodLink RL 36 yX6_ofYear ∈ GW := gw_of 423 (by decide +kernel) rfl
theorem wl_350 : Cond.instanceMethod yX6_ofYear ∈ GW := gw_of 424 (by decide +kernel) rfl
theorem wl_351 : Cond.selects RX6 yX6_ofYear yX6_ofYear ∈ GW := gw_of 425 (by decide +kernel) rfl
theorem wl_352 : Cond.code yX6_ofYear cX6_ofYear 2 (some .int) ∈ GW := gw_of 426 (by decide +kernel) rfl
theorem wl_353 : Cond.methodLink RX6 127 yX5_leftOf ∈ GW := gw_of 427 (by decide +kernel) rfl
theorem wl_354 : Cond.instanceMethod yX5_leftOf ∈ GW := gw_of 428 (by decide +kernel) rfl
theorem wl_355 : Cond.selects RX5 yX5_leftOf yX5_leftOf ∈ GW := gw_of 429 (by decide +kernel) rfl
theorem wl_356 : Cond.code yX5_leftOf cX5_leftOf 4 (some .int) ∈ GW := gw_of 430 (by decide +kernel) rfl
theorem wl_357 : Cond.methodLink RX5 129 yX2_leftOf ∈ GW := gw_of 431 (by decide +kernel) rfl
theorem wl_358 : Cond.methodLink RL 40 yX7_ofYear ∈ GW := gw_of 816 (by decide +kernel) rfl
theorem wl_359 : Cond.instanceMethod yX7_ofYear ∈ GW := gw_of 817 (by decide +kernel) rfl
theorem wl_360 : Cond.selects RX7 yX7_ofYear yX7_ofYear ∈ GW := gw_of 818 (by decide +kernel) rfl
theorem wl_361 : Cond.code yX7_ofYear cX7_ofYear 2 (some .int) ∈ GW := gw_of 819 (by decide +kernel) rfl
theorem wl_362 : Cond.methodLink RX7 115 yX7_leftOf ∈ GW := gw_of 820 (by decide +kernel) rfl
theorem wl_363 : Cond.instanceMethod yX7_leftOf ∈ GW := gw_of 822 (by decide +kernel) rfl
theorem wl_364 : Cond.selects RX7 yX7_leftOf yX7_leftOf ∈ GW := gw_of 29 (by decide +kernel) rfl
theorem wl_365 : Cond.code yX7_leftOf cX7_leftOf 4 (some .int) ∈ GW := gw_of 823 (by decide +kernel) rfl
theorem wl_366 : Cond.methodLink RL 41 yX6_line ∈ GW := gw_of 432 (by decide +kernel) rfl
theorem wl_367 : Cond.instanceMethod yX6_line ∈ GW := gw_of 433 (by decide +kernel) rfl
theorem wl_368 : Cond.selects RX6 yX6_line yX6_line ∈ GW := gw_of 434 (by decide +kernel) rfl
theorem wl_369 : Cond.code yX6_line cX6_line 3 (some .int) ∈ GW := gw_of 435 (by decide +kernel) rfl
theorem wl_370 : Cond.methodLink RL 45 yX7_line ∈ GW := gw_of 824 (by decide +kernel) rfl
theorem wl_371 : Cond.instanceMethod yX7_line ∈ GW := gw_of 825 (by decide +kernel) rfl
theorem wl_372 : Cond.selects RX7 yX7_line yX7_line ∈ GW := gw_of 826 (by decide +kernel) rfl
theorem wl_373 : Cond.code yX7_line cX7_line 2 (some .int) ∈ GW := gw_of 827 (by decide +kernel) rfl
theorem wl_374 : Cond.methodLink RL 46 yX6_front ∈ GW := gw_of 436 (by decide +kernel) rfl
theorem wl_375 : Cond.instanceMethod yX6_front ∈ GW := gw_of 437 (by decide +kernel) rfl
theorem wl_376 : Cond.selects RX6 yX6_front yX6_front ∈ GW := gw_of 438 (by decide +kernel) rfl
theorem wl_377 : Cond.code yX6_front cX6_front 2 (some .int) ∈ GW := gw_of 439 (by decide +kernel) rfl
theorem wl_378 : Cond.fieldLink RX6 128 "IceTongue$Tongue" "front" "LIceTongue$Front;" ∈ GW := gw_of 227 (by decide +kernel) rfl
theorem wl_379 : Cond.fieldLink RX6 132 "IceTongue$Front" "ice" "I" ∈ GW := gw_of 101 (by decide +kernel) rfl
theorem wl_380 : Cond.fieldLink RX6 135 "IceTongue$Front" "rest" "I" ∈ GW := gw_of 104 (by decide +kernel) rfl
theorem wl_381 : Cond.fieldLink RX6 138 "IceTongue$Front" "pieces" "I" ∈ GW := gw_of 106 (by decide +kernel) rfl
theorem wl_382 : Cond.fieldLink RX6 141 "IceTongue$Front" "latestCalving" "I" ∈ GW := gw_of 108 (by decide +kernel) rfl
theorem wl_383 : Cond.methodLink RL 49 yX7_front ∈ GW := gw_of 828 (by decide +kernel) rfl
theorem wl_384 : Cond.instanceMethod yX7_front ∈ GW := gw_of 829 (by decide +kernel) rfl
theorem wl_385 : Cond.selects RX7 yX7_front yX7_front ∈ GW := gw_of 830 (by decide +kernel) rfl
theorem wl_386 : Cond.code yX7_front cX7_front 2 (some .int) ∈ GW := gw_of 831 (by decide +kernel) rfl
theorem wl_387 : Cond.methodLink RL 50 yX6_account ∈ GW := gw_of 440 (by decide +kernel) rfl
theorem wl_388 : Cond.instanceMethod yX6_account ∈ GW := gw_of 441 (by decide +kernel) rfl
theorem wl_389 : Cond.selects RX6 yX6_account yX6_account ∈ GW := gw_of 442 (by decide +kernel) rfl
theorem wl_390 : Cond.code yX6_account cX6_account 2 (some .long) ∈ GW := gw_of 443 (by decide +kernel) rfl
theorem wl_391 : Cond.constantLong RX6 144 (-2000000001) ∈ GW := gw_of 444 (by decide +kernel) rfl
theorem wl_392 : Cond.fieldLink RX6 146 "IceTongue$Tongue" "added" "J" ∈ GW := gw_of 235 (by decide +kernel) rfl
theorem wl_393 : Cond.fieldLink RX6 150 "IceTongue$Tongue" "snowed" "J" ∈ GW := gw_of 237 (by decide +kernel) rfl
theorem wl_394 : Cond.fieldLink RX6 153 "IceTongue$Tongue" "melted" "J" ∈ GW := gw_of 239 (by decide +kernel) rfl
theorem wl_395 : Cond.fieldLink RX6 155 "IceTongue$Tongue" "calved" "J" ∈ GW := gw_of 241 (by decide +kernel) rfl
theorem wl_396 : Cond.methodLink RX6 158 yX5_allIce ∈ GW := gw_of 445 (by decide +kernel) rfl
theorem wl_397 : Cond.instanceMethod yX5_allIce ∈ GW := gw_of 446 (by decide +kernel) rfl
theorem wl_398 : Cond.selects RX5 yX5_allIce yX5_allIce ∈ GW := gw_of 447 (by decide +kernel) rfl
theorem wl_399 : Cond.code yX5_allIce cX5_allIce 1 (some .long) ∈ GW := gw_of 448 (by decide +kernel) rfl
theorem wl_400 : Cond.fieldLink RX5 139 "IceTongue$Front" "ice" "I" ∈ GW := gw_of 102 (by decide +kernel) rfl
theorem wl_401 : Cond.methodLink RX5 135 yX5_bandIce ∈ GW := gw_of 449 (by decide +kernel) rfl
theorem wl_402 : Cond.instanceMethod yX5_bandIce ∈ GW := gw_of 450 (by decide +kernel) rfl
theorem wl_403 : Cond.selects RX5 yX5_bandIce yX5_bandIce ∈ GW := gw_of 451 (by decide +kernel) rfl
theorem wl_404 : Cond.code yX5_bandIce cX5_bandIce 3 (some .int) ∈ GW := gw_of 452 (by decide +kernel) rfl
theorem wl_405 : Cond.fieldLink RX5 132 "IceTongue$Layers" "ice" "I" ∈ GW := gw_of 134 (by decide +kernel) rfl
theorem wl_406 : Cond.methodLink RX6 162 yX5_allIceByYears ∈ GW := gw_of 453 (by decide +kernel) rfl
theorem wl_407 : Cond.instanceMethod yX5_allIceByYears ∈ GW := gw_of 454 (by decide +kernel) rfl
theorem wl_408 : Cond.selects RX5 yX5_allIceByYears yX5_allIceByYears ∈ GW := gw_of 455 (by decide +kernel) rfl
theorem wl_409 : Cond.code yX5_allIceByYears cX5_allIceByYears 4 (some .long) ∈ GW := gw_of 456 (by decide +kernel) rfl
theorem wl_410 : Cond.methodLink RX5 140 yX5_leftOf ∈ GW := gw_of 457 (by decide +kernel) rfl
theorem wl_411 : Cond.methodLink RL 54 yX7_account ∈ GW := gw_of 832 (by decide +kernel) rfl
theorem wl_412 : Cond.instanceMethod yX7_account ∈ GW := gw_of 833 (by decide +kernel) rfl
theorem wl_413 : Cond.selects RX7 yX7_account yX7_account ∈ GW := gw_of 834 (by decide +kernel) rfl
theorem wl_414 : Cond.code yX7_account cX7_account 2 (some .long) ∈ GW := gw_of 835 (by decide +kernel) rfl
theorem wl_415 : Cond.constantLong RX7 118 (-2000000001) ∈ GW := gw_of 836 (by decide +kernel) rfl
theorem wl_416 : Cond.methodLink RX7 120 yX7_allOfBands ∈ GW := gw_of 837 (by decide +kernel) rfl
theorem wl_417 : Cond.instanceMethod yX7_allOfBands ∈ GW := gw_of 839 (by decide +kernel) rfl
theorem wl_418 : Cond.selects RX7 yX7_allOfBands yX7_allOfBands ∈ GW := gw_of 30 (by decide +kernel) rfl
theorem wl_419 : Cond.code yX7_allOfBands cX7_allOfBands 3 (some .int) ∈ GW := gw_of 840 (by decide +kernel) rfl
theorem wl_420 : Cond.methodLink RX7 124 yX7_allByYears ∈ GW := gw_of 841 (by decide +kernel) rfl
theorem wl_421 : Cond.instanceMethod yX7_allByYears ∈ GW := gw_of 843 (by decide +kernel) rfl
theorem wl_422 : Cond.selects RX7 yX7_allByYears yX7_allByYears ∈ GW := gw_of 31 (by decide +kernel) rfl
theorem wl_423 : Cond.code yX7_allByYears cX7_allByYears 3 (some .int) ∈ GW := gw_of 844 (by decide +kernel) rfl
theorem wl_424 : Cond.methodLink RL 55 yX6_count ∈ GW := gw_of 458 (by decide +kernel) rfl
theorem wl_425 : Cond.instanceMethod yX6_count ∈ GW := gw_of 459 (by decide +kernel) rfl
theorem wl_426 : Cond.selects RX6 yX6_count yX6_count ∈ GW := gw_of 460 (by decide +kernel) rfl
theorem wl_427 : Cond.code yX6_count cX6_count 2 (some .int) ∈ GW := gw_of 461 (by decide +kernel) rfl
theorem wl_428 : Cond.fieldLink RX6 165 "IceTongue$Tongue" "year" "I" ∈ GW := gw_of 233 (by decide +kernel) rfl
theorem wl_429 : Cond.fieldLink RX6 168 "IceTongue$Tongue" "stakeCount" "I" ∈ GW := gw_of 231 (by decide +kernel) rfl
theorem wl_430 : Cond.fieldLink RX6 180 "IceTongue$Text" "length" "I" ∈ GW := gw_of 274 (by decide +kernel) rfl
theorem wl_431 : Cond.methodLink RX6 171 yX5_standingStakes ∈ GW := gw_of 462 (by decide +kernel) rfl
theorem wl_432 : Cond.instanceMethod yX5_standingStakes ∈ GW := gw_of 463 (by decide +kernel) rfl
theorem wl_433 : Cond.selects RX5 yX5_standingStakes yX5_standingStakes ∈ GW := gw_of 464 (by decide +kernel) rfl
theorem wl_434 : Cond.code yX5_standingStakes cX5_standingStakes 3 (some .int) ∈ GW := gw_of 465 (by decide +kernel) rfl
theorem wl_435 : Cond.fieldLink RX5 100 "IceTongue$Stake" "fate" "I" ∈ GW := gw_of 202 (by decide +kernel) rfl
theorem wl_436 : Cond.methodLink RX6 174 yX5_layersOfAllBands ∈ GW := gw_of 466 (by decide +kernel) rfl
theorem wl_437 : Cond.instanceMethod yX5_layersOfAllBands ∈ GW := gw_of 467 (by decide +kernel) rfl
theorem wl_438 : Cond.selects RX5 yX5_layersOfAllBands yX5_layersOfAllBands ∈ GW := gw_of 468 (by decide +kernel) rfl
theorem wl_439 : Cond.code yX5_layersOfAllBands cX5_layersOfAllBands 3 (some .int) ∈ GW := gw_of 469 (by decide +kernel) rfl
theorem wl_440 : Cond.methodLink RX5 141 yX2_number ∈ GW := gw_of 470 (by decide +kernel) rfl
theorem wl_441 : Cond.methodLink RX6 177 yX5_differentYears ∈ GW := gw_of 471 (by decide +kernel) rfl
theorem wl_442 : Cond.instanceMethod yX5_differentYears ∈ GW := gw_of 472 (by decide +kernel) rfl
theorem wl_443 : Cond.selects RX5 yX5_differentYears yX5_differentYears ∈ GW := gw_of 473 (by decide +kernel) rfl
theorem wl_444 : Cond.code yX5_differentYears cX5_differentYears 3 (some .int) ∈ GW := gw_of 474 (by decide +kernel) rfl
theorem wl_445 : Cond.methodLink RL 58 yX7_count ∈ GW := gw_of 845 (by decide +kernel) rfl
theorem wl_446 : Cond.instanceMethod yX7_count ∈ GW := gw_of 846 (by decide +kernel) rfl
theorem wl_447 : Cond.selects RX7 yX7_count yX7_count ∈ GW := gw_of 847 (by decide +kernel) rfl
theorem wl_448 : Cond.code yX7_count cX7_count 2 (some .int) ∈ GW := gw_of 848 (by decide +kernel) rfl
theorem wl_449 : Cond.fieldLink RX7 139 "IceTongueModel" "textLength" "I" ∈ GW := gw_of 678 (by decide +kernel) rfl
theorem wl_450 : Cond.methodLink RX7 130 yX7_standing ∈ GW := gw_of 849 (by decide +kernel) rfl
theorem wl_451 : Cond.instanceMethod yX7_standing ∈ GW := gw_of 851 (by decide +kernel) rfl
theorem wl_452 : Cond.selects RX7 yX7_standing yX7_standing ∈ GW := gw_of 32 (by decide +kernel) rfl
theorem wl_453 : Cond.code yX7_standing cX7_standing 3 (some .int) ∈ GW := gw_of 852 (by decide +kernel) rfl
theorem wl_454 : Cond.methodLink RX7 127 yX7_ofStake ∈ GW := gw_of 853 (by decide +kernel) rfl
theorem wl_455 : Cond.instanceMethod yX7_ofStake ∈ GW := gw_of 855 (by decide +kernel) rfl
theorem wl_456 : Cond.selects RX7 yX7_ofStake yX7_ofStake ∈ GW := gw_of 33 (by decide +kernel) rfl
theorem wl_457 : Cond.code yX7_ofStake cX7_ofStake 3 (some .int) ∈ GW := gw_of 856 (by decide +kernel) rfl
theorem wl_458 : Cond.methodLink RX7 133 yX7_allLayers ∈ GW := gw_of 857 (by decide +kernel) rfl
theorem wl_459 : Cond.instanceMethod yX7_allLayers ∈ GW := gw_of 859 (by decide +kernel) rfl
theorem wl_460 : Cond.selects RX7 yX7_allLayers yX7_allLayers ∈ GW := gw_of 34 (by decide +kernel) rfl
theorem wl_461 : Cond.code yX7_allLayers cX7_allLayers 3 (some .int) ∈ GW := gw_of 860 (by decide +kernel) rfl
theorem wl_462 : Cond.methodLink RX7 136 yX7_differentYears ∈ GW := gw_of 861 (by decide +kernel) rfl
theorem wl_463 : Cond.instanceMethod yX7_differentYears ∈ GW := gw_of 863 (by decide +kernel) rfl
theorem wl_464 : Cond.selects RX7 yX7_differentYears yX7_differentYears ∈ GW := gw_of 35 (by decide +kernel) rfl
theorem wl_465 : Cond.code yX7_differentYears cX7_differentYears 3 (some .int) ∈ GW := gw_of 864 (by decide +kernel) rfl
theorem wl_466 : Cond.methodLink RL 59 yX6_stake ∈ GW := gw_of 475 (by decide +kernel) rfl
theorem wl_467 : Cond.instanceMethod yX6_stake ∈ GW := gw_of 476 (by decide +kernel) rfl
theorem wl_468 : Cond.selects RX6 yX6_stake yX6_stake ∈ GW := gw_of 477 (by decide +kernel) rfl
theorem wl_469 : Cond.code yX6_stake cX6_stake 4 (some .int) ∈ GW := gw_of 478 (by decide +kernel) rfl
theorem wl_470 : Cond.methodLink RX6 181 yX5_isStakeAt ∈ GW := gw_of 479 (by decide +kernel) rfl
theorem wl_471 : Cond.instanceMethod yX5_isStakeAt ∈ GW := gw_of 480 (by decide +kernel) rfl
theorem wl_472 : Cond.selects RX5 yX5_isStakeAt yX5_isStakeAt ∈ GW := gw_of 481 (by decide +kernel) rfl
theorem wl_473 : Cond.code yX5_isStakeAt cX5_isStakeAt 4 (some .boolean) ∈ GW := gw_of 482 (by decide +kernel) rfl
theorem wl_474 : Cond.fieldLink RX5 103 "IceTongue$Stake" "band" "I" ∈ GW := gw_of 190 (by decide +kernel) rfl
theorem wl_475 : Cond.fieldLink RX5 106 "IceTongue$Stake" "place" "I" ∈ GW := gw_of 193 (by decide +kernel) rfl
theorem wl_476 : Cond.methodLink RX6 185 yX5_addStake ∈ GW := gw_of 483 (by decide +kernel) rfl
theorem wl_477 : Cond.instanceMethod yX5_addStake ∈ GW := gw_of 484 (by decide +kernel) rfl
theorem wl_478 : Cond.selects RX5 yX5_addStake yX5_addStake ∈ GW := gw_of 485 (by decide +kernel) rfl
theorem wl_479 : Cond.code yX5_addStake cX5_addStake 5 (some .int) ∈ GW := gw_of 486 (by decide +kernel) rfl
theorem wl_480 : Cond.methodLink RX5 109 yX3_begin ∈ GW := gw_of 487 (by decide +kernel) rfl
theorem wl_481 : Cond.instanceMethod yX3_begin ∈ GW := gw_of 488 (by decide +kernel) rfl
theorem wl_482 : Cond.selects RX3 yX3_begin yX3_begin ∈ GW := gw_of 489 (by decide +kernel) rfl
theorem wl_483 : Cond.code yX3_begin cX3_begin 4 none ∈ GW := gw_of 490 (by decide +kernel) rfl
theorem wl_484 : Cond.methodLink RL 62 yX7_stake ∈ GW := gw_of 865 (by decide +kernel) rfl
theorem wl_485 : Cond.instanceMethod yX7_stake ∈ GW := gw_of 866 (by decide +kernel) rfl
theorem wl_486 : Cond.selects RX7 yX7_stake yX7_stake ∈ GW := gw_of 867 (by decide +kernel) rfl
theorem wl_487 : Cond.code yX7_stake cX7_stake 5 (some .int) ∈ GW := gw_of 868 (by decide +kernel) rfl
theorem wl_488 : Cond.methodLink RX7 142 yX7_putStake ∈ GW := gw_of 869 (by decide +kernel) rfl
theorem wl_489 : Cond.instanceMethod yX7_putStake ∈ GW := gw_of 871 (by decide +kernel) rfl
theorem wl_490 : Cond.selects RX7 yX7_putStake yX7_putStake ∈ GW := gw_of 36 (by decide +kernel) rfl
theorem wl_491 : Cond.code yX7_putStake cX7_putStake 4 none ∈ GW := gw_of 872 (by decide +kernel) rfl
theorem wl_492 : Cond.methodLink RL 63 yX6_pull ∈ GW := gw_of 491 (by decide +kernel) rfl
theorem wl_493 : Cond.instanceMethod yX6_pull ∈ GW := gw_of 492 (by decide +kernel) rfl
theorem wl_494 : Cond.selects RX6 yX6_pull yX6_pull ∈ GW := gw_of 493 (by decide +kernel) rfl
theorem wl_495 : Cond.code yX6_pull cX6_pull 2 (some .int) ∈ GW := gw_of 494 (by decide +kernel) rfl
theorem wl_496 : Cond.methodLink RX6 189 yX5_hasStake ∈ GW := gw_of 495 (by decide +kernel) rfl
theorem wl_497 : Cond.instanceMethod yX5_hasStake ∈ GW := gw_of 496 (by decide +kernel) rfl
theorem wl_498 : Cond.selects RX5 yX5_hasStake yX5_hasStake ∈ GW := gw_of 497 (by decide +kernel) rfl
theorem wl_499 : Cond.code yX5_hasStake cX5_hasStake 2 (some .boolean) ∈ GW := gw_of 498 (by decide +kernel) rfl
theorem wl_500 : Cond.methodLink RX6 192 yX5_removeStake ∈ GW := gw_of 499 (by decide +kernel) rfl
theorem wl_501 : Cond.instanceMethod yX5_removeStake ∈ GW := gw_of 500 (by decide +kernel) rfl
theorem wl_502 : Cond.selects RX5 yX5_removeStake yX5_removeStake ∈ GW := gw_of 501 (by decide +kernel) rfl
theorem wl_503 : Cond.code yX5_removeStake cX5_removeStake 4 (some .int) ∈ GW := gw_of 502 (by decide +kernel) rfl
theorem wl_504 : Cond.fieldLink RX5 110 "IceTongue$Stake" "change" "I" ∈ GW := gw_of 199 (by decide +kernel) rfl
theorem wl_505 : Cond.methodLink RL 66 yX7_pull ∈ GW := gw_of 873 (by decide +kernel) rfl
theorem wl_506 : Cond.instanceMethod yX7_pull ∈ GW := gw_of 874 (by decide +kernel) rfl
theorem wl_507 : Cond.selects RX7 yX7_pull yX7_pull ∈ GW := gw_of 875 (by decide +kernel) rfl
theorem wl_508 : Cond.code yX7_pull cX7_pull 4 (some .int) ∈ GW := gw_of 876 (by decide +kernel) rfl
theorem wl_509 : Cond.methodLink RX7 145 yX7_isStake ∈ GW := gw_of 877 (by decide +kernel) rfl
theorem wl_510 : Cond.instanceMethod yX7_isStake ∈ GW := gw_of 879 (by decide +kernel) rfl
theorem wl_511 : Cond.selects RX7 yX7_isStake yX7_isStake ∈ GW := gw_of 37 (by decide +kernel) rfl
theorem wl_512 : Cond.code yX7_isStake cX7_isStake 2 (some .boolean) ∈ GW := gw_of 880 (by decide +kernel) rfl
theorem wl_513 : Cond.methodLink RL 67 yX6_stakeInfo ∈ GW := gw_of 503 (by decide +kernel) rfl
theorem wl_514 : Cond.instanceMethod yX6_stakeInfo ∈ GW := gw_of 504 (by decide +kernel) rfl
theorem wl_515 : Cond.selects RX6 yX6_stakeInfo yX6_stakeInfo ∈ GW := gw_of 505 (by decide +kernel) rfl
theorem wl_516 : Cond.code yX6_stakeInfo cX6_stakeInfo 4 (some .int) ∈ GW := gw_of 506 (by decide +kernel) rfl
theorem wl_517 : Cond.fieldLink RX6 195 "IceTongue$Tongue" "stakes" "[LIceTongue$Stake;" ∈ GW := gw_of 225 (by decide +kernel) rfl
theorem wl_518 : Cond.fieldLink RX6 199 "IceTongue$Stake" "band" "I" ∈ GW := gw_of 191 (by decide +kernel) rfl
theorem wl_519 : Cond.fieldLink RX6 204 "IceTongue$Stake" "place" "I" ∈ GW := gw_of 194 (by decide +kernel) rfl
theorem wl_520 : Cond.fieldLink RX6 207 "IceTongue$Stake" "depth" "I" ∈ GW := gw_of 196 (by decide +kernel) rfl
theorem wl_521 : Cond.fieldLink RX6 210 "IceTongue$Stake" "change" "I" ∈ GW := gw_of 200 (by decide +kernel) rfl
theorem wl_522 : Cond.fieldLink RX6 213 "IceTongue$Stake" "fate" "I" ∈ GW := gw_of 203 (by decide +kernel) rfl
theorem wl_523 : Cond.fieldLink RX6 216 "IceTongue$Stake" "years" "I" ∈ GW := gw_of 205 (by decide +kernel) rfl
theorem wl_524 : Cond.methodLink RL 70 yX7_stakeInfo ∈ GW := gw_of 881 (by decide +kernel) rfl
theorem wl_525 : Cond.instanceMethod yX7_stakeInfo ∈ GW := gw_of 882 (by decide +kernel) rfl
theorem wl_526 : Cond.selects RX7 yX7_stakeInfo yX7_stakeInfo ∈ GW := gw_of 883 (by decide +kernel) rfl
theorem wl_527 : Cond.code yX7_stakeInfo cX7_stakeInfo 3 (some .int) ∈ GW := gw_of 884 (by decide +kernel) rfl
theorem wl_528 : Cond.methodLink RL 71 yX6_stakesIn ∈ GW := gw_of 507 (by decide +kernel) rfl
theorem wl_529 : Cond.instanceMethod yX6_stakesIn ∈ GW := gw_of 508 (by decide +kernel) rfl
theorem wl_530 : Cond.selects RX6 yX6_stakesIn yX6_stakesIn ∈ GW := gw_of 509 (by decide +kernel) rfl
theorem wl_531 : Cond.code yX6_stakesIn cX6_stakesIn 4 (some .int) ∈ GW := gw_of 510 (by decide +kernel) rfl
theorem wl_532 : Cond.methodLink RL 74 yX7_stakesIn ∈ GW := gw_of 885 (by decide +kernel) rfl
theorem wl_533 : Cond.instanceMethod yX7_stakesIn ∈ GW := gw_of 886 (by decide +kernel) rfl
theorem wl_534 : Cond.selects RX7 yX7_stakesIn yX7_stakesIn ∈ GW := gw_of 887 (by decide +kernel) rfl
theorem wl_535 : Cond.code yX7_stakesIn cX7_stakesIn 4 (some .int) ∈ GW := gw_of 888 (by decide +kernel) rfl
theorem wl_536 : Cond.methodLink RL 75 yX6_years ∈ GW := gw_of 511 (by decide +kernel) rfl
theorem wl_537 : Cond.instanceMethod yX6_years ∈ GW := gw_of 512 (by decide +kernel) rfl
theorem wl_538 : Cond.selects RX6 yX6_years yX6_years ∈ GW := gw_of 513 (by decide +kernel) rfl
theorem wl_539 : Cond.code yX6_years cX6_years 3 (some .int) ∈ GW := gw_of 514 (by decide +kernel) rfl
theorem wl_540 : Cond.methodLink RX6 219 yX5_letYearsGoBy ∈ GW := gw_of 515 (by decide +kernel) rfl
theorem wl_541 : Cond.instanceMethod yX5_letYearsGoBy ∈ GW := gw_of 516 (by decide +kernel) rfl
theorem wl_542 : Cond.selects RX5 yX5_letYearsGoBy yX5_letYearsGoBy ∈ GW := gw_of 517 (by decide +kernel) rfl
theorem wl_543 : Cond.code yX5_letYearsGoBy cX5_letYearsGoBy 3 none ∈ GW := gw_of 518 (by decide +kernel) rfl
theorem wl_544 : Cond.methodLink RX5 150 yX5_letYearGoBy ∈ GW := gw_of 519 (by decide +kernel) rfl
theorem wl_545 : Cond.instanceMethod yX5_letYearGoBy ∈ GW := gw_of 520 (by decide +kernel) rfl
theorem wl_546 : Cond.selects RX5 yX5_letYearGoBy yX5_letYearGoBy ∈ GW := gw_of 521 (by decide +kernel) rfl
theorem wl_547 : Cond.code yX5_letYearGoBy cX5_letYearGoBy 2 none ∈ GW := gw_of 522 (by decide +kernel) rfl
theorem wl_548 : Cond.methodLink RX5 153 yX5_snowAndMelt ∈ GW := gw_of 523 (by decide +kernel) rfl
theorem wl_549 : Cond.instanceMethod yX5_snowAndMelt ∈ GW := gw_of 525 (by decide +kernel) rfl
theorem wl_550 : Cond.selects RX5 yX5_snowAndMelt yX5_snowAndMelt ∈ GW := gw_of 3 (by decide +kernel) rfl
theorem wl_551 : Cond.code yX5_snowAndMelt cX5_snowAndMelt 3 none ∈ GW := gw_of 526 (by decide +kernel) rfl
theorem wl_552 : Cond.fieldLink RX5 169 "IceTongue$Band" "melted" "I" ∈ GW := gw_of 162 (by decide +kernel) rfl
theorem wl_553 : Cond.methodLink RX5 122 yX5_snowAt ∈ GW := gw_of 527 (by decide +kernel) rfl
theorem wl_554 : Cond.methodLink RX5 126 yX5_meltAt ∈ GW := gw_of 528 (by decide +kernel) rfl
theorem wl_555 : Cond.methodLink RX5 166 yX2_takeFromLatest ∈ GW := gw_of 529 (by decide +kernel) rfl
theorem wl_556 : Cond.instanceMethod yX2_takeFromLatest ∈ GW := gw_of 530 (by decide +kernel) rfl
theorem wl_557 : Cond.selects RX2 yX2_takeFromLatest yX2_takeFromLatest ∈ GW := gw_of 531 (by decide +kernel) rfl
theorem wl_558 : Cond.code yX2_takeFromLatest cX2_takeFromLatest 5 (some .int) ∈ GW := gw_of 532 (by decide +kernel) rfl
theorem wl_559 : Cond.methodLink RX2 49 yX2_takeOfYear ∈ GW := gw_of 533 (by decide +kernel) rfl
theorem wl_560 : Cond.instanceMethod yX2_takeOfYear ∈ GW := gw_of 535 (by decide +kernel) rfl
theorem wl_561 : Cond.selects RX2 yX2_takeOfYear yX2_takeOfYear ∈ GW := gw_of 4 (by decide +kernel) rfl
theorem wl_562 : Cond.code yX2_takeOfYear cX2_takeOfYear 4 (some .int) ∈ GW := gw_of 536 (by decide +kernel) rfl
theorem wl_563 : Cond.methodLink RX5 156 yX5_creepDown ∈ GW := gw_of 537 (by decide +kernel) rfl
theorem wl_564 : Cond.instanceMethod yX5_creepDown ∈ GW := gw_of 539 (by decide +kernel) rfl
theorem wl_565 : Cond.selects RX5 yX5_creepDown yX5_creepDown ∈ GW := gw_of 5 (by decide +kernel) rfl
theorem wl_566 : Cond.code yX5_creepDown cX5_creepDown 3 none ∈ GW := gw_of 540 (by decide +kernel) rfl
theorem wl_567 : Cond.fieldLink RX5 174 "IceTongue$Band" "gave" "I" ∈ GW := gw_of 165 (by decide +kernel) rfl
theorem wl_568 : Cond.fieldLink RX5 181 "IceTongue$Band" "got" "I" ∈ GW := gw_of 168 (by decide +kernel) rfl
theorem wl_569 : Cond.methodLink RX5 171 yX0_iceToGive ∈ GW := gw_of 541 (by decide +kernel) rfl
theorem wl_570 : Cond.instanceMethod yX0_iceToGive ∈ GW := gw_of 542 (by decide +kernel) rfl
theorem wl_571 : Cond.selects RX0 yX0_iceToGive yX0_iceToGive ∈ GW := gw_of 543 (by decide +kernel) rfl
theorem wl_572 : Cond.code yX0_iceToGive cX0_iceToGive 1 (some .int) ∈ GW := gw_of 544 (by decide +kernel) rfl
theorem wl_573 : Cond.fieldLink RX0 42 "IceTongue$Layers" "ice" "I" ∈ GW := gw_of 132 (by decide +kernel) rfl
theorem wl_574 : Cond.constantLong RX0 45 (1000) ∈ GW := gw_of 545 (by decide +kernel) rfl
theorem wl_575 : Cond.methodLink RX5 177 yX2_giveFromOldest ∈ GW := gw_of 546 (by decide +kernel) rfl
theorem wl_576 : Cond.instanceMethod yX2_giveFromOldest ∈ GW := gw_of 547 (by decide +kernel) rfl
theorem wl_577 : Cond.selects RX2 yX2_giveFromOldest yX2_giveFromOldest ∈ GW := gw_of 548 (by decide +kernel) rfl
theorem wl_578 : Cond.code yX2_giveFromOldest cX2_giveFromOldest 6 none ∈ GW := gw_of 549 (by decide +kernel) rfl
theorem wl_579 : Cond.methodLink RX2 52 yX2_add ∈ GW := gw_of 550 (by decide +kernel) rfl
theorem wl_580 : Cond.methodLink RX5 159 yX1_calve ∈ GW := gw_of 551 (by decide +kernel) rfl
theorem wl_581 : Cond.instanceMethod yX1_calve ∈ GW := gw_of 552 (by decide +kernel) rfl
theorem wl_582 : Cond.selects RX1 yX1_calve yX1_calve ∈ GW := gw_of 553 (by decide +kernel) rfl
theorem wl_583 : Cond.code yX1_calve cX1_calve 5 (some .int) ∈ GW := gw_of 554 (by decide +kernel) rfl
theorem wl_584 : Cond.methodLink RX5 163 yX5_ride ∈ GW := gw_of 555 (by decide +kernel) rfl
theorem wl_585 : Cond.instanceMethod yX5_ride ∈ GW := gw_of 557 (by decide +kernel) rfl
theorem wl_586 : Cond.selects RX5 yX5_ride yX5_ride ∈ GW := gw_of 6 (by decide +kernel) rfl
theorem wl_587 : Cond.code yX5_ride cX5_ride 3 none ∈ GW := gw_of 558 (by decide +kernel) rfl
theorem wl_588 : Cond.fieldLink RX5 188 "IceTongue$Stake" "years" "I" ∈ GW := gw_of 206 (by decide +kernel) rfl
theorem wl_589 : Cond.fieldLink RX5 191 "IceTongue$Stake" "depth" "I" ∈ GW := gw_of 197 (by decide +kernel) rfl
theorem wl_590 : Cond.methodLink RX5 184 yX5_hasBand ∈ GW := gw_of 559 (by decide +kernel) rfl
theorem wl_591 : Cond.methodLink RX5 194 yX0_way ∈ GW := gw_of 560 (by decide +kernel) rfl
theorem wl_592 : Cond.instanceMethod yX0_way ∈ GW := gw_of 561 (by decide +kernel) rfl
theorem wl_593 : Cond.selects RX0 yX0_way yX0_way ∈ GW := gw_of 562 (by decide +kernel) rfl
theorem wl_594 : Cond.code yX0_way cX0_way 1 (some .int) ∈ GW := gw_of 563 (by decide +kernel) rfl
theorem wl_595 : Cond.methodLink RX5 197 yX5_moveDown ∈ GW := gw_of 564 (by decide +kernel) rfl
theorem wl_596 : Cond.instanceMethod yX5_moveDown ∈ GW := gw_of 566 (by decide +kernel) rfl
theorem wl_597 : Cond.selects RX5 yX5_moveDown yX5_moveDown ∈ GW := gw_of 7 (by decide +kernel) rfl
theorem wl_598 : Cond.code yX5_moveDown cX5_moveDown 5 none ∈ GW := gw_of 567 (by decide +kernel) rfl
theorem wl_599 : Cond.fieldLink RX5 201 "IceTongue$Band" "length" "I" ∈ GW := gw_of 157 (by decide +kernel) rfl
theorem wl_600 : Cond.methodLink RL 78 yX7_years ∈ GW := gw_of 889 (by decide +kernel) rfl
theorem wl_601 : Cond.instanceMethod yX7_years ∈ GW := gw_of 890 (by decide +kernel) rfl
theorem wl_602 : Cond.selects RX7 yX7_years yX7_years ∈ GW := gw_of 891 (by decide +kernel) rfl
theorem wl_603 : Cond.code yX7_years cX7_years 3 (some .int) ∈ GW := gw_of 892 (by decide +kernel) rfl
theorem wl_604 : Cond.methodLink RX7 169 yX7_goOn ∈ GW := gw_of 893 (by decide +kernel) rfl
theorem wl_605 : Cond.instanceMethod yX7_goOn ∈ GW := gw_of 895 (by decide +kernel) rfl
theorem wl_606 : Cond.selects RX7 yX7_goOn yX7_goOn ∈ GW := gw_of 38 (by decide +kernel) rfl
theorem wl_607 : Cond.code yX7_goOn cX7_goOn 3 none ∈ GW := gw_of 896 (by decide +kernel) rfl
theorem wl_608 : Cond.methodLink RX7 166 yX7_year ∈ GW := gw_of 897 (by decide +kernel) rfl
theorem wl_609 : Cond.instanceMethod yX7_year ∈ GW := gw_of 899 (by decide +kernel) rfl
theorem wl_610 : Cond.selects RX7 yX7_year yX7_year ∈ GW := gw_of 39 (by decide +kernel) rfl
theorem wl_611 : Cond.code yX7_year cX7_year 2 none ∈ GW := gw_of 900 (by decide +kernel) rfl
theorem wl_612 : Cond.methodLink RX7 154 yX7_weather ∈ GW := gw_of 901 (by decide +kernel) rfl
theorem wl_613 : Cond.instanceMethod yX7_weather ∈ GW := gw_of 903 (by decide +kernel) rfl
theorem wl_614 : Cond.selects RX7 yX7_weather yX7_weather ∈ GW := gw_of 40 (by decide +kernel) rfl
theorem wl_615 : Cond.code yX7_weather cX7_weather 8 none ∈ GW := gw_of 904 (by decide +kernel) rfl
theorem wl_616 : Cond.methodLink RX7 157 yX7_gives ∈ GW := gw_of 905 (by decide +kernel) rfl
theorem wl_617 : Cond.instanceMethod yX7_gives ∈ GW := gw_of 907 (by decide +kernel) rfl
theorem wl_618 : Cond.selects RX7 yX7_gives yX7_gives ∈ GW := gw_of 41 (by decide +kernel) rfl
theorem wl_619 : Cond.code yX7_gives cX7_gives 7 none ∈ GW := gw_of 908 (by decide +kernel) rfl
theorem wl_620 : Cond.constantLong RX7 148 (1000) ∈ GW := gw_of 909 (by decide +kernel) rfl
theorem wl_621 : Cond.methodLink RX7 160 yX7_stepFront ∈ GW := gw_of 910 (by decide +kernel) rfl
theorem wl_622 : Cond.instanceMethod yX7_stepFront ∈ GW := gw_of 912 (by decide +kernel) rfl
theorem wl_623 : Cond.selects RX7 yX7_stepFront yX7_stepFront ∈ GW := gw_of 42 (by decide +kernel) rfl
theorem wl_624 : Cond.code yX7_stepFront cX7_stepFront 2 none ∈ GW := gw_of 913 (by decide +kernel) rfl
theorem wl_625 : Cond.methodLink RX7 163 yX7_stepStake ∈ GW := gw_of 914 (by decide +kernel) rfl
theorem wl_626 : Cond.instanceMethod yX7_stepStake ∈ GW := gw_of 916 (by decide +kernel) rfl
theorem wl_627 : Cond.selects RX7 yX7_stepStake yX7_stepStake ∈ GW := gw_of 43 (by decide +kernel) rfl
theorem wl_628 : Cond.code yX7_stepStake cX7_stepStake 3 none ∈ GW := gw_of 917 (by decide +kernel) rfl
theorem wl_629 : Cond.methodLink RX7 150 yX7_moves ∈ GW := gw_of 918 (by decide +kernel) rfl
theorem wl_630 : Cond.instanceMethod yX7_moves ∈ GW := gw_of 920 (by decide +kernel) rfl
theorem wl_631 : Cond.selects RX7 yX7_moves yX7_moves ∈ GW := gw_of 44 (by decide +kernel) rfl
theorem wl_632 : Cond.code yX7_moves cX7_moves 4 none ∈ GW := gw_of 921 (by decide +kernel) rfl
theorem wl_633 : Cond.methodLink RL 79 yX6_ifYears ∈ GW := gw_of 568 (by decide +kernel) rfl
theorem wl_634 : Cond.instanceMethod yX6_ifYears ∈ GW := gw_of 569 (by decide +kernel) rfl
theorem wl_635 : Cond.selects RX6 yX6_ifYears yX6_ifYears ∈ GW := gw_of 570 (by decide +kernel) rfl
theorem wl_636 : Cond.code yX6_ifYears cX6_ifYears 3 (some .int) ∈ GW := gw_of 571 (by decide +kernel) rfl
theorem wl_637 : Cond.methodLink RX6 227 yX5_bandIce ∈ GW := gw_of 572 (by decide +kernel) rfl
theorem wl_638 : Cond.methodLink RX6 230 yX5_oldestYear ∈ GW := gw_of 573 (by decide +kernel) rfl
theorem wl_639 : Cond.instanceMethod yX5_oldestYear ∈ GW := gw_of 574 (by decide +kernel) rfl
theorem wl_640 : Cond.selects RX5 yX5_oldestYear yX5_oldestYear ∈ GW := gw_of 575 (by decide +kernel) rfl
theorem wl_641 : Cond.code yX5_oldestYear cX5_oldestYear 3 (some .int) ∈ GW := gw_of 576 (by decide +kernel) rfl
theorem wl_642 : Cond.fieldLink RX5 144 "IceTongue$Layers" "oldest" "I" ∈ GW := gw_of 137 (by decide +kernel) rfl
theorem wl_643 : Cond.methodLink RX5 147 Lib.Math.min.name ∈ GW := gw_of 577 (by decide +kernel) rfl
theorem wl_644 : Cond.methodLink RL 82 yX7_ifYears ∈ GW := gw_of 922 (by decide +kernel) rfl
theorem wl_645 : Cond.instanceMethod yX7_ifYears ∈ GW := gw_of 923 (by decide +kernel) rfl
theorem wl_646 : Cond.selects RX7 yX7_ifYears yX7_ifYears ∈ GW := gw_of 924 (by decide +kernel) rfl
theorem wl_647 : Cond.code yX7_ifYears cX7_ifYears 4 (some .int) ∈ GW := gw_of 925 (by decide +kernel) rfl
theorem wl_648 : Cond.methodLink RX7 175 yX7_setAside ∈ GW := gw_of 926 (by decide +kernel) rfl
theorem wl_649 : Cond.instanceMethod yX7_setAside ∈ GW := gw_of 928 (by decide +kernel) rfl
theorem wl_650 : Cond.selects RX7 yX7_setAside yX7_setAside ∈ GW := gw_of 45 (by decide +kernel) rfl
theorem wl_651 : Cond.code yX7_setAside cX7_setAside 2 none ∈ GW := gw_of 929 (by decide +kernel) rfl
theorem wl_652 : Cond.methodLink RX7 178 yX7_brought ∈ GW := gw_of 930 (by decide +kernel) rfl
theorem wl_653 : Cond.instanceMethod yX7_brought ∈ GW := gw_of 932 (by decide +kernel) rfl
theorem wl_654 : Cond.selects RX7 yX7_brought yX7_brought ∈ GW := gw_of 46 (by decide +kernel) rfl
theorem wl_655 : Cond.code yX7_brought cX7_brought 2 (some .int) ∈ GW := gw_of 933 (by decide +kernel) rfl
theorem wl_656 : Cond.methodLink RX7 172 yX7_oldest ∈ GW := gw_of 934 (by decide +kernel) rfl
theorem wl_657 : Cond.instanceMethod yX7_oldest ∈ GW := gw_of 936 (by decide +kernel) rfl
theorem wl_658 : Cond.selects RX7 yX7_oldest yX7_oldest ∈ GW := gw_of 47 (by decide +kernel) rfl
theorem wl_659 : Cond.code yX7_oldest cX7_oldest 2 (some .int) ∈ GW := gw_of 937 (by decide +kernel) rfl
theorem wl_660 : Cond.methodLink RX7 181 yX7_bringBack ∈ GW := gw_of 938 (by decide +kernel) rfl
theorem wl_661 : Cond.instanceMethod yX7_bringBack ∈ GW := gw_of 940 (by decide +kernel) rfl
theorem wl_662 : Cond.selects RX7 yX7_bringBack yX7_bringBack ∈ GW := gw_of 48 (by decide +kernel) rfl
theorem wl_663 : Cond.code yX7_bringBack cX7_bringBack 2 none ∈ GW := gw_of 941 (by decide +kernel) rfl
theorem wl_664 : Cond.methodLink RL 83 yX6_yearsTo ∈ GW := gw_of 578 (by decide +kernel) rfl
theorem wl_665 : Cond.instanceMethod yX6_yearsTo ∈ GW := gw_of 579 (by decide +kernel) rfl
theorem wl_666 : Cond.selects RX6 yX6_yearsTo yX6_yearsTo ∈ GW := gw_of 580 (by decide +kernel) rfl
theorem wl_667 : Cond.code yX6_yearsTo cX6_yearsTo 4 (some .int) ∈ GW := gw_of 581 (by decide +kernel) rfl
theorem wl_668 : Cond.methodLink RX6 233 yX5_letYearGoBy ∈ GW := gw_of 582 (by decide +kernel) rfl
theorem wl_669 : Cond.methodLink RX6 236 yX6_isSoInTrial ∈ GW := gw_of 583 (by decide +kernel) rfl
theorem wl_670 : Cond.instanceMethod yX6_isSoInTrial ∈ GW := gw_of 585 (by decide +kernel) rfl
theorem wl_671 : Cond.selects RX6 yX6_isSoInTrial yX6_isSoInTrial ∈ GW := gw_of 8 (by decide +kernel) rfl
theorem wl_672 : Cond.code yX6_isSoInTrial cX6_isSoInTrial 3 (some .boolean) ∈ GW := gw_of 586 (by decide +kernel) rfl
theorem wl_673 : Cond.methodLink RL 86 yX7_yearsTo ∈ GW := gw_of 942 (by decide +kernel) rfl
theorem wl_674 : Cond.instanceMethod yX7_yearsTo ∈ GW := gw_of 943 (by decide +kernel) rfl
theorem wl_675 : Cond.selects RX7 yX7_yearsTo yX7_yearsTo ∈ GW := gw_of 944 (by decide +kernel) rfl
theorem wl_676 : Cond.code yX7_yearsTo cX7_yearsTo 5 (some .int) ∈ GW := gw_of 945 (by decide +kernel) rfl
theorem wl_677 : Cond.methodLink RX7 184 yX7_isSo ∈ GW := gw_of 946 (by decide +kernel) rfl
theorem wl_678 : Cond.instanceMethod yX7_isSo ∈ GW := gw_of 948 (by decide +kernel) rfl
theorem wl_679 : Cond.selects RX7 yX7_isSo yX7_isSo ∈ GW := gw_of 49 (by decide +kernel) rfl
theorem wl_680 : Cond.code yX7_isSo cX7_isSo 3 (some .boolean) ∈ GW := gw_of 949 (by decide +kernel) rfl
theorem wl_681 : Cond.methodLink RL 87 yX6_steadyMelt ∈ GW := gw_of 587 (by decide +kernel) rfl
theorem wl_682 : Cond.instanceMethod yX6_steadyMelt ∈ GW := gw_of 588 (by decide +kernel) rfl
theorem wl_683 : Cond.selects RX6 yX6_steadyMelt yX6_steadyMelt ∈ GW := gw_of 589 (by decide +kernel) rfl
theorem wl_684 : Cond.code yX6_steadyMelt cX6_steadyMelt 3 (some .int) ∈ GW := gw_of 590 (by decide +kernel) rfl
theorem wl_685 : Cond.methodLink RX6 239 yX5_snowOutweighsMelt ∈ GW := gw_of 591 (by decide +kernel) rfl
theorem wl_686 : Cond.instanceMethod yX5_snowOutweighsMelt ∈ GW := gw_of 592 (by decide +kernel) rfl
theorem wl_687 : Cond.selects RX5 yX5_snowOutweighsMelt yX5_snowOutweighsMelt ∈ GW := gw_of 593 (by decide +kernel) rfl
theorem wl_688 : Cond.code yX5_snowOutweighsMelt cX5_snowOutweighsMelt 4 (some .boolean) ∈ GW := gw_of 594 (by decide +kernel) rfl
theorem wl_689 : Cond.methodLink RL 90 yX7_steadyMelt ∈ GW := gw_of 950 (by decide +kernel) rfl
theorem wl_690 : Cond.instanceMethod yX7_steadyMelt ∈ GW := gw_of 951 (by decide +kernel) rfl
theorem wl_691 : Cond.selects RX7 yX7_steadyMelt yX7_steadyMelt ∈ GW := gw_of 952 (by decide +kernel) rfl
theorem wl_692 : Cond.code yX7_steadyMelt cX7_steadyMelt 3 (some .int) ∈ GW := gw_of 953 (by decide +kernel) rfl
theorem wl_693 : Cond.methodLink RX7 187 yX7_isSteady ∈ GW := gw_of 954 (by decide +kernel) rfl
theorem wl_694 : Cond.instanceMethod yX7_isSteady ∈ GW := gw_of 956 (by decide +kernel) rfl
theorem wl_695 : Cond.selects RX7 yX7_isSteady yX7_isSteady ∈ GW := gw_of 50 (by decide +kernel) rfl
theorem wl_696 : Cond.code yX7_isSteady cX7_isSteady 4 (some .boolean) ∈ GW := gw_of 957 (by decide +kernel) rfl
theorem wl_697 : Cond.methodLink RL 91 yX6_undo ∈ GW := gw_of 595 (by decide +kernel) rfl
theorem wl_698 : Cond.instanceMethod yX6_undo ∈ GW := gw_of 596 (by decide +kernel) rfl
theorem wl_699 : Cond.selects RX6 yX6_undo yX6_undo ∈ GW := gw_of 597 (by decide +kernel) rfl
theorem wl_700 : Cond.code yX6_undo cX6_undo 2 (some .int) ∈ GW := gw_of 598 (by decide +kernel) rfl
theorem wl_701 : Cond.methodLink RL 94 yX7_undo ∈ GW := gw_of 719 (by decide +kernel) rfl
theorem wl_702 : Cond.instanceMethod yX7_undo ∈ GW := gw_of 720 (by decide +kernel) rfl
theorem wl_703 : Cond.selects RX7 yX7_undo yX7_undo ∈ GW := gw_of 721 (by decide +kernel) rfl
theorem wl_704 : Cond.code yX7_undo cX7_undo 2 (some .int) ∈ GW := gw_of 722 (by decide +kernel) rfl
theorem wl_705 : Cond.methodLink RL 95 yX6_type ∈ GW := gw_of 599 (by decide +kernel) rfl
theorem wl_706 : Cond.instanceMethod yX6_type ∈ GW := gw_of 600 (by decide +kernel) rfl
theorem wl_707 : Cond.selects RX6 yX6_type yX6_type ∈ GW := gw_of 601 (by decide +kernel) rfl
theorem wl_708 : Cond.code yX6_type cX6_type 2 (some .int) ∈ GW := gw_of 602 (by decide +kernel) rfl
theorem wl_709 : Cond.methodLink RX6 245 yX4_append ∈ GW := gw_of 603 (by decide +kernel) rfl
theorem wl_710 : Cond.instanceMethod yX4_append ∈ GW := gw_of 604 (by decide +kernel) rfl
theorem wl_711 : Cond.selects RX4 yX4_append yX4_append ∈ GW := gw_of 605 (by decide +kernel) rfl
theorem wl_712 : Cond.code yX4_append cX4_append 2 none ∈ GW := gw_of 606 (by decide +kernel) rfl
theorem wl_713 : Cond.methodLink RL 98 yX7_type ∈ GW := gw_of 958 (by decide +kernel) rfl
theorem wl_714 : Cond.instanceMethod yX7_type ∈ GW := gw_of 959 (by decide +kernel) rfl
theorem wl_715 : Cond.selects RX7 yX7_type yX7_type ∈ GW := gw_of 960 (by decide +kernel) rfl
theorem wl_716 : Cond.code yX7_type cX7_type 2 (some .int) ∈ GW := gw_of 961 (by decide +kernel) rfl
theorem wl_717 : Cond.methodLink RL 99 yX6_clearText ∈ GW := gw_of 607 (by decide +kernel) rfl
theorem wl_718 : Cond.instanceMethod yX6_clearText ∈ GW := gw_of 608 (by decide +kernel) rfl
theorem wl_719 : Cond.selects RX6 yX6_clearText yX6_clearText ∈ GW := gw_of 609 (by decide +kernel) rfl
theorem wl_720 : Cond.code yX6_clearText cX6_clearText 2 (some .int) ∈ GW := gw_of 610 (by decide +kernel) rfl
theorem wl_721 : Cond.methodLink RL 102 yX7_clearText ∈ GW := gw_of 962 (by decide +kernel) rfl
theorem wl_722 : Cond.instanceMethod yX7_clearText ∈ GW := gw_of 963 (by decide +kernel) rfl
theorem wl_723 : Cond.selects RX7 yX7_clearText yX7_clearText ∈ GW := gw_of 964 (by decide +kernel) rfl
theorem wl_724 : Cond.code yX7_clearText cX7_clearText 2 (some .int) ∈ GW := gw_of 965 (by decide +kernel) rfl
theorem wl_725 : Cond.methodLink RL 103 yX6_fault ∈ GW := gw_of 611 (by decide +kernel) rfl
theorem wl_726 : Cond.instanceMethod yX6_fault ∈ GW := gw_of 612 (by decide +kernel) rfl
theorem wl_727 : Cond.selects RX6 yX6_fault yX6_fault ∈ GW := gw_of 613 (by decide +kernel) rfl
theorem wl_728 : Cond.code yX6_fault cX6_fault 4 (some .int) ∈ GW := gw_of 614 (by decide +kernel) rfl
theorem wl_729 : Cond.methodLink RX6 249 yX6_possibleYears ∈ GW := gw_of 615 (by decide +kernel) rfl
theorem wl_730 : Cond.instanceMethod yX6_possibleYears ∈ GW := gw_of 617 (by decide +kernel) rfl
theorem wl_731 : Cond.selects RX6 yX6_possibleYears yX6_possibleYears ∈ GW := gw_of 9 (by decide +kernel) rfl
theorem wl_732 : Cond.code yX6_possibleYears cX6_possibleYears 3 (some .int) ∈ GW := gw_of 618 (by decide +kernel) rfl
theorem wl_733 : Cond.methodLink RX6 255 yX6_reasonAt ∈ GW := gw_of 619 (by decide +kernel) rfl
theorem wl_734 : Cond.instanceMethod yX6_reasonAt ∈ GW := gw_of 621 (by decide +kernel) rfl
theorem wl_735 : Cond.selects RX6 yX6_reasonAt yX6_reasonAt ∈ GW := gw_of 10 (by decide +kernel) rfl
theorem wl_736 : Cond.code yX6_reasonAt cX6_reasonAt 3 (some .int) ∈ GW := gw_of 622 (by decide +kernel) rfl
theorem wl_737 : Cond.methodLink RX6 264 yX4_endOfYear ∈ GW := gw_of 623 (by decide +kernel) rfl
theorem wl_738 : Cond.instanceMethod yX4_endOfYear ∈ GW := gw_of 624 (by decide +kernel) rfl
theorem wl_739 : Cond.selects RX4 yX4_endOfYear yX4_endOfYear ∈ GW := gw_of 625 (by decide +kernel) rfl
theorem wl_740 : Cond.code yX4_endOfYear cX4_endOfYear 4 (some .int) ∈ GW := gw_of 626 (by decide +kernel) rfl
theorem wl_741 : Cond.methodLink RX4 23 yX4_endOfNumber ∈ GW := gw_of 627 (by decide +kernel) rfl
theorem wl_742 : Cond.instanceMethod yX4_endOfNumber ∈ GW := gw_of 629 (by decide +kernel) rfl
theorem wl_743 : Cond.selects RX4 yX4_endOfNumber yX4_endOfNumber ∈ GW := gw_of 11 (by decide +kernel) rfl
theorem wl_744 : Cond.code yX4_endOfNumber cX4_endOfNumber 3 (some .int) ∈ GW := gw_of 630 (by decide +kernel) rfl
theorem wl_745 : Cond.methodLink RX4 19 yX4_isDigitAt ∈ GW := gw_of 631 (by decide +kernel) rfl
theorem wl_746 : Cond.instanceMethod yX4_isDigitAt ∈ GW := gw_of 633 (by decide +kernel) rfl
theorem wl_747 : Cond.selects RX4 yX4_isDigitAt yX4_isDigitAt ∈ GW := gw_of 12 (by decide +kernel) rfl
theorem wl_748 : Cond.code yX4_isDigitAt cX4_isDigitAt 2 (some .boolean) ∈ GW := gw_of 634 (by decide +kernel) rfl
theorem wl_749 : Cond.methodLink RX4 27 yX4_isSignAt ∈ GW := gw_of 635 (by decide +kernel) rfl
theorem wl_750 : Cond.instanceMethod yX4_isSignAt ∈ GW := gw_of 637 (by decide +kernel) rfl
theorem wl_751 : Cond.selects RX4 yX4_isSignAt yX4_isSignAt ∈ GW := gw_of 13 (by decide +kernel) rfl
theorem wl_752 : Cond.code yX4_isSignAt cX4_isSignAt 3 (some .boolean) ∈ GW := gw_of 638 (by decide +kernel) rfl
theorem wl_753 : Cond.methodLink RX6 258 yX4_snowOfYear ∈ GW := gw_of 639 (by decide +kernel) rfl
theorem wl_754 : Cond.instanceMethod yX4_snowOfYear ∈ GW := gw_of 640 (by decide +kernel) rfl
theorem wl_755 : Cond.selects RX4 yX4_snowOfYear yX4_snowOfYear ∈ GW := gw_of 641 (by decide +kernel) rfl
theorem wl_756 : Cond.code yX4_snowOfYear cX4_snowOfYear 2 (some .int) ∈ GW := gw_of 642 (by decide +kernel) rfl
theorem wl_757 : Cond.methodLink RX4 31 yX4_numberAt ∈ GW := gw_of 643 (by decide +kernel) rfl
theorem wl_758 : Cond.instanceMethod yX4_numberAt ∈ GW := gw_of 645 (by decide +kernel) rfl
theorem wl_759 : Cond.selects RX4 yX4_numberAt yX4_numberAt ∈ GW := gw_of 14 (by decide +kernel) rfl
theorem wl_760 : Cond.code yX4_numberAt cX4_numberAt 5 (some .int) ∈ GW := gw_of 646 (by decide +kernel) rfl
theorem wl_761 : Cond.methodLink RX6 261 yX4_meltOfYear ∈ GW := gw_of 647 (by decide +kernel) rfl
theorem wl_762 : Cond.instanceMethod yX4_meltOfYear ∈ GW := gw_of 648 (by decide +kernel) rfl
theorem wl_763 : Cond.selects RX4 yX4_meltOfYear yX4_meltOfYear ∈ GW := gw_of 649 (by decide +kernel) rfl
theorem wl_764 : Cond.code yX4_meltOfYear cX4_meltOfYear 2 (some .int) ∈ GW := gw_of 650 (by decide +kernel) rfl
theorem wl_765 : Cond.methodLink RX6 252 yX4_startOfYear ∈ GW := gw_of 651 (by decide +kernel) rfl
theorem wl_766 : Cond.instanceMethod yX4_startOfYear ∈ GW := gw_of 652 (by decide +kernel) rfl
theorem wl_767 : Cond.selects RX4 yX4_startOfYear yX4_startOfYear ∈ GW := gw_of 653 (by decide +kernel) rfl
theorem wl_768 : Cond.code yX4_startOfYear cX4_startOfYear 4 (some .int) ∈ GW := gw_of 654 (by decide +kernel) rfl
theorem wl_769 : Cond.methodLink RX4 34 yX4_endOfYear ∈ GW := gw_of 655 (by decide +kernel) rfl
theorem wl_770 : Cond.methodLink RL 106 yX7_fault ∈ GW := gw_of 966 (by decide +kernel) rfl
theorem wl_771 : Cond.instanceMethod yX7_fault ∈ GW := gw_of 967 (by decide +kernel) rfl
theorem wl_772 : Cond.selects RX7 yX7_fault yX7_fault ∈ GW := gw_of 968 (by decide +kernel) rfl
theorem wl_773 : Cond.code yX7_fault cX7_fault 3 (some .int) ∈ GW := gw_of 969 (by decide +kernel) rfl
theorem wl_774 : Cond.fieldLink RX7 206 "IceTongueModel" "faultAt" "I" ∈ GW := gw_of 680 (by decide +kernel) rfl
theorem wl_775 : Cond.methodLink RX7 212 yX7_reason ∈ GW := gw_of 970 (by decide +kernel) rfl
theorem wl_776 : Cond.instanceMethod yX7_reason ∈ GW := gw_of 972 (by decide +kernel) rfl
theorem wl_777 : Cond.selects RX7 yX7_reason yX7_reason ∈ GW := gw_of 51 (by decide +kernel) rfl
theorem wl_778 : Cond.code yX7_reason cX7_reason 2 (some .int) ∈ GW := gw_of 973 (by decide +kernel) rfl
theorem wl_779 : Cond.fieldLink RX7 191 "IceTongueModel" "at" "I" ∈ GW := gw_of 679 (by decide +kernel) rfl
theorem wl_780 : Cond.fieldLink RX7 203 "IceTongueModel" "first" "I" ∈ GW := gw_of 682 (by decide +kernel) rfl
theorem wl_781 : Cond.fieldLink RX7 194 "IceTongueModel" "number" "I" ∈ GW := gw_of 681 (by decide +kernel) rfl
theorem wl_782 : Cond.methodLink RX7 209 yX7_readYear ∈ GW := gw_of 974 (by decide +kernel) rfl
theorem wl_783 : Cond.instanceMethod yX7_readYear ∈ GW := gw_of 976 (by decide +kernel) rfl
theorem wl_784 : Cond.selects RX7 yX7_readYear yX7_readYear ∈ GW := gw_of 52 (by decide +kernel) rfl
theorem wl_785 : Cond.code yX7_readYear cX7_readYear 1 (some .boolean) ∈ GW := gw_of 977 (by decide +kernel) rfl
theorem wl_786 : Cond.methodLink RX7 200 yX7_readNumber ∈ GW := gw_of 978 (by decide +kernel) rfl
theorem wl_787 : Cond.instanceMethod yX7_readNumber ∈ GW := gw_of 980 (by decide +kernel) rfl
theorem wl_788 : Cond.selects RX7 yX7_readNumber yX7_readNumber ∈ GW := gw_of 53 (by decide +kernel) rfl
theorem wl_789 : Cond.code yX7_readNumber cX7_readNumber 4 (some .boolean) ∈ GW := gw_of 981 (by decide +kernel) rfl
theorem wl_790 : Cond.methodLink RX7 197 yX7_here ∈ GW := gw_of 982 (by decide +kernel) rfl
theorem wl_791 : Cond.instanceMethod yX7_here ∈ GW := gw_of 984 (by decide +kernel) rfl
theorem wl_792 : Cond.selects RX7 yX7_here yX7_here ∈ GW := gw_of 54 (by decide +kernel) rfl
theorem wl_793 : Cond.code yX7_here cX7_here 1 (some .int) ∈ GW := gw_of 985 (by decide +kernel) rfl
theorem wl_794 : Cond.methodLink RL 107 yX6_live ∈ GW := gw_of 656 (by decide +kernel) rfl
theorem wl_795 : Cond.instanceMethod yX6_live ∈ GW := gw_of 657 (by decide +kernel) rfl
theorem wl_796 : Cond.selects RX6 yX6_live yX6_live ∈ GW := gw_of 658 (by decide +kernel) rfl
theorem wl_797 : Cond.code yX6_live cX6_live 4 (some .int) ∈ GW := gw_of 659 (by decide +kernel) rfl
theorem wl_798 : Cond.methodLink RL 110 yX7_live ∈ GW := gw_of 986 (by decide +kernel) rfl
theorem wl_799 : Cond.instanceMethod yX7_live ∈ GW := gw_of 987 (by decide +kernel) rfl
theorem wl_800 : Cond.selects RX7 yX7_live yX7_live ∈ GW := gw_of 988 (by decide +kernel) rfl
theorem wl_801 : Cond.code yX7_live cX7_live 2 (some .int) ∈ GW := gw_of 989 (by decide +kernel) rfl
theorem inlX0 : ∀ w ∈ wsX00, w ∈ GW := gw_sub [169, 171, 173, 175, 177, 179, 181] (by decide +kernel) (by decide +kernel)
theorem inlX1 : ∀ w ∈ wsX10, w ∈ GW := gw_sub [109, 111, 113, 115] (by decide +kernel) (by decide +kernel)
theorem inlX2 : ∀ w ∈ wsX20, w ∈ GW := gw_sub [140, 142, 144, 146] (by decide +kernel) (by decide +kernel)
theorem inlX3 : ∀ w ∈ wsX30, w ∈ GW := gw_sub [207, 209, 211, 213, 215, 217] (by decide +kernel) (by decide +kernel)
theorem inlX4 : ∀ w ∈ wsX40, w ∈ GW := gw_sub [275, 277] (by decide +kernel) (by decide +kernel)
theorem inlX5 : ∀ w ∈ wsX50, w ∈ GW := gw_sub [242, 244, 246, 248, 250, 252, 254, 256, 258, 260, 262] (by decide +kernel) (by decide +kernel)
theorem inlX6 : ∀ w ∈ wsX60, w ∈ GW := gw_sub [286, 288, 290, 292, 294] (by decide +kernel) (by decide +kernel)
theorem inlX7 : ∀ w ∈ wsX70, w ∈ GW := gw_sub [683, 685, 687, 689, 691, 693, 695, 697, 699, 701, 703, 705, 707, 709, 711, 713, 715] (by decide +kernel) (by decide +kernel)
set_option maxRecDepth 100000 in
theorem wl_good : GW.all goodWord = true := List.all_eq_true.mpr (fun w h => (List.mem_filter.mp h).2)
theorem wl_in (w : Cond) (ws : List Cond) (h : w ∈ GW) (hg : goodWord w = true) : ∀ v ∈ w :: GW, v ∈ GW ∧ ((v.onTables && v.keeps) = true ∨ ∃ ty, v = .arrayClass ty) := by
  intro v hv
  rcases List.mem_cons.mp hv with rfl | hv
  · exact ⟨h, good_of_word hg⟩
  · exact ⟨hv, good_of_word (List.all_eq_true.mp wl_good v hv)⟩
theorem wl_goodIn {w : Cond} (h : w ∈ GW) : GoodIn GW (w :: GW) := fun v hv => wl_in w [] h (List.all_eq_true.mp wl_good w h) v hv
theorem wl_goodV {own C : String} {idx : Nat} {y : MethodName} {w : Cond} (h1 : Cond.methodLink own idx y ∈ GW) (h2 : Cond.instanceMethod y ∈ GW) (h3 : Cond.selects C y y ∈ GW) (h4 : Cond.initialized C ∈ GW) (h : w ∈ GW) : GoodIn GW (wsV own idx C y (w :: GW)) := by
  intro v hv
  rcases List.mem_append.mp hv with hv | hv
  · have hm : v ∈ GW := by
      simp only [List.mem_cons, List.not_mem_nil, or_false] at hv
      rcases hv with rfl | rfl | rfl | rfl <;> assumption
    exact ⟨hm, good_of_word (List.all_eq_true.mp wl_good v hm)⟩
  · exact wl_goodIn h v hv
theorem wl_goodS {own : String} {idx : Nat} {y : MethodName} {w : Cond} (h1 : Cond.methodLink own idx y ∈ GW) (h2 : Cond.static y ∈ GW) (h4 : Cond.initialized own ∈ GW) (h : w ∈ GW) : GoodIn GW (wsS own idx y (w :: GW)) := by
  intro v hv
  rcases List.mem_append.mp hv with hv | hv
  · have hm : v ∈ GW := by
      simp only [List.mem_cons, List.not_mem_nil, or_false] at hv
      rcases hv with rfl | rfl | rfl <;> assumption
    exact ⟨hm, good_of_word (List.all_eq_true.mp wl_good v hm)⟩
  · exact wl_goodIn h v hv
end
section
abbrev Mm : Type := (Nat → Nat → Int32) × (Nat → Nat → Int64)
abbrev Rm : Type := Nat → Nat → Option Nat
abbrev Ty : Type := List Nat × (Nat → Nat) × (Nat → Nat)
abbrev Cy : Type := ClassId × ClassId × ClassId × ClassId × ClassId × ClassId
def up2 {α : Type} (f : Nat → Nat → α) (a k : Nat) (v : α) : Nat → Nat → α := fun b j => if b = a ∧ j = k then v else f b j
def gI (M : Mm) (a k : Nat) : Int32 := M.1 a k
def gJ (M : Mm) (a k : Nat) : Int64 := M.2 a k
def sI (M : Mm) (a k : Nat) (v : Int32) : Mm := (up2 M.1 a k v, M.2)
def sJ (M : Mm) (a k : Nat) (v : Int64) : Mm := (M.1, up2 M.2 a k v)
def isK (T : Ty) (a k : Nat) : Bool := decide (a ∈ T.1) && decide (T.2.1 a = k)
def lnT (T : Ty) (a : Nat) : Nat := T.2.2 a
def inb (i : Int32) (n : Nat) : Bool := decide (¬ (i < 0 ∨ n ≤ i.toNatClampNeg))
def chk {α : Type} (b : Bool) (x : Option α) : Option α := if b = true then x else none
def rfm {α : Type} (q : Option Nat) (k : Nat → Option α) : Option α := match q with
  | some b => k b
  | none => none
def onl {α : Type} (q : Option Nat) (x : Option α) (k : Nat → Option α) : Option α := match q with
  | some b => k b
  | none => x
def bnd {β α : Type} (x : β) (k : β → Option α) : Option α := k x
def cal {ρ α : Type} (q : Option (ρ × Mm)) (k : ρ → Mm → Option α) : Option α := match q with
  | some u => k u.1 u.2
  | none => none
def calR {ρ α : Type} (q : Option (ρ × Mm × Rm)) (k : ρ → Mm → Rm → Option α) : Option α := match q with
  | some u => k u.1 u.2.1 u.2.2
  | none => none
def isZ (x : Int32) : Bool := decide (x = 0) || decide (x = 1)
theorem chk_some {α : Type} {b : Bool} {x : Option α} {v : α} (h : chk b x = some v) : b = true ∧ x = some v := by
  unfold chk at h
  split at h
  · exact ⟨by assumption, h⟩
  · cases h
theorem rfm_some {α : Type} {q : Option Nat} {k : Nat → Option α} {v : α} (h : rfm q k = some v) : ∃ b, q = some b ∧ k b = some v := by
  cases q with
  | none => cases h
  | some b => exact ⟨b, rfl, h⟩
theorem bnd_at {β α : Type} {x y : β} {k : β → Option α} {v : Option α} (h : bnd x k = v) (e : y = x) : k y = v := by
  subst e
  exact h
theorem cal_some {ρ α : Type} {q : Option (ρ × Mm)} {k : ρ → Mm → Option α} {v : α} (h : cal q k = some v) : ∃ r M, q = some (r, M) ∧ k r M = some v := by
  cases q with
  | none => cases h
  | some u => exact ⟨u.1, u.2, rfl, h⟩
theorem calR_some {ρ α : Type} {q : Option (ρ × Mm × Rm)} {k : ρ → Mm → Rm → Option α} {v : α} (h : calR q k = some v) : ∃ r M R, q = some (r, M, R) ∧ k r M R = some v := by
  cases q with
  | none => cases h
  | some u => exact ⟨u.1, u.2.1, u.2.2, rfl, h⟩
theorem ite_t {α : Type} {c : Prop} {_ : Decidable c} {x y v : α} (h : (if c then x else y) = v) (hc : c) : x = v := by
  rw [if_pos hc] at h
  exact h
theorem ite_f {α : Type} {c : Prop} {_ : Decidable c} {x y v : α} (h : (if c then x else y) = v) (hc : ¬ c) : y = v := by
  rw [if_neg hc] at h
  exact h
theorem isK_mem {T : Ty} {a k : Nat} (h : isK T a k = true) : a ∈ T.1 := by
  unfold isK at h
  simp only [Bool.and_eq_true, decide_eq_true_eq] at h
  exact h.1
theorem isK_knd {T : Ty} {a k : Nat} (h : isK T a k = true) : T.2.1 a = k := by
  unfold isK at h
  simp only [Bool.and_eq_true, decide_eq_true_eq] at h
  exact h.2
theorem inb_vp {i : Int32} {n : Nat} (h : inb i n = true) : vp_in i n := by
  unfold inb at h
  simp only [decide_eq_true_eq] at h
  exact h
theorem isZ_nar {x : Int32} (h : isZ x = true) : narrow .boolean (.int x) = .int x := by
  unfold isZ at h
  simp only [Bool.or_eq_true, decide_eq_true_eq] at h
  rcases h with rfl | rfl <;> rfl
def ce (cy : Cy) (T : Ty) (M : Mm) (R : Rm) (a : Nat) : va_E :=
  if T.2.1 a = 0 then .inr (0, [va_rf (R a 0), .int (M.1 a 1), .int (M.1 a 2), .int (M.1 a 3), .int (M.1 a 4), .int (M.1 a 5), .int (M.1 a 6)]) else
  if T.2.1 a = 1 then .inr (1, [.int (M.1 a 0), .int (M.1 a 1), .int (M.1 a 2), .int (M.1 a 3)]) else
  if T.2.1 a = 2 then .inr (2, [va_rf (R a 0), .int (M.1 a 1), .int (M.1 a 2), .int (M.1 a 3)]) else
  if T.2.1 a = 3 then .inr (3, [.int (M.1 a 0), .int (M.1 a 1), .int (M.1 a 2), .int (M.1 a 3), .int (M.1 a 4), .int (M.1 a 5)]) else
  if T.2.1 a = 4 then .inr (4, [va_rf (R a 0), .int (M.1 a 1)]) else
  if T.2.1 a = 5 then .inr (5, [va_rf (R a 0), va_rf (R a 1), va_rf (R a 2), va_rf (R a 3), .int (M.1 a 4), .int (M.1 a 5), .int (M.1 a 6), .long (M.2 a 7), .long (M.2 a 8), .long (M.2 a 9), .long (M.2 a 10)]) else
  if T.2.1 a = 6 then .inr (6, [va_rf (R a 0), va_rf (R a 1), va_rf (R a 2), va_rf (R a 3), .int (M.1 a 4)]) else
  if T.2.1 a = 7 then .inr (7, [va_rf (R a 0), va_rf (R a 1), va_rf (R a 2), va_rf (R a 3), va_rf (R a 4), va_rf (R a 5), va_rf (R a 6), va_rf (R a 7), va_rf (R a 8), va_rf (R a 9), .int (M.1 a 10), va_rf (R a 11), .int (M.1 a 12), .int (M.1 a 13), .int (M.1 a 14), .int (M.1 a 15), .int (M.1 a 16)]) else
  if T.2.1 a = 8 then .inl (cy.1, T.2.2 a, .inl (M.1 a)) else
  if T.2.1 a = 9 then .inl (cy.2.1, T.2.2 a, .inl (M.1 a)) else
  if T.2.1 a = 10 then .inl (cy.2.2.1, T.2.2 a, .inr (.inl (M.2 a))) else
  if T.2.1 a = 11 then .inl (cy.2.2.2.1, T.2.2 a, .inr (.inr (.inr (.inr (R a))))) else
  if T.2.1 a = 12 then .inl (cy.2.2.2.2.1, T.2.2 a, .inr (.inr (.inr (.inr (R a))))) else
  .inl (cy.2.2.2.2.2, T.2.2 a, .inr (.inr (.inr (.inr (R a)))))
theorem ce_0 {cy : Cy} {T : Ty} {M : Mm} {R : Rm} {a : Nat} (h : T.2.1 a = 0) : ce cy T M R a = .inr (0, [va_rf (R a 0), .int (M.1 a 1), .int (M.1 a 2), .int (M.1 a 3), .int (M.1 a 4), .int (M.1 a 5), .int (M.1 a 6)]) := by
  unfold ce
  simp [h]
theorem ce_1 {cy : Cy} {T : Ty} {M : Mm} {R : Rm} {a : Nat} (h : T.2.1 a = 1) : ce cy T M R a = .inr (1, [.int (M.1 a 0), .int (M.1 a 1), .int (M.1 a 2), .int (M.1 a 3)]) := by
  unfold ce
  simp [h]
theorem ce_2 {cy : Cy} {T : Ty} {M : Mm} {R : Rm} {a : Nat} (h : T.2.1 a = 2) : ce cy T M R a = .inr (2, [va_rf (R a 0), .int (M.1 a 1), .int (M.1 a 2), .int (M.1 a 3)]) := by
  unfold ce
  simp [h]
theorem ce_3 {cy : Cy} {T : Ty} {M : Mm} {R : Rm} {a : Nat} (h : T.2.1 a = 3) : ce cy T M R a = .inr (3, [.int (M.1 a 0), .int (M.1 a 1), .int (M.1 a 2), .int (M.1 a 3), .int (M.1 a 4), .int (M.1 a 5)]) := by
  unfold ce
  simp [h]
theorem ce_4 {cy : Cy} {T : Ty} {M : Mm} {R : Rm} {a : Nat} (h : T.2.1 a = 4) : ce cy T M R a = .inr (4, [va_rf (R a 0), .int (M.1 a 1)]) := by
  unfold ce
  simp [h]
theorem ce_5 {cy : Cy} {T : Ty} {M : Mm} {R : Rm} {a : Nat} (h : T.2.1 a = 5) : ce cy T M R a = .inr (5, [va_rf (R a 0), va_rf (R a 1), va_rf (R a 2), va_rf (R a 3), .int (M.1 a 4), .int (M.1 a 5), .int (M.1 a 6), .long (M.2 a 7), .long (M.2 a 8), .long (M.2 a 9), .long (M.2 a 10)]) := by
  unfold ce
  simp [h]
theorem ce_6 {cy : Cy} {T : Ty} {M : Mm} {R : Rm} {a : Nat} (h : T.2.1 a = 6) : ce cy T M R a = .inr (6, [va_rf (R a 0), va_rf (R a 1), va_rf (R a 2), va_rf (R a 3), .int (M.1 a 4)]) := by
  unfold ce
  simp [h]
theorem ce_7 {cy : Cy} {T : Ty} {M : Mm} {R : Rm} {a : Nat} (h : T.2.1 a = 7) : ce cy T M R a = .inr (7, [va_rf (R a 0), va_rf (R a 1), va_rf (R a 2), va_rf (R a 3), va_rf (R a 4), va_rf (R a 5), va_rf (R a 6), va_rf (R a 7), va_rf (R a 8), va_rf (R a 9), .int (M.1 a 10), va_rf (R a 11), .int (M.1 a 12), .int (M.1 a 13), .int (M.1 a 14), .int (M.1 a 15), .int (M.1 a 16)]) := by
  unfold ce
  simp [h]
theorem ce_8 {cy : Cy} {T : Ty} {M : Mm} {R : Rm} {a : Nat} (h : T.2.1 a = 8) : ce cy T M R a = .inl (cy.1, T.2.2 a, .inl (M.1 a)) := by
  unfold ce
  simp [h]
theorem ce_9 {cy : Cy} {T : Ty} {M : Mm} {R : Rm} {a : Nat} (h : T.2.1 a = 9) : ce cy T M R a = .inl (cy.2.1, T.2.2 a, .inl (M.1 a)) := by
  unfold ce
  simp [h]
theorem ce_10 {cy : Cy} {T : Ty} {M : Mm} {R : Rm} {a : Nat} (h : T.2.1 a = 10) : ce cy T M R a = .inl (cy.2.2.1, T.2.2 a, .inr (.inl (M.2 a))) := by
  unfold ce
  simp [h]
theorem ce_11 {cy : Cy} {T : Ty} {M : Mm} {R : Rm} {a : Nat} (h : T.2.1 a = 11) : ce cy T M R a = .inl (cy.2.2.2.1, T.2.2 a, .inr (.inr (.inr (.inr (R a))))) := by
  unfold ce
  simp [h]
theorem ce_12 {cy : Cy} {T : Ty} {M : Mm} {R : Rm} {a : Nat} (h : T.2.1 a = 12) : ce cy T M R a = .inl (cy.2.2.2.2.1, T.2.2 a, .inr (.inr (.inr (.inr (R a))))) := by
  unfold ce
  simp [h]
theorem ce_13 {cy : Cy} {T : Ty} {M : Mm} {R : Rm} {a : Nat} (h : T.2.1 a = 13) : ce cy T M R a = .inl (cy.2.2.2.2.2, T.2.2 a, .inr (.inr (.inr (.inr (R a))))) := by
  unfold ce
  simp [h]
theorem up2_ne {α : Type} {f : Nat → Nat → α} {a k y : Nat} {v : α} (h : ¬ y = a) : up2 f a k v y = f y := by
  funext j
  simp [up2, h]
theorem ce_congr {cy : Cy} {T : Ty} {M M1 : Mm} {R R1 : Rm} {y : Nat} (h1 : M1.1 y = M.1 y) (h2 : M1.2 y = M.2 y) (h3 : R1 y = R y) : ce cy T M R y = ce cy T M1 R1 y := by
  unfold ce
  rw [h1, h2, h3]
theorem ce_obj {cy : Cy} {T : Ty} {M : Mm} {R : Rm} {a ci : Nat} (h8 : ci < 8) (h : T.2.1 a = ci) : ∃ fs, ce cy T M R a = .inr (ci, fs) := by
  rcases (show ci = 0 ∨ ci = 1 ∨ ci = 2 ∨ ci = 3 ∨ ci = 4 ∨ ci = 5 ∨ ci = 6 ∨ ci = 7 by omega) with rfl | rfl | rfl | rfl | rfl | rfl | rfl | rfl
  · exact ⟨_, ce_0 h⟩
  · exact ⟨_, ce_1 h⟩
  · exact ⟨_, ce_2 h⟩
  · exact ⟨_, ce_3 h⟩
  · exact ⟨_, ce_4 h⟩
  · exact ⟨_, ce_5 h⟩
  · exact ⟨_, ce_6 h⟩
  · exact ⟨_, ce_7 h⟩
def WL (cy : Cy) (T : Ty) (M : Mm) (R : Rm) : va_W := va_pl T.1 (ce cy T M R)
def tys (cy : Cy) : List (ClassId × FieldType) := [(cy.1, .char), (cy.2.1, .int), (cy.2.2.1, .long), (cy.2.2.2.1, .object "IceTongue$Band"), (cy.2.2.2.2.1, .object "IceTongue$Stake"), (cy.2.2.2.2.2, .object "IceTongue$Tongue")]
theorem wl_get {cy : Cy} {T : Ty} {M : Mm} {R : Rm} {a k : Nat} (h : isK T a k = true) : ∃ q : Nat, (WL cy T M R)[q]? = some (a, ce cy T M R a) := by
  obtain ⟨q, hq⟩ := va_pl_get (X := []) (f := ce cy T M R) (isK_mem h)
  exact ⟨q, hq⟩
theorem wl_set {cy : Cy} {T : Ty} {M M1 : Mm} {R R1 : Rm} {A : Nat → Prop} {a k q : Nat} {x : va_E} (hD : va_D A (WL cy T M R)) (h : isK T a k = true) (hq : (WL cy T M R)[q]? = some (a, ce cy T M R a)) (he : ∀ b, va_up (ce cy T M R) a x b = ce cy T M1 R1 b) : (WL cy T M R).set q (a, x) = WL cy T M1 R1 := by
  have h1 := va_pl_set (X := []) (f := ce cy T M R) (e := x) hD (isK_mem h) hq
  exact h1.trans (va_pl_congr he)
/-- the class's three static rows, as they stand from the start on -/
def fLeast : Nat → Int32 := fun j => if j = 5 then 1 else 0
def fMost : Nat → Int32 := fun j => match j with
  | 0 => 5000
  | 1 => 500
  | 2 => 9000
  | 3 => 500
  | 4 => 5000
  | 5 => 1000000
  | _ => 50
def fFirst : Nat → Int32 := fun j => match j with
  | 0 => 1000
  | 1 => 50
  | 2 => 1500
  | 3 => 100
  | 4 => 2500
  | 5 => 500
  | _ => 2
def Stt (n : String) (f : Nat → Int32) (t : Nat) (A : Nat → Prop) (U : State) (H : Heap) : Prop := va_Z "IceTongue" n "[I" (.ref t) A U H ∧ va_T .int t 7 (fun j => .int (f j)) A U H
def St (A : Nat → Prop) (U : State) (H : Heap) : Prop := (∃ t, Stt "LEAST_SETTING" fLeast t A U H) ∧ (∃ t, Stt "MOST_SETTING" fMost t A U H) ∧ (∃ t, Stt "FIRST_SETTING" fFirst t A U H)
theorem Stt.to {n : String} {f : Nat → Int32} {t : Nat} {A B : Nat → Prop} {u U : State} {H H1 : Heap} (h : Stt n f t A u H) (hvm : u.vm.Alike U.vm) (hq : ∀ a : Nat, a < H.size → ¬ A a → H1[a]? = H[a]?) (hAB : ∀ q, B q → A q) : Stt n f t B U H1 := ⟨((h.1.moved hvm).kept hq).narrow hAB, ((h.2.moved hvm).kept hq).narrow hAB⟩
theorem St.to {A B : Nat → Prop} {u U : State} {H H1 : Heap} (h : St A u H) (hvm : u.vm.Alike U.vm) (hq : ∀ a : Nat, a < H.size → ¬ A a → H1[a]? = H[a]?) (hAB : ∀ q, B q → A q) : St B U H1 := by
  obtain ⟨⟨t0, h0⟩, ⟨t1, h1⟩, ⟨t2, h2⟩⟩ := h
  exact ⟨⟨t0, h0.to hvm hq hAB⟩, ⟨t1, h1.to hvm hq hAB⟩, ⟨t2, h2.to hvm hq hAB⟩⟩
/-- what stands all through a method's walk -/
def Cx (own : String) (cc : ByteArray) (n : Nat) (ret : Option FieldType) (p : Program) (s : State) (m : MethodId) (args : Array Value) (meth : Method) (c : Code) (D : va_G) (cy : Cy) (A : Nat → Prop) : Prop :=
  p.tables.exec = Jvm.exec ∧ c.code = cc ∧ meth.sig.returnType = ret ∧ c.maxLocals = n ∧ s.vm.findClass own = some m.cls ∧ (∀ w ∈ GW, w.before args s = true) ∧ va_K D vwCl (tys cy) s ∧ (∀ q : Nat, s.heap.size ≤ q → A q) ∧ meth.locks = false ∧ St A s s.heap
def PcM (D : va_G) (cy : Cy) (T : Ty) (M : Mm) (R : Rm) (av : List Value) (sz : Nat) : Array Value → State → Prop := va_Pc av (fun U => U.heap.size = sz ∧ va_P D vwCl (WL cy T M R) U.heap ∧ va_K D vwCl (tys cy) U ∧ va_D (fun _ => True) (WL cy T M R) ∧ St (va_A (WL cy T M R) sz) U U.heap)
abbrev BM (D : va_G) (cy : Cy) (T : Ty) (M : Mm) (R : Rm) (A : Nat → Prop) : Unit → State → Prop := fun _ t => va_P D vwCl (WL cy T M R) t.heap ∧ va_D A (WL cy T M R)
def QcI (D : va_G) (cy : Cy) (T : Ty) (M : Mm) (R : Rm) (A : Nat → Prop) (r : Int32) : Array Value → State → Outcome → State → Prop := va_Qi (fun (r' : Int32) (_ : Unit) => r' = r) (BM D cy T M R A) A
def QcL (D : va_G) (cy : Cy) (T : Ty) (M : Mm) (R : Rm) (A : Nat → Prop) (r : Int64) : Array Value → State → Outcome → State → Prop := va_Ql (fun (r' : Int64) (_ : Unit) => r' = r) (BM D cy T M R A) A
def QcV (D : va_G) (cy : Cy) (T : Ty) (M : Mm) (R : Rm) (A : Nat → Prop) (_ : Unit) : Array Value → State → Outcome → State → Prop := va_Qv (fun (_ : Unit) => True) (BM D cy T M R A) A
def Ct {ρ : Type} (QC : va_G → Cy → Ty → Mm → Rm → (Nat → Prop) → ρ → Array Value → State → Outcome → State → Prop) (l : Launch) (y : MethodName) (bytes : ByteArray) (maxL : Nat) (ret : Option FieldType) (rm : Room) (D : va_G) (cy : Cy) (T : Ty) (M : Mm) (R : Rm) (av : List Value) (M1 : Mm) (R1 : Rm) (r : ρ) : Prop :=
  ∀ sz : Nat, Met l y (.code y bytes maxL ret :: GW) rm (PcM D cy T M R av sz) (QC D cy T M1 R1 (va_A (WL cy T M R) sz) r) 0 0 (va_A (WL cy T M R) sz)
theorem enter {ρ : Type} {QC : va_G → Cy → Ty → Mm → Rm → (Nat → Prop) → ρ → Array Value → State → Outcome → State → Prop} {l : Launch} {y : MethodName} {bytes : ByteArray} {maxL : Nat} {ret : Option FieldType} {rm : Room} {D : va_G} {cy : Cy} {T : Ty} {M : Mm} {R : Rm} {av : List Value} {M1 : Mm} {R1 : Rm} {r : ρ} (hy : plainName y.cls = true) (hlen : (lg_sl av).length ≤ maxL)
    (body : ∀ (p : Program) (e : Env) (s : State) (m : MethodId) (args : Array Value) (below : List Frame) (meth : Method) (c : Code) (A : Nat → Prop), Cx y.cls bytes maxL ret p s m args meth c D cy A → va_P D vwCl (WL cy T M R) s.heap → va_D A (WL cy T M R) → va_S A s.heap s.heap [] → ∀ ls : Array Slot, lv_has ls maxL (lv_args 0 av) → W p l e rm s m args below meth c s.heap [] 0 0 (MQ below (QC D cy T M1 R1 A r) args s 0 0 A) (F0 m 0 ls [])) : Ct QC l y bytes maxL ret rm D cy T M R av M1 R1 r := by
  intro sz
  refine Met.ofW (cc := bytes) (maxL := maxL) (ret := ret) hy rfl ?_
  intro p e s m args below meth c s₁ B hml hv
  obtain ⟨rfl, hsz, hP, hK, hD0, hSt⟩ := hv
  have hts0 := atoms_spec (ws := .code y bytes maxL ret :: GW) B.pre
  have hown : s.vm.findClass y.cls = some m.cls := findClass_of_methodNamed B.named
  subst hsz
  have hD := hD0.self (sz := s.heap.size)
  generalize hAe : va_A (WL cy T M R) s.heap.size = A at hD hSt ⊢
  have hA : ∀ q : Nat, s.heap.size ≤ q → A q := fun q h => by rw [← hAe]; exact Or.inr h
  have hl := lv_entry av (n := maxL) hlen
  rw [lg_entry_eq]
  generalize (lg_sl av ++ List.replicate (maxL - (lg_sl av).length) Slot.unset).toArray = ls at hl ⊢
  exact body p e s m av.toArray below meth c A ⟨B.exec, B.bytes, B.returns, hml, hown, fun w hw => hts0 w (List.mem_cons_of_mem _ hw), hK, hA, B.notSynchronized, hSt⟩ hP hD va_S.rf ls hl
theorem fr_all {A : Nat → Prop} {ws : va_W} {H0 H : Heap} {locs : List Loc} (hD : va_D A ws) (hS : va_S A H0 H locs) (hA : ∀ q, H0.size ≤ q → A q) : ∀ q, va_A ws H.size q → A q := by
  intro q hq
  rcases hq with ⟨k, x, hk⟩ | hq
  · exact hD.2 k _ hk
  · exact hA q (Nat.le_trans hS.1 hq)
theorem PcM.blind {D : va_G} {cy : Cy} {T : Ty} {M : Mm} {R : Rm} {av : List Value} {sz : Nat} : FrameBlind (PcM D cy T M R av sz) := by
  intro a U g mk q
  obtain ⟨q0, q1, qP, qK, qD, qS⟩ := q
  exact ⟨q0, q1, qP, va_K.moved (u := U) (U := U.calling g mk a) (Vm.Alike.refl U.vm) qK, qD, St.to (u := U) (U := U.calling g mk a) qS (Vm.Alike.refl U.vm) (fun _ _ _ => rfl) (fun _ h => h)⟩
theorem PcM.of {own : String} {cc : ByteArray} {n : Nat} {ret : Option FieldType} {p : Program} {s : State} {m : MethodId} {args : Array Value} {meth : Method} {c : Code} {D : va_G} {cy : Cy} {A : Nat → Prop} {T : Ty} {M : Mm} {R : Rm} {H : Heap} {locs : List Loc} (C : Cx own cc n ret p s m args meth c D cy A) (hP : va_P D vwCl (WL cy T M R) H) (hD : va_D A (WL cy T M R)) (hS : va_S A s.heap H locs) (av : List Value) : ∀ U : State, U.heap = H → s.WarmedH U.vm → PcM D cy T M R av H.size av.toArray U := by
  intro U hU hW
  obtain ⟨-, -, -, -, -, -, hK, hA, -, hSt⟩ := C
  refine ⟨rfl, by rw [hU], by rw [hU]; exact hP, va_K.moved hW.alike hK, hD.weaken (fun _ _ _ _ => trivial), ?_⟩
  rw [hU]
  exact hSt.to hW.alike hS.2.1 (fr_all hD hS hA)
theorem gf_0_0 {p : Program} {l : Launch} {e : Env} {Rr : Room} {s : State} {m : MethodId} {args : Array Value} {below : List Frame} {meth : Method} {c : Code} {H : Heap} {locs : List Loc} {cells slots : Nat} {Q : State → Prop} {cc : ByteArray} {pc : Nat} {ls : Array Slot} {rest : List Value} {D : va_G} {cy : Cy} {T : Ty} {M : Mm} {R : Rm} {A : Nat → Prop} {own : String} {n : Nat} {ret : Option FieldType} {index a : Nat} (C : Cx own cc n ret p s m args meth c D cy A) (hP : va_P D vwCl (WL cy T M R) H) (ha : isK T a 0 = true) {b : Nat} (eb : R a 0 = some b) (hl : Cond.fieldLink own index "IceTongue$Band" "layers" "LIceTongue$Layers;" ∈ GW) (hdg : decode cc pc = .ok (.getfield index, 3)) (kk : W p l e Rr s m args below meth c H locs cells slots Q (F0 m (pc + 3) ls (.ref b :: rest))) : W p l e Rr s m args below meth c H locs cells slots Q (F0 m pc ls (.ref a :: rest)) := by
  obtain ⟨hx, hb, -, hml, hown, hts, hK, hA, -, hSt⟩ := C
  obtain ⟨q, hq⟩ := wl_get (cy := cy) (M := M) (R := R) ha
  rw [ce_0 (isK_knd ha)] at hq
  exact va_get (D := D) (ci := 0) (v := .ref b) (C := RX0) (T := TX0) (N := 7) hx hb hts inlX0 hown hK hP q hq rfl 0 (by decide) (hts _ hl) (fun _ h9 => h9) (show some (va_rf (R a 0)) = some (.ref b) from by rw [eb]; rfl) hdg kk
theorem pe_0_0 {cy : Cy} {T : Ty} {M : Mm} {R : Rm} {a : Nat} {b : Nat} (ha : isK T a 0 = true) (y : Nat) : va_up (ce cy T M R) a (.inr (0, ([va_rf (R a 0), .int (M.1 a 1), .int (M.1 a 2), .int (M.1 a 3), .int (M.1 a 4), .int (M.1 a 5), .int (M.1 a 6)] : List Value).set 0 (.ref b))) y = ce cy T M (up2 R a 0 (some b)) y := by
  have hk := isK_knd ha
  unfold va_up
  by_cases h : y = a
  · subst h
    rw [if_pos rfl, ce_0 hk]
    simp [sI, sJ, up2, va_rf]
  · rw [if_neg h]
    exact ce_congr (by first | rfl | exact up2_ne h) (by first | rfl | exact up2_ne h) (by first | rfl | exact up2_ne h)
theorem pf_0_0 {p : Program} {l : Launch} {e : Env} {Rr : Room} {s : State} {m : MethodId} {args : Array Value} {below : List Frame} {meth : Method} {c : Code} {H : Heap} {locs : List Loc} {cells slots : Nat} {Q : State → Prop} {cc : ByteArray} {pc : Nat} {ls : Array Slot} {rest : List Value} {D : va_G} {cy : Cy} {T : Ty} {M : Mm} {R : Rm} {A : Nat → Prop} {own : String} {n : Nat} {ret : Option FieldType} {index a : Nat} {b : Nat} (C : Cx own cc n ret p s m args meth c D cy A) (hP : va_P D vwCl (WL cy T M R) H) (hD : va_D A (WL cy T M R)) (hS : va_S A s.heap H locs) (ha : isK T a 0 = true) (hl : Cond.fieldLink own index "IceTongue$Band" "layers" "LIceTongue$Layers;" ∈ GW) (hin : meth.name = "<init>") (hO : (TX0 0).1 = own) (hdg : decode cc pc = .ok (.putfield index, 3)) (kk : ∀ (R1 : Rm) (H1 : Heap) (locs1 : List Loc), R1 = up2 R a 0 (some b) → va_P D vwCl (WL cy T M R1) H1 → va_D A (WL cy T M R1) → va_S A s.heap H1 locs1 → W p l e Rr s m args below meth c H1 locs1 cells slots Q (F0 m (pc + 3) ls rest)) : W p l e Rr s m args below meth c H locs cells slots Q (F0 m pc ls (.ref b :: .ref a :: rest)) := by
  obtain ⟨hx, hb, -, hml, hown, hts, hK, hA, -, hSt⟩ := C
  obtain ⟨q, hq⟩ := wl_get (cy := cy) (M := M) (R := R) ha
  have hq0 := hq
  rw [ce_0 (isK_knd ha)] at hq
  refine va_putF (D := D) (ci := 0) (v := .ref b) (ty := (tyX0 0)) (C := RX0) (T := TX0) (N := 7) hx hb hts inlX0 tyX0 tyX0_ok nmX0 hown hK hP hD hS q hq rfl 0 (by decide) (hts _ hl) (fun _ h9 => h9) rfl hin hO (by decide +kernel) rfl rfl (Nat.le_of_ble_eq_true rfl) hdg (fun H1 locs1 hP1 hD1 hS1 => ?_)
  rw [wl_set hD ha hq0 (pe_0_0 ha)] at hP1 hD1
  exact kk _ H1 locs1 rfl hP1 hD1 hS1
theorem gf_0_1 {p : Program} {l : Launch} {e : Env} {Rr : Room} {s : State} {m : MethodId} {args : Array Value} {below : List Frame} {meth : Method} {c : Code} {H : Heap} {locs : List Loc} {cells slots : Nat} {Q : State → Prop} {cc : ByteArray} {pc : Nat} {ls : Array Slot} {rest : List Value} {D : va_G} {cy : Cy} {T : Ty} {M : Mm} {R : Rm} {A : Nat → Prop} {own : String} {n : Nat} {ret : Option FieldType} {index a : Nat} (C : Cx own cc n ret p s m args meth c D cy A) (hP : va_P D vwCl (WL cy T M R) H) (ha : isK T a 0 = true) (hl : Cond.fieldLink own index "IceTongue$Band" "height" "I" ∈ GW) (hdg : decode cc pc = .ok (.getfield index, 3)) (kk : W p l e Rr s m args below meth c H locs cells slots Q (F0 m (pc + 3) ls (.int (gI M a 1) :: rest))) : W p l e Rr s m args below meth c H locs cells slots Q (F0 m pc ls (.ref a :: rest)) := by
  obtain ⟨hx, hb, -, hml, hown, hts, hK, hA, -, hSt⟩ := C
  obtain ⟨q, hq⟩ := wl_get (cy := cy) (M := M) (R := R) ha
  rw [ce_0 (isK_knd ha)] at hq
  exact va_get (D := D) (ci := 0) (v := .int (gI M a 1)) (C := RX0) (T := TX0) (N := 7) hx hb hts inlX0 hown hK hP q hq rfl 1 (by decide) (hts _ hl) (fun _ h9 => h9) rfl hdg kk
theorem pe_0_1 {cy : Cy} {T : Ty} {M : Mm} {R : Rm} {a : Nat} {x : Int32} (ha : isK T a 0 = true) (y : Nat) : va_up (ce cy T M R) a (.inr (0, ([va_rf (R a 0), .int (M.1 a 1), .int (M.1 a 2), .int (M.1 a 3), .int (M.1 a 4), .int (M.1 a 5), .int (M.1 a 6)] : List Value).set 1 (.int x))) y = ce cy T (sI M a 1 x) R y := by
  have hk := isK_knd ha
  unfold va_up
  by_cases h : y = a
  · subst h
    rw [if_pos rfl, ce_0 hk]
    simp [sI, sJ, up2, va_rf]
  · rw [if_neg h]
    exact ce_congr (by first | rfl | exact up2_ne h) (by first | rfl | exact up2_ne h) (by first | rfl | exact up2_ne h)
theorem pf_0_1 {p : Program} {l : Launch} {e : Env} {Rr : Room} {s : State} {m : MethodId} {args : Array Value} {below : List Frame} {meth : Method} {c : Code} {H : Heap} {locs : List Loc} {cells slots : Nat} {Q : State → Prop} {cc : ByteArray} {pc : Nat} {ls : Array Slot} {rest : List Value} {D : va_G} {cy : Cy} {T : Ty} {M : Mm} {R : Rm} {A : Nat → Prop} {own : String} {n : Nat} {ret : Option FieldType} {index a : Nat} {x : Int32} (C : Cx own cc n ret p s m args meth c D cy A) (hP : va_P D vwCl (WL cy T M R) H) (hD : va_D A (WL cy T M R)) (hS : va_S A s.heap H locs) (ha : isK T a 0 = true) (hl : Cond.fieldLink own index "IceTongue$Band" "height" "I" ∈ GW) (hdg : decode cc pc = .ok (.putfield index, 3)) (kk : ∀ (M1 : Mm) (H1 : Heap) (locs1 : List Loc), M1 = sI M a 1 x → va_P D vwCl (WL cy T M1 R) H1 → va_D A (WL cy T M1 R) → va_S A s.heap H1 locs1 → W p l e Rr s m args below meth c H1 locs1 cells slots Q (F0 m (pc + 3) ls rest)) : W p l e Rr s m args below meth c H locs cells slots Q (F0 m pc ls (.int x :: .ref a :: rest)) := by
  obtain ⟨hx, hb, -, hml, hown, hts, hK, hA, -, hSt⟩ := C
  obtain ⟨q, hq⟩ := wl_get (cy := cy) (M := M) (R := R) ha
  have hq0 := hq
  rw [ce_0 (isK_knd ha)] at hq
  refine va_put (D := D) (ci := 0) (v := .int x) (ty := .int) (C := RX0) (T := TX0) (N := 7) hx hb hts inlX0 tyX0 tyX0_ok nmX0 hown hK hP hD hS q hq rfl 1 (by decide) (hts _ hl) (fun _ h9 => h9) rfl (by decide +kernel) rfl rfl (Nat.le_of_ble_eq_true rfl) hdg (fun H1 locs1 hP1 hD1 hS1 => ?_)
  rw [wl_set hD ha hq0 (pe_0_1 ha)] at hP1 hD1
  exact kk _ H1 locs1 rfl hP1 hD1 hS1
theorem gf_0_2 {p : Program} {l : Launch} {e : Env} {Rr : Room} {s : State} {m : MethodId} {args : Array Value} {below : List Frame} {meth : Method} {c : Code} {H : Heap} {locs : List Loc} {cells slots : Nat} {Q : State → Prop} {cc : ByteArray} {pc : Nat} {ls : Array Slot} {rest : List Value} {D : va_G} {cy : Cy} {T : Ty} {M : Mm} {R : Rm} {A : Nat → Prop} {own : String} {n : Nat} {ret : Option FieldType} {index a : Nat} (C : Cx own cc n ret p s m args meth c D cy A) (hP : va_P D vwCl (WL cy T M R) H) (ha : isK T a 0 = true) (hl : Cond.fieldLink own index "IceTongue$Band" "length" "I" ∈ GW) (hdg : decode cc pc = .ok (.getfield index, 3)) (kk : W p l e Rr s m args below meth c H locs cells slots Q (F0 m (pc + 3) ls (.int (gI M a 2) :: rest))) : W p l e Rr s m args below meth c H locs cells slots Q (F0 m pc ls (.ref a :: rest)) := by
  obtain ⟨hx, hb, -, hml, hown, hts, hK, hA, -, hSt⟩ := C
  obtain ⟨q, hq⟩ := wl_get (cy := cy) (M := M) (R := R) ha
  rw [ce_0 (isK_knd ha)] at hq
  exact va_get (D := D) (ci := 0) (v := .int (gI M a 2)) (C := RX0) (T := TX0) (N := 7) hx hb hts inlX0 hown hK hP q hq rfl 2 (by decide) (hts _ hl) (fun _ h9 => h9) rfl hdg kk
theorem pe_0_2 {cy : Cy} {T : Ty} {M : Mm} {R : Rm} {a : Nat} {x : Int32} (ha : isK T a 0 = true) (y : Nat) : va_up (ce cy T M R) a (.inr (0, ([va_rf (R a 0), .int (M.1 a 1), .int (M.1 a 2), .int (M.1 a 3), .int (M.1 a 4), .int (M.1 a 5), .int (M.1 a 6)] : List Value).set 2 (.int x))) y = ce cy T (sI M a 2 x) R y := by
  have hk := isK_knd ha
  unfold va_up
  by_cases h : y = a
  · subst h
    rw [if_pos rfl, ce_0 hk]
    simp [sI, sJ, up2, va_rf]
  · rw [if_neg h]
    exact ce_congr (by first | rfl | exact up2_ne h) (by first | rfl | exact up2_ne h) (by first | rfl | exact up2_ne h)
theorem pf_0_2 {p : Program} {l : Launch} {e : Env} {Rr : Room} {s : State} {m : MethodId} {args : Array Value} {below : List Frame} {meth : Method} {c : Code} {H : Heap} {locs : List Loc} {cells slots : Nat} {Q : State → Prop} {cc : ByteArray} {pc : Nat} {ls : Array Slot} {rest : List Value} {D : va_G} {cy : Cy} {T : Ty} {M : Mm} {R : Rm} {A : Nat → Prop} {own : String} {n : Nat} {ret : Option FieldType} {index a : Nat} {x : Int32} (C : Cx own cc n ret p s m args meth c D cy A) (hP : va_P D vwCl (WL cy T M R) H) (hD : va_D A (WL cy T M R)) (hS : va_S A s.heap H locs) (ha : isK T a 0 = true) (hl : Cond.fieldLink own index "IceTongue$Band" "length" "I" ∈ GW) (hdg : decode cc pc = .ok (.putfield index, 3)) (kk : ∀ (M1 : Mm) (H1 : Heap) (locs1 : List Loc), M1 = sI M a 2 x → va_P D vwCl (WL cy T M1 R) H1 → va_D A (WL cy T M1 R) → va_S A s.heap H1 locs1 → W p l e Rr s m args below meth c H1 locs1 cells slots Q (F0 m (pc + 3) ls rest)) : W p l e Rr s m args below meth c H locs cells slots Q (F0 m pc ls (.int x :: .ref a :: rest)) := by
  obtain ⟨hx, hb, -, hml, hown, hts, hK, hA, -, hSt⟩ := C
  obtain ⟨q, hq⟩ := wl_get (cy := cy) (M := M) (R := R) ha
  have hq0 := hq
  rw [ce_0 (isK_knd ha)] at hq
  refine va_put (D := D) (ci := 0) (v := .int x) (ty := .int) (C := RX0) (T := TX0) (N := 7) hx hb hts inlX0 tyX0 tyX0_ok nmX0 hown hK hP hD hS q hq rfl 2 (by decide) (hts _ hl) (fun _ h9 => h9) rfl (by decide +kernel) rfl rfl (Nat.le_of_ble_eq_true rfl) hdg (fun H1 locs1 hP1 hD1 hS1 => ?_)
  rw [wl_set hD ha hq0 (pe_0_2 ha)] at hP1 hD1
  exact kk _ H1 locs1 rfl hP1 hD1 hS1
theorem gf_0_3 {p : Program} {l : Launch} {e : Env} {Rr : Room} {s : State} {m : MethodId} {args : Array Value} {below : List Frame} {meth : Method} {c : Code} {H : Heap} {locs : List Loc} {cells slots : Nat} {Q : State → Prop} {cc : ByteArray} {pc : Nat} {ls : Array Slot} {rest : List Value} {D : va_G} {cy : Cy} {T : Ty} {M : Mm} {R : Rm} {A : Nat → Prop} {own : String} {n : Nat} {ret : Option FieldType} {index a : Nat} (C : Cx own cc n ret p s m args meth c D cy A) (hP : va_P D vwCl (WL cy T M R) H) (ha : isK T a 0 = true) (hl : Cond.fieldLink own index "IceTongue$Band" "creep" "I" ∈ GW) (hdg : decode cc pc = .ok (.getfield index, 3)) (kk : W p l e Rr s m args below meth c H locs cells slots Q (F0 m (pc + 3) ls (.int (gI M a 3) :: rest))) : W p l e Rr s m args below meth c H locs cells slots Q (F0 m pc ls (.ref a :: rest)) := by
  obtain ⟨hx, hb, -, hml, hown, hts, hK, hA, -, hSt⟩ := C
  obtain ⟨q, hq⟩ := wl_get (cy := cy) (M := M) (R := R) ha
  rw [ce_0 (isK_knd ha)] at hq
  exact va_get (D := D) (ci := 0) (v := .int (gI M a 3)) (C := RX0) (T := TX0) (N := 7) hx hb hts inlX0 hown hK hP q hq rfl 3 (by decide) (hts _ hl) (fun _ h9 => h9) rfl hdg kk
theorem pe_0_3 {cy : Cy} {T : Ty} {M : Mm} {R : Rm} {a : Nat} {x : Int32} (ha : isK T a 0 = true) (y : Nat) : va_up (ce cy T M R) a (.inr (0, ([va_rf (R a 0), .int (M.1 a 1), .int (M.1 a 2), .int (M.1 a 3), .int (M.1 a 4), .int (M.1 a 5), .int (M.1 a 6)] : List Value).set 3 (.int x))) y = ce cy T (sI M a 3 x) R y := by
  have hk := isK_knd ha
  unfold va_up
  by_cases h : y = a
  · subst h
    rw [if_pos rfl, ce_0 hk]
    simp [sI, sJ, up2, va_rf]
  · rw [if_neg h]
    exact ce_congr (by first | rfl | exact up2_ne h) (by first | rfl | exact up2_ne h) (by first | rfl | exact up2_ne h)
theorem pf_0_3 {p : Program} {l : Launch} {e : Env} {Rr : Room} {s : State} {m : MethodId} {args : Array Value} {below : List Frame} {meth : Method} {c : Code} {H : Heap} {locs : List Loc} {cells slots : Nat} {Q : State → Prop} {cc : ByteArray} {pc : Nat} {ls : Array Slot} {rest : List Value} {D : va_G} {cy : Cy} {T : Ty} {M : Mm} {R : Rm} {A : Nat → Prop} {own : String} {n : Nat} {ret : Option FieldType} {index a : Nat} {x : Int32} (C : Cx own cc n ret p s m args meth c D cy A) (hP : va_P D vwCl (WL cy T M R) H) (hD : va_D A (WL cy T M R)) (hS : va_S A s.heap H locs) (ha : isK T a 0 = true) (hl : Cond.fieldLink own index "IceTongue$Band" "creep" "I" ∈ GW) (hdg : decode cc pc = .ok (.putfield index, 3)) (kk : ∀ (M1 : Mm) (H1 : Heap) (locs1 : List Loc), M1 = sI M a 3 x → va_P D vwCl (WL cy T M1 R) H1 → va_D A (WL cy T M1 R) → va_S A s.heap H1 locs1 → W p l e Rr s m args below meth c H1 locs1 cells slots Q (F0 m (pc + 3) ls rest)) : W p l e Rr s m args below meth c H locs cells slots Q (F0 m pc ls (.int x :: .ref a :: rest)) := by
  obtain ⟨hx, hb, -, hml, hown, hts, hK, hA, -, hSt⟩ := C
  obtain ⟨q, hq⟩ := wl_get (cy := cy) (M := M) (R := R) ha
  have hq0 := hq
  rw [ce_0 (isK_knd ha)] at hq
  refine va_put (D := D) (ci := 0) (v := .int x) (ty := .int) (C := RX0) (T := TX0) (N := 7) hx hb hts inlX0 tyX0 tyX0_ok nmX0 hown hK hP hD hS q hq rfl 3 (by decide) (hts _ hl) (fun _ h9 => h9) rfl (by decide +kernel) rfl rfl (Nat.le_of_ble_eq_true rfl) hdg (fun H1 locs1 hP1 hD1 hS1 => ?_)
  rw [wl_set hD ha hq0 (pe_0_3 ha)] at hP1 hD1
  exact kk _ H1 locs1 rfl hP1 hD1 hS1
theorem gf_0_4 {p : Program} {l : Launch} {e : Env} {Rr : Room} {s : State} {m : MethodId} {args : Array Value} {below : List Frame} {meth : Method} {c : Code} {H : Heap} {locs : List Loc} {cells slots : Nat} {Q : State → Prop} {cc : ByteArray} {pc : Nat} {ls : Array Slot} {rest : List Value} {D : va_G} {cy : Cy} {T : Ty} {M : Mm} {R : Rm} {A : Nat → Prop} {own : String} {n : Nat} {ret : Option FieldType} {index a : Nat} (C : Cx own cc n ret p s m args meth c D cy A) (hP : va_P D vwCl (WL cy T M R) H) (ha : isK T a 0 = true) (hl : Cond.fieldLink own index "IceTongue$Band" "melted" "I" ∈ GW) (hdg : decode cc pc = .ok (.getfield index, 3)) (kk : W p l e Rr s m args below meth c H locs cells slots Q (F0 m (pc + 3) ls (.int (gI M a 4) :: rest))) : W p l e Rr s m args below meth c H locs cells slots Q (F0 m pc ls (.ref a :: rest)) := by
  obtain ⟨hx, hb, -, hml, hown, hts, hK, hA, -, hSt⟩ := C
  obtain ⟨q, hq⟩ := wl_get (cy := cy) (M := M) (R := R) ha
  rw [ce_0 (isK_knd ha)] at hq
  exact va_get (D := D) (ci := 0) (v := .int (gI M a 4)) (C := RX0) (T := TX0) (N := 7) hx hb hts inlX0 hown hK hP q hq rfl 4 (by decide) (hts _ hl) (fun _ h9 => h9) rfl hdg kk
theorem pe_0_4 {cy : Cy} {T : Ty} {M : Mm} {R : Rm} {a : Nat} {x : Int32} (ha : isK T a 0 = true) (y : Nat) : va_up (ce cy T M R) a (.inr (0, ([va_rf (R a 0), .int (M.1 a 1), .int (M.1 a 2), .int (M.1 a 3), .int (M.1 a 4), .int (M.1 a 5), .int (M.1 a 6)] : List Value).set 4 (.int x))) y = ce cy T (sI M a 4 x) R y := by
  have hk := isK_knd ha
  unfold va_up
  by_cases h : y = a
  · subst h
    rw [if_pos rfl, ce_0 hk]
    simp [sI, sJ, up2, va_rf]
  · rw [if_neg h]
    exact ce_congr (by first | rfl | exact up2_ne h) (by first | rfl | exact up2_ne h) (by first | rfl | exact up2_ne h)
theorem pf_0_4 {p : Program} {l : Launch} {e : Env} {Rr : Room} {s : State} {m : MethodId} {args : Array Value} {below : List Frame} {meth : Method} {c : Code} {H : Heap} {locs : List Loc} {cells slots : Nat} {Q : State → Prop} {cc : ByteArray} {pc : Nat} {ls : Array Slot} {rest : List Value} {D : va_G} {cy : Cy} {T : Ty} {M : Mm} {R : Rm} {A : Nat → Prop} {own : String} {n : Nat} {ret : Option FieldType} {index a : Nat} {x : Int32} (C : Cx own cc n ret p s m args meth c D cy A) (hP : va_P D vwCl (WL cy T M R) H) (hD : va_D A (WL cy T M R)) (hS : va_S A s.heap H locs) (ha : isK T a 0 = true) (hl : Cond.fieldLink own index "IceTongue$Band" "melted" "I" ∈ GW) (hdg : decode cc pc = .ok (.putfield index, 3)) (kk : ∀ (M1 : Mm) (H1 : Heap) (locs1 : List Loc), M1 = sI M a 4 x → va_P D vwCl (WL cy T M1 R) H1 → va_D A (WL cy T M1 R) → va_S A s.heap H1 locs1 → W p l e Rr s m args below meth c H1 locs1 cells slots Q (F0 m (pc + 3) ls rest)) : W p l e Rr s m args below meth c H locs cells slots Q (F0 m pc ls (.int x :: .ref a :: rest)) := by
  obtain ⟨hx, hb, -, hml, hown, hts, hK, hA, -, hSt⟩ := C
  obtain ⟨q, hq⟩ := wl_get (cy := cy) (M := M) (R := R) ha
  have hq0 := hq
  rw [ce_0 (isK_knd ha)] at hq
  refine va_put (D := D) (ci := 0) (v := .int x) (ty := .int) (C := RX0) (T := TX0) (N := 7) hx hb hts inlX0 tyX0 tyX0_ok nmX0 hown hK hP hD hS q hq rfl 4 (by decide) (hts _ hl) (fun _ h9 => h9) rfl (by decide +kernel) rfl rfl (Nat.le_of_ble_eq_true rfl) hdg (fun H1 locs1 hP1 hD1 hS1 => ?_)
  rw [wl_set hD ha hq0 (pe_0_4 ha)] at hP1 hD1
  exact kk _ H1 locs1 rfl hP1 hD1 hS1
theorem gf_0_5 {p : Program} {l : Launch} {e : Env} {Rr : Room} {s : State} {m : MethodId} {args : Array Value} {below : List Frame} {meth : Method} {c : Code} {H : Heap} {locs : List Loc} {cells slots : Nat} {Q : State → Prop} {cc : ByteArray} {pc : Nat} {ls : Array Slot} {rest : List Value} {D : va_G} {cy : Cy} {T : Ty} {M : Mm} {R : Rm} {A : Nat → Prop} {own : String} {n : Nat} {ret : Option FieldType} {index a : Nat} (C : Cx own cc n ret p s m args meth c D cy A) (hP : va_P D vwCl (WL cy T M R) H) (ha : isK T a 0 = true) (hl : Cond.fieldLink own index "IceTongue$Band" "gave" "I" ∈ GW) (hdg : decode cc pc = .ok (.getfield index, 3)) (kk : W p l e Rr s m args below meth c H locs cells slots Q (F0 m (pc + 3) ls (.int (gI M a 5) :: rest))) : W p l e Rr s m args below meth c H locs cells slots Q (F0 m pc ls (.ref a :: rest)) := by
  obtain ⟨hx, hb, -, hml, hown, hts, hK, hA, -, hSt⟩ := C
  obtain ⟨q, hq⟩ := wl_get (cy := cy) (M := M) (R := R) ha
  rw [ce_0 (isK_knd ha)] at hq
  exact va_get (D := D) (ci := 0) (v := .int (gI M a 5)) (C := RX0) (T := TX0) (N := 7) hx hb hts inlX0 hown hK hP q hq rfl 5 (by decide) (hts _ hl) (fun _ h9 => h9) rfl hdg kk
theorem pe_0_5 {cy : Cy} {T : Ty} {M : Mm} {R : Rm} {a : Nat} {x : Int32} (ha : isK T a 0 = true) (y : Nat) : va_up (ce cy T M R) a (.inr (0, ([va_rf (R a 0), .int (M.1 a 1), .int (M.1 a 2), .int (M.1 a 3), .int (M.1 a 4), .int (M.1 a 5), .int (M.1 a 6)] : List Value).set 5 (.int x))) y = ce cy T (sI M a 5 x) R y := by
  have hk := isK_knd ha
  unfold va_up
  by_cases h : y = a
  · subst h
    rw [if_pos rfl, ce_0 hk]
    simp [sI, sJ, up2, va_rf]
  · rw [if_neg h]
    exact ce_congr (by first | rfl | exact up2_ne h) (by first | rfl | exact up2_ne h) (by first | rfl | exact up2_ne h)
theorem pf_0_5 {p : Program} {l : Launch} {e : Env} {Rr : Room} {s : State} {m : MethodId} {args : Array Value} {below : List Frame} {meth : Method} {c : Code} {H : Heap} {locs : List Loc} {cells slots : Nat} {Q : State → Prop} {cc : ByteArray} {pc : Nat} {ls : Array Slot} {rest : List Value} {D : va_G} {cy : Cy} {T : Ty} {M : Mm} {R : Rm} {A : Nat → Prop} {own : String} {n : Nat} {ret : Option FieldType} {index a : Nat} {x : Int32} (C : Cx own cc n ret p s m args meth c D cy A) (hP : va_P D vwCl (WL cy T M R) H) (hD : va_D A (WL cy T M R)) (hS : va_S A s.heap H locs) (ha : isK T a 0 = true) (hl : Cond.fieldLink own index "IceTongue$Band" "gave" "I" ∈ GW) (hdg : decode cc pc = .ok (.putfield index, 3)) (kk : ∀ (M1 : Mm) (H1 : Heap) (locs1 : List Loc), M1 = sI M a 5 x → va_P D vwCl (WL cy T M1 R) H1 → va_D A (WL cy T M1 R) → va_S A s.heap H1 locs1 → W p l e Rr s m args below meth c H1 locs1 cells slots Q (F0 m (pc + 3) ls rest)) : W p l e Rr s m args below meth c H locs cells slots Q (F0 m pc ls (.int x :: .ref a :: rest)) := by
  obtain ⟨hx, hb, -, hml, hown, hts, hK, hA, -, hSt⟩ := C
  obtain ⟨q, hq⟩ := wl_get (cy := cy) (M := M) (R := R) ha
  have hq0 := hq
  rw [ce_0 (isK_knd ha)] at hq
  refine va_put (D := D) (ci := 0) (v := .int x) (ty := .int) (C := RX0) (T := TX0) (N := 7) hx hb hts inlX0 tyX0 tyX0_ok nmX0 hown hK hP hD hS q hq rfl 5 (by decide) (hts _ hl) (fun _ h9 => h9) rfl (by decide +kernel) rfl rfl (Nat.le_of_ble_eq_true rfl) hdg (fun H1 locs1 hP1 hD1 hS1 => ?_)
  rw [wl_set hD ha hq0 (pe_0_5 ha)] at hP1 hD1
  exact kk _ H1 locs1 rfl hP1 hD1 hS1
theorem gf_0_6 {p : Program} {l : Launch} {e : Env} {Rr : Room} {s : State} {m : MethodId} {args : Array Value} {below : List Frame} {meth : Method} {c : Code} {H : Heap} {locs : List Loc} {cells slots : Nat} {Q : State → Prop} {cc : ByteArray} {pc : Nat} {ls : Array Slot} {rest : List Value} {D : va_G} {cy : Cy} {T : Ty} {M : Mm} {R : Rm} {A : Nat → Prop} {own : String} {n : Nat} {ret : Option FieldType} {index a : Nat} (C : Cx own cc n ret p s m args meth c D cy A) (hP : va_P D vwCl (WL cy T M R) H) (ha : isK T a 0 = true) (hl : Cond.fieldLink own index "IceTongue$Band" "got" "I" ∈ GW) (hdg : decode cc pc = .ok (.getfield index, 3)) (kk : W p l e Rr s m args below meth c H locs cells slots Q (F0 m (pc + 3) ls (.int (gI M a 6) :: rest))) : W p l e Rr s m args below meth c H locs cells slots Q (F0 m pc ls (.ref a :: rest)) := by
  obtain ⟨hx, hb, -, hml, hown, hts, hK, hA, -, hSt⟩ := C
  obtain ⟨q, hq⟩ := wl_get (cy := cy) (M := M) (R := R) ha
  rw [ce_0 (isK_knd ha)] at hq
  exact va_get (D := D) (ci := 0) (v := .int (gI M a 6)) (C := RX0) (T := TX0) (N := 7) hx hb hts inlX0 hown hK hP q hq rfl 6 (by decide) (hts _ hl) (fun _ h9 => h9) rfl hdg kk
theorem pe_0_6 {cy : Cy} {T : Ty} {M : Mm} {R : Rm} {a : Nat} {x : Int32} (ha : isK T a 0 = true) (y : Nat) : va_up (ce cy T M R) a (.inr (0, ([va_rf (R a 0), .int (M.1 a 1), .int (M.1 a 2), .int (M.1 a 3), .int (M.1 a 4), .int (M.1 a 5), .int (M.1 a 6)] : List Value).set 6 (.int x))) y = ce cy T (sI M a 6 x) R y := by
  have hk := isK_knd ha
  unfold va_up
  by_cases h : y = a
  · subst h
    rw [if_pos rfl, ce_0 hk]
    simp [sI, sJ, up2, va_rf]
  · rw [if_neg h]
    exact ce_congr (by first | rfl | exact up2_ne h) (by first | rfl | exact up2_ne h) (by first | rfl | exact up2_ne h)
theorem pf_0_6 {p : Program} {l : Launch} {e : Env} {Rr : Room} {s : State} {m : MethodId} {args : Array Value} {below : List Frame} {meth : Method} {c : Code} {H : Heap} {locs : List Loc} {cells slots : Nat} {Q : State → Prop} {cc : ByteArray} {pc : Nat} {ls : Array Slot} {rest : List Value} {D : va_G} {cy : Cy} {T : Ty} {M : Mm} {R : Rm} {A : Nat → Prop} {own : String} {n : Nat} {ret : Option FieldType} {index a : Nat} {x : Int32} (C : Cx own cc n ret p s m args meth c D cy A) (hP : va_P D vwCl (WL cy T M R) H) (hD : va_D A (WL cy T M R)) (hS : va_S A s.heap H locs) (ha : isK T a 0 = true) (hl : Cond.fieldLink own index "IceTongue$Band" "got" "I" ∈ GW) (hdg : decode cc pc = .ok (.putfield index, 3)) (kk : ∀ (M1 : Mm) (H1 : Heap) (locs1 : List Loc), M1 = sI M a 6 x → va_P D vwCl (WL cy T M1 R) H1 → va_D A (WL cy T M1 R) → va_S A s.heap H1 locs1 → W p l e Rr s m args below meth c H1 locs1 cells slots Q (F0 m (pc + 3) ls rest)) : W p l e Rr s m args below meth c H locs cells slots Q (F0 m pc ls (.int x :: .ref a :: rest)) := by
  obtain ⟨hx, hb, -, hml, hown, hts, hK, hA, -, hSt⟩ := C
  obtain ⟨q, hq⟩ := wl_get (cy := cy) (M := M) (R := R) ha
  have hq0 := hq
  rw [ce_0 (isK_knd ha)] at hq
  refine va_put (D := D) (ci := 0) (v := .int x) (ty := .int) (C := RX0) (T := TX0) (N := 7) hx hb hts inlX0 tyX0 tyX0_ok nmX0 hown hK hP hD hS q hq rfl 6 (by decide) (hts _ hl) (fun _ h9 => h9) rfl (by decide +kernel) rfl rfl (Nat.le_of_ble_eq_true rfl) hdg (fun H1 locs1 hP1 hD1 hS1 => ?_)
  rw [wl_set hD ha hq0 (pe_0_6 ha)] at hP1 hD1
  exact kk _ H1 locs1 rfl hP1 hD1 hS1
theorem gf_1_0 {p : Program} {l : Launch} {e : Env} {Rr : Room} {s : State} {m : MethodId} {args : Array Value} {below : List Frame} {meth : Method} {c : Code} {H : Heap} {locs : List Loc} {cells slots : Nat} {Q : State → Prop} {cc : ByteArray} {pc : Nat} {ls : Array Slot} {rest : List Value} {D : va_G} {cy : Cy} {T : Ty} {M : Mm} {R : Rm} {A : Nat → Prop} {own : String} {n : Nat} {ret : Option FieldType} {index a : Nat} (C : Cx own cc n ret p s m args meth c D cy A) (hP : va_P D vwCl (WL cy T M R) H) (ha : isK T a 1 = true) (hl : Cond.fieldLink own index "IceTongue$Front" "ice" "I" ∈ GW) (hdg : decode cc pc = .ok (.getfield index, 3)) (kk : W p l e Rr s m args below meth c H locs cells slots Q (F0 m (pc + 3) ls (.int (gI M a 0) :: rest))) : W p l e Rr s m args below meth c H locs cells slots Q (F0 m pc ls (.ref a :: rest)) := by
  obtain ⟨hx, hb, -, hml, hown, hts, hK, hA, -, hSt⟩ := C
  obtain ⟨q, hq⟩ := wl_get (cy := cy) (M := M) (R := R) ha
  rw [ce_1 (isK_knd ha)] at hq
  exact va_get (D := D) (ci := 1) (v := .int (gI M a 0)) (C := RX1) (T := TX1) (N := 4) hx hb hts inlX1 hown hK hP q hq rfl 0 (by decide) (hts _ hl) (fun _ h9 => h9) rfl hdg kk
theorem pe_1_0 {cy : Cy} {T : Ty} {M : Mm} {R : Rm} {a : Nat} {x : Int32} (ha : isK T a 1 = true) (y : Nat) : va_up (ce cy T M R) a (.inr (1, ([.int (M.1 a 0), .int (M.1 a 1), .int (M.1 a 2), .int (M.1 a 3)] : List Value).set 0 (.int x))) y = ce cy T (sI M a 0 x) R y := by
  have hk := isK_knd ha
  unfold va_up
  by_cases h : y = a
  · subst h
    rw [if_pos rfl, ce_1 hk]
    simp [sI, sJ, up2, va_rf]
  · rw [if_neg h]
    exact ce_congr (by first | rfl | exact up2_ne h) (by first | rfl | exact up2_ne h) (by first | rfl | exact up2_ne h)
theorem pf_1_0 {p : Program} {l : Launch} {e : Env} {Rr : Room} {s : State} {m : MethodId} {args : Array Value} {below : List Frame} {meth : Method} {c : Code} {H : Heap} {locs : List Loc} {cells slots : Nat} {Q : State → Prop} {cc : ByteArray} {pc : Nat} {ls : Array Slot} {rest : List Value} {D : va_G} {cy : Cy} {T : Ty} {M : Mm} {R : Rm} {A : Nat → Prop} {own : String} {n : Nat} {ret : Option FieldType} {index a : Nat} {x : Int32} (C : Cx own cc n ret p s m args meth c D cy A) (hP : va_P D vwCl (WL cy T M R) H) (hD : va_D A (WL cy T M R)) (hS : va_S A s.heap H locs) (ha : isK T a 1 = true) (hl : Cond.fieldLink own index "IceTongue$Front" "ice" "I" ∈ GW) (hdg : decode cc pc = .ok (.putfield index, 3)) (kk : ∀ (M1 : Mm) (H1 : Heap) (locs1 : List Loc), M1 = sI M a 0 x → va_P D vwCl (WL cy T M1 R) H1 → va_D A (WL cy T M1 R) → va_S A s.heap H1 locs1 → W p l e Rr s m args below meth c H1 locs1 cells slots Q (F0 m (pc + 3) ls rest)) : W p l e Rr s m args below meth c H locs cells slots Q (F0 m pc ls (.int x :: .ref a :: rest)) := by
  obtain ⟨hx, hb, -, hml, hown, hts, hK, hA, -, hSt⟩ := C
  obtain ⟨q, hq⟩ := wl_get (cy := cy) (M := M) (R := R) ha
  have hq0 := hq
  rw [ce_1 (isK_knd ha)] at hq
  refine va_put (D := D) (ci := 1) (v := .int x) (ty := .int) (C := RX1) (T := TX1) (N := 4) hx hb hts inlX1 tyX1 tyX1_ok nmX1 hown hK hP hD hS q hq rfl 0 (by decide) (hts _ hl) (fun _ h9 => h9) rfl (by decide +kernel) rfl rfl (Nat.le_of_ble_eq_true rfl) hdg (fun H1 locs1 hP1 hD1 hS1 => ?_)
  rw [wl_set hD ha hq0 (pe_1_0 ha)] at hP1 hD1
  exact kk _ H1 locs1 rfl hP1 hD1 hS1
theorem gf_1_1 {p : Program} {l : Launch} {e : Env} {Rr : Room} {s : State} {m : MethodId} {args : Array Value} {below : List Frame} {meth : Method} {c : Code} {H : Heap} {locs : List Loc} {cells slots : Nat} {Q : State → Prop} {cc : ByteArray} {pc : Nat} {ls : Array Slot} {rest : List Value} {D : va_G} {cy : Cy} {T : Ty} {M : Mm} {R : Rm} {A : Nat → Prop} {own : String} {n : Nat} {ret : Option FieldType} {index a : Nat} (C : Cx own cc n ret p s m args meth c D cy A) (hP : va_P D vwCl (WL cy T M R) H) (ha : isK T a 1 = true) (hl : Cond.fieldLink own index "IceTongue$Front" "rest" "I" ∈ GW) (hdg : decode cc pc = .ok (.getfield index, 3)) (kk : W p l e Rr s m args below meth c H locs cells slots Q (F0 m (pc + 3) ls (.int (gI M a 1) :: rest))) : W p l e Rr s m args below meth c H locs cells slots Q (F0 m pc ls (.ref a :: rest)) := by
  obtain ⟨hx, hb, -, hml, hown, hts, hK, hA, -, hSt⟩ := C
  obtain ⟨q, hq⟩ := wl_get (cy := cy) (M := M) (R := R) ha
  rw [ce_1 (isK_knd ha)] at hq
  exact va_get (D := D) (ci := 1) (v := .int (gI M a 1)) (C := RX1) (T := TX1) (N := 4) hx hb hts inlX1 hown hK hP q hq rfl 1 (by decide) (hts _ hl) (fun _ h9 => h9) rfl hdg kk
theorem pe_1_1 {cy : Cy} {T : Ty} {M : Mm} {R : Rm} {a : Nat} {x : Int32} (ha : isK T a 1 = true) (y : Nat) : va_up (ce cy T M R) a (.inr (1, ([.int (M.1 a 0), .int (M.1 a 1), .int (M.1 a 2), .int (M.1 a 3)] : List Value).set 1 (.int x))) y = ce cy T (sI M a 1 x) R y := by
  have hk := isK_knd ha
  unfold va_up
  by_cases h : y = a
  · subst h
    rw [if_pos rfl, ce_1 hk]
    simp [sI, sJ, up2, va_rf]
  · rw [if_neg h]
    exact ce_congr (by first | rfl | exact up2_ne h) (by first | rfl | exact up2_ne h) (by first | rfl | exact up2_ne h)
theorem pf_1_1 {p : Program} {l : Launch} {e : Env} {Rr : Room} {s : State} {m : MethodId} {args : Array Value} {below : List Frame} {meth : Method} {c : Code} {H : Heap} {locs : List Loc} {cells slots : Nat} {Q : State → Prop} {cc : ByteArray} {pc : Nat} {ls : Array Slot} {rest : List Value} {D : va_G} {cy : Cy} {T : Ty} {M : Mm} {R : Rm} {A : Nat → Prop} {own : String} {n : Nat} {ret : Option FieldType} {index a : Nat} {x : Int32} (C : Cx own cc n ret p s m args meth c D cy A) (hP : va_P D vwCl (WL cy T M R) H) (hD : va_D A (WL cy T M R)) (hS : va_S A s.heap H locs) (ha : isK T a 1 = true) (hl : Cond.fieldLink own index "IceTongue$Front" "rest" "I" ∈ GW) (hdg : decode cc pc = .ok (.putfield index, 3)) (kk : ∀ (M1 : Mm) (H1 : Heap) (locs1 : List Loc), M1 = sI M a 1 x → va_P D vwCl (WL cy T M1 R) H1 → va_D A (WL cy T M1 R) → va_S A s.heap H1 locs1 → W p l e Rr s m args below meth c H1 locs1 cells slots Q (F0 m (pc + 3) ls rest)) : W p l e Rr s m args below meth c H locs cells slots Q (F0 m pc ls (.int x :: .ref a :: rest)) := by
  obtain ⟨hx, hb, -, hml, hown, hts, hK, hA, -, hSt⟩ := C
  obtain ⟨q, hq⟩ := wl_get (cy := cy) (M := M) (R := R) ha
  have hq0 := hq
  rw [ce_1 (isK_knd ha)] at hq
  refine va_put (D := D) (ci := 1) (v := .int x) (ty := .int) (C := RX1) (T := TX1) (N := 4) hx hb hts inlX1 tyX1 tyX1_ok nmX1 hown hK hP hD hS q hq rfl 1 (by decide) (hts _ hl) (fun _ h9 => h9) rfl (by decide +kernel) rfl rfl (Nat.le_of_ble_eq_true rfl) hdg (fun H1 locs1 hP1 hD1 hS1 => ?_)
  rw [wl_set hD ha hq0 (pe_1_1 ha)] at hP1 hD1
  exact kk _ H1 locs1 rfl hP1 hD1 hS1
theorem gf_1_2 {p : Program} {l : Launch} {e : Env} {Rr : Room} {s : State} {m : MethodId} {args : Array Value} {below : List Frame} {meth : Method} {c : Code} {H : Heap} {locs : List Loc} {cells slots : Nat} {Q : State → Prop} {cc : ByteArray} {pc : Nat} {ls : Array Slot} {rest : List Value} {D : va_G} {cy : Cy} {T : Ty} {M : Mm} {R : Rm} {A : Nat → Prop} {own : String} {n : Nat} {ret : Option FieldType} {index a : Nat} (C : Cx own cc n ret p s m args meth c D cy A) (hP : va_P D vwCl (WL cy T M R) H) (ha : isK T a 1 = true) (hl : Cond.fieldLink own index "IceTongue$Front" "pieces" "I" ∈ GW) (hdg : decode cc pc = .ok (.getfield index, 3)) (kk : W p l e Rr s m args below meth c H locs cells slots Q (F0 m (pc + 3) ls (.int (gI M a 2) :: rest))) : W p l e Rr s m args below meth c H locs cells slots Q (F0 m pc ls (.ref a :: rest)) := by
  obtain ⟨hx, hb, -, hml, hown, hts, hK, hA, -, hSt⟩ := C
  obtain ⟨q, hq⟩ := wl_get (cy := cy) (M := M) (R := R) ha
  rw [ce_1 (isK_knd ha)] at hq
  exact va_get (D := D) (ci := 1) (v := .int (gI M a 2)) (C := RX1) (T := TX1) (N := 4) hx hb hts inlX1 hown hK hP q hq rfl 2 (by decide) (hts _ hl) (fun _ h9 => h9) rfl hdg kk
theorem pe_1_2 {cy : Cy} {T : Ty} {M : Mm} {R : Rm} {a : Nat} {x : Int32} (ha : isK T a 1 = true) (y : Nat) : va_up (ce cy T M R) a (.inr (1, ([.int (M.1 a 0), .int (M.1 a 1), .int (M.1 a 2), .int (M.1 a 3)] : List Value).set 2 (.int x))) y = ce cy T (sI M a 2 x) R y := by
  have hk := isK_knd ha
  unfold va_up
  by_cases h : y = a
  · subst h
    rw [if_pos rfl, ce_1 hk]
    simp [sI, sJ, up2, va_rf]
  · rw [if_neg h]
    exact ce_congr (by first | rfl | exact up2_ne h) (by first | rfl | exact up2_ne h) (by first | rfl | exact up2_ne h)
theorem pf_1_2 {p : Program} {l : Launch} {e : Env} {Rr : Room} {s : State} {m : MethodId} {args : Array Value} {below : List Frame} {meth : Method} {c : Code} {H : Heap} {locs : List Loc} {cells slots : Nat} {Q : State → Prop} {cc : ByteArray} {pc : Nat} {ls : Array Slot} {rest : List Value} {D : va_G} {cy : Cy} {T : Ty} {M : Mm} {R : Rm} {A : Nat → Prop} {own : String} {n : Nat} {ret : Option FieldType} {index a : Nat} {x : Int32} (C : Cx own cc n ret p s m args meth c D cy A) (hP : va_P D vwCl (WL cy T M R) H) (hD : va_D A (WL cy T M R)) (hS : va_S A s.heap H locs) (ha : isK T a 1 = true) (hl : Cond.fieldLink own index "IceTongue$Front" "pieces" "I" ∈ GW) (hdg : decode cc pc = .ok (.putfield index, 3)) (kk : ∀ (M1 : Mm) (H1 : Heap) (locs1 : List Loc), M1 = sI M a 2 x → va_P D vwCl (WL cy T M1 R) H1 → va_D A (WL cy T M1 R) → va_S A s.heap H1 locs1 → W p l e Rr s m args below meth c H1 locs1 cells slots Q (F0 m (pc + 3) ls rest)) : W p l e Rr s m args below meth c H locs cells slots Q (F0 m pc ls (.int x :: .ref a :: rest)) := by
  obtain ⟨hx, hb, -, hml, hown, hts, hK, hA, -, hSt⟩ := C
  obtain ⟨q, hq⟩ := wl_get (cy := cy) (M := M) (R := R) ha
  have hq0 := hq
  rw [ce_1 (isK_knd ha)] at hq
  refine va_put (D := D) (ci := 1) (v := .int x) (ty := .int) (C := RX1) (T := TX1) (N := 4) hx hb hts inlX1 tyX1 tyX1_ok nmX1 hown hK hP hD hS q hq rfl 2 (by decide) (hts _ hl) (fun _ h9 => h9) rfl (by decide +kernel) rfl rfl (Nat.le_of_ble_eq_true rfl) hdg (fun H1 locs1 hP1 hD1 hS1 => ?_)
  rw [wl_set hD ha hq0 (pe_1_2 ha)] at hP1 hD1
  exact kk _ H1 locs1 rfl hP1 hD1 hS1
theorem gf_1_3 {p : Program} {l : Launch} {e : Env} {Rr : Room} {s : State} {m : MethodId} {args : Array Value} {below : List Frame} {meth : Method} {c : Code} {H : Heap} {locs : List Loc} {cells slots : Nat} {Q : State → Prop} {cc : ByteArray} {pc : Nat} {ls : Array Slot} {rest : List Value} {D : va_G} {cy : Cy} {T : Ty} {M : Mm} {R : Rm} {A : Nat → Prop} {own : String} {n : Nat} {ret : Option FieldType} {index a : Nat} (C : Cx own cc n ret p s m args meth c D cy A) (hP : va_P D vwCl (WL cy T M R) H) (ha : isK T a 1 = true) (hl : Cond.fieldLink own index "IceTongue$Front" "latestCalving" "I" ∈ GW) (hdg : decode cc pc = .ok (.getfield index, 3)) (kk : W p l e Rr s m args below meth c H locs cells slots Q (F0 m (pc + 3) ls (.int (gI M a 3) :: rest))) : W p l e Rr s m args below meth c H locs cells slots Q (F0 m pc ls (.ref a :: rest)) := by
  obtain ⟨hx, hb, -, hml, hown, hts, hK, hA, -, hSt⟩ := C
  obtain ⟨q, hq⟩ := wl_get (cy := cy) (M := M) (R := R) ha
  rw [ce_1 (isK_knd ha)] at hq
  exact va_get (D := D) (ci := 1) (v := .int (gI M a 3)) (C := RX1) (T := TX1) (N := 4) hx hb hts inlX1 hown hK hP q hq rfl 3 (by decide) (hts _ hl) (fun _ h9 => h9) rfl hdg kk
theorem pe_1_3 {cy : Cy} {T : Ty} {M : Mm} {R : Rm} {a : Nat} {x : Int32} (ha : isK T a 1 = true) (y : Nat) : va_up (ce cy T M R) a (.inr (1, ([.int (M.1 a 0), .int (M.1 a 1), .int (M.1 a 2), .int (M.1 a 3)] : List Value).set 3 (.int x))) y = ce cy T (sI M a 3 x) R y := by
  have hk := isK_knd ha
  unfold va_up
  by_cases h : y = a
  · subst h
    rw [if_pos rfl, ce_1 hk]
    simp [sI, sJ, up2, va_rf]
  · rw [if_neg h]
    exact ce_congr (by first | rfl | exact up2_ne h) (by first | rfl | exact up2_ne h) (by first | rfl | exact up2_ne h)
theorem pf_1_3 {p : Program} {l : Launch} {e : Env} {Rr : Room} {s : State} {m : MethodId} {args : Array Value} {below : List Frame} {meth : Method} {c : Code} {H : Heap} {locs : List Loc} {cells slots : Nat} {Q : State → Prop} {cc : ByteArray} {pc : Nat} {ls : Array Slot} {rest : List Value} {D : va_G} {cy : Cy} {T : Ty} {M : Mm} {R : Rm} {A : Nat → Prop} {own : String} {n : Nat} {ret : Option FieldType} {index a : Nat} {x : Int32} (C : Cx own cc n ret p s m args meth c D cy A) (hP : va_P D vwCl (WL cy T M R) H) (hD : va_D A (WL cy T M R)) (hS : va_S A s.heap H locs) (ha : isK T a 1 = true) (hl : Cond.fieldLink own index "IceTongue$Front" "latestCalving" "I" ∈ GW) (hdg : decode cc pc = .ok (.putfield index, 3)) (kk : ∀ (M1 : Mm) (H1 : Heap) (locs1 : List Loc), M1 = sI M a 3 x → va_P D vwCl (WL cy T M1 R) H1 → va_D A (WL cy T M1 R) → va_S A s.heap H1 locs1 → W p l e Rr s m args below meth c H1 locs1 cells slots Q (F0 m (pc + 3) ls rest)) : W p l e Rr s m args below meth c H locs cells slots Q (F0 m pc ls (.int x :: .ref a :: rest)) := by
  obtain ⟨hx, hb, -, hml, hown, hts, hK, hA, -, hSt⟩ := C
  obtain ⟨q, hq⟩ := wl_get (cy := cy) (M := M) (R := R) ha
  have hq0 := hq
  rw [ce_1 (isK_knd ha)] at hq
  refine va_put (D := D) (ci := 1) (v := .int x) (ty := .int) (C := RX1) (T := TX1) (N := 4) hx hb hts inlX1 tyX1 tyX1_ok nmX1 hown hK hP hD hS q hq rfl 3 (by decide) (hts _ hl) (fun _ h9 => h9) rfl (by decide +kernel) rfl rfl (Nat.le_of_ble_eq_true rfl) hdg (fun H1 locs1 hP1 hD1 hS1 => ?_)
  rw [wl_set hD ha hq0 (pe_1_3 ha)] at hP1 hD1
  exact kk _ H1 locs1 rfl hP1 hD1 hS1
theorem gf_2_0 {p : Program} {l : Launch} {e : Env} {Rr : Room} {s : State} {m : MethodId} {args : Array Value} {below : List Frame} {meth : Method} {c : Code} {H : Heap} {locs : List Loc} {cells slots : Nat} {Q : State → Prop} {cc : ByteArray} {pc : Nat} {ls : Array Slot} {rest : List Value} {D : va_G} {cy : Cy} {T : Ty} {M : Mm} {R : Rm} {A : Nat → Prop} {own : String} {n : Nat} {ret : Option FieldType} {index a : Nat} (C : Cx own cc n ret p s m args meth c D cy A) (hP : va_P D vwCl (WL cy T M R) H) (ha : isK T a 2 = true) {b : Nat} (eb : R a 0 = some b) (hl : Cond.fieldLink own index "IceTongue$Layers" "left" "[I" ∈ GW) (hdg : decode cc pc = .ok (.getfield index, 3)) (kk : W p l e Rr s m args below meth c H locs cells slots Q (F0 m (pc + 3) ls (.ref b :: rest))) : W p l e Rr s m args below meth c H locs cells slots Q (F0 m pc ls (.ref a :: rest)) := by
  obtain ⟨hx, hb, -, hml, hown, hts, hK, hA, -, hSt⟩ := C
  obtain ⟨q, hq⟩ := wl_get (cy := cy) (M := M) (R := R) ha
  rw [ce_2 (isK_knd ha)] at hq
  exact va_get (D := D) (ci := 2) (v := .ref b) (C := RX2) (T := TX2) (N := 4) hx hb hts inlX2 hown hK hP q hq rfl 0 (by decide) (hts _ hl) (fun _ h9 => h9) (show some (va_rf (R a 0)) = some (.ref b) from by rw [eb]; rfl) hdg kk
theorem pe_2_0 {cy : Cy} {T : Ty} {M : Mm} {R : Rm} {a : Nat} {b : Nat} (ha : isK T a 2 = true) (y : Nat) : va_up (ce cy T M R) a (.inr (2, ([va_rf (R a 0), .int (M.1 a 1), .int (M.1 a 2), .int (M.1 a 3)] : List Value).set 0 (.ref b))) y = ce cy T M (up2 R a 0 (some b)) y := by
  have hk := isK_knd ha
  unfold va_up
  by_cases h : y = a
  · subst h
    rw [if_pos rfl, ce_2 hk]
    simp [sI, sJ, up2, va_rf]
  · rw [if_neg h]
    exact ce_congr (by first | rfl | exact up2_ne h) (by first | rfl | exact up2_ne h) (by first | rfl | exact up2_ne h)
theorem pf_2_0 {p : Program} {l : Launch} {e : Env} {Rr : Room} {s : State} {m : MethodId} {args : Array Value} {below : List Frame} {meth : Method} {c : Code} {H : Heap} {locs : List Loc} {cells slots : Nat} {Q : State → Prop} {cc : ByteArray} {pc : Nat} {ls : Array Slot} {rest : List Value} {D : va_G} {cy : Cy} {T : Ty} {M : Mm} {R : Rm} {A : Nat → Prop} {own : String} {n : Nat} {ret : Option FieldType} {index a : Nat} {b : Nat} (C : Cx own cc n ret p s m args meth c D cy A) (hP : va_P D vwCl (WL cy T M R) H) (hD : va_D A (WL cy T M R)) (hS : va_S A s.heap H locs) (ha : isK T a 2 = true) (hl : Cond.fieldLink own index "IceTongue$Layers" "left" "[I" ∈ GW) (hin : meth.name = "<init>") (hO : (TX2 0).1 = own) (hdg : decode cc pc = .ok (.putfield index, 3)) (kk : ∀ (R1 : Rm) (H1 : Heap) (locs1 : List Loc), R1 = up2 R a 0 (some b) → va_P D vwCl (WL cy T M R1) H1 → va_D A (WL cy T M R1) → va_S A s.heap H1 locs1 → W p l e Rr s m args below meth c H1 locs1 cells slots Q (F0 m (pc + 3) ls rest)) : W p l e Rr s m args below meth c H locs cells slots Q (F0 m pc ls (.ref b :: .ref a :: rest)) := by
  obtain ⟨hx, hb, -, hml, hown, hts, hK, hA, -, hSt⟩ := C
  obtain ⟨q, hq⟩ := wl_get (cy := cy) (M := M) (R := R) ha
  have hq0 := hq
  rw [ce_2 (isK_knd ha)] at hq
  refine va_putF (D := D) (ci := 2) (v := .ref b) (ty := (tyX2 0)) (C := RX2) (T := TX2) (N := 4) hx hb hts inlX2 tyX2 tyX2_ok nmX2 hown hK hP hD hS q hq rfl 0 (by decide) (hts _ hl) (fun _ h9 => h9) rfl hin hO (by decide +kernel) rfl rfl (Nat.le_of_ble_eq_true rfl) hdg (fun H1 locs1 hP1 hD1 hS1 => ?_)
  rw [wl_set hD ha hq0 (pe_2_0 ha)] at hP1 hD1
  exact kk _ H1 locs1 rfl hP1 hD1 hS1
theorem gf_2_1 {p : Program} {l : Launch} {e : Env} {Rr : Room} {s : State} {m : MethodId} {args : Array Value} {below : List Frame} {meth : Method} {c : Code} {H : Heap} {locs : List Loc} {cells slots : Nat} {Q : State → Prop} {cc : ByteArray} {pc : Nat} {ls : Array Slot} {rest : List Value} {D : va_G} {cy : Cy} {T : Ty} {M : Mm} {R : Rm} {A : Nat → Prop} {own : String} {n : Nat} {ret : Option FieldType} {index a : Nat} (C : Cx own cc n ret p s m args meth c D cy A) (hP : va_P D vwCl (WL cy T M R) H) (ha : isK T a 2 = true) (hl : Cond.fieldLink own index "IceTongue$Layers" "ice" "I" ∈ GW) (hdg : decode cc pc = .ok (.getfield index, 3)) (kk : W p l e Rr s m args below meth c H locs cells slots Q (F0 m (pc + 3) ls (.int (gI M a 1) :: rest))) : W p l e Rr s m args below meth c H locs cells slots Q (F0 m pc ls (.ref a :: rest)) := by
  obtain ⟨hx, hb, -, hml, hown, hts, hK, hA, -, hSt⟩ := C
  obtain ⟨q, hq⟩ := wl_get (cy := cy) (M := M) (R := R) ha
  rw [ce_2 (isK_knd ha)] at hq
  exact va_get (D := D) (ci := 2) (v := .int (gI M a 1)) (C := RX2) (T := TX2) (N := 4) hx hb hts inlX2 hown hK hP q hq rfl 1 (by decide) (hts _ hl) (fun _ h9 => h9) rfl hdg kk
theorem pe_2_1 {cy : Cy} {T : Ty} {M : Mm} {R : Rm} {a : Nat} {x : Int32} (ha : isK T a 2 = true) (y : Nat) : va_up (ce cy T M R) a (.inr (2, ([va_rf (R a 0), .int (M.1 a 1), .int (M.1 a 2), .int (M.1 a 3)] : List Value).set 1 (.int x))) y = ce cy T (sI M a 1 x) R y := by
  have hk := isK_knd ha
  unfold va_up
  by_cases h : y = a
  · subst h
    rw [if_pos rfl, ce_2 hk]
    simp [sI, sJ, up2, va_rf]
  · rw [if_neg h]
    exact ce_congr (by first | rfl | exact up2_ne h) (by first | rfl | exact up2_ne h) (by first | rfl | exact up2_ne h)
theorem pf_2_1 {p : Program} {l : Launch} {e : Env} {Rr : Room} {s : State} {m : MethodId} {args : Array Value} {below : List Frame} {meth : Method} {c : Code} {H : Heap} {locs : List Loc} {cells slots : Nat} {Q : State → Prop} {cc : ByteArray} {pc : Nat} {ls : Array Slot} {rest : List Value} {D : va_G} {cy : Cy} {T : Ty} {M : Mm} {R : Rm} {A : Nat → Prop} {own : String} {n : Nat} {ret : Option FieldType} {index a : Nat} {x : Int32} (C : Cx own cc n ret p s m args meth c D cy A) (hP : va_P D vwCl (WL cy T M R) H) (hD : va_D A (WL cy T M R)) (hS : va_S A s.heap H locs) (ha : isK T a 2 = true) (hl : Cond.fieldLink own index "IceTongue$Layers" "ice" "I" ∈ GW) (hdg : decode cc pc = .ok (.putfield index, 3)) (kk : ∀ (M1 : Mm) (H1 : Heap) (locs1 : List Loc), M1 = sI M a 1 x → va_P D vwCl (WL cy T M1 R) H1 → va_D A (WL cy T M1 R) → va_S A s.heap H1 locs1 → W p l e Rr s m args below meth c H1 locs1 cells slots Q (F0 m (pc + 3) ls rest)) : W p l e Rr s m args below meth c H locs cells slots Q (F0 m pc ls (.int x :: .ref a :: rest)) := by
  obtain ⟨hx, hb, -, hml, hown, hts, hK, hA, -, hSt⟩ := C
  obtain ⟨q, hq⟩ := wl_get (cy := cy) (M := M) (R := R) ha
  have hq0 := hq
  rw [ce_2 (isK_knd ha)] at hq
  refine va_put (D := D) (ci := 2) (v := .int x) (ty := .int) (C := RX2) (T := TX2) (N := 4) hx hb hts inlX2 tyX2 tyX2_ok nmX2 hown hK hP hD hS q hq rfl 1 (by decide) (hts _ hl) (fun _ h9 => h9) rfl (by decide +kernel) rfl rfl (Nat.le_of_ble_eq_true rfl) hdg (fun H1 locs1 hP1 hD1 hS1 => ?_)
  rw [wl_set hD ha hq0 (pe_2_1 ha)] at hP1 hD1
  exact kk _ H1 locs1 rfl hP1 hD1 hS1
theorem gf_2_2 {p : Program} {l : Launch} {e : Env} {Rr : Room} {s : State} {m : MethodId} {args : Array Value} {below : List Frame} {meth : Method} {c : Code} {H : Heap} {locs : List Loc} {cells slots : Nat} {Q : State → Prop} {cc : ByteArray} {pc : Nat} {ls : Array Slot} {rest : List Value} {D : va_G} {cy : Cy} {T : Ty} {M : Mm} {R : Rm} {A : Nat → Prop} {own : String} {n : Nat} {ret : Option FieldType} {index a : Nat} (C : Cx own cc n ret p s m args meth c D cy A) (hP : va_P D vwCl (WL cy T M R) H) (ha : isK T a 2 = true) (hl : Cond.fieldLink own index "IceTongue$Layers" "oldest" "I" ∈ GW) (hdg : decode cc pc = .ok (.getfield index, 3)) (kk : W p l e Rr s m args below meth c H locs cells slots Q (F0 m (pc + 3) ls (.int (gI M a 2) :: rest))) : W p l e Rr s m args below meth c H locs cells slots Q (F0 m pc ls (.ref a :: rest)) := by
  obtain ⟨hx, hb, -, hml, hown, hts, hK, hA, -, hSt⟩ := C
  obtain ⟨q, hq⟩ := wl_get (cy := cy) (M := M) (R := R) ha
  rw [ce_2 (isK_knd ha)] at hq
  exact va_get (D := D) (ci := 2) (v := .int (gI M a 2)) (C := RX2) (T := TX2) (N := 4) hx hb hts inlX2 hown hK hP q hq rfl 2 (by decide) (hts _ hl) (fun _ h9 => h9) rfl hdg kk
theorem pe_2_2 {cy : Cy} {T : Ty} {M : Mm} {R : Rm} {a : Nat} {x : Int32} (ha : isK T a 2 = true) (y : Nat) : va_up (ce cy T M R) a (.inr (2, ([va_rf (R a 0), .int (M.1 a 1), .int (M.1 a 2), .int (M.1 a 3)] : List Value).set 2 (.int x))) y = ce cy T (sI M a 2 x) R y := by
  have hk := isK_knd ha
  unfold va_up
  by_cases h : y = a
  · subst h
    rw [if_pos rfl, ce_2 hk]
    simp [sI, sJ, up2, va_rf]
  · rw [if_neg h]
    exact ce_congr (by first | rfl | exact up2_ne h) (by first | rfl | exact up2_ne h) (by first | rfl | exact up2_ne h)
theorem pf_2_2 {p : Program} {l : Launch} {e : Env} {Rr : Room} {s : State} {m : MethodId} {args : Array Value} {below : List Frame} {meth : Method} {c : Code} {H : Heap} {locs : List Loc} {cells slots : Nat} {Q : State → Prop} {cc : ByteArray} {pc : Nat} {ls : Array Slot} {rest : List Value} {D : va_G} {cy : Cy} {T : Ty} {M : Mm} {R : Rm} {A : Nat → Prop} {own : String} {n : Nat} {ret : Option FieldType} {index a : Nat} {x : Int32} (C : Cx own cc n ret p s m args meth c D cy A) (hP : va_P D vwCl (WL cy T M R) H) (hD : va_D A (WL cy T M R)) (hS : va_S A s.heap H locs) (ha : isK T a 2 = true) (hl : Cond.fieldLink own index "IceTongue$Layers" "oldest" "I" ∈ GW) (hdg : decode cc pc = .ok (.putfield index, 3)) (kk : ∀ (M1 : Mm) (H1 : Heap) (locs1 : List Loc), M1 = sI M a 2 x → va_P D vwCl (WL cy T M1 R) H1 → va_D A (WL cy T M1 R) → va_S A s.heap H1 locs1 → W p l e Rr s m args below meth c H1 locs1 cells slots Q (F0 m (pc + 3) ls rest)) : W p l e Rr s m args below meth c H locs cells slots Q (F0 m pc ls (.int x :: .ref a :: rest)) := by
  obtain ⟨hx, hb, -, hml, hown, hts, hK, hA, -, hSt⟩ := C
  obtain ⟨q, hq⟩ := wl_get (cy := cy) (M := M) (R := R) ha
  have hq0 := hq
  rw [ce_2 (isK_knd ha)] at hq
  refine va_put (D := D) (ci := 2) (v := .int x) (ty := .int) (C := RX2) (T := TX2) (N := 4) hx hb hts inlX2 tyX2 tyX2_ok nmX2 hown hK hP hD hS q hq rfl 2 (by decide) (hts _ hl) (fun _ h9 => h9) rfl (by decide +kernel) rfl rfl (Nat.le_of_ble_eq_true rfl) hdg (fun H1 locs1 hP1 hD1 hS1 => ?_)
  rw [wl_set hD ha hq0 (pe_2_2 ha)] at hP1 hD1
  exact kk _ H1 locs1 rfl hP1 hD1 hS1
theorem gf_2_3 {p : Program} {l : Launch} {e : Env} {Rr : Room} {s : State} {m : MethodId} {args : Array Value} {below : List Frame} {meth : Method} {c : Code} {H : Heap} {locs : List Loc} {cells slots : Nat} {Q : State → Prop} {cc : ByteArray} {pc : Nat} {ls : Array Slot} {rest : List Value} {D : va_G} {cy : Cy} {T : Ty} {M : Mm} {R : Rm} {A : Nat → Prop} {own : String} {n : Nat} {ret : Option FieldType} {index a : Nat} (C : Cx own cc n ret p s m args meth c D cy A) (hP : va_P D vwCl (WL cy T M R) H) (ha : isK T a 2 = true) (hl : Cond.fieldLink own index "IceTongue$Layers" "latest" "I" ∈ GW) (hdg : decode cc pc = .ok (.getfield index, 3)) (kk : W p l e Rr s m args below meth c H locs cells slots Q (F0 m (pc + 3) ls (.int (gI M a 3) :: rest))) : W p l e Rr s m args below meth c H locs cells slots Q (F0 m pc ls (.ref a :: rest)) := by
  obtain ⟨hx, hb, -, hml, hown, hts, hK, hA, -, hSt⟩ := C
  obtain ⟨q, hq⟩ := wl_get (cy := cy) (M := M) (R := R) ha
  rw [ce_2 (isK_knd ha)] at hq
  exact va_get (D := D) (ci := 2) (v := .int (gI M a 3)) (C := RX2) (T := TX2) (N := 4) hx hb hts inlX2 hown hK hP q hq rfl 3 (by decide) (hts _ hl) (fun _ h9 => h9) rfl hdg kk
theorem pe_2_3 {cy : Cy} {T : Ty} {M : Mm} {R : Rm} {a : Nat} {x : Int32} (ha : isK T a 2 = true) (y : Nat) : va_up (ce cy T M R) a (.inr (2, ([va_rf (R a 0), .int (M.1 a 1), .int (M.1 a 2), .int (M.1 a 3)] : List Value).set 3 (.int x))) y = ce cy T (sI M a 3 x) R y := by
  have hk := isK_knd ha
  unfold va_up
  by_cases h : y = a
  · subst h
    rw [if_pos rfl, ce_2 hk]
    simp [sI, sJ, up2, va_rf]
  · rw [if_neg h]
    exact ce_congr (by first | rfl | exact up2_ne h) (by first | rfl | exact up2_ne h) (by first | rfl | exact up2_ne h)
theorem pf_2_3 {p : Program} {l : Launch} {e : Env} {Rr : Room} {s : State} {m : MethodId} {args : Array Value} {below : List Frame} {meth : Method} {c : Code} {H : Heap} {locs : List Loc} {cells slots : Nat} {Q : State → Prop} {cc : ByteArray} {pc : Nat} {ls : Array Slot} {rest : List Value} {D : va_G} {cy : Cy} {T : Ty} {M : Mm} {R : Rm} {A : Nat → Prop} {own : String} {n : Nat} {ret : Option FieldType} {index a : Nat} {x : Int32} (C : Cx own cc n ret p s m args meth c D cy A) (hP : va_P D vwCl (WL cy T M R) H) (hD : va_D A (WL cy T M R)) (hS : va_S A s.heap H locs) (ha : isK T a 2 = true) (hl : Cond.fieldLink own index "IceTongue$Layers" "latest" "I" ∈ GW) (hdg : decode cc pc = .ok (.putfield index, 3)) (kk : ∀ (M1 : Mm) (H1 : Heap) (locs1 : List Loc), M1 = sI M a 3 x → va_P D vwCl (WL cy T M1 R) H1 → va_D A (WL cy T M1 R) → va_S A s.heap H1 locs1 → W p l e Rr s m args below meth c H1 locs1 cells slots Q (F0 m (pc + 3) ls rest)) : W p l e Rr s m args below meth c H locs cells slots Q (F0 m pc ls (.int x :: .ref a :: rest)) := by
  obtain ⟨hx, hb, -, hml, hown, hts, hK, hA, -, hSt⟩ := C
  obtain ⟨q, hq⟩ := wl_get (cy := cy) (M := M) (R := R) ha
  have hq0 := hq
  rw [ce_2 (isK_knd ha)] at hq
  refine va_put (D := D) (ci := 2) (v := .int x) (ty := .int) (C := RX2) (T := TX2) (N := 4) hx hb hts inlX2 tyX2 tyX2_ok nmX2 hown hK hP hD hS q hq rfl 3 (by decide) (hts _ hl) (fun _ h9 => h9) rfl (by decide +kernel) rfl rfl (Nat.le_of_ble_eq_true rfl) hdg (fun H1 locs1 hP1 hD1 hS1 => ?_)
  rw [wl_set hD ha hq0 (pe_2_3 ha)] at hP1 hD1
  exact kk _ H1 locs1 rfl hP1 hD1 hS1
theorem gf_3_0 {p : Program} {l : Launch} {e : Env} {Rr : Room} {s : State} {m : MethodId} {args : Array Value} {below : List Frame} {meth : Method} {c : Code} {H : Heap} {locs : List Loc} {cells slots : Nat} {Q : State → Prop} {cc : ByteArray} {pc : Nat} {ls : Array Slot} {rest : List Value} {D : va_G} {cy : Cy} {T : Ty} {M : Mm} {R : Rm} {A : Nat → Prop} {own : String} {n : Nat} {ret : Option FieldType} {index a : Nat} (C : Cx own cc n ret p s m args meth c D cy A) (hP : va_P D vwCl (WL cy T M R) H) (ha : isK T a 3 = true) (hl : Cond.fieldLink own index "IceTongue$Stake" "band" "I" ∈ GW) (hdg : decode cc pc = .ok (.getfield index, 3)) (kk : W p l e Rr s m args below meth c H locs cells slots Q (F0 m (pc + 3) ls (.int (gI M a 0) :: rest))) : W p l e Rr s m args below meth c H locs cells slots Q (F0 m pc ls (.ref a :: rest)) := by
  obtain ⟨hx, hb, -, hml, hown, hts, hK, hA, -, hSt⟩ := C
  obtain ⟨q, hq⟩ := wl_get (cy := cy) (M := M) (R := R) ha
  rw [ce_3 (isK_knd ha)] at hq
  exact va_get (D := D) (ci := 3) (v := .int (gI M a 0)) (C := RX3) (T := TX3) (N := 6) hx hb hts inlX3 hown hK hP q hq rfl 0 (by decide) (hts _ hl) (fun _ h9 => h9) rfl hdg kk
theorem pe_3_0 {cy : Cy} {T : Ty} {M : Mm} {R : Rm} {a : Nat} {x : Int32} (ha : isK T a 3 = true) (y : Nat) : va_up (ce cy T M R) a (.inr (3, ([.int (M.1 a 0), .int (M.1 a 1), .int (M.1 a 2), .int (M.1 a 3), .int (M.1 a 4), .int (M.1 a 5)] : List Value).set 0 (.int x))) y = ce cy T (sI M a 0 x) R y := by
  have hk := isK_knd ha
  unfold va_up
  by_cases h : y = a
  · subst h
    rw [if_pos rfl, ce_3 hk]
    simp [sI, sJ, up2, va_rf]
  · rw [if_neg h]
    exact ce_congr (by first | rfl | exact up2_ne h) (by first | rfl | exact up2_ne h) (by first | rfl | exact up2_ne h)
theorem pf_3_0 {p : Program} {l : Launch} {e : Env} {Rr : Room} {s : State} {m : MethodId} {args : Array Value} {below : List Frame} {meth : Method} {c : Code} {H : Heap} {locs : List Loc} {cells slots : Nat} {Q : State → Prop} {cc : ByteArray} {pc : Nat} {ls : Array Slot} {rest : List Value} {D : va_G} {cy : Cy} {T : Ty} {M : Mm} {R : Rm} {A : Nat → Prop} {own : String} {n : Nat} {ret : Option FieldType} {index a : Nat} {x : Int32} (C : Cx own cc n ret p s m args meth c D cy A) (hP : va_P D vwCl (WL cy T M R) H) (hD : va_D A (WL cy T M R)) (hS : va_S A s.heap H locs) (ha : isK T a 3 = true) (hl : Cond.fieldLink own index "IceTongue$Stake" "band" "I" ∈ GW) (hdg : decode cc pc = .ok (.putfield index, 3)) (kk : ∀ (M1 : Mm) (H1 : Heap) (locs1 : List Loc), M1 = sI M a 0 x → va_P D vwCl (WL cy T M1 R) H1 → va_D A (WL cy T M1 R) → va_S A s.heap H1 locs1 → W p l e Rr s m args below meth c H1 locs1 cells slots Q (F0 m (pc + 3) ls rest)) : W p l e Rr s m args below meth c H locs cells slots Q (F0 m pc ls (.int x :: .ref a :: rest)) := by
  obtain ⟨hx, hb, -, hml, hown, hts, hK, hA, -, hSt⟩ := C
  obtain ⟨q, hq⟩ := wl_get (cy := cy) (M := M) (R := R) ha
  have hq0 := hq
  rw [ce_3 (isK_knd ha)] at hq
  refine va_put (D := D) (ci := 3) (v := .int x) (ty := .int) (C := RX3) (T := TX3) (N := 6) hx hb hts inlX3 tyX3 tyX3_ok nmX3 hown hK hP hD hS q hq rfl 0 (by decide) (hts _ hl) (fun _ h9 => h9) rfl (by decide +kernel) rfl rfl (Nat.le_of_ble_eq_true rfl) hdg (fun H1 locs1 hP1 hD1 hS1 => ?_)
  rw [wl_set hD ha hq0 (pe_3_0 ha)] at hP1 hD1
  exact kk _ H1 locs1 rfl hP1 hD1 hS1
theorem gf_3_1 {p : Program} {l : Launch} {e : Env} {Rr : Room} {s : State} {m : MethodId} {args : Array Value} {below : List Frame} {meth : Method} {c : Code} {H : Heap} {locs : List Loc} {cells slots : Nat} {Q : State → Prop} {cc : ByteArray} {pc : Nat} {ls : Array Slot} {rest : List Value} {D : va_G} {cy : Cy} {T : Ty} {M : Mm} {R : Rm} {A : Nat → Prop} {own : String} {n : Nat} {ret : Option FieldType} {index a : Nat} (C : Cx own cc n ret p s m args meth c D cy A) (hP : va_P D vwCl (WL cy T M R) H) (ha : isK T a 3 = true) (hl : Cond.fieldLink own index "IceTongue$Stake" "place" "I" ∈ GW) (hdg : decode cc pc = .ok (.getfield index, 3)) (kk : W p l e Rr s m args below meth c H locs cells slots Q (F0 m (pc + 3) ls (.int (gI M a 1) :: rest))) : W p l e Rr s m args below meth c H locs cells slots Q (F0 m pc ls (.ref a :: rest)) := by
  obtain ⟨hx, hb, -, hml, hown, hts, hK, hA, -, hSt⟩ := C
  obtain ⟨q, hq⟩ := wl_get (cy := cy) (M := M) (R := R) ha
  rw [ce_3 (isK_knd ha)] at hq
  exact va_get (D := D) (ci := 3) (v := .int (gI M a 1)) (C := RX3) (T := TX3) (N := 6) hx hb hts inlX3 hown hK hP q hq rfl 1 (by decide) (hts _ hl) (fun _ h9 => h9) rfl hdg kk
theorem pe_3_1 {cy : Cy} {T : Ty} {M : Mm} {R : Rm} {a : Nat} {x : Int32} (ha : isK T a 3 = true) (y : Nat) : va_up (ce cy T M R) a (.inr (3, ([.int (M.1 a 0), .int (M.1 a 1), .int (M.1 a 2), .int (M.1 a 3), .int (M.1 a 4), .int (M.1 a 5)] : List Value).set 1 (.int x))) y = ce cy T (sI M a 1 x) R y := by
  have hk := isK_knd ha
  unfold va_up
  by_cases h : y = a
  · subst h
    rw [if_pos rfl, ce_3 hk]
    simp [sI, sJ, up2, va_rf]
  · rw [if_neg h]
    exact ce_congr (by first | rfl | exact up2_ne h) (by first | rfl | exact up2_ne h) (by first | rfl | exact up2_ne h)
theorem pf_3_1 {p : Program} {l : Launch} {e : Env} {Rr : Room} {s : State} {m : MethodId} {args : Array Value} {below : List Frame} {meth : Method} {c : Code} {H : Heap} {locs : List Loc} {cells slots : Nat} {Q : State → Prop} {cc : ByteArray} {pc : Nat} {ls : Array Slot} {rest : List Value} {D : va_G} {cy : Cy} {T : Ty} {M : Mm} {R : Rm} {A : Nat → Prop} {own : String} {n : Nat} {ret : Option FieldType} {index a : Nat} {x : Int32} (C : Cx own cc n ret p s m args meth c D cy A) (hP : va_P D vwCl (WL cy T M R) H) (hD : va_D A (WL cy T M R)) (hS : va_S A s.heap H locs) (ha : isK T a 3 = true) (hl : Cond.fieldLink own index "IceTongue$Stake" "place" "I" ∈ GW) (hdg : decode cc pc = .ok (.putfield index, 3)) (kk : ∀ (M1 : Mm) (H1 : Heap) (locs1 : List Loc), M1 = sI M a 1 x → va_P D vwCl (WL cy T M1 R) H1 → va_D A (WL cy T M1 R) → va_S A s.heap H1 locs1 → W p l e Rr s m args below meth c H1 locs1 cells slots Q (F0 m (pc + 3) ls rest)) : W p l e Rr s m args below meth c H locs cells slots Q (F0 m pc ls (.int x :: .ref a :: rest)) := by
  obtain ⟨hx, hb, -, hml, hown, hts, hK, hA, -, hSt⟩ := C
  obtain ⟨q, hq⟩ := wl_get (cy := cy) (M := M) (R := R) ha
  have hq0 := hq
  rw [ce_3 (isK_knd ha)] at hq
  refine va_put (D := D) (ci := 3) (v := .int x) (ty := .int) (C := RX3) (T := TX3) (N := 6) hx hb hts inlX3 tyX3 tyX3_ok nmX3 hown hK hP hD hS q hq rfl 1 (by decide) (hts _ hl) (fun _ h9 => h9) rfl (by decide +kernel) rfl rfl (Nat.le_of_ble_eq_true rfl) hdg (fun H1 locs1 hP1 hD1 hS1 => ?_)
  rw [wl_set hD ha hq0 (pe_3_1 ha)] at hP1 hD1
  exact kk _ H1 locs1 rfl hP1 hD1 hS1
theorem gf_3_2 {p : Program} {l : Launch} {e : Env} {Rr : Room} {s : State} {m : MethodId} {args : Array Value} {below : List Frame} {meth : Method} {c : Code} {H : Heap} {locs : List Loc} {cells slots : Nat} {Q : State → Prop} {cc : ByteArray} {pc : Nat} {ls : Array Slot} {rest : List Value} {D : va_G} {cy : Cy} {T : Ty} {M : Mm} {R : Rm} {A : Nat → Prop} {own : String} {n : Nat} {ret : Option FieldType} {index a : Nat} (C : Cx own cc n ret p s m args meth c D cy A) (hP : va_P D vwCl (WL cy T M R) H) (ha : isK T a 3 = true) (hl : Cond.fieldLink own index "IceTongue$Stake" "depth" "I" ∈ GW) (hdg : decode cc pc = .ok (.getfield index, 3)) (kk : W p l e Rr s m args below meth c H locs cells slots Q (F0 m (pc + 3) ls (.int (gI M a 2) :: rest))) : W p l e Rr s m args below meth c H locs cells slots Q (F0 m pc ls (.ref a :: rest)) := by
  obtain ⟨hx, hb, -, hml, hown, hts, hK, hA, -, hSt⟩ := C
  obtain ⟨q, hq⟩ := wl_get (cy := cy) (M := M) (R := R) ha
  rw [ce_3 (isK_knd ha)] at hq
  exact va_get (D := D) (ci := 3) (v := .int (gI M a 2)) (C := RX3) (T := TX3) (N := 6) hx hb hts inlX3 hown hK hP q hq rfl 2 (by decide) (hts _ hl) (fun _ h9 => h9) rfl hdg kk
theorem pe_3_2 {cy : Cy} {T : Ty} {M : Mm} {R : Rm} {a : Nat} {x : Int32} (ha : isK T a 3 = true) (y : Nat) : va_up (ce cy T M R) a (.inr (3, ([.int (M.1 a 0), .int (M.1 a 1), .int (M.1 a 2), .int (M.1 a 3), .int (M.1 a 4), .int (M.1 a 5)] : List Value).set 2 (.int x))) y = ce cy T (sI M a 2 x) R y := by
  have hk := isK_knd ha
  unfold va_up
  by_cases h : y = a
  · subst h
    rw [if_pos rfl, ce_3 hk]
    simp [sI, sJ, up2, va_rf]
  · rw [if_neg h]
    exact ce_congr (by first | rfl | exact up2_ne h) (by first | rfl | exact up2_ne h) (by first | rfl | exact up2_ne h)
theorem pf_3_2 {p : Program} {l : Launch} {e : Env} {Rr : Room} {s : State} {m : MethodId} {args : Array Value} {below : List Frame} {meth : Method} {c : Code} {H : Heap} {locs : List Loc} {cells slots : Nat} {Q : State → Prop} {cc : ByteArray} {pc : Nat} {ls : Array Slot} {rest : List Value} {D : va_G} {cy : Cy} {T : Ty} {M : Mm} {R : Rm} {A : Nat → Prop} {own : String} {n : Nat} {ret : Option FieldType} {index a : Nat} {x : Int32} (C : Cx own cc n ret p s m args meth c D cy A) (hP : va_P D vwCl (WL cy T M R) H) (hD : va_D A (WL cy T M R)) (hS : va_S A s.heap H locs) (ha : isK T a 3 = true) (hl : Cond.fieldLink own index "IceTongue$Stake" "depth" "I" ∈ GW) (hdg : decode cc pc = .ok (.putfield index, 3)) (kk : ∀ (M1 : Mm) (H1 : Heap) (locs1 : List Loc), M1 = sI M a 2 x → va_P D vwCl (WL cy T M1 R) H1 → va_D A (WL cy T M1 R) → va_S A s.heap H1 locs1 → W p l e Rr s m args below meth c H1 locs1 cells slots Q (F0 m (pc + 3) ls rest)) : W p l e Rr s m args below meth c H locs cells slots Q (F0 m pc ls (.int x :: .ref a :: rest)) := by
  obtain ⟨hx, hb, -, hml, hown, hts, hK, hA, -, hSt⟩ := C
  obtain ⟨q, hq⟩ := wl_get (cy := cy) (M := M) (R := R) ha
  have hq0 := hq
  rw [ce_3 (isK_knd ha)] at hq
  refine va_put (D := D) (ci := 3) (v := .int x) (ty := .int) (C := RX3) (T := TX3) (N := 6) hx hb hts inlX3 tyX3 tyX3_ok nmX3 hown hK hP hD hS q hq rfl 2 (by decide) (hts _ hl) (fun _ h9 => h9) rfl (by decide +kernel) rfl rfl (Nat.le_of_ble_eq_true rfl) hdg (fun H1 locs1 hP1 hD1 hS1 => ?_)
  rw [wl_set hD ha hq0 (pe_3_2 ha)] at hP1 hD1
  exact kk _ H1 locs1 rfl hP1 hD1 hS1
theorem gf_3_3 {p : Program} {l : Launch} {e : Env} {Rr : Room} {s : State} {m : MethodId} {args : Array Value} {below : List Frame} {meth : Method} {c : Code} {H : Heap} {locs : List Loc} {cells slots : Nat} {Q : State → Prop} {cc : ByteArray} {pc : Nat} {ls : Array Slot} {rest : List Value} {D : va_G} {cy : Cy} {T : Ty} {M : Mm} {R : Rm} {A : Nat → Prop} {own : String} {n : Nat} {ret : Option FieldType} {index a : Nat} (C : Cx own cc n ret p s m args meth c D cy A) (hP : va_P D vwCl (WL cy T M R) H) (ha : isK T a 3 = true) (hl : Cond.fieldLink own index "IceTongue$Stake" "change" "I" ∈ GW) (hdg : decode cc pc = .ok (.getfield index, 3)) (kk : W p l e Rr s m args below meth c H locs cells slots Q (F0 m (pc + 3) ls (.int (gI M a 3) :: rest))) : W p l e Rr s m args below meth c H locs cells slots Q (F0 m pc ls (.ref a :: rest)) := by
  obtain ⟨hx, hb, -, hml, hown, hts, hK, hA, -, hSt⟩ := C
  obtain ⟨q, hq⟩ := wl_get (cy := cy) (M := M) (R := R) ha
  rw [ce_3 (isK_knd ha)] at hq
  exact va_get (D := D) (ci := 3) (v := .int (gI M a 3)) (C := RX3) (T := TX3) (N := 6) hx hb hts inlX3 hown hK hP q hq rfl 3 (by decide) (hts _ hl) (fun _ h9 => h9) rfl hdg kk
theorem pe_3_3 {cy : Cy} {T : Ty} {M : Mm} {R : Rm} {a : Nat} {x : Int32} (ha : isK T a 3 = true) (y : Nat) : va_up (ce cy T M R) a (.inr (3, ([.int (M.1 a 0), .int (M.1 a 1), .int (M.1 a 2), .int (M.1 a 3), .int (M.1 a 4), .int (M.1 a 5)] : List Value).set 3 (.int x))) y = ce cy T (sI M a 3 x) R y := by
  have hk := isK_knd ha
  unfold va_up
  by_cases h : y = a
  · subst h
    rw [if_pos rfl, ce_3 hk]
    simp [sI, sJ, up2, va_rf]
  · rw [if_neg h]
    exact ce_congr (by first | rfl | exact up2_ne h) (by first | rfl | exact up2_ne h) (by first | rfl | exact up2_ne h)
theorem pf_3_3 {p : Program} {l : Launch} {e : Env} {Rr : Room} {s : State} {m : MethodId} {args : Array Value} {below : List Frame} {meth : Method} {c : Code} {H : Heap} {locs : List Loc} {cells slots : Nat} {Q : State → Prop} {cc : ByteArray} {pc : Nat} {ls : Array Slot} {rest : List Value} {D : va_G} {cy : Cy} {T : Ty} {M : Mm} {R : Rm} {A : Nat → Prop} {own : String} {n : Nat} {ret : Option FieldType} {index a : Nat} {x : Int32} (C : Cx own cc n ret p s m args meth c D cy A) (hP : va_P D vwCl (WL cy T M R) H) (hD : va_D A (WL cy T M R)) (hS : va_S A s.heap H locs) (ha : isK T a 3 = true) (hl : Cond.fieldLink own index "IceTongue$Stake" "change" "I" ∈ GW) (hdg : decode cc pc = .ok (.putfield index, 3)) (kk : ∀ (M1 : Mm) (H1 : Heap) (locs1 : List Loc), M1 = sI M a 3 x → va_P D vwCl (WL cy T M1 R) H1 → va_D A (WL cy T M1 R) → va_S A s.heap H1 locs1 → W p l e Rr s m args below meth c H1 locs1 cells slots Q (F0 m (pc + 3) ls rest)) : W p l e Rr s m args below meth c H locs cells slots Q (F0 m pc ls (.int x :: .ref a :: rest)) := by
  obtain ⟨hx, hb, -, hml, hown, hts, hK, hA, -, hSt⟩ := C
  obtain ⟨q, hq⟩ := wl_get (cy := cy) (M := M) (R := R) ha
  have hq0 := hq
  rw [ce_3 (isK_knd ha)] at hq
  refine va_put (D := D) (ci := 3) (v := .int x) (ty := .int) (C := RX3) (T := TX3) (N := 6) hx hb hts inlX3 tyX3 tyX3_ok nmX3 hown hK hP hD hS q hq rfl 3 (by decide) (hts _ hl) (fun _ h9 => h9) rfl (by decide +kernel) rfl rfl (Nat.le_of_ble_eq_true rfl) hdg (fun H1 locs1 hP1 hD1 hS1 => ?_)
  rw [wl_set hD ha hq0 (pe_3_3 ha)] at hP1 hD1
  exact kk _ H1 locs1 rfl hP1 hD1 hS1
theorem gf_3_4 {p : Program} {l : Launch} {e : Env} {Rr : Room} {s : State} {m : MethodId} {args : Array Value} {below : List Frame} {meth : Method} {c : Code} {H : Heap} {locs : List Loc} {cells slots : Nat} {Q : State → Prop} {cc : ByteArray} {pc : Nat} {ls : Array Slot} {rest : List Value} {D : va_G} {cy : Cy} {T : Ty} {M : Mm} {R : Rm} {A : Nat → Prop} {own : String} {n : Nat} {ret : Option FieldType} {index a : Nat} (C : Cx own cc n ret p s m args meth c D cy A) (hP : va_P D vwCl (WL cy T M R) H) (ha : isK T a 3 = true) (hl : Cond.fieldLink own index "IceTongue$Stake" "fate" "I" ∈ GW) (hdg : decode cc pc = .ok (.getfield index, 3)) (kk : W p l e Rr s m args below meth c H locs cells slots Q (F0 m (pc + 3) ls (.int (gI M a 4) :: rest))) : W p l e Rr s m args below meth c H locs cells slots Q (F0 m pc ls (.ref a :: rest)) := by
  obtain ⟨hx, hb, -, hml, hown, hts, hK, hA, -, hSt⟩ := C
  obtain ⟨q, hq⟩ := wl_get (cy := cy) (M := M) (R := R) ha
  rw [ce_3 (isK_knd ha)] at hq
  exact va_get (D := D) (ci := 3) (v := .int (gI M a 4)) (C := RX3) (T := TX3) (N := 6) hx hb hts inlX3 hown hK hP q hq rfl 4 (by decide) (hts _ hl) (fun _ h9 => h9) rfl hdg kk
theorem pe_3_4 {cy : Cy} {T : Ty} {M : Mm} {R : Rm} {a : Nat} {x : Int32} (ha : isK T a 3 = true) (y : Nat) : va_up (ce cy T M R) a (.inr (3, ([.int (M.1 a 0), .int (M.1 a 1), .int (M.1 a 2), .int (M.1 a 3), .int (M.1 a 4), .int (M.1 a 5)] : List Value).set 4 (.int x))) y = ce cy T (sI M a 4 x) R y := by
  have hk := isK_knd ha
  unfold va_up
  by_cases h : y = a
  · subst h
    rw [if_pos rfl, ce_3 hk]
    simp [sI, sJ, up2, va_rf]
  · rw [if_neg h]
    exact ce_congr (by first | rfl | exact up2_ne h) (by first | rfl | exact up2_ne h) (by first | rfl | exact up2_ne h)
theorem pf_3_4 {p : Program} {l : Launch} {e : Env} {Rr : Room} {s : State} {m : MethodId} {args : Array Value} {below : List Frame} {meth : Method} {c : Code} {H : Heap} {locs : List Loc} {cells slots : Nat} {Q : State → Prop} {cc : ByteArray} {pc : Nat} {ls : Array Slot} {rest : List Value} {D : va_G} {cy : Cy} {T : Ty} {M : Mm} {R : Rm} {A : Nat → Prop} {own : String} {n : Nat} {ret : Option FieldType} {index a : Nat} {x : Int32} (C : Cx own cc n ret p s m args meth c D cy A) (hP : va_P D vwCl (WL cy T M R) H) (hD : va_D A (WL cy T M R)) (hS : va_S A s.heap H locs) (ha : isK T a 3 = true) (hl : Cond.fieldLink own index "IceTongue$Stake" "fate" "I" ∈ GW) (hdg : decode cc pc = .ok (.putfield index, 3)) (kk : ∀ (M1 : Mm) (H1 : Heap) (locs1 : List Loc), M1 = sI M a 4 x → va_P D vwCl (WL cy T M1 R) H1 → va_D A (WL cy T M1 R) → va_S A s.heap H1 locs1 → W p l e Rr s m args below meth c H1 locs1 cells slots Q (F0 m (pc + 3) ls rest)) : W p l e Rr s m args below meth c H locs cells slots Q (F0 m pc ls (.int x :: .ref a :: rest)) := by
  obtain ⟨hx, hb, -, hml, hown, hts, hK, hA, -, hSt⟩ := C
  obtain ⟨q, hq⟩ := wl_get (cy := cy) (M := M) (R := R) ha
  have hq0 := hq
  rw [ce_3 (isK_knd ha)] at hq
  refine va_put (D := D) (ci := 3) (v := .int x) (ty := .int) (C := RX3) (T := TX3) (N := 6) hx hb hts inlX3 tyX3 tyX3_ok nmX3 hown hK hP hD hS q hq rfl 4 (by decide) (hts _ hl) (fun _ h9 => h9) rfl (by decide +kernel) rfl rfl (Nat.le_of_ble_eq_true rfl) hdg (fun H1 locs1 hP1 hD1 hS1 => ?_)
  rw [wl_set hD ha hq0 (pe_3_4 ha)] at hP1 hD1
  exact kk _ H1 locs1 rfl hP1 hD1 hS1
theorem gf_3_5 {p : Program} {l : Launch} {e : Env} {Rr : Room} {s : State} {m : MethodId} {args : Array Value} {below : List Frame} {meth : Method} {c : Code} {H : Heap} {locs : List Loc} {cells slots : Nat} {Q : State → Prop} {cc : ByteArray} {pc : Nat} {ls : Array Slot} {rest : List Value} {D : va_G} {cy : Cy} {T : Ty} {M : Mm} {R : Rm} {A : Nat → Prop} {own : String} {n : Nat} {ret : Option FieldType} {index a : Nat} (C : Cx own cc n ret p s m args meth c D cy A) (hP : va_P D vwCl (WL cy T M R) H) (ha : isK T a 3 = true) (hl : Cond.fieldLink own index "IceTongue$Stake" "years" "I" ∈ GW) (hdg : decode cc pc = .ok (.getfield index, 3)) (kk : W p l e Rr s m args below meth c H locs cells slots Q (F0 m (pc + 3) ls (.int (gI M a 5) :: rest))) : W p l e Rr s m args below meth c H locs cells slots Q (F0 m pc ls (.ref a :: rest)) := by
  obtain ⟨hx, hb, -, hml, hown, hts, hK, hA, -, hSt⟩ := C
  obtain ⟨q, hq⟩ := wl_get (cy := cy) (M := M) (R := R) ha
  rw [ce_3 (isK_knd ha)] at hq
  exact va_get (D := D) (ci := 3) (v := .int (gI M a 5)) (C := RX3) (T := TX3) (N := 6) hx hb hts inlX3 hown hK hP q hq rfl 5 (by decide) (hts _ hl) (fun _ h9 => h9) rfl hdg kk
theorem pe_3_5 {cy : Cy} {T : Ty} {M : Mm} {R : Rm} {a : Nat} {x : Int32} (ha : isK T a 3 = true) (y : Nat) : va_up (ce cy T M R) a (.inr (3, ([.int (M.1 a 0), .int (M.1 a 1), .int (M.1 a 2), .int (M.1 a 3), .int (M.1 a 4), .int (M.1 a 5)] : List Value).set 5 (.int x))) y = ce cy T (sI M a 5 x) R y := by
  have hk := isK_knd ha
  unfold va_up
  by_cases h : y = a
  · subst h
    rw [if_pos rfl, ce_3 hk]
    simp [sI, sJ, up2, va_rf]
  · rw [if_neg h]
    exact ce_congr (by first | rfl | exact up2_ne h) (by first | rfl | exact up2_ne h) (by first | rfl | exact up2_ne h)
theorem pf_3_5 {p : Program} {l : Launch} {e : Env} {Rr : Room} {s : State} {m : MethodId} {args : Array Value} {below : List Frame} {meth : Method} {c : Code} {H : Heap} {locs : List Loc} {cells slots : Nat} {Q : State → Prop} {cc : ByteArray} {pc : Nat} {ls : Array Slot} {rest : List Value} {D : va_G} {cy : Cy} {T : Ty} {M : Mm} {R : Rm} {A : Nat → Prop} {own : String} {n : Nat} {ret : Option FieldType} {index a : Nat} {x : Int32} (C : Cx own cc n ret p s m args meth c D cy A) (hP : va_P D vwCl (WL cy T M R) H) (hD : va_D A (WL cy T M R)) (hS : va_S A s.heap H locs) (ha : isK T a 3 = true) (hl : Cond.fieldLink own index "IceTongue$Stake" "years" "I" ∈ GW) (hdg : decode cc pc = .ok (.putfield index, 3)) (kk : ∀ (M1 : Mm) (H1 : Heap) (locs1 : List Loc), M1 = sI M a 5 x → va_P D vwCl (WL cy T M1 R) H1 → va_D A (WL cy T M1 R) → va_S A s.heap H1 locs1 → W p l e Rr s m args below meth c H1 locs1 cells slots Q (F0 m (pc + 3) ls rest)) : W p l e Rr s m args below meth c H locs cells slots Q (F0 m pc ls (.int x :: .ref a :: rest)) := by
  obtain ⟨hx, hb, -, hml, hown, hts, hK, hA, -, hSt⟩ := C
  obtain ⟨q, hq⟩ := wl_get (cy := cy) (M := M) (R := R) ha
  have hq0 := hq
  rw [ce_3 (isK_knd ha)] at hq
  refine va_put (D := D) (ci := 3) (v := .int x) (ty := .int) (C := RX3) (T := TX3) (N := 6) hx hb hts inlX3 tyX3 tyX3_ok nmX3 hown hK hP hD hS q hq rfl 5 (by decide) (hts _ hl) (fun _ h9 => h9) rfl (by decide +kernel) rfl rfl (Nat.le_of_ble_eq_true rfl) hdg (fun H1 locs1 hP1 hD1 hS1 => ?_)
  rw [wl_set hD ha hq0 (pe_3_5 ha)] at hP1 hD1
  exact kk _ H1 locs1 rfl hP1 hD1 hS1
theorem gf_4_0 {p : Program} {l : Launch} {e : Env} {Rr : Room} {s : State} {m : MethodId} {args : Array Value} {below : List Frame} {meth : Method} {c : Code} {H : Heap} {locs : List Loc} {cells slots : Nat} {Q : State → Prop} {cc : ByteArray} {pc : Nat} {ls : Array Slot} {rest : List Value} {D : va_G} {cy : Cy} {T : Ty} {M : Mm} {R : Rm} {A : Nat → Prop} {own : String} {n : Nat} {ret : Option FieldType} {index a : Nat} (C : Cx own cc n ret p s m args meth c D cy A) (hP : va_P D vwCl (WL cy T M R) H) (ha : isK T a 4 = true) {b : Nat} (eb : R a 0 = some b) (hl : Cond.fieldLink own index "IceTongue$Text" "signs" "[C" ∈ GW) (hdg : decode cc pc = .ok (.getfield index, 3)) (kk : W p l e Rr s m args below meth c H locs cells slots Q (F0 m (pc + 3) ls (.ref b :: rest))) : W p l e Rr s m args below meth c H locs cells slots Q (F0 m pc ls (.ref a :: rest)) := by
  obtain ⟨hx, hb, -, hml, hown, hts, hK, hA, -, hSt⟩ := C
  obtain ⟨q, hq⟩ := wl_get (cy := cy) (M := M) (R := R) ha
  rw [ce_4 (isK_knd ha)] at hq
  exact va_get (D := D) (ci := 4) (v := .ref b) (C := RX4) (T := TX4) (N := 2) hx hb hts inlX4 hown hK hP q hq rfl 0 (by decide) (hts _ hl) (fun _ h9 => h9) (show some (va_rf (R a 0)) = some (.ref b) from by rw [eb]; rfl) hdg kk
theorem pe_4_0 {cy : Cy} {T : Ty} {M : Mm} {R : Rm} {a : Nat} {b : Nat} (ha : isK T a 4 = true) (y : Nat) : va_up (ce cy T M R) a (.inr (4, ([va_rf (R a 0), .int (M.1 a 1)] : List Value).set 0 (.ref b))) y = ce cy T M (up2 R a 0 (some b)) y := by
  have hk := isK_knd ha
  unfold va_up
  by_cases h : y = a
  · subst h
    rw [if_pos rfl, ce_4 hk]
    simp [sI, sJ, up2, va_rf]
  · rw [if_neg h]
    exact ce_congr (by first | rfl | exact up2_ne h) (by first | rfl | exact up2_ne h) (by first | rfl | exact up2_ne h)
theorem pf_4_0 {p : Program} {l : Launch} {e : Env} {Rr : Room} {s : State} {m : MethodId} {args : Array Value} {below : List Frame} {meth : Method} {c : Code} {H : Heap} {locs : List Loc} {cells slots : Nat} {Q : State → Prop} {cc : ByteArray} {pc : Nat} {ls : Array Slot} {rest : List Value} {D : va_G} {cy : Cy} {T : Ty} {M : Mm} {R : Rm} {A : Nat → Prop} {own : String} {n : Nat} {ret : Option FieldType} {index a : Nat} {b : Nat} (C : Cx own cc n ret p s m args meth c D cy A) (hP : va_P D vwCl (WL cy T M R) H) (hD : va_D A (WL cy T M R)) (hS : va_S A s.heap H locs) (ha : isK T a 4 = true) (hl : Cond.fieldLink own index "IceTongue$Text" "signs" "[C" ∈ GW) (hin : meth.name = "<init>") (hO : (TX4 0).1 = own) (hdg : decode cc pc = .ok (.putfield index, 3)) (kk : ∀ (R1 : Rm) (H1 : Heap) (locs1 : List Loc), R1 = up2 R a 0 (some b) → va_P D vwCl (WL cy T M R1) H1 → va_D A (WL cy T M R1) → va_S A s.heap H1 locs1 → W p l e Rr s m args below meth c H1 locs1 cells slots Q (F0 m (pc + 3) ls rest)) : W p l e Rr s m args below meth c H locs cells slots Q (F0 m pc ls (.ref b :: .ref a :: rest)) := by
  obtain ⟨hx, hb, -, hml, hown, hts, hK, hA, -, hSt⟩ := C
  obtain ⟨q, hq⟩ := wl_get (cy := cy) (M := M) (R := R) ha
  have hq0 := hq
  rw [ce_4 (isK_knd ha)] at hq
  refine va_putF (D := D) (ci := 4) (v := .ref b) (ty := (tyX4 0)) (C := RX4) (T := TX4) (N := 2) hx hb hts inlX4 tyX4 tyX4_ok nmX4 hown hK hP hD hS q hq rfl 0 (by decide) (hts _ hl) (fun _ h9 => h9) rfl hin hO (by decide +kernel) rfl rfl (Nat.le_of_ble_eq_true rfl) hdg (fun H1 locs1 hP1 hD1 hS1 => ?_)
  rw [wl_set hD ha hq0 (pe_4_0 ha)] at hP1 hD1
  exact kk _ H1 locs1 rfl hP1 hD1 hS1
theorem gf_4_1 {p : Program} {l : Launch} {e : Env} {Rr : Room} {s : State} {m : MethodId} {args : Array Value} {below : List Frame} {meth : Method} {c : Code} {H : Heap} {locs : List Loc} {cells slots : Nat} {Q : State → Prop} {cc : ByteArray} {pc : Nat} {ls : Array Slot} {rest : List Value} {D : va_G} {cy : Cy} {T : Ty} {M : Mm} {R : Rm} {A : Nat → Prop} {own : String} {n : Nat} {ret : Option FieldType} {index a : Nat} (C : Cx own cc n ret p s m args meth c D cy A) (hP : va_P D vwCl (WL cy T M R) H) (ha : isK T a 4 = true) (hl : Cond.fieldLink own index "IceTongue$Text" "length" "I" ∈ GW) (hdg : decode cc pc = .ok (.getfield index, 3)) (kk : W p l e Rr s m args below meth c H locs cells slots Q (F0 m (pc + 3) ls (.int (gI M a 1) :: rest))) : W p l e Rr s m args below meth c H locs cells slots Q (F0 m pc ls (.ref a :: rest)) := by
  obtain ⟨hx, hb, -, hml, hown, hts, hK, hA, -, hSt⟩ := C
  obtain ⟨q, hq⟩ := wl_get (cy := cy) (M := M) (R := R) ha
  rw [ce_4 (isK_knd ha)] at hq
  exact va_get (D := D) (ci := 4) (v := .int (gI M a 1)) (C := RX4) (T := TX4) (N := 2) hx hb hts inlX4 hown hK hP q hq rfl 1 (by decide) (hts _ hl) (fun _ h9 => h9) rfl hdg kk
theorem pe_4_1 {cy : Cy} {T : Ty} {M : Mm} {R : Rm} {a : Nat} {x : Int32} (ha : isK T a 4 = true) (y : Nat) : va_up (ce cy T M R) a (.inr (4, ([va_rf (R a 0), .int (M.1 a 1)] : List Value).set 1 (.int x))) y = ce cy T (sI M a 1 x) R y := by
  have hk := isK_knd ha
  unfold va_up
  by_cases h : y = a
  · subst h
    rw [if_pos rfl, ce_4 hk]
    simp [sI, sJ, up2, va_rf]
  · rw [if_neg h]
    exact ce_congr (by first | rfl | exact up2_ne h) (by first | rfl | exact up2_ne h) (by first | rfl | exact up2_ne h)
theorem pf_4_1 {p : Program} {l : Launch} {e : Env} {Rr : Room} {s : State} {m : MethodId} {args : Array Value} {below : List Frame} {meth : Method} {c : Code} {H : Heap} {locs : List Loc} {cells slots : Nat} {Q : State → Prop} {cc : ByteArray} {pc : Nat} {ls : Array Slot} {rest : List Value} {D : va_G} {cy : Cy} {T : Ty} {M : Mm} {R : Rm} {A : Nat → Prop} {own : String} {n : Nat} {ret : Option FieldType} {index a : Nat} {x : Int32} (C : Cx own cc n ret p s m args meth c D cy A) (hP : va_P D vwCl (WL cy T M R) H) (hD : va_D A (WL cy T M R)) (hS : va_S A s.heap H locs) (ha : isK T a 4 = true) (hl : Cond.fieldLink own index "IceTongue$Text" "length" "I" ∈ GW) (hdg : decode cc pc = .ok (.putfield index, 3)) (kk : ∀ (M1 : Mm) (H1 : Heap) (locs1 : List Loc), M1 = sI M a 1 x → va_P D vwCl (WL cy T M1 R) H1 → va_D A (WL cy T M1 R) → va_S A s.heap H1 locs1 → W p l e Rr s m args below meth c H1 locs1 cells slots Q (F0 m (pc + 3) ls rest)) : W p l e Rr s m args below meth c H locs cells slots Q (F0 m pc ls (.int x :: .ref a :: rest)) := by
  obtain ⟨hx, hb, -, hml, hown, hts, hK, hA, -, hSt⟩ := C
  obtain ⟨q, hq⟩ := wl_get (cy := cy) (M := M) (R := R) ha
  have hq0 := hq
  rw [ce_4 (isK_knd ha)] at hq
  refine va_put (D := D) (ci := 4) (v := .int x) (ty := .int) (C := RX4) (T := TX4) (N := 2) hx hb hts inlX4 tyX4 tyX4_ok nmX4 hown hK hP hD hS q hq rfl 1 (by decide) (hts _ hl) (fun _ h9 => h9) rfl (by decide +kernel) rfl rfl (Nat.le_of_ble_eq_true rfl) hdg (fun H1 locs1 hP1 hD1 hS1 => ?_)
  rw [wl_set hD ha hq0 (pe_4_1 ha)] at hP1 hD1
  exact kk _ H1 locs1 rfl hP1 hD1 hS1
theorem gf_5_0 {p : Program} {l : Launch} {e : Env} {Rr : Room} {s : State} {m : MethodId} {args : Array Value} {below : List Frame} {meth : Method} {c : Code} {H : Heap} {locs : List Loc} {cells slots : Nat} {Q : State → Prop} {cc : ByteArray} {pc : Nat} {ls : Array Slot} {rest : List Value} {D : va_G} {cy : Cy} {T : Ty} {M : Mm} {R : Rm} {A : Nat → Prop} {own : String} {n : Nat} {ret : Option FieldType} {index a : Nat} (C : Cx own cc n ret p s m args meth c D cy A) (hP : va_P D vwCl (WL cy T M R) H) (ha : isK T a 5 = true) {b : Nat} (eb : R a 0 = some b) (hl : Cond.fieldLink own index "IceTongue$Tongue" "settings" "[I" ∈ GW) (hdg : decode cc pc = .ok (.getfield index, 3)) (kk : W p l e Rr s m args below meth c H locs cells slots Q (F0 m (pc + 3) ls (.ref b :: rest))) : W p l e Rr s m args below meth c H locs cells slots Q (F0 m pc ls (.ref a :: rest)) := by
  obtain ⟨hx, hb, -, hml, hown, hts, hK, hA, -, hSt⟩ := C
  obtain ⟨q, hq⟩ := wl_get (cy := cy) (M := M) (R := R) ha
  rw [ce_5 (isK_knd ha)] at hq
  exact va_get (D := D) (ci := 5) (v := .ref b) (C := RX5) (T := TX5) (N := 11) hx hb hts inlX5 hown hK hP q hq rfl 0 (by decide) (hts _ hl) (fun _ h9 => h9) (show some (va_rf (R a 0)) = some (.ref b) from by rw [eb]; rfl) hdg kk
theorem pe_5_0 {cy : Cy} {T : Ty} {M : Mm} {R : Rm} {a : Nat} {b : Nat} (ha : isK T a 5 = true) (y : Nat) : va_up (ce cy T M R) a (.inr (5, ([va_rf (R a 0), va_rf (R a 1), va_rf (R a 2), va_rf (R a 3), .int (M.1 a 4), .int (M.1 a 5), .int (M.1 a 6), .long (M.2 a 7), .long (M.2 a 8), .long (M.2 a 9), .long (M.2 a 10)] : List Value).set 0 (.ref b))) y = ce cy T M (up2 R a 0 (some b)) y := by
  have hk := isK_knd ha
  unfold va_up
  by_cases h : y = a
  · subst h
    rw [if_pos rfl, ce_5 hk]
    simp [sI, sJ, up2, va_rf]
  · rw [if_neg h]
    exact ce_congr (by first | rfl | exact up2_ne h) (by first | rfl | exact up2_ne h) (by first | rfl | exact up2_ne h)
theorem pf_5_0 {p : Program} {l : Launch} {e : Env} {Rr : Room} {s : State} {m : MethodId} {args : Array Value} {below : List Frame} {meth : Method} {c : Code} {H : Heap} {locs : List Loc} {cells slots : Nat} {Q : State → Prop} {cc : ByteArray} {pc : Nat} {ls : Array Slot} {rest : List Value} {D : va_G} {cy : Cy} {T : Ty} {M : Mm} {R : Rm} {A : Nat → Prop} {own : String} {n : Nat} {ret : Option FieldType} {index a : Nat} {b : Nat} (C : Cx own cc n ret p s m args meth c D cy A) (hP : va_P D vwCl (WL cy T M R) H) (hD : va_D A (WL cy T M R)) (hS : va_S A s.heap H locs) (ha : isK T a 5 = true) (hl : Cond.fieldLink own index "IceTongue$Tongue" "settings" "[I" ∈ GW) (hin : meth.name = "<init>") (hO : (TX5 0).1 = own) (hdg : decode cc pc = .ok (.putfield index, 3)) (kk : ∀ (R1 : Rm) (H1 : Heap) (locs1 : List Loc), R1 = up2 R a 0 (some b) → va_P D vwCl (WL cy T M R1) H1 → va_D A (WL cy T M R1) → va_S A s.heap H1 locs1 → W p l e Rr s m args below meth c H1 locs1 cells slots Q (F0 m (pc + 3) ls rest)) : W p l e Rr s m args below meth c H locs cells slots Q (F0 m pc ls (.ref b :: .ref a :: rest)) := by
  obtain ⟨hx, hb, -, hml, hown, hts, hK, hA, -, hSt⟩ := C
  obtain ⟨q, hq⟩ := wl_get (cy := cy) (M := M) (R := R) ha
  have hq0 := hq
  rw [ce_5 (isK_knd ha)] at hq
  refine va_putF (D := D) (ci := 5) (v := .ref b) (ty := (tyX5 0)) (C := RX5) (T := TX5) (N := 11) hx hb hts inlX5 tyX5 tyX5_ok nmX5 hown hK hP hD hS q hq rfl 0 (by decide) (hts _ hl) (fun _ h9 => h9) rfl hin hO (by decide +kernel) rfl rfl (Nat.le_of_ble_eq_true rfl) hdg (fun H1 locs1 hP1 hD1 hS1 => ?_)
  rw [wl_set hD ha hq0 (pe_5_0 ha)] at hP1 hD1
  exact kk _ H1 locs1 rfl hP1 hD1 hS1
theorem gf_5_1 {p : Program} {l : Launch} {e : Env} {Rr : Room} {s : State} {m : MethodId} {args : Array Value} {below : List Frame} {meth : Method} {c : Code} {H : Heap} {locs : List Loc} {cells slots : Nat} {Q : State → Prop} {cc : ByteArray} {pc : Nat} {ls : Array Slot} {rest : List Value} {D : va_G} {cy : Cy} {T : Ty} {M : Mm} {R : Rm} {A : Nat → Prop} {own : String} {n : Nat} {ret : Option FieldType} {index a : Nat} (C : Cx own cc n ret p s m args meth c D cy A) (hP : va_P D vwCl (WL cy T M R) H) (ha : isK T a 5 = true) {b : Nat} (eb : R a 1 = some b) (hl : Cond.fieldLink own index "IceTongue$Tongue" "bands" "[LIceTongue$Band;" ∈ GW) (hdg : decode cc pc = .ok (.getfield index, 3)) (kk : W p l e Rr s m args below meth c H locs cells slots Q (F0 m (pc + 3) ls (.ref b :: rest))) : W p l e Rr s m args below meth c H locs cells slots Q (F0 m pc ls (.ref a :: rest)) := by
  obtain ⟨hx, hb, -, hml, hown, hts, hK, hA, -, hSt⟩ := C
  obtain ⟨q, hq⟩ := wl_get (cy := cy) (M := M) (R := R) ha
  rw [ce_5 (isK_knd ha)] at hq
  exact va_get (D := D) (ci := 5) (v := .ref b) (C := RX5) (T := TX5) (N := 11) hx hb hts inlX5 hown hK hP q hq rfl 1 (by decide) (hts _ hl) (fun _ h9 => h9) (show some (va_rf (R a 1)) = some (.ref b) from by rw [eb]; rfl) hdg kk
theorem pe_5_1 {cy : Cy} {T : Ty} {M : Mm} {R : Rm} {a : Nat} {b : Nat} (ha : isK T a 5 = true) (y : Nat) : va_up (ce cy T M R) a (.inr (5, ([va_rf (R a 0), va_rf (R a 1), va_rf (R a 2), va_rf (R a 3), .int (M.1 a 4), .int (M.1 a 5), .int (M.1 a 6), .long (M.2 a 7), .long (M.2 a 8), .long (M.2 a 9), .long (M.2 a 10)] : List Value).set 1 (.ref b))) y = ce cy T M (up2 R a 1 (some b)) y := by
  have hk := isK_knd ha
  unfold va_up
  by_cases h : y = a
  · subst h
    rw [if_pos rfl, ce_5 hk]
    simp [sI, sJ, up2, va_rf]
  · rw [if_neg h]
    exact ce_congr (by first | rfl | exact up2_ne h) (by first | rfl | exact up2_ne h) (by first | rfl | exact up2_ne h)
theorem pf_5_1 {p : Program} {l : Launch} {e : Env} {Rr : Room} {s : State} {m : MethodId} {args : Array Value} {below : List Frame} {meth : Method} {c : Code} {H : Heap} {locs : List Loc} {cells slots : Nat} {Q : State → Prop} {cc : ByteArray} {pc : Nat} {ls : Array Slot} {rest : List Value} {D : va_G} {cy : Cy} {T : Ty} {M : Mm} {R : Rm} {A : Nat → Prop} {own : String} {n : Nat} {ret : Option FieldType} {index a : Nat} {b : Nat} (C : Cx own cc n ret p s m args meth c D cy A) (hP : va_P D vwCl (WL cy T M R) H) (hD : va_D A (WL cy T M R)) (hS : va_S A s.heap H locs) (ha : isK T a 5 = true) (hl : Cond.fieldLink own index "IceTongue$Tongue" "bands" "[LIceTongue$Band;" ∈ GW) (hin : meth.name = "<init>") (hO : (TX5 1).1 = own) (hdg : decode cc pc = .ok (.putfield index, 3)) (kk : ∀ (R1 : Rm) (H1 : Heap) (locs1 : List Loc), R1 = up2 R a 1 (some b) → va_P D vwCl (WL cy T M R1) H1 → va_D A (WL cy T M R1) → va_S A s.heap H1 locs1 → W p l e Rr s m args below meth c H1 locs1 cells slots Q (F0 m (pc + 3) ls rest)) : W p l e Rr s m args below meth c H locs cells slots Q (F0 m pc ls (.ref b :: .ref a :: rest)) := by
  obtain ⟨hx, hb, -, hml, hown, hts, hK, hA, -, hSt⟩ := C
  obtain ⟨q, hq⟩ := wl_get (cy := cy) (M := M) (R := R) ha
  have hq0 := hq
  rw [ce_5 (isK_knd ha)] at hq
  refine va_putF (D := D) (ci := 5) (v := .ref b) (ty := (tyX5 1)) (C := RX5) (T := TX5) (N := 11) hx hb hts inlX5 tyX5 tyX5_ok nmX5 hown hK hP hD hS q hq rfl 1 (by decide) (hts _ hl) (fun _ h9 => h9) rfl hin hO (by decide +kernel) rfl rfl (Nat.le_of_ble_eq_true rfl) hdg (fun H1 locs1 hP1 hD1 hS1 => ?_)
  rw [wl_set hD ha hq0 (pe_5_1 ha)] at hP1 hD1
  exact kk _ H1 locs1 rfl hP1 hD1 hS1
theorem gf_5_2 {p : Program} {l : Launch} {e : Env} {Rr : Room} {s : State} {m : MethodId} {args : Array Value} {below : List Frame} {meth : Method} {c : Code} {H : Heap} {locs : List Loc} {cells slots : Nat} {Q : State → Prop} {cc : ByteArray} {pc : Nat} {ls : Array Slot} {rest : List Value} {D : va_G} {cy : Cy} {T : Ty} {M : Mm} {R : Rm} {A : Nat → Prop} {own : String} {n : Nat} {ret : Option FieldType} {index a : Nat} (C : Cx own cc n ret p s m args meth c D cy A) (hP : va_P D vwCl (WL cy T M R) H) (ha : isK T a 5 = true) {b : Nat} (eb : R a 2 = some b) (hl : Cond.fieldLink own index "IceTongue$Tongue" "stakes" "[LIceTongue$Stake;" ∈ GW) (hdg : decode cc pc = .ok (.getfield index, 3)) (kk : W p l e Rr s m args below meth c H locs cells slots Q (F0 m (pc + 3) ls (.ref b :: rest))) : W p l e Rr s m args below meth c H locs cells slots Q (F0 m pc ls (.ref a :: rest)) := by
  obtain ⟨hx, hb, -, hml, hown, hts, hK, hA, -, hSt⟩ := C
  obtain ⟨q, hq⟩ := wl_get (cy := cy) (M := M) (R := R) ha
  rw [ce_5 (isK_knd ha)] at hq
  exact va_get (D := D) (ci := 5) (v := .ref b) (C := RX5) (T := TX5) (N := 11) hx hb hts inlX5 hown hK hP q hq rfl 2 (by decide) (hts _ hl) (fun _ h9 => h9) (show some (va_rf (R a 2)) = some (.ref b) from by rw [eb]; rfl) hdg kk
theorem pe_5_2 {cy : Cy} {T : Ty} {M : Mm} {R : Rm} {a : Nat} {b : Nat} (ha : isK T a 5 = true) (y : Nat) : va_up (ce cy T M R) a (.inr (5, ([va_rf (R a 0), va_rf (R a 1), va_rf (R a 2), va_rf (R a 3), .int (M.1 a 4), .int (M.1 a 5), .int (M.1 a 6), .long (M.2 a 7), .long (M.2 a 8), .long (M.2 a 9), .long (M.2 a 10)] : List Value).set 2 (.ref b))) y = ce cy T M (up2 R a 2 (some b)) y := by
  have hk := isK_knd ha
  unfold va_up
  by_cases h : y = a
  · subst h
    rw [if_pos rfl, ce_5 hk]
    simp [sI, sJ, up2, va_rf]
  · rw [if_neg h]
    exact ce_congr (by first | rfl | exact up2_ne h) (by first | rfl | exact up2_ne h) (by first | rfl | exact up2_ne h)
theorem pf_5_2 {p : Program} {l : Launch} {e : Env} {Rr : Room} {s : State} {m : MethodId} {args : Array Value} {below : List Frame} {meth : Method} {c : Code} {H : Heap} {locs : List Loc} {cells slots : Nat} {Q : State → Prop} {cc : ByteArray} {pc : Nat} {ls : Array Slot} {rest : List Value} {D : va_G} {cy : Cy} {T : Ty} {M : Mm} {R : Rm} {A : Nat → Prop} {own : String} {n : Nat} {ret : Option FieldType} {index a : Nat} {b : Nat} (C : Cx own cc n ret p s m args meth c D cy A) (hP : va_P D vwCl (WL cy T M R) H) (hD : va_D A (WL cy T M R)) (hS : va_S A s.heap H locs) (ha : isK T a 5 = true) (hl : Cond.fieldLink own index "IceTongue$Tongue" "stakes" "[LIceTongue$Stake;" ∈ GW) (hin : meth.name = "<init>") (hO : (TX5 2).1 = own) (hdg : decode cc pc = .ok (.putfield index, 3)) (kk : ∀ (R1 : Rm) (H1 : Heap) (locs1 : List Loc), R1 = up2 R a 2 (some b) → va_P D vwCl (WL cy T M R1) H1 → va_D A (WL cy T M R1) → va_S A s.heap H1 locs1 → W p l e Rr s m args below meth c H1 locs1 cells slots Q (F0 m (pc + 3) ls rest)) : W p l e Rr s m args below meth c H locs cells slots Q (F0 m pc ls (.ref b :: .ref a :: rest)) := by
  obtain ⟨hx, hb, -, hml, hown, hts, hK, hA, -, hSt⟩ := C
  obtain ⟨q, hq⟩ := wl_get (cy := cy) (M := M) (R := R) ha
  have hq0 := hq
  rw [ce_5 (isK_knd ha)] at hq
  refine va_putF (D := D) (ci := 5) (v := .ref b) (ty := (tyX5 2)) (C := RX5) (T := TX5) (N := 11) hx hb hts inlX5 tyX5 tyX5_ok nmX5 hown hK hP hD hS q hq rfl 2 (by decide) (hts _ hl) (fun _ h9 => h9) rfl hin hO (by decide +kernel) rfl rfl (Nat.le_of_ble_eq_true rfl) hdg (fun H1 locs1 hP1 hD1 hS1 => ?_)
  rw [wl_set hD ha hq0 (pe_5_2 ha)] at hP1 hD1
  exact kk _ H1 locs1 rfl hP1 hD1 hS1
theorem gf_5_3 {p : Program} {l : Launch} {e : Env} {Rr : Room} {s : State} {m : MethodId} {args : Array Value} {below : List Frame} {meth : Method} {c : Code} {H : Heap} {locs : List Loc} {cells slots : Nat} {Q : State → Prop} {cc : ByteArray} {pc : Nat} {ls : Array Slot} {rest : List Value} {D : va_G} {cy : Cy} {T : Ty} {M : Mm} {R : Rm} {A : Nat → Prop} {own : String} {n : Nat} {ret : Option FieldType} {index a : Nat} (C : Cx own cc n ret p s m args meth c D cy A) (hP : va_P D vwCl (WL cy T M R) H) (ha : isK T a 5 = true) {b : Nat} (eb : R a 3 = some b) (hl : Cond.fieldLink own index "IceTongue$Tongue" "front" "LIceTongue$Front;" ∈ GW) (hdg : decode cc pc = .ok (.getfield index, 3)) (kk : W p l e Rr s m args below meth c H locs cells slots Q (F0 m (pc + 3) ls (.ref b :: rest))) : W p l e Rr s m args below meth c H locs cells slots Q (F0 m pc ls (.ref a :: rest)) := by
  obtain ⟨hx, hb, -, hml, hown, hts, hK, hA, -, hSt⟩ := C
  obtain ⟨q, hq⟩ := wl_get (cy := cy) (M := M) (R := R) ha
  rw [ce_5 (isK_knd ha)] at hq
  exact va_get (D := D) (ci := 5) (v := .ref b) (C := RX5) (T := TX5) (N := 11) hx hb hts inlX5 hown hK hP q hq rfl 3 (by decide) (hts _ hl) (fun _ h9 => h9) (show some (va_rf (R a 3)) = some (.ref b) from by rw [eb]; rfl) hdg kk
theorem pe_5_3 {cy : Cy} {T : Ty} {M : Mm} {R : Rm} {a : Nat} {b : Nat} (ha : isK T a 5 = true) (y : Nat) : va_up (ce cy T M R) a (.inr (5, ([va_rf (R a 0), va_rf (R a 1), va_rf (R a 2), va_rf (R a 3), .int (M.1 a 4), .int (M.1 a 5), .int (M.1 a 6), .long (M.2 a 7), .long (M.2 a 8), .long (M.2 a 9), .long (M.2 a 10)] : List Value).set 3 (.ref b))) y = ce cy T M (up2 R a 3 (some b)) y := by
  have hk := isK_knd ha
  unfold va_up
  by_cases h : y = a
  · subst h
    rw [if_pos rfl, ce_5 hk]
    simp [sI, sJ, up2, va_rf]
  · rw [if_neg h]
    exact ce_congr (by first | rfl | exact up2_ne h) (by first | rfl | exact up2_ne h) (by first | rfl | exact up2_ne h)
theorem pf_5_3 {p : Program} {l : Launch} {e : Env} {Rr : Room} {s : State} {m : MethodId} {args : Array Value} {below : List Frame} {meth : Method} {c : Code} {H : Heap} {locs : List Loc} {cells slots : Nat} {Q : State → Prop} {cc : ByteArray} {pc : Nat} {ls : Array Slot} {rest : List Value} {D : va_G} {cy : Cy} {T : Ty} {M : Mm} {R : Rm} {A : Nat → Prop} {own : String} {n : Nat} {ret : Option FieldType} {index a : Nat} {b : Nat} (C : Cx own cc n ret p s m args meth c D cy A) (hP : va_P D vwCl (WL cy T M R) H) (hD : va_D A (WL cy T M R)) (hS : va_S A s.heap H locs) (ha : isK T a 5 = true) (hl : Cond.fieldLink own index "IceTongue$Tongue" "front" "LIceTongue$Front;" ∈ GW) (hin : meth.name = "<init>") (hO : (TX5 3).1 = own) (hdg : decode cc pc = .ok (.putfield index, 3)) (kk : ∀ (R1 : Rm) (H1 : Heap) (locs1 : List Loc), R1 = up2 R a 3 (some b) → va_P D vwCl (WL cy T M R1) H1 → va_D A (WL cy T M R1) → va_S A s.heap H1 locs1 → W p l e Rr s m args below meth c H1 locs1 cells slots Q (F0 m (pc + 3) ls rest)) : W p l e Rr s m args below meth c H locs cells slots Q (F0 m pc ls (.ref b :: .ref a :: rest)) := by
  obtain ⟨hx, hb, -, hml, hown, hts, hK, hA, -, hSt⟩ := C
  obtain ⟨q, hq⟩ := wl_get (cy := cy) (M := M) (R := R) ha
  have hq0 := hq
  rw [ce_5 (isK_knd ha)] at hq
  refine va_putF (D := D) (ci := 5) (v := .ref b) (ty := (tyX5 3)) (C := RX5) (T := TX5) (N := 11) hx hb hts inlX5 tyX5 tyX5_ok nmX5 hown hK hP hD hS q hq rfl 3 (by decide) (hts _ hl) (fun _ h9 => h9) rfl hin hO (by decide +kernel) rfl rfl (Nat.le_of_ble_eq_true rfl) hdg (fun H1 locs1 hP1 hD1 hS1 => ?_)
  rw [wl_set hD ha hq0 (pe_5_3 ha)] at hP1 hD1
  exact kk _ H1 locs1 rfl hP1 hD1 hS1
theorem gf_5_4 {p : Program} {l : Launch} {e : Env} {Rr : Room} {s : State} {m : MethodId} {args : Array Value} {below : List Frame} {meth : Method} {c : Code} {H : Heap} {locs : List Loc} {cells slots : Nat} {Q : State → Prop} {cc : ByteArray} {pc : Nat} {ls : Array Slot} {rest : List Value} {D : va_G} {cy : Cy} {T : Ty} {M : Mm} {R : Rm} {A : Nat → Prop} {own : String} {n : Nat} {ret : Option FieldType} {index a : Nat} (C : Cx own cc n ret p s m args meth c D cy A) (hP : va_P D vwCl (WL cy T M R) H) (ha : isK T a 5 = true) (hl : Cond.fieldLink own index "IceTongue$Tongue" "bandCount" "I" ∈ GW) (hdg : decode cc pc = .ok (.getfield index, 3)) (kk : W p l e Rr s m args below meth c H locs cells slots Q (F0 m (pc + 3) ls (.int (gI M a 4) :: rest))) : W p l e Rr s m args below meth c H locs cells slots Q (F0 m pc ls (.ref a :: rest)) := by
  obtain ⟨hx, hb, -, hml, hown, hts, hK, hA, -, hSt⟩ := C
  obtain ⟨q, hq⟩ := wl_get (cy := cy) (M := M) (R := R) ha
  rw [ce_5 (isK_knd ha)] at hq
  exact va_get (D := D) (ci := 5) (v := .int (gI M a 4)) (C := RX5) (T := TX5) (N := 11) hx hb hts inlX5 hown hK hP q hq rfl 4 (by decide) (hts _ hl) (fun _ h9 => h9) rfl hdg kk
theorem pe_5_4 {cy : Cy} {T : Ty} {M : Mm} {R : Rm} {a : Nat} {x : Int32} (ha : isK T a 5 = true) (y : Nat) : va_up (ce cy T M R) a (.inr (5, ([va_rf (R a 0), va_rf (R a 1), va_rf (R a 2), va_rf (R a 3), .int (M.1 a 4), .int (M.1 a 5), .int (M.1 a 6), .long (M.2 a 7), .long (M.2 a 8), .long (M.2 a 9), .long (M.2 a 10)] : List Value).set 4 (.int x))) y = ce cy T (sI M a 4 x) R y := by
  have hk := isK_knd ha
  unfold va_up
  by_cases h : y = a
  · subst h
    rw [if_pos rfl, ce_5 hk]
    simp [sI, sJ, up2, va_rf]
  · rw [if_neg h]
    exact ce_congr (by first | rfl | exact up2_ne h) (by first | rfl | exact up2_ne h) (by first | rfl | exact up2_ne h)
theorem pf_5_4 {p : Program} {l : Launch} {e : Env} {Rr : Room} {s : State} {m : MethodId} {args : Array Value} {below : List Frame} {meth : Method} {c : Code} {H : Heap} {locs : List Loc} {cells slots : Nat} {Q : State → Prop} {cc : ByteArray} {pc : Nat} {ls : Array Slot} {rest : List Value} {D : va_G} {cy : Cy} {T : Ty} {M : Mm} {R : Rm} {A : Nat → Prop} {own : String} {n : Nat} {ret : Option FieldType} {index a : Nat} {x : Int32} (C : Cx own cc n ret p s m args meth c D cy A) (hP : va_P D vwCl (WL cy T M R) H) (hD : va_D A (WL cy T M R)) (hS : va_S A s.heap H locs) (ha : isK T a 5 = true) (hl : Cond.fieldLink own index "IceTongue$Tongue" "bandCount" "I" ∈ GW) (hdg : decode cc pc = .ok (.putfield index, 3)) (kk : ∀ (M1 : Mm) (H1 : Heap) (locs1 : List Loc), M1 = sI M a 4 x → va_P D vwCl (WL cy T M1 R) H1 → va_D A (WL cy T M1 R) → va_S A s.heap H1 locs1 → W p l e Rr s m args below meth c H1 locs1 cells slots Q (F0 m (pc + 3) ls rest)) : W p l e Rr s m args below meth c H locs cells slots Q (F0 m pc ls (.int x :: .ref a :: rest)) := by
  obtain ⟨hx, hb, -, hml, hown, hts, hK, hA, -, hSt⟩ := C
  obtain ⟨q, hq⟩ := wl_get (cy := cy) (M := M) (R := R) ha
  have hq0 := hq
  rw [ce_5 (isK_knd ha)] at hq
  refine va_put (D := D) (ci := 5) (v := .int x) (ty := .int) (C := RX5) (T := TX5) (N := 11) hx hb hts inlX5 tyX5 tyX5_ok nmX5 hown hK hP hD hS q hq rfl 4 (by decide) (hts _ hl) (fun _ h9 => h9) rfl (by decide +kernel) rfl rfl (Nat.le_of_ble_eq_true rfl) hdg (fun H1 locs1 hP1 hD1 hS1 => ?_)
  rw [wl_set hD ha hq0 (pe_5_4 ha)] at hP1 hD1
  exact kk _ H1 locs1 rfl hP1 hD1 hS1
theorem gf_5_5 {p : Program} {l : Launch} {e : Env} {Rr : Room} {s : State} {m : MethodId} {args : Array Value} {below : List Frame} {meth : Method} {c : Code} {H : Heap} {locs : List Loc} {cells slots : Nat} {Q : State → Prop} {cc : ByteArray} {pc : Nat} {ls : Array Slot} {rest : List Value} {D : va_G} {cy : Cy} {T : Ty} {M : Mm} {R : Rm} {A : Nat → Prop} {own : String} {n : Nat} {ret : Option FieldType} {index a : Nat} (C : Cx own cc n ret p s m args meth c D cy A) (hP : va_P D vwCl (WL cy T M R) H) (ha : isK T a 5 = true) (hl : Cond.fieldLink own index "IceTongue$Tongue" "stakeCount" "I" ∈ GW) (hdg : decode cc pc = .ok (.getfield index, 3)) (kk : W p l e Rr s m args below meth c H locs cells slots Q (F0 m (pc + 3) ls (.int (gI M a 5) :: rest))) : W p l e Rr s m args below meth c H locs cells slots Q (F0 m pc ls (.ref a :: rest)) := by
  obtain ⟨hx, hb, -, hml, hown, hts, hK, hA, -, hSt⟩ := C
  obtain ⟨q, hq⟩ := wl_get (cy := cy) (M := M) (R := R) ha
  rw [ce_5 (isK_knd ha)] at hq
  exact va_get (D := D) (ci := 5) (v := .int (gI M a 5)) (C := RX5) (T := TX5) (N := 11) hx hb hts inlX5 hown hK hP q hq rfl 5 (by decide) (hts _ hl) (fun _ h9 => h9) rfl hdg kk
theorem pe_5_5 {cy : Cy} {T : Ty} {M : Mm} {R : Rm} {a : Nat} {x : Int32} (ha : isK T a 5 = true) (y : Nat) : va_up (ce cy T M R) a (.inr (5, ([va_rf (R a 0), va_rf (R a 1), va_rf (R a 2), va_rf (R a 3), .int (M.1 a 4), .int (M.1 a 5), .int (M.1 a 6), .long (M.2 a 7), .long (M.2 a 8), .long (M.2 a 9), .long (M.2 a 10)] : List Value).set 5 (.int x))) y = ce cy T (sI M a 5 x) R y := by
  have hk := isK_knd ha
  unfold va_up
  by_cases h : y = a
  · subst h
    rw [if_pos rfl, ce_5 hk]
    simp [sI, sJ, up2, va_rf]
  · rw [if_neg h]
    exact ce_congr (by first | rfl | exact up2_ne h) (by first | rfl | exact up2_ne h) (by first | rfl | exact up2_ne h)
theorem pf_5_5 {p : Program} {l : Launch} {e : Env} {Rr : Room} {s : State} {m : MethodId} {args : Array Value} {below : List Frame} {meth : Method} {c : Code} {H : Heap} {locs : List Loc} {cells slots : Nat} {Q : State → Prop} {cc : ByteArray} {pc : Nat} {ls : Array Slot} {rest : List Value} {D : va_G} {cy : Cy} {T : Ty} {M : Mm} {R : Rm} {A : Nat → Prop} {own : String} {n : Nat} {ret : Option FieldType} {index a : Nat} {x : Int32} (C : Cx own cc n ret p s m args meth c D cy A) (hP : va_P D vwCl (WL cy T M R) H) (hD : va_D A (WL cy T M R)) (hS : va_S A s.heap H locs) (ha : isK T a 5 = true) (hl : Cond.fieldLink own index "IceTongue$Tongue" "stakeCount" "I" ∈ GW) (hdg : decode cc pc = .ok (.putfield index, 3)) (kk : ∀ (M1 : Mm) (H1 : Heap) (locs1 : List Loc), M1 = sI M a 5 x → va_P D vwCl (WL cy T M1 R) H1 → va_D A (WL cy T M1 R) → va_S A s.heap H1 locs1 → W p l e Rr s m args below meth c H1 locs1 cells slots Q (F0 m (pc + 3) ls rest)) : W p l e Rr s m args below meth c H locs cells slots Q (F0 m pc ls (.int x :: .ref a :: rest)) := by
  obtain ⟨hx, hb, -, hml, hown, hts, hK, hA, -, hSt⟩ := C
  obtain ⟨q, hq⟩ := wl_get (cy := cy) (M := M) (R := R) ha
  have hq0 := hq
  rw [ce_5 (isK_knd ha)] at hq
  refine va_put (D := D) (ci := 5) (v := .int x) (ty := .int) (C := RX5) (T := TX5) (N := 11) hx hb hts inlX5 tyX5 tyX5_ok nmX5 hown hK hP hD hS q hq rfl 5 (by decide) (hts _ hl) (fun _ h9 => h9) rfl (by decide +kernel) rfl rfl (Nat.le_of_ble_eq_true rfl) hdg (fun H1 locs1 hP1 hD1 hS1 => ?_)
  rw [wl_set hD ha hq0 (pe_5_5 ha)] at hP1 hD1
  exact kk _ H1 locs1 rfl hP1 hD1 hS1
theorem gf_5_6 {p : Program} {l : Launch} {e : Env} {Rr : Room} {s : State} {m : MethodId} {args : Array Value} {below : List Frame} {meth : Method} {c : Code} {H : Heap} {locs : List Loc} {cells slots : Nat} {Q : State → Prop} {cc : ByteArray} {pc : Nat} {ls : Array Slot} {rest : List Value} {D : va_G} {cy : Cy} {T : Ty} {M : Mm} {R : Rm} {A : Nat → Prop} {own : String} {n : Nat} {ret : Option FieldType} {index a : Nat} (C : Cx own cc n ret p s m args meth c D cy A) (hP : va_P D vwCl (WL cy T M R) H) (ha : isK T a 5 = true) (hl : Cond.fieldLink own index "IceTongue$Tongue" "year" "I" ∈ GW) (hdg : decode cc pc = .ok (.getfield index, 3)) (kk : W p l e Rr s m args below meth c H locs cells slots Q (F0 m (pc + 3) ls (.int (gI M a 6) :: rest))) : W p l e Rr s m args below meth c H locs cells slots Q (F0 m pc ls (.ref a :: rest)) := by
  obtain ⟨hx, hb, -, hml, hown, hts, hK, hA, -, hSt⟩ := C
  obtain ⟨q, hq⟩ := wl_get (cy := cy) (M := M) (R := R) ha
  rw [ce_5 (isK_knd ha)] at hq
  exact va_get (D := D) (ci := 5) (v := .int (gI M a 6)) (C := RX5) (T := TX5) (N := 11) hx hb hts inlX5 hown hK hP q hq rfl 6 (by decide) (hts _ hl) (fun _ h9 => h9) rfl hdg kk
theorem pe_5_6 {cy : Cy} {T : Ty} {M : Mm} {R : Rm} {a : Nat} {x : Int32} (ha : isK T a 5 = true) (y : Nat) : va_up (ce cy T M R) a (.inr (5, ([va_rf (R a 0), va_rf (R a 1), va_rf (R a 2), va_rf (R a 3), .int (M.1 a 4), .int (M.1 a 5), .int (M.1 a 6), .long (M.2 a 7), .long (M.2 a 8), .long (M.2 a 9), .long (M.2 a 10)] : List Value).set 6 (.int x))) y = ce cy T (sI M a 6 x) R y := by
  have hk := isK_knd ha
  unfold va_up
  by_cases h : y = a
  · subst h
    rw [if_pos rfl, ce_5 hk]
    simp [sI, sJ, up2, va_rf]
  · rw [if_neg h]
    exact ce_congr (by first | rfl | exact up2_ne h) (by first | rfl | exact up2_ne h) (by first | rfl | exact up2_ne h)
theorem pf_5_6 {p : Program} {l : Launch} {e : Env} {Rr : Room} {s : State} {m : MethodId} {args : Array Value} {below : List Frame} {meth : Method} {c : Code} {H : Heap} {locs : List Loc} {cells slots : Nat} {Q : State → Prop} {cc : ByteArray} {pc : Nat} {ls : Array Slot} {rest : List Value} {D : va_G} {cy : Cy} {T : Ty} {M : Mm} {R : Rm} {A : Nat → Prop} {own : String} {n : Nat} {ret : Option FieldType} {index a : Nat} {x : Int32} (C : Cx own cc n ret p s m args meth c D cy A) (hP : va_P D vwCl (WL cy T M R) H) (hD : va_D A (WL cy T M R)) (hS : va_S A s.heap H locs) (ha : isK T a 5 = true) (hl : Cond.fieldLink own index "IceTongue$Tongue" "year" "I" ∈ GW) (hdg : decode cc pc = .ok (.putfield index, 3)) (kk : ∀ (M1 : Mm) (H1 : Heap) (locs1 : List Loc), M1 = sI M a 6 x → va_P D vwCl (WL cy T M1 R) H1 → va_D A (WL cy T M1 R) → va_S A s.heap H1 locs1 → W p l e Rr s m args below meth c H1 locs1 cells slots Q (F0 m (pc + 3) ls rest)) : W p l e Rr s m args below meth c H locs cells slots Q (F0 m pc ls (.int x :: .ref a :: rest)) := by
  obtain ⟨hx, hb, -, hml, hown, hts, hK, hA, -, hSt⟩ := C
  obtain ⟨q, hq⟩ := wl_get (cy := cy) (M := M) (R := R) ha
  have hq0 := hq
  rw [ce_5 (isK_knd ha)] at hq
  refine va_put (D := D) (ci := 5) (v := .int x) (ty := .int) (C := RX5) (T := TX5) (N := 11) hx hb hts inlX5 tyX5 tyX5_ok nmX5 hown hK hP hD hS q hq rfl 6 (by decide) (hts _ hl) (fun _ h9 => h9) rfl (by decide +kernel) rfl rfl (Nat.le_of_ble_eq_true rfl) hdg (fun H1 locs1 hP1 hD1 hS1 => ?_)
  rw [wl_set hD ha hq0 (pe_5_6 ha)] at hP1 hD1
  exact kk _ H1 locs1 rfl hP1 hD1 hS1
theorem gf_5_7 {p : Program} {l : Launch} {e : Env} {Rr : Room} {s : State} {m : MethodId} {args : Array Value} {below : List Frame} {meth : Method} {c : Code} {H : Heap} {locs : List Loc} {cells slots : Nat} {Q : State → Prop} {cc : ByteArray} {pc : Nat} {ls : Array Slot} {rest : List Value} {D : va_G} {cy : Cy} {T : Ty} {M : Mm} {R : Rm} {A : Nat → Prop} {own : String} {n : Nat} {ret : Option FieldType} {index a : Nat} (C : Cx own cc n ret p s m args meth c D cy A) (hP : va_P D vwCl (WL cy T M R) H) (ha : isK T a 5 = true) (hl : Cond.fieldLink own index "IceTongue$Tongue" "added" "J" ∈ GW) (hdg : decode cc pc = .ok (.getfield index, 3)) (kk : W p l e Rr s m args below meth c H locs cells slots Q (F0 m (pc + 3) ls (.long (gJ M a 7) :: rest))) : W p l e Rr s m args below meth c H locs cells slots Q (F0 m pc ls (.ref a :: rest)) := by
  obtain ⟨hx, hb, -, hml, hown, hts, hK, hA, -, hSt⟩ := C
  obtain ⟨q, hq⟩ := wl_get (cy := cy) (M := M) (R := R) ha
  rw [ce_5 (isK_knd ha)] at hq
  exact va_get (D := D) (ci := 5) (v := .long (gJ M a 7)) (C := RX5) (T := TX5) (N := 11) hx hb hts inlX5 hown hK hP q hq rfl 7 (by decide) (hts _ hl) (fun _ h9 => h9) rfl hdg kk
theorem pe_5_7 {cy : Cy} {T : Ty} {M : Mm} {R : Rm} {a : Nat} {x : Int64} (ha : isK T a 5 = true) (y : Nat) : va_up (ce cy T M R) a (.inr (5, ([va_rf (R a 0), va_rf (R a 1), va_rf (R a 2), va_rf (R a 3), .int (M.1 a 4), .int (M.1 a 5), .int (M.1 a 6), .long (M.2 a 7), .long (M.2 a 8), .long (M.2 a 9), .long (M.2 a 10)] : List Value).set 7 (.long x))) y = ce cy T (sJ M a 7 x) R y := by
  have hk := isK_knd ha
  unfold va_up
  by_cases h : y = a
  · subst h
    rw [if_pos rfl, ce_5 hk]
    simp [sI, sJ, up2, va_rf]
  · rw [if_neg h]
    exact ce_congr (by first | rfl | exact up2_ne h) (by first | rfl | exact up2_ne h) (by first | rfl | exact up2_ne h)
theorem pf_5_7 {p : Program} {l : Launch} {e : Env} {Rr : Room} {s : State} {m : MethodId} {args : Array Value} {below : List Frame} {meth : Method} {c : Code} {H : Heap} {locs : List Loc} {cells slots : Nat} {Q : State → Prop} {cc : ByteArray} {pc : Nat} {ls : Array Slot} {rest : List Value} {D : va_G} {cy : Cy} {T : Ty} {M : Mm} {R : Rm} {A : Nat → Prop} {own : String} {n : Nat} {ret : Option FieldType} {index a : Nat} {x : Int64} (C : Cx own cc n ret p s m args meth c D cy A) (hP : va_P D vwCl (WL cy T M R) H) (hD : va_D A (WL cy T M R)) (hS : va_S A s.heap H locs) (ha : isK T a 5 = true) (hl : Cond.fieldLink own index "IceTongue$Tongue" "added" "J" ∈ GW) (hdg : decode cc pc = .ok (.putfield index, 3)) (kk : ∀ (M1 : Mm) (H1 : Heap) (locs1 : List Loc), M1 = sJ M a 7 x → va_P D vwCl (WL cy T M1 R) H1 → va_D A (WL cy T M1 R) → va_S A s.heap H1 locs1 → W p l e Rr s m args below meth c H1 locs1 cells slots Q (F0 m (pc + 3) ls rest)) : W p l e Rr s m args below meth c H locs cells slots Q (F0 m pc ls (.long x :: .ref a :: rest)) := by
  obtain ⟨hx, hb, -, hml, hown, hts, hK, hA, -, hSt⟩ := C
  obtain ⟨q, hq⟩ := wl_get (cy := cy) (M := M) (R := R) ha
  have hq0 := hq
  rw [ce_5 (isK_knd ha)] at hq
  refine va_put (D := D) (ci := 5) (v := .long x) (ty := .long) (C := RX5) (T := TX5) (N := 11) hx hb hts inlX5 tyX5 tyX5_ok nmX5 hown hK hP hD hS q hq rfl 7 (by decide) (hts _ hl) (fun _ h9 => h9) rfl (by decide +kernel) rfl rfl (Nat.le_of_ble_eq_true rfl) hdg (fun H1 locs1 hP1 hD1 hS1 => ?_)
  rw [wl_set hD ha hq0 (pe_5_7 ha)] at hP1 hD1
  exact kk _ H1 locs1 rfl hP1 hD1 hS1
theorem gf_5_8 {p : Program} {l : Launch} {e : Env} {Rr : Room} {s : State} {m : MethodId} {args : Array Value} {below : List Frame} {meth : Method} {c : Code} {H : Heap} {locs : List Loc} {cells slots : Nat} {Q : State → Prop} {cc : ByteArray} {pc : Nat} {ls : Array Slot} {rest : List Value} {D : va_G} {cy : Cy} {T : Ty} {M : Mm} {R : Rm} {A : Nat → Prop} {own : String} {n : Nat} {ret : Option FieldType} {index a : Nat} (C : Cx own cc n ret p s m args meth c D cy A) (hP : va_P D vwCl (WL cy T M R) H) (ha : isK T a 5 = true) (hl : Cond.fieldLink own index "IceTongue$Tongue" "snowed" "J" ∈ GW) (hdg : decode cc pc = .ok (.getfield index, 3)) (kk : W p l e Rr s m args below meth c H locs cells slots Q (F0 m (pc + 3) ls (.long (gJ M a 8) :: rest))) : W p l e Rr s m args below meth c H locs cells slots Q (F0 m pc ls (.ref a :: rest)) := by
  obtain ⟨hx, hb, -, hml, hown, hts, hK, hA, -, hSt⟩ := C
  obtain ⟨q, hq⟩ := wl_get (cy := cy) (M := M) (R := R) ha
  rw [ce_5 (isK_knd ha)] at hq
  exact va_get (D := D) (ci := 5) (v := .long (gJ M a 8)) (C := RX5) (T := TX5) (N := 11) hx hb hts inlX5 hown hK hP q hq rfl 8 (by decide) (hts _ hl) (fun _ h9 => h9) rfl hdg kk
theorem pe_5_8 {cy : Cy} {T : Ty} {M : Mm} {R : Rm} {a : Nat} {x : Int64} (ha : isK T a 5 = true) (y : Nat) : va_up (ce cy T M R) a (.inr (5, ([va_rf (R a 0), va_rf (R a 1), va_rf (R a 2), va_rf (R a 3), .int (M.1 a 4), .int (M.1 a 5), .int (M.1 a 6), .long (M.2 a 7), .long (M.2 a 8), .long (M.2 a 9), .long (M.2 a 10)] : List Value).set 8 (.long x))) y = ce cy T (sJ M a 8 x) R y := by
  have hk := isK_knd ha
  unfold va_up
  by_cases h : y = a
  · subst h
    rw [if_pos rfl, ce_5 hk]
    simp [sI, sJ, up2, va_rf]
  · rw [if_neg h]
    exact ce_congr (by first | rfl | exact up2_ne h) (by first | rfl | exact up2_ne h) (by first | rfl | exact up2_ne h)
theorem pf_5_8 {p : Program} {l : Launch} {e : Env} {Rr : Room} {s : State} {m : MethodId} {args : Array Value} {below : List Frame} {meth : Method} {c : Code} {H : Heap} {locs : List Loc} {cells slots : Nat} {Q : State → Prop} {cc : ByteArray} {pc : Nat} {ls : Array Slot} {rest : List Value} {D : va_G} {cy : Cy} {T : Ty} {M : Mm} {R : Rm} {A : Nat → Prop} {own : String} {n : Nat} {ret : Option FieldType} {index a : Nat} {x : Int64} (C : Cx own cc n ret p s m args meth c D cy A) (hP : va_P D vwCl (WL cy T M R) H) (hD : va_D A (WL cy T M R)) (hS : va_S A s.heap H locs) (ha : isK T a 5 = true) (hl : Cond.fieldLink own index "IceTongue$Tongue" "snowed" "J" ∈ GW) (hdg : decode cc pc = .ok (.putfield index, 3)) (kk : ∀ (M1 : Mm) (H1 : Heap) (locs1 : List Loc), M1 = sJ M a 8 x → va_P D vwCl (WL cy T M1 R) H1 → va_D A (WL cy T M1 R) → va_S A s.heap H1 locs1 → W p l e Rr s m args below meth c H1 locs1 cells slots Q (F0 m (pc + 3) ls rest)) : W p l e Rr s m args below meth c H locs cells slots Q (F0 m pc ls (.long x :: .ref a :: rest)) := by
  obtain ⟨hx, hb, -, hml, hown, hts, hK, hA, -, hSt⟩ := C
  obtain ⟨q, hq⟩ := wl_get (cy := cy) (M := M) (R := R) ha
  have hq0 := hq
  rw [ce_5 (isK_knd ha)] at hq
  refine va_put (D := D) (ci := 5) (v := .long x) (ty := .long) (C := RX5) (T := TX5) (N := 11) hx hb hts inlX5 tyX5 tyX5_ok nmX5 hown hK hP hD hS q hq rfl 8 (by decide) (hts _ hl) (fun _ h9 => h9) rfl (by decide +kernel) rfl rfl (Nat.le_of_ble_eq_true rfl) hdg (fun H1 locs1 hP1 hD1 hS1 => ?_)
  rw [wl_set hD ha hq0 (pe_5_8 ha)] at hP1 hD1
  exact kk _ H1 locs1 rfl hP1 hD1 hS1
theorem gf_5_9 {p : Program} {l : Launch} {e : Env} {Rr : Room} {s : State} {m : MethodId} {args : Array Value} {below : List Frame} {meth : Method} {c : Code} {H : Heap} {locs : List Loc} {cells slots : Nat} {Q : State → Prop} {cc : ByteArray} {pc : Nat} {ls : Array Slot} {rest : List Value} {D : va_G} {cy : Cy} {T : Ty} {M : Mm} {R : Rm} {A : Nat → Prop} {own : String} {n : Nat} {ret : Option FieldType} {index a : Nat} (C : Cx own cc n ret p s m args meth c D cy A) (hP : va_P D vwCl (WL cy T M R) H) (ha : isK T a 5 = true) (hl : Cond.fieldLink own index "IceTongue$Tongue" "melted" "J" ∈ GW) (hdg : decode cc pc = .ok (.getfield index, 3)) (kk : W p l e Rr s m args below meth c H locs cells slots Q (F0 m (pc + 3) ls (.long (gJ M a 9) :: rest))) : W p l e Rr s m args below meth c H locs cells slots Q (F0 m pc ls (.ref a :: rest)) := by
  obtain ⟨hx, hb, -, hml, hown, hts, hK, hA, -, hSt⟩ := C
  obtain ⟨q, hq⟩ := wl_get (cy := cy) (M := M) (R := R) ha
  rw [ce_5 (isK_knd ha)] at hq
  exact va_get (D := D) (ci := 5) (v := .long (gJ M a 9)) (C := RX5) (T := TX5) (N := 11) hx hb hts inlX5 hown hK hP q hq rfl 9 (by decide) (hts _ hl) (fun _ h9 => h9) rfl hdg kk
theorem pe_5_9 {cy : Cy} {T : Ty} {M : Mm} {R : Rm} {a : Nat} {x : Int64} (ha : isK T a 5 = true) (y : Nat) : va_up (ce cy T M R) a (.inr (5, ([va_rf (R a 0), va_rf (R a 1), va_rf (R a 2), va_rf (R a 3), .int (M.1 a 4), .int (M.1 a 5), .int (M.1 a 6), .long (M.2 a 7), .long (M.2 a 8), .long (M.2 a 9), .long (M.2 a 10)] : List Value).set 9 (.long x))) y = ce cy T (sJ M a 9 x) R y := by
  have hk := isK_knd ha
  unfold va_up
  by_cases h : y = a
  · subst h
    rw [if_pos rfl, ce_5 hk]
    simp [sI, sJ, up2, va_rf]
  · rw [if_neg h]
    exact ce_congr (by first | rfl | exact up2_ne h) (by first | rfl | exact up2_ne h) (by first | rfl | exact up2_ne h)
theorem pf_5_9 {p : Program} {l : Launch} {e : Env} {Rr : Room} {s : State} {m : MethodId} {args : Array Value} {below : List Frame} {meth : Method} {c : Code} {H : Heap} {locs : List Loc} {cells slots : Nat} {Q : State → Prop} {cc : ByteArray} {pc : Nat} {ls : Array Slot} {rest : List Value} {D : va_G} {cy : Cy} {T : Ty} {M : Mm} {R : Rm} {A : Nat → Prop} {own : String} {n : Nat} {ret : Option FieldType} {index a : Nat} {x : Int64} (C : Cx own cc n ret p s m args meth c D cy A) (hP : va_P D vwCl (WL cy T M R) H) (hD : va_D A (WL cy T M R)) (hS : va_S A s.heap H locs) (ha : isK T a 5 = true) (hl : Cond.fieldLink own index "IceTongue$Tongue" "melted" "J" ∈ GW) (hdg : decode cc pc = .ok (.putfield index, 3)) (kk : ∀ (M1 : Mm) (H1 : Heap) (locs1 : List Loc), M1 = sJ M a 9 x → va_P D vwCl (WL cy T M1 R) H1 → va_D A (WL cy T M1 R) → va_S A s.heap H1 locs1 → W p l e Rr s m args below meth c H1 locs1 cells slots Q (F0 m (pc + 3) ls rest)) : W p l e Rr s m args below meth c H locs cells slots Q (F0 m pc ls (.long x :: .ref a :: rest)) := by
  obtain ⟨hx, hb, -, hml, hown, hts, hK, hA, -, hSt⟩ := C
  obtain ⟨q, hq⟩ := wl_get (cy := cy) (M := M) (R := R) ha
  have hq0 := hq
  rw [ce_5 (isK_knd ha)] at hq
  refine va_put (D := D) (ci := 5) (v := .long x) (ty := .long) (C := RX5) (T := TX5) (N := 11) hx hb hts inlX5 tyX5 tyX5_ok nmX5 hown hK hP hD hS q hq rfl 9 (by decide) (hts _ hl) (fun _ h9 => h9) rfl (by decide +kernel) rfl rfl (Nat.le_of_ble_eq_true rfl) hdg (fun H1 locs1 hP1 hD1 hS1 => ?_)
  rw [wl_set hD ha hq0 (pe_5_9 ha)] at hP1 hD1
  exact kk _ H1 locs1 rfl hP1 hD1 hS1
theorem gf_5_10 {p : Program} {l : Launch} {e : Env} {Rr : Room} {s : State} {m : MethodId} {args : Array Value} {below : List Frame} {meth : Method} {c : Code} {H : Heap} {locs : List Loc} {cells slots : Nat} {Q : State → Prop} {cc : ByteArray} {pc : Nat} {ls : Array Slot} {rest : List Value} {D : va_G} {cy : Cy} {T : Ty} {M : Mm} {R : Rm} {A : Nat → Prop} {own : String} {n : Nat} {ret : Option FieldType} {index a : Nat} (C : Cx own cc n ret p s m args meth c D cy A) (hP : va_P D vwCl (WL cy T M R) H) (ha : isK T a 5 = true) (hl : Cond.fieldLink own index "IceTongue$Tongue" "calved" "J" ∈ GW) (hdg : decode cc pc = .ok (.getfield index, 3)) (kk : W p l e Rr s m args below meth c H locs cells slots Q (F0 m (pc + 3) ls (.long (gJ M a 10) :: rest))) : W p l e Rr s m args below meth c H locs cells slots Q (F0 m pc ls (.ref a :: rest)) := by
  obtain ⟨hx, hb, -, hml, hown, hts, hK, hA, -, hSt⟩ := C
  obtain ⟨q, hq⟩ := wl_get (cy := cy) (M := M) (R := R) ha
  rw [ce_5 (isK_knd ha)] at hq
  exact va_get (D := D) (ci := 5) (v := .long (gJ M a 10)) (C := RX5) (T := TX5) (N := 11) hx hb hts inlX5 hown hK hP q hq rfl 10 (by decide) (hts _ hl) (fun _ h9 => h9) rfl hdg kk
theorem pe_5_10 {cy : Cy} {T : Ty} {M : Mm} {R : Rm} {a : Nat} {x : Int64} (ha : isK T a 5 = true) (y : Nat) : va_up (ce cy T M R) a (.inr (5, ([va_rf (R a 0), va_rf (R a 1), va_rf (R a 2), va_rf (R a 3), .int (M.1 a 4), .int (M.1 a 5), .int (M.1 a 6), .long (M.2 a 7), .long (M.2 a 8), .long (M.2 a 9), .long (M.2 a 10)] : List Value).set 10 (.long x))) y = ce cy T (sJ M a 10 x) R y := by
  have hk := isK_knd ha
  unfold va_up
  by_cases h : y = a
  · subst h
    rw [if_pos rfl, ce_5 hk]
    simp [sI, sJ, up2, va_rf]
  · rw [if_neg h]
    exact ce_congr (by first | rfl | exact up2_ne h) (by first | rfl | exact up2_ne h) (by first | rfl | exact up2_ne h)
theorem pf_5_10 {p : Program} {l : Launch} {e : Env} {Rr : Room} {s : State} {m : MethodId} {args : Array Value} {below : List Frame} {meth : Method} {c : Code} {H : Heap} {locs : List Loc} {cells slots : Nat} {Q : State → Prop} {cc : ByteArray} {pc : Nat} {ls : Array Slot} {rest : List Value} {D : va_G} {cy : Cy} {T : Ty} {M : Mm} {R : Rm} {A : Nat → Prop} {own : String} {n : Nat} {ret : Option FieldType} {index a : Nat} {x : Int64} (C : Cx own cc n ret p s m args meth c D cy A) (hP : va_P D vwCl (WL cy T M R) H) (hD : va_D A (WL cy T M R)) (hS : va_S A s.heap H locs) (ha : isK T a 5 = true) (hl : Cond.fieldLink own index "IceTongue$Tongue" "calved" "J" ∈ GW) (hdg : decode cc pc = .ok (.putfield index, 3)) (kk : ∀ (M1 : Mm) (H1 : Heap) (locs1 : List Loc), M1 = sJ M a 10 x → va_P D vwCl (WL cy T M1 R) H1 → va_D A (WL cy T M1 R) → va_S A s.heap H1 locs1 → W p l e Rr s m args below meth c H1 locs1 cells slots Q (F0 m (pc + 3) ls rest)) : W p l e Rr s m args below meth c H locs cells slots Q (F0 m pc ls (.long x :: .ref a :: rest)) := by
  obtain ⟨hx, hb, -, hml, hown, hts, hK, hA, -, hSt⟩ := C
  obtain ⟨q, hq⟩ := wl_get (cy := cy) (M := M) (R := R) ha
  have hq0 := hq
  rw [ce_5 (isK_knd ha)] at hq
  refine va_put (D := D) (ci := 5) (v := .long x) (ty := .long) (C := RX5) (T := TX5) (N := 11) hx hb hts inlX5 tyX5 tyX5_ok nmX5 hown hK hP hD hS q hq rfl 10 (by decide) (hts _ hl) (fun _ h9 => h9) rfl (by decide +kernel) rfl rfl (Nat.le_of_ble_eq_true rfl) hdg (fun H1 locs1 hP1 hD1 hS1 => ?_)
  rw [wl_set hD ha hq0 (pe_5_10 ha)] at hP1 hD1
  exact kk _ H1 locs1 rfl hP1 hD1 hS1
theorem gf_6_0 {p : Program} {l : Launch} {e : Env} {Rr : Room} {s : State} {m : MethodId} {args : Array Value} {below : List Frame} {meth : Method} {c : Code} {H : Heap} {locs : List Loc} {cells slots : Nat} {Q : State → Prop} {cc : ByteArray} {pc : Nat} {ls : Array Slot} {rest : List Value} {D : va_G} {cy : Cy} {T : Ty} {M : Mm} {R : Rm} {A : Nat → Prop} {own : String} {n : Nat} {ret : Option FieldType} {index a : Nat} (C : Cx own cc n ret p s m args meth c D cy A) (hP : va_P D vwCl (WL cy T M R) H) (ha : isK T a 6 = true) {b : Nat} (eb : R a 0 = some b) (hl : Cond.fieldLink own index "IceTongue" "trial" "LIceTongue$Tongue;" ∈ GW) (hdg : decode cc pc = .ok (.getfield index, 3)) (kk : W p l e Rr s m args below meth c H locs cells slots Q (F0 m (pc + 3) ls (.ref b :: rest))) : W p l e Rr s m args below meth c H locs cells slots Q (F0 m pc ls (.ref a :: rest)) := by
  obtain ⟨hx, hb, -, hml, hown, hts, hK, hA, -, hSt⟩ := C
  obtain ⟨q, hq⟩ := wl_get (cy := cy) (M := M) (R := R) ha
  rw [ce_6 (isK_knd ha)] at hq
  exact va_get (D := D) (ci := 6) (v := .ref b) (C := RX6) (T := TX6) (N := 5) hx hb hts inlX6 hown hK hP q hq rfl 0 (by decide) (hts _ hl) (fun _ h9 => h9) (show some (va_rf (R a 0)) = some (.ref b) from by rw [eb]; rfl) hdg kk
theorem pe_6_0 {cy : Cy} {T : Ty} {M : Mm} {R : Rm} {a : Nat} {b : Nat} (ha : isK T a 6 = true) (y : Nat) : va_up (ce cy T M R) a (.inr (6, ([va_rf (R a 0), va_rf (R a 1), va_rf (R a 2), va_rf (R a 3), .int (M.1 a 4)] : List Value).set 0 (.ref b))) y = ce cy T M (up2 R a 0 (some b)) y := by
  have hk := isK_knd ha
  unfold va_up
  by_cases h : y = a
  · subst h
    rw [if_pos rfl, ce_6 hk]
    simp [sI, sJ, up2, va_rf]
  · rw [if_neg h]
    exact ce_congr (by first | rfl | exact up2_ne h) (by first | rfl | exact up2_ne h) (by first | rfl | exact up2_ne h)
theorem pf_6_0 {p : Program} {l : Launch} {e : Env} {Rr : Room} {s : State} {m : MethodId} {args : Array Value} {below : List Frame} {meth : Method} {c : Code} {H : Heap} {locs : List Loc} {cells slots : Nat} {Q : State → Prop} {cc : ByteArray} {pc : Nat} {ls : Array Slot} {rest : List Value} {D : va_G} {cy : Cy} {T : Ty} {M : Mm} {R : Rm} {A : Nat → Prop} {own : String} {n : Nat} {ret : Option FieldType} {index a : Nat} {b : Nat} (C : Cx own cc n ret p s m args meth c D cy A) (hP : va_P D vwCl (WL cy T M R) H) (hD : va_D A (WL cy T M R)) (hS : va_S A s.heap H locs) (ha : isK T a 6 = true) (hl : Cond.fieldLink own index "IceTongue" "trial" "LIceTongue$Tongue;" ∈ GW) (hin : meth.name = "<init>") (hO : (TX6 0).1 = own) (hdg : decode cc pc = .ok (.putfield index, 3)) (kk : ∀ (R1 : Rm) (H1 : Heap) (locs1 : List Loc), R1 = up2 R a 0 (some b) → va_P D vwCl (WL cy T M R1) H1 → va_D A (WL cy T M R1) → va_S A s.heap H1 locs1 → W p l e Rr s m args below meth c H1 locs1 cells slots Q (F0 m (pc + 3) ls rest)) : W p l e Rr s m args below meth c H locs cells slots Q (F0 m pc ls (.ref b :: .ref a :: rest)) := by
  obtain ⟨hx, hb, -, hml, hown, hts, hK, hA, -, hSt⟩ := C
  obtain ⟨q, hq⟩ := wl_get (cy := cy) (M := M) (R := R) ha
  have hq0 := hq
  rw [ce_6 (isK_knd ha)] at hq
  refine va_putF (D := D) (ci := 6) (v := .ref b) (ty := (tyX6 0)) (C := RX6) (T := TX6) (N := 5) hx hb hts inlX6 tyX6 tyX6_ok nmX6 hown hK hP hD hS q hq rfl 0 (by decide) (hts _ hl) (fun _ h9 => h9) rfl hin hO (by decide +kernel) rfl rfl (Nat.le_of_ble_eq_true rfl) hdg (fun H1 locs1 hP1 hD1 hS1 => ?_)
  rw [wl_set hD ha hq0 (pe_6_0 ha)] at hP1 hD1
  exact kk _ H1 locs1 rfl hP1 hD1 hS1
theorem gf_6_1 {p : Program} {l : Launch} {e : Env} {Rr : Room} {s : State} {m : MethodId} {args : Array Value} {below : List Frame} {meth : Method} {c : Code} {H : Heap} {locs : List Loc} {cells slots : Nat} {Q : State → Prop} {cc : ByteArray} {pc : Nat} {ls : Array Slot} {rest : List Value} {D : va_G} {cy : Cy} {T : Ty} {M : Mm} {R : Rm} {A : Nat → Prop} {own : String} {n : Nat} {ret : Option FieldType} {index a : Nat} (C : Cx own cc n ret p s m args meth c D cy A) (hP : va_P D vwCl (WL cy T M R) H) (ha : isK T a 6 = true) {b : Nat} (eb : R a 1 = some b) (hl : Cond.fieldLink own index "IceTongue" "history" "[LIceTongue$Tongue;" ∈ GW) (hdg : decode cc pc = .ok (.getfield index, 3)) (kk : W p l e Rr s m args below meth c H locs cells slots Q (F0 m (pc + 3) ls (.ref b :: rest))) : W p l e Rr s m args below meth c H locs cells slots Q (F0 m pc ls (.ref a :: rest)) := by
  obtain ⟨hx, hb, -, hml, hown, hts, hK, hA, -, hSt⟩ := C
  obtain ⟨q, hq⟩ := wl_get (cy := cy) (M := M) (R := R) ha
  rw [ce_6 (isK_knd ha)] at hq
  exact va_get (D := D) (ci := 6) (v := .ref b) (C := RX6) (T := TX6) (N := 5) hx hb hts inlX6 hown hK hP q hq rfl 1 (by decide) (hts _ hl) (fun _ h9 => h9) (show some (va_rf (R a 1)) = some (.ref b) from by rw [eb]; rfl) hdg kk
theorem pe_6_1 {cy : Cy} {T : Ty} {M : Mm} {R : Rm} {a : Nat} {b : Nat} (ha : isK T a 6 = true) (y : Nat) : va_up (ce cy T M R) a (.inr (6, ([va_rf (R a 0), va_rf (R a 1), va_rf (R a 2), va_rf (R a 3), .int (M.1 a 4)] : List Value).set 1 (.ref b))) y = ce cy T M (up2 R a 1 (some b)) y := by
  have hk := isK_knd ha
  unfold va_up
  by_cases h : y = a
  · subst h
    rw [if_pos rfl, ce_6 hk]
    simp [sI, sJ, up2, va_rf]
  · rw [if_neg h]
    exact ce_congr (by first | rfl | exact up2_ne h) (by first | rfl | exact up2_ne h) (by first | rfl | exact up2_ne h)
theorem pf_6_1 {p : Program} {l : Launch} {e : Env} {Rr : Room} {s : State} {m : MethodId} {args : Array Value} {below : List Frame} {meth : Method} {c : Code} {H : Heap} {locs : List Loc} {cells slots : Nat} {Q : State → Prop} {cc : ByteArray} {pc : Nat} {ls : Array Slot} {rest : List Value} {D : va_G} {cy : Cy} {T : Ty} {M : Mm} {R : Rm} {A : Nat → Prop} {own : String} {n : Nat} {ret : Option FieldType} {index a : Nat} {b : Nat} (C : Cx own cc n ret p s m args meth c D cy A) (hP : va_P D vwCl (WL cy T M R) H) (hD : va_D A (WL cy T M R)) (hS : va_S A s.heap H locs) (ha : isK T a 6 = true) (hl : Cond.fieldLink own index "IceTongue" "history" "[LIceTongue$Tongue;" ∈ GW) (hin : meth.name = "<init>") (hO : (TX6 1).1 = own) (hdg : decode cc pc = .ok (.putfield index, 3)) (kk : ∀ (R1 : Rm) (H1 : Heap) (locs1 : List Loc), R1 = up2 R a 1 (some b) → va_P D vwCl (WL cy T M R1) H1 → va_D A (WL cy T M R1) → va_S A s.heap H1 locs1 → W p l e Rr s m args below meth c H1 locs1 cells slots Q (F0 m (pc + 3) ls rest)) : W p l e Rr s m args below meth c H locs cells slots Q (F0 m pc ls (.ref b :: .ref a :: rest)) := by
  obtain ⟨hx, hb, -, hml, hown, hts, hK, hA, -, hSt⟩ := C
  obtain ⟨q, hq⟩ := wl_get (cy := cy) (M := M) (R := R) ha
  have hq0 := hq
  rw [ce_6 (isK_knd ha)] at hq
  refine va_putF (D := D) (ci := 6) (v := .ref b) (ty := (tyX6 1)) (C := RX6) (T := TX6) (N := 5) hx hb hts inlX6 tyX6 tyX6_ok nmX6 hown hK hP hD hS q hq rfl 1 (by decide) (hts _ hl) (fun _ h9 => h9) rfl hin hO (by decide +kernel) rfl rfl (Nat.le_of_ble_eq_true rfl) hdg (fun H1 locs1 hP1 hD1 hS1 => ?_)
  rw [wl_set hD ha hq0 (pe_6_1 ha)] at hP1 hD1
  exact kk _ H1 locs1 rfl hP1 hD1 hS1
theorem gf_6_2 {p : Program} {l : Launch} {e : Env} {Rr : Room} {s : State} {m : MethodId} {args : Array Value} {below : List Frame} {meth : Method} {c : Code} {H : Heap} {locs : List Loc} {cells slots : Nat} {Q : State → Prop} {cc : ByteArray} {pc : Nat} {ls : Array Slot} {rest : List Value} {D : va_G} {cy : Cy} {T : Ty} {M : Mm} {R : Rm} {A : Nat → Prop} {own : String} {n : Nat} {ret : Option FieldType} {index a : Nat} (C : Cx own cc n ret p s m args meth c D cy A) (hP : va_P D vwCl (WL cy T M R) H) (ha : isK T a 6 = true) {b : Nat} (eb : R a 2 = some b) (hl : Cond.fieldLink own index "IceTongue" "text" "LIceTongue$Text;" ∈ GW) (hdg : decode cc pc = .ok (.getfield index, 3)) (kk : W p l e Rr s m args below meth c H locs cells slots Q (F0 m (pc + 3) ls (.ref b :: rest))) : W p l e Rr s m args below meth c H locs cells slots Q (F0 m pc ls (.ref a :: rest)) := by
  obtain ⟨hx, hb, -, hml, hown, hts, hK, hA, -, hSt⟩ := C
  obtain ⟨q, hq⟩ := wl_get (cy := cy) (M := M) (R := R) ha
  rw [ce_6 (isK_knd ha)] at hq
  exact va_get (D := D) (ci := 6) (v := .ref b) (C := RX6) (T := TX6) (N := 5) hx hb hts inlX6 hown hK hP q hq rfl 2 (by decide) (hts _ hl) (fun _ h9 => h9) (show some (va_rf (R a 2)) = some (.ref b) from by rw [eb]; rfl) hdg kk
theorem pe_6_2 {cy : Cy} {T : Ty} {M : Mm} {R : Rm} {a : Nat} {b : Nat} (ha : isK T a 6 = true) (y : Nat) : va_up (ce cy T M R) a (.inr (6, ([va_rf (R a 0), va_rf (R a 1), va_rf (R a 2), va_rf (R a 3), .int (M.1 a 4)] : List Value).set 2 (.ref b))) y = ce cy T M (up2 R a 2 (some b)) y := by
  have hk := isK_knd ha
  unfold va_up
  by_cases h : y = a
  · subst h
    rw [if_pos rfl, ce_6 hk]
    simp [sI, sJ, up2, va_rf]
  · rw [if_neg h]
    exact ce_congr (by first | rfl | exact up2_ne h) (by first | rfl | exact up2_ne h) (by first | rfl | exact up2_ne h)
theorem pf_6_2 {p : Program} {l : Launch} {e : Env} {Rr : Room} {s : State} {m : MethodId} {args : Array Value} {below : List Frame} {meth : Method} {c : Code} {H : Heap} {locs : List Loc} {cells slots : Nat} {Q : State → Prop} {cc : ByteArray} {pc : Nat} {ls : Array Slot} {rest : List Value} {D : va_G} {cy : Cy} {T : Ty} {M : Mm} {R : Rm} {A : Nat → Prop} {own : String} {n : Nat} {ret : Option FieldType} {index a : Nat} {b : Nat} (C : Cx own cc n ret p s m args meth c D cy A) (hP : va_P D vwCl (WL cy T M R) H) (hD : va_D A (WL cy T M R)) (hS : va_S A s.heap H locs) (ha : isK T a 6 = true) (hl : Cond.fieldLink own index "IceTongue" "text" "LIceTongue$Text;" ∈ GW) (hin : meth.name = "<init>") (hO : (TX6 2).1 = own) (hdg : decode cc pc = .ok (.putfield index, 3)) (kk : ∀ (R1 : Rm) (H1 : Heap) (locs1 : List Loc), R1 = up2 R a 2 (some b) → va_P D vwCl (WL cy T M R1) H1 → va_D A (WL cy T M R1) → va_S A s.heap H1 locs1 → W p l e Rr s m args below meth c H1 locs1 cells slots Q (F0 m (pc + 3) ls rest)) : W p l e Rr s m args below meth c H locs cells slots Q (F0 m pc ls (.ref b :: .ref a :: rest)) := by
  obtain ⟨hx, hb, -, hml, hown, hts, hK, hA, -, hSt⟩ := C
  obtain ⟨q, hq⟩ := wl_get (cy := cy) (M := M) (R := R) ha
  have hq0 := hq
  rw [ce_6 (isK_knd ha)] at hq
  refine va_putF (D := D) (ci := 6) (v := .ref b) (ty := (tyX6 2)) (C := RX6) (T := TX6) (N := 5) hx hb hts inlX6 tyX6 tyX6_ok nmX6 hown hK hP hD hS q hq rfl 2 (by decide) (hts _ hl) (fun _ h9 => h9) rfl hin hO (by decide +kernel) rfl rfl (Nat.le_of_ble_eq_true rfl) hdg (fun H1 locs1 hP1 hD1 hS1 => ?_)
  rw [wl_set hD ha hq0 (pe_6_2 ha)] at hP1 hD1
  exact kk _ H1 locs1 rfl hP1 hD1 hS1
theorem gf_6_3 {p : Program} {l : Launch} {e : Env} {Rr : Room} {s : State} {m : MethodId} {args : Array Value} {below : List Frame} {meth : Method} {c : Code} {H : Heap} {locs : List Loc} {cells slots : Nat} {Q : State → Prop} {cc : ByteArray} {pc : Nat} {ls : Array Slot} {rest : List Value} {D : va_G} {cy : Cy} {T : Ty} {M : Mm} {R : Rm} {A : Nat → Prop} {own : String} {n : Nat} {ret : Option FieldType} {index a : Nat} (C : Cx own cc n ret p s m args meth c D cy A) (hP : va_P D vwCl (WL cy T M R) H) (ha : isK T a 6 = true) {b : Nat} (eb : R a 3 = some b) (hl : Cond.fieldLink own index "IceTongue" "now" "LIceTongue$Tongue;" ∈ GW) (hdg : decode cc pc = .ok (.getfield index, 3)) (kk : W p l e Rr s m args below meth c H locs cells slots Q (F0 m (pc + 3) ls (.ref b :: rest))) : W p l e Rr s m args below meth c H locs cells slots Q (F0 m pc ls (.ref a :: rest)) := by
  obtain ⟨hx, hb, -, hml, hown, hts, hK, hA, -, hSt⟩ := C
  obtain ⟨q, hq⟩ := wl_get (cy := cy) (M := M) (R := R) ha
  rw [ce_6 (isK_knd ha)] at hq
  exact va_get (D := D) (ci := 6) (v := .ref b) (C := RX6) (T := TX6) (N := 5) hx hb hts inlX6 hown hK hP q hq rfl 3 (by decide) (hts _ hl) (fun _ h9 => h9) (show some (va_rf (R a 3)) = some (.ref b) from by rw [eb]; rfl) hdg kk
theorem pe_6_3 {cy : Cy} {T : Ty} {M : Mm} {R : Rm} {a : Nat} {b : Nat} (ha : isK T a 6 = true) (y : Nat) : va_up (ce cy T M R) a (.inr (6, ([va_rf (R a 0), va_rf (R a 1), va_rf (R a 2), va_rf (R a 3), .int (M.1 a 4)] : List Value).set 3 (.ref b))) y = ce cy T M (up2 R a 3 (some b)) y := by
  have hk := isK_knd ha
  unfold va_up
  by_cases h : y = a
  · subst h
    rw [if_pos rfl, ce_6 hk]
    simp [sI, sJ, up2, va_rf]
  · rw [if_neg h]
    exact ce_congr (by first | rfl | exact up2_ne h) (by first | rfl | exact up2_ne h) (by first | rfl | exact up2_ne h)
theorem pf_6_3 {p : Program} {l : Launch} {e : Env} {Rr : Room} {s : State} {m : MethodId} {args : Array Value} {below : List Frame} {meth : Method} {c : Code} {H : Heap} {locs : List Loc} {cells slots : Nat} {Q : State → Prop} {cc : ByteArray} {pc : Nat} {ls : Array Slot} {rest : List Value} {D : va_G} {cy : Cy} {T : Ty} {M : Mm} {R : Rm} {A : Nat → Prop} {own : String} {n : Nat} {ret : Option FieldType} {index a : Nat} {b : Nat} (C : Cx own cc n ret p s m args meth c D cy A) (hP : va_P D vwCl (WL cy T M R) H) (hD : va_D A (WL cy T M R)) (hS : va_S A s.heap H locs) (ha : isK T a 6 = true) (hl : Cond.fieldLink own index "IceTongue" "now" "LIceTongue$Tongue;" ∈ GW) (hdg : decode cc pc = .ok (.putfield index, 3)) (kk : ∀ (R1 : Rm) (H1 : Heap) (locs1 : List Loc), R1 = up2 R a 3 (some b) → va_P D vwCl (WL cy T M R1) H1 → va_D A (WL cy T M R1) → va_S A s.heap H1 locs1 → W p l e Rr s m args below meth c H1 locs1 cells slots Q (F0 m (pc + 3) ls rest)) : W p l e Rr s m args below meth c H locs cells slots Q (F0 m pc ls (.ref b :: .ref a :: rest)) := by
  obtain ⟨hx, hb, -, hml, hown, hts, hK, hA, -, hSt⟩ := C
  obtain ⟨q, hq⟩ := wl_get (cy := cy) (M := M) (R := R) ha
  have hq0 := hq
  rw [ce_6 (isK_knd ha)] at hq
  refine va_put (D := D) (ci := 6) (v := .ref b) (ty := (tyX6 3)) (C := RX6) (T := TX6) (N := 5) hx hb hts inlX6 tyX6 tyX6_ok nmX6 hown hK hP hD hS q hq rfl 3 (by decide) (hts _ hl) (fun _ h9 => h9) rfl (by decide +kernel) rfl rfl (Nat.le_of_ble_eq_true rfl) hdg (fun H1 locs1 hP1 hD1 hS1 => ?_)
  rw [wl_set hD ha hq0 (pe_6_3 ha)] at hP1 hD1
  exact kk _ H1 locs1 rfl hP1 hD1 hS1
theorem gf_6_4 {p : Program} {l : Launch} {e : Env} {Rr : Room} {s : State} {m : MethodId} {args : Array Value} {below : List Frame} {meth : Method} {c : Code} {H : Heap} {locs : List Loc} {cells slots : Nat} {Q : State → Prop} {cc : ByteArray} {pc : Nat} {ls : Array Slot} {rest : List Value} {D : va_G} {cy : Cy} {T : Ty} {M : Mm} {R : Rm} {A : Nat → Prop} {own : String} {n : Nat} {ret : Option FieldType} {index a : Nat} (C : Cx own cc n ret p s m args meth c D cy A) (hP : va_P D vwCl (WL cy T M R) H) (ha : isK T a 6 = true) (hl : Cond.fieldLink own index "IceTongue" "states" "I" ∈ GW) (hdg : decode cc pc = .ok (.getfield index, 3)) (kk : W p l e Rr s m args below meth c H locs cells slots Q (F0 m (pc + 3) ls (.int (gI M a 4) :: rest))) : W p l e Rr s m args below meth c H locs cells slots Q (F0 m pc ls (.ref a :: rest)) := by
  obtain ⟨hx, hb, -, hml, hown, hts, hK, hA, -, hSt⟩ := C
  obtain ⟨q, hq⟩ := wl_get (cy := cy) (M := M) (R := R) ha
  rw [ce_6 (isK_knd ha)] at hq
  exact va_get (D := D) (ci := 6) (v := .int (gI M a 4)) (C := RX6) (T := TX6) (N := 5) hx hb hts inlX6 hown hK hP q hq rfl 4 (by decide) (hts _ hl) (fun _ h9 => h9) rfl hdg kk
theorem pe_6_4 {cy : Cy} {T : Ty} {M : Mm} {R : Rm} {a : Nat} {x : Int32} (ha : isK T a 6 = true) (y : Nat) : va_up (ce cy T M R) a (.inr (6, ([va_rf (R a 0), va_rf (R a 1), va_rf (R a 2), va_rf (R a 3), .int (M.1 a 4)] : List Value).set 4 (.int x))) y = ce cy T (sI M a 4 x) R y := by
  have hk := isK_knd ha
  unfold va_up
  by_cases h : y = a
  · subst h
    rw [if_pos rfl, ce_6 hk]
    simp [sI, sJ, up2, va_rf]
  · rw [if_neg h]
    exact ce_congr (by first | rfl | exact up2_ne h) (by first | rfl | exact up2_ne h) (by first | rfl | exact up2_ne h)
theorem pf_6_4 {p : Program} {l : Launch} {e : Env} {Rr : Room} {s : State} {m : MethodId} {args : Array Value} {below : List Frame} {meth : Method} {c : Code} {H : Heap} {locs : List Loc} {cells slots : Nat} {Q : State → Prop} {cc : ByteArray} {pc : Nat} {ls : Array Slot} {rest : List Value} {D : va_G} {cy : Cy} {T : Ty} {M : Mm} {R : Rm} {A : Nat → Prop} {own : String} {n : Nat} {ret : Option FieldType} {index a : Nat} {x : Int32} (C : Cx own cc n ret p s m args meth c D cy A) (hP : va_P D vwCl (WL cy T M R) H) (hD : va_D A (WL cy T M R)) (hS : va_S A s.heap H locs) (ha : isK T a 6 = true) (hl : Cond.fieldLink own index "IceTongue" "states" "I" ∈ GW) (hdg : decode cc pc = .ok (.putfield index, 3)) (kk : ∀ (M1 : Mm) (H1 : Heap) (locs1 : List Loc), M1 = sI M a 4 x → va_P D vwCl (WL cy T M1 R) H1 → va_D A (WL cy T M1 R) → va_S A s.heap H1 locs1 → W p l e Rr s m args below meth c H1 locs1 cells slots Q (F0 m (pc + 3) ls rest)) : W p l e Rr s m args below meth c H locs cells slots Q (F0 m pc ls (.int x :: .ref a :: rest)) := by
  obtain ⟨hx, hb, -, hml, hown, hts, hK, hA, -, hSt⟩ := C
  obtain ⟨q, hq⟩ := wl_get (cy := cy) (M := M) (R := R) ha
  have hq0 := hq
  rw [ce_6 (isK_knd ha)] at hq
  refine va_put (D := D) (ci := 6) (v := .int x) (ty := .int) (C := RX6) (T := TX6) (N := 5) hx hb hts inlX6 tyX6 tyX6_ok nmX6 hown hK hP hD hS q hq rfl 4 (by decide) (hts _ hl) (fun _ h9 => h9) rfl (by decide +kernel) rfl rfl (Nat.le_of_ble_eq_true rfl) hdg (fun H1 locs1 hP1 hD1 hS1 => ?_)
  rw [wl_set hD ha hq0 (pe_6_4 ha)] at hP1 hD1
  exact kk _ H1 locs1 rfl hP1 hD1 hS1
theorem gf_7_0 {p : Program} {l : Launch} {e : Env} {Rr : Room} {s : State} {m : MethodId} {args : Array Value} {below : List Frame} {meth : Method} {c : Code} {H : Heap} {locs : List Loc} {cells slots : Nat} {Q : State → Prop} {cc : ByteArray} {pc : Nat} {ls : Array Slot} {rest : List Value} {D : va_G} {cy : Cy} {T : Ty} {M : Mm} {R : Rm} {A : Nat → Prop} {own : String} {n : Nat} {ret : Option FieldType} {index a : Nat} (C : Cx own cc n ret p s m args meth c D cy A) (hP : va_P D vwCl (WL cy T M R) H) (ha : isK T a 7 = true) {b : Nat} (eb : R a 0 = some b) (hl : Cond.fieldLink own index "IceTongueModel" "m" "[I" ∈ GW) (hdg : decode cc pc = .ok (.getfield index, 3)) (kk : W p l e Rr s m args below meth c H locs cells slots Q (F0 m (pc + 3) ls (.ref b :: rest))) : W p l e Rr s m args below meth c H locs cells slots Q (F0 m pc ls (.ref a :: rest)) := by
  obtain ⟨hx, hb, -, hml, hown, hts, hK, hA, -, hSt⟩ := C
  obtain ⟨q, hq⟩ := wl_get (cy := cy) (M := M) (R := R) ha
  rw [ce_7 (isK_knd ha)] at hq
  exact va_get (D := D) (ci := 7) (v := .ref b) (C := RX7) (T := TX7) (N := 17) hx hb hts inlX7 hown hK hP q hq rfl 0 (by decide) (hts _ hl) (fun _ h9 => h9) (show some (va_rf (R a 0)) = some (.ref b) from by rw [eb]; rfl) hdg kk
theorem pe_7_0 {cy : Cy} {T : Ty} {M : Mm} {R : Rm} {a : Nat} {b : Nat} (ha : isK T a 7 = true) (y : Nat) : va_up (ce cy T M R) a (.inr (7, ([va_rf (R a 0), va_rf (R a 1), va_rf (R a 2), va_rf (R a 3), va_rf (R a 4), va_rf (R a 5), va_rf (R a 6), va_rf (R a 7), va_rf (R a 8), va_rf (R a 9), .int (M.1 a 10), va_rf (R a 11), .int (M.1 a 12), .int (M.1 a 13), .int (M.1 a 14), .int (M.1 a 15), .int (M.1 a 16)] : List Value).set 0 (.ref b))) y = ce cy T M (up2 R a 0 (some b)) y := by
  have hk := isK_knd ha
  unfold va_up
  by_cases h : y = a
  · subst h
    rw [if_pos rfl, ce_7 hk]
    simp [sI, sJ, up2, va_rf]
  · rw [if_neg h]
    exact ce_congr (by first | rfl | exact up2_ne h) (by first | rfl | exact up2_ne h) (by first | rfl | exact up2_ne h)
theorem pf_7_0 {p : Program} {l : Launch} {e : Env} {Rr : Room} {s : State} {m : MethodId} {args : Array Value} {below : List Frame} {meth : Method} {c : Code} {H : Heap} {locs : List Loc} {cells slots : Nat} {Q : State → Prop} {cc : ByteArray} {pc : Nat} {ls : Array Slot} {rest : List Value} {D : va_G} {cy : Cy} {T : Ty} {M : Mm} {R : Rm} {A : Nat → Prop} {own : String} {n : Nat} {ret : Option FieldType} {index a : Nat} {b : Nat} (C : Cx own cc n ret p s m args meth c D cy A) (hP : va_P D vwCl (WL cy T M R) H) (hD : va_D A (WL cy T M R)) (hS : va_S A s.heap H locs) (ha : isK T a 7 = true) (hl : Cond.fieldLink own index "IceTongueModel" "m" "[I" ∈ GW) (hin : meth.name = "<init>") (hO : (TX7 0).1 = own) (hdg : decode cc pc = .ok (.putfield index, 3)) (kk : ∀ (R1 : Rm) (H1 : Heap) (locs1 : List Loc), R1 = up2 R a 0 (some b) → va_P D vwCl (WL cy T M R1) H1 → va_D A (WL cy T M R1) → va_S A s.heap H1 locs1 → W p l e Rr s m args below meth c H1 locs1 cells slots Q (F0 m (pc + 3) ls rest)) : W p l e Rr s m args below meth c H locs cells slots Q (F0 m pc ls (.ref b :: .ref a :: rest)) := by
  obtain ⟨hx, hb, -, hml, hown, hts, hK, hA, -, hSt⟩ := C
  obtain ⟨q, hq⟩ := wl_get (cy := cy) (M := M) (R := R) ha
  have hq0 := hq
  rw [ce_7 (isK_knd ha)] at hq
  refine va_putF (D := D) (ci := 7) (v := .ref b) (ty := (tyX7 0)) (C := RX7) (T := TX7) (N := 17) hx hb hts inlX7 tyX7 tyX7_ok nmX7 hown hK hP hD hS q hq rfl 0 (by decide) (hts _ hl) (fun _ h9 => h9) rfl hin hO (by decide +kernel) rfl rfl (Nat.le_of_ble_eq_true rfl) hdg (fun H1 locs1 hP1 hD1 hS1 => ?_)
  rw [wl_set hD ha hq0 (pe_7_0 ha)] at hP1 hD1
  exact kk _ H1 locs1 rfl hP1 hD1 hS1
theorem gf_7_1 {p : Program} {l : Launch} {e : Env} {Rr : Room} {s : State} {m : MethodId} {args : Array Value} {below : List Frame} {meth : Method} {c : Code} {H : Heap} {locs : List Loc} {cells slots : Nat} {Q : State → Prop} {cc : ByteArray} {pc : Nat} {ls : Array Slot} {rest : List Value} {D : va_G} {cy : Cy} {T : Ty} {M : Mm} {R : Rm} {A : Nat → Prop} {own : String} {n : Nat} {ret : Option FieldType} {index a : Nat} (C : Cx own cc n ret p s m args meth c D cy A) (hP : va_P D vwCl (WL cy T M R) H) (ha : isK T a 7 = true) {b : Nat} (eb : R a 1 = some b) (hl : Cond.fieldLink own index "IceTongueModel" "ice" "[I" ∈ GW) (hdg : decode cc pc = .ok (.getfield index, 3)) (kk : W p l e Rr s m args below meth c H locs cells slots Q (F0 m (pc + 3) ls (.ref b :: rest))) : W p l e Rr s m args below meth c H locs cells slots Q (F0 m pc ls (.ref a :: rest)) := by
  obtain ⟨hx, hb, -, hml, hown, hts, hK, hA, -, hSt⟩ := C
  obtain ⟨q, hq⟩ := wl_get (cy := cy) (M := M) (R := R) ha
  rw [ce_7 (isK_knd ha)] at hq
  exact va_get (D := D) (ci := 7) (v := .ref b) (C := RX7) (T := TX7) (N := 17) hx hb hts inlX7 hown hK hP q hq rfl 1 (by decide) (hts _ hl) (fun _ h9 => h9) (show some (va_rf (R a 1)) = some (.ref b) from by rw [eb]; rfl) hdg kk
theorem pe_7_1 {cy : Cy} {T : Ty} {M : Mm} {R : Rm} {a : Nat} {b : Nat} (ha : isK T a 7 = true) (y : Nat) : va_up (ce cy T M R) a (.inr (7, ([va_rf (R a 0), va_rf (R a 1), va_rf (R a 2), va_rf (R a 3), va_rf (R a 4), va_rf (R a 5), va_rf (R a 6), va_rf (R a 7), va_rf (R a 8), va_rf (R a 9), .int (M.1 a 10), va_rf (R a 11), .int (M.1 a 12), .int (M.1 a 13), .int (M.1 a 14), .int (M.1 a 15), .int (M.1 a 16)] : List Value).set 1 (.ref b))) y = ce cy T M (up2 R a 1 (some b)) y := by
  have hk := isK_knd ha
  unfold va_up
  by_cases h : y = a
  · subst h
    rw [if_pos rfl, ce_7 hk]
    simp [sI, sJ, up2, va_rf]
  · rw [if_neg h]
    exact ce_congr (by first | rfl | exact up2_ne h) (by first | rfl | exact up2_ne h) (by first | rfl | exact up2_ne h)
theorem pf_7_1 {p : Program} {l : Launch} {e : Env} {Rr : Room} {s : State} {m : MethodId} {args : Array Value} {below : List Frame} {meth : Method} {c : Code} {H : Heap} {locs : List Loc} {cells slots : Nat} {Q : State → Prop} {cc : ByteArray} {pc : Nat} {ls : Array Slot} {rest : List Value} {D : va_G} {cy : Cy} {T : Ty} {M : Mm} {R : Rm} {A : Nat → Prop} {own : String} {n : Nat} {ret : Option FieldType} {index a : Nat} {b : Nat} (C : Cx own cc n ret p s m args meth c D cy A) (hP : va_P D vwCl (WL cy T M R) H) (hD : va_D A (WL cy T M R)) (hS : va_S A s.heap H locs) (ha : isK T a 7 = true) (hl : Cond.fieldLink own index "IceTongueModel" "ice" "[I" ∈ GW) (hin : meth.name = "<init>") (hO : (TX7 1).1 = own) (hdg : decode cc pc = .ok (.putfield index, 3)) (kk : ∀ (R1 : Rm) (H1 : Heap) (locs1 : List Loc), R1 = up2 R a 1 (some b) → va_P D vwCl (WL cy T M R1) H1 → va_D A (WL cy T M R1) → va_S A s.heap H1 locs1 → W p l e Rr s m args below meth c H1 locs1 cells slots Q (F0 m (pc + 3) ls rest)) : W p l e Rr s m args below meth c H locs cells slots Q (F0 m pc ls (.ref b :: .ref a :: rest)) := by
  obtain ⟨hx, hb, -, hml, hown, hts, hK, hA, -, hSt⟩ := C
  obtain ⟨q, hq⟩ := wl_get (cy := cy) (M := M) (R := R) ha
  have hq0 := hq
  rw [ce_7 (isK_knd ha)] at hq
  refine va_putF (D := D) (ci := 7) (v := .ref b) (ty := (tyX7 1)) (C := RX7) (T := TX7) (N := 17) hx hb hts inlX7 tyX7 tyX7_ok nmX7 hown hK hP hD hS q hq rfl 1 (by decide) (hts _ hl) (fun _ h9 => h9) rfl hin hO (by decide +kernel) rfl rfl (Nat.le_of_ble_eq_true rfl) hdg (fun H1 locs1 hP1 hD1 hS1 => ?_)
  rw [wl_set hD ha hq0 (pe_7_1 ha)] at hP1 hD1
  exact kk _ H1 locs1 rfl hP1 hD1 hS1
theorem gf_7_2 {p : Program} {l : Launch} {e : Env} {Rr : Room} {s : State} {m : MethodId} {args : Array Value} {below : List Frame} {meth : Method} {c : Code} {H : Heap} {locs : List Loc} {cells slots : Nat} {Q : State → Prop} {cc : ByteArray} {pc : Nat} {ls : Array Slot} {rest : List Value} {D : va_G} {cy : Cy} {T : Ty} {M : Mm} {R : Rm} {A : Nat → Prop} {own : String} {n : Nat} {ret : Option FieldType} {index a : Nat} (C : Cx own cc n ret p s m args meth c D cy A) (hP : va_P D vwCl (WL cy T M R) H) (ha : isK T a 7 = true) {b : Nat} (eb : R a 2 = some b) (hl : Cond.fieldLink own index "IceTongueModel" "accounts" "[J" ∈ GW) (hdg : decode cc pc = .ok (.getfield index, 3)) (kk : W p l e Rr s m args below meth c H locs cells slots Q (F0 m (pc + 3) ls (.ref b :: rest))) : W p l e Rr s m args below meth c H locs cells slots Q (F0 m pc ls (.ref a :: rest)) := by
  obtain ⟨hx, hb, -, hml, hown, hts, hK, hA, -, hSt⟩ := C
  obtain ⟨q, hq⟩ := wl_get (cy := cy) (M := M) (R := R) ha
  rw [ce_7 (isK_knd ha)] at hq
  exact va_get (D := D) (ci := 7) (v := .ref b) (C := RX7) (T := TX7) (N := 17) hx hb hts inlX7 hown hK hP q hq rfl 2 (by decide) (hts _ hl) (fun _ h9 => h9) (show some (va_rf (R a 2)) = some (.ref b) from by rw [eb]; rfl) hdg kk
theorem pe_7_2 {cy : Cy} {T : Ty} {M : Mm} {R : Rm} {a : Nat} {b : Nat} (ha : isK T a 7 = true) (y : Nat) : va_up (ce cy T M R) a (.inr (7, ([va_rf (R a 0), va_rf (R a 1), va_rf (R a 2), va_rf (R a 3), va_rf (R a 4), va_rf (R a 5), va_rf (R a 6), va_rf (R a 7), va_rf (R a 8), va_rf (R a 9), .int (M.1 a 10), va_rf (R a 11), .int (M.1 a 12), .int (M.1 a 13), .int (M.1 a 14), .int (M.1 a 15), .int (M.1 a 16)] : List Value).set 2 (.ref b))) y = ce cy T M (up2 R a 2 (some b)) y := by
  have hk := isK_knd ha
  unfold va_up
  by_cases h : y = a
  · subst h
    rw [if_pos rfl, ce_7 hk]
    simp [sI, sJ, up2, va_rf]
  · rw [if_neg h]
    exact ce_congr (by first | rfl | exact up2_ne h) (by first | rfl | exact up2_ne h) (by first | rfl | exact up2_ne h)
theorem pf_7_2 {p : Program} {l : Launch} {e : Env} {Rr : Room} {s : State} {m : MethodId} {args : Array Value} {below : List Frame} {meth : Method} {c : Code} {H : Heap} {locs : List Loc} {cells slots : Nat} {Q : State → Prop} {cc : ByteArray} {pc : Nat} {ls : Array Slot} {rest : List Value} {D : va_G} {cy : Cy} {T : Ty} {M : Mm} {R : Rm} {A : Nat → Prop} {own : String} {n : Nat} {ret : Option FieldType} {index a : Nat} {b : Nat} (C : Cx own cc n ret p s m args meth c D cy A) (hP : va_P D vwCl (WL cy T M R) H) (hD : va_D A (WL cy T M R)) (hS : va_S A s.heap H locs) (ha : isK T a 7 = true) (hl : Cond.fieldLink own index "IceTongueModel" "accounts" "[J" ∈ GW) (hin : meth.name = "<init>") (hO : (TX7 2).1 = own) (hdg : decode cc pc = .ok (.putfield index, 3)) (kk : ∀ (R1 : Rm) (H1 : Heap) (locs1 : List Loc), R1 = up2 R a 2 (some b) → va_P D vwCl (WL cy T M R1) H1 → va_D A (WL cy T M R1) → va_S A s.heap H1 locs1 → W p l e Rr s m args below meth c H1 locs1 cells slots Q (F0 m (pc + 3) ls rest)) : W p l e Rr s m args below meth c H locs cells slots Q (F0 m pc ls (.ref b :: .ref a :: rest)) := by
  obtain ⟨hx, hb, -, hml, hown, hts, hK, hA, -, hSt⟩ := C
  obtain ⟨q, hq⟩ := wl_get (cy := cy) (M := M) (R := R) ha
  have hq0 := hq
  rw [ce_7 (isK_knd ha)] at hq
  refine va_putF (D := D) (ci := 7) (v := .ref b) (ty := (tyX7 2)) (C := RX7) (T := TX7) (N := 17) hx hb hts inlX7 tyX7 tyX7_ok nmX7 hown hK hP hD hS q hq rfl 2 (by decide) (hts _ hl) (fun _ h9 => h9) rfl hin hO (by decide +kernel) rfl rfl (Nat.le_of_ble_eq_true rfl) hdg (fun H1 locs1 hP1 hD1 hS1 => ?_)
  rw [wl_set hD ha hq0 (pe_7_2 ha)] at hP1 hD1
  exact kk _ H1 locs1 rfl hP1 hD1 hS1
theorem gf_7_3 {p : Program} {l : Launch} {e : Env} {Rr : Room} {s : State} {m : MethodId} {args : Array Value} {below : List Frame} {meth : Method} {c : Code} {H : Heap} {locs : List Loc} {cells slots : Nat} {Q : State → Prop} {cc : ByteArray} {pc : Nat} {ls : Array Slot} {rest : List Value} {D : va_G} {cy : Cy} {T : Ty} {M : Mm} {R : Rm} {A : Nat → Prop} {own : String} {n : Nat} {ret : Option FieldType} {index a : Nat} (C : Cx own cc n ret p s m args meth c D cy A) (hP : va_P D vwCl (WL cy T M R) H) (ha : isK T a 7 = true) {b : Nat} (eb : R a 3 = some b) (hl : Cond.fieldLink own index "IceTongueModel" "spare" "[I" ∈ GW) (hdg : decode cc pc = .ok (.getfield index, 3)) (kk : W p l e Rr s m args below meth c H locs cells slots Q (F0 m (pc + 3) ls (.ref b :: rest))) : W p l e Rr s m args below meth c H locs cells slots Q (F0 m pc ls (.ref a :: rest)) := by
  obtain ⟨hx, hb, -, hml, hown, hts, hK, hA, -, hSt⟩ := C
  obtain ⟨q, hq⟩ := wl_get (cy := cy) (M := M) (R := R) ha
  rw [ce_7 (isK_knd ha)] at hq
  exact va_get (D := D) (ci := 7) (v := .ref b) (C := RX7) (T := TX7) (N := 17) hx hb hts inlX7 hown hK hP q hq rfl 3 (by decide) (hts _ hl) (fun _ h9 => h9) (show some (va_rf (R a 3)) = some (.ref b) from by rw [eb]; rfl) hdg kk
theorem pe_7_3 {cy : Cy} {T : Ty} {M : Mm} {R : Rm} {a : Nat} {b : Nat} (ha : isK T a 7 = true) (y : Nat) : va_up (ce cy T M R) a (.inr (7, ([va_rf (R a 0), va_rf (R a 1), va_rf (R a 2), va_rf (R a 3), va_rf (R a 4), va_rf (R a 5), va_rf (R a 6), va_rf (R a 7), va_rf (R a 8), va_rf (R a 9), .int (M.1 a 10), va_rf (R a 11), .int (M.1 a 12), .int (M.1 a 13), .int (M.1 a 14), .int (M.1 a 15), .int (M.1 a 16)] : List Value).set 3 (.ref b))) y = ce cy T M (up2 R a 3 (some b)) y := by
  have hk := isK_knd ha
  unfold va_up
  by_cases h : y = a
  · subst h
    rw [if_pos rfl, ce_7 hk]
    simp [sI, sJ, up2, va_rf]
  · rw [if_neg h]
    exact ce_congr (by first | rfl | exact up2_ne h) (by first | rfl | exact up2_ne h) (by first | rfl | exact up2_ne h)
theorem pf_7_3 {p : Program} {l : Launch} {e : Env} {Rr : Room} {s : State} {m : MethodId} {args : Array Value} {below : List Frame} {meth : Method} {c : Code} {H : Heap} {locs : List Loc} {cells slots : Nat} {Q : State → Prop} {cc : ByteArray} {pc : Nat} {ls : Array Slot} {rest : List Value} {D : va_G} {cy : Cy} {T : Ty} {M : Mm} {R : Rm} {A : Nat → Prop} {own : String} {n : Nat} {ret : Option FieldType} {index a : Nat} {b : Nat} (C : Cx own cc n ret p s m args meth c D cy A) (hP : va_P D vwCl (WL cy T M R) H) (hD : va_D A (WL cy T M R)) (hS : va_S A s.heap H locs) (ha : isK T a 7 = true) (hl : Cond.fieldLink own index "IceTongueModel" "spare" "[I" ∈ GW) (hin : meth.name = "<init>") (hO : (TX7 3).1 = own) (hdg : decode cc pc = .ok (.putfield index, 3)) (kk : ∀ (R1 : Rm) (H1 : Heap) (locs1 : List Loc), R1 = up2 R a 3 (some b) → va_P D vwCl (WL cy T M R1) H1 → va_D A (WL cy T M R1) → va_S A s.heap H1 locs1 → W p l e Rr s m args below meth c H1 locs1 cells slots Q (F0 m (pc + 3) ls rest)) : W p l e Rr s m args below meth c H locs cells slots Q (F0 m pc ls (.ref b :: .ref a :: rest)) := by
  obtain ⟨hx, hb, -, hml, hown, hts, hK, hA, -, hSt⟩ := C
  obtain ⟨q, hq⟩ := wl_get (cy := cy) (M := M) (R := R) ha
  have hq0 := hq
  rw [ce_7 (isK_knd ha)] at hq
  refine va_putF (D := D) (ci := 7) (v := .ref b) (ty := (tyX7 3)) (C := RX7) (T := TX7) (N := 17) hx hb hts inlX7 tyX7 tyX7_ok nmX7 hown hK hP hD hS q hq rfl 3 (by decide) (hts _ hl) (fun _ h9 => h9) rfl hin hO (by decide +kernel) rfl rfl (Nat.le_of_ble_eq_true rfl) hdg (fun H1 locs1 hP1 hD1 hS1 => ?_)
  rw [wl_set hD ha hq0 (pe_7_3 ha)] at hP1 hD1
  exact kk _ H1 locs1 rfl hP1 hD1 hS1
theorem gf_7_4 {p : Program} {l : Launch} {e : Env} {Rr : Room} {s : State} {m : MethodId} {args : Array Value} {below : List Frame} {meth : Method} {c : Code} {H : Heap} {locs : List Loc} {cells slots : Nat} {Q : State → Prop} {cc : ByteArray} {pc : Nat} {ls : Array Slot} {rest : List Value} {D : va_G} {cy : Cy} {T : Ty} {M : Mm} {R : Rm} {A : Nat → Prop} {own : String} {n : Nat} {ret : Option FieldType} {index a : Nat} (C : Cx own cc n ret p s m args meth c D cy A) (hP : va_P D vwCl (WL cy T M R) H) (ha : isK T a 7 = true) {b : Nat} (eb : R a 4 = some b) (hl : Cond.fieldLink own index "IceTongueModel" "spareIce" "[I" ∈ GW) (hdg : decode cc pc = .ok (.getfield index, 3)) (kk : W p l e Rr s m args below meth c H locs cells slots Q (F0 m (pc + 3) ls (.ref b :: rest))) : W p l e Rr s m args below meth c H locs cells slots Q (F0 m pc ls (.ref a :: rest)) := by
  obtain ⟨hx, hb, -, hml, hown, hts, hK, hA, -, hSt⟩ := C
  obtain ⟨q, hq⟩ := wl_get (cy := cy) (M := M) (R := R) ha
  rw [ce_7 (isK_knd ha)] at hq
  exact va_get (D := D) (ci := 7) (v := .ref b) (C := RX7) (T := TX7) (N := 17) hx hb hts inlX7 hown hK hP q hq rfl 4 (by decide) (hts _ hl) (fun _ h9 => h9) (show some (va_rf (R a 4)) = some (.ref b) from by rw [eb]; rfl) hdg kk
theorem pe_7_4 {cy : Cy} {T : Ty} {M : Mm} {R : Rm} {a : Nat} {b : Nat} (ha : isK T a 7 = true) (y : Nat) : va_up (ce cy T M R) a (.inr (7, ([va_rf (R a 0), va_rf (R a 1), va_rf (R a 2), va_rf (R a 3), va_rf (R a 4), va_rf (R a 5), va_rf (R a 6), va_rf (R a 7), va_rf (R a 8), va_rf (R a 9), .int (M.1 a 10), va_rf (R a 11), .int (M.1 a 12), .int (M.1 a 13), .int (M.1 a 14), .int (M.1 a 15), .int (M.1 a 16)] : List Value).set 4 (.ref b))) y = ce cy T M (up2 R a 4 (some b)) y := by
  have hk := isK_knd ha
  unfold va_up
  by_cases h : y = a
  · subst h
    rw [if_pos rfl, ce_7 hk]
    simp [sI, sJ, up2, va_rf]
  · rw [if_neg h]
    exact ce_congr (by first | rfl | exact up2_ne h) (by first | rfl | exact up2_ne h) (by first | rfl | exact up2_ne h)
theorem pf_7_4 {p : Program} {l : Launch} {e : Env} {Rr : Room} {s : State} {m : MethodId} {args : Array Value} {below : List Frame} {meth : Method} {c : Code} {H : Heap} {locs : List Loc} {cells slots : Nat} {Q : State → Prop} {cc : ByteArray} {pc : Nat} {ls : Array Slot} {rest : List Value} {D : va_G} {cy : Cy} {T : Ty} {M : Mm} {R : Rm} {A : Nat → Prop} {own : String} {n : Nat} {ret : Option FieldType} {index a : Nat} {b : Nat} (C : Cx own cc n ret p s m args meth c D cy A) (hP : va_P D vwCl (WL cy T M R) H) (hD : va_D A (WL cy T M R)) (hS : va_S A s.heap H locs) (ha : isK T a 7 = true) (hl : Cond.fieldLink own index "IceTongueModel" "spareIce" "[I" ∈ GW) (hin : meth.name = "<init>") (hO : (TX7 4).1 = own) (hdg : decode cc pc = .ok (.putfield index, 3)) (kk : ∀ (R1 : Rm) (H1 : Heap) (locs1 : List Loc), R1 = up2 R a 4 (some b) → va_P D vwCl (WL cy T M R1) H1 → va_D A (WL cy T M R1) → va_S A s.heap H1 locs1 → W p l e Rr s m args below meth c H1 locs1 cells slots Q (F0 m (pc + 3) ls rest)) : W p l e Rr s m args below meth c H locs cells slots Q (F0 m pc ls (.ref b :: .ref a :: rest)) := by
  obtain ⟨hx, hb, -, hml, hown, hts, hK, hA, -, hSt⟩ := C
  obtain ⟨q, hq⟩ := wl_get (cy := cy) (M := M) (R := R) ha
  have hq0 := hq
  rw [ce_7 (isK_knd ha)] at hq
  refine va_putF (D := D) (ci := 7) (v := .ref b) (ty := (tyX7 4)) (C := RX7) (T := TX7) (N := 17) hx hb hts inlX7 tyX7 tyX7_ok nmX7 hown hK hP hD hS q hq rfl 4 (by decide) (hts _ hl) (fun _ h9 => h9) rfl hin hO (by decide +kernel) rfl rfl (Nat.le_of_ble_eq_true rfl) hdg (fun H1 locs1 hP1 hD1 hS1 => ?_)
  rw [wl_set hD ha hq0 (pe_7_4 ha)] at hP1 hD1
  exact kk _ H1 locs1 rfl hP1 hD1 hS1
theorem gf_7_5 {p : Program} {l : Launch} {e : Env} {Rr : Room} {s : State} {m : MethodId} {args : Array Value} {below : List Frame} {meth : Method} {c : Code} {H : Heap} {locs : List Loc} {cells slots : Nat} {Q : State → Prop} {cc : ByteArray} {pc : Nat} {ls : Array Slot} {rest : List Value} {D : va_G} {cy : Cy} {T : Ty} {M : Mm} {R : Rm} {A : Nat → Prop} {own : String} {n : Nat} {ret : Option FieldType} {index a : Nat} (C : Cx own cc n ret p s m args meth c D cy A) (hP : va_P D vwCl (WL cy T M R) H) (ha : isK T a 7 = true) {b : Nat} (eb : R a 5 = some b) (hl : Cond.fieldLink own index "IceTongueModel" "spareAccounts" "[J" ∈ GW) (hdg : decode cc pc = .ok (.getfield index, 3)) (kk : W p l e Rr s m args below meth c H locs cells slots Q (F0 m (pc + 3) ls (.ref b :: rest))) : W p l e Rr s m args below meth c H locs cells slots Q (F0 m pc ls (.ref a :: rest)) := by
  obtain ⟨hx, hb, -, hml, hown, hts, hK, hA, -, hSt⟩ := C
  obtain ⟨q, hq⟩ := wl_get (cy := cy) (M := M) (R := R) ha
  rw [ce_7 (isK_knd ha)] at hq
  exact va_get (D := D) (ci := 7) (v := .ref b) (C := RX7) (T := TX7) (N := 17) hx hb hts inlX7 hown hK hP q hq rfl 5 (by decide) (hts _ hl) (fun _ h9 => h9) (show some (va_rf (R a 5)) = some (.ref b) from by rw [eb]; rfl) hdg kk
theorem pe_7_5 {cy : Cy} {T : Ty} {M : Mm} {R : Rm} {a : Nat} {b : Nat} (ha : isK T a 7 = true) (y : Nat) : va_up (ce cy T M R) a (.inr (7, ([va_rf (R a 0), va_rf (R a 1), va_rf (R a 2), va_rf (R a 3), va_rf (R a 4), va_rf (R a 5), va_rf (R a 6), va_rf (R a 7), va_rf (R a 8), va_rf (R a 9), .int (M.1 a 10), va_rf (R a 11), .int (M.1 a 12), .int (M.1 a 13), .int (M.1 a 14), .int (M.1 a 15), .int (M.1 a 16)] : List Value).set 5 (.ref b))) y = ce cy T M (up2 R a 5 (some b)) y := by
  have hk := isK_knd ha
  unfold va_up
  by_cases h : y = a
  · subst h
    rw [if_pos rfl, ce_7 hk]
    simp [sI, sJ, up2, va_rf]
  · rw [if_neg h]
    exact ce_congr (by first | rfl | exact up2_ne h) (by first | rfl | exact up2_ne h) (by first | rfl | exact up2_ne h)
theorem pf_7_5 {p : Program} {l : Launch} {e : Env} {Rr : Room} {s : State} {m : MethodId} {args : Array Value} {below : List Frame} {meth : Method} {c : Code} {H : Heap} {locs : List Loc} {cells slots : Nat} {Q : State → Prop} {cc : ByteArray} {pc : Nat} {ls : Array Slot} {rest : List Value} {D : va_G} {cy : Cy} {T : Ty} {M : Mm} {R : Rm} {A : Nat → Prop} {own : String} {n : Nat} {ret : Option FieldType} {index a : Nat} {b : Nat} (C : Cx own cc n ret p s m args meth c D cy A) (hP : va_P D vwCl (WL cy T M R) H) (hD : va_D A (WL cy T M R)) (hS : va_S A s.heap H locs) (ha : isK T a 7 = true) (hl : Cond.fieldLink own index "IceTongueModel" "spareAccounts" "[J" ∈ GW) (hin : meth.name = "<init>") (hO : (TX7 5).1 = own) (hdg : decode cc pc = .ok (.putfield index, 3)) (kk : ∀ (R1 : Rm) (H1 : Heap) (locs1 : List Loc), R1 = up2 R a 5 (some b) → va_P D vwCl (WL cy T M R1) H1 → va_D A (WL cy T M R1) → va_S A s.heap H1 locs1 → W p l e Rr s m args below meth c H1 locs1 cells slots Q (F0 m (pc + 3) ls rest)) : W p l e Rr s m args below meth c H locs cells slots Q (F0 m pc ls (.ref b :: .ref a :: rest)) := by
  obtain ⟨hx, hb, -, hml, hown, hts, hK, hA, -, hSt⟩ := C
  obtain ⟨q, hq⟩ := wl_get (cy := cy) (M := M) (R := R) ha
  have hq0 := hq
  rw [ce_7 (isK_knd ha)] at hq
  refine va_putF (D := D) (ci := 7) (v := .ref b) (ty := (tyX7 5)) (C := RX7) (T := TX7) (N := 17) hx hb hts inlX7 tyX7 tyX7_ok nmX7 hown hK hP hD hS q hq rfl 5 (by decide) (hts _ hl) (fun _ h9 => h9) rfl hin hO (by decide +kernel) rfl rfl (Nat.le_of_ble_eq_true rfl) hdg (fun H1 locs1 hP1 hD1 hS1 => ?_)
  rw [wl_set hD ha hq0 (pe_7_5 ha)] at hP1 hD1
  exact kk _ H1 locs1 rfl hP1 hD1 hS1
theorem gf_7_6 {p : Program} {l : Launch} {e : Env} {Rr : Room} {s : State} {m : MethodId} {args : Array Value} {below : List Frame} {meth : Method} {c : Code} {H : Heap} {locs : List Loc} {cells slots : Nat} {Q : State → Prop} {cc : ByteArray} {pc : Nat} {ls : Array Slot} {rest : List Value} {D : va_G} {cy : Cy} {T : Ty} {M : Mm} {R : Rm} {A : Nat → Prop} {own : String} {n : Nat} {ret : Option FieldType} {index a : Nat} (C : Cx own cc n ret p s m args meth c D cy A) (hP : va_P D vwCl (WL cy T M R) H) (ha : isK T a 7 = true) {b : Nat} (eb : R a 6 = some b) (hl : Cond.fieldLink own index "IceTongueModel" "saved" "[I" ∈ GW) (hdg : decode cc pc = .ok (.getfield index, 3)) (kk : W p l e Rr s m args below meth c H locs cells slots Q (F0 m (pc + 3) ls (.ref b :: rest))) : W p l e Rr s m args below meth c H locs cells slots Q (F0 m pc ls (.ref a :: rest)) := by
  obtain ⟨hx, hb, -, hml, hown, hts, hK, hA, -, hSt⟩ := C
  obtain ⟨q, hq⟩ := wl_get (cy := cy) (M := M) (R := R) ha
  rw [ce_7 (isK_knd ha)] at hq
  exact va_get (D := D) (ci := 7) (v := .ref b) (C := RX7) (T := TX7) (N := 17) hx hb hts inlX7 hown hK hP q hq rfl 6 (by decide) (hts _ hl) (fun _ h9 => h9) (show some (va_rf (R a 6)) = some (.ref b) from by rw [eb]; rfl) hdg kk
theorem pe_7_6 {cy : Cy} {T : Ty} {M : Mm} {R : Rm} {a : Nat} {b : Nat} (ha : isK T a 7 = true) (y : Nat) : va_up (ce cy T M R) a (.inr (7, ([va_rf (R a 0), va_rf (R a 1), va_rf (R a 2), va_rf (R a 3), va_rf (R a 4), va_rf (R a 5), va_rf (R a 6), va_rf (R a 7), va_rf (R a 8), va_rf (R a 9), .int (M.1 a 10), va_rf (R a 11), .int (M.1 a 12), .int (M.1 a 13), .int (M.1 a 14), .int (M.1 a 15), .int (M.1 a 16)] : List Value).set 6 (.ref b))) y = ce cy T M (up2 R a 6 (some b)) y := by
  have hk := isK_knd ha
  unfold va_up
  by_cases h : y = a
  · subst h
    rw [if_pos rfl, ce_7 hk]
    simp [sI, sJ, up2, va_rf]
  · rw [if_neg h]
    exact ce_congr (by first | rfl | exact up2_ne h) (by first | rfl | exact up2_ne h) (by first | rfl | exact up2_ne h)
theorem pf_7_6 {p : Program} {l : Launch} {e : Env} {Rr : Room} {s : State} {m : MethodId} {args : Array Value} {below : List Frame} {meth : Method} {c : Code} {H : Heap} {locs : List Loc} {cells slots : Nat} {Q : State → Prop} {cc : ByteArray} {pc : Nat} {ls : Array Slot} {rest : List Value} {D : va_G} {cy : Cy} {T : Ty} {M : Mm} {R : Rm} {A : Nat → Prop} {own : String} {n : Nat} {ret : Option FieldType} {index a : Nat} {b : Nat} (C : Cx own cc n ret p s m args meth c D cy A) (hP : va_P D vwCl (WL cy T M R) H) (hD : va_D A (WL cy T M R)) (hS : va_S A s.heap H locs) (ha : isK T a 7 = true) (hl : Cond.fieldLink own index "IceTongueModel" "saved" "[I" ∈ GW) (hin : meth.name = "<init>") (hO : (TX7 6).1 = own) (hdg : decode cc pc = .ok (.putfield index, 3)) (kk : ∀ (R1 : Rm) (H1 : Heap) (locs1 : List Loc), R1 = up2 R a 6 (some b) → va_P D vwCl (WL cy T M R1) H1 → va_D A (WL cy T M R1) → va_S A s.heap H1 locs1 → W p l e Rr s m args below meth c H1 locs1 cells slots Q (F0 m (pc + 3) ls rest)) : W p l e Rr s m args below meth c H locs cells slots Q (F0 m pc ls (.ref b :: .ref a :: rest)) := by
  obtain ⟨hx, hb, -, hml, hown, hts, hK, hA, -, hSt⟩ := C
  obtain ⟨q, hq⟩ := wl_get (cy := cy) (M := M) (R := R) ha
  have hq0 := hq
  rw [ce_7 (isK_knd ha)] at hq
  refine va_putF (D := D) (ci := 7) (v := .ref b) (ty := (tyX7 6)) (C := RX7) (T := TX7) (N := 17) hx hb hts inlX7 tyX7 tyX7_ok nmX7 hown hK hP hD hS q hq rfl 6 (by decide) (hts _ hl) (fun _ h9 => h9) rfl hin hO (by decide +kernel) rfl rfl (Nat.le_of_ble_eq_true rfl) hdg (fun H1 locs1 hP1 hD1 hS1 => ?_)
  rw [wl_set hD ha hq0 (pe_7_6 ha)] at hP1 hD1
  exact kk _ H1 locs1 rfl hP1 hD1 hS1
theorem gf_7_7 {p : Program} {l : Launch} {e : Env} {Rr : Room} {s : State} {m : MethodId} {args : Array Value} {below : List Frame} {meth : Method} {c : Code} {H : Heap} {locs : List Loc} {cells slots : Nat} {Q : State → Prop} {cc : ByteArray} {pc : Nat} {ls : Array Slot} {rest : List Value} {D : va_G} {cy : Cy} {T : Ty} {M : Mm} {R : Rm} {A : Nat → Prop} {own : String} {n : Nat} {ret : Option FieldType} {index a : Nat} (C : Cx own cc n ret p s m args meth c D cy A) (hP : va_P D vwCl (WL cy T M R) H) (ha : isK T a 7 = true) {b : Nat} (eb : R a 7 = some b) (hl : Cond.fieldLink own index "IceTongueModel" "savedIce" "[I" ∈ GW) (hdg : decode cc pc = .ok (.getfield index, 3)) (kk : W p l e Rr s m args below meth c H locs cells slots Q (F0 m (pc + 3) ls (.ref b :: rest))) : W p l e Rr s m args below meth c H locs cells slots Q (F0 m pc ls (.ref a :: rest)) := by
  obtain ⟨hx, hb, -, hml, hown, hts, hK, hA, -, hSt⟩ := C
  obtain ⟨q, hq⟩ := wl_get (cy := cy) (M := M) (R := R) ha
  rw [ce_7 (isK_knd ha)] at hq
  exact va_get (D := D) (ci := 7) (v := .ref b) (C := RX7) (T := TX7) (N := 17) hx hb hts inlX7 hown hK hP q hq rfl 7 (by decide) (hts _ hl) (fun _ h9 => h9) (show some (va_rf (R a 7)) = some (.ref b) from by rw [eb]; rfl) hdg kk
theorem pe_7_7 {cy : Cy} {T : Ty} {M : Mm} {R : Rm} {a : Nat} {b : Nat} (ha : isK T a 7 = true) (y : Nat) : va_up (ce cy T M R) a (.inr (7, ([va_rf (R a 0), va_rf (R a 1), va_rf (R a 2), va_rf (R a 3), va_rf (R a 4), va_rf (R a 5), va_rf (R a 6), va_rf (R a 7), va_rf (R a 8), va_rf (R a 9), .int (M.1 a 10), va_rf (R a 11), .int (M.1 a 12), .int (M.1 a 13), .int (M.1 a 14), .int (M.1 a 15), .int (M.1 a 16)] : List Value).set 7 (.ref b))) y = ce cy T M (up2 R a 7 (some b)) y := by
  have hk := isK_knd ha
  unfold va_up
  by_cases h : y = a
  · subst h
    rw [if_pos rfl, ce_7 hk]
    simp [sI, sJ, up2, va_rf]
  · rw [if_neg h]
    exact ce_congr (by first | rfl | exact up2_ne h) (by first | rfl | exact up2_ne h) (by first | rfl | exact up2_ne h)
theorem pf_7_7 {p : Program} {l : Launch} {e : Env} {Rr : Room} {s : State} {m : MethodId} {args : Array Value} {below : List Frame} {meth : Method} {c : Code} {H : Heap} {locs : List Loc} {cells slots : Nat} {Q : State → Prop} {cc : ByteArray} {pc : Nat} {ls : Array Slot} {rest : List Value} {D : va_G} {cy : Cy} {T : Ty} {M : Mm} {R : Rm} {A : Nat → Prop} {own : String} {n : Nat} {ret : Option FieldType} {index a : Nat} {b : Nat} (C : Cx own cc n ret p s m args meth c D cy A) (hP : va_P D vwCl (WL cy T M R) H) (hD : va_D A (WL cy T M R)) (hS : va_S A s.heap H locs) (ha : isK T a 7 = true) (hl : Cond.fieldLink own index "IceTongueModel" "savedIce" "[I" ∈ GW) (hin : meth.name = "<init>") (hO : (TX7 7).1 = own) (hdg : decode cc pc = .ok (.putfield index, 3)) (kk : ∀ (R1 : Rm) (H1 : Heap) (locs1 : List Loc), R1 = up2 R a 7 (some b) → va_P D vwCl (WL cy T M R1) H1 → va_D A (WL cy T M R1) → va_S A s.heap H1 locs1 → W p l e Rr s m args below meth c H1 locs1 cells slots Q (F0 m (pc + 3) ls rest)) : W p l e Rr s m args below meth c H locs cells slots Q (F0 m pc ls (.ref b :: .ref a :: rest)) := by
  obtain ⟨hx, hb, -, hml, hown, hts, hK, hA, -, hSt⟩ := C
  obtain ⟨q, hq⟩ := wl_get (cy := cy) (M := M) (R := R) ha
  have hq0 := hq
  rw [ce_7 (isK_knd ha)] at hq
  refine va_putF (D := D) (ci := 7) (v := .ref b) (ty := (tyX7 7)) (C := RX7) (T := TX7) (N := 17) hx hb hts inlX7 tyX7 tyX7_ok nmX7 hown hK hP hD hS q hq rfl 7 (by decide) (hts _ hl) (fun _ h9 => h9) rfl hin hO (by decide +kernel) rfl rfl (Nat.le_of_ble_eq_true rfl) hdg (fun H1 locs1 hP1 hD1 hS1 => ?_)
  rw [wl_set hD ha hq0 (pe_7_7 ha)] at hP1 hD1
  exact kk _ H1 locs1 rfl hP1 hD1 hS1
theorem gf_7_8 {p : Program} {l : Launch} {e : Env} {Rr : Room} {s : State} {m : MethodId} {args : Array Value} {below : List Frame} {meth : Method} {c : Code} {H : Heap} {locs : List Loc} {cells slots : Nat} {Q : State → Prop} {cc : ByteArray} {pc : Nat} {ls : Array Slot} {rest : List Value} {D : va_G} {cy : Cy} {T : Ty} {M : Mm} {R : Rm} {A : Nat → Prop} {own : String} {n : Nat} {ret : Option FieldType} {index a : Nat} (C : Cx own cc n ret p s m args meth c D cy A) (hP : va_P D vwCl (WL cy T M R) H) (ha : isK T a 7 = true) {b : Nat} (eb : R a 8 = some b) (hl : Cond.fieldLink own index "IceTongueModel" "savedIceToo" "[I" ∈ GW) (hdg : decode cc pc = .ok (.getfield index, 3)) (kk : W p l e Rr s m args below meth c H locs cells slots Q (F0 m (pc + 3) ls (.ref b :: rest))) : W p l e Rr s m args below meth c H locs cells slots Q (F0 m pc ls (.ref a :: rest)) := by
  obtain ⟨hx, hb, -, hml, hown, hts, hK, hA, -, hSt⟩ := C
  obtain ⟨q, hq⟩ := wl_get (cy := cy) (M := M) (R := R) ha
  rw [ce_7 (isK_knd ha)] at hq
  exact va_get (D := D) (ci := 7) (v := .ref b) (C := RX7) (T := TX7) (N := 17) hx hb hts inlX7 hown hK hP q hq rfl 8 (by decide) (hts _ hl) (fun _ h9 => h9) (show some (va_rf (R a 8)) = some (.ref b) from by rw [eb]; rfl) hdg kk
theorem pe_7_8 {cy : Cy} {T : Ty} {M : Mm} {R : Rm} {a : Nat} {b : Nat} (ha : isK T a 7 = true) (y : Nat) : va_up (ce cy T M R) a (.inr (7, ([va_rf (R a 0), va_rf (R a 1), va_rf (R a 2), va_rf (R a 3), va_rf (R a 4), va_rf (R a 5), va_rf (R a 6), va_rf (R a 7), va_rf (R a 8), va_rf (R a 9), .int (M.1 a 10), va_rf (R a 11), .int (M.1 a 12), .int (M.1 a 13), .int (M.1 a 14), .int (M.1 a 15), .int (M.1 a 16)] : List Value).set 8 (.ref b))) y = ce cy T M (up2 R a 8 (some b)) y := by
  have hk := isK_knd ha
  unfold va_up
  by_cases h : y = a
  · subst h
    rw [if_pos rfl, ce_7 hk]
    simp [sI, sJ, up2, va_rf]
  · rw [if_neg h]
    exact ce_congr (by first | rfl | exact up2_ne h) (by first | rfl | exact up2_ne h) (by first | rfl | exact up2_ne h)
theorem pf_7_8 {p : Program} {l : Launch} {e : Env} {Rr : Room} {s : State} {m : MethodId} {args : Array Value} {below : List Frame} {meth : Method} {c : Code} {H : Heap} {locs : List Loc} {cells slots : Nat} {Q : State → Prop} {cc : ByteArray} {pc : Nat} {ls : Array Slot} {rest : List Value} {D : va_G} {cy : Cy} {T : Ty} {M : Mm} {R : Rm} {A : Nat → Prop} {own : String} {n : Nat} {ret : Option FieldType} {index a : Nat} {b : Nat} (C : Cx own cc n ret p s m args meth c D cy A) (hP : va_P D vwCl (WL cy T M R) H) (hD : va_D A (WL cy T M R)) (hS : va_S A s.heap H locs) (ha : isK T a 7 = true) (hl : Cond.fieldLink own index "IceTongueModel" "savedIceToo" "[I" ∈ GW) (hin : meth.name = "<init>") (hO : (TX7 8).1 = own) (hdg : decode cc pc = .ok (.putfield index, 3)) (kk : ∀ (R1 : Rm) (H1 : Heap) (locs1 : List Loc), R1 = up2 R a 8 (some b) → va_P D vwCl (WL cy T M R1) H1 → va_D A (WL cy T M R1) → va_S A s.heap H1 locs1 → W p l e Rr s m args below meth c H1 locs1 cells slots Q (F0 m (pc + 3) ls rest)) : W p l e Rr s m args below meth c H locs cells slots Q (F0 m pc ls (.ref b :: .ref a :: rest)) := by
  obtain ⟨hx, hb, -, hml, hown, hts, hK, hA, -, hSt⟩ := C
  obtain ⟨q, hq⟩ := wl_get (cy := cy) (M := M) (R := R) ha
  have hq0 := hq
  rw [ce_7 (isK_knd ha)] at hq
  refine va_putF (D := D) (ci := 7) (v := .ref b) (ty := (tyX7 8)) (C := RX7) (T := TX7) (N := 17) hx hb hts inlX7 tyX7 tyX7_ok nmX7 hown hK hP hD hS q hq rfl 8 (by decide) (hts _ hl) (fun _ h9 => h9) rfl hin hO (by decide +kernel) rfl rfl (Nat.le_of_ble_eq_true rfl) hdg (fun H1 locs1 hP1 hD1 hS1 => ?_)
  rw [wl_set hD ha hq0 (pe_7_8 ha)] at hP1 hD1
  exact kk _ H1 locs1 rfl hP1 hD1 hS1
theorem gf_7_9 {p : Program} {l : Launch} {e : Env} {Rr : Room} {s : State} {m : MethodId} {args : Array Value} {below : List Frame} {meth : Method} {c : Code} {H : Heap} {locs : List Loc} {cells slots : Nat} {Q : State → Prop} {cc : ByteArray} {pc : Nat} {ls : Array Slot} {rest : List Value} {D : va_G} {cy : Cy} {T : Ty} {M : Mm} {R : Rm} {A : Nat → Prop} {own : String} {n : Nat} {ret : Option FieldType} {index a : Nat} (C : Cx own cc n ret p s m args meth c D cy A) (hP : va_P D vwCl (WL cy T M R) H) (ha : isK T a 7 = true) {b : Nat} (eb : R a 9 = some b) (hl : Cond.fieldLink own index "IceTongueModel" "savedAccounts" "[J" ∈ GW) (hdg : decode cc pc = .ok (.getfield index, 3)) (kk : W p l e Rr s m args below meth c H locs cells slots Q (F0 m (pc + 3) ls (.ref b :: rest))) : W p l e Rr s m args below meth c H locs cells slots Q (F0 m pc ls (.ref a :: rest)) := by
  obtain ⟨hx, hb, -, hml, hown, hts, hK, hA, -, hSt⟩ := C
  obtain ⟨q, hq⟩ := wl_get (cy := cy) (M := M) (R := R) ha
  rw [ce_7 (isK_knd ha)] at hq
  exact va_get (D := D) (ci := 7) (v := .ref b) (C := RX7) (T := TX7) (N := 17) hx hb hts inlX7 hown hK hP q hq rfl 9 (by decide) (hts _ hl) (fun _ h9 => h9) (show some (va_rf (R a 9)) = some (.ref b) from by rw [eb]; rfl) hdg kk
theorem pe_7_9 {cy : Cy} {T : Ty} {M : Mm} {R : Rm} {a : Nat} {b : Nat} (ha : isK T a 7 = true) (y : Nat) : va_up (ce cy T M R) a (.inr (7, ([va_rf (R a 0), va_rf (R a 1), va_rf (R a 2), va_rf (R a 3), va_rf (R a 4), va_rf (R a 5), va_rf (R a 6), va_rf (R a 7), va_rf (R a 8), va_rf (R a 9), .int (M.1 a 10), va_rf (R a 11), .int (M.1 a 12), .int (M.1 a 13), .int (M.1 a 14), .int (M.1 a 15), .int (M.1 a 16)] : List Value).set 9 (.ref b))) y = ce cy T M (up2 R a 9 (some b)) y := by
  have hk := isK_knd ha
  unfold va_up
  by_cases h : y = a
  · subst h
    rw [if_pos rfl, ce_7 hk]
    simp [sI, sJ, up2, va_rf]
  · rw [if_neg h]
    exact ce_congr (by first | rfl | exact up2_ne h) (by first | rfl | exact up2_ne h) (by first | rfl | exact up2_ne h)
theorem pf_7_9 {p : Program} {l : Launch} {e : Env} {Rr : Room} {s : State} {m : MethodId} {args : Array Value} {below : List Frame} {meth : Method} {c : Code} {H : Heap} {locs : List Loc} {cells slots : Nat} {Q : State → Prop} {cc : ByteArray} {pc : Nat} {ls : Array Slot} {rest : List Value} {D : va_G} {cy : Cy} {T : Ty} {M : Mm} {R : Rm} {A : Nat → Prop} {own : String} {n : Nat} {ret : Option FieldType} {index a : Nat} {b : Nat} (C : Cx own cc n ret p s m args meth c D cy A) (hP : va_P D vwCl (WL cy T M R) H) (hD : va_D A (WL cy T M R)) (hS : va_S A s.heap H locs) (ha : isK T a 7 = true) (hl : Cond.fieldLink own index "IceTongueModel" "savedAccounts" "[J" ∈ GW) (hin : meth.name = "<init>") (hO : (TX7 9).1 = own) (hdg : decode cc pc = .ok (.putfield index, 3)) (kk : ∀ (R1 : Rm) (H1 : Heap) (locs1 : List Loc), R1 = up2 R a 9 (some b) → va_P D vwCl (WL cy T M R1) H1 → va_D A (WL cy T M R1) → va_S A s.heap H1 locs1 → W p l e Rr s m args below meth c H1 locs1 cells slots Q (F0 m (pc + 3) ls rest)) : W p l e Rr s m args below meth c H locs cells slots Q (F0 m pc ls (.ref b :: .ref a :: rest)) := by
  obtain ⟨hx, hb, -, hml, hown, hts, hK, hA, -, hSt⟩ := C
  obtain ⟨q, hq⟩ := wl_get (cy := cy) (M := M) (R := R) ha
  have hq0 := hq
  rw [ce_7 (isK_knd ha)] at hq
  refine va_putF (D := D) (ci := 7) (v := .ref b) (ty := (tyX7 9)) (C := RX7) (T := TX7) (N := 17) hx hb hts inlX7 tyX7 tyX7_ok nmX7 hown hK hP hD hS q hq rfl 9 (by decide) (hts _ hl) (fun _ h9 => h9) rfl hin hO (by decide +kernel) rfl rfl (Nat.le_of_ble_eq_true rfl) hdg (fun H1 locs1 hP1 hD1 hS1 => ?_)
  rw [wl_set hD ha hq0 (pe_7_9 ha)] at hP1 hD1
  exact kk _ H1 locs1 rfl hP1 hD1 hS1
theorem gf_7_10 {p : Program} {l : Launch} {e : Env} {Rr : Room} {s : State} {m : MethodId} {args : Array Value} {below : List Frame} {meth : Method} {c : Code} {H : Heap} {locs : List Loc} {cells slots : Nat} {Q : State → Prop} {cc : ByteArray} {pc : Nat} {ls : Array Slot} {rest : List Value} {D : va_G} {cy : Cy} {T : Ty} {M : Mm} {R : Rm} {A : Nat → Prop} {own : String} {n : Nat} {ret : Option FieldType} {index a : Nat} (C : Cx own cc n ret p s m args meth c D cy A) (hP : va_P D vwCl (WL cy T M R) H) (ha : isK T a 7 = true) (hl : Cond.fieldLink own index "IceTongueModel" "savedCount" "I" ∈ GW) (hdg : decode cc pc = .ok (.getfield index, 3)) (kk : W p l e Rr s m args below meth c H locs cells slots Q (F0 m (pc + 3) ls (.int (gI M a 10) :: rest))) : W p l e Rr s m args below meth c H locs cells slots Q (F0 m pc ls (.ref a :: rest)) := by
  obtain ⟨hx, hb, -, hml, hown, hts, hK, hA, -, hSt⟩ := C
  obtain ⟨q, hq⟩ := wl_get (cy := cy) (M := M) (R := R) ha
  rw [ce_7 (isK_knd ha)] at hq
  exact va_get (D := D) (ci := 7) (v := .int (gI M a 10)) (C := RX7) (T := TX7) (N := 17) hx hb hts inlX7 hown hK hP q hq rfl 10 (by decide) (hts _ hl) (fun _ h9 => h9) rfl hdg kk
theorem pe_7_10 {cy : Cy} {T : Ty} {M : Mm} {R : Rm} {a : Nat} {x : Int32} (ha : isK T a 7 = true) (y : Nat) : va_up (ce cy T M R) a (.inr (7, ([va_rf (R a 0), va_rf (R a 1), va_rf (R a 2), va_rf (R a 3), va_rf (R a 4), va_rf (R a 5), va_rf (R a 6), va_rf (R a 7), va_rf (R a 8), va_rf (R a 9), .int (M.1 a 10), va_rf (R a 11), .int (M.1 a 12), .int (M.1 a 13), .int (M.1 a 14), .int (M.1 a 15), .int (M.1 a 16)] : List Value).set 10 (.int x))) y = ce cy T (sI M a 10 x) R y := by
  have hk := isK_knd ha
  unfold va_up
  by_cases h : y = a
  · subst h
    rw [if_pos rfl, ce_7 hk]
    simp [sI, sJ, up2, va_rf]
  · rw [if_neg h]
    exact ce_congr (by first | rfl | exact up2_ne h) (by first | rfl | exact up2_ne h) (by first | rfl | exact up2_ne h)
theorem pf_7_10 {p : Program} {l : Launch} {e : Env} {Rr : Room} {s : State} {m : MethodId} {args : Array Value} {below : List Frame} {meth : Method} {c : Code} {H : Heap} {locs : List Loc} {cells slots : Nat} {Q : State → Prop} {cc : ByteArray} {pc : Nat} {ls : Array Slot} {rest : List Value} {D : va_G} {cy : Cy} {T : Ty} {M : Mm} {R : Rm} {A : Nat → Prop} {own : String} {n : Nat} {ret : Option FieldType} {index a : Nat} {x : Int32} (C : Cx own cc n ret p s m args meth c D cy A) (hP : va_P D vwCl (WL cy T M R) H) (hD : va_D A (WL cy T M R)) (hS : va_S A s.heap H locs) (ha : isK T a 7 = true) (hl : Cond.fieldLink own index "IceTongueModel" "savedCount" "I" ∈ GW) (hdg : decode cc pc = .ok (.putfield index, 3)) (kk : ∀ (M1 : Mm) (H1 : Heap) (locs1 : List Loc), M1 = sI M a 10 x → va_P D vwCl (WL cy T M1 R) H1 → va_D A (WL cy T M1 R) → va_S A s.heap H1 locs1 → W p l e Rr s m args below meth c H1 locs1 cells slots Q (F0 m (pc + 3) ls rest)) : W p l e Rr s m args below meth c H locs cells slots Q (F0 m pc ls (.int x :: .ref a :: rest)) := by
  obtain ⟨hx, hb, -, hml, hown, hts, hK, hA, -, hSt⟩ := C
  obtain ⟨q, hq⟩ := wl_get (cy := cy) (M := M) (R := R) ha
  have hq0 := hq
  rw [ce_7 (isK_knd ha)] at hq
  refine va_put (D := D) (ci := 7) (v := .int x) (ty := .int) (C := RX7) (T := TX7) (N := 17) hx hb hts inlX7 tyX7 tyX7_ok nmX7 hown hK hP hD hS q hq rfl 10 (by decide) (hts _ hl) (fun _ h9 => h9) rfl (by decide +kernel) rfl rfl (Nat.le_of_ble_eq_true rfl) hdg (fun H1 locs1 hP1 hD1 hS1 => ?_)
  rw [wl_set hD ha hq0 (pe_7_10 ha)] at hP1 hD1
  exact kk _ H1 locs1 rfl hP1 hD1 hS1
theorem gf_7_11 {p : Program} {l : Launch} {e : Env} {Rr : Room} {s : State} {m : MethodId} {args : Array Value} {below : List Frame} {meth : Method} {c : Code} {H : Heap} {locs : List Loc} {cells slots : Nat} {Q : State → Prop} {cc : ByteArray} {pc : Nat} {ls : Array Slot} {rest : List Value} {D : va_G} {cy : Cy} {T : Ty} {M : Mm} {R : Rm} {A : Nat → Prop} {own : String} {n : Nat} {ret : Option FieldType} {index a : Nat} (C : Cx own cc n ret p s m args meth c D cy A) (hP : va_P D vwCl (WL cy T M R) H) (ha : isK T a 7 = true) {b : Nat} (eb : R a 11 = some b) (hl : Cond.fieldLink own index "IceTongueModel" "text" "[I" ∈ GW) (hdg : decode cc pc = .ok (.getfield index, 3)) (kk : W p l e Rr s m args below meth c H locs cells slots Q (F0 m (pc + 3) ls (.ref b :: rest))) : W p l e Rr s m args below meth c H locs cells slots Q (F0 m pc ls (.ref a :: rest)) := by
  obtain ⟨hx, hb, -, hml, hown, hts, hK, hA, -, hSt⟩ := C
  obtain ⟨q, hq⟩ := wl_get (cy := cy) (M := M) (R := R) ha
  rw [ce_7 (isK_knd ha)] at hq
  exact va_get (D := D) (ci := 7) (v := .ref b) (C := RX7) (T := TX7) (N := 17) hx hb hts inlX7 hown hK hP q hq rfl 11 (by decide) (hts _ hl) (fun _ h9 => h9) (show some (va_rf (R a 11)) = some (.ref b) from by rw [eb]; rfl) hdg kk
theorem pe_7_11 {cy : Cy} {T : Ty} {M : Mm} {R : Rm} {a : Nat} {b : Nat} (ha : isK T a 7 = true) (y : Nat) : va_up (ce cy T M R) a (.inr (7, ([va_rf (R a 0), va_rf (R a 1), va_rf (R a 2), va_rf (R a 3), va_rf (R a 4), va_rf (R a 5), va_rf (R a 6), va_rf (R a 7), va_rf (R a 8), va_rf (R a 9), .int (M.1 a 10), va_rf (R a 11), .int (M.1 a 12), .int (M.1 a 13), .int (M.1 a 14), .int (M.1 a 15), .int (M.1 a 16)] : List Value).set 11 (.ref b))) y = ce cy T M (up2 R a 11 (some b)) y := by
  have hk := isK_knd ha
  unfold va_up
  by_cases h : y = a
  · subst h
    rw [if_pos rfl, ce_7 hk]
    simp [sI, sJ, up2, va_rf]
  · rw [if_neg h]
    exact ce_congr (by first | rfl | exact up2_ne h) (by first | rfl | exact up2_ne h) (by first | rfl | exact up2_ne h)
theorem pf_7_11 {p : Program} {l : Launch} {e : Env} {Rr : Room} {s : State} {m : MethodId} {args : Array Value} {below : List Frame} {meth : Method} {c : Code} {H : Heap} {locs : List Loc} {cells slots : Nat} {Q : State → Prop} {cc : ByteArray} {pc : Nat} {ls : Array Slot} {rest : List Value} {D : va_G} {cy : Cy} {T : Ty} {M : Mm} {R : Rm} {A : Nat → Prop} {own : String} {n : Nat} {ret : Option FieldType} {index a : Nat} {b : Nat} (C : Cx own cc n ret p s m args meth c D cy A) (hP : va_P D vwCl (WL cy T M R) H) (hD : va_D A (WL cy T M R)) (hS : va_S A s.heap H locs) (ha : isK T a 7 = true) (hl : Cond.fieldLink own index "IceTongueModel" "text" "[I" ∈ GW) (hin : meth.name = "<init>") (hO : (TX7 11).1 = own) (hdg : decode cc pc = .ok (.putfield index, 3)) (kk : ∀ (R1 : Rm) (H1 : Heap) (locs1 : List Loc), R1 = up2 R a 11 (some b) → va_P D vwCl (WL cy T M R1) H1 → va_D A (WL cy T M R1) → va_S A s.heap H1 locs1 → W p l e Rr s m args below meth c H1 locs1 cells slots Q (F0 m (pc + 3) ls rest)) : W p l e Rr s m args below meth c H locs cells slots Q (F0 m pc ls (.ref b :: .ref a :: rest)) := by
  obtain ⟨hx, hb, -, hml, hown, hts, hK, hA, -, hSt⟩ := C
  obtain ⟨q, hq⟩ := wl_get (cy := cy) (M := M) (R := R) ha
  have hq0 := hq
  rw [ce_7 (isK_knd ha)] at hq
  refine va_putF (D := D) (ci := 7) (v := .ref b) (ty := (tyX7 11)) (C := RX7) (T := TX7) (N := 17) hx hb hts inlX7 tyX7 tyX7_ok nmX7 hown hK hP hD hS q hq rfl 11 (by decide) (hts _ hl) (fun _ h9 => h9) rfl hin hO (by decide +kernel) rfl rfl (Nat.le_of_ble_eq_true rfl) hdg (fun H1 locs1 hP1 hD1 hS1 => ?_)
  rw [wl_set hD ha hq0 (pe_7_11 ha)] at hP1 hD1
  exact kk _ H1 locs1 rfl hP1 hD1 hS1
theorem gf_7_12 {p : Program} {l : Launch} {e : Env} {Rr : Room} {s : State} {m : MethodId} {args : Array Value} {below : List Frame} {meth : Method} {c : Code} {H : Heap} {locs : List Loc} {cells slots : Nat} {Q : State → Prop} {cc : ByteArray} {pc : Nat} {ls : Array Slot} {rest : List Value} {D : va_G} {cy : Cy} {T : Ty} {M : Mm} {R : Rm} {A : Nat → Prop} {own : String} {n : Nat} {ret : Option FieldType} {index a : Nat} (C : Cx own cc n ret p s m args meth c D cy A) (hP : va_P D vwCl (WL cy T M R) H) (ha : isK T a 7 = true) (hl : Cond.fieldLink own index "IceTongueModel" "textLength" "I" ∈ GW) (hdg : decode cc pc = .ok (.getfield index, 3)) (kk : W p l e Rr s m args below meth c H locs cells slots Q (F0 m (pc + 3) ls (.int (gI M a 12) :: rest))) : W p l e Rr s m args below meth c H locs cells slots Q (F0 m pc ls (.ref a :: rest)) := by
  obtain ⟨hx, hb, -, hml, hown, hts, hK, hA, -, hSt⟩ := C
  obtain ⟨q, hq⟩ := wl_get (cy := cy) (M := M) (R := R) ha
  rw [ce_7 (isK_knd ha)] at hq
  exact va_get (D := D) (ci := 7) (v := .int (gI M a 12)) (C := RX7) (T := TX7) (N := 17) hx hb hts inlX7 hown hK hP q hq rfl 12 (by decide) (hts _ hl) (fun _ h9 => h9) rfl hdg kk
theorem pe_7_12 {cy : Cy} {T : Ty} {M : Mm} {R : Rm} {a : Nat} {x : Int32} (ha : isK T a 7 = true) (y : Nat) : va_up (ce cy T M R) a (.inr (7, ([va_rf (R a 0), va_rf (R a 1), va_rf (R a 2), va_rf (R a 3), va_rf (R a 4), va_rf (R a 5), va_rf (R a 6), va_rf (R a 7), va_rf (R a 8), va_rf (R a 9), .int (M.1 a 10), va_rf (R a 11), .int (M.1 a 12), .int (M.1 a 13), .int (M.1 a 14), .int (M.1 a 15), .int (M.1 a 16)] : List Value).set 12 (.int x))) y = ce cy T (sI M a 12 x) R y := by
  have hk := isK_knd ha
  unfold va_up
  by_cases h : y = a
  · subst h
    rw [if_pos rfl, ce_7 hk]
    simp [sI, sJ, up2, va_rf]
  · rw [if_neg h]
    exact ce_congr (by first | rfl | exact up2_ne h) (by first | rfl | exact up2_ne h) (by first | rfl | exact up2_ne h)
theorem pf_7_12 {p : Program} {l : Launch} {e : Env} {Rr : Room} {s : State} {m : MethodId} {args : Array Value} {below : List Frame} {meth : Method} {c : Code} {H : Heap} {locs : List Loc} {cells slots : Nat} {Q : State → Prop} {cc : ByteArray} {pc : Nat} {ls : Array Slot} {rest : List Value} {D : va_G} {cy : Cy} {T : Ty} {M : Mm} {R : Rm} {A : Nat → Prop} {own : String} {n : Nat} {ret : Option FieldType} {index a : Nat} {x : Int32} (C : Cx own cc n ret p s m args meth c D cy A) (hP : va_P D vwCl (WL cy T M R) H) (hD : va_D A (WL cy T M R)) (hS : va_S A s.heap H locs) (ha : isK T a 7 = true) (hl : Cond.fieldLink own index "IceTongueModel" "textLength" "I" ∈ GW) (hdg : decode cc pc = .ok (.putfield index, 3)) (kk : ∀ (M1 : Mm) (H1 : Heap) (locs1 : List Loc), M1 = sI M a 12 x → va_P D vwCl (WL cy T M1 R) H1 → va_D A (WL cy T M1 R) → va_S A s.heap H1 locs1 → W p l e Rr s m args below meth c H1 locs1 cells slots Q (F0 m (pc + 3) ls rest)) : W p l e Rr s m args below meth c H locs cells slots Q (F0 m pc ls (.int x :: .ref a :: rest)) := by
  obtain ⟨hx, hb, -, hml, hown, hts, hK, hA, -, hSt⟩ := C
  obtain ⟨q, hq⟩ := wl_get (cy := cy) (M := M) (R := R) ha
  have hq0 := hq
  rw [ce_7 (isK_knd ha)] at hq
  refine va_put (D := D) (ci := 7) (v := .int x) (ty := .int) (C := RX7) (T := TX7) (N := 17) hx hb hts inlX7 tyX7 tyX7_ok nmX7 hown hK hP hD hS q hq rfl 12 (by decide) (hts _ hl) (fun _ h9 => h9) rfl (by decide +kernel) rfl rfl (Nat.le_of_ble_eq_true rfl) hdg (fun H1 locs1 hP1 hD1 hS1 => ?_)
  rw [wl_set hD ha hq0 (pe_7_12 ha)] at hP1 hD1
  exact kk _ H1 locs1 rfl hP1 hD1 hS1
theorem gf_7_13 {p : Program} {l : Launch} {e : Env} {Rr : Room} {s : State} {m : MethodId} {args : Array Value} {below : List Frame} {meth : Method} {c : Code} {H : Heap} {locs : List Loc} {cells slots : Nat} {Q : State → Prop} {cc : ByteArray} {pc : Nat} {ls : Array Slot} {rest : List Value} {D : va_G} {cy : Cy} {T : Ty} {M : Mm} {R : Rm} {A : Nat → Prop} {own : String} {n : Nat} {ret : Option FieldType} {index a : Nat} (C : Cx own cc n ret p s m args meth c D cy A) (hP : va_P D vwCl (WL cy T M R) H) (ha : isK T a 7 = true) (hl : Cond.fieldLink own index "IceTongueModel" "at" "I" ∈ GW) (hdg : decode cc pc = .ok (.getfield index, 3)) (kk : W p l e Rr s m args below meth c H locs cells slots Q (F0 m (pc + 3) ls (.int (gI M a 13) :: rest))) : W p l e Rr s m args below meth c H locs cells slots Q (F0 m pc ls (.ref a :: rest)) := by
  obtain ⟨hx, hb, -, hml, hown, hts, hK, hA, -, hSt⟩ := C
  obtain ⟨q, hq⟩ := wl_get (cy := cy) (M := M) (R := R) ha
  rw [ce_7 (isK_knd ha)] at hq
  exact va_get (D := D) (ci := 7) (v := .int (gI M a 13)) (C := RX7) (T := TX7) (N := 17) hx hb hts inlX7 hown hK hP q hq rfl 13 (by decide) (hts _ hl) (fun _ h9 => h9) rfl hdg kk
theorem pe_7_13 {cy : Cy} {T : Ty} {M : Mm} {R : Rm} {a : Nat} {x : Int32} (ha : isK T a 7 = true) (y : Nat) : va_up (ce cy T M R) a (.inr (7, ([va_rf (R a 0), va_rf (R a 1), va_rf (R a 2), va_rf (R a 3), va_rf (R a 4), va_rf (R a 5), va_rf (R a 6), va_rf (R a 7), va_rf (R a 8), va_rf (R a 9), .int (M.1 a 10), va_rf (R a 11), .int (M.1 a 12), .int (M.1 a 13), .int (M.1 a 14), .int (M.1 a 15), .int (M.1 a 16)] : List Value).set 13 (.int x))) y = ce cy T (sI M a 13 x) R y := by
  have hk := isK_knd ha
  unfold va_up
  by_cases h : y = a
  · subst h
    rw [if_pos rfl, ce_7 hk]
    simp [sI, sJ, up2, va_rf]
  · rw [if_neg h]
    exact ce_congr (by first | rfl | exact up2_ne h) (by first | rfl | exact up2_ne h) (by first | rfl | exact up2_ne h)
theorem pf_7_13 {p : Program} {l : Launch} {e : Env} {Rr : Room} {s : State} {m : MethodId} {args : Array Value} {below : List Frame} {meth : Method} {c : Code} {H : Heap} {locs : List Loc} {cells slots : Nat} {Q : State → Prop} {cc : ByteArray} {pc : Nat} {ls : Array Slot} {rest : List Value} {D : va_G} {cy : Cy} {T : Ty} {M : Mm} {R : Rm} {A : Nat → Prop} {own : String} {n : Nat} {ret : Option FieldType} {index a : Nat} {x : Int32} (C : Cx own cc n ret p s m args meth c D cy A) (hP : va_P D vwCl (WL cy T M R) H) (hD : va_D A (WL cy T M R)) (hS : va_S A s.heap H locs) (ha : isK T a 7 = true) (hl : Cond.fieldLink own index "IceTongueModel" "at" "I" ∈ GW) (hdg : decode cc pc = .ok (.putfield index, 3)) (kk : ∀ (M1 : Mm) (H1 : Heap) (locs1 : List Loc), M1 = sI M a 13 x → va_P D vwCl (WL cy T M1 R) H1 → va_D A (WL cy T M1 R) → va_S A s.heap H1 locs1 → W p l e Rr s m args below meth c H1 locs1 cells slots Q (F0 m (pc + 3) ls rest)) : W p l e Rr s m args below meth c H locs cells slots Q (F0 m pc ls (.int x :: .ref a :: rest)) := by
  obtain ⟨hx, hb, -, hml, hown, hts, hK, hA, -, hSt⟩ := C
  obtain ⟨q, hq⟩ := wl_get (cy := cy) (M := M) (R := R) ha
  have hq0 := hq
  rw [ce_7 (isK_knd ha)] at hq
  refine va_put (D := D) (ci := 7) (v := .int x) (ty := .int) (C := RX7) (T := TX7) (N := 17) hx hb hts inlX7 tyX7 tyX7_ok nmX7 hown hK hP hD hS q hq rfl 13 (by decide) (hts _ hl) (fun _ h9 => h9) rfl (by decide +kernel) rfl rfl (Nat.le_of_ble_eq_true rfl) hdg (fun H1 locs1 hP1 hD1 hS1 => ?_)
  rw [wl_set hD ha hq0 (pe_7_13 ha)] at hP1 hD1
  exact kk _ H1 locs1 rfl hP1 hD1 hS1
theorem gf_7_14 {p : Program} {l : Launch} {e : Env} {Rr : Room} {s : State} {m : MethodId} {args : Array Value} {below : List Frame} {meth : Method} {c : Code} {H : Heap} {locs : List Loc} {cells slots : Nat} {Q : State → Prop} {cc : ByteArray} {pc : Nat} {ls : Array Slot} {rest : List Value} {D : va_G} {cy : Cy} {T : Ty} {M : Mm} {R : Rm} {A : Nat → Prop} {own : String} {n : Nat} {ret : Option FieldType} {index a : Nat} (C : Cx own cc n ret p s m args meth c D cy A) (hP : va_P D vwCl (WL cy T M R) H) (ha : isK T a 7 = true) (hl : Cond.fieldLink own index "IceTongueModel" "faultAt" "I" ∈ GW) (hdg : decode cc pc = .ok (.getfield index, 3)) (kk : W p l e Rr s m args below meth c H locs cells slots Q (F0 m (pc + 3) ls (.int (gI M a 14) :: rest))) : W p l e Rr s m args below meth c H locs cells slots Q (F0 m pc ls (.ref a :: rest)) := by
  obtain ⟨hx, hb, -, hml, hown, hts, hK, hA, -, hSt⟩ := C
  obtain ⟨q, hq⟩ := wl_get (cy := cy) (M := M) (R := R) ha
  rw [ce_7 (isK_knd ha)] at hq
  exact va_get (D := D) (ci := 7) (v := .int (gI M a 14)) (C := RX7) (T := TX7) (N := 17) hx hb hts inlX7 hown hK hP q hq rfl 14 (by decide) (hts _ hl) (fun _ h9 => h9) rfl hdg kk
theorem pe_7_14 {cy : Cy} {T : Ty} {M : Mm} {R : Rm} {a : Nat} {x : Int32} (ha : isK T a 7 = true) (y : Nat) : va_up (ce cy T M R) a (.inr (7, ([va_rf (R a 0), va_rf (R a 1), va_rf (R a 2), va_rf (R a 3), va_rf (R a 4), va_rf (R a 5), va_rf (R a 6), va_rf (R a 7), va_rf (R a 8), va_rf (R a 9), .int (M.1 a 10), va_rf (R a 11), .int (M.1 a 12), .int (M.1 a 13), .int (M.1 a 14), .int (M.1 a 15), .int (M.1 a 16)] : List Value).set 14 (.int x))) y = ce cy T (sI M a 14 x) R y := by
  have hk := isK_knd ha
  unfold va_up
  by_cases h : y = a
  · subst h
    rw [if_pos rfl, ce_7 hk]
    simp [sI, sJ, up2, va_rf]
  · rw [if_neg h]
    exact ce_congr (by first | rfl | exact up2_ne h) (by first | rfl | exact up2_ne h) (by first | rfl | exact up2_ne h)
theorem pf_7_14 {p : Program} {l : Launch} {e : Env} {Rr : Room} {s : State} {m : MethodId} {args : Array Value} {below : List Frame} {meth : Method} {c : Code} {H : Heap} {locs : List Loc} {cells slots : Nat} {Q : State → Prop} {cc : ByteArray} {pc : Nat} {ls : Array Slot} {rest : List Value} {D : va_G} {cy : Cy} {T : Ty} {M : Mm} {R : Rm} {A : Nat → Prop} {own : String} {n : Nat} {ret : Option FieldType} {index a : Nat} {x : Int32} (C : Cx own cc n ret p s m args meth c D cy A) (hP : va_P D vwCl (WL cy T M R) H) (hD : va_D A (WL cy T M R)) (hS : va_S A s.heap H locs) (ha : isK T a 7 = true) (hl : Cond.fieldLink own index "IceTongueModel" "faultAt" "I" ∈ GW) (hdg : decode cc pc = .ok (.putfield index, 3)) (kk : ∀ (M1 : Mm) (H1 : Heap) (locs1 : List Loc), M1 = sI M a 14 x → va_P D vwCl (WL cy T M1 R) H1 → va_D A (WL cy T M1 R) → va_S A s.heap H1 locs1 → W p l e Rr s m args below meth c H1 locs1 cells slots Q (F0 m (pc + 3) ls rest)) : W p l e Rr s m args below meth c H locs cells slots Q (F0 m pc ls (.int x :: .ref a :: rest)) := by
  obtain ⟨hx, hb, -, hml, hown, hts, hK, hA, -, hSt⟩ := C
  obtain ⟨q, hq⟩ := wl_get (cy := cy) (M := M) (R := R) ha
  have hq0 := hq
  rw [ce_7 (isK_knd ha)] at hq
  refine va_put (D := D) (ci := 7) (v := .int x) (ty := .int) (C := RX7) (T := TX7) (N := 17) hx hb hts inlX7 tyX7 tyX7_ok nmX7 hown hK hP hD hS q hq rfl 14 (by decide) (hts _ hl) (fun _ h9 => h9) rfl (by decide +kernel) rfl rfl (Nat.le_of_ble_eq_true rfl) hdg (fun H1 locs1 hP1 hD1 hS1 => ?_)
  rw [wl_set hD ha hq0 (pe_7_14 ha)] at hP1 hD1
  exact kk _ H1 locs1 rfl hP1 hD1 hS1
theorem gf_7_15 {p : Program} {l : Launch} {e : Env} {Rr : Room} {s : State} {m : MethodId} {args : Array Value} {below : List Frame} {meth : Method} {c : Code} {H : Heap} {locs : List Loc} {cells slots : Nat} {Q : State → Prop} {cc : ByteArray} {pc : Nat} {ls : Array Slot} {rest : List Value} {D : va_G} {cy : Cy} {T : Ty} {M : Mm} {R : Rm} {A : Nat → Prop} {own : String} {n : Nat} {ret : Option FieldType} {index a : Nat} (C : Cx own cc n ret p s m args meth c D cy A) (hP : va_P D vwCl (WL cy T M R) H) (ha : isK T a 7 = true) (hl : Cond.fieldLink own index "IceTongueModel" "number" "I" ∈ GW) (hdg : decode cc pc = .ok (.getfield index, 3)) (kk : W p l e Rr s m args below meth c H locs cells slots Q (F0 m (pc + 3) ls (.int (gI M a 15) :: rest))) : W p l e Rr s m args below meth c H locs cells slots Q (F0 m pc ls (.ref a :: rest)) := by
  obtain ⟨hx, hb, -, hml, hown, hts, hK, hA, -, hSt⟩ := C
  obtain ⟨q, hq⟩ := wl_get (cy := cy) (M := M) (R := R) ha
  rw [ce_7 (isK_knd ha)] at hq
  exact va_get (D := D) (ci := 7) (v := .int (gI M a 15)) (C := RX7) (T := TX7) (N := 17) hx hb hts inlX7 hown hK hP q hq rfl 15 (by decide) (hts _ hl) (fun _ h9 => h9) rfl hdg kk
theorem pe_7_15 {cy : Cy} {T : Ty} {M : Mm} {R : Rm} {a : Nat} {x : Int32} (ha : isK T a 7 = true) (y : Nat) : va_up (ce cy T M R) a (.inr (7, ([va_rf (R a 0), va_rf (R a 1), va_rf (R a 2), va_rf (R a 3), va_rf (R a 4), va_rf (R a 5), va_rf (R a 6), va_rf (R a 7), va_rf (R a 8), va_rf (R a 9), .int (M.1 a 10), va_rf (R a 11), .int (M.1 a 12), .int (M.1 a 13), .int (M.1 a 14), .int (M.1 a 15), .int (M.1 a 16)] : List Value).set 15 (.int x))) y = ce cy T (sI M a 15 x) R y := by
  have hk := isK_knd ha
  unfold va_up
  by_cases h : y = a
  · subst h
    rw [if_pos rfl, ce_7 hk]
    simp [sI, sJ, up2, va_rf]
  · rw [if_neg h]
    exact ce_congr (by first | rfl | exact up2_ne h) (by first | rfl | exact up2_ne h) (by first | rfl | exact up2_ne h)
theorem pf_7_15 {p : Program} {l : Launch} {e : Env} {Rr : Room} {s : State} {m : MethodId} {args : Array Value} {below : List Frame} {meth : Method} {c : Code} {H : Heap} {locs : List Loc} {cells slots : Nat} {Q : State → Prop} {cc : ByteArray} {pc : Nat} {ls : Array Slot} {rest : List Value} {D : va_G} {cy : Cy} {T : Ty} {M : Mm} {R : Rm} {A : Nat → Prop} {own : String} {n : Nat} {ret : Option FieldType} {index a : Nat} {x : Int32} (C : Cx own cc n ret p s m args meth c D cy A) (hP : va_P D vwCl (WL cy T M R) H) (hD : va_D A (WL cy T M R)) (hS : va_S A s.heap H locs) (ha : isK T a 7 = true) (hl : Cond.fieldLink own index "IceTongueModel" "number" "I" ∈ GW) (hdg : decode cc pc = .ok (.putfield index, 3)) (kk : ∀ (M1 : Mm) (H1 : Heap) (locs1 : List Loc), M1 = sI M a 15 x → va_P D vwCl (WL cy T M1 R) H1 → va_D A (WL cy T M1 R) → va_S A s.heap H1 locs1 → W p l e Rr s m args below meth c H1 locs1 cells slots Q (F0 m (pc + 3) ls rest)) : W p l e Rr s m args below meth c H locs cells slots Q (F0 m pc ls (.int x :: .ref a :: rest)) := by
  obtain ⟨hx, hb, -, hml, hown, hts, hK, hA, -, hSt⟩ := C
  obtain ⟨q, hq⟩ := wl_get (cy := cy) (M := M) (R := R) ha
  have hq0 := hq
  rw [ce_7 (isK_knd ha)] at hq
  refine va_put (D := D) (ci := 7) (v := .int x) (ty := .int) (C := RX7) (T := TX7) (N := 17) hx hb hts inlX7 tyX7 tyX7_ok nmX7 hown hK hP hD hS q hq rfl 15 (by decide) (hts _ hl) (fun _ h9 => h9) rfl (by decide +kernel) rfl rfl (Nat.le_of_ble_eq_true rfl) hdg (fun H1 locs1 hP1 hD1 hS1 => ?_)
  rw [wl_set hD ha hq0 (pe_7_15 ha)] at hP1 hD1
  exact kk _ H1 locs1 rfl hP1 hD1 hS1
theorem gf_7_16 {p : Program} {l : Launch} {e : Env} {Rr : Room} {s : State} {m : MethodId} {args : Array Value} {below : List Frame} {meth : Method} {c : Code} {H : Heap} {locs : List Loc} {cells slots : Nat} {Q : State → Prop} {cc : ByteArray} {pc : Nat} {ls : Array Slot} {rest : List Value} {D : va_G} {cy : Cy} {T : Ty} {M : Mm} {R : Rm} {A : Nat → Prop} {own : String} {n : Nat} {ret : Option FieldType} {index a : Nat} (C : Cx own cc n ret p s m args meth c D cy A) (hP : va_P D vwCl (WL cy T M R) H) (ha : isK T a 7 = true) (hl : Cond.fieldLink own index "IceTongueModel" "first" "I" ∈ GW) (hdg : decode cc pc = .ok (.getfield index, 3)) (kk : W p l e Rr s m args below meth c H locs cells slots Q (F0 m (pc + 3) ls (.int (gI M a 16) :: rest))) : W p l e Rr s m args below meth c H locs cells slots Q (F0 m pc ls (.ref a :: rest)) := by
  obtain ⟨hx, hb, -, hml, hown, hts, hK, hA, -, hSt⟩ := C
  obtain ⟨q, hq⟩ := wl_get (cy := cy) (M := M) (R := R) ha
  rw [ce_7 (isK_knd ha)] at hq
  exact va_get (D := D) (ci := 7) (v := .int (gI M a 16)) (C := RX7) (T := TX7) (N := 17) hx hb hts inlX7 hown hK hP q hq rfl 16 (by decide) (hts _ hl) (fun _ h9 => h9) rfl hdg kk
theorem pe_7_16 {cy : Cy} {T : Ty} {M : Mm} {R : Rm} {a : Nat} {x : Int32} (ha : isK T a 7 = true) (y : Nat) : va_up (ce cy T M R) a (.inr (7, ([va_rf (R a 0), va_rf (R a 1), va_rf (R a 2), va_rf (R a 3), va_rf (R a 4), va_rf (R a 5), va_rf (R a 6), va_rf (R a 7), va_rf (R a 8), va_rf (R a 9), .int (M.1 a 10), va_rf (R a 11), .int (M.1 a 12), .int (M.1 a 13), .int (M.1 a 14), .int (M.1 a 15), .int (M.1 a 16)] : List Value).set 16 (.int x))) y = ce cy T (sI M a 16 x) R y := by
  have hk := isK_knd ha
  unfold va_up
  by_cases h : y = a
  · subst h
    rw [if_pos rfl, ce_7 hk]
    simp [sI, sJ, up2, va_rf]
  · rw [if_neg h]
    exact ce_congr (by first | rfl | exact up2_ne h) (by first | rfl | exact up2_ne h) (by first | rfl | exact up2_ne h)
theorem pf_7_16 {p : Program} {l : Launch} {e : Env} {Rr : Room} {s : State} {m : MethodId} {args : Array Value} {below : List Frame} {meth : Method} {c : Code} {H : Heap} {locs : List Loc} {cells slots : Nat} {Q : State → Prop} {cc : ByteArray} {pc : Nat} {ls : Array Slot} {rest : List Value} {D : va_G} {cy : Cy} {T : Ty} {M : Mm} {R : Rm} {A : Nat → Prop} {own : String} {n : Nat} {ret : Option FieldType} {index a : Nat} {x : Int32} (C : Cx own cc n ret p s m args meth c D cy A) (hP : va_P D vwCl (WL cy T M R) H) (hD : va_D A (WL cy T M R)) (hS : va_S A s.heap H locs) (ha : isK T a 7 = true) (hl : Cond.fieldLink own index "IceTongueModel" "first" "I" ∈ GW) (hdg : decode cc pc = .ok (.putfield index, 3)) (kk : ∀ (M1 : Mm) (H1 : Heap) (locs1 : List Loc), M1 = sI M a 16 x → va_P D vwCl (WL cy T M1 R) H1 → va_D A (WL cy T M1 R) → va_S A s.heap H1 locs1 → W p l e Rr s m args below meth c H1 locs1 cells slots Q (F0 m (pc + 3) ls rest)) : W p l e Rr s m args below meth c H locs cells slots Q (F0 m pc ls (.int x :: .ref a :: rest)) := by
  obtain ⟨hx, hb, -, hml, hown, hts, hK, hA, -, hSt⟩ := C
  obtain ⟨q, hq⟩ := wl_get (cy := cy) (M := M) (R := R) ha
  have hq0 := hq
  rw [ce_7 (isK_knd ha)] at hq
  refine va_put (D := D) (ci := 7) (v := .int x) (ty := .int) (C := RX7) (T := TX7) (N := 17) hx hb hts inlX7 tyX7 tyX7_ok nmX7 hown hK hP hD hS q hq rfl 16 (by decide) (hts _ hl) (fun _ h9 => h9) rfl (by decide +kernel) rfl rfl (Nat.le_of_ble_eq_true rfl) hdg (fun H1 locs1 hP1 hD1 hS1 => ?_)
  rw [wl_set hD ha hq0 (pe_7_16 ha)] at hP1 hD1
  exact kk _ H1 locs1 rfl hP1 hD1 hS1
theorem ar_8 {p : Program} {l : Launch} {e : Env} {Rr : Room} {s : State} {m : MethodId} {args : Array Value} {below : List Frame} {meth : Method} {c : Code} {H : Heap} {locs : List Loc} {cells slots : Nat} {Q : State → Prop} {cc : ByteArray} {pc : Nat} {ls : Array Slot} {rest : List Value} {D : va_G} {cy : Cy} {T : Ty} {M : Mm} {R : Rm} {A : Nat → Prop} {own : String} {n : Nat} {ret : Option FieldType} {a : Nat} {i : Int32} (C : Cx own cc n ret p s m args meth c D cy A) (hP : va_P D vwCl (WL cy T M R) H) (ha : isK T a 8 = true) (hi : inb i (lnT T a) = true) (hdg : decode cc pc = .ok (.caload, 1)) (kk : W p l e Rr s m args below meth c H locs cells slots Q (F0 m (pc + 1) ls (.int (gI M a i.toNatClampNeg) :: rest))) : W p l e Rr s m args below meth c H locs cells slots Q (F0 m pc ls (.int i :: .ref a :: rest)) := by
  obtain ⟨hx, hb, -, hml, hown, hts, hK, hA, -, hSt⟩ := C
  obtain ⟨q, hq⟩ := wl_get (cy := cy) (M := M) (R := R) ha
  rw [ce_8 (isK_knd ha)] at hq
  exact va_cald hx hb hK hP q 0 hq rfl (inb_vp hi) hdg kk
theorem ae_8 {cy : Cy} {T : Ty} {M : Mm} {R : Rm} {a j : Nat} {x : Int32} (ha : isK T a 8 = true) (y : Nat) : va_up (ce cy T M R) a (.inl (cy.1, T.2.2 a, .inl (upd (M.1 a) j x))) y = ce cy T (sI M a j x) R y := by
  have hk := isK_knd ha
  unfold va_up
  by_cases h : y = a
  · subst h
    rw [if_pos rfl, ce_8 hk]
    have e : (upd (M.1 y) j x) = (sI M y j x).1 y := by
      funext z
      simp [sI, up2, upd]
    rw [e]
  · rw [if_neg h]
    exact ce_congr (by first | rfl | exact up2_ne h) (by first | rfl | exact up2_ne h) (by first | rfl | exact up2_ne h)
theorem aw_8 {p : Program} {l : Launch} {e : Env} {Rr : Room} {s : State} {m : MethodId} {args : Array Value} {below : List Frame} {meth : Method} {c : Code} {H : Heap} {locs : List Loc} {cells slots : Nat} {Q : State → Prop} {cc : ByteArray} {pc : Nat} {ls : Array Slot} {rest : List Value} {D : va_G} {cy : Cy} {T : Ty} {M : Mm} {R : Rm} {A : Nat → Prop} {own : String} {n : Nat} {ret : Option FieldType} {a : Nat} {i x : Int32} (C : Cx own cc n ret p s m args meth c D cy A) (hP : va_P D vwCl (WL cy T M R) H) (hD : va_D A (WL cy T M R)) (hS : va_S A s.heap H locs) (ha : isK T a 8 = true) (hi : inb i (lnT T a) = true) (hdg : decode cc pc = .ok (.castore, 1)) (kk : ∀ (M1 : Mm) (H1 : Heap) (locs1 : List Loc), M1 = sI M a i.toNatClampNeg (vp_nar .char x) → va_P D vwCl (WL cy T M1 R) H1 → va_D A (WL cy T M1 R) → va_S A s.heap H1 locs1 → W p l e Rr s m args below meth c H1 locs1 cells slots Q (F0 m (pc + 1) ls rest)) : W p l e Rr s m args below meth c H locs cells slots Q (F0 m pc ls (.int x :: .int i :: .ref a :: rest)) := by
  obtain ⟨hx, hb, -, hml, hown, hts, hK, hA, -, hSt⟩ := C
  obtain ⟨q, hq⟩ := wl_get (cy := cy) (M := M) (R := R) ha
  have hq0 := hq
  rw [ce_8 (isK_knd ha)] at hq
  refine va_cast hx hb hK hP hD hS q 0 hq rfl (inb_vp hi) hdg (fun H1 locs1 hP1 hD1 hS1 => ?_)
  have e9 := wl_set (cy := cy) (M := M) (R := R) (M1 := sI M a i.toNatClampNeg (vp_nar .char x)) (R1 := R) hD ha hq0 (ae_8 ha)
  rw [e9] at hP1 hD1
  exact kk _ H1 locs1 rfl hP1 hD1 hS1
theorem ar_9 {p : Program} {l : Launch} {e : Env} {Rr : Room} {s : State} {m : MethodId} {args : Array Value} {below : List Frame} {meth : Method} {c : Code} {H : Heap} {locs : List Loc} {cells slots : Nat} {Q : State → Prop} {cc : ByteArray} {pc : Nat} {ls : Array Slot} {rest : List Value} {D : va_G} {cy : Cy} {T : Ty} {M : Mm} {R : Rm} {A : Nat → Prop} {own : String} {n : Nat} {ret : Option FieldType} {a : Nat} {i : Int32} (C : Cx own cc n ret p s m args meth c D cy A) (hP : va_P D vwCl (WL cy T M R) H) (ha : isK T a 9 = true) (hi : inb i (lnT T a) = true) (hdg : decode cc pc = .ok (.iaload, 1)) (kk : W p l e Rr s m args below meth c H locs cells slots Q (F0 m (pc + 1) ls (.int (gI M a i.toNatClampNeg) :: rest))) : W p l e Rr s m args below meth c H locs cells slots Q (F0 m pc ls (.int i :: .ref a :: rest)) := by
  obtain ⟨hx, hb, -, hml, hown, hts, hK, hA, -, hSt⟩ := C
  obtain ⟨q, hq⟩ := wl_get (cy := cy) (M := M) (R := R) ha
  rw [ce_9 (isK_knd ha)] at hq
  exact va_iald hx hb hK hP q 1 hq rfl (inb_vp hi) hdg kk
theorem ae_9 {cy : Cy} {T : Ty} {M : Mm} {R : Rm} {a j : Nat} {x : Int32} (ha : isK T a 9 = true) (y : Nat) : va_up (ce cy T M R) a (.inl (cy.2.1, T.2.2 a, .inl (upd (M.1 a) j x))) y = ce cy T (sI M a j x) R y := by
  have hk := isK_knd ha
  unfold va_up
  by_cases h : y = a
  · subst h
    rw [if_pos rfl, ce_9 hk]
    have e : (upd (M.1 y) j x) = (sI M y j x).1 y := by
      funext z
      simp [sI, up2, upd]
    rw [e]
  · rw [if_neg h]
    exact ce_congr (by first | rfl | exact up2_ne h) (by first | rfl | exact up2_ne h) (by first | rfl | exact up2_ne h)
theorem aw_9 {p : Program} {l : Launch} {e : Env} {Rr : Room} {s : State} {m : MethodId} {args : Array Value} {below : List Frame} {meth : Method} {c : Code} {H : Heap} {locs : List Loc} {cells slots : Nat} {Q : State → Prop} {cc : ByteArray} {pc : Nat} {ls : Array Slot} {rest : List Value} {D : va_G} {cy : Cy} {T : Ty} {M : Mm} {R : Rm} {A : Nat → Prop} {own : String} {n : Nat} {ret : Option FieldType} {a : Nat} {i x : Int32} (C : Cx own cc n ret p s m args meth c D cy A) (hP : va_P D vwCl (WL cy T M R) H) (hD : va_D A (WL cy T M R)) (hS : va_S A s.heap H locs) (ha : isK T a 9 = true) (hi : inb i (lnT T a) = true) (hdg : decode cc pc = .ok (.iastore, 1)) (kk : ∀ (M1 : Mm) (H1 : Heap) (locs1 : List Loc), M1 = sI M a i.toNatClampNeg x → va_P D vwCl (WL cy T M1 R) H1 → va_D A (WL cy T M1 R) → va_S A s.heap H1 locs1 → W p l e Rr s m args below meth c H1 locs1 cells slots Q (F0 m (pc + 1) ls rest)) : W p l e Rr s m args below meth c H locs cells slots Q (F0 m pc ls (.int x :: .int i :: .ref a :: rest)) := by
  obtain ⟨hx, hb, -, hml, hown, hts, hK, hA, -, hSt⟩ := C
  obtain ⟨q, hq⟩ := wl_get (cy := cy) (M := M) (R := R) ha
  have hq0 := hq
  rw [ce_9 (isK_knd ha)] at hq
  refine va_iast hx hb hK hP hD hS q 1 hq rfl (inb_vp hi) hdg (fun H1 locs1 hP1 hD1 hS1 => ?_)
  have e9 := wl_set (cy := cy) (M := M) (R := R) (M1 := sI M a i.toNatClampNeg x) (R1 := R) hD ha hq0 (ae_9 ha)
  rw [e9] at hP1 hD1
  exact kk _ H1 locs1 rfl hP1 hD1 hS1
theorem ar_10 {p : Program} {l : Launch} {e : Env} {Rr : Room} {s : State} {m : MethodId} {args : Array Value} {below : List Frame} {meth : Method} {c : Code} {H : Heap} {locs : List Loc} {cells slots : Nat} {Q : State → Prop} {cc : ByteArray} {pc : Nat} {ls : Array Slot} {rest : List Value} {D : va_G} {cy : Cy} {T : Ty} {M : Mm} {R : Rm} {A : Nat → Prop} {own : String} {n : Nat} {ret : Option FieldType} {a : Nat} {i : Int32} (C : Cx own cc n ret p s m args meth c D cy A) (hP : va_P D vwCl (WL cy T M R) H) (ha : isK T a 10 = true) (hi : inb i (lnT T a) = true) (hdg : decode cc pc = .ok (.laload, 1)) (kk : W p l e Rr s m args below meth c H locs cells slots Q (F0 m (pc + 1) ls (.long (gJ M a i.toNatClampNeg) :: rest))) : W p l e Rr s m args below meth c H locs cells slots Q (F0 m pc ls (.int i :: .ref a :: rest)) := by
  obtain ⟨hx, hb, -, hml, hown, hts, hK, hA, -, hSt⟩ := C
  obtain ⟨q, hq⟩ := wl_get (cy := cy) (M := M) (R := R) ha
  rw [ce_10 (isK_knd ha)] at hq
  exact va_lald hx hb hK hP q 2 hq rfl (inb_vp hi) hdg kk
theorem ae_10 {cy : Cy} {T : Ty} {M : Mm} {R : Rm} {a j : Nat} {x : Int64} (ha : isK T a 10 = true) (y : Nat) : va_up (ce cy T M R) a (.inl (cy.2.2.1, T.2.2 a, .inr (.inl (vp_updL (M.2 a) j x)))) y = ce cy T (sJ M a j x) R y := by
  have hk := isK_knd ha
  unfold va_up
  by_cases h : y = a
  · subst h
    rw [if_pos rfl, ce_10 hk]
    have e : (vp_updL (M.2 y) j x) = (sJ M y j x).2 y := by
      funext z
      simp [sJ, up2, vp_updL]
    rw [e]
  · rw [if_neg h]
    exact ce_congr (by first | rfl | exact up2_ne h) (by first | rfl | exact up2_ne h) (by first | rfl | exact up2_ne h)
theorem aw_10 {p : Program} {l : Launch} {e : Env} {Rr : Room} {s : State} {m : MethodId} {args : Array Value} {below : List Frame} {meth : Method} {c : Code} {H : Heap} {locs : List Loc} {cells slots : Nat} {Q : State → Prop} {cc : ByteArray} {pc : Nat} {ls : Array Slot} {rest : List Value} {D : va_G} {cy : Cy} {T : Ty} {M : Mm} {R : Rm} {A : Nat → Prop} {own : String} {n : Nat} {ret : Option FieldType} {a : Nat} {i : Int32} {x : Int64} (C : Cx own cc n ret p s m args meth c D cy A) (hP : va_P D vwCl (WL cy T M R) H) (hD : va_D A (WL cy T M R)) (hS : va_S A s.heap H locs) (ha : isK T a 10 = true) (hi : inb i (lnT T a) = true) (hdg : decode cc pc = .ok (.lastore, 1)) (kk : ∀ (M1 : Mm) (H1 : Heap) (locs1 : List Loc), M1 = sJ M a i.toNatClampNeg x → va_P D vwCl (WL cy T M1 R) H1 → va_D A (WL cy T M1 R) → va_S A s.heap H1 locs1 → W p l e Rr s m args below meth c H1 locs1 cells slots Q (F0 m (pc + 1) ls rest)) : W p l e Rr s m args below meth c H locs cells slots Q (F0 m pc ls (.long x :: .int i :: .ref a :: rest)) := by
  obtain ⟨hx, hb, -, hml, hown, hts, hK, hA, -, hSt⟩ := C
  obtain ⟨q, hq⟩ := wl_get (cy := cy) (M := M) (R := R) ha
  have hq0 := hq
  rw [ce_10 (isK_knd ha)] at hq
  refine va_last hx hb hK hP hD hS q 2 hq rfl (inb_vp hi) hdg (fun H1 locs1 hP1 hD1 hS1 => ?_)
  have e9 := wl_set (cy := cy) (M := M) (R := R) (M1 := sJ M a i.toNatClampNeg x) (R1 := R) hD ha hq0 (ae_10 ha)
  rw [e9] at hP1 hD1
  exact kk _ H1 locs1 rfl hP1 hD1 hS1
theorem ar_11 {p : Program} {l : Launch} {e : Env} {Rr : Room} {s : State} {m : MethodId} {args : Array Value} {below : List Frame} {meth : Method} {c : Code} {H : Heap} {locs : List Loc} {cells slots : Nat} {Q : State → Prop} {cc : ByteArray} {pc : Nat} {ls : Array Slot} {rest : List Value} {D : va_G} {cy : Cy} {T : Ty} {M : Mm} {R : Rm} {A : Nat → Prop} {own : String} {n : Nat} {ret : Option FieldType} {a b : Nat} {i : Int32} (C : Cx own cc n ret p s m args meth c D cy A) (hP : va_P D vwCl (WL cy T M R) H) (ha : isK T a 11 = true) (hi : inb i (lnT T a) = true) (eb : R a i.toNatClampNeg = some b) (hdg : decode cc pc = .ok (.aaload, 1)) (kk : W p l e Rr s m args below meth c H locs cells slots Q (F0 m (pc + 1) ls (.ref b :: rest))) : W p l e Rr s m args below meth c H locs cells slots Q (F0 m pc ls (.int i :: .ref a :: rest)) := by
  obtain ⟨hx, hb, -, hml, hown, hts, hK, hA, -, hSt⟩ := C
  obtain ⟨q, hq⟩ := wl_get (cy := cy) (M := M) (R := R) ha
  rw [ce_11 (isK_knd ha)] at hq
  refine va_aldq hx hb hK hP q 3 hq rfl (inb_vp hi) hdg ?_
  rw [eb]
  exact kk
theorem ae_11 {cy : Cy} {T : Ty} {M : Mm} {R : Rm} {a j b : Nat} (ha : isK T a 11 = true) (y : Nat) : va_up (ce cy T M R) a (.inl (cy.2.2.2.1, T.2.2 a, .inr (.inr (.inr (.inr (va_up (R a) j (some b))))))) y = ce cy T M (up2 R a j (some b)) y := by
  have hk := isK_knd ha
  unfold va_up
  by_cases h : y = a
  · subst h
    rw [if_pos rfl, ce_11 hk]
    have e : (fun z => if z = j then some b else R y z) = (up2 R y j (some b)) y := by
      funext z
      simp [up2]
    rw [e]
  · rw [if_neg h]
    exact ce_congr (by first | rfl | exact up2_ne h) (by first | rfl | exact up2_ne h) (by first | rfl | exact up2_ne h)
theorem aw_11 {p : Program} {l : Launch} {e : Env} {Rr : Room} {s : State} {m : MethodId} {args : Array Value} {below : List Frame} {meth : Method} {c : Code} {H : Heap} {locs : List Loc} {cells slots : Nat} {Q : State → Prop} {cc : ByteArray} {pc : Nat} {ls : Array Slot} {rest : List Value} {D : va_G} {cy : Cy} {T : Ty} {M : Mm} {R : Rm} {A : Nat → Prop} {own : String} {n : Nat} {ret : Option FieldType} {a b : Nat} {i : Int32} (C : Cx own cc n ret p s m args meth c D cy A) (hP : va_P D vwCl (WL cy T M R) H) (hD : va_D A (WL cy T M R)) (hS : va_S A s.heap H locs) (ha : isK T a 11 = true) (hi : inb i (lnT T a) = true) (hb9 : isK T b 0 = true) (hdg : decode cc pc = .ok (.aastore, 1)) (kk : ∀ (R1 : Rm) (H1 : Heap) (locs1 : List Loc), R1 = up2 R a i.toNatClampNeg (some b) → va_P D vwCl (WL cy T M R1) H1 → va_D A (WL cy T M R1) → va_S A s.heap H1 locs1 → W p l e Rr s m args below meth c H1 locs1 cells slots Q (F0 m (pc + 1) ls rest)) : W p l e Rr s m args below meth c H locs cells slots Q (F0 m pc ls (.ref b :: .int i :: .ref a :: rest)) := by
  obtain ⟨hx, hb, -, hml, hown, hts, hK, hA, -, hSt⟩ := C
  obtain ⟨q, hq⟩ := wl_get (cy := cy) (M := M) (R := R) ha
  have hq0 := hq
  rw [ce_11 (isK_knd ha)] at hq
  obtain ⟨q2, hq2⟩ := wl_get (cy := cy) (M := M) (R := R) hb9
  rw [ce_0 (isK_knd hb9)] at hq2
  refine va_astq hx hb hK hP hD hS q 3 q2 0 hq (r := (RX0, TX0, 7)) rfl hq2 rfl (inb_vp hi) hdg (fun H1 locs1 hP1 hD1 hS1 => ?_)
  have e9 := wl_set (cy := cy) (M := M) (R := R) (M1 := M) (R1 := up2 R a i.toNatClampNeg (some b)) hD ha hq0 (ae_11 ha)
  rw [e9] at hP1 hD1
  exact kk _ H1 locs1 rfl hP1 hD1 hS1
theorem ar_12 {p : Program} {l : Launch} {e : Env} {Rr : Room} {s : State} {m : MethodId} {args : Array Value} {below : List Frame} {meth : Method} {c : Code} {H : Heap} {locs : List Loc} {cells slots : Nat} {Q : State → Prop} {cc : ByteArray} {pc : Nat} {ls : Array Slot} {rest : List Value} {D : va_G} {cy : Cy} {T : Ty} {M : Mm} {R : Rm} {A : Nat → Prop} {own : String} {n : Nat} {ret : Option FieldType} {a b : Nat} {i : Int32} (C : Cx own cc n ret p s m args meth c D cy A) (hP : va_P D vwCl (WL cy T M R) H) (ha : isK T a 12 = true) (hi : inb i (lnT T a) = true) (eb : R a i.toNatClampNeg = some b) (hdg : decode cc pc = .ok (.aaload, 1)) (kk : W p l e Rr s m args below meth c H locs cells slots Q (F0 m (pc + 1) ls (.ref b :: rest))) : W p l e Rr s m args below meth c H locs cells slots Q (F0 m pc ls (.int i :: .ref a :: rest)) := by
  obtain ⟨hx, hb, -, hml, hown, hts, hK, hA, -, hSt⟩ := C
  obtain ⟨q, hq⟩ := wl_get (cy := cy) (M := M) (R := R) ha
  rw [ce_12 (isK_knd ha)] at hq
  refine va_aldq hx hb hK hP q 4 hq rfl (inb_vp hi) hdg ?_
  rw [eb]
  exact kk
theorem ae_12 {cy : Cy} {T : Ty} {M : Mm} {R : Rm} {a j b : Nat} (ha : isK T a 12 = true) (y : Nat) : va_up (ce cy T M R) a (.inl (cy.2.2.2.2.1, T.2.2 a, .inr (.inr (.inr (.inr (va_up (R a) j (some b))))))) y = ce cy T M (up2 R a j (some b)) y := by
  have hk := isK_knd ha
  unfold va_up
  by_cases h : y = a
  · subst h
    rw [if_pos rfl, ce_12 hk]
    have e : (fun z => if z = j then some b else R y z) = (up2 R y j (some b)) y := by
      funext z
      simp [up2]
    rw [e]
  · rw [if_neg h]
    exact ce_congr (by first | rfl | exact up2_ne h) (by first | rfl | exact up2_ne h) (by first | rfl | exact up2_ne h)
theorem aw_12 {p : Program} {l : Launch} {e : Env} {Rr : Room} {s : State} {m : MethodId} {args : Array Value} {below : List Frame} {meth : Method} {c : Code} {H : Heap} {locs : List Loc} {cells slots : Nat} {Q : State → Prop} {cc : ByteArray} {pc : Nat} {ls : Array Slot} {rest : List Value} {D : va_G} {cy : Cy} {T : Ty} {M : Mm} {R : Rm} {A : Nat → Prop} {own : String} {n : Nat} {ret : Option FieldType} {a b : Nat} {i : Int32} (C : Cx own cc n ret p s m args meth c D cy A) (hP : va_P D vwCl (WL cy T M R) H) (hD : va_D A (WL cy T M R)) (hS : va_S A s.heap H locs) (ha : isK T a 12 = true) (hi : inb i (lnT T a) = true) (hb9 : isK T b 3 = true) (hdg : decode cc pc = .ok (.aastore, 1)) (kk : ∀ (R1 : Rm) (H1 : Heap) (locs1 : List Loc), R1 = up2 R a i.toNatClampNeg (some b) → va_P D vwCl (WL cy T M R1) H1 → va_D A (WL cy T M R1) → va_S A s.heap H1 locs1 → W p l e Rr s m args below meth c H1 locs1 cells slots Q (F0 m (pc + 1) ls rest)) : W p l e Rr s m args below meth c H locs cells slots Q (F0 m pc ls (.ref b :: .int i :: .ref a :: rest)) := by
  obtain ⟨hx, hb, -, hml, hown, hts, hK, hA, -, hSt⟩ := C
  obtain ⟨q, hq⟩ := wl_get (cy := cy) (M := M) (R := R) ha
  have hq0 := hq
  rw [ce_12 (isK_knd ha)] at hq
  obtain ⟨q2, hq2⟩ := wl_get (cy := cy) (M := M) (R := R) hb9
  rw [ce_3 (isK_knd hb9)] at hq2
  refine va_astq hx hb hK hP hD hS q 4 q2 3 hq (r := (RX3, TX3, 6)) rfl hq2 rfl (inb_vp hi) hdg (fun H1 locs1 hP1 hD1 hS1 => ?_)
  have e9 := wl_set (cy := cy) (M := M) (R := R) (M1 := M) (R1 := up2 R a i.toNatClampNeg (some b)) hD ha hq0 (ae_12 ha)
  rw [e9] at hP1 hD1
  exact kk _ H1 locs1 rfl hP1 hD1 hS1
theorem ar_13 {p : Program} {l : Launch} {e : Env} {Rr : Room} {s : State} {m : MethodId} {args : Array Value} {below : List Frame} {meth : Method} {c : Code} {H : Heap} {locs : List Loc} {cells slots : Nat} {Q : State → Prop} {cc : ByteArray} {pc : Nat} {ls : Array Slot} {rest : List Value} {D : va_G} {cy : Cy} {T : Ty} {M : Mm} {R : Rm} {A : Nat → Prop} {own : String} {n : Nat} {ret : Option FieldType} {a b : Nat} {i : Int32} (C : Cx own cc n ret p s m args meth c D cy A) (hP : va_P D vwCl (WL cy T M R) H) (ha : isK T a 13 = true) (hi : inb i (lnT T a) = true) (eb : R a i.toNatClampNeg = some b) (hdg : decode cc pc = .ok (.aaload, 1)) (kk : W p l e Rr s m args below meth c H locs cells slots Q (F0 m (pc + 1) ls (.ref b :: rest))) : W p l e Rr s m args below meth c H locs cells slots Q (F0 m pc ls (.int i :: .ref a :: rest)) := by
  obtain ⟨hx, hb, -, hml, hown, hts, hK, hA, -, hSt⟩ := C
  obtain ⟨q, hq⟩ := wl_get (cy := cy) (M := M) (R := R) ha
  rw [ce_13 (isK_knd ha)] at hq
  refine va_aldq hx hb hK hP q 5 hq rfl (inb_vp hi) hdg ?_
  rw [eb]
  exact kk
theorem ae_13 {cy : Cy} {T : Ty} {M : Mm} {R : Rm} {a j b : Nat} (ha : isK T a 13 = true) (y : Nat) : va_up (ce cy T M R) a (.inl (cy.2.2.2.2.2, T.2.2 a, .inr (.inr (.inr (.inr (va_up (R a) j (some b))))))) y = ce cy T M (up2 R a j (some b)) y := by
  have hk := isK_knd ha
  unfold va_up
  by_cases h : y = a
  · subst h
    rw [if_pos rfl, ce_13 hk]
    have e : (fun z => if z = j then some b else R y z) = (up2 R y j (some b)) y := by
      funext z
      simp [up2]
    rw [e]
  · rw [if_neg h]
    exact ce_congr (by first | rfl | exact up2_ne h) (by first | rfl | exact up2_ne h) (by first | rfl | exact up2_ne h)
theorem aw_13 {p : Program} {l : Launch} {e : Env} {Rr : Room} {s : State} {m : MethodId} {args : Array Value} {below : List Frame} {meth : Method} {c : Code} {H : Heap} {locs : List Loc} {cells slots : Nat} {Q : State → Prop} {cc : ByteArray} {pc : Nat} {ls : Array Slot} {rest : List Value} {D : va_G} {cy : Cy} {T : Ty} {M : Mm} {R : Rm} {A : Nat → Prop} {own : String} {n : Nat} {ret : Option FieldType} {a b : Nat} {i : Int32} (C : Cx own cc n ret p s m args meth c D cy A) (hP : va_P D vwCl (WL cy T M R) H) (hD : va_D A (WL cy T M R)) (hS : va_S A s.heap H locs) (ha : isK T a 13 = true) (hi : inb i (lnT T a) = true) (hb9 : isK T b 5 = true) (hdg : decode cc pc = .ok (.aastore, 1)) (kk : ∀ (R1 : Rm) (H1 : Heap) (locs1 : List Loc), R1 = up2 R a i.toNatClampNeg (some b) → va_P D vwCl (WL cy T M R1) H1 → va_D A (WL cy T M R1) → va_S A s.heap H1 locs1 → W p l e Rr s m args below meth c H1 locs1 cells slots Q (F0 m (pc + 1) ls rest)) : W p l e Rr s m args below meth c H locs cells slots Q (F0 m pc ls (.ref b :: .int i :: .ref a :: rest)) := by
  obtain ⟨hx, hb, -, hml, hown, hts, hK, hA, -, hSt⟩ := C
  obtain ⟨q, hq⟩ := wl_get (cy := cy) (M := M) (R := R) ha
  have hq0 := hq
  rw [ce_13 (isK_knd ha)] at hq
  obtain ⟨q2, hq2⟩ := wl_get (cy := cy) (M := M) (R := R) hb9
  rw [ce_5 (isK_knd hb9)] at hq2
  refine va_astq hx hb hK hP hD hS q 5 q2 5 hq (r := (RX5, TX5, 11)) rfl hq2 rfl (inb_vp hi) hdg (fun H1 locs1 hP1 hD1 hS1 => ?_)
  have e9 := wl_set (cy := cy) (M := M) (R := R) (M1 := M) (R1 := up2 R a i.toNatClampNeg (some b)) hD ha hq0 (ae_13 ha)
  rw [e9] at hP1 hD1
  exact kk _ H1 locs1 rfl hP1 hD1 hS1
theorem al_8 {p : Program} {l : Launch} {e : Env} {Rr : Room} {s : State} {m : MethodId} {args : Array Value} {below : List Frame} {meth : Method} {c : Code} {H : Heap} {locs : List Loc} {cells slots : Nat} {Q : State → Prop} {cc : ByteArray} {pc : Nat} {ls : Array Slot} {rest : List Value} {D : va_G} {cy : Cy} {T : Ty} {M : Mm} {R : Rm} {A : Nat → Prop} {own : String} {n : Nat} {ret : Option FieldType} {a : Nat} (C : Cx own cc n ret p s m args meth c D cy A) (hP : va_P D vwCl (WL cy T M R) H) (ha : isK T a 8 = true) (hdg : decode cc pc = .ok (.arraylength, 1)) (kk : W p l e Rr s m args below meth c H locs cells slots Q (F0 m (pc + 1) ls (.int (Int32.ofNat (lnT T a)) :: rest))) : W p l e Rr s m args below meth c H locs cells slots Q (F0 m pc ls (.ref a :: rest)) := by
  obtain ⟨hx, hb, -, hml, hown, hts, hK, hA, -, hSt⟩ := C
  obtain ⟨q, hq⟩ := wl_get (cy := cy) (M := M) (R := R) ha
  rw [ce_8 (isK_knd ha)] at hq
  exact va_alen hx hb hK hP q 0 hq rfl rfl hdg kk
theorem al_9 {p : Program} {l : Launch} {e : Env} {Rr : Room} {s : State} {m : MethodId} {args : Array Value} {below : List Frame} {meth : Method} {c : Code} {H : Heap} {locs : List Loc} {cells slots : Nat} {Q : State → Prop} {cc : ByteArray} {pc : Nat} {ls : Array Slot} {rest : List Value} {D : va_G} {cy : Cy} {T : Ty} {M : Mm} {R : Rm} {A : Nat → Prop} {own : String} {n : Nat} {ret : Option FieldType} {a : Nat} (C : Cx own cc n ret p s m args meth c D cy A) (hP : va_P D vwCl (WL cy T M R) H) (ha : isK T a 9 = true) (hdg : decode cc pc = .ok (.arraylength, 1)) (kk : W p l e Rr s m args below meth c H locs cells slots Q (F0 m (pc + 1) ls (.int (Int32.ofNat (lnT T a)) :: rest))) : W p l e Rr s m args below meth c H locs cells slots Q (F0 m pc ls (.ref a :: rest)) := by
  obtain ⟨hx, hb, -, hml, hown, hts, hK, hA, -, hSt⟩ := C
  obtain ⟨q, hq⟩ := wl_get (cy := cy) (M := M) (R := R) ha
  rw [ce_9 (isK_knd ha)] at hq
  exact va_alen hx hb hK hP q 1 hq rfl rfl hdg kk
theorem al_10 {p : Program} {l : Launch} {e : Env} {Rr : Room} {s : State} {m : MethodId} {args : Array Value} {below : List Frame} {meth : Method} {c : Code} {H : Heap} {locs : List Loc} {cells slots : Nat} {Q : State → Prop} {cc : ByteArray} {pc : Nat} {ls : Array Slot} {rest : List Value} {D : va_G} {cy : Cy} {T : Ty} {M : Mm} {R : Rm} {A : Nat → Prop} {own : String} {n : Nat} {ret : Option FieldType} {a : Nat} (C : Cx own cc n ret p s m args meth c D cy A) (hP : va_P D vwCl (WL cy T M R) H) (ha : isK T a 10 = true) (hdg : decode cc pc = .ok (.arraylength, 1)) (kk : W p l e Rr s m args below meth c H locs cells slots Q (F0 m (pc + 1) ls (.int (Int32.ofNat (lnT T a)) :: rest))) : W p l e Rr s m args below meth c H locs cells slots Q (F0 m pc ls (.ref a :: rest)) := by
  obtain ⟨hx, hb, -, hml, hown, hts, hK, hA, -, hSt⟩ := C
  obtain ⟨q, hq⟩ := wl_get (cy := cy) (M := M) (R := R) ha
  rw [ce_10 (isK_knd ha)] at hq
  exact va_alen hx hb hK hP q 2 hq rfl rfl hdg kk
theorem al_11 {p : Program} {l : Launch} {e : Env} {Rr : Room} {s : State} {m : MethodId} {args : Array Value} {below : List Frame} {meth : Method} {c : Code} {H : Heap} {locs : List Loc} {cells slots : Nat} {Q : State → Prop} {cc : ByteArray} {pc : Nat} {ls : Array Slot} {rest : List Value} {D : va_G} {cy : Cy} {T : Ty} {M : Mm} {R : Rm} {A : Nat → Prop} {own : String} {n : Nat} {ret : Option FieldType} {a : Nat} (C : Cx own cc n ret p s m args meth c D cy A) (hP : va_P D vwCl (WL cy T M R) H) (ha : isK T a 11 = true) (hdg : decode cc pc = .ok (.arraylength, 1)) (kk : W p l e Rr s m args below meth c H locs cells slots Q (F0 m (pc + 1) ls (.int (Int32.ofNat (lnT T a)) :: rest))) : W p l e Rr s m args below meth c H locs cells slots Q (F0 m pc ls (.ref a :: rest)) := by
  obtain ⟨hx, hb, -, hml, hown, hts, hK, hA, -, hSt⟩ := C
  obtain ⟨q, hq⟩ := wl_get (cy := cy) (M := M) (R := R) ha
  rw [ce_11 (isK_knd ha)] at hq
  exact va_alen hx hb hK hP q 3 hq rfl rfl hdg kk
theorem al_12 {p : Program} {l : Launch} {e : Env} {Rr : Room} {s : State} {m : MethodId} {args : Array Value} {below : List Frame} {meth : Method} {c : Code} {H : Heap} {locs : List Loc} {cells slots : Nat} {Q : State → Prop} {cc : ByteArray} {pc : Nat} {ls : Array Slot} {rest : List Value} {D : va_G} {cy : Cy} {T : Ty} {M : Mm} {R : Rm} {A : Nat → Prop} {own : String} {n : Nat} {ret : Option FieldType} {a : Nat} (C : Cx own cc n ret p s m args meth c D cy A) (hP : va_P D vwCl (WL cy T M R) H) (ha : isK T a 12 = true) (hdg : decode cc pc = .ok (.arraylength, 1)) (kk : W p l e Rr s m args below meth c H locs cells slots Q (F0 m (pc + 1) ls (.int (Int32.ofNat (lnT T a)) :: rest))) : W p l e Rr s m args below meth c H locs cells slots Q (F0 m pc ls (.ref a :: rest)) := by
  obtain ⟨hx, hb, -, hml, hown, hts, hK, hA, -, hSt⟩ := C
  obtain ⟨q, hq⟩ := wl_get (cy := cy) (M := M) (R := R) ha
  rw [ce_12 (isK_knd ha)] at hq
  exact va_alen hx hb hK hP q 4 hq rfl rfl hdg kk
theorem al_13 {p : Program} {l : Launch} {e : Env} {Rr : Room} {s : State} {m : MethodId} {args : Array Value} {below : List Frame} {meth : Method} {c : Code} {H : Heap} {locs : List Loc} {cells slots : Nat} {Q : State → Prop} {cc : ByteArray} {pc : Nat} {ls : Array Slot} {rest : List Value} {D : va_G} {cy : Cy} {T : Ty} {M : Mm} {R : Rm} {A : Nat → Prop} {own : String} {n : Nat} {ret : Option FieldType} {a : Nat} (C : Cx own cc n ret p s m args meth c D cy A) (hP : va_P D vwCl (WL cy T M R) H) (ha : isK T a 13 = true) (hdg : decode cc pc = .ok (.arraylength, 1)) (kk : W p l e Rr s m args below meth c H locs cells slots Q (F0 m (pc + 1) ls (.int (Int32.ofNat (lnT T a)) :: rest))) : W p l e Rr s m args below meth c H locs cells slots Q (F0 m pc ls (.ref a :: rest)) := by
  obtain ⟨hx, hb, -, hml, hown, hts, hK, hA, -, hSt⟩ := C
  obtain ⟨q, hq⟩ := wl_get (cy := cy) (M := M) (R := R) ha
  rw [ce_13 (isK_knd ha)] at hq
  exact va_alen hx hb hK hP q 5 hq rfl rfl hdg kk
theorem gs_0 {p : Program} {l : Launch} {e : Env} {Rr : Room} {s : State} {m : MethodId} {args : Array Value} {below : List Frame} {meth : Method} {c : Code} {H : Heap} {locs : List Loc} {cells slots : Nat} {Q : State → Prop} {cc : ByteArray} {pc : Nat} {ls : Array Slot} {rest : List Value} {D : va_G} {cy : Cy} {T : Ty} {M : Mm} {R : Rm} {A : Nat → Prop} {own : String} {n : Nat} {ret : Option FieldType} {index : Nat} (C : Cx own cc n ret p s m args meth c D cy A) (hS : va_S A s.heap H locs) (hl : Cond.fieldLink own index "IceTongue" "LEAST_SETTING" "[I" ∈ GW) (hdg : decode cc pc = .ok (.getstatic index, 3)) (kk : ∀ t : Nat, va_T .int t 7 (fun j => .int (fLeast j)) A s s.heap → W p l e Rr s m args below meth c H locs cells slots Q (F0 m (pc + 3) ls (.ref t :: rest))) : W p l e Rr s m args below meth c H locs cells slots Q (F0 m pc ls rest) := by
  obtain ⟨hx, hb, -, hml, hown, hts, hK, hA, -, hSt⟩ := C
  obtain ⟨t, hZ, hT⟩ := hSt.1
  exact va_gets hx hb hZ hS hown (hts _ hl) (fun _ h9 => h9) hdg (kk t hT)
theorem gs_1 {p : Program} {l : Launch} {e : Env} {Rr : Room} {s : State} {m : MethodId} {args : Array Value} {below : List Frame} {meth : Method} {c : Code} {H : Heap} {locs : List Loc} {cells slots : Nat} {Q : State → Prop} {cc : ByteArray} {pc : Nat} {ls : Array Slot} {rest : List Value} {D : va_G} {cy : Cy} {T : Ty} {M : Mm} {R : Rm} {A : Nat → Prop} {own : String} {n : Nat} {ret : Option FieldType} {index : Nat} (C : Cx own cc n ret p s m args meth c D cy A) (hS : va_S A s.heap H locs) (hl : Cond.fieldLink own index "IceTongue" "MOST_SETTING" "[I" ∈ GW) (hdg : decode cc pc = .ok (.getstatic index, 3)) (kk : ∀ t : Nat, va_T .int t 7 (fun j => .int (fMost j)) A s s.heap → W p l e Rr s m args below meth c H locs cells slots Q (F0 m (pc + 3) ls (.ref t :: rest))) : W p l e Rr s m args below meth c H locs cells slots Q (F0 m pc ls rest) := by
  obtain ⟨hx, hb, -, hml, hown, hts, hK, hA, -, hSt⟩ := C
  obtain ⟨t, hZ, hT⟩ := hSt.2.1
  exact va_gets hx hb hZ hS hown (hts _ hl) (fun _ h9 => h9) hdg (kk t hT)
theorem gs_2 {p : Program} {l : Launch} {e : Env} {Rr : Room} {s : State} {m : MethodId} {args : Array Value} {below : List Frame} {meth : Method} {c : Code} {H : Heap} {locs : List Loc} {cells slots : Nat} {Q : State → Prop} {cc : ByteArray} {pc : Nat} {ls : Array Slot} {rest : List Value} {D : va_G} {cy : Cy} {T : Ty} {M : Mm} {R : Rm} {A : Nat → Prop} {own : String} {n : Nat} {ret : Option FieldType} {index : Nat} (C : Cx own cc n ret p s m args meth c D cy A) (hS : va_S A s.heap H locs) (hl : Cond.fieldLink own index "IceTongue" "FIRST_SETTING" "[I" ∈ GW) (hdg : decode cc pc = .ok (.getstatic index, 3)) (kk : ∀ t : Nat, va_T .int t 7 (fun j => .int (fFirst j)) A s s.heap → W p l e Rr s m args below meth c H locs cells slots Q (F0 m (pc + 3) ls (.ref t :: rest))) : W p l e Rr s m args below meth c H locs cells slots Q (F0 m pc ls rest) := by
  obtain ⟨hx, hb, -, hml, hown, hts, hK, hA, -, hSt⟩ := C
  obtain ⟨t, hZ, hT⟩ := hSt.2.2
  exact va_gets hx hb hZ hS hown (hts _ hl) (fun _ h9 => h9) hdg (kk t hT)
theorem ts_i {p : Program} {l : Launch} {e : Env} {Rr : Room} {s : State} {m : MethodId} {args : Array Value} {below : List Frame} {meth : Method} {c : Code} {H : Heap} {locs : List Loc} {cells slots : Nat} {Q : State → Prop} {cc : ByteArray} {pc : Nat} {ls : Array Slot} {rest : List Value} {D : va_G} {cy : Cy} {T : Ty} {M : Mm} {R : Rm} {A : Nat → Prop} {own : String} {n : Nat} {ret : Option FieldType} {t : Nat} {f : Nat → Int32} {i : Int32} (C : Cx own cc n ret p s m args meth c D cy A) (hT : va_T .int t 7 (fun j => .int (f j)) A s s.heap) (hS : va_S A s.heap H locs) (hi : inb i 7 = true) (hdg : decode cc pc = .ok (.iaload, 1)) (kk : W p l e Rr s m args below meth c H locs cells slots Q (F0 m (pc + 1) ls (.int (f i.toNatClampNeg) :: rest))) : W p l e Rr s m args below meth c H locs cells slots Q (F0 m pc ls (.int i :: .ref t :: rest)) := by
  obtain ⟨hx, hb, -, hml, hown, hts, hK, hA, -, hSt⟩ := C
  exact va_ti hx hb hT hS (inb_vp hi) rfl hdg kk
theorem rt_i {p : Program} {l : Launch} {e : Env} {Rr : Room} {s : State} {m : MethodId} {args : Array Value} {below : List Frame} {meth : Method} {c : Code} {H : Heap} {locs : List Loc} {cc : ByteArray} {pc : Nat} {ls : Array Slot} {D : va_G} {cy : Cy} {T : Ty} {M : Mm} {R : Rm} {A : Nat → Prop} {own : String} {n : Nat} {r : Int32} (C : Cx own cc n (some .int) p s m args meth c D cy A) (hP : va_P D vwCl (WL cy T M R) H) (hD : va_D A (WL cy T M R)) (hS : va_S A s.heap H locs) (hdg : decode cc pc = .ok (.ireturn, 1)) : W p l e Rr s m args below meth c H locs 0 0 (MQ below (QcI D cy T M R A r) args s 0 0 A) (F0 m pc ls [.int r]) := by
  obtain ⟨hx, hb, hr, hml, hown, hts, hK, hA, hlk, hSt⟩ := C
  exact W.iret (v := r) hx hb hr (fun t ht hW => ⟨⟨r, (), rfl, rfl, by rw [ht]; exact hP, hD⟩, hS.F ht⟩) hS.2.2 hdg hlk
theorem rt_z {p : Program} {l : Launch} {e : Env} {Rr : Room} {s : State} {m : MethodId} {args : Array Value} {below : List Frame} {meth : Method} {c : Code} {H : Heap} {locs : List Loc} {cc : ByteArray} {pc : Nat} {ls : Array Slot} {D : va_G} {cy : Cy} {T : Ty} {M : Mm} {R : Rm} {A : Nat → Prop} {own : String} {n : Nat} {r : Int32} (C : Cx own cc n (some .boolean) p s m args meth c D cy A) (hP : va_P D vwCl (WL cy T M R) H) (hD : va_D A (WL cy T M R)) (hS : va_S A s.heap H locs) (hz : isZ r = true) (hdg : decode cc pc = .ok (.ireturn, 1)) : W p l e Rr s m args below meth c H locs 0 0 (MQ below (QcI D cy T M R A r) args s 0 0 A) (F0 m pc ls [.int r]) := by
  obtain ⟨hx, hb, hr, hml, hown, hts, hK, hA, hlk, hSt⟩ := C
  exact W.zret (v := r) hx hb hr (isZ_nar hz) (fun t ht hW => ⟨⟨r, (), rfl, rfl, by rw [ht]; exact hP, hD⟩, hS.F ht⟩) hS.2.2 hdg hlk
theorem rt_l {p : Program} {l : Launch} {e : Env} {Rr : Room} {s : State} {m : MethodId} {args : Array Value} {below : List Frame} {meth : Method} {c : Code} {H : Heap} {locs : List Loc} {cc : ByteArray} {pc : Nat} {ls : Array Slot} {D : va_G} {cy : Cy} {T : Ty} {M : Mm} {R : Rm} {A : Nat → Prop} {own : String} {n : Nat} {r : Int64} (C : Cx own cc n (some .long) p s m args meth c D cy A) (hP : va_P D vwCl (WL cy T M R) H) (hD : va_D A (WL cy T M R)) (hS : va_S A s.heap H locs) (hdg : decode cc pc = .ok (.lreturn, 1)) : W p l e Rr s m args below meth c H locs 0 0 (MQ below (QcL D cy T M R A r) args s 0 0 A) (F0 m pc ls [.long r]) := by
  obtain ⟨hx, hb, hr, hml, hown, hts, hK, hA, hlk, hSt⟩ := C
  exact W.lret (v := r) hx hb hr (fun t ht hW => ⟨⟨r, (), rfl, rfl, by rw [ht]; exact hP, hD⟩, hS.F ht⟩) hS.2.2 hdg hlk
theorem rt_v {p : Program} {l : Launch} {e : Env} {Rr : Room} {s : State} {m : MethodId} {args : Array Value} {below : List Frame} {meth : Method} {c : Code} {H : Heap} {locs : List Loc} {cc : ByteArray} {pc : Nat} {ls : Array Slot} {D : va_G} {cy : Cy} {T : Ty} {M : Mm} {R : Rm} {A : Nat → Prop} {own : String} {n : Nat} {r : Unit} (C : Cx own cc n (none) p s m args meth c D cy A) (hP : va_P D vwCl (WL cy T M R) H) (hD : va_D A (WL cy T M R)) (hS : va_S A s.heap H locs) (hdg : decode cc pc = .ok (.return_, 1)) : W p l e Rr s m args below meth c H locs 0 0 (MQ below (QcV D cy T M R A r) args s 0 0 A) (F0 m pc ls []) := by
  obtain ⟨hx, hb, hr, hml, hown, hts, hK, hA, hlk, hSt⟩ := C
  exact W.vret hx hb hr (fun t ht hW => ⟨⟨(), rfl, trivial, by rw [ht]; exact hP, hD⟩, hS.F ht⟩) hS.2.2 hdg hlk
theorem cl_Vi {p : Program} {l : Launch} {e : Env} {Rr : Room} {s : State} {m : MethodId} {args : Array Value} {below : List Frame} {meth : Method} {c : Code} {H : Heap} {locs : List Loc} {cells slots : Nat} {Q : State → Prop} {cc : ByteArray} {pc : Nat} {ls : Array Slot} {rest : List Value} {D : va_G} {cy : Cy} {T : Ty} {M : Mm} {R : Rm} {A : Nat → Prop} {own : String} {n : Nat} {ret : Option FieldType} {M1 : Mm} {R1 : Rm} {index nn maxL : Nat} {y : MethodName} {bytes : ByteArray} {rty : Option FieldType} {rm : Room} {As st : List Value} {r : Int32} {Cn : String} {Tt : u_T} {N ci b : Nat} (C : Cx own cc n ret p s m args meth c D cy A) (hM : Ct QcI l y bytes maxL rty rm D cy T M R (.ref b :: As) M1 R1 r) (hk : isK T b ci = true) (hc8 : ci < 8) (hci : vwCl[ci]? = some (Cn, Tt, N)) (w1 : Cond.methodLink own index y ∈ GW) (w2 : Cond.instanceMethod y ∈ GW) (w3 : Cond.selects Cn y y ∈ GW) (w4 : Cond.initialized Cn ∈ GW) (w5 : Cond.code y bytes maxL rty ∈ GW) (hd : y.cls = Cn ∧ y.cls ≠ "java/lang/invoke/MethodHandle" ∧ y.cls ≠ "java/lang/invoke/VarHandle" ∧ (parseMethodDescriptor y.desc).map (fun d => d.parameters.length) = some nn) (hR : rm.frames + 1 ≤ Rr.frames ∧ 8 + (maxL + 11) + rm.locals ≤ Rr.locals) (hz0 : rm.cells = 0 ∧ rm.slots = 0) (hc0 : cells ≤ Rr.cells ∧ slots ≤ Rr.slots) (hst : st = As.reverse ++ .ref b :: rest) (hcat : (rest.map fun v => v.category).sum ≤ 8) (hlen : As.length = nn) (hsz : ls.size = n) (hP : va_P D vwCl (WL cy T M R) H) (hD : va_D A (WL cy T M R)) (hS : va_S A s.heap H locs) (hdg : decode cc pc = .ok (.invokevirtual index, 3)) (kk : ∀ (H1 : Heap) (locs1 : List Loc), va_P D vwCl (WL cy T M1 R1) H1 → va_D A (WL cy T M1 R1) → va_S A s.heap H1 locs1 → W p l e Rr s m args below meth c H1 locs1 cells slots Q (F0 m (pc + 3) ls (.int r :: rest))) : W p l e Rr s m args below meth c H locs cells slots Q (F0 m pc ls st) := by
  have C0 := C
  obtain ⟨hx, hb, -, hml, hown, hts, hK, hA, -, hSt⟩ := C
  obtain ⟨q, hq⟩ := wl_get (cy := cy) (M := M) (R := R) hk
  obtain ⟨fs, hce⟩ := ce_obj (cy := cy) (M := M) (R := R) hc8 (isK_knd hk)
  rw [hce] at hq
  refine va_calli (va_runV (As := As) (rest := rest) ⟨hx, hb, hml, hown, hts⟩ (hM H.size) (cwV nn hts (wl_goodV w1 w2 w3 w4 w5) rfl hz0.1 hz0.2 hd hR) ⟨PcM.blind, va_recv hK hP hci hq, PcM.of C0 hP hD hS (.ref b :: As)⟩ rfl hlen hsz hst (lv_room hcat) hdg hc0) hS (fun q _ h => fr_all hD hS hA q h) (fr_all hD hS hA) (fun r2 u t H1 locs1 ht hvm hw hB hz hk1 hS1 => ?_)
  subst hw
  obtain ⟨hP1, hD1⟩ := hB
  rw [ht] at hP1
  exact kk H1 locs1 hP1 (hD1.weaken fun _ _ _ h => fr_all hD hS hA _ h) hS1
theorem cl_Si {p : Program} {l : Launch} {e : Env} {Rr : Room} {s : State} {m : MethodId} {args : Array Value} {below : List Frame} {meth : Method} {c : Code} {H : Heap} {locs : List Loc} {cells slots : Nat} {Q : State → Prop} {cc : ByteArray} {pc : Nat} {ls : Array Slot} {rest : List Value} {D : va_G} {cy : Cy} {T : Ty} {M : Mm} {R : Rm} {A : Nat → Prop} {own : String} {n : Nat} {ret : Option FieldType} {M1 : Mm} {R1 : Rm} {index nn maxL : Nat} {y : MethodName} {bytes : ByteArray} {rty : Option FieldType} {rm : Room} {As st : List Value} {r : Int32} (C : Cx own cc n ret p s m args meth c D cy A) (hM : Ct QcI l y bytes maxL rty rm D cy T M R As M1 R1 r) (w1 : Cond.methodLink own index y ∈ GW) (w2 : Cond.static y ∈ GW) (w4 : Cond.initialized y.cls ∈ GW) (w5 : Cond.code y bytes maxL rty ∈ GW) (hd : y.cls ≠ "java/lang/invoke/MethodHandle" ∧ y.cls ≠ "java/lang/invoke/VarHandle" ∧ (parseMethodDescriptor y.desc).map (fun d => d.parameters.length) = some nn) (hR : rm.frames + 1 ≤ Rr.frames ∧ 8 + (maxL + 11) + rm.locals ≤ Rr.locals) (hz0 : rm.cells = 0 ∧ rm.slots = 0) (hc0 : cells ≤ Rr.cells ∧ slots ≤ Rr.slots) (hst : st = As.reverse ++ rest) (hcat : (rest.map fun v => v.category).sum ≤ 8) (hlen : As.length = nn) (hsz : ls.size = n) (hP : va_P D vwCl (WL cy T M R) H) (hD : va_D A (WL cy T M R)) (hS : va_S A s.heap H locs) (hdg : decode cc pc = .ok (.invokestatic index, 3)) (kk : ∀ (H1 : Heap) (locs1 : List Loc), va_P D vwCl (WL cy T M1 R1) H1 → va_D A (WL cy T M1 R1) → va_S A s.heap H1 locs1 → W p l e Rr s m args below meth c H1 locs1 cells slots Q (F0 m (pc + 3) ls (.int r :: rest))) : W p l e Rr s m args below meth c H locs cells slots Q (F0 m pc ls st) := by
  have C0 := C
  obtain ⟨hx, hb, -, hml, hown, hts, hK, hA, -, hSt⟩ := C
  refine va_calli (va_runS (As := As) (rest := rest) ⟨hx, hb, hml, hown, hts⟩ (hM H.size) ⟨callB_of nn hts (wl_goodIn w5) rfl hz0.1 hz0.2 (hts _ w4) (hts _ w1) hd hR, hts _ w2⟩ ⟨PcM.blind, PcM.of C0 hP hD hS As⟩ rfl hlen hsz hst (lv_room hcat) hdg hc0) hS (fun q _ h => fr_all hD hS hA q h) (fr_all hD hS hA) (fun r2 u t H1 locs1 ht hvm hw hB hz hk1 hS1 => ?_)
  subst hw
  obtain ⟨hP1, hD1⟩ := hB
  rw [ht] at hP1
  exact kk H1 locs1 hP1 (hD1.weaken fun _ _ _ h => fr_all hD hS hA _ h) hS1
theorem cl_Vl {p : Program} {l : Launch} {e : Env} {Rr : Room} {s : State} {m : MethodId} {args : Array Value} {below : List Frame} {meth : Method} {c : Code} {H : Heap} {locs : List Loc} {cells slots : Nat} {Q : State → Prop} {cc : ByteArray} {pc : Nat} {ls : Array Slot} {rest : List Value} {D : va_G} {cy : Cy} {T : Ty} {M : Mm} {R : Rm} {A : Nat → Prop} {own : String} {n : Nat} {ret : Option FieldType} {M1 : Mm} {R1 : Rm} {index nn maxL : Nat} {y : MethodName} {bytes : ByteArray} {rty : Option FieldType} {rm : Room} {As st : List Value} {r : Int64} {Cn : String} {Tt : u_T} {N ci b : Nat} (C : Cx own cc n ret p s m args meth c D cy A) (hM : Ct QcL l y bytes maxL rty rm D cy T M R (.ref b :: As) M1 R1 r) (hk : isK T b ci = true) (hc8 : ci < 8) (hci : vwCl[ci]? = some (Cn, Tt, N)) (w1 : Cond.methodLink own index y ∈ GW) (w2 : Cond.instanceMethod y ∈ GW) (w3 : Cond.selects Cn y y ∈ GW) (w4 : Cond.initialized Cn ∈ GW) (w5 : Cond.code y bytes maxL rty ∈ GW) (hd : y.cls = Cn ∧ y.cls ≠ "java/lang/invoke/MethodHandle" ∧ y.cls ≠ "java/lang/invoke/VarHandle" ∧ (parseMethodDescriptor y.desc).map (fun d => d.parameters.length) = some nn) (hR : rm.frames + 1 ≤ Rr.frames ∧ 8 + (maxL + 11) + rm.locals ≤ Rr.locals) (hz0 : rm.cells = 0 ∧ rm.slots = 0) (hc0 : cells ≤ Rr.cells ∧ slots ≤ Rr.slots) (hst : st = As.reverse ++ .ref b :: rest) (hcat : (rest.map fun v => v.category).sum ≤ 8) (hlen : As.length = nn) (hsz : ls.size = n) (hP : va_P D vwCl (WL cy T M R) H) (hD : va_D A (WL cy T M R)) (hS : va_S A s.heap H locs) (hdg : decode cc pc = .ok (.invokevirtual index, 3)) (kk : ∀ (H1 : Heap) (locs1 : List Loc), va_P D vwCl (WL cy T M1 R1) H1 → va_D A (WL cy T M1 R1) → va_S A s.heap H1 locs1 → W p l e Rr s m args below meth c H1 locs1 cells slots Q (F0 m (pc + 3) ls (.long r :: rest))) : W p l e Rr s m args below meth c H locs cells slots Q (F0 m pc ls st) := by
  have C0 := C
  obtain ⟨hx, hb, -, hml, hown, hts, hK, hA, -, hSt⟩ := C
  obtain ⟨q, hq⟩ := wl_get (cy := cy) (M := M) (R := R) hk
  obtain ⟨fs, hce⟩ := ce_obj (cy := cy) (M := M) (R := R) hc8 (isK_knd hk)
  rw [hce] at hq
  refine va_calll (va_runV (As := As) (rest := rest) ⟨hx, hb, hml, hown, hts⟩ (hM H.size) (cwV nn hts (wl_goodV w1 w2 w3 w4 w5) rfl hz0.1 hz0.2 hd hR) ⟨PcM.blind, va_recv hK hP hci hq, PcM.of C0 hP hD hS (.ref b :: As)⟩ rfl hlen hsz hst (lv_room hcat) hdg hc0) hS (fun q _ h => fr_all hD hS hA q h) (fr_all hD hS hA) (fun r2 u t H1 locs1 ht hvm hw hB hz hk1 hS1 => ?_)
  subst hw
  obtain ⟨hP1, hD1⟩ := hB
  rw [ht] at hP1
  exact kk H1 locs1 hP1 (hD1.weaken fun _ _ _ h => fr_all hD hS hA _ h) hS1
theorem cl_Sl {p : Program} {l : Launch} {e : Env} {Rr : Room} {s : State} {m : MethodId} {args : Array Value} {below : List Frame} {meth : Method} {c : Code} {H : Heap} {locs : List Loc} {cells slots : Nat} {Q : State → Prop} {cc : ByteArray} {pc : Nat} {ls : Array Slot} {rest : List Value} {D : va_G} {cy : Cy} {T : Ty} {M : Mm} {R : Rm} {A : Nat → Prop} {own : String} {n : Nat} {ret : Option FieldType} {M1 : Mm} {R1 : Rm} {index nn maxL : Nat} {y : MethodName} {bytes : ByteArray} {rty : Option FieldType} {rm : Room} {As st : List Value} {r : Int64} (C : Cx own cc n ret p s m args meth c D cy A) (hM : Ct QcL l y bytes maxL rty rm D cy T M R As M1 R1 r) (w1 : Cond.methodLink own index y ∈ GW) (w2 : Cond.static y ∈ GW) (w4 : Cond.initialized y.cls ∈ GW) (w5 : Cond.code y bytes maxL rty ∈ GW) (hd : y.cls ≠ "java/lang/invoke/MethodHandle" ∧ y.cls ≠ "java/lang/invoke/VarHandle" ∧ (parseMethodDescriptor y.desc).map (fun d => d.parameters.length) = some nn) (hR : rm.frames + 1 ≤ Rr.frames ∧ 8 + (maxL + 11) + rm.locals ≤ Rr.locals) (hz0 : rm.cells = 0 ∧ rm.slots = 0) (hc0 : cells ≤ Rr.cells ∧ slots ≤ Rr.slots) (hst : st = As.reverse ++ rest) (hcat : (rest.map fun v => v.category).sum ≤ 8) (hlen : As.length = nn) (hsz : ls.size = n) (hP : va_P D vwCl (WL cy T M R) H) (hD : va_D A (WL cy T M R)) (hS : va_S A s.heap H locs) (hdg : decode cc pc = .ok (.invokestatic index, 3)) (kk : ∀ (H1 : Heap) (locs1 : List Loc), va_P D vwCl (WL cy T M1 R1) H1 → va_D A (WL cy T M1 R1) → va_S A s.heap H1 locs1 → W p l e Rr s m args below meth c H1 locs1 cells slots Q (F0 m (pc + 3) ls (.long r :: rest))) : W p l e Rr s m args below meth c H locs cells slots Q (F0 m pc ls st) := by
  have C0 := C
  obtain ⟨hx, hb, -, hml, hown, hts, hK, hA, -, hSt⟩ := C
  refine va_calll (va_runS (As := As) (rest := rest) ⟨hx, hb, hml, hown, hts⟩ (hM H.size) ⟨callB_of nn hts (wl_goodIn w5) rfl hz0.1 hz0.2 (hts _ w4) (hts _ w1) hd hR, hts _ w2⟩ ⟨PcM.blind, PcM.of C0 hP hD hS As⟩ rfl hlen hsz hst (lv_room hcat) hdg hc0) hS (fun q _ h => fr_all hD hS hA q h) (fr_all hD hS hA) (fun r2 u t H1 locs1 ht hvm hw hB hz hk1 hS1 => ?_)
  subst hw
  obtain ⟨hP1, hD1⟩ := hB
  rw [ht] at hP1
  exact kk H1 locs1 hP1 (hD1.weaken fun _ _ _ h => fr_all hD hS hA _ h) hS1
theorem cl_Vv {p : Program} {l : Launch} {e : Env} {Rr : Room} {s : State} {m : MethodId} {args : Array Value} {below : List Frame} {meth : Method} {c : Code} {H : Heap} {locs : List Loc} {cells slots : Nat} {Q : State → Prop} {cc : ByteArray} {pc : Nat} {ls : Array Slot} {rest : List Value} {D : va_G} {cy : Cy} {T : Ty} {M : Mm} {R : Rm} {A : Nat → Prop} {own : String} {n : Nat} {ret : Option FieldType} {M1 : Mm} {R1 : Rm} {index nn maxL : Nat} {y : MethodName} {bytes : ByteArray} {rty : Option FieldType} {rm : Room} {As st : List Value} {r : Unit} {Cn : String} {Tt : u_T} {N ci b : Nat} (C : Cx own cc n ret p s m args meth c D cy A) (hM : Ct QcV l y bytes maxL rty rm D cy T M R (.ref b :: As) M1 R1 r) (hk : isK T b ci = true) (hc8 : ci < 8) (hci : vwCl[ci]? = some (Cn, Tt, N)) (w1 : Cond.methodLink own index y ∈ GW) (w2 : Cond.instanceMethod y ∈ GW) (w3 : Cond.selects Cn y y ∈ GW) (w4 : Cond.initialized Cn ∈ GW) (w5 : Cond.code y bytes maxL rty ∈ GW) (hd : y.cls = Cn ∧ y.cls ≠ "java/lang/invoke/MethodHandle" ∧ y.cls ≠ "java/lang/invoke/VarHandle" ∧ (parseMethodDescriptor y.desc).map (fun d => d.parameters.length) = some nn) (hR : rm.frames + 1 ≤ Rr.frames ∧ 8 + (maxL + 11) + rm.locals ≤ Rr.locals) (hz0 : rm.cells = 0 ∧ rm.slots = 0) (hc0 : cells ≤ Rr.cells ∧ slots ≤ Rr.slots) (hst : st = As.reverse ++ .ref b :: rest) (hcat : (rest.map fun v => v.category).sum ≤ 8) (hlen : As.length = nn) (hsz : ls.size = n) (hP : va_P D vwCl (WL cy T M R) H) (hD : va_D A (WL cy T M R)) (hS : va_S A s.heap H locs) (hdg : decode cc pc = .ok (.invokevirtual index, 3)) (kk : ∀ (H1 : Heap) (locs1 : List Loc), va_P D vwCl (WL cy T M1 R1) H1 → va_D A (WL cy T M1 R1) → va_S A s.heap H1 locs1 → W p l e Rr s m args below meth c H1 locs1 cells slots Q (F0 m (pc + 3) ls (rest))) : W p l e Rr s m args below meth c H locs cells slots Q (F0 m pc ls st) := by
  have C0 := C
  obtain ⟨hx, hb, -, hml, hown, hts, hK, hA, -, hSt⟩ := C
  obtain ⟨q, hq⟩ := wl_get (cy := cy) (M := M) (R := R) hk
  obtain ⟨fs, hce⟩ := ce_obj (cy := cy) (M := M) (R := R) hc8 (isK_knd hk)
  rw [hce] at hq
  refine va_callv (va_runV (As := As) (rest := rest) ⟨hx, hb, hml, hown, hts⟩ (hM H.size) (cwV nn hts (wl_goodV w1 w2 w3 w4 w5) rfl hz0.1 hz0.2 hd hR) ⟨PcM.blind, va_recv hK hP hci hq, PcM.of C0 hP hD hS (.ref b :: As)⟩ rfl hlen hsz hst (lv_room hcat) hdg hc0) hS (fun q _ h => fr_all hD hS hA q h) (fr_all hD hS hA) (fun u t H1 locs1 ht hvm hw hB hz hk1 hS1 => ?_)
  obtain ⟨hP1, hD1⟩ := hB
  rw [ht] at hP1
  exact kk H1 locs1 hP1 (hD1.weaken fun _ _ _ h => fr_all hD hS hA _ h) hS1
theorem cl_Sv {p : Program} {l : Launch} {e : Env} {Rr : Room} {s : State} {m : MethodId} {args : Array Value} {below : List Frame} {meth : Method} {c : Code} {H : Heap} {locs : List Loc} {cells slots : Nat} {Q : State → Prop} {cc : ByteArray} {pc : Nat} {ls : Array Slot} {rest : List Value} {D : va_G} {cy : Cy} {T : Ty} {M : Mm} {R : Rm} {A : Nat → Prop} {own : String} {n : Nat} {ret : Option FieldType} {M1 : Mm} {R1 : Rm} {index nn maxL : Nat} {y : MethodName} {bytes : ByteArray} {rty : Option FieldType} {rm : Room} {As st : List Value} {r : Unit} (C : Cx own cc n ret p s m args meth c D cy A) (hM : Ct QcV l y bytes maxL rty rm D cy T M R As M1 R1 r) (w1 : Cond.methodLink own index y ∈ GW) (w2 : Cond.static y ∈ GW) (w4 : Cond.initialized y.cls ∈ GW) (w5 : Cond.code y bytes maxL rty ∈ GW) (hd : y.cls ≠ "java/lang/invoke/MethodHandle" ∧ y.cls ≠ "java/lang/invoke/VarHandle" ∧ (parseMethodDescriptor y.desc).map (fun d => d.parameters.length) = some nn) (hR : rm.frames + 1 ≤ Rr.frames ∧ 8 + (maxL + 11) + rm.locals ≤ Rr.locals) (hz0 : rm.cells = 0 ∧ rm.slots = 0) (hc0 : cells ≤ Rr.cells ∧ slots ≤ Rr.slots) (hst : st = As.reverse ++ rest) (hcat : (rest.map fun v => v.category).sum ≤ 8) (hlen : As.length = nn) (hsz : ls.size = n) (hP : va_P D vwCl (WL cy T M R) H) (hD : va_D A (WL cy T M R)) (hS : va_S A s.heap H locs) (hdg : decode cc pc = .ok (.invokestatic index, 3)) (kk : ∀ (H1 : Heap) (locs1 : List Loc), va_P D vwCl (WL cy T M1 R1) H1 → va_D A (WL cy T M1 R1) → va_S A s.heap H1 locs1 → W p l e Rr s m args below meth c H1 locs1 cells slots Q (F0 m (pc + 3) ls (rest))) : W p l e Rr s m args below meth c H locs cells slots Q (F0 m pc ls st) := by
  have C0 := C
  obtain ⟨hx, hb, -, hml, hown, hts, hK, hA, -, hSt⟩ := C
  refine va_callv (va_runS (As := As) (rest := rest) ⟨hx, hb, hml, hown, hts⟩ (hM H.size) ⟨callB_of nn hts (wl_goodIn w5) rfl hz0.1 hz0.2 (hts _ w4) (hts _ w1) hd hR, hts _ w2⟩ ⟨PcM.blind, PcM.of C0 hP hD hS As⟩ rfl hlen hsz hst (lv_room hcat) hdg hc0) hS (fun q _ h => fr_all hD hS hA q h) (fr_all hD hS hA) (fun u t H1 locs1 ht hvm hw hB hz hk1 hS1 => ?_)
  obtain ⟨hP1, hD1⟩ := hB
  rw [ht] at hP1
  exact kk H1 locs1 hP1 (hD1.weaken fun _ _ _ h => fr_all hD hS hA _ h) hS1
def FU : Nat := 10000
def lp {α : Type} (f : α → α) (z : α) : Nat → α
  | 0 => z
  | n + 1 => f (lp f z n)
theorem i32ne {x c : Int32} {k : Int} (h : ¬ x = c) (hc : c.toInt = k) : x.toInt ≠ k := by
  intro e
  exact h (Int32.toInt_inj.mp (e.trans hc.symm))
def cpok (sp dp n : Int32) (n0 n1 : Nat) : Bool := decide (¬ sp < 0 ∧ ¬ dp < 0 ∧ ¬ n < 0 ∧ sp.toNatClampNeg + n.toNatClampNeg ≤ n0 ∧ dp.toNatClampNeg + n.toNatClampNeg ≤ n1)
def cpI (M : Mm) (a0 a sp dp n : Nat) : Mm := (fun b => if b = a then va_cpy (M.1 a0) (M.1 a) sp dp n else M.1 b, M.2)
theorem cpe_9 {cy : Cy} {T : Ty} {M : Mm} {R : Rm} {a0 a sp dp n : Nat} (ha : isK T a 9 = true) (y : Nat) : va_up (ce cy T M R) a (.inl (cy.2.1, T.2.2 a, .inl (va_cpy (M.1 a0) (M.1 a) sp dp n))) y = ce cy T (cpI M a0 a sp dp n) R y := by
  have hk := isK_knd ha
  unfold va_up
  by_cases h : y = a
  · subst h
    rw [if_pos rfl, ce_9 hk]
    have e : va_cpy (M.1 a0) (M.1 y) sp dp n = (cpI M a0 y sp dp n).1 y := by simp [cpI]
    rw [e]
  · rw [if_neg h]
    exact ce_congr (by simp [cpI, h]) rfl rfl
theorem cp_9 {p : Program} {l : Launch} {e : Env} {Rr : Room} {s : State} {m : MethodId} {args : Array Value} {below : List Frame} {meth : Method} {c : Code} {H : Heap} {locs : List Loc} {cells slots : Nat} {Q : State → Prop} {cc : ByteArray} {pc : Nat} {ls : Array Slot} {rest : List Value} {D : va_G} {cy : Cy} {T : Ty} {M : Mm} {R : Rm} {A : Nat → Prop} {own : String} {n : Nat} {ret : Option FieldType} {index a0 a : Nat} {sp dp k : Int32} (C : Cx own cc n ret p s m args meth c D cy A) (hsz : ls.size = n) (hfr : 1 ≤ Rr.frames) (hlo : (rest.map fun v => v.category).sum + (nativeFrameWords "java/lang/System" "arraycopy" 5 + 11) ≤ Rr.locals) (w1 : Cond.methodLink own index arraycopyName ∈ GW) (hP : va_P D vwCl (WL cy T M R) H) (hD : va_D A (WL cy T M R)) (hS : va_S A s.heap H locs) (ha0 : isK T a0 9 = true) (ha : isK T a 9 = true) (hc9 : cpok sp dp k (lnT T a0) (lnT T a) = true) (hdg : decode cc pc = .ok (.invokestatic index, 3)) (kk : ∀ (M1 : Mm) (H1 : Heap) (locs1 : List Loc), M1 = cpI M a0 a sp.toNatClampNeg dp.toNatClampNeg k.toNatClampNeg → va_P D vwCl (WL cy T M1 R) H1 → va_D A (WL cy T M1 R) → va_S A s.heap H1 locs1 → W p l e Rr s m args below meth c H1 locs1 cells slots Q (F0 m (pc + 3) ls rest)) : W p l e Rr s m args below meth c H locs cells slots Q (F0 m pc ls (.int k :: .int dp :: .ref a :: .int sp :: .ref a0 :: rest)) := by
  obtain ⟨hx, hb, -, hml, hown, hts, hK, hA, -, hSt⟩ := C
  obtain ⟨q0, hq0⟩ := wl_get (cy := cy) (M := M) (R := R) ha0
  rw [ce_9 (isK_knd ha0)] at hq0
  obtain ⟨q, hq⟩ := wl_get (cy := cy) (M := M) (R := R) ha
  have hqe := hq
  rw [ce_9 (isK_knd ha)] at hq
  unfold cpok at hc9
  obtain ⟨h1, h2, h3, h4, h5⟩ := of_decide_eq_true hc9
  refine va_copyi hx hb (hml.trans hsz.symm) hown (hts _ w1) (hts _ wl_136) (hts _ wl_137) (hts _ wl_138) hK hP hD hS q0 q 1 1 hq0 hq rfl rfl rfl h1 h2 h3 h4 h5 (fun _ _ => rfl) hfr hlo hdg (fun H1 locs1 hP1 hD1 hS1 => ?_)
  rw [wl_set hD ha hqe (cpe_9 (a0 := a0) ha)] at hP1 hD1
  exact kk _ H1 locs1 rfl hP1 hD1 hS1
end
