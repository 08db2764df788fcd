section
-- ===== PART A: goes FIRST, ahead of the names: the tables' words, and 'selects' of the private methods out of them =====
/-- a private method of a class that the tables say can be made, by its rows of tables_1 -/
def lw_okq (q : MethodName × Nat) : Prop := (q.1.cls ≠ "java/lang/invoke/MethodHandle" ∧ q.1.cls ≠ "java/lang/invoke/VarHandle") ∧ Cond.instantiable q.1.cls q.2 ∈ tables_1 ∧ Cond.privateMethod q.1 ∈ tables_1 ∧ Cond.instanceMethod q.1 ∈ tables_1
theorem lw_p0 : lw_okq (⟨"IceTongue", "recordState", "()V"⟩, 5) := ⟨⟨by decide +kernel, by decide +kernel⟩, List.mem_of_getElem? (i := 13) (by decide +kernel), List.mem_of_getElem? (i := 255) (by decide +kernel), List.mem_of_getElem? (i := 256) (by decide +kernel)⟩
theorem lw_p1 : lw_okq (⟨"IceTongue", "dropOldestState", "()V"⟩, 5) := ⟨⟨by decide +kernel, by decide +kernel⟩, List.mem_of_getElem? (i := 13) (by decide +kernel), List.mem_of_getElem? (i := 259) (by decide +kernel), List.mem_of_getElem? (i := 260) (by decide +kernel)⟩
theorem lw_p2 : lw_okq (⟨"IceTongue$Layers", "narrow", "()V"⟩, 4) := ⟨⟨by decide +kernel, by decide +kernel⟩, List.mem_of_getElem? (i := 70) (by decide +kernel), List.mem_of_getElem? (i := 313) (by decide +kernel), List.mem_of_getElem? (i := 314) (by decide +kernel)⟩
theorem lw_p3 : lw_okq (⟨"IceTongue$Tongue", "snowAndMelt", "(LIceTongue$Band;)V"⟩, 11) := ⟨⟨by decide +kernel, by decide +kernel⟩, List.mem_of_getElem? (i := 21) (by decide +kernel), List.mem_of_getElem? (i := 469) (by decide +kernel), List.mem_of_getElem? (i := 470) (by decide +kernel)⟩
theorem lw_p4 : lw_okq (⟨"IceTongue$Layers", "takeOfYear", "(II)I"⟩, 4) := ⟨⟨by decide +kernel, by decide +kernel⟩, List.mem_of_getElem? (i := 70) (by decide +kernel), List.mem_of_getElem? (i := 479) (by decide +kernel), List.mem_of_getElem? (i := 480) (by decide +kernel)⟩
theorem lw_p5 : lw_okq (⟨"IceTongue$Tongue", "creepDown", "()V"⟩, 11) := ⟨⟨by decide +kernel, by decide +kernel⟩, List.mem_of_getElem? (i := 21) (by decide +kernel), List.mem_of_getElem? (i := 483) (by decide +kernel), List.mem_of_getElem? (i := 484) (by decide +kernel)⟩
theorem lw_p6 : lw_okq (⟨"IceTongue$Tongue", "ride", "(LIceTongue$Stake;)V"⟩, 11) := ⟨⟨by decide +kernel, by decide +kernel⟩, List.mem_of_getElem? (i := 21) (by decide +kernel), List.mem_of_getElem? (i := 501) (by decide +kernel), List.mem_of_getElem? (i := 502) (by decide +kernel)⟩
theorem lw_p7 : lw_okq (⟨"IceTongue$Tongue", "moveDown", "(LIceTongue$Stake;I)V"⟩, 11) := ⟨⟨by decide +kernel, by decide +kernel⟩, List.mem_of_getElem? (i := 21) (by decide +kernel), List.mem_of_getElem? (i := 510) (by decide +kernel), List.mem_of_getElem? (i := 511) (by decide +kernel)⟩
theorem lw_p8 : lw_okq (⟨"IceTongue", "isSoInTrial", "(II)Z"⟩, 5) := ⟨⟨by decide +kernel, by decide +kernel⟩, List.mem_of_getElem? (i := 13) (by decide +kernel), List.mem_of_getElem? (i := 529) (by decide +kernel), List.mem_of_getElem? (i := 530) (by decide +kernel)⟩
theorem lw_p9 : lw_okq (⟨"IceTongue", "possibleYears", "()I"⟩, 5) := ⟨⟨by decide +kernel, by decide +kernel⟩, List.mem_of_getElem? (i := 13) (by decide +kernel), List.mem_of_getElem? (i := 561) (by decide +kernel), List.mem_of_getElem? (i := 562) (by decide +kernel)⟩
theorem lw_p10 : lw_okq (⟨"IceTongue", "reasonAt", "(II)I"⟩, 5) := ⟨⟨by decide +kernel, by decide +kernel⟩, List.mem_of_getElem? (i := 13) (by decide +kernel), List.mem_of_getElem? (i := 565) (by decide +kernel), List.mem_of_getElem? (i := 566) (by decide +kernel)⟩
theorem lw_p11 : lw_okq (⟨"IceTongue$Text", "endOfNumber", "(I)I"⟩, 2) := ⟨⟨by decide +kernel, by decide +kernel⟩, List.mem_of_getElem? (i := 212) (by decide +kernel), List.mem_of_getElem? (i := 573) (by decide +kernel), List.mem_of_getElem? (i := 574) (by decide +kernel)⟩
theorem lw_p12 : lw_okq (⟨"IceTongue$Text", "isDigitAt", "(I)Z"⟩, 2) := ⟨⟨by decide +kernel, by decide +kernel⟩, List.mem_of_getElem? (i := 212) (by decide +kernel), List.mem_of_getElem? (i := 577) (by decide +kernel), List.mem_of_getElem? (i := 578) (by decide +kernel)⟩
theorem lw_p13 : lw_okq (⟨"IceTongue$Text", "isSignAt", "(IC)Z"⟩, 2) := ⟨⟨by decide +kernel, by decide +kernel⟩, List.mem_of_getElem? (i := 212) (by decide +kernel), List.mem_of_getElem? (i := 581) (by decide +kernel), List.mem_of_getElem? (i := 582) (by decide +kernel)⟩
theorem lw_p14 : lw_okq (⟨"IceTongue$Text", "numberAt", "(I)I"⟩, 2) := ⟨⟨by decide +kernel, by decide +kernel⟩, List.mem_of_getElem? (i := 212) (by decide +kernel), List.mem_of_getElem? (i := 589) (by decide +kernel), List.mem_of_getElem? (i := 590) (by decide +kernel)⟩
theorem lw_p15 : lw_okq (⟨"IceTongueModel", "keptIce", "(II)I"⟩, 17) := ⟨⟨by decide +kernel, by decide +kernel⟩, List.mem_of_getElem? (i := 606) (by decide +kernel), List.mem_of_getElem? (i := 670) (by decide +kernel), List.mem_of_getElem? (i := 671) (by decide +kernel)⟩
def lw_privs_1 : List (MethodName × Nat) := [(⟨"IceTongue", "recordState", "()V"⟩, 5), (⟨"IceTongue", "dropOldestState", "()V"⟩, 5), (⟨"IceTongue$Layers", "narrow", "()V"⟩, 4), (⟨"IceTongue$Tongue", "snowAndMelt", "(LIceTongue$Band;)V"⟩, 11), (⟨"IceTongue$Layers", "takeOfYear", "(II)I"⟩, 4), (⟨"IceTongue$Tongue", "creepDown", "()V"⟩, 11), (⟨"IceTongue$Tongue", "ride", "(LIceTongue$Stake;)V"⟩, 11), (⟨"IceTongue$Tongue", "moveDown", "(LIceTongue$Stake;I)V"⟩, 11), (⟨"IceTongue", "isSoInTrial", "(II)Z"⟩, 5), (⟨"IceTongue", "possibleYears", "()I"⟩, 5), (⟨"IceTongue", "reasonAt", "(II)I"⟩, 5), (⟨"IceTongue$Text", "endOfNumber", "(I)I"⟩, 2), (⟨"IceTongue$Text", "isDigitAt", "(I)Z"⟩, 2), (⟨"IceTongue$Text", "isSignAt", "(IC)Z"⟩, 2), (⟨"IceTongue$Text", "numberAt", "(I)I"⟩, 2), (⟨"IceTongueModel", "keptIce", "(II)I"⟩, 17)]
theorem lw_r1 : ∀ q ∈ lw_privs_1, lw_okq q := List.forall_mem_cons.mpr ⟨lw_p0, List.forall_mem_cons.mpr ⟨lw_p1, List.forall_mem_cons.mpr ⟨lw_p2, List.forall_mem_cons.mpr ⟨lw_p3, List.forall_mem_cons.mpr ⟨lw_p4, List.forall_mem_cons.mpr ⟨lw_p5, List.forall_mem_cons.mpr ⟨lw_p6, List.forall_mem_cons.mpr ⟨lw_p7, List.forall_mem_cons.mpr ⟨lw_p8, List.forall_mem_cons.mpr ⟨lw_p9, List.forall_mem_cons.mpr ⟨lw_p10, List.forall_mem_cons.mpr ⟨lw_p11, List.forall_mem_cons.mpr ⟨lw_p12, List.forall_mem_cons.mpr ⟨lw_p13, List.forall_mem_cons.mpr ⟨lw_p14, List.forall_mem_cons.mpr ⟨lw_p15, fun _ h => absurd h List.not_mem_nil⟩⟩⟩⟩⟩⟩⟩⟩⟩⟩⟩⟩⟩⟩⟩⟩
theorem lw_p16 : lw_okq (⟨"IceTongueModel", "keep", "()V"⟩, 17) := ⟨⟨by decide +kernel, by decide +kernel⟩, List.mem_of_getElem? (i := 606) (by decide +kernel), List.mem_of_getElem? (i := 686) (by decide +kernel), List.mem_of_getElem? (i := 687) (by decide +kernel)⟩
theorem lw_p17 : lw_okq (⟨"IceTongueModel", "dropOldest", "()V"⟩, 17) := ⟨⟨by decide +kernel, by decide +kernel⟩, List.mem_of_getElem? (i := 606) (by decide +kernel), List.mem_of_getElem? (i := 690) (by decide +kernel), List.mem_of_getElem? (i := 691) (by decide +kernel)⟩
theorem lw_p18 : lw_okq (⟨"IceTongueModel", "keepIce", "(III)V"⟩, 17) := ⟨⟨by decide +kernel, by decide +kernel⟩, List.mem_of_getElem? (i := 606) (by decide +kernel), List.mem_of_getElem? (i := 694) (by decide +kernel), List.mem_of_getElem? (i := 695) (by decide +kernel)⟩
theorem lw_p19 : lw_okq (⟨"IceTongueModel", "of", "(II)I"⟩, 17) := ⟨⟨by decide +kernel, by decide +kernel⟩, List.mem_of_getElem? (i := 606) (by decide +kernel), List.mem_of_getElem? (i := 702) (by decide +kernel), List.mem_of_getElem? (i := 703) (by decide +kernel)⟩
theorem lw_p20 : lw_okq (⟨"IceTongueModel", "put", "(III)V"⟩, 17) := ⟨⟨by decide +kernel, by decide +kernel⟩, List.mem_of_getElem? (i := 606) (by decide +kernel), List.mem_of_getElem? (i := 707) (by decide +kernel), List.mem_of_getElem? (i := 708) (by decide +kernel)⟩
theorem lw_p21 : lw_okq (⟨"IceTongueModel", "lay", "(II)V"⟩, 17) := ⟨⟨by decide +kernel, by decide +kernel⟩, List.mem_of_getElem? (i := 606) (by decide +kernel), List.mem_of_getElem? (i := 711) (by decide +kernel), List.mem_of_getElem? (i := 712) (by decide +kernel)⟩
theorem lw_p22 : lw_okq (⟨"IceTongueModel", "isBand", "(I)Z"⟩, 17) := ⟨⟨by decide +kernel, by decide +kernel⟩, List.mem_of_getElem? (i := 606) (by decide +kernel), List.mem_of_getElem? (i := 719) (by decide +kernel), List.mem_of_getElem? (i := 720) (by decide +kernel)⟩
theorem lw_p23 : lw_okq (⟨"IceTongueModel", "infoOf", "(II)I"⟩, 17) := ⟨⟨by decide +kernel, by decide +kernel⟩, List.mem_of_getElem? (i := 606) (by decide +kernel), List.mem_of_getElem? (i := 727) (by decide +kernel), List.mem_of_getElem? (i := 728) (by decide +kernel)⟩
theorem lw_p24 : lw_okq (⟨"IceTongueModel", "iceOf", "(I)I"⟩, 17) := ⟨⟨by decide +kernel, by decide +kernel⟩, List.mem_of_getElem? (i := 606) (by decide +kernel), List.mem_of_getElem? (i := 731) (by decide +kernel), List.mem_of_getElem? (i := 732) (by decide +kernel)⟩
theorem lw_p25 : lw_okq (⟨"IceTongueModel", "layersOf", "(I)I"⟩, 17) := ⟨⟨by decide +kernel, by decide +kernel⟩, List.mem_of_getElem? (i := 606) (by decide +kernel), List.mem_of_getElem? (i := 735) (by decide +kernel), List.mem_of_getElem? (i := 736) (by decide +kernel)⟩
theorem lw_p26 : lw_okq (⟨"IceTongueModel", "yearOf", "(II)I"⟩, 17) := ⟨⟨by decide +kernel, by decide +kernel⟩, List.mem_of_getElem? (i := 606) (by decide +kernel), List.mem_of_getElem? (i := 739) (by decide +kernel), List.mem_of_getElem? (i := 740) (by decide +kernel)⟩
theorem lw_p27 : lw_okq (⟨"IceTongueModel", "snowOf", "(I)I"⟩, 17) := ⟨⟨by decide +kernel, by decide +kernel⟩, List.mem_of_getElem? (i := 606) (by decide +kernel), List.mem_of_getElem? (i := 747) (by decide +kernel), List.mem_of_getElem? (i := 748) (by decide +kernel)⟩
theorem lw_p28 : lw_okq (⟨"IceTongueModel", "meltOf", "(I)I"⟩, 17) := ⟨⟨by decide +kernel, by decide +kernel⟩, List.mem_of_getElem? (i := 606) (by decide +kernel), List.mem_of_getElem? (i := 754) (by decide +kernel), List.mem_of_getElem? (i := 755) (by decide +kernel)⟩
theorem lw_p29 : lw_okq (⟨"IceTongueModel", "leftOf", "(I)I"⟩, 17) := ⟨⟨by decide +kernel, by decide +kernel⟩, List.mem_of_getElem? (i := 606) (by decide +kernel), List.mem_of_getElem? (i := 766) (by decide +kernel), List.mem_of_getElem? (i := 767) (by decide +kernel)⟩
theorem lw_p30 : lw_okq (⟨"IceTongueModel", "allOfBands", "()I"⟩, 17) := ⟨⟨by decide +kernel, by decide +kernel⟩, List.mem_of_getElem? (i := 606) (by decide +kernel), List.mem_of_getElem? (i := 783) (by decide +kernel), List.mem_of_getElem? (i := 784) (by decide +kernel)⟩
theorem lw_p31 : lw_okq (⟨"IceTongueModel", "allByYears", "()I"⟩, 17) := ⟨⟨by decide +kernel, by decide +kernel⟩, List.mem_of_getElem? (i := 606) (by decide +kernel), List.mem_of_getElem? (i := 787) (by decide +kernel), List.mem_of_getElem? (i := 788) (by decide +kernel)⟩
def lw_privs_2 : List (MethodName × Nat) := [(⟨"IceTongueModel", "keep", "()V"⟩, 17), (⟨"IceTongueModel", "dropOldest", "()V"⟩, 17), (⟨"IceTongueModel", "keepIce", "(III)V"⟩, 17), (⟨"IceTongueModel", "of", "(II)I"⟩, 17), (⟨"IceTongueModel", "put", "(III)V"⟩, 17), (⟨"IceTongueModel", "lay", "(II)V"⟩, 17), (⟨"IceTongueModel", "isBand", "(I)Z"⟩, 17), (⟨"IceTongueModel", "infoOf", "(II)I"⟩, 17), (⟨"IceTongueModel", "iceOf", "(I)I"⟩, 17), (⟨"IceTongueModel", "layersOf", "(I)I"⟩, 17), (⟨"IceTongueModel", "yearOf", "(II)I"⟩, 17), (⟨"IceTongueModel", "snowOf", "(I)I"⟩, 17), (⟨"IceTongueModel", "meltOf", "(I)I"⟩, 17), (⟨"IceTongueModel", "leftOf", "(I)I"⟩, 17), (⟨"IceTongueModel", "allOfBands", "()I"⟩, 17), (⟨"IceTongueModel", "allByYears", "()I"⟩, 17)]
theorem lw_r2 : ∀ q ∈ lw_privs_2, lw_okq q := List.forall_mem_cons.mpr ⟨lw_p16, List.forall_mem_cons.mpr ⟨lw_p17, List.forall_mem_cons.mpr ⟨lw_p18, List.forall_mem_cons.mpr ⟨lw_p19, List.forall_mem_cons.mpr ⟨lw_p20, List.forall_mem_cons.mpr ⟨lw_p21, List.forall_mem_cons.mpr ⟨lw_p22, List.forall_mem_cons.mpr ⟨lw_p23, List.forall_mem_cons.mpr ⟨lw_p24, List.forall_mem_cons.mpr ⟨lw_p25, List.forall_mem_cons.mpr ⟨lw_p26, List.forall_mem_cons.mpr ⟨lw_p27, List.forall_mem_cons.mpr ⟨lw_p28, List.forall_mem_cons.mpr ⟨lw_p29, List.forall_mem_cons.mpr ⟨lw_p30, List.forall_mem_cons.mpr ⟨lw_p31, fun _ h => absurd h List.not_mem_nil⟩⟩⟩⟩⟩⟩⟩⟩⟩⟩⟩⟩⟩⟩⟩⟩
theorem lw_p32 : lw_okq (⟨"IceTongueModel", "standing", "()I"⟩, 17) := ⟨⟨by decide +kernel, by decide +kernel⟩, List.mem_of_getElem? (i := 606) (by decide +kernel), List.mem_of_getElem? (i := 795) (by decide +kernel), List.mem_of_getElem? (i := 796) (by decide +kernel)⟩
theorem lw_p33 : lw_okq (⟨"IceTongueModel", "ofStake", "(II)I"⟩, 17) := ⟨⟨by decide +kernel, by decide +kernel⟩, List.mem_of_getElem? (i := 606) (by decide +kernel), List.mem_of_getElem? (i := 799) (by decide +kernel), List.mem_of_getElem? (i := 800) (by decide +kernel)⟩
theorem lw_p34 : lw_okq (⟨"IceTongueModel", "allLayers", "()I"⟩, 17) := ⟨⟨by decide +kernel, by decide +kernel⟩, List.mem_of_getElem? (i := 606) (by decide +kernel), List.mem_of_getElem? (i := 803) (by decide +kernel), List.mem_of_getElem? (i := 804) (by decide +kernel)⟩
theorem lw_p35 : lw_okq (⟨"IceTongueModel", "differentYears", "()I"⟩, 17) := ⟨⟨by decide +kernel, by decide +kernel⟩, List.mem_of_getElem? (i := 606) (by decide +kernel), List.mem_of_getElem? (i := 807) (by decide +kernel), List.mem_of_getElem? (i := 808) (by decide +kernel)⟩
theorem lw_p36 : lw_okq (⟨"IceTongueModel", "putStake", "(III)V"⟩, 17) := ⟨⟨by decide +kernel, by decide +kernel⟩, List.mem_of_getElem? (i := 606) (by decide +kernel), List.mem_of_getElem? (i := 815) (by decide +kernel), List.mem_of_getElem? (i := 816) (by decide +kernel)⟩
theorem lw_p37 : lw_okq (⟨"IceTongueModel", "isStake", "(I)Z"⟩, 17) := ⟨⟨by decide +kernel, by decide +kernel⟩, List.mem_of_getElem? (i := 606) (by decide +kernel), List.mem_of_getElem? (i := 823) (by decide +kernel), List.mem_of_getElem? (i := 824) (by decide +kernel)⟩
theorem lw_p38 : lw_okq (⟨"IceTongueModel", "goOn", "(I)V"⟩, 17) := ⟨⟨by decide +kernel, by decide +kernel⟩, List.mem_of_getElem? (i := 606) (by decide +kernel), List.mem_of_getElem? (i := 839) (by decide +kernel), List.mem_of_getElem? (i := 840) (by decide +kernel)⟩
theorem lw_p39 : lw_okq (⟨"IceTongueModel", "year", "()V"⟩, 17) := ⟨⟨by decide +kernel, by decide +kernel⟩, List.mem_of_getElem? (i := 606) (by decide +kernel), List.mem_of_getElem? (i := 843) (by decide +kernel), List.mem_of_getElem? (i := 844) (by decide +kernel)⟩
theorem lw_p40 : lw_okq (⟨"IceTongueModel", "weather", "(I)V"⟩, 17) := ⟨⟨by decide +kernel, by decide +kernel⟩, List.mem_of_getElem? (i := 606) (by decide +kernel), List.mem_of_getElem? (i := 847) (by decide +kernel), List.mem_of_getElem? (i := 848) (by decide +kernel)⟩
theorem lw_p41 : lw_okq (⟨"IceTongueModel", "gives", "(I)V"⟩, 17) := ⟨⟨by decide +kernel, by decide +kernel⟩, List.mem_of_getElem? (i := 606) (by decide +kernel), List.mem_of_getElem? (i := 851) (by decide +kernel), List.mem_of_getElem? (i := 852) (by decide +kernel)⟩
theorem lw_p42 : lw_okq (⟨"IceTongueModel", "stepFront", "()V"⟩, 17) := ⟨⟨by decide +kernel, by decide +kernel⟩, List.mem_of_getElem? (i := 606) (by decide +kernel), List.mem_of_getElem? (i := 856) (by decide +kernel), List.mem_of_getElem? (i := 857) (by decide +kernel)⟩
theorem lw_p43 : lw_okq (⟨"IceTongueModel", "stepStake", "(I)V"⟩, 17) := ⟨⟨by decide +kernel, by decide +kernel⟩, List.mem_of_getElem? (i := 606) (by decide +kernel), List.mem_of_getElem? (i := 860) (by decide +kernel), List.mem_of_getElem? (i := 861) (by decide +kernel)⟩
theorem lw_p44 : lw_okq (⟨"IceTongueModel", "moves", "(I)V"⟩, 17) := ⟨⟨by decide +kernel, by decide +kernel⟩, List.mem_of_getElem? (i := 606) (by decide +kernel), List.mem_of_getElem? (i := 864) (by decide +kernel), List.mem_of_getElem? (i := 865) (by decide +kernel)⟩
theorem lw_p45 : lw_okq (⟨"IceTongueModel", "setAside", "()V"⟩, 17) := ⟨⟨by decide +kernel, by decide +kernel⟩, List.mem_of_getElem? (i := 606) (by decide +kernel), List.mem_of_getElem? (i := 872) (by decide +kernel), List.mem_of_getElem? (i := 873) (by decide +kernel)⟩
theorem lw_p46 : lw_okq (⟨"IceTongueModel", "brought", "(I)I"⟩, 17) := ⟨⟨by decide +kernel, by decide +kernel⟩, List.mem_of_getElem? (i := 606) (by decide +kernel), List.mem_of_getElem? (i := 876) (by decide +kernel), List.mem_of_getElem? (i := 877) (by decide +kernel)⟩
theorem lw_p47 : lw_okq (⟨"IceTongueModel", "oldest", "()I"⟩, 17) := ⟨⟨by decide +kernel, by decide +kernel⟩, List.mem_of_getElem? (i := 606) (by decide +kernel), List.mem_of_getElem? (i := 880) (by decide +kernel), List.mem_of_getElem? (i := 881) (by decide +kernel)⟩
def lw_privs_3 : List (MethodName × Nat) := [(⟨"IceTongueModel", "standing", "()I"⟩, 17), (⟨"IceTongueModel", "ofStake", "(II)I"⟩, 17), (⟨"IceTongueModel", "allLayers", "()I"⟩, 17), (⟨"IceTongueModel", "differentYears", "()I"⟩, 17), (⟨"IceTongueModel", "putStake", "(III)V"⟩, 17), (⟨"IceTongueModel", "isStake", "(I)Z"⟩, 17), (⟨"IceTongueModel", "goOn", "(I)V"⟩, 17), (⟨"IceTongueModel", "year", "()V"⟩, 17), (⟨"IceTongueModel", "weather", "(I)V"⟩, 17), (⟨"IceTongueModel", "gives", "(I)V"⟩, 17), (⟨"IceTongueModel", "stepFront", "()V"⟩, 17), (⟨"IceTongueModel", "stepStake", "(I)V"⟩, 17), (⟨"IceTongueModel", "moves", "(I)V"⟩, 17), (⟨"IceTongueModel", "setAside", "()V"⟩, 17), (⟨"IceTongueModel", "brought", "(I)I"⟩, 17), (⟨"IceTongueModel", "oldest", "()I"⟩, 17)]
theorem lw_r3 : ∀ q ∈ lw_privs_3, lw_okq q := List.forall_mem_cons.mpr ⟨lw_p32, List.forall_mem_cons.mpr ⟨lw_p33, List.forall_mem_cons.mpr ⟨lw_p34, List.forall_mem_cons.mpr ⟨lw_p35, List.forall_mem_cons.mpr ⟨lw_p36, List.forall_mem_cons.mpr ⟨lw_p37, List.forall_mem_cons.mpr ⟨lw_p38, List.forall_mem_cons.mpr ⟨lw_p39, List.forall_mem_cons.mpr ⟨lw_p40, List.forall_mem_cons.mpr ⟨lw_p41, List.forall_mem_cons.mpr ⟨lw_p42, List.forall_mem_cons.mpr ⟨lw_p43, List.forall_mem_cons.mpr ⟨lw_p44, List.forall_mem_cons.mpr ⟨lw_p45, List.forall_mem_cons.mpr ⟨lw_p46, List.forall_mem_cons.mpr ⟨lw_p47, fun _ h => absurd h List.not_mem_nil⟩⟩⟩⟩⟩⟩⟩⟩⟩⟩⟩⟩⟩⟩⟩⟩
theorem lw_p48 : lw_okq (⟨"IceTongueModel", "bringBack", "()V"⟩, 17) := ⟨⟨by decide +kernel, by decide +kernel⟩, List.mem_of_getElem? (i := 606) (by decide +kernel), List.mem_of_getElem? (i := 884) (by decide +kernel), List.mem_of_getElem? (i := 885) (by decide +kernel)⟩
theorem lw_p49 : lw_okq (⟨"IceTongueModel", "isSo", "(II)Z"⟩, 17) := ⟨⟨by decide +kernel, by decide +kernel⟩, List.mem_of_getElem? (i := 606) (by decide +kernel), List.mem_of_getElem? (i := 892) (by decide +kernel), List.mem_of_getElem? (i := 893) (by decide +kernel)⟩
theorem lw_p50 : lw_okq (⟨"IceTongueModel", "isSteady", "()Z"⟩, 17) := ⟨⟨by decide +kernel, by decide +kernel⟩, List.mem_of_getElem? (i := 606) (by decide +kernel), List.mem_of_getElem? (i := 900) (by decide +kernel), List.mem_of_getElem? (i := 901) (by decide +kernel)⟩
theorem lw_p51 : lw_okq (⟨"IceTongueModel", "reason", "()I"⟩, 17) := ⟨⟨by decide +kernel, by decide +kernel⟩, List.mem_of_getElem? (i := 606) (by decide +kernel), List.mem_of_getElem? (i := 916) (by decide +kernel), List.mem_of_getElem? (i := 917) (by decide +kernel)⟩
theorem lw_p52 : lw_okq (⟨"IceTongueModel", "readYear", "()Z"⟩, 17) := ⟨⟨by decide +kernel, by decide +kernel⟩, List.mem_of_getElem? (i := 606) (by decide +kernel), List.mem_of_getElem? (i := 920) (by decide +kernel), List.mem_of_getElem? (i := 921) (by decide +kernel)⟩
theorem lw_p53 : lw_okq (⟨"IceTongueModel", "readNumber", "(I)Z"⟩, 17) := ⟨⟨by decide +kernel, by decide +kernel⟩, List.mem_of_getElem? (i := 606) (by decide +kernel), List.mem_of_getElem? (i := 924) (by decide +kernel), List.mem_of_getElem? (i := 925) (by decide +kernel)⟩
theorem lw_p54 : lw_okq (⟨"IceTongueModel", "here", "()I"⟩, 17) := ⟨⟨by decide +kernel, by decide +kernel⟩, List.mem_of_getElem? (i := 606) (by decide +kernel), List.mem_of_getElem? (i := 928) (by decide +kernel), List.mem_of_getElem? (i := 929) (by decide +kernel)⟩
def lw_privs_4 : List (MethodName × Nat) := [(⟨"IceTongueModel", "bringBack", "()V"⟩, 17), (⟨"IceTongueModel", "isSo", "(II)Z"⟩, 17), (⟨"IceTongueModel", "isSteady", "()Z"⟩, 17), (⟨"IceTongueModel", "reason", "()I"⟩, 17), (⟨"IceTongueModel", "readYear", "()Z"⟩, 17), (⟨"IceTongueModel", "readNumber", "(I)Z"⟩, 17), (⟨"IceTongueModel", "here", "()I"⟩, 17)]
theorem lw_r4 : ∀ q ∈ lw_privs_4, lw_okq q := List.forall_mem_cons.mpr ⟨lw_p48, List.forall_mem_cons.mpr ⟨lw_p49, List.forall_mem_cons.mpr ⟨lw_p50, List.forall_mem_cons.mpr ⟨lw_p51, List.forall_mem_cons.mpr ⟨lw_p52, List.forall_mem_cons.mpr ⟨lw_p53, List.forall_mem_cons.mpr ⟨lw_p54, fun _ h => absurd h List.not_mem_nil⟩⟩⟩⟩⟩⟩⟩
def lw_privs : List (MethodName × Nat) := lw_privs_1 ++ (lw_privs_2 ++ (lw_privs_3 ++ (lw_privs_4)))
def lw_tbl : List Cond := k2_sels lw_privs ++ tables_1
theorem lw_privs_ok : ∀ q ∈ lw_privs, lw_okq q := by
  show ∀ q ∈ lw_privs_1 ++ (lw_privs_2 ++ (lw_privs_3 ++ (lw_privs_4))), lw_okq q
  exact List.forall_mem_append.mpr ⟨lw_r1, List.forall_mem_append.mpr ⟨lw_r2, List.forall_mem_append.mpr ⟨lw_r3, lw_r4⟩⟩⟩
end
section
def RX0 : String := "IceTongue$Band"
def TX0 : u_T := fun k => match k with
  | 0 => ("IceTongue$Band", "layers", "LIceTongue$Layers;", true)
  | 1 => ("IceTongue$Band", "height", "I", false)
  | 2 => ("IceTongue$Band", "length", "I", false)
  | 3 => ("IceTongue$Band", "creep", "I", false)
  | 4 => ("IceTongue$Band", "melted", "I", false)
  | 5 => ("IceTongue$Band", "gave", "I", false)
  | _ => ("IceTongue$Band", "got", "I", false)
def tyX0 : Nat → FieldType := fun k => match k with
  | 0 => .object "IceTongue$Layers"
  | 1 => .int
  | 2 => .int
  | 3 => .int
  | 4 => .int
  | 5 => .int
  | _ => .int
abbrev wsX00 : List Cond := u_ws RX0 TX0 7
theorem nmX0 : ∀ a, a < 7 → ∀ b, b < 7 → a ≠ b → (TX0 a).2.1 ≠ (TX0 b).2.1 := by decide +kernel
theorem tyX0_ok : ∀ k, k < 7 → parseFieldDescriptor (TX0 k).2.2.1 = some (tyX0 k) := by decide +kernel
abbrev cX0_init : ByteArray := prog_2_method_1_code
def yX0_init : MethodName := ⟨RX0, "<init>", "()V"⟩
abbrev cX0_begin : ByteArray := prog_2_method_2_code
def yX0_begin : MethodName := ⟨RX0, "begin", "(III)V"⟩
abbrev cX0_copyFrom : ByteArray := prog_2_method_3_code
def yX0_copyFrom : MethodName := ⟨RX0, "copyFrom", "(LIceTongue$Band;)V"⟩
abbrev cX0_iceToGive : ByteArray := prog_2_method_4_code
def yX0_iceToGive : MethodName := ⟨RX0, "iceToGive", "()I"⟩
abbrev cX0_way : ByteArray := prog_2_method_5_code
def yX0_way : MethodName := ⟨RX0, "way", "()I"⟩
def RX1 : String := "IceTongue$Front"
def TX1 : u_T := fun k => match k with
  | 0 => ("IceTongue$Front", "ice", "I", false)
  | 1 => ("IceTongue$Front", "rest", "I", false)
  | 2 => ("IceTongue$Front", "pieces", "I", false)
  | _ => ("IceTongue$Front", "latestCalving", "I", false)
def tyX1 : Nat → FieldType := fun k => match k with
  | 0 => .int
  | 1 => .int
  | 2 => .int
  | _ => .int
abbrev wsX10 : List Cond := u_ws RX1 TX1 4
theorem nmX1 : ∀ a, a < 4 → ∀ b, b < 4 → a ≠ b → (TX1 a).2.1 ≠ (TX1 b).2.1 := by decide +kernel
theorem tyX1_ok : ∀ k, k < 4 → parseFieldDescriptor (TX1 k).2.2.1 = some (tyX1 k) := by decide +kernel
abbrev cX1_init : ByteArray := prog_3_method_1_code
def yX1_init : MethodName := ⟨RX1, "<init>", "()V"⟩
abbrev cX1_copyFrom : ByteArray := prog_3_method_2_code
def yX1_copyFrom : MethodName := ⟨RX1, "copyFrom", "(LIceTongue$Front;)V"⟩
abbrev cX1_calve : ByteArray := prog_3_method_3_code
def yX1_calve : MethodName := ⟨RX1, "calve", "(III)I"⟩
def RX2 : String := "IceTongue$Layers"
def TX2 : u_T := fun k => match k with
  | 0 => ("IceTongue$Layers", "left", "[I", true)
  | 1 => ("IceTongue$Layers", "ice", "I", false)
  | 2 => ("IceTongue$Layers", "oldest", "I", false)
  | _ => ("IceTongue$Layers", "latest", "I", false)
def tyX2 : Nat → FieldType := fun k => match k with
  | 0 => .array .int
  | 1 => .int
  | 2 => .int
  | _ => .int
abbrev wsX20 : List Cond := u_ws RX2 TX2 4
theorem nmX2 : ∀ a, a < 4 → ∀ b, b < 4 → a ≠ b → (TX2 a).2.1 ≠ (TX2 b).2.1 := by decide +kernel
theorem tyX2_ok : ∀ k, k < 4 → parseFieldDescriptor (TX2 k).2.2.1 = some (tyX2 k) := by decide +kernel
abbrev cX2_init : ByteArray := prog_4_method_1_code
def yX2_init : MethodName := ⟨RX2, "<init>", "()V"⟩
abbrev cX2_copyFrom : ByteArray := prog_4_method_2_code
def yX2_copyFrom : MethodName := ⟨RX2, "copyFrom", "(LIceTongue$Layers;)V"⟩
abbrev cX2_empty : ByteArray := prog_4_method_3_code
def yX2_empty : MethodName := ⟨RX2, "empty", "()V"⟩
abbrev cX2_add : ByteArray := prog_4_method_4_code
def yX2_add : MethodName := ⟨RX2, "add", "(II)V"⟩
abbrev cX2_takeFromLatest : ByteArray := prog_4_method_5_code
def yX2_takeFromLatest : MethodName := ⟨RX2, "takeFromLatest", "(I)I"⟩
abbrev cX2_giveFromOldest : ByteArray := prog_4_method_6_code
def yX2_giveFromOldest : MethodName := ⟨RX2, "giveFromOldest", "(ILIceTongue$Layers;)V"⟩
abbrev cX2_takeOfYear : ByteArray := prog_4_method_7_code
def yX2_takeOfYear : MethodName := ⟨RX2, "takeOfYear", "(II)I"⟩
abbrev cX2_narrow : ByteArray := prog_4_method_8_code
def yX2_narrow : MethodName := ⟨RX2, "narrow", "()V"⟩
abbrev cX2_leftOf : ByteArray := prog_4_method_9_code
def yX2_leftOf : MethodName := ⟨RX2, "leftOf", "(I)I"⟩
abbrev cX2_number : ByteArray := prog_4_method_10_code
def yX2_number : MethodName := ⟨RX2, "number", "()I"⟩
abbrev cX2_yearOfLayer : ByteArray := prog_4_method_11_code
def yX2_yearOfLayer : MethodName := ⟨RX2, "yearOfLayer", "(I)I"⟩
def RX3 : String := "IceTongue$Stake"
def TX3 : u_T := fun k => match k with
  | 0 => ("IceTongue$Stake", "band", "I", false)
  | 1 => ("IceTongue$Stake", "place", "I", false)
  | 2 => ("IceTongue$Stake", "depth", "I", false)
  | 3 => ("IceTongue$Stake", "change", "I", false)
  | 4 => ("IceTongue$Stake", "fate", "I", false)
  | _ => ("IceTongue$Stake", "years", "I", false)
def tyX3 : Nat → FieldType := fun k => match k with
  | 0 => .int
  | 1 => .int
  | 2 => .int
  | 3 => .int
  | 4 => .int
  | _ => .int
abbrev wsX30 : List Cond := u_ws RX3 TX3 6
theorem nmX3 : ∀ a, a < 6 → ∀ b, b < 6 → a ≠ b → (TX3 a).2.1 ≠ (TX3 b).2.1 := by decide +kernel
theorem tyX3_ok : ∀ k, k < 6 → parseFieldDescriptor (TX3 k).2.2.1 = some (tyX3 k) := by decide +kernel
abbrev cX3_init : ByteArray := prog_5_method_1_code
def yX3_init : MethodName := ⟨RX3, "<init>", "()V"⟩
abbrev cX3_begin : ByteArray := prog_5_method_2_code
def yX3_begin : MethodName := ⟨RX3, "begin", "(III)V"⟩
abbrev cX3_copyFrom : ByteArray := prog_5_method_3_code
def yX3_copyFrom : MethodName := ⟨RX3, "copyFrom", "(LIceTongue$Stake;)V"⟩
def RX4 : String := "IceTongue$Text"
def TX4 : u_T := fun k => match k with
  | 0 => ("IceTongue$Text", "signs", "[C", true)
  | _ => ("IceTongue$Text", "length", "I", false)
def tyX4 : Nat → FieldType := fun k => match k with
  | 0 => .array .char
  | _ => .int
abbrev wsX40 : List Cond := u_ws RX4 TX4 2
theorem nmX4 : ∀ a, a < 2 → ∀ b, b < 2 → a ≠ b → (TX4 a).2.1 ≠ (TX4 b).2.1 := by decide +kernel
theorem tyX4_ok : ∀ k, k < 2 → parseFieldDescriptor (TX4 k).2.2.1 = some (tyX4 k) := by decide +kernel
abbrev cX4_init : ByteArray := prog_6_method_1_code
def yX4_init : MethodName := ⟨RX4, "<init>", "()V"⟩
abbrev cX4_append : ByteArray := prog_6_method_2_code
def yX4_append : MethodName := ⟨RX4, "append", "(C)V"⟩
abbrev cX4_isSignAt : ByteArray := prog_6_method_3_code
def yX4_isSignAt : MethodName := ⟨RX4, "isSignAt", "(IC)Z"⟩
abbrev cX4_isDigitAt : ByteArray := prog_6_method_4_code
def yX4_isDigitAt : MethodName := ⟨RX4, "isDigitAt", "(I)Z"⟩
abbrev cX4_endOfNumber : ByteArray := prog_6_method_5_code
def yX4_endOfNumber : MethodName := ⟨RX4, "endOfNumber", "(I)I"⟩
abbrev cX4_numberAt : ByteArray := prog_6_method_6_code
def yX4_numberAt : MethodName := ⟨RX4, "numberAt", "(I)I"⟩
abbrev cX4_endOfYear : ByteArray := prog_6_method_7_code
def yX4_endOfYear : MethodName := ⟨RX4, "endOfYear", "(I)I"⟩
abbrev cX4_snowOfYear : ByteArray := prog_6_method_8_code
def yX4_snowOfYear : MethodName := ⟨RX4, "snowOfYear", "(I)I"⟩
abbrev cX4_meltOfYear : ByteArray := prog_6_method_9_code
def yX4_meltOfYear : MethodName := ⟨RX4, "meltOfYear", "(I)I"⟩
abbrev cX4_startOfYear : ByteArray := prog_6_method_10_code
def yX4_startOfYear : MethodName := ⟨RX4, "startOfYear", "(I)I"⟩
def RX5 : String := "IceTongue$Tongue"
def TX5 : u_T := fun k => match k with
  | 0 => ("IceTongue$Tongue", "settings", "[I", true)
  | 1 => ("IceTongue$Tongue", "bands", "[LIceTongue$Band;", true)
  | 2 => ("IceTongue$Tongue", "stakes", "[LIceTongue$Stake;", true)
  | 3 => ("IceTongue$Tongue", "front", "LIceTongue$Front;", true)
  | 4 => ("IceTongue$Tongue", "bandCount", "I", false)
  | 5 => ("IceTongue$Tongue", "stakeCount", "I", false)
  | 6 => ("IceTongue$Tongue", "year", "I", false)
  | 7 => ("IceTongue$Tongue", "added", "J", false)
  | 8 => ("IceTongue$Tongue", "snowed", "J", false)
  | 9 => ("IceTongue$Tongue", "melted", "J", false)
  | _ => ("IceTongue$Tongue", "calved", "J", false)
def tyX5 : Nat → FieldType := fun k => match k with
  | 0 => .array .int
  | 1 => .array (.object "IceTongue$Band")
  | 2 => .array (.object "IceTongue$Stake")
  | 3 => .object "IceTongue$Front"
  | 4 => .int
  | 5 => .int
  | 6 => .int
  | 7 => .long
  | 8 => .long
  | 9 => .long
  | _ => .long
abbrev wsX50 : List Cond := u_ws RX5 TX5 11
theorem nmX5 : ∀ a, a < 11 → ∀ b, b < 11 → a ≠ b → (TX5 a).2.1 ≠ (TX5 b).2.1 := by decide +kernel
theorem tyX5_ok : ∀ k, k < 11 → parseFieldDescriptor (TX5 k).2.2.1 = some (tyX5 k) := by decide +kernel
abbrev cX5_init : ByteArray := prog_7_method_1_code
def yX5_init : MethodName := ⟨RX5, "<init>", "()V"⟩
abbrev cX5_copyFrom : ByteArray := prog_7_method_2_code
def yX5_copyFrom : MethodName := ⟨RX5, "copyFrom", "(LIceTongue$Tongue;)V"⟩
abbrev cX5_hasBand : ByteArray := prog_7_method_3_code
def yX5_hasBand : MethodName := ⟨RX5, "hasBand", "(I)Z"⟩
abbrev cX5_hasStake : ByteArray := prog_7_method_4_code
def yX5_hasStake : MethodName := ⟨RX5, "hasStake", "(I)Z"⟩
abbrev cX5_isBelowAll : ByteArray := prog_7_method_5_code
def yX5_isBelowAll : MethodName := ⟨RX5, "isBelowAll", "(I)Z"⟩
abbrev cX5_addBand : ByteArray := prog_7_method_6_code
def yX5_addBand : MethodName := ⟨RX5, "addBand", "(IIII)I"⟩
abbrev cX5_isStakeAt : ByteArray := prog_7_method_7_code
def yX5_isStakeAt : MethodName := ⟨RX5, "isStakeAt", "(II)Z"⟩
abbrev cX5_addStake : ByteArray := prog_7_method_8_code
def yX5_addStake : MethodName := ⟨RX5, "addStake", "(III)I"⟩
abbrev cX5_removeStake : ByteArray := prog_7_method_9_code
def yX5_removeStake : MethodName := ⟨RX5, "removeStake", "(I)I"⟩
abbrev cX5_standingStakes : ByteArray := prog_7_method_10_code
def yX5_standingStakes : MethodName := ⟨RX5, "standingStakes", "()I"⟩
abbrev cX5_snowAt : ByteArray := prog_7_method_11_code
def yX5_snowAt : MethodName := ⟨RX5, "snowAt", "(I)I"⟩
abbrev cX5_meltAt : ByteArray := prog_7_method_12_code
def yX5_meltAt : MethodName := ⟨RX5, "meltAt", "(II)I"⟩
abbrev cX5_snowOutweighsMelt : ByteArray := prog_7_method_13_code
def yX5_snowOutweighsMelt : MethodName := ⟨RX5, "snowOutweighsMelt", "(I)Z"⟩
abbrev cX5_leftOf : ByteArray := prog_7_method_14_code
def yX5_leftOf : MethodName := ⟨RX5, "leftOf", "(I)I"⟩
abbrev cX5_bandIce : ByteArray := prog_7_method_15_code
def yX5_bandIce : MethodName := ⟨RX5, "bandIce", "()I"⟩
abbrev cX5_allIce : ByteArray := prog_7_method_16_code
def yX5_allIce : MethodName := ⟨RX5, "allIce", "()J"⟩
abbrev cX5_allIceByYears : ByteArray := prog_7_method_17_code
def yX5_allIceByYears : MethodName := ⟨RX5, "allIceByYears", "()J"⟩
abbrev cX5_layersOfAllBands : ByteArray := prog_7_method_18_code
def yX5_layersOfAllBands : MethodName := ⟨RX5, "layersOfAllBands", "()I"⟩
abbrev cX5_differentYears : ByteArray := prog_7_method_19_code
def yX5_differentYears : MethodName := ⟨RX5, "differentYears", "()I"⟩
abbrev cX5_oldestYear : ByteArray := prog_7_method_20_code
def yX5_oldestYear : MethodName := ⟨RX5, "oldestYear", "()I"⟩
abbrev cX5_letYearsGoBy : ByteArray := prog_7_method_21_code
def yX5_letYearsGoBy : MethodName := ⟨RX5, "letYearsGoBy", "(I)V"⟩
abbrev cX5_letYearGoBy : ByteArray := prog_7_method_22_code
def yX5_letYearGoBy : MethodName := ⟨RX5, "letYearGoBy", "()V"⟩
abbrev cX5_snowAndMelt : ByteArray := prog_7_method_23_code
def yX5_snowAndMelt : MethodName := ⟨RX5, "snowAndMelt", "(LIceTongue$Band;)V"⟩
abbrev cX5_creepDown : ByteArray := prog_7_method_24_code
def yX5_creepDown : MethodName := ⟨RX5, "creepDown", "()V"⟩
abbrev cX5_ride : ByteArray := prog_7_method_25_code
def yX5_ride : MethodName := ⟨RX5, "ride", "(LIceTongue$Stake;)V"⟩
abbrev cX5_moveDown : ByteArray := prog_7_method_26_code
def yX5_moveDown : MethodName := ⟨RX5, "moveDown", "(LIceTongue$Stake;I)V"⟩
def RX6 : String := "IceTongue"
def TX6 : u_T := fun k => match k with
  | 0 => ("IceTongue", "trial", "LIceTongue$Tongue;", true)
  | 1 => ("IceTongue", "history", "[LIceTongue$Tongue;", true)
  | 2 => ("IceTongue", "text", "LIceTongue$Text;", true)
  | 3 => ("IceTongue", "now", "LIceTongue$Tongue;", false)
  | _ => ("IceTongue", "states", "I", false)
def tyX6 : Nat → FieldType := fun k => match k with
  | 0 => .object "IceTongue$Tongue"
  | 1 => .array (.object "IceTongue$Tongue")
  | 2 => .object "IceTongue$Text"
  | 3 => .object "IceTongue$Tongue"
  | _ => .int
abbrev wsX60 : List Cond := u_ws RX6 TX6 5
theorem nmX6 : ∀ a, a < 5 → ∀ b, b < 5 → a ≠ b → (TX6 a).2.1 ≠ (TX6 b).2.1 := by decide +kernel
theorem tyX6_ok : ∀ k, k < 5 → parseFieldDescriptor (TX6 k).2.2.1 = some (tyX6 k) := by decide +kernel
abbrev cX6_init : ByteArray := prog_1_method_1_code
def yX6_init : MethodName := ⟨RX6, "<init>", "()V"⟩
abbrev cX6_set : ByteArray := prog_1_method_2_code
def yX6_set : MethodName := ⟨RX6, "set", "(II)I"⟩
abbrev cX6_band : ByteArray := prog_1_method_3_code
def yX6_band : MethodName := ⟨RX6, "band", "(IIII)I"⟩
abbrev cX6_creep : ByteArray := prog_1_method_4_code
def yX6_creep : MethodName := ⟨RX6, "creep", "(II)I"⟩
abbrev cX6_bandInfo : ByteArray := prog_1_method_5_code
def yX6_bandInfo : MethodName := ⟨RX6, "bandInfo", "(II)I"⟩
abbrev cX6_layer : ByteArray := prog_1_method_6_code
def yX6_layer : MethodName := ⟨RX6, "layer", "(III)I"⟩
abbrev cX6_ofYear : ByteArray := prog_1_method_7_code
def yX6_ofYear : MethodName := ⟨RX6, "ofYear", "(I)I"⟩
abbrev cX6_line : ByteArray := prog_1_method_8_code
def yX6_line : MethodName := ⟨RX6, "line", "()I"⟩
abbrev cX6_front : ByteArray := prog_1_method_9_code
def yX6_front : MethodName := ⟨RX6, "front", "(I)I"⟩
abbrev cX6_account : ByteArray := prog_1_method_10_code
def yX6_account : MethodName := ⟨RX6, "account", "(I)J"⟩
abbrev cX6_count : ByteArray := prog_1_method_11_code
def yX6_count : MethodName := ⟨RX6, "count", "(I)I"⟩
abbrev cX6_stake : ByteArray := prog_1_method_12_code
def yX6_stake : MethodName := ⟨RX6, "stake", "(III)I"⟩
abbrev cX6_pull : ByteArray := prog_1_method_13_code
def yX6_pull : MethodName := ⟨RX6, "pull", "(I)I"⟩
abbrev cX6_stakeInfo : ByteArray := prog_1_method_14_code
def yX6_stakeInfo : MethodName := ⟨RX6, "stakeInfo", "(II)I"⟩
abbrev cX6_stakesIn : ByteArray := prog_1_method_15_code
def yX6_stakesIn : MethodName := ⟨RX6, "stakesIn", "(I)I"⟩
abbrev cX6_years : ByteArray := prog_1_method_16_code
def yX6_years : MethodName := ⟨RX6, "years", "(I)I"⟩
abbrev cX6_ifYears : ByteArray := prog_1_method_17_code
def yX6_ifYears : MethodName := ⟨RX6, "ifYears", "(II)I"⟩
abbrev cX6_yearsTo : ByteArray := prog_1_method_18_code
def yX6_yearsTo : MethodName := ⟨RX6, "yearsTo", "(I)I"⟩
abbrev cX6_isSoInTrial : ByteArray := prog_1_method_19_code
def yX6_isSoInTrial : MethodName := ⟨RX6, "isSoInTrial", "(II)Z"⟩
abbrev cX6_steadyMelt : ByteArray := prog_1_method_20_code
def yX6_steadyMelt : MethodName := ⟨RX6, "steadyMelt", "()I"⟩
abbrev cX6_undo : ByteArray := prog_1_method_21_code
def yX6_undo : MethodName := ⟨RX6, "undo", "()I"⟩
abbrev cX6_recordState : ByteArray := prog_1_method_22_code
def yX6_recordState : MethodName := ⟨RX6, "recordState", "()V"⟩
abbrev cX6_dropOldestState : ByteArray := prog_1_method_23_code
def yX6_dropOldestState : MethodName := ⟨RX6, "dropOldestState", "()V"⟩
abbrev cX6_type : ByteArray := prog_1_method_24_code
def yX6_type : MethodName := ⟨RX6, "type", "(I)I"⟩
abbrev cX6_clearText : ByteArray := prog_1_method_25_code
def yX6_clearText : MethodName := ⟨RX6, "clearText", "()I"⟩
abbrev cX6_fault : ByteArray := prog_1_method_26_code
def yX6_fault : MethodName := ⟨RX6, "fault", "(I)I"⟩
abbrev cX6_live : ByteArray := prog_1_method_27_code
def yX6_live : MethodName := ⟨RX6, "live", "()I"⟩
abbrev cX6_possibleYears : ByteArray := prog_1_method_28_code
def yX6_possibleYears : MethodName := ⟨RX6, "possibleYears", "()I"⟩
abbrev cX6_reasonAt : ByteArray := prog_1_method_29_code
def yX6_reasonAt : MethodName := ⟨RX6, "reasonAt", "(II)I"⟩
abbrev cX6_isWithin : ByteArray := prog_1_method_30_code
def yX6_isWithin : MethodName := ⟨RX6, "isWithin", "(III)Z"⟩
def RX7 : String := "IceTongueModel"
def TX7 : u_T := fun k => match k with
  | 0 => ("IceTongueModel", "m", "[I", true)
  | 1 => ("IceTongueModel", "ice", "[I", true)
  | 2 => ("IceTongueModel", "accounts", "[J", true)
  | 3 => ("IceTongueModel", "spare", "[I", true)
  | 4 => ("IceTongueModel", "spareIce", "[I", true)
  | 5 => ("IceTongueModel", "spareAccounts", "[J", true)
  | 6 => ("IceTongueModel", "saved", "[I", true)
  | 7 => ("IceTongueModel", "savedIce", "[I", true)
  | 8 => ("IceTongueModel", "savedIceToo", "[I", true)
  | 9 => ("IceTongueModel", "savedAccounts", "[J", true)
  | 10 => ("IceTongueModel", "savedCount", "I", false)
  | 11 => ("IceTongueModel", "text", "[I", true)
  | 12 => ("IceTongueModel", "textLength", "I", false)
  | 13 => ("IceTongueModel", "at", "I", false)
  | 14 => ("IceTongueModel", "faultAt", "I", false)
  | 15 => ("IceTongueModel", "number", "I", false)
  | _ => ("IceTongueModel", "first", "I", false)
def tyX7 : Nat → FieldType := fun k => match k with
  | 0 => .array .int
  | 1 => .array .int
  | 2 => .array .long
  | 3 => .array .int
  | 4 => .array .int
  | 5 => .array .long
  | 6 => .array .int
  | 7 => .array .int
  | 8 => .array .int
  | 9 => .array .long
  | 10 => .int
  | 11 => .array .int
  | 12 => .int
  | 13 => .int
  | 14 => .int
  | 15 => .int
  | _ => .int
abbrev wsX70 : List Cond := u_ws RX7 TX7 17
theorem nmX7 : ∀ a, a < 17 → ∀ b, b < 17 → a ≠ b → (TX7 a).2.1 ≠ (TX7 b).2.1 := by decide +kernel
theorem tyX7_ok : ∀ k, k < 17 → parseFieldDescriptor (TX7 k).2.2.1 = some (tyX7 k) := by decide +kernel
abbrev cX7_init : ByteArray := prog_9_method_1_code
def yX7_init : MethodName := ⟨RX7, "<init>", "()V"⟩
abbrev cX7_in : ByteArray := prog_9_method_2_code
def yX7_in : MethodName := ⟨RX7, "in", "(III)Z"⟩
abbrev cX7_floor : ByteArray := prog_9_method_3_code
def yX7_floor : MethodName := ⟨RX7, "floor", "(JI)I"⟩
abbrev cX7_keptIce : ByteArray := prog_9_method_4_code
def yX7_keptIce : MethodName := ⟨RX7, "keptIce", "(II)I"⟩
abbrev cX7_keepIce : ByteArray := prog_9_method_5_code
def yX7_keepIce : MethodName := ⟨RX7, "keepIce", "(III)V"⟩
abbrev cX7_dropOldest : ByteArray := prog_9_method_6_code
def yX7_dropOldest : MethodName := ⟨RX7, "dropOldest", "()V"⟩
abbrev cX7_keep : ByteArray := prog_9_method_7_code
def yX7_keep : MethodName := ⟨RX7, "keep", "()V"⟩
abbrev cX7_undo : ByteArray := prog_9_method_8_code
def yX7_undo : MethodName := ⟨RX7, "undo", "()I"⟩
abbrev cX7_setAside : ByteArray := prog_9_method_9_code
def yX7_setAside : MethodName := ⟨RX7, "setAside", "()V"⟩
abbrev cX7_bringBack : ByteArray := prog_9_method_10_code
def yX7_bringBack : MethodName := ⟨RX7, "bringBack", "()V"⟩
abbrev cX7_of : ByteArray := prog_9_method_11_code
def yX7_of : MethodName := ⟨RX7, "of", "(II)I"⟩
abbrev cX7_put : ByteArray := prog_9_method_12_code
def yX7_put : MethodName := ⟨RX7, "put", "(III)V"⟩
abbrev cX7_ofStake : ByteArray := prog_9_method_13_code
def yX7_ofStake : MethodName := ⟨RX7, "ofStake", "(II)I"⟩
abbrev cX7_putStake : ByteArray := prog_9_method_14_code
def yX7_putStake : MethodName := ⟨RX7, "putStake", "(III)V"⟩
abbrev cX7_isBand : ByteArray := prog_9_method_15_code
def yX7_isBand : MethodName := ⟨RX7, "isBand", "(I)Z"⟩
abbrev cX7_isStake : ByteArray := prog_9_method_16_code
def yX7_isStake : MethodName := ⟨RX7, "isStake", "(I)Z"⟩
abbrev cX7_iceOf : ByteArray := prog_9_method_17_code
def yX7_iceOf : MethodName := ⟨RX7, "iceOf", "(I)I"⟩
abbrev cX7_isSetting : ByteArray := prog_9_method_18_code
def yX7_isSetting : MethodName := ⟨RX7, "isSetting", "(II)Z"⟩
abbrev cX7_set : ByteArray := prog_9_method_19_code
def yX7_set : MethodName := ⟨RX7, "set", "(II)I"⟩
abbrev cX7_band : ByteArray := prog_9_method_20_code
def yX7_band : MethodName := ⟨RX7, "band", "(IIII)I"⟩
abbrev cX7_lay : ByteArray := prog_9_method_21_code
def yX7_lay : MethodName := ⟨RX7, "lay", "(II)V"⟩
abbrev cX7_creep : ByteArray := prog_9_method_22_code
def yX7_creep : MethodName := ⟨RX7, "creep", "(II)I"⟩
abbrev cX7_snowOf : ByteArray := prog_9_method_23_code
def yX7_snowOf : MethodName := ⟨RX7, "snowOf", "(I)I"⟩
abbrev cX7_meltOf : ByteArray := prog_9_method_24_code
def yX7_meltOf : MethodName := ⟨RX7, "meltOf", "(I)I"⟩
abbrev cX7_layersOf : ByteArray := prog_9_method_25_code
def yX7_layersOf : MethodName := ⟨RX7, "layersOf", "(I)I"⟩
abbrev cX7_yearOf : ByteArray := prog_9_method_26_code
def yX7_yearOf : MethodName := ⟨RX7, "yearOf", "(II)I"⟩
abbrev cX7_found : ByteArray := prog_9_method_27_code
def yX7_found : MethodName := ⟨RX7, "found", "(I)I"⟩
abbrev cX7_infoOf : ByteArray := prog_9_method_28_code
def yX7_infoOf : MethodName := ⟨RX7, "infoOf", "(II)I"⟩
abbrev cX7_bandInfo : ByteArray := prog_9_method_29_code
def yX7_bandInfo : MethodName := ⟨RX7, "bandInfo", "(II)I"⟩
abbrev cX7_layer : ByteArray := prog_9_method_30_code
def yX7_layer : MethodName := ⟨RX7, "layer", "(III)I"⟩
abbrev cX7_leftOf : ByteArray := prog_9_method_31_code
def yX7_leftOf : MethodName := ⟨RX7, "leftOf", "(I)I"⟩
abbrev cX7_ofYear : ByteArray := prog_9_method_32_code
def yX7_ofYear : MethodName := ⟨RX7, "ofYear", "(I)I"⟩
abbrev cX7_line : ByteArray := prog_9_method_33_code
def yX7_line : MethodName := ⟨RX7, "line", "()I"⟩
abbrev cX7_front : ByteArray := prog_9_method_34_code
def yX7_front : MethodName := ⟨RX7, "front", "(I)I"⟩
abbrev cX7_allOfBands : ByteArray := prog_9_method_35_code
def yX7_allOfBands : MethodName := ⟨RX7, "allOfBands", "()I"⟩
abbrev cX7_allByYears : ByteArray := prog_9_method_36_code
def yX7_allByYears : MethodName := ⟨RX7, "allByYears", "()I"⟩
abbrev cX7_account : ByteArray := prog_9_method_37_code
def yX7_account : MethodName := ⟨RX7, "account", "(I)J"⟩
abbrev cX7_standing : ByteArray := prog_9_method_38_code
def yX7_standing : MethodName := ⟨RX7, "standing", "()I"⟩
abbrev cX7_differentYears : ByteArray := prog_9_method_39_code
def yX7_differentYears : MethodName := ⟨RX7, "differentYears", "()I"⟩
abbrev cX7_allLayers : ByteArray := prog_9_method_40_code
def yX7_allLayers : MethodName := ⟨RX7, "allLayers", "()I"⟩
abbrev cX7_count : ByteArray := prog_9_method_41_code
def yX7_count : MethodName := ⟨RX7, "count", "(I)I"⟩
abbrev cX7_stake : ByteArray := prog_9_method_42_code
def yX7_stake : MethodName := ⟨RX7, "stake", "(III)I"⟩
abbrev cX7_pull : ByteArray := prog_9_method_43_code
def yX7_pull : MethodName := ⟨RX7, "pull", "(I)I"⟩
abbrev cX7_stakeInfo : ByteArray := prog_9_method_44_code
def yX7_stakeInfo : MethodName := ⟨RX7, "stakeInfo", "(II)I"⟩
abbrev cX7_stakesIn : ByteArray := prog_9_method_45_code
def yX7_stakesIn : MethodName := ⟨RX7, "stakesIn", "(I)I"⟩
abbrev cX7_weather : ByteArray := prog_9_method_46_code
def yX7_weather : MethodName := ⟨RX7, "weather", "(I)V"⟩
abbrev cX7_gives : ByteArray := prog_9_method_47_code
def yX7_gives : MethodName := ⟨RX7, "gives", "(I)V"⟩
abbrev cX7_stepFront : ByteArray := prog_9_method_48_code
def yX7_stepFront : MethodName := ⟨RX7, "stepFront", "()V"⟩
abbrev cX7_moves : ByteArray := prog_9_method_49_code
def yX7_moves : MethodName := ⟨RX7, "moves", "(I)V"⟩
abbrev cX7_stepStake : ByteArray := prog_9_method_50_code
def yX7_stepStake : MethodName := ⟨RX7, "stepStake", "(I)V"⟩
abbrev cX7_year : ByteArray := prog_9_method_51_code
def yX7_year : MethodName := ⟨RX7, "year", "()V"⟩
abbrev cX7_goOn : ByteArray := prog_9_method_52_code
def yX7_goOn : MethodName := ⟨RX7, "goOn", "(I)V"⟩
abbrev cX7_years : ByteArray := prog_9_method_53_code
def yX7_years : MethodName := ⟨RX7, "years", "(I)I"⟩
abbrev cX7_oldest : ByteArray := prog_9_method_54_code
def yX7_oldest : MethodName := ⟨RX7, "oldest", "()I"⟩
abbrev cX7_brought : ByteArray := prog_9_method_55_code
def yX7_brought : MethodName := ⟨RX7, "brought", "(I)I"⟩
abbrev cX7_ifYears : ByteArray := prog_9_method_56_code
def yX7_ifYears : MethodName := ⟨RX7, "ifYears", "(II)I"⟩
abbrev cX7_isSo : ByteArray := prog_9_method_57_code
def yX7_isSo : MethodName := ⟨RX7, "isSo", "(II)Z"⟩
abbrev cX7_yearsTo : ByteArray := prog_9_method_58_code
def yX7_yearsTo : MethodName := ⟨RX7, "yearsTo", "(I)I"⟩
abbrev cX7_isSteady : ByteArray := prog_9_method_59_code
def yX7_isSteady : MethodName := ⟨RX7, "isSteady", "()Z"⟩
abbrev cX7_steadyMelt : ByteArray := prog_9_method_60_code
def yX7_steadyMelt : MethodName := ⟨RX7, "steadyMelt", "()I"⟩
abbrev cX7_type : ByteArray := prog_9_method_61_code
def yX7_type : MethodName := ⟨RX7, "type", "(I)I"⟩
abbrev cX7_clearText : ByteArray := prog_9_method_62_code
def yX7_clearText : MethodName := ⟨RX7, "clearText", "()I"⟩
abbrev cX7_here : ByteArray := prog_9_method_63_code
def yX7_here : MethodName := ⟨RX7, "here", "()I"⟩
abbrev cX7_readNumber : ByteArray := prog_9_method_64_code
def yX7_readNumber : MethodName := ⟨RX7, "readNumber", "(I)Z"⟩
abbrev cX7_readYear : ByteArray := prog_9_method_65_code
def yX7_readYear : MethodName := ⟨RX7, "readYear", "()Z"⟩
abbrev cX7_reason : ByteArray := prog_9_method_66_code
def yX7_reason : MethodName := ⟨RX7, "reason", "()I"⟩
abbrev cX7_fault : ByteArray := prog_9_method_67_code
def yX7_fault : MethodName := ⟨RX7, "fault", "(I)I"⟩
abbrev cX7_live : ByteArray := prog_9_method_68_code
def yX7_live : MethodName := ⟨RX7, "live", "()I"⟩
def RJx8e188 : String := "java/lang/Cloneable"
def RJ9 : String := "java/lang/Math"
abbrev cJ9_floorDiv_7cf53 : ByteArray := prog_11_method_47_code
def yJ9_floorDiv_7cf53 : MethodName := ⟨RJ9, "floorDiv", "(II)I"⟩
abbrev cJ9_max_7cf53 : ByteArray := prog_11_method_65_code
def yJ9_max_7cf53 : MethodName := ⟨RJ9, "max", "(II)I"⟩
abbrev cJ9_min_7cf53 : ByteArray := prog_11_method_69_code
def yJ9_min_7cf53 : MethodName := ⟨RJ9, "min", "(II)I"⟩
def RJ10 : String := "java/lang/System"
def RJ7 : String := "java/util/Arrays"
abbrev cJ7_fill_53178 : ByteArray := prog_13_method_103_code
def yJ7_fill_53178 : MethodName := ⟨RJ7, "fill", "([II)V"⟩
def RL : String := "IceTongueLaw"
abbrev cL_law : ByteArray := code
def yL_law : MethodName := ⟨RL, "law", "([I)Z"⟩
abbrev vwCl : List vw_C := [(RX0, TX0, 7), (RX1, TX1, 4), (RX2, TX2, 4), (RX3, TX3, 6), (RX4, TX4, 2), (RX5, TX5, 11), (RX6, TX6, 5), (RX7, TX7, 17)]
end
section
theorem sv_code_word {a : Array Value} {s : State} {x : MethodName} {bytes : ByteArray} {maxL : Nat} {ret : Option FieldType} {m : MethodId} {meth : Method} {c : Code}
    (hn : s.methodNamed? x = some m) (hm : s.vm.method? m = some meth) (hc : meth.code = some c) (h1 : c.code = bytes) (h2 : c.maxLocals = maxL) (h3 : c.exceptionTable.isEmpty = true)
    (h4 : meth.sig.returnType = ret) (h5 : meth.locks = false) (h6 : parseMethodDescriptor x.desc = some meth.sig) (h7 : c.maxStack ≤ mostOperands) : (Cond.code x bytes maxL ret).before a s = true := by
  subst h1 h2 h4
  simp [Cond.before, Cond.holds, Cond.value, hn, hm, hc, h3, h5, h6, h7]
theorem sv_hand_word {a : Array Value} {s : State} {x : MethodName} {m : MethodId} {nm ds : String} {ps : List FieldType} {ret : Option FieldType} {fl maxL : Nat} {bytes : ByteArray}
    (hn : s.methodNamed? x = some m) (hm : s.vm.method? m = some (Lib.HandJ.method nm ds ps ret fl maxL bytes)) (h5 : (Lib.HandJ.method nm ds ps ret fl maxL bytes).locks = false)
    (h6 : parseMethodDescriptor x.desc = some (Lib.HandJ.method nm ds ps ret fl maxL bytes).sig) : (Cond.code x bytes maxL ret).before a s = true :=
  sv_code_word hn hm rfl rfl rfl rfl rfl h5 h6 (by first | decide | exact Nat.le_of_ble_eq_true rfl)
def sv_isCode : Jvm.Cond → Bool
  | .code .. => true
  | _ => false
theorem sv_words {l : List Jvm.Cond} {f : Jvm.Cond → Bool} (h1 : l.all (fun c => sv_isCode c || f c) = true) (h2 : ∀ c ∈ l.filter sv_isCode, f c = true) : ∀ c ∈ l, f c = true := by
  intro c hc
  have h := List.all_eq_true.mp h1 c hc
  cases hq : sv_isCode c with
  | false => simpa [hq] using h
  | true => exact h2 c (List.mem_filter.mpr ⟨hc, hq⟩)
def sv_look {α : Type} (d : α) : List (Nat × α) → Nat → α
  | [], _ => d
  | (k, v) :: r, i => match Nat.beq k i with
    | true => v
    | false => sv_look d r i
def sv_down {α : Type} (f : Nat → α) (n : Nat) : Nat → List α
  | 0 => []
  | k + 1 => f (n - (k + 1)) :: sv_down f n k
def sv_arr {α : Type} (d : α) (ps : List (Nat × α)) (n : Nat) : Array α := ⟨sv_down (sv_look d ps) n n⟩
def sv_poolPairs : List Lib.HandW.Entry → Nat → List (Nat × CpInfo)
  | [], _ => []
  | (kind, k, cls, name, desc, c, _) :: r, b =>
    ((if kind ≤ 1 then [(k, if kind = 0 then CpInfo.fieldref b (b + 2) else CpInfo.methodref b (b + 2)), (b, CpInfo.class_ (b + 1)), (b + 1, CpInfo.utf8 (stringToUtf16 cls)), (b + 2, CpInfo.nameAndType (b + 3) (b + 4)), (b + 3, CpInfo.utf8 (stringToUtf16 name)), (b + 4, CpInfo.utf8 (stringToUtf16 desc))]
     else if kind = 2 then [(k, CpInfo.class_ b), (b, CpInfo.utf8 (stringToUtf16 cls))]
     else if kind = 3 then [(k, CpInfo.string b), (b, CpInfo.utf8 (stringToUtf16 name))]
     else if kind = 4 then [(k, CpInfo.long (UInt64.ofNat c))]
     else if kind = 5 then [(k, CpInfo.integer (UInt32.ofNat c))]
     else if kind = 6 then [(k, CpInfo.float (UInt32.ofNat c))]
     else if kind = 8 then [(k, CpInfo.interfaceMethodref b (b + 2)), (b, CpInfo.class_ (b + 1)), (b + 1, CpInfo.utf8 (stringToUtf16 cls)), (b + 2, CpInfo.nameAndType (b + 3) (b + 4)), (b + 3, CpInfo.utf8 (stringToUtf16 name)), (b + 4, CpInfo.utf8 (stringToUtf16 desc))]
     else [(k, CpInfo.double (UInt64.ofNat c))]) : List (Nat × CpInfo)) ++ sv_poolPairs r (b + 7)
def sv_resPairs : List Lib.HandW.Entry → Nat → List (Nat × Option Resolved)
  | [], _ => []
  | (kind, k, _, _, _, c, i) :: t, b =>
    ((if kind = 0 then [(k, some (Resolved.field c i)), (b, some (Resolved.cls c))]
     else if kind = 1 then [(k, some (Resolved.method ⟨c, i⟩)), (b, some (Resolved.cls c))]
     else if kind = 2 then [(k, some (Resolved.cls c))]
     else if kind = 3 then [(k, some (Resolved.string c))]
     else if kind = 8 then [(k, some (Resolved.method ⟨c, i⟩)), (b, some (Resolved.cls c))]
     else []) : List (Nat × Option Resolved)) ++ sv_resPairs t (b + 7)
def sv_own (name : String) (flags : Nat) (es : List Lib.HandW.Entry) (fs : List (String × FieldType × Nat)) (m : Method) : Class :=
  { Lib.HandJ.cls name (sv_arr CpInfo.unusable (sv_poolPairs es (Lib.HandW.top es)) (Lib.HandW.top es + 7 * es.length)) (sv_arr (none : Option Resolved) (sv_resPairs es (Lib.HandW.top es)) (Lib.HandW.top es + 7 * es.length)) flags (Lib.HandW.fieldsFrom fs 0).toArray #[m] (fs.map fun f => f.2.1).toArray with super := some 1 }
/-! ===== END general text ===== -/
/-! ALONE the witness, part 1 -/
def wd1.mLaw : Method := Lib.HandJ.method x.name x.desc [.array .int] ret 0x9 maxLocals code
/-- the class entry of a reference to an inherited member names the subclass: resolved to that class, not to the declarer's -/
def wd1.suRes (es : List (Nat × Resolved)) (c : Class) : Class := { c with resolved := es.foldl (fun r e => r.setIfInBounds e.1 (some e.2)) c.resolved }
def wd1.cObjectC : Class := { Lib.HandBits.cObject with methods := Lib.HandBits.cObject.methods ++ #[{ name := "clone", desc := "()Ljava/lang/Object;", sig := { parameters := [], returnType := some (.object "java/lang/Object") }, accessFlags := 0x104, code := none }] }
def wd1.c0 : Class := { sv_own "IceTongueLaw" 0x31
    [(2, 7, "IceTongue", "", "", 2, 0),
     (1, 9, "IceTongue", "<init>", "()V", 2, 0),
     (2, 10, "IceTongueModel", "", "", 9, 0),
     (1, 12, "IceTongueModel", "<init>", "()V", 9, 0),
     (1, 13, "IceTongue", "set", "(II)I", 2, 1),
     (1, 17, "IceTongueModel", "set", "(II)I", 9, 18),
     (1, 18, "IceTongue", "band", "(IIII)I", 2, 2),
     (1, 22, "IceTongueModel", "band", "(IIII)I", 9, 19),
     (1, 23, "IceTongue", "creep", "(II)I", 2, 3),
     (1, 26, "IceTongueModel", "creep", "(II)I", 9, 21),
     (1, 27, "IceTongue", "bandInfo", "(II)I", 2, 4),
     (1, 30, "IceTongueModel", "bandInfo", "(II)I", 9, 28),
     (1, 31, "IceTongue", "layer", "(III)I", 2, 5),
     (1, 35, "IceTongueModel", "layer", "(III)I", 9, 29),
     (1, 36, "IceTongue", "ofYear", "(I)I", 2, 6),
     (1, 40, "IceTongueModel", "ofYear", "(I)I", 9, 31),
     (1, 41, "IceTongue", "line", "()I", 2, 7),
     (1, 45, "IceTongueModel", "line", "()I", 9, 32),
     (1, 46, "IceTongue", "front", "(I)I", 2, 8),
     (1, 49, "IceTongueModel", "front", "(I)I", 9, 33),
     (1, 50, "IceTongue", "account", "(I)J", 2, 9),
     (1, 54, "IceTongueModel", "account", "(I)J", 9, 36),
     (1, 55, "IceTongue", "count", "(I)I", 2, 10),
     (1, 58, "IceTongueModel", "count", "(I)I", 9, 40),
     (1, 59, "IceTongue", "stake", "(III)I", 2, 11),
     (1, 62, "IceTongueModel", "stake", "(III)I", 9, 41),
     (1, 63, "IceTongue", "pull", "(I)I", 2, 12),
     (1, 66, "IceTongueModel", "pull", "(I)I", 9, 42),
     (1, 67, "IceTongue", "stakeInfo", "(II)I", 2, 13),
     (1, 70, "IceTongueModel", "stakeInfo", "(II)I", 9, 43),
     (1, 71, "IceTongue", "stakesIn", "(I)I", 2, 14),
     (1, 74, "IceTongueModel", "stakesIn", "(I)I", 9, 44),
     (1, 75, "IceTongue", "years", "(I)I", 2, 15),
     (1, 78, "IceTongueModel", "years", "(I)I", 9, 52),
     (1, 79, "IceTongue", "ifYears", "(II)I", 2, 16),
     (1, 82, "IceTongueModel", "ifYears", "(II)I", 9, 55),
     (1, 83, "IceTongue", "yearsTo", "(I)I", 2, 17),
     (1, 86, "IceTongueModel", "yearsTo", "(I)I", 9, 57),
     (1, 87, "IceTongue", "steadyMelt", "()I", 2, 19),
     (1, 90, "IceTongueModel", "steadyMelt", "()I", 9, 59),
     (1, 91, "IceTongue", "undo", "()I", 2, 20),
     (1, 94, "IceTongueModel", "undo", "()I", 9, 7),
     (1, 95, "IceTongue", "type", "(I)I", 2, 23),
     (1, 98, "IceTongueModel", "type", "(I)I", 9, 60),
     (1, 99, "IceTongue", "clearText", "()I", 2, 24),
     (1, 102, "IceTongueModel", "clearText", "()I", 9, 61),
     (1, 103, "IceTongue", "fault", "(I)I", 2, 25),
     (1, 106, "IceTongueModel", "fault", "(I)I", 9, 66),
     (1, 107, "IceTongue", "live", "()I", 2, 26),
     (1, 110, "IceTongueModel", "live", "()I", 9, 67)]
    [] mLaw with
  methods := #[mLaw] }
def wd1.c2 : Class := { sv_own "IceTongue" 0x31
    [(1, 3, "java/lang/Object", "<init>", "()V", 1, 0),
     (2, 9, "IceTongue$Tongue", "", "", 3, 0),
     (1, 11, "IceTongue$Tongue", "<init>", "()V", 3, 0),
     (0, 12, "IceTongue", "trial", "LIceTongue$Tongue;", 2, 0),
     (0, 16, "IceTongue", "history", "[LIceTongue$Tongue;", 2, 1),
     (2, 20, "IceTongue$Text", "", "", 8, 0),
     (1, 22, "IceTongue$Text", "<init>", "()V", 8, 0),
     (0, 23, "IceTongue", "text", "LIceTongue$Text;", 2, 2),
     (0, 27, "IceTongue", "now", "LIceTongue$Tongue;", 2, 3),
     (0, 30, "IceTongue", "states", "I", 2, 4),
     (1, 34, "IceTongue", "isWithin", "(III)Z", 2, 29),
     (5, 38, "", "", "", 2294967295, 0),
     (0, 39, "IceTongue", "LEAST_SETTING", "[I", 2, 32),
     (0, 43, "IceTongue", "MOST_SETTING", "[I", 2, 33),
     (1, 46, "IceTongue", "recordState", "()V", 2, 21),
     (0, 49, "IceTongue$Tongue", "settings", "[I", 3, 0),
     (5, 52, "", "", "", 1000000, 0),
     (1, 53, "IceTongue$Tongue", "isBelowAll", "(I)Z", 3, 4),
     (5, 57, "", "", "", 2294967294, 0),
     (0, 58, "IceTongue$Tongue", "bandCount", "I", 3, 4),
     (5, 61, "", "", "", 2294967293, 0),
     (1, 62, "IceTongue$Tongue", "addBand", "(IIII)I", 3, 5),
     (1, 66, "IceTongue$Tongue", "hasBand", "(I)Z", 3, 2),
     (0, 69, "IceTongue$Tongue", "bands", "[LIceTongue$Band;", 3, 1),
     (0, 73, "IceTongue$Band", "creep", "I", 5, 3),
     (0, 78, "IceTongue$Band", "height", "I", 5, 1),
     (0, 81, "IceTongue$Band", "length", "I", 5, 2),
     (0, 84, "IceTongue$Band", "layers", "LIceTongue$Layers;", 5, 0),
     (0, 88, "IceTongue$Layers", "ice", "I", 6, 1),
     (1, 93, "IceTongue$Layers", "number", "()I", 6, 9),
     (5, 97, "", "", "", 2294967292, 0),
     (0, 98, "IceTongue$Layers", "oldest", "I", 6, 2),
     (0, 101, "IceTongue$Layers", "latest", "I", 6, 3),
     (1, 104, "IceTongue$Tongue", "snowAt", "(I)I", 3, 10),
     (1, 108, "IceTongue$Tongue", "meltAt", "(II)I", 3, 11),
     (0, 112, "IceTongue$Band", "melted", "I", 5, 4),
     (0, 115, "IceTongue$Band", "gave", "I", 5, 5),
     (0, 118, "IceTongue$Band", "got", "I", 5, 6),
     (1, 121, "IceTongue$Layers", "yearOfLayer", "(I)I", 6, 10),
     (1, 124, "IceTongue$Layers", "leftOf", "(I)I", 6, 8),
     (1, 127, "IceTongue$Tongue", "leftOf", "(I)I", 3, 13),
     (0, 128, "IceTongue$Tongue", "front", "LIceTongue$Front;", 3, 3),
     (0, 132, "IceTongue$Front", "ice", "I", 4, 0),
     (0, 135, "IceTongue$Front", "rest", "I", 4, 1),
     (0, 138, "IceTongue$Front", "pieces", "I", 4, 2),
     (0, 141, "IceTongue$Front", "latestCalving", "I", 4, 3),
     (4, 144, "", "", "", 18446744071709551615, 0),
     (0, 146, "IceTongue$Tongue", "added", "J", 3, 7),
     (0, 150, "IceTongue$Tongue", "snowed", "J", 3, 8),
     (0, 153, "IceTongue$Tongue", "melted", "J", 3, 9),
     (0, 155, "IceTongue$Tongue", "calved", "J", 3, 10),
     (1, 158, "IceTongue$Tongue", "allIce", "()J", 3, 15),
     (1, 162, "IceTongue$Tongue", "allIceByYears", "()J", 3, 16),
     (0, 165, "IceTongue$Tongue", "year", "I", 3, 6),
     (0, 168, "IceTongue$Tongue", "stakeCount", "I", 3, 5),
     (1, 171, "IceTongue$Tongue", "standingStakes", "()I", 3, 9),
     (1, 174, "IceTongue$Tongue", "layersOfAllBands", "()I", 3, 17),
     (1, 177, "IceTongue$Tongue", "differentYears", "()I", 3, 18),
     (0, 180, "IceTongue$Text", "length", "I", 8, 1),
     (1, 181, "IceTongue$Tongue", "isStakeAt", "(II)Z", 3, 6),
     (1, 185, "IceTongue$Tongue", "addStake", "(III)I", 3, 7),
     (1, 189, "IceTongue$Tongue", "hasStake", "(I)Z", 3, 3),
     (1, 192, "IceTongue$Tongue", "removeStake", "(I)I", 3, 8),
     (0, 195, "IceTongue$Tongue", "stakes", "[LIceTongue$Stake;", 3, 2),
     (0, 199, "IceTongue$Stake", "band", "I", 7, 0),
     (0, 204, "IceTongue$Stake", "place", "I", 7, 1),
     (0, 207, "IceTongue$Stake", "depth", "I", 7, 2),
     (0, 210, "IceTongue$Stake", "change", "I", 7, 3),
     (0, 213, "IceTongue$Stake", "fate", "I", 7, 4),
     (0, 216, "IceTongue$Stake", "years", "I", 7, 5),
     (1, 219, "IceTongue$Tongue", "letYearsGoBy", "(I)V", 3, 20),
     (1, 223, "IceTongue$Tongue", "copyFrom", "(LIceTongue$Tongue;)V", 3, 1),
     (1, 227, "IceTongue$Tongue", "bandIce", "()I", 3, 14),
     (1, 230, "IceTongue$Tongue", "oldestYear", "()I", 3, 19),
     (1, 233, "IceTongue$Tongue", "letYearGoBy", "()V", 3, 21),
     (1, 236, "IceTongue", "isSoInTrial", "(II)Z", 2, 18),
     (1, 239, "IceTongue$Tongue", "snowOutweighsMelt", "(I)Z", 3, 12),
     (1, 242, "IceTongue", "dropOldestState", "()V", 2, 22),
     (1, 245, "IceTongue$Text", "append", "(C)V", 8, 1),
     (1, 249, "IceTongue", "possibleYears", "()I", 2, 27),
     (1, 252, "IceTongue$Text", "startOfYear", "(I)I", 8, 9),
     (1, 255, "IceTongue", "reasonAt", "(II)I", 2, 28),
     (1, 258, "IceTongue$Text", "snowOfYear", "(I)I", 8, 7),
     (1, 261, "IceTongue$Text", "meltOfYear", "(I)I", 8, 8),
     (1, 264, "IceTongue$Text", "endOfYear", "(I)I", 8, 6)]
    [("trial", .object "IceTongue$Tongue", 0x12), ("history", .array (.object "IceTongue$Tongue"), 0x12), ("text", .object "IceTongue$Text", 0x12), ("now", .object "IceTongue$Tongue", 0x2), ("states", .int, 0x2)] (Lib.HandJ.method "<init>" "()V" [] none 0x1 2 prog_1_method_1_code) with
  methods := #[Lib.HandJ.method "<init>" "()V" [] none 0x1 2 prog_1_method_1_code,
    Lib.HandJ.method "set" "(II)I" [.int, .int] (some .int) 0x1 4 prog_1_method_2_code,
    Lib.HandJ.method "band" "(IIII)I" [.int, .int, .int, .int] (some .int) 0x1 5 prog_1_method_3_code,
    Lib.HandJ.method "creep" "(II)I" [.int, .int] (some .int) 0x1 4 prog_1_method_4_code,
    Lib.HandJ.method "bandInfo" "(II)I" [.int, .int] (some .int) 0x1 4 prog_1_method_5_code,
    Lib.HandJ.method "layer" "(III)I" [.int, .int, .int] (some .int) 0x1 6 prog_1_method_6_code,
    Lib.HandJ.method "ofYear" "(I)I" [.int] (some .int) 0x1 2 prog_1_method_7_code,
    Lib.HandJ.method "line" "()I" [] (some .int) 0x1 3 prog_1_method_8_code,
    Lib.HandJ.method "front" "(I)I" [.int] (some .int) 0x1 2 prog_1_method_9_code,
    Lib.HandJ.method "account" "(I)J" [.int] (some .long) 0x1 2 prog_1_method_10_code,
    Lib.HandJ.method "count" "(I)I" [.int] (some .int) 0x1 2 prog_1_method_11_code,
    Lib.HandJ.method "stake" "(III)I" [.int, .int, .int] (some .int) 0x1 4 prog_1_method_12_code,
    Lib.HandJ.method "pull" "(I)I" [.int] (some .int) 0x1 2 prog_1_method_13_code,
    Lib.HandJ.method "stakeInfo" "(II)I" [.int, .int] (some .int) 0x1 4 prog_1_method_14_code,
    Lib.HandJ.method "stakesIn" "(I)I" [.int] (some .int) 0x1 4 prog_1_method_15_code,
    Lib.HandJ.method "years" "(I)I" [.int] (some .int) 0x1 3 prog_1_method_16_code,
    Lib.HandJ.method "ifYears" "(II)I" [.int, .int] (some .int) 0x1 3 prog_1_method_17_code,
    Lib.HandJ.method "yearsTo" "(I)I" [.int] (some .int) 0x1 4 prog_1_method_18_code,
    Lib.HandJ.method "isSoInTrial" "(II)Z" [.int, .int] (some .boolean) 0x2 3 prog_1_method_19_code,
    Lib.HandJ.method "steadyMelt" "()I" [] (some .int) 0x1 3 prog_1_method_20_code,
    Lib.HandJ.method "undo" "()I" [] (some .int) 0x1 2 prog_1_method_21_code,
    Lib.HandJ.method "recordState" "()V" [] none 0x2 1 prog_1_method_22_code,
    Lib.HandJ.method "dropOldestState" "()V" [] none 0x2 3 prog_1_method_23_code,
    Lib.HandJ.method "type" "(I)I" [.int] (some .int) 0x1 2 prog_1_method_24_code,
    Lib.HandJ.method "clearText" "()I" [] (some .int) 0x1 2 prog_1_method_25_code,
    Lib.HandJ.method "fault" "(I)I" [.int] (some .int) 0x1 4 prog_1_method_26_code,
    Lib.HandJ.method "live" "()I" [] (some .int) 0x1 4 prog_1_method_27_code,
    Lib.HandJ.method "possibleYears" "()I" [] (some .int) 0x2 3 prog_1_method_28_code,
    Lib.HandJ.method "reasonAt" "(II)I" [.int, .int] (some .int) 0x2 3 prog_1_method_29_code,
    Lib.HandJ.method "isWithin" "(III)Z" [.int, .int, .int] (some .boolean) 0xa 3 prog_1_method_30_code],
  fields := (Lib.HandW.fieldsFrom [("trial", .object "IceTongue$Tongue", 0x12), ("history", .array (.object "IceTongue$Tongue"), 0x12), ("text", .object "IceTongue$Text", 0x12), ("now", .object "IceTongue$Tongue", 0x2), ("states", .int, 0x2)] 0).toArray ++ #[{ name := "INVALID_ARGUMENT", type := .int, accessFlags := 0x19, slot := 0, constantValue := 0 }, { name := "NOT_POSSIBLE", type := .int, accessFlags := 0x19, slot := 1, constantValue := 0 }, { name := "LIMIT_REACHED", type := .int, accessFlags := 0x19, slot := 2, constantValue := 0 }, { name := "NOT_FOUND", type := .int, accessFlags := 0x19, slot := 3, constantValue := 0 }, { name := "MOST_BANDS", type := .int, accessFlags := 0x1a, slot := 4, constantValue := 0 }, { name := "MOST_HEIGHT", type := .int, accessFlags := 0x1a, slot := 5, constantValue := 0 }, { name := "LEAST_LENGTH", type := .int, accessFlags := 0x1a, slot := 6, constantValue := 0 }, { name := "MOST_LENGTH", type := .int, accessFlags := 0x1a, slot := 7, constantValue := 0 }, { name := "MOST_CREEP", type := .int, accessFlags := 0x1a, slot := 8, constantValue := 0 }, { name := "MOST_ICE", type := .int, accessFlags := 0x1a, slot := 9, constantValue := 0 }, { name := "MOST_STAKES", type := .int, accessFlags := 0x1a, slot := 10, constantValue := 0 }, { name := "MOST_DEPTH", type := .int, accessFlags := 0x1a, slot := 11, constantValue := 0 }, { name := "MOST_STATES", type := .int, accessFlags := 0x1a, slot := 12, constantValue := 0 }, { name := "MOST_SIGNS", type := .int, accessFlags := 0x1a, slot := 13, constantValue := 0 }, { name := "MOST_DIGITS", type := .int, accessFlags := 0x1a, slot := 14, constantValue := 0 }, { name := "LAST_YEAR", type := .int, accessFlags := 0x1a, slot := 15, constantValue := 0 }, { name := "YEARS_AT_ONCE", type := .int, accessFlags := 0x1a, slot := 16, constantValue := 0 }, { name := "YEARS_AHEAD", type := .int, accessFlags := 0x1a, slot := 17, constantValue := 0 }, { name := "ROOM_FOR_YEARS", type := .int, accessFlags := 0x1a, slot := 18, constantValue := 0 }, { name := "SNOW", type := .int, accessFlags := 0x1a, slot := 19, constantValue := 0 }, { name := "GROWTH", type := .int, accessFlags := 0x1a, slot := 20, constantValue := 0 }, { name := "MELT", type := .int, accessFlags := 0x1a, slot := 21, constantValue := 0 }, { name := "FALL", type := .int, accessFlags := 0x1a, slot := 22, constantValue := 0 }, { name := "MIDDLE", type := .int, accessFlags := 0x1a, slot := 23, constantValue := 0 }, { name := "PIECE", type := .int, accessFlags := 0x1a, slot := 24, constantValue := 0 }, { name := "REST", type := .int, accessFlags := 0x1a, slot := 25, constantValue := 0 }, { name := "SETTINGS", type := .int, accessFlags := 0x1a, slot := 26, constantValue := 0 }, { name := "LEAST_SETTING", type := .array .int, accessFlags := 0x1a, slot := 27, constantValue := 0 }, { name := "MOST_SETTING", type := .array .int, accessFlags := 0x1a, slot := 28, constantValue := 0 }, { name := "FIRST_SETTING", type := .array .int, accessFlags := 0x1a, slot := 29, constantValue := 0 }, { name := "FIRST_STEP", type := .int, accessFlags := 0x1a, slot := 30, constantValue := 0 }, { name := "STANDS", type := .int, accessFlags := 0x1a, slot := 31, constantValue := 0 }, { name := "MELTED_OUT", type := .int, accessFlags := 0x1a, slot := 32, constantValue := 0 }, { name := "FALLEN", type := .int, accessFlags := 0x1a, slot := 33, constantValue := 0 }, { name := "NO_FAULT", type := .int, accessFlags := 0x1a, slot := 34, constantValue := 0 }, { name := "WRONG_FORM", type := .int, accessFlags := 0x1a, slot := 35, constantValue := 0 }, { name := "OUT_OF_RANGE", type := .int, accessFlags := 0x1a, slot := 36, constantValue := 0 }, { name := "TOO_LATE", type := .int, accessFlags := 0x1a, slot := 37, constantValue := 0 }],
  staticTypes := #[.int, .int, .int, .int, .int, .int, .int, .int, .int, .int, .int, .int, .int, .int, .int, .int, .int, .int, .int, .int, .int, .int, .int, .int, .int, .int, .int, .array .int, .array .int, .array .int, .int, .int, .int, .int, .int, .int, .int, .int],
  statics := some 1 }
def wd1.c3 : Class := suRes [(216, .cls 15)] <| { sv_own "IceTongue$Tongue" 0x30
    [(1, 3, "java/lang/Object", "<init>", "()V", 1, 0),
     (0, 9, "IceTongue", "FIRST_SETTING", "[I", 2, 34),
     (1, 13, "[I", "clone", "()Ljava/lang/Object;", 1, 1),
     (2, 14, "[I", "", "", 15, 0),
     (0, 18, "IceTongue$Tongue", "settings", "[I", 3, 0),
     (2, 23, "IceTongue$Band", "", "", 5, 0),
     (0, 25, "IceTongue$Tongue", "bands", "[LIceTongue$Band;", 3, 1),
     (2, 29, "IceTongue$Stake", "", "", 7, 0),
     (0, 31, "IceTongue$Tongue", "stakes", "[LIceTongue$Stake;", 3, 2),
     (2, 35, "IceTongue$Front", "", "", 4, 0),
     (1, 37, "IceTongue$Front", "<init>", "()V", 4, 0),
     (0, 38, "IceTongue$Tongue", "front", "LIceTongue$Front;", 3, 3),
     (0, 42, "IceTongue$Tongue", "bandCount", "I", 3, 4),
     (0, 46, "IceTongue$Tongue", "stakeCount", "I", 3, 5),
     (0, 49, "IceTongue$Tongue", "year", "I", 3, 6),
     (0, 52, "IceTongue$Tongue", "added", "J", 3, 7),
     (0, 56, "IceTongue$Tongue", "snowed", "J", 3, 8),
     (0, 59, "IceTongue$Tongue", "melted", "J", 3, 9),
     (0, 62, "IceTongue$Tongue", "calved", "J", 3, 10),
     (1, 65, "IceTongue$Band", "<init>", "()V", 5, 0),
     (1, 66, "IceTongue$Stake", "<init>", "()V", 7, 0),
     (1, 67, "java/lang/System", "arraycopy", "(Ljava/lang/Object;ILjava/lang/Object;II)V", 10, 0),
     (1, 73, "IceTongue$Band", "copyFrom", "(LIceTongue$Band;)V", 5, 2),
     (1, 77, "IceTongue$Stake", "copyFrom", "(LIceTongue$Stake;)V", 7, 2),
     (1, 80, "IceTongue$Front", "copyFrom", "(LIceTongue$Front;)V", 4, 1),
     (0, 83, "IceTongue$Band", "height", "I", 5, 1),
     (1, 86, "IceTongue$Band", "begin", "(III)V", 5, 1),
     (0, 90, "IceTongue$Band", "layers", "LIceTongue$Layers;", 5, 0),
     (1, 94, "IceTongue$Layers", "add", "(II)V", 6, 3),
     (0, 100, "IceTongue$Stake", "fate", "I", 7, 4),
     (0, 103, "IceTongue$Stake", "band", "I", 7, 0),
     (0, 106, "IceTongue$Stake", "place", "I", 7, 1),
     (1, 109, "IceTongue$Stake", "begin", "(III)V", 7, 1),
     (0, 110, "IceTongue$Stake", "change", "I", 7, 3),
     (1, 113, "java/lang/Math", "floorDiv", "(II)I", 12, 0),
     (1, 119, "java/lang/Math", "max", "(II)I", 12, 1),
     (1, 122, "IceTongue$Tongue", "snowAt", "(I)I", 3, 10),
     (1, 126, "IceTongue$Tongue", "meltAt", "(II)I", 3, 11),
     (1, 129, "IceTongue$Layers", "leftOf", "(I)I", 6, 8),
     (0, 132, "IceTongue$Layers", "ice", "I", 6, 1),
     (1, 135, "IceTongue$Tongue", "bandIce", "()I", 3, 14),
     (0, 139, "IceTongue$Front", "ice", "I", 4, 0),
     (1, 140, "IceTongue$Tongue", "leftOf", "(I)I", 3, 13),
     (1, 141, "IceTongue$Layers", "number", "()I", 6, 9),
     (0, 144, "IceTongue$Layers", "oldest", "I", 6, 2),
     (1, 147, "java/lang/Math", "min", "(II)I", 12, 2),
     (1, 150, "IceTongue$Tongue", "letYearGoBy", "()V", 3, 21),
     (1, 153, "IceTongue$Tongue", "snowAndMelt", "(LIceTongue$Band;)V", 3, 22),
     (1, 156, "IceTongue$Tongue", "creepDown", "()V", 3, 23),
     (1, 159, "IceTongue$Front", "calve", "(III)I", 4, 2),
     (1, 163, "IceTongue$Tongue", "ride", "(LIceTongue$Stake;)V", 3, 24),
     (1, 166, "IceTongue$Layers", "takeFromLatest", "(I)I", 6, 4),
     (0, 169, "IceTongue$Band", "melted", "I", 5, 4),
     (1, 171, "IceTongue$Band", "iceToGive", "()I", 5, 3),
     (0, 174, "IceTongue$Band", "gave", "I", 5, 5),
     (1, 177, "IceTongue$Layers", "giveFromOldest", "(ILIceTongue$Layers;)V", 6, 5),
     (0, 181, "IceTongue$Band", "got", "I", 5, 6),
     (1, 184, "IceTongue$Tongue", "hasBand", "(I)Z", 3, 2),
     (0, 188, "IceTongue$Stake", "years", "I", 7, 5),
     (0, 191, "IceTongue$Stake", "depth", "I", 7, 2),
     (1, 194, "IceTongue$Band", "way", "()I", 5, 4),
     (1, 197, "IceTongue$Tongue", "moveDown", "(LIceTongue$Stake;I)V", 3, 25),
     (0, 201, "IceTongue$Band", "length", "I", 5, 2)]
    [("settings", .array .int, 0x10), ("bands", .array (.object "IceTongue$Band"), 0x10), ("stakes", .array (.object "IceTongue$Stake"), 0x10), ("front", .object "IceTongue$Front", 0x10), ("bandCount", .int, 0x0), ("stakeCount", .int, 0x0), ("year", .int, 0x0), ("added", .long, 0x0), ("snowed", .long, 0x0), ("melted", .long, 0x0), ("calved", .long, 0x0)] (Lib.HandJ.method "<init>" "()V" [] none 0x0 2 prog_7_method_1_code) with
  methods := #[Lib.HandJ.method "<init>" "()V" [] none 0x0 2 prog_7_method_1_code,
    Lib.HandJ.method "copyFrom" "(LIceTongue$Tongue;)V" [.object "IceTongue$Tongue"] none 0x0 3 prog_7_method_2_code,
    Lib.HandJ.method "hasBand" "(I)Z" [.int] (some .boolean) 0x0 2 prog_7_method_3_code,
    Lib.HandJ.method "hasStake" "(I)Z" [.int] (some .boolean) 0x0 2 prog_7_method_4_code,
    Lib.HandJ.method "isBelowAll" "(I)Z" [.int] (some .boolean) 0x0 2 prog_7_method_5_code,
    Lib.HandJ.method "addBand" "(IIII)I" [.int, .int, .int, .int] (some .int) 0x0 6 prog_7_method_6_code,
    Lib.HandJ.method "isStakeAt" "(II)Z" [.int, .int] (some .boolean) 0x0 4 prog_7_method_7_code,
    Lib.HandJ.method "addStake" "(III)I" [.int, .int, .int] (some .int) 0x0 5 prog_7_method_8_code,
    Lib.HandJ.method "removeStake" "(I)I" [.int] (some .int) 0x0 4 prog_7_method_9_code,
    Lib.HandJ.method "standingStakes" "()I" [] (some .int) 0x0 3 prog_7_method_10_code,
    Lib.HandJ.method "snowAt" "(I)I" [.int] (some .int) 0x0 3 prog_7_method_11_code,
    Lib.HandJ.method "meltAt" "(II)I" [.int, .int] (some .int) 0x0 4 prog_7_method_12_code,
    Lib.HandJ.method "snowOutweighsMelt" "(I)Z" [.int] (some .boolean) 0x0 4 prog_7_method_13_code,
    Lib.HandJ.method "leftOf" "(I)I" [.int] (some .int) 0x0 4 prog_7_method_14_code,
    Lib.HandJ.method "bandIce" "()I" [] (some .int) 0x0 3 prog_7_method_15_code,
    Lib.HandJ.method "allIce" "()J" [] (some .long) 0x0 1 prog_7_method_16_code,
    Lib.HandJ.method "allIceByYears" "()J" [] (some .long) 0x0 4 prog_7_method_17_code,
    Lib.HandJ.method "layersOfAllBands" "()I" [] (some .int) 0x0 3 prog_7_method_18_code,
    Lib.HandJ.method "differentYears" "()I" [] (some .int) 0x0 3 prog_7_method_19_code,
    Lib.HandJ.method "oldestYear" "()I" [] (some .int) 0x0 3 prog_7_method_20_code,
    Lib.HandJ.method "letYearsGoBy" "(I)V" [.int] none 0x0 3 prog_7_method_21_code,
    Lib.HandJ.method "letYearGoBy" "()V" [] none 0x0 2 prog_7_method_22_code,
    Lib.HandJ.method "snowAndMelt" "(LIceTongue$Band;)V" [.object "IceTongue$Band"] none 0x2 3 prog_7_method_23_code,
    Lib.HandJ.method "creepDown" "()V" [] none 0x2 3 prog_7_method_24_code,
    Lib.HandJ.method "ride" "(LIceTongue$Stake;)V" [.object "IceTongue$Stake"] none 0x2 3 prog_7_method_25_code,
    Lib.HandJ.method "moveDown" "(LIceTongue$Stake;I)V" [.object "IceTongue$Stake", .int] none 0x2 5 prog_7_method_26_code],
  nestHost := some 2 }
def wd1.c4 : Class := { sv_own "IceTongue$Front" 0x30
    [(1, 1, "java/lang/Object", "<init>", "()V", 1, 0),
     (0, 7, "IceTongue$Front", "ice", "I", 4, 0),
     (0, 13, "IceTongue$Front", "rest", "I", 4, 1),
     (0, 16, "IceTongue$Front", "pieces", "I", 4, 2),
     (0, 19, "IceTongue$Front", "latestCalving", "I", 4, 3)]
    [("ice", .int, 0x0), ("rest", .int, 0x0), ("pieces", .int, 0x0), ("latestCalving", .int, 0x0)] (Lib.HandJ.method "<init>" "()V" [] none 0x2 1 prog_3_method_1_code) with
  methods := #[Lib.HandJ.method "<init>" "()V" [] none 0x2 1 prog_3_method_1_code,
    Lib.HandJ.method "copyFrom" "(LIceTongue$Front;)V" [.object "IceTongue$Front"] none 0x0 2 prog_3_method_2_code,
    Lib.HandJ.method "calve" "(III)I" [.int, .int, .int] (some .int) 0x0 5 prog_3_method_3_code],
  nestHost := some 2 }
def wd1.c5 : Class := { sv_own "IceTongue$Band" 0x30
    [(1, 1, "java/lang/Object", "<init>", "()V", 1, 0),
     (2, 7, "IceTongue$Layers", "", "", 6, 0),
     (1, 9, "IceTongue$Layers", "<init>", "()V", 6, 0),
     (0, 10, "IceTongue$Band", "layers", "LIceTongue$Layers;", 5, 0),
     (0, 16, "IceTongue$Band", "height", "I", 5, 1),
     (0, 20, "IceTongue$Band", "length", "I", 5, 2),
     (0, 23, "IceTongue$Band", "creep", "I", 5, 3),
     (0, 26, "IceTongue$Band", "melted", "I", 5, 4),
     (0, 29, "IceTongue$Band", "gave", "I", 5, 5),
     (0, 32, "IceTongue$Band", "got", "I", 5, 6),
     (1, 35, "IceTongue$Layers", "empty", "()V", 6, 2),
     (1, 38, "IceTongue$Layers", "copyFrom", "(LIceTongue$Layers;)V", 6, 1),
     (0, 42, "IceTongue$Layers", "ice", "I", 6, 1),
     (4, 45, "", "", "", 1000, 0)]
    [("layers", .object "IceTongue$Layers", 0x10), ("height", .int, 0x0), ("length", .int, 0x0), ("creep", .int, 0x0), ("melted", .int, 0x0), ("gave", .int, 0x0), ("got", .int, 0x0)] (Lib.HandJ.method "<init>" "()V" [] none 0x2 1 prog_2_method_1_code) with
  methods := #[Lib.HandJ.method "<init>" "()V" [] none 0x2 1 prog_2_method_1_code,
    Lib.HandJ.method "begin" "(III)V" [.int, .int, .int] none 0x0 4 prog_2_method_2_code,
    Lib.HandJ.method "copyFrom" "(LIceTongue$Band;)V" [.object "IceTongue$Band"] none 0x0 2 prog_2_method_3_code,
    Lib.HandJ.method "iceToGive" "()I" [] (some .int) 0x0 1 prog_2_method_4_code,
    Lib.HandJ.method "way" "()I" [] (some .int) 0x0 1 prog_2_method_5_code],
  nestHost := some 2 }
def wd1.c6 : Class := { sv_own "IceTongue$Layers" 0x30
    [(1, 3, "java/lang/Object", "<init>", "()V", 1, 0),
     (0, 9, "IceTongue$Layers", "left", "[I", 6, 0),
     (0, 15, "IceTongue$Layers", "ice", "I", 6, 1),
     (0, 19, "IceTongue$Layers", "oldest", "I", 6, 2),
     (0, 22, "IceTongue$Layers", "latest", "I", 6, 3),
     (1, 25, "java/lang/System", "arraycopy", "(Ljava/lang/Object;ILjava/lang/Object;II)V", 10, 0),
     (1, 31, "java/util/Arrays", "fill", "([II)V", 11, 0),
     (1, 37, "IceTongue$Layers", "narrow", "()V", 6, 7),
     (1, 40, "java/lang/Math", "min", "(II)I", 12, 2),
     (1, 46, "java/lang/Math", "max", "(II)I", 12, 1),
     (1, 49, "IceTongue$Layers", "takeOfYear", "(II)I", 6, 6),
     (1, 52, "IceTongue$Layers", "add", "(II)V", 6, 3),
     (1, 56, "IceTongue$Layers", "leftOf", "(I)I", 6, 8)]
    [("left", .array .int, 0x10), ("ice", .int, 0x0), ("oldest", .int, 0x0), ("latest", .int, 0x0)] (Lib.HandJ.method "<init>" "()V" [] none 0x2 1 prog_4_method_1_code) with
  methods := #[Lib.HandJ.method "<init>" "()V" [] none 0x2 1 prog_4_method_1_code,
    Lib.HandJ.method "copyFrom" "(LIceTongue$Layers;)V" [.object "IceTongue$Layers"] none 0x0 2 prog_4_method_2_code,
    Lib.HandJ.method "empty" "()V" [] none 0x0 1 prog_4_method_3_code,
    Lib.HandJ.method "add" "(II)V" [.int, .int] none 0x0 3 prog_4_method_4_code,
    Lib.HandJ.method "takeFromLatest" "(I)I" [.int] (some .int) 0x0 5 prog_4_method_5_code,
    Lib.HandJ.method "giveFromOldest" "(ILIceTongue$Layers;)V" [.int, .object "IceTongue$Layers"] none 0x0 6 prog_4_method_6_code,
    Lib.HandJ.method "takeOfYear" "(II)I" [.int, .int] (some .int) 0x2 4 prog_4_method_7_code,
    Lib.HandJ.method "narrow" "()V" [] none 0x2 1 prog_4_method_8_code,
    Lib.HandJ.method "leftOf" "(I)I" [.int] (some .int) 0x0 2 prog_4_method_9_code,
    Lib.HandJ.method "number" "()I" [] (some .int) 0x0 3 prog_4_method_10_code,
    Lib.HandJ.method "yearOfLayer" "(I)I" [.int] (some .int) 0x0 4 prog_4_method_11_code],
  nestHost := some 2 }
def wd1.c7 : Class := { sv_own "IceTongue$Stake" 0x30
    [(1, 3, "java/lang/Object", "<init>", "()V", 1, 0),
     (0, 9, "IceTongue$Stake", "band", "I", 7, 0),
     (0, 15, "IceTongue$Stake", "place", "I", 7, 1),
     (0, 18, "IceTongue$Stake", "depth", "I", 7, 2),
     (0, 21, "IceTongue$Stake", "change", "I", 7, 3),
     (0, 24, "IceTongue$Stake", "fate", "I", 7, 4),
     (0, 27, "IceTongue$Stake", "years", "I", 7, 5)]
    [("band", .int, 0x0), ("place", .int, 0x0), ("depth", .int, 0x0), ("change", .int, 0x0), ("fate", .int, 0x0), ("years", .int, 0x0)] (Lib.HandJ.method "<init>" "()V" [] none 0x2 1 prog_5_method_1_code) with
  methods := #[Lib.HandJ.method "<init>" "()V" [] none 0x2 1 prog_5_method_1_code,
    Lib.HandJ.method "begin" "(III)V" [.int, .int, .int] none 0x0 4 prog_5_method_2_code,
    Lib.HandJ.method "copyFrom" "(LIceTongue$Stake;)V" [.object "IceTongue$Stake"] none 0x0 2 prog_5_method_3_code],
  nestHost := some 2 }
def wd1.c8 : Class := { sv_own "IceTongue$Text" 0x30
    [(1, 3, "java/lang/Object", "<init>", "()V", 1, 0),
     (0, 9, "IceTongue$Text", "signs", "[C", 8, 0),
     (0, 15, "IceTongue$Text", "length", "I", 8, 1),
     (1, 19, "IceTongue$Text", "isDigitAt", "(I)Z", 8, 3),
     (1, 23, "IceTongue$Text", "endOfNumber", "(I)I", 8, 4),
     (1, 27, "IceTongue$Text", "isSignAt", "(IC)Z", 8, 2),
     (1, 31, "IceTongue$Text", "numberAt", "(I)I", 8, 5),
     (1, 34, "IceTongue$Text", "endOfYear", "(I)I", 8, 6)]
    [("signs", .array .char, 0x10), ("length", .int, 0x0)] (Lib.HandJ.method "<init>" "()V" [] none 0x2 1 prog_6_method_1_code) with
  methods := #[Lib.HandJ.method "<init>" "()V" [] none 0x2 1 prog_6_method_1_code,
    Lib.HandJ.method "append" "(C)V" [.char] none 0x0 2 prog_6_method_2_code,
    Lib.HandJ.method "isSignAt" "(IC)Z" [.int, .char] (some .boolean) 0x2 3 prog_6_method_3_code,
    Lib.HandJ.method "isDigitAt" "(I)Z" [.int] (some .boolean) 0x2 2 prog_6_method_4_code,
    Lib.HandJ.method "endOfNumber" "(I)I" [.int] (some .int) 0x2 3 prog_6_method_5_code,
    Lib.HandJ.method "numberAt" "(I)I" [.int] (some .int) 0x2 5 prog_6_method_6_code,
    Lib.HandJ.method "endOfYear" "(I)I" [.int] (some .int) 0x0 4 prog_6_method_7_code,
    Lib.HandJ.method "snowOfYear" "(I)I" [.int] (some .int) 0x0 2 prog_6_method_8_code,
    Lib.HandJ.method "meltOfYear" "(I)I" [.int] (some .int) 0x0 2 prog_6_method_9_code,
    Lib.HandJ.method "startOfYear" "(I)I" [.int] (some .int) 0x0 4 prog_6_method_10_code],
  nestHost := some 2 }
def wd1.c9 : Class := { sv_own "IceTongueModel" 0x31
    [(1, 1, "java/lang/Object", "<init>", "()V", 1, 0),
     (0, 7, "IceTongueModel", "m", "[I", 9, 0),
     (0, 13, "IceTongueModel", "ice", "[I", 9, 1),
     (0, 16, "IceTongueModel", "accounts", "[J", 9, 2),
     (0, 20, "IceTongueModel", "spare", "[I", 9, 3),
     (0, 23, "IceTongueModel", "spareIce", "[I", 9, 4),
     (0, 26, "IceTongueModel", "spareAccounts", "[J", 9, 5),
     (0, 29, "IceTongueModel", "saved", "[I", 9, 6),
     (0, 32, "IceTongueModel", "savedIce", "[I", 9, 7),
     (0, 35, "IceTongueModel", "savedIceToo", "[I", 9, 8),
     (0, 38, "IceTongueModel", "savedAccounts", "[J", 9, 9),
     (0, 41, "IceTongueModel", "text", "[I", 9, 11),
     (1, 44, "IceTongueModel", "keptIce", "(II)I", 9, 3),
     (1, 48, "IceTongueModel", "keepIce", "(III)V", 9, 4),
     (0, 52, "IceTongueModel", "savedCount", "I", 9, 10),
     (1, 56, "IceTongueModel", "dropOldest", "()V", 9, 5),
     (5, 59, "", "", "", 2294967294, 0),
     (1, 60, "IceTongueModel", "in", "(III)Z", 9, 1),
     (5, 64, "", "", "", 1000000, 0),
     (1, 65, "IceTongueModel", "isSetting", "(II)Z", 9, 17),
     (5, 69, "", "", "", 2294967295, 0),
     (1, 70, "IceTongueModel", "keep", "()V", 9, 6),
     (1, 73, "IceTongueModel", "of", "(II)I", 9, 10),
     (5, 76, "", "", "", 2294967293, 0),
     (1, 77, "IceTongueModel", "put", "(III)V", 9, 11),
     (1, 80, "IceTongueModel", "lay", "(II)V", 9, 20),
     (1, 84, "IceTongueModel", "isBand", "(I)Z", 9, 14),
     (1, 88, "IceTongueModel", "floor", "(JI)I", 9, 2),
     (5, 92, "", "", "", 2294967292, 0),
     (1, 93, "IceTongueModel", "iceOf", "(I)I", 9, 16),
     (1, 97, "IceTongueModel", "layersOf", "(I)I", 9, 24),
     (1, 100, "IceTongueModel", "yearOf", "(II)I", 9, 25),
     (1, 103, "IceTongueModel", "found", "(I)I", 9, 26),
     (1, 106, "IceTongueModel", "snowOf", "(I)I", 9, 22),
     (1, 109, "IceTongueModel", "meltOf", "(I)I", 9, 23),
     (1, 112, "IceTongueModel", "infoOf", "(II)I", 9, 27),
     (1, 115, "IceTongueModel", "leftOf", "(I)I", 9, 30),
     (4, 118, "", "", "", 18446744071709551615, 0),
     (1, 120, "IceTongueModel", "allOfBands", "()I", 9, 34),
     (1, 124, "IceTongueModel", "allByYears", "()I", 9, 35),
     (1, 127, "IceTongueModel", "ofStake", "(II)I", 9, 12),
     (1, 130, "IceTongueModel", "standing", "()I", 9, 37),
     (1, 133, "IceTongueModel", "allLayers", "()I", 9, 39),
     (1, 136, "IceTongueModel", "differentYears", "()I", 9, 38),
     (0, 139, "IceTongueModel", "textLength", "I", 9, 12),
     (1, 142, "IceTongueModel", "putStake", "(III)V", 9, 13),
     (1, 145, "IceTongueModel", "isStake", "(I)Z", 9, 15),
     (4, 148, "", "", "", 1000, 0),
     (1, 150, "IceTongueModel", "moves", "(I)V", 9, 48),
     (1, 154, "IceTongueModel", "weather", "(I)V", 9, 45),
     (1, 157, "IceTongueModel", "gives", "(I)V", 9, 46),
     (1, 160, "IceTongueModel", "stepFront", "()V", 9, 47),
     (1, 163, "IceTongueModel", "stepStake", "(I)V", 9, 49),
     (1, 166, "IceTongueModel", "year", "()V", 9, 50),
     (1, 169, "IceTongueModel", "goOn", "(I)V", 9, 51),
     (1, 172, "IceTongueModel", "oldest", "()I", 9, 53),
     (1, 175, "IceTongueModel", "setAside", "()V", 9, 8),
     (1, 178, "IceTongueModel", "brought", "(I)I", 9, 54),
     (1, 181, "IceTongueModel", "bringBack", "()V", 9, 9),
     (1, 184, "IceTongueModel", "isSo", "(II)Z", 9, 56),
     (1, 187, "IceTongueModel", "isSteady", "()Z", 9, 58),
     (0, 191, "IceTongueModel", "at", "I", 9, 13),
     (0, 194, "IceTongueModel", "number", "I", 9, 15),
     (1, 197, "IceTongueModel", "here", "()I", 9, 62),
     (1, 200, "IceTongueModel", "readNumber", "(I)Z", 9, 63),
     (0, 203, "IceTongueModel", "first", "I", 9, 16),
     (0, 206, "IceTongueModel", "faultAt", "I", 9, 14),
     (1, 209, "IceTongueModel", "readYear", "()Z", 9, 64),
     (1, 212, "IceTongueModel", "reason", "()I", 9, 65)]
    [("m", .array .int, 0x12), ("ice", .array .int, 0x12), ("accounts", .array .long, 0x12), ("spare", .array .int, 0x12), ("spareIce", .array .int, 0x12), ("spareAccounts", .array .long, 0x12), ("saved", .array .int, 0x12), ("savedIce", .array .int, 0x12), ("savedIceToo", .array .int, 0x12), ("savedAccounts", .array .long, 0x12), ("savedCount", .int, 0x2), ("text", .array .int, 0x12), ("textLength", .int, 0x2), ("at", .int, 0x2), ("faultAt", .int, 0x2), ("number", .int, 0x2), ("first", .int, 0x2)] (Lib.HandJ.method "<init>" "()V" [] none 0x1 1 prog_9_method_1_code) with
  methods := #[Lib.HandJ.method "<init>" "()V" [] none 0x1 1 prog_9_method_1_code,
    Lib.HandJ.method "in" "(III)Z" [.int, .int, .int] (some .boolean) 0xa 3 prog_9_method_2_code,
    Lib.HandJ.method "floor" "(JI)I" [.long, .int] (some .int) 0xa 3 prog_9_method_3_code,
    Lib.HandJ.method "keptIce" "(II)I" [.int, .int] (some .int) 0x2 3 prog_9_method_4_code,
    Lib.HandJ.method "keepIce" "(III)V" [.int, .int, .int] none 0x2 4 prog_9_method_5_code,
    Lib.HandJ.method "dropOldest" "()V" [] none 0x2 3 prog_9_method_6_code,
    Lib.HandJ.method "keep" "()V" [] none 0x2 2 prog_9_method_7_code,
    Lib.HandJ.method "undo" "()I" [] (some .int) 0x1 2 prog_9_method_8_code,
    Lib.HandJ.method "setAside" "()V" [] none 0x2 2 prog_9_method_9_code,
    Lib.HandJ.method "bringBack" "()V" [] none 0x2 2 prog_9_method_10_code,
    Lib.HandJ.method "of" "(II)I" [.int, .int] (some .int) 0x2 3 prog_9_method_11_code,
    Lib.HandJ.method "put" "(III)V" [.int, .int, .int] none 0x2 4 prog_9_method_12_code,
    Lib.HandJ.method "ofStake" "(II)I" [.int, .int] (some .int) 0x2 3 prog_9_method_13_code,
    Lib.HandJ.method "putStake" "(III)V" [.int, .int, .int] none 0x2 4 prog_9_method_14_code,
    Lib.HandJ.method "isBand" "(I)Z" [.int] (some .boolean) 0x2 2 prog_9_method_15_code,
    Lib.HandJ.method "isStake" "(I)Z" [.int] (some .boolean) 0x2 2 prog_9_method_16_code,
    Lib.HandJ.method "iceOf" "(I)I" [.int] (some .int) 0x2 4 prog_9_method_17_code,
    Lib.HandJ.method "isSetting" "(II)Z" [.int, .int] (some .boolean) 0xa 2 prog_9_method_18_code,
    Lib.HandJ.method "set" "(II)I" [.int, .int] (some .int) 0x1 4 prog_9_method_19_code,
    Lib.HandJ.method "band" "(IIII)I" [.int, .int, .int, .int] (some .int) 0x1 6 prog_9_method_20_code,
    Lib.HandJ.method "lay" "(II)V" [.int, .int] none 0x2 4 prog_9_method_21_code,
    Lib.HandJ.method "creep" "(II)I" [.int, .int] (some .int) 0x1 4 prog_9_method_22_code,
    Lib.HandJ.method "snowOf" "(I)I" [.int] (some .int) 0x2 3 prog_9_method_23_code,
    Lib.HandJ.method "meltOf" "(I)I" [.int] (some .int) 0x2 3 prog_9_method_24_code,
    Lib.HandJ.method "layersOf" "(I)I" [.int] (some .int) 0x2 4 prog_9_method_25_code,
    Lib.HandJ.method "yearOf" "(II)I" [.int, .int] (some .int) 0x2 5 prog_9_method_26_code,
    Lib.HandJ.method "found" "(I)I" [.int] (some .int) 0xa 1 prog_9_method_27_code,
    Lib.HandJ.method "infoOf" "(II)I" [.int, .int] (some .int) 0x2 3 prog_9_method_28_code,
    Lib.HandJ.method "bandInfo" "(II)I" [.int, .int] (some .int) 0x1 3 prog_9_method_29_code,
    Lib.HandJ.method "layer" "(III)I" [.int, .int, .int] (some .int) 0x1 5 prog_9_method_30_code,
    Lib.HandJ.method "leftOf" "(I)I" [.int] (some .int) 0x2 4 prog_9_method_31_code,
    Lib.HandJ.method "ofYear" "(I)I" [.int] (some .int) 0x1 2 prog_9_method_32_code,
    Lib.HandJ.method "line" "()I" [] (some .int) 0x1 2 prog_9_method_33_code,
    Lib.HandJ.method "front" "(I)I" [.int] (some .int) 0x1 2 prog_9_method_34_code,
    Lib.HandJ.method "allOfBands" "()I" [] (some .int) 0x2 3 prog_9_method_35_code,
    Lib.HandJ.method "allByYears" "()I" [] (some .int) 0x2 3 prog_9_method_36_code,
    Lib.HandJ.method "account" "(I)J" [.int] (some .long) 0x1 2 prog_9_method_37_code,
    Lib.HandJ.method "standing" "()I" [] (some .int) 0x2 3 prog_9_method_38_code,
    Lib.HandJ.method "differentYears" "()I" [] (some .int) 0x2 3 prog_9_method_39_code,
    Lib.HandJ.method "allLayers" "()I" [] (some .int) 0x2 3 prog_9_method_40_code,
    Lib.HandJ.method "count" "(I)I" [.int] (some .int) 0x1 2 prog_9_method_41_code,
    Lib.HandJ.method "stake" "(III)I" [.int, .int, .int] (some .int) 0x1 5 prog_9_method_42_code,
    Lib.HandJ.method "pull" "(I)I" [.int] (some .int) 0x1 4 prog_9_method_43_code,
    Lib.HandJ.method "stakeInfo" "(II)I" [.int, .int] (some .int) 0x1 3 prog_9_method_44_code,
    Lib.HandJ.method "stakesIn" "(I)I" [.int] (some .int) 0x1 4 prog_9_method_45_code,
    Lib.HandJ.method "weather" "(I)V" [.int] none 0x2 8 prog_9_method_46_code,
    Lib.HandJ.method "gives" "(I)V" [.int] none 0x2 7 prog_9_method_47_code,
    Lib.HandJ.method "stepFront" "()V" [] none 0x2 2 prog_9_method_48_code,
    Lib.HandJ.method "moves" "(I)V" [.int] none 0x2 4 prog_9_method_49_code,
    Lib.HandJ.method "stepStake" "(I)V" [.int] none 0x2 3 prog_9_method_50_code,
    Lib.HandJ.method "year" "()V" [] none 0x2 2 prog_9_method_51_code,
    Lib.HandJ.method "goOn" "(I)V" [.int] none 0x2 3 prog_9_method_52_code,
    Lib.HandJ.method "years" "(I)I" [.int] (some .int) 0x1 3 prog_9_method_53_code,
    Lib.HandJ.method "oldest" "()I" [] (some .int) 0x2 2 prog_9_method_54_code,
    Lib.HandJ.method "brought" "(I)I" [.int] (some .int) 0x2 2 prog_9_method_55_code,
    Lib.HandJ.method "ifYears" "(II)I" [.int, .int] (some .int) 0x1 4 prog_9_method_56_code,
    Lib.HandJ.method "isSo" "(II)Z" [.int, .int] (some .boolean) 0x2 3 prog_9_method_57_code,
    Lib.HandJ.method "yearsTo" "(I)I" [.int] (some .int) 0x1 5 prog_9_method_58_code,
    Lib.HandJ.method "isSteady" "()Z" [] (some .boolean) 0x2 4 prog_9_method_59_code,
    Lib.HandJ.method "steadyMelt" "()I" [] (some .int) 0x1 3 prog_9_method_60_code,
    Lib.HandJ.method "type" "(I)I" [.int] (some .int) 0x1 2 prog_9_method_61_code,
    Lib.HandJ.method "clearText" "()I" [] (some .int) 0x1 2 prog_9_method_62_code,
    Lib.HandJ.method "here" "()I" [] (some .int) 0x2 1 prog_9_method_63_code,
    Lib.HandJ.method "readNumber" "(I)Z" [.int] (some .boolean) 0x2 4 prog_9_method_64_code,
    Lib.HandJ.method "readYear" "()Z" [] (some .boolean) 0x2 1 prog_9_method_65_code,
    Lib.HandJ.method "reason" "()I" [] (some .int) 0x2 2 prog_9_method_66_code,
    Lib.HandJ.method "fault" "(I)I" [.int] (some .int) 0x1 3 prog_9_method_67_code,
    Lib.HandJ.method "live" "()I" [] (some .int) 0x1 2 prog_9_method_68_code] }
/-! ALONE the witness, part 2, behind wd1.mLaw -/
def wd1.c10 : Class := { sv_own "java/lang/System" 0x31
    []
    [] ({ name := "arraycopy", desc := "(Ljava/lang/Object;ILjava/lang/Object;II)V", sig := { parameters := [.object "java/lang/Object", .int, .object "java/lang/Object", .int, .int], returnType := none }, accessFlags := 0x109, code := none }) with
  methods := #[{ name := "arraycopy", desc := "(Ljava/lang/Object;ILjava/lang/Object;II)V", sig := { parameters := [.object "java/lang/Object", .int, .object "java/lang/Object", .int, .int], returnType := none }, accessFlags := 0x109, code := none }] }
def wd1.c11 : Class := { sv_own "java/util/Arrays" 0x31
    []
    [] (Lib.HandJ.method "fill" "([II)V" [.array .int, .int] none 0x9 4 prog_13_method_103_code) with
  methods := #[Lib.HandJ.method "fill" "([II)V" [.array .int, .int] none 0x9 4 prog_13_method_103_code] }
def wd1.c12 : Class := { sv_own "java/lang/Math" 0x31
    []
    [] (Lib.HandJ.method "floorDiv" "(II)I" [.int, .int] (some .int) 0x9 3 prog_11_method_47_code) with
  methods := #[Lib.HandJ.method "floorDiv" "(II)I" [.int, .int] (some .int) 0x9 3 prog_11_method_47_code,
    Lib.HandJ.method "max" "(II)I" [.int, .int] (some .int) 0x9 2 prog_11_method_65_code,
    Lib.HandJ.method "min" "(II)I" [.int, .int] (some .int) 0x9 2 prog_11_method_69_code] }
def wd1.c13 : Class := { sv_own "java/lang/Cloneable" 0x601
    []
    [] mLaw with
  methods := #[] }
def wd1.cPrim (name : String) (ch : Char) : Class := { Lib.HandJ.cls name #[] #[] 0x411 #[] #[] #[] with kind := .primitive ch, cf := none }
def wd1.cArr (name : String) (prim : Nat) (t : FieldType) : Class := { Lib.HandJ.cls name #[] #[] 0x411 #[] #[] #[] with kind := .array prim t, super := some 1, cf := none }
def wd1.args0 : Array Value := #[.ref 0]
def wd1.cells0 : Array Value := #[.int (-49), .int (-12), .int 25, .int 62, .int 99, .int 136, .int 173, .int (-41), .int (-4), .int 33, .int 70, .int 107, .int 144, .int 181, .int (-33), .int 4, .int 41, .int 78, .int 115, .int 152, .int 189, .int (-25), .int 12, .int 49, .int 86, .int 123, .int 160, .int (-54), .int (-17), .int 20, .int 57, .int 94, .int 131, .int 168, .int (-46), .int (-9), .int 28, .int 65, .int 102, .int 139, .int 176, .int (-38), .int (-1), .int 36, .int 73, .int 110, .int 147, .int 184, .int (-30), .int 7, .int 44, .int 81, .int 118, .int 155, .int (-59), .int (-22), .int 15, .int 52, .int 89, .int 126, .int 163, .int (-51), .int (-14), .int 23, .int 60, .int 97, .int 134, .int 171, .int (-43), .int (-6), .int 31, .int 68, .int 105, .int 142, .int 179, .int (-35), .int 2, .int 39, .int 76, .int 113, .int 150, .int 187, .int (-27), .int 10, .int 47, .int 84, .int 121, .int 158, .int (-56), .int (-19), .int 18, .int 55, .int 92, .int 129, .int 166, .int (-48), .int (-11), .int 26, .int 63, .int 100]
def wd1.aboutOf (script : Array Value) : State where
  vm := { classes := #[c0, cObjectC, c2, c3, c4, c5, c6, c7, c8, c9, c10, c11, c12, c13, cPrim "int" 'I', { cArr "[I" 14 .int with interfaces := #[13] }, cPrim "char" 'C', { cArr "[C" 16 .char with interfaces := #[13] }, cPrim "long" 'J', { cArr "[J" 18 .long with interfaces := #[13] }, { cArr "[LIceTongue$Band;" 5 (.object "IceTongue$Band") with interfaces := #[13] }, { cArr "[LIceTongue$Stake;" 7 (.object "IceTongue$Stake") with interfaces := #[13] }, { cArr "[LIceTongue$Tongue;" 3 (.object "IceTongue$Tongue") with interfaces := #[13] }, { cArr "[I?" 14 .int with super := some 1, methods := #[Lib.HandJ.method "clone" "()Ljava/lang/Object;" [] (some (.object "java/lang/Object")) 0x1 1 ⟨#[0xa7, 0x00, 0x00]⟩] }] }
  heap := #[{ cls := 15, slots := script, vm := .none }, { cls := 2, slots := #[.int 0, .int 0, .int 0, .int 0, .int 0, .int 0, .int 0, .int 0, .int 0, .int 0, .int 0, .int 0, .int 0, .int 0, .int 0, .int 0, .int 0, .int 0, .int 0, .int 0, .int 0, .int 0, .int 0, .int 0, .int 0, .int 0, .int 0, .ref 3, .ref 4, .ref 2, .int 0, .int 0, .int 0, .int 0, .int 0, .int 0, .int 0, .int 0], vm := .statics 2 }, { cls := 23, slots := #[.int (1000), .int (50), .int (1500), .int (100), .int (2500), .int (500), .int (2)], vm := .none }, { cls := 15, slots := #[.int (0), .int (0), .int (0), .int (0), .int (0), .int (1), .int (0)], vm := .none }, { cls := 15, slots := #[.int (5000), .int (500), .int (9000), .int (500), .int (5000), .int (1000000), .int (50)], vm := .none }]
  slotsUsed := script.size + 59
  threads := #[{ frames := .invoking ⟨0, 0⟩ args0 :: Lib.HandBits.below0 }]
def wd1.about : State := aboutOf cells0
def wd1.p0 : Program := .bare "" "" ""
def wd1.e0 : Env := launch0.env 0 0 0
def wd1.S (n : Nat) : State := stepsAlone p0.tables e0 n about
theorem wd1.run17 : (S 17).status = .running := by decide +kernel
theorem wd1.cur17 : (S 17).curStatus? = some .runnable := by decide +kernel
theorem wd1.alone17 : (S 17).alone = true := by decide +kernel
theorem wd1.top17 : ((S 17).topJava?.any fun f => f.method == ⟨23, 0⟩ && f.pc == 0) = true := by decide +kernel
theorem wd1.zc17 : (((S 17).code? ⟨23, 0⟩).any fun c => decide (decode c.code 0 = .ok (.goto 0, 3))) = true := by decide +kernel
theorem wd1.name17 : (((S 17).vm.classes[23]?).any fun k => plainName k.name) = true := by decide +kernel
theorem wd1.long : ∀ n, n < 18 → Lib.HandBits.below0.length < (S n).frames.length := by decide +kernel
/-- an instruction that jumps to itself leaves the state as it is -/
theorem wd1.loop (p : Program) (hx : p.tables.exec = Jvm.exec) {e : Env} {U : State} {f : JFrame} {c : Code} (hf : U.topJava? = some f) (hp : U.plainMethod f.method) (hc : U.code? f.method = some c) (hpc : f.pc = 0) (hd : decode c.code 0 = .ok (.goto 0, 3)) : (stepThread p.tables e U).1 = U := by
  have hself : U.setTop f = U := State.setTop_self hf
  have hd' : decode c.code f.pc = .ok (.goto 0, 3) := by rw [hpc]; exact hd
  obtain ⟨as, h1, -⟩ := stepThread_ctl (tb := p.tables) (e := e) (s := U) (s' := U) (f := f) (c := c) (i := .goto 0) (len := 3) (acts := []) (x := .branch 0) (by rw [hf]; rfl) hp hc hd' (by
    rw [hself, hx]
    simp [jvm, wpRun, exec])
  rw [hself] at h1
  rw [h1]
  have h2 : ¬ ((f.pc : Int) + 0 < 0) := by omega
  simp only [afterInstr, hf, h2, if_false]
  rw [State.modifyTopJava_eq_setTop _ hf]
  have h4 : ({ f with pc := ((f.pc : Int) + 0).toNat } : JFrame) = f := by
    cases f
    simp
  rw [h4]
  exact hself
theorem wd1.exec0 : p0.tables.exec = Jvm.exec := by
  unfold p0
  rfl
theorem wd1.step17 : (stepThread p0.tables e0 (S 17)).1 = S 17 := by
  have h1 := top17
  cases hf : (S 17).topJava? with
  | none => rw [hf] at h1; cases h1
  | some f =>
    rw [hf] at h1
    simp only [Option.any_some, Bool.and_eq_true, beq_iff_eq] at h1
    have h2 := zc17
    cases hc : (S 17).code? ⟨23, 0⟩ with
    | none => rw [hc] at h2; cases h2
    | some c =>
      rw [hc] at h2
      simp only [Option.any_some, decide_eq_true_eq] at h2
      refine loop p0 exec0 hf ?_ (by rw [h1.1]; exact hc) h1.2 h2
      refine State.plainMethod.of_name fun k hk => ?_
      have h3 := name17
      rw [h1.1] at hk
      have hk' : (S 17).vm.classes[23]? = some k := hk
      rw [hk'] at h3
      exact h3
theorem wd1.stay : ∀ n, stepsAlone p0.tables e0 n (S 17) = S 17 := by
  intro n
  induction n with
  | zero => simp only [stepsAlone]
  | succ n ih =>
    rw [stepsAlone_succ n ⟨run17, cur17, alone17⟩, step17]
    exact ih
theorem wd1.always : ∀ n, Lib.HandBits.below0.length < (stepsAlone p0.tables e0 n about).frames.length := by
  intro n
  by_cases h : n < 18
  · exact long n h
  · obtain ⟨k, rfl⟩ : ∃ k, n = 17 + k := ⟨n - 17, by omega⟩
    rw [stepsAlone_add]
    have h1 : stepsAlone p0.tables e0 k (stepsAlone p0.tables e0 17 about) = S 17 := stay k
    rw [h1]
    exact long 17 (by omega)
/-- an invocation that has returned has left as many frames as lay below it -/
theorem wd1.back {s : State} {v : Option Value} (h : Ended s Lib.HandBits.below0 (.returned v)) : s.frames.length = Lib.HandBits.below0.length := by
  have h1 : s.frames = .native { ({ method := ⟨0, 0⟩, args := #[] } : NFrame) with awaiting := false, answer := some (.returned v) } :: [] := h
  rw [h1]
  rfl
end
section
theorem wd1.n0 : (Jvm.Cond.arrayOf (Jvm.Term.arg (0 : Nat)) Jvm.ClassFile.FieldType.int).before args0 about = true := by decide +kernel
theorem wd1.n1 : (Jvm.Cond.le (Jvm.Term.length (Jvm.Term.arg (0 : Nat))) (Jvm.Term.int (2560 : Int32))).before args0 about = true := by decide +kernel
theorem wd1.n2 : (Jvm.Cond.isRef (Jvm.Term.static "IceTongue" "FIRST_SETTING" "[I")).before args0 about = true := by decide +kernel
theorem wd1.n3 : (Jvm.Cond.arrayOf (Jvm.Term.static "IceTongue" "FIRST_SETTING" "[I") Jvm.ClassFile.FieldType.int).before args0 about = true := by decide +kernel
theorem wd1.n4 : (Jvm.Cond.eq (Jvm.Term.length (Jvm.Term.static "IceTongue" "FIRST_SETTING" "[I")) (Jvm.Term.int (7 : Int32))).before args0 about = true := by decide +kernel
theorem wd1.n5 : (Jvm.Cond.eq (Jvm.Term.elem (Jvm.Term.static "IceTongue" "FIRST_SETTING" "[I") (Jvm.Term.int (0 : Int32))) (Jvm.Term.int (1000 : Int32))).before args0 about = true := by decide +kernel
theorem wd1.n6 : (Jvm.Cond.eq (Jvm.Term.elem (Jvm.Term.static "IceTongue" "FIRST_SETTING" "[I") (Jvm.Term.int (1 : Int32))) (Jvm.Term.int (50 : Int32))).before args0 about = true := by decide +kernel
theorem wd1.n7 : (Jvm.Cond.eq (Jvm.Term.elem (Jvm.Term.static "IceTongue" "FIRST_SETTING" "[I") (Jvm.Term.int (2 : Int32))) (Jvm.Term.int (1500 : Int32))).before args0 about = true := by decide +kernel
theorem wd1.n8 : (Jvm.Cond.eq (Jvm.Term.elem (Jvm.Term.static "IceTongue" "FIRST_SETTING" "[I") (Jvm.Term.int (3 : Int32))) (Jvm.Term.int (100 : Int32))).before args0 about = true := by decide +kernel
theorem wd1.n9 : (Jvm.Cond.eq (Jvm.Term.elem (Jvm.Term.static "IceTongue" "FIRST_SETTING" "[I") (Jvm.Term.int (4 : Int32))) (Jvm.Term.int (2500 : Int32))).before args0 about = true := by decide +kernel
theorem wd1.n10 : (Jvm.Cond.eq (Jvm.Term.elem (Jvm.Term.static "IceTongue" "FIRST_SETTING" "[I") (Jvm.Term.int (5 : Int32))) (Jvm.Term.int (500 : Int32))).before args0 about = true := by decide +kernel
theorem wd1.n11 : (Jvm.Cond.eq (Jvm.Term.elem (Jvm.Term.static "IceTongue" "FIRST_SETTING" "[I") (Jvm.Term.int (6 : Int32))) (Jvm.Term.int (2 : Int32))).before args0 about = true := by decide +kernel
theorem wd1.n12 : (Jvm.Cond.isRef (Jvm.Term.static "IceTongue" "LEAST_SETTING" "[I")).before args0 about = true := by decide +kernel
theorem wd1.n13 : (Jvm.Cond.arrayOf (Jvm.Term.static "IceTongue" "LEAST_SETTING" "[I") Jvm.ClassFile.FieldType.int).before args0 about = true := by decide +kernel
theorem wd1.n14 : (Jvm.Cond.eq (Jvm.Term.length (Jvm.Term.static "IceTongue" "LEAST_SETTING" "[I")) (Jvm.Term.int (7 : Int32))).before args0 about = true := by decide +kernel
theorem wd1.n15 : (Jvm.Cond.eq (Jvm.Term.elem (Jvm.Term.static "IceTongue" "LEAST_SETTING" "[I") (Jvm.Term.int (0 : Int32))) (Jvm.Term.int (0 : Int32))).before args0 about = true := by decide +kernel
theorem wd1.n16 : (Jvm.Cond.eq (Jvm.Term.elem (Jvm.Term.static "IceTongue" "LEAST_SETTING" "[I") (Jvm.Term.int (1 : Int32))) (Jvm.Term.int (0 : Int32))).before args0 about = true := by decide +kernel
theorem wd1.n17 : (Jvm.Cond.eq (Jvm.Term.elem (Jvm.Term.static "IceTongue" "LEAST_SETTING" "[I") (Jvm.Term.int (2 : Int32))) (Jvm.Term.int (0 : Int32))).before args0 about = true := by decide +kernel
theorem wd1.n18 : (Jvm.Cond.eq (Jvm.Term.elem (Jvm.Term.static "IceTongue" "LEAST_SETTING" "[I") (Jvm.Term.int (3 : Int32))) (Jvm.Term.int (0 : Int32))).before args0 about = true := by decide +kernel
theorem wd1.n19 : (Jvm.Cond.eq (Jvm.Term.elem (Jvm.Term.static "IceTongue" "LEAST_SETTING" "[I") (Jvm.Term.int (4 : Int32))) (Jvm.Term.int (0 : Int32))).before args0 about = true := by decide +kernel
theorem wd1.n20 : (Jvm.Cond.eq (Jvm.Term.elem (Jvm.Term.static "IceTongue" "LEAST_SETTING" "[I") (Jvm.Term.int (5 : Int32))) (Jvm.Term.int (1 : Int32))).before args0 about = true := by decide +kernel
theorem wd1.n21 : (Jvm.Cond.eq (Jvm.Term.elem (Jvm.Term.static "IceTongue" "LEAST_SETTING" "[I") (Jvm.Term.int (6 : Int32))) (Jvm.Term.int (0 : Int32))).before args0 about = true := by decide +kernel
theorem wd1.n22 : (Jvm.Cond.isRef (Jvm.Term.static "IceTongue" "MOST_SETTING" "[I")).before args0 about = true := by decide +kernel
theorem wd1.n23 : (Jvm.Cond.arrayOf (Jvm.Term.static "IceTongue" "MOST_SETTING" "[I") Jvm.ClassFile.FieldType.int).before args0 about = true := by decide +kernel
theorem wd1.n24 : (Jvm.Cond.eq (Jvm.Term.length (Jvm.Term.static "IceTongue" "MOST_SETTING" "[I")) (Jvm.Term.int (7 : Int32))).before args0 about = true := by decide +kernel
theorem wd1.n25 : (Jvm.Cond.eq (Jvm.Term.elem (Jvm.Term.static "IceTongue" "MOST_SETTING" "[I") (Jvm.Term.int (0 : Int32))) (Jvm.Term.int (5000 : Int32))).before args0 about = true := by decide +kernel
theorem wd1.n26 : (Jvm.Cond.eq (Jvm.Term.elem (Jvm.Term.static "IceTongue" "MOST_SETTING" "[I") (Jvm.Term.int (1 : Int32))) (Jvm.Term.int (500 : Int32))).before args0 about = true := by decide +kernel
theorem wd1.n27 : (Jvm.Cond.eq (Jvm.Term.elem (Jvm.Term.static "IceTongue" "MOST_SETTING" "[I") (Jvm.Term.int (2 : Int32))) (Jvm.Term.int (9000 : Int32))).before args0 about = true := by decide +kernel
theorem wd1.n28 : (Jvm.Cond.eq (Jvm.Term.elem (Jvm.Term.static "IceTongue" "MOST_SETTING" "[I") (Jvm.Term.int (3 : Int32))) (Jvm.Term.int (500 : Int32))).before args0 about = true := by decide +kernel
theorem wd1.n29 : (Jvm.Cond.eq (Jvm.Term.elem (Jvm.Term.static "IceTongue" "MOST_SETTING" "[I") (Jvm.Term.int (4 : Int32))) (Jvm.Term.int (5000 : Int32))).before args0 about = true := by decide +kernel
theorem wd1.n30 : (Jvm.Cond.eq (Jvm.Term.elem (Jvm.Term.static "IceTongue" "MOST_SETTING" "[I") (Jvm.Term.int (5 : Int32))) (Jvm.Term.int (1000000 : Int32))).before args0 about = true := by decide +kernel
theorem wd1.n31 : (Jvm.Cond.eq (Jvm.Term.elem (Jvm.Term.static "IceTongue" "MOST_SETTING" "[I") (Jvm.Term.int (6 : Int32))) (Jvm.Term.int (50 : Int32))).before args0 about = true := by decide +kernel
theorem wd1.n32 : (Jvm.Cond.not (Jvm.Cond.castable "IceTongue" "IceTongue$Band")).before args0 about = true := by decide +kernel
theorem wd1.n33 : (Jvm.Cond.not (Jvm.Cond.castable "IceTongue$Tongue" "IceTongue$Band")).before args0 about = true := by decide +kernel
theorem wd1.n34 : (Jvm.Cond.not (Jvm.Cond.castable "IceTongue$Front" "IceTongue$Band")).before args0 about = true := by decide +kernel
theorem wd1.n35 : (Jvm.Cond.not (Jvm.Cond.castable "IceTongue$Layers" "IceTongue$Band")).before args0 about = true := by decide +kernel
theorem wd1.n36 : (Jvm.Cond.not (Jvm.Cond.castable "IceTongue$Stake" "IceTongue$Band")).before args0 about = true := by decide +kernel
theorem wd1.n37 : (Jvm.Cond.not (Jvm.Cond.castable "IceTongue$Text" "IceTongue$Band")).before args0 about = true := by decide +kernel
theorem wd1.n38 : (Jvm.Cond.not (Jvm.Cond.castable "IceTongueModel" "IceTongue$Band")).before args0 about = true := by decide +kernel
theorem wd1.n39 : (Jvm.Cond.not (Jvm.Cond.castable "IceTongue" "IceTongue$Stake")).before args0 about = true := by decide +kernel
theorem wd1.n40 : (Jvm.Cond.not (Jvm.Cond.castable "IceTongue$Tongue" "IceTongue$Stake")).before args0 about = true := by decide +kernel
theorem wd1.n41 : (Jvm.Cond.not (Jvm.Cond.castable "IceTongue$Front" "IceTongue$Stake")).before args0 about = true := by decide +kernel
theorem wd1.n42 : (Jvm.Cond.not (Jvm.Cond.castable "IceTongue$Band" "IceTongue$Stake")).before args0 about = true := by decide +kernel
theorem wd1.n43 : (Jvm.Cond.not (Jvm.Cond.castable "IceTongue$Layers" "IceTongue$Stake")).before args0 about = true := by decide +kernel
theorem wd1.n44 : (Jvm.Cond.not (Jvm.Cond.castable "IceTongue$Text" "IceTongue$Stake")).before args0 about = true := by decide +kernel
theorem wd1.n45 : (Jvm.Cond.not (Jvm.Cond.castable "IceTongueModel" "IceTongue$Stake")).before args0 about = true := by decide +kernel
theorem wd1.n46 : (Jvm.Cond.not (Jvm.Cond.castable "IceTongue" "IceTongue$Tongue")).before args0 about = true := by decide +kernel
theorem wd1.n47 : (Jvm.Cond.not (Jvm.Cond.castable "IceTongue$Front" "IceTongue$Tongue")).before args0 about = true := by decide +kernel
theorem wd1.n48 : (Jvm.Cond.not (Jvm.Cond.castable "IceTongue$Band" "IceTongue$Tongue")).before args0 about = true := by decide +kernel
theorem wd1.n49 : (Jvm.Cond.not (Jvm.Cond.castable "IceTongue$Layers" "IceTongue$Tongue")).before args0 about = true := by decide +kernel
theorem wd1.n50 : (Jvm.Cond.not (Jvm.Cond.castable "IceTongue$Stake" "IceTongue$Tongue")).before args0 about = true := by decide +kernel
theorem wd1.n51 : (Jvm.Cond.not (Jvm.Cond.castable "IceTongue$Text" "IceTongue$Tongue")).before args0 about = true := by decide +kernel
theorem wd1.n52 : (Jvm.Cond.not (Jvm.Cond.castable "IceTongueModel" "IceTongue$Tongue")).before args0 about = true := by decide +kernel
theorem wd1.n53 : (Jvm.Cond.not (Jvm.Cond.eq (Jvm.Term.arg (0 : Nat)) (Jvm.Term.static "IceTongue" "FIRST_SETTING" "[I"))).before args0 about = true := by decide +kernel
theorem wd1.n54 : (Jvm.Cond.not (Jvm.Cond.eq (Jvm.Term.arg (0 : Nat)) (Jvm.Term.static "IceTongue" "LEAST_SETTING" "[I"))).before args0 about = true := by decide +kernel
theorem wd1.n55 : (Jvm.Cond.not (Jvm.Cond.eq (Jvm.Term.arg (0 : Nat)) (Jvm.Term.static "IceTongue" "MOST_SETTING" "[I"))).before args0 about = true := by decide +kernel
theorem wd1.n56 : (Jvm.Cond.exactly (Jvm.Term.static "IceTongue" "FIRST_SETTING" "[I") "[I").before args0 about = true := by decide +kernel
theorem wd1.n57 : (Jvm.Cond.exactly (Jvm.Term.static "IceTongue" "LEAST_SETTING" "[I") "[I").before args0 about = true := by decide +kernel
theorem wd1.n58 : (Jvm.Cond.exactly (Jvm.Term.static "IceTongue" "MOST_SETTING" "[I") "[I").before args0 about = true := by decide +kernel
end
