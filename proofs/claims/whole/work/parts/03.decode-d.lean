theorem dX7_init_0 : decode cX7_init 0 = .ok (.aload_n 0, 1) := by decide +kernel
theorem dX7_init_1 : decode cX7_init 1 = .ok (.invokespecial 1, 3) := by decide +kernel
theorem dX7_init_4 : decode cX7_init 4 = .ok (.aload_n 0, 1) := by decide +kernel
theorem dX7_init_5 : decode cX7_init 5 = .ok (.bipush 110, 2) := by decide +kernel
theorem dX7_init_7 : decode cX7_init 7 = .ok (.newarray .int, 2) := by decide +kernel
theorem dX7_init_9 : decode cX7_init 9 = .ok (.putfield 7, 3) := by decide +kernel
theorem dX7_init_12 : decode cX7_init 12 = .ok (.aload_n 0, 1) := by decide +kernel
theorem dX7_init_13 : decode cX7_init 13 = .ok (.sipush 8010, 3) := by decide +kernel
theorem dX7_init_16 : decode cX7_init 16 = .ok (.newarray .int, 2) := by decide +kernel
theorem dX7_init_18 : decode cX7_init 18 = .ok (.putfield 13, 3) := by decide +kernel
theorem dX7_init_21 : decode cX7_init 21 = .ok (.aload_n 0, 1) := by decide +kernel
theorem dX7_init_22 : decode cX7_init 22 = .ok (.iconst 4, 1) := by decide +kernel
theorem dX7_init_23 : decode cX7_init 23 = .ok (.newarray .long, 2) := by decide +kernel
theorem dX7_init_25 : decode cX7_init 25 = .ok (.putfield 16, 3) := by decide +kernel
theorem dX7_init_28 : decode cX7_init 28 = .ok (.aload_n 0, 1) := by decide +kernel
theorem dX7_init_29 : decode cX7_init 29 = .ok (.bipush 110, 2) := by decide +kernel
theorem dX7_init_31 : decode cX7_init 31 = .ok (.newarray .int, 2) := by decide +kernel
theorem dX7_init_33 : decode cX7_init 33 = .ok (.putfield 20, 3) := by decide +kernel
theorem dX7_init_36 : decode cX7_init 36 = .ok (.aload_n 0, 1) := by decide +kernel
theorem dX7_init_37 : decode cX7_init 37 = .ok (.sipush 8010, 3) := by decide +kernel
theorem dX7_init_40 : decode cX7_init 40 = .ok (.newarray .int, 2) := by decide +kernel
theorem dX7_init_42 : decode cX7_init 42 = .ok (.putfield 23, 3) := by decide +kernel
theorem dX7_init_45 : decode cX7_init 45 = .ok (.aload_n 0, 1) := by decide +kernel
theorem dX7_init_46 : decode cX7_init 46 = .ok (.iconst 4, 1) := by decide +kernel
theorem dX7_init_47 : decode cX7_init 47 = .ok (.newarray .long, 2) := by decide +kernel
theorem dX7_init_49 : decode cX7_init 49 = .ok (.putfield 26, 3) := by decide +kernel
theorem dX7_init_52 : decode cX7_init 52 = .ok (.aload_n 0, 1) := by decide +kernel
theorem dX7_init_53 : decode cX7_init 53 = .ok (.sipush 440, 3) := by decide +kernel
theorem dX7_init_56 : decode cX7_init 56 = .ok (.newarray .int, 2) := by decide +kernel
theorem dX7_init_58 : decode cX7_init 58 = .ok (.putfield 29, 3) := by decide +kernel
theorem dX7_init_61 : decode cX7_init 61 = .ok (.aload_n 0, 1) := by decide +kernel
theorem dX7_init_62 : decode cX7_init 62 = .ok (.sipush 10020, 3) := by decide +kernel
theorem dX7_init_65 : decode cX7_init 65 = .ok (.newarray .int, 2) := by decide +kernel
theorem dX7_init_67 : decode cX7_init 67 = .ok (.putfield 32, 3) := by decide +kernel
theorem dX7_init_70 : decode cX7_init 70 = .ok (.aload_n 0, 1) := by decide +kernel
theorem dX7_init_71 : decode cX7_init 71 = .ok (.sipush 10020, 3) := by decide +kernel
theorem dX7_init_74 : decode cX7_init 74 = .ok (.newarray .int, 2) := by decide +kernel
theorem dX7_init_76 : decode cX7_init 76 = .ok (.putfield 35, 3) := by decide +kernel
theorem dX7_init_79 : decode cX7_init 79 = .ok (.aload_n 0, 1) := by decide +kernel
theorem dX7_init_80 : decode cX7_init 80 = .ok (.bipush 16, 2) := by decide +kernel
theorem dX7_init_82 : decode cX7_init 82 = .ok (.newarray .long, 2) := by decide +kernel
theorem dX7_init_84 : decode cX7_init 84 = .ok (.putfield 38, 3) := by decide +kernel
theorem dX7_init_87 : decode cX7_init 87 = .ok (.aload_n 0, 1) := by decide +kernel
theorem dX7_init_88 : decode cX7_init 88 = .ok (.bipush 60, 2) := by decide +kernel
theorem dX7_init_90 : decode cX7_init 90 = .ok (.newarray .int, 2) := by decide +kernel
theorem dX7_init_92 : decode cX7_init 92 = .ok (.putfield 41, 3) := by decide +kernel
theorem dX7_init_95 : decode cX7_init 95 = .ok (.aload_n 0, 1) := by decide +kernel
theorem dX7_init_96 : decode cX7_init 96 = .ok (.getfield 7, 3) := by decide +kernel
theorem dX7_init_99 : decode cX7_init 99 = .ok (.iconst 0, 1) := by decide +kernel
theorem dX7_init_100 : decode cX7_init 100 = .ok (.sipush 1000, 3) := by decide +kernel
theorem dX7_init_103 : decode cX7_init 103 = .ok (.iastore, 1) := by decide +kernel
theorem dX7_init_104 : decode cX7_init 104 = .ok (.aload_n 0, 1) := by decide +kernel
theorem dX7_init_105 : decode cX7_init 105 = .ok (.getfield 7, 3) := by decide +kernel
theorem dX7_init_108 : decode cX7_init 108 = .ok (.iconst 1, 1) := by decide +kernel
theorem dX7_init_109 : decode cX7_init 109 = .ok (.bipush 50, 2) := by decide +kernel
theorem dX7_init_111 : decode cX7_init 111 = .ok (.iastore, 1) := by decide +kernel
theorem dX7_init_112 : decode cX7_init 112 = .ok (.aload_n 0, 1) := by decide +kernel
theorem dX7_init_113 : decode cX7_init 113 = .ok (.getfield 7, 3) := by decide +kernel
theorem dX7_init_116 : decode cX7_init 116 = .ok (.iconst 2, 1) := by decide +kernel
theorem dX7_init_117 : decode cX7_init 117 = .ok (.sipush 1500, 3) := by decide +kernel
theorem dX7_init_120 : decode cX7_init 120 = .ok (.iastore, 1) := by decide +kernel
theorem dX7_init_121 : decode cX7_init 121 = .ok (.aload_n 0, 1) := by decide +kernel
theorem dX7_init_122 : decode cX7_init 122 = .ok (.getfield 7, 3) := by decide +kernel
theorem dX7_init_125 : decode cX7_init 125 = .ok (.iconst 3, 1) := by decide +kernel
theorem dX7_init_126 : decode cX7_init 126 = .ok (.bipush 100, 2) := by decide +kernel
theorem dX7_init_128 : decode cX7_init 128 = .ok (.iastore, 1) := by decide +kernel
theorem dX7_init_129 : decode cX7_init 129 = .ok (.aload_n 0, 1) := by decide +kernel
theorem dX7_init_130 : decode cX7_init 130 = .ok (.getfield 7, 3) := by decide +kernel
theorem dX7_init_133 : decode cX7_init 133 = .ok (.iconst 4, 1) := by decide +kernel
theorem dX7_init_134 : decode cX7_init 134 = .ok (.sipush 2500, 3) := by decide +kernel
theorem dX7_init_137 : decode cX7_init 137 = .ok (.iastore, 1) := by decide +kernel
theorem dX7_init_138 : decode cX7_init 138 = .ok (.aload_n 0, 1) := by decide +kernel
theorem dX7_init_139 : decode cX7_init 139 = .ok (.getfield 7, 3) := by decide +kernel
theorem dX7_init_142 : decode cX7_init 142 = .ok (.iconst 5, 1) := by decide +kernel
theorem dX7_init_143 : decode cX7_init 143 = .ok (.sipush 500, 3) := by decide +kernel
theorem dX7_init_146 : decode cX7_init 146 = .ok (.iastore, 1) := by decide +kernel
theorem dX7_init_147 : decode cX7_init 147 = .ok (.aload_n 0, 1) := by decide +kernel
theorem dX7_init_148 : decode cX7_init 148 = .ok (.getfield 7, 3) := by decide +kernel
theorem dX7_init_151 : decode cX7_init 151 = .ok (.bipush 6, 2) := by decide +kernel
theorem dX7_init_153 : decode cX7_init 153 = .ok (.iconst 2, 1) := by decide +kernel
theorem dX7_init_154 : decode cX7_init 154 = .ok (.iastore, 1) := by decide +kernel
theorem dX7_init_155 : decode cX7_init 155 = .ok (.aload_n 0, 1) := by decide +kernel
theorem dX7_init_156 : decode cX7_init 156 = .ok (.getfield 7, 3) := by decide +kernel
theorem dX7_init_159 : decode cX7_init 159 = .ok (.bipush 13, 2) := by decide +kernel
theorem dX7_init_161 : decode cX7_init 161 = .ok (.iconst (-1), 1) := by decide +kernel
theorem dX7_init_162 : decode cX7_init 162 = .ok (.iastore, 1) := by decide +kernel
theorem dX7_init_163 : decode cX7_init 163 = .ok (.return_, 1) := by decide +kernel
theorem dX7_in_0 : decode cX7_in 0 = .ok (.iload_n 0, 1) := by decide +kernel
theorem dX7_in_1 : decode cX7_in 1 = .ok (.iload_n 1, 1) := by decide +kernel
theorem dX7_in_2 : decode cX7_in 2 = .ok (.if_icmp .lt 12, 3) := by decide +kernel
theorem dX7_in_5 : decode cX7_in 5 = .ok (.iload_n 0, 1) := by decide +kernel
theorem dX7_in_6 : decode cX7_in 6 = .ok (.iload_n 2, 1) := by decide +kernel
theorem dX7_in_7 : decode cX7_in 7 = .ok (.if_icmp .gt 7, 3) := by decide +kernel
theorem dX7_in_10 : decode cX7_in 10 = .ok (.iconst 1, 1) := by decide +kernel
theorem dX7_in_11 : decode cX7_in 11 = .ok (.goto 4, 3) := by decide +kernel
theorem dX7_in_14 : decode cX7_in 14 = .ok (.iconst 0, 1) := by decide +kernel
theorem dX7_in_15 : decode cX7_in 15 = .ok (.ireturn, 1) := by decide +kernel
theorem dX7_floor_0 : decode cX7_floor 0 = .ok (.lload_n 0, 1) := by decide +kernel
theorem dX7_floor_1 : decode cX7_floor 1 = .ok (.lconst 0, 1) := by decide +kernel
theorem dX7_floor_2 : decode cX7_floor 2 = .ok (.lcmp, 1) := by decide +kernel
theorem dX7_floor_3 : decode cX7_floor 3 = .ok (.ifCond .lt 10, 3) := by decide +kernel
theorem dX7_floor_6 : decode cX7_floor 6 = .ok (.lload_n 0, 1) := by decide +kernel
theorem dX7_floor_7 : decode cX7_floor 7 = .ok (.iload_n 2, 1) := by decide +kernel
theorem dX7_floor_8 : decode cX7_floor 8 = .ok (.i2l, 1) := by decide +kernel
theorem dX7_floor_9 : decode cX7_floor 9 = .ok (.ldiv, 1) := by decide +kernel
theorem dX7_floor_10 : decode cX7_floor 10 = .ok (.goto 13, 3) := by decide +kernel
theorem dX7_floor_13 : decode cX7_floor 13 = .ok (.iload_n 2, 1) := by decide +kernel
theorem dX7_floor_14 : decode cX7_floor 14 = .ok (.i2l, 1) := by decide +kernel
theorem dX7_floor_15 : decode cX7_floor 15 = .ok (.lconst 1, 1) := by decide +kernel
theorem dX7_floor_16 : decode cX7_floor 16 = .ok (.lsub, 1) := by decide +kernel
theorem dX7_floor_17 : decode cX7_floor 17 = .ok (.lload_n 0, 1) := by decide +kernel
theorem dX7_floor_18 : decode cX7_floor 18 = .ok (.lsub, 1) := by decide +kernel
theorem dX7_floor_19 : decode cX7_floor 19 = .ok (.iload_n 2, 1) := by decide +kernel
theorem dX7_floor_20 : decode cX7_floor 20 = .ok (.i2l, 1) := by decide +kernel
theorem dX7_floor_21 : decode cX7_floor 21 = .ok (.ldiv, 1) := by decide +kernel
theorem dX7_floor_22 : decode cX7_floor 22 = .ok (.lneg, 1) := by decide +kernel
theorem dX7_floor_23 : decode cX7_floor 23 = .ok (.l2i, 1) := by decide +kernel
theorem dX7_floor_24 : decode cX7_floor 24 = .ok (.ireturn, 1) := by decide +kernel
theorem dX7_keptIce_0 : decode cX7_keptIce 0 = .ok (.iload_n 1, 1) := by decide +kernel
theorem dX7_keptIce_1 : decode cX7_keptIce 1 = .ok (.iconst 2, 1) := by decide +kernel
theorem dX7_keptIce_2 : decode cX7_keptIce 2 = .ok (.if_icmp .ge 18, 3) := by decide +kernel
theorem dX7_keptIce_5 : decode cX7_keptIce 5 = .ok (.aload_n 0, 1) := by decide +kernel
theorem dX7_keptIce_6 : decode cX7_keptIce 6 = .ok (.getfield 32, 3) := by decide +kernel
theorem dX7_keptIce_9 : decode cX7_keptIce 9 = .ok (.sipush 5010, 3) := by decide +kernel
theorem dX7_keptIce_12 : decode cX7_keptIce 12 = .ok (.iload_n 1, 1) := by decide +kernel
theorem dX7_keptIce_13 : decode cX7_keptIce 13 = .ok (.imul, 1) := by decide +kernel
theorem dX7_keptIce_14 : decode cX7_keptIce 14 = .ok (.iload_n 2, 1) := by decide +kernel
theorem dX7_keptIce_15 : decode cX7_keptIce 15 = .ok (.iadd, 1) := by decide +kernel
theorem dX7_keptIce_16 : decode cX7_keptIce 16 = .ok (.iaload, 1) := by decide +kernel
theorem dX7_keptIce_17 : decode cX7_keptIce 17 = .ok (.goto 17, 3) := by decide +kernel
theorem dX7_keptIce_20 : decode cX7_keptIce 20 = .ok (.aload_n 0, 1) := by decide +kernel
theorem dX7_keptIce_21 : decode cX7_keptIce 21 = .ok (.getfield 35, 3) := by decide +kernel
theorem dX7_keptIce_24 : decode cX7_keptIce 24 = .ok (.sipush 5010, 3) := by decide +kernel
theorem dX7_keptIce_27 : decode cX7_keptIce 27 = .ok (.iload_n 1, 1) := by decide +kernel
theorem dX7_keptIce_28 : decode cX7_keptIce 28 = .ok (.iconst 2, 1) := by decide +kernel
theorem dX7_keptIce_29 : decode cX7_keptIce 29 = .ok (.isub, 1) := by decide +kernel
theorem dX7_keptIce_30 : decode cX7_keptIce 30 = .ok (.imul, 1) := by decide +kernel
theorem dX7_keptIce_31 : decode cX7_keptIce 31 = .ok (.iload_n 2, 1) := by decide +kernel
theorem dX7_keptIce_32 : decode cX7_keptIce 32 = .ok (.iadd, 1) := by decide +kernel
theorem dX7_keptIce_33 : decode cX7_keptIce 33 = .ok (.iaload, 1) := by decide +kernel
theorem dX7_keptIce_34 : decode cX7_keptIce 34 = .ok (.ireturn, 1) := by decide +kernel
theorem dX7_keepIce_0 : decode cX7_keepIce 0 = .ok (.iload_n 1, 1) := by decide +kernel
theorem dX7_keepIce_1 : decode cX7_keepIce 1 = .ok (.iconst 2, 1) := by decide +kernel
theorem dX7_keepIce_2 : decode cX7_keepIce 2 = .ok (.if_icmp .ge 19, 3) := by decide +kernel
theorem dX7_keepIce_5 : decode cX7_keepIce 5 = .ok (.aload_n 0, 1) := by decide +kernel
theorem dX7_keepIce_6 : decode cX7_keepIce 6 = .ok (.getfield 32, 3) := by decide +kernel
theorem dX7_keepIce_9 : decode cX7_keepIce 9 = .ok (.sipush 5010, 3) := by decide +kernel
theorem dX7_keepIce_12 : decode cX7_keepIce 12 = .ok (.iload_n 1, 1) := by decide +kernel
theorem dX7_keepIce_13 : decode cX7_keepIce 13 = .ok (.imul, 1) := by decide +kernel
theorem dX7_keepIce_14 : decode cX7_keepIce 14 = .ok (.iload_n 2, 1) := by decide +kernel
theorem dX7_keepIce_15 : decode cX7_keepIce 15 = .ok (.iadd, 1) := by decide +kernel
theorem dX7_keepIce_16 : decode cX7_keepIce 16 = .ok (.iload_n 3, 1) := by decide +kernel
theorem dX7_keepIce_17 : decode cX7_keepIce 17 = .ok (.iastore, 1) := by decide +kernel
theorem dX7_keepIce_18 : decode cX7_keepIce 18 = .ok (.goto 18, 3) := by decide +kernel
theorem dX7_keepIce_21 : decode cX7_keepIce 21 = .ok (.aload_n 0, 1) := by decide +kernel
theorem dX7_keepIce_22 : decode cX7_keepIce 22 = .ok (.getfield 35, 3) := by decide +kernel
theorem dX7_keepIce_25 : decode cX7_keepIce 25 = .ok (.sipush 5010, 3) := by decide +kernel
theorem dX7_keepIce_28 : decode cX7_keepIce 28 = .ok (.iload_n 1, 1) := by decide +kernel
theorem dX7_keepIce_29 : decode cX7_keepIce 29 = .ok (.iconst 2, 1) := by decide +kernel
theorem dX7_keepIce_30 : decode cX7_keepIce 30 = .ok (.isub, 1) := by decide +kernel
theorem dX7_keepIce_31 : decode cX7_keepIce 31 = .ok (.imul, 1) := by decide +kernel
theorem dX7_keepIce_32 : decode cX7_keepIce 32 = .ok (.iload_n 2, 1) := by decide +kernel
theorem dX7_keepIce_33 : decode cX7_keepIce 33 = .ok (.iadd, 1) := by decide +kernel
theorem dX7_keepIce_34 : decode cX7_keepIce 34 = .ok (.iload_n 3, 1) := by decide +kernel
theorem dX7_keepIce_35 : decode cX7_keepIce 35 = .ok (.iastore, 1) := by decide +kernel
theorem dX7_keepIce_36 : decode cX7_keepIce 36 = .ok (.return_, 1) := by decide +kernel
theorem dX7_dropOldest_0 : decode cX7_dropOldest 0 = .ok (.iconst 0, 1) := by decide +kernel
theorem dX7_dropOldest_1 : decode cX7_dropOldest 1 = .ok (.istore_n 1, 1) := by decide +kernel
theorem dX7_dropOldest_2 : decode cX7_dropOldest 2 = .ok (.iload_n 1, 1) := by decide +kernel
theorem dX7_dropOldest_3 : decode cX7_dropOldest 3 = .ok (.iconst 3, 1) := by decide +kernel
theorem dX7_dropOldest_4 : decode cX7_dropOldest 4 = .ok (.if_icmp .ge 38, 3) := by decide +kernel
theorem dX7_dropOldest_7 : decode cX7_dropOldest 7 = .ok (.iconst 0, 1) := by decide +kernel
theorem dX7_dropOldest_8 : decode cX7_dropOldest 8 = .ok (.istore_n 2, 1) := by decide +kernel
theorem dX7_dropOldest_9 : decode cX7_dropOldest 9 = .ok (.iload_n 2, 1) := by decide +kernel
theorem dX7_dropOldest_10 : decode cX7_dropOldest 10 = .ok (.sipush 5010, 3) := by decide +kernel
theorem dX7_dropOldest_13 : decode cX7_dropOldest 13 = .ok (.if_icmp .ge 23, 3) := by decide +kernel
theorem dX7_dropOldest_16 : decode cX7_dropOldest 16 = .ok (.aload_n 0, 1) := by decide +kernel
theorem dX7_dropOldest_17 : decode cX7_dropOldest 17 = .ok (.iload_n 1, 1) := by decide +kernel
theorem dX7_dropOldest_18 : decode cX7_dropOldest 18 = .ok (.iload_n 2, 1) := by decide +kernel
theorem dX7_dropOldest_19 : decode cX7_dropOldest 19 = .ok (.aload_n 0, 1) := by decide +kernel
theorem dX7_dropOldest_20 : decode cX7_dropOldest 20 = .ok (.iload_n 1, 1) := by decide +kernel
theorem dX7_dropOldest_21 : decode cX7_dropOldest 21 = .ok (.iconst 1, 1) := by decide +kernel
theorem dX7_dropOldest_22 : decode cX7_dropOldest 22 = .ok (.iadd, 1) := by decide +kernel
theorem dX7_dropOldest_23 : decode cX7_dropOldest 23 = .ok (.iload_n 2, 1) := by decide +kernel
theorem dX7_dropOldest_24 : decode cX7_dropOldest 24 = .ok (.invokevirtual 44, 3) := by decide +kernel
theorem dX7_dropOldest_27 : decode cX7_dropOldest 27 = .ok (.invokevirtual 48, 3) := by decide +kernel
theorem dX7_dropOldest_30 : decode cX7_dropOldest 30 = .ok (.iinc 2 1, 3) := by decide +kernel
theorem dX7_dropOldest_33 : decode cX7_dropOldest 33 = .ok (.goto (-24), 3) := by decide +kernel
theorem dX7_dropOldest_36 : decode cX7_dropOldest 36 = .ok (.iinc 1 1, 3) := by decide +kernel
theorem dX7_dropOldest_39 : decode cX7_dropOldest 39 = .ok (.goto (-37), 3) := by decide +kernel
theorem dX7_dropOldest_42 : decode cX7_dropOldest 42 = .ok (.iconst 0, 1) := by decide +kernel
theorem dX7_dropOldest_43 : decode cX7_dropOldest 43 = .ok (.istore_n 1, 1) := by decide +kernel
theorem dX7_dropOldest_44 : decode cX7_dropOldest 44 = .ok (.iload_n 1, 1) := by decide +kernel
theorem dX7_dropOldest_45 : decode cX7_dropOldest 45 = .ok (.sipush 330, 3) := by decide +kernel
theorem dX7_dropOldest_48 : decode cX7_dropOldest 48 = .ok (.if_icmp .ge 24, 3) := by decide +kernel
theorem dX7_dropOldest_51 : decode cX7_dropOldest 51 = .ok (.aload_n 0, 1) := by decide +kernel
theorem dX7_dropOldest_52 : decode cX7_dropOldest 52 = .ok (.getfield 29, 3) := by decide +kernel
theorem dX7_dropOldest_55 : decode cX7_dropOldest 55 = .ok (.iload_n 1, 1) := by decide +kernel
theorem dX7_dropOldest_56 : decode cX7_dropOldest 56 = .ok (.aload_n 0, 1) := by decide +kernel
theorem dX7_dropOldest_57 : decode cX7_dropOldest 57 = .ok (.getfield 29, 3) := by decide +kernel
theorem dX7_dropOldest_60 : decode cX7_dropOldest 60 = .ok (.iload_n 1, 1) := by decide +kernel
theorem dX7_dropOldest_61 : decode cX7_dropOldest 61 = .ok (.bipush 110, 2) := by decide +kernel
theorem dX7_dropOldest_63 : decode cX7_dropOldest 63 = .ok (.iadd, 1) := by decide +kernel
theorem dX7_dropOldest_64 : decode cX7_dropOldest 64 = .ok (.iaload, 1) := by decide +kernel
theorem dX7_dropOldest_65 : decode cX7_dropOldest 65 = .ok (.iastore, 1) := by decide +kernel
theorem dX7_dropOldest_66 : decode cX7_dropOldest 66 = .ok (.iinc 1 1, 3) := by decide +kernel
theorem dX7_dropOldest_69 : decode cX7_dropOldest 69 = .ok (.goto (-25), 3) := by decide +kernel
theorem dX7_dropOldest_72 : decode cX7_dropOldest 72 = .ok (.iconst 0, 1) := by decide +kernel
theorem dX7_dropOldest_73 : decode cX7_dropOldest 73 = .ok (.istore_n 1, 1) := by decide +kernel
theorem dX7_dropOldest_74 : decode cX7_dropOldest 74 = .ok (.iload_n 1, 1) := by decide +kernel
theorem dX7_dropOldest_75 : decode cX7_dropOldest 75 = .ok (.bipush 12, 2) := by decide +kernel
theorem dX7_dropOldest_77 : decode cX7_dropOldest 77 = .ok (.if_icmp .ge 23, 3) := by decide +kernel
theorem dX7_dropOldest_80 : decode cX7_dropOldest 80 = .ok (.aload_n 0, 1) := by decide +kernel
theorem dX7_dropOldest_81 : decode cX7_dropOldest 81 = .ok (.getfield 38, 3) := by decide +kernel
theorem dX7_dropOldest_84 : decode cX7_dropOldest 84 = .ok (.iload_n 1, 1) := by decide +kernel
theorem dX7_dropOldest_85 : decode cX7_dropOldest 85 = .ok (.aload_n 0, 1) := by decide +kernel
theorem dX7_dropOldest_86 : decode cX7_dropOldest 86 = .ok (.getfield 38, 3) := by decide +kernel
theorem dX7_dropOldest_89 : decode cX7_dropOldest 89 = .ok (.iload_n 1, 1) := by decide +kernel
theorem dX7_dropOldest_90 : decode cX7_dropOldest 90 = .ok (.iconst 4, 1) := by decide +kernel
theorem dX7_dropOldest_91 : decode cX7_dropOldest 91 = .ok (.iadd, 1) := by decide +kernel
theorem dX7_dropOldest_92 : decode cX7_dropOldest 92 = .ok (.laload, 1) := by decide +kernel
theorem dX7_dropOldest_93 : decode cX7_dropOldest 93 = .ok (.lastore, 1) := by decide +kernel
theorem dX7_dropOldest_94 : decode cX7_dropOldest 94 = .ok (.iinc 1 1, 3) := by decide +kernel
theorem dX7_dropOldest_97 : decode cX7_dropOldest 97 = .ok (.goto (-23), 3) := by decide +kernel
theorem dX7_dropOldest_100 : decode cX7_dropOldest 100 = .ok (.aload_n 0, 1) := by decide +kernel
theorem dX7_dropOldest_101 : decode cX7_dropOldest 101 = .ok (.dup, 1) := by decide +kernel
theorem dX7_dropOldest_102 : decode cX7_dropOldest 102 = .ok (.getfield 52, 3) := by decide +kernel
theorem dX7_dropOldest_105 : decode cX7_dropOldest 105 = .ok (.iconst 1, 1) := by decide +kernel
theorem dX7_dropOldest_106 : decode cX7_dropOldest 106 = .ok (.isub, 1) := by decide +kernel
theorem dX7_dropOldest_107 : decode cX7_dropOldest 107 = .ok (.putfield 52, 3) := by decide +kernel
theorem dX7_dropOldest_110 : decode cX7_dropOldest 110 = .ok (.return_, 1) := by decide +kernel
theorem dX7_keep_0 : decode cX7_keep 0 = .ok (.aload_n 0, 1) := by decide +kernel
theorem dX7_keep_1 : decode cX7_keep 1 = .ok (.getfield 52, 3) := by decide +kernel
theorem dX7_keep_4 : decode cX7_keep 4 = .ok (.iconst 4, 1) := by decide +kernel
theorem dX7_keep_5 : decode cX7_keep 5 = .ok (.if_icmp .ne 7, 3) := by decide +kernel
theorem dX7_keep_8 : decode cX7_keep 8 = .ok (.aload_n 0, 1) := by decide +kernel
theorem dX7_keep_9 : decode cX7_keep 9 = .ok (.invokevirtual 56, 3) := by decide +kernel
theorem dX7_keep_12 : decode cX7_keep 12 = .ok (.iconst 0, 1) := by decide +kernel
theorem dX7_keep_13 : decode cX7_keep 13 = .ok (.istore_n 1, 1) := by decide +kernel
theorem dX7_keep_14 : decode cX7_keep 14 = .ok (.iload_n 1, 1) := by decide +kernel
theorem dX7_keep_15 : decode cX7_keep 15 = .ok (.sipush 5010, 3) := by decide +kernel
theorem dX7_keep_18 : decode cX7_keep 18 = .ok (.if_icmp .ge 38, 3) := by decide +kernel
theorem dX7_keep_21 : decode cX7_keep 21 = .ok (.aload_n 0, 1) := by decide +kernel
theorem dX7_keep_22 : decode cX7_keep 22 = .ok (.aload_n 0, 1) := by decide +kernel
theorem dX7_keep_23 : decode cX7_keep 23 = .ok (.getfield 52, 3) := by decide +kernel
theorem dX7_keep_26 : decode cX7_keep 26 = .ok (.iload_n 1, 1) := by decide +kernel
theorem dX7_keep_27 : decode cX7_keep 27 = .ok (.aload_n 0, 1) := by decide +kernel
theorem dX7_keep_28 : decode cX7_keep 28 = .ok (.getfield 13, 3) := by decide +kernel
theorem dX7_keep_31 : decode cX7_keep 31 = .ok (.sipush 801, 3) := by decide +kernel
theorem dX7_keep_34 : decode cX7_keep 34 = .ok (.iload_n 1, 1) := by decide +kernel
theorem dX7_keep_35 : decode cX7_keep 35 = .ok (.sipush 501, 3) := by decide +kernel
theorem dX7_keep_38 : decode cX7_keep 38 = .ok (.idiv, 1) := by decide +kernel
theorem dX7_keep_39 : decode cX7_keep 39 = .ok (.imul, 1) := by decide +kernel
theorem dX7_keep_40 : decode cX7_keep 40 = .ok (.iload_n 1, 1) := by decide +kernel
theorem dX7_keep_41 : decode cX7_keep 41 = .ok (.sipush 501, 3) := by decide +kernel
theorem dX7_keep_44 : decode cX7_keep 44 = .ok (.irem, 1) := by decide +kernel
theorem dX7_keep_45 : decode cX7_keep 45 = .ok (.iadd, 1) := by decide +kernel
theorem dX7_keep_46 : decode cX7_keep 46 = .ok (.iaload, 1) := by decide +kernel
theorem dX7_keep_47 : decode cX7_keep 47 = .ok (.invokevirtual 48, 3) := by decide +kernel
theorem dX7_keep_50 : decode cX7_keep 50 = .ok (.iinc 1 1, 3) := by decide +kernel
theorem dX7_keep_53 : decode cX7_keep 53 = .ok (.goto (-39), 3) := by decide +kernel
theorem dX7_keep_56 : decode cX7_keep 56 = .ok (.iconst 0, 1) := by decide +kernel
theorem dX7_keep_57 : decode cX7_keep 57 = .ok (.istore_n 1, 1) := by decide +kernel
theorem dX7_keep_58 : decode cX7_keep 58 = .ok (.iload_n 1, 1) := by decide +kernel
theorem dX7_keep_59 : decode cX7_keep 59 = .ok (.bipush 110, 2) := by decide +kernel
theorem dX7_keep_61 : decode cX7_keep 61 = .ok (.if_icmp .ge 29, 3) := by decide +kernel
theorem dX7_keep_64 : decode cX7_keep 64 = .ok (.aload_n 0, 1) := by decide +kernel
theorem dX7_keep_65 : decode cX7_keep 65 = .ok (.getfield 29, 3) := by decide +kernel
theorem dX7_keep_68 : decode cX7_keep 68 = .ok (.bipush 110, 2) := by decide +kernel
theorem dX7_keep_70 : decode cX7_keep 70 = .ok (.aload_n 0, 1) := by decide +kernel
theorem dX7_keep_71 : decode cX7_keep 71 = .ok (.getfield 52, 3) := by decide +kernel
theorem dX7_keep_74 : decode cX7_keep 74 = .ok (.imul, 1) := by decide +kernel
theorem dX7_keep_75 : decode cX7_keep 75 = .ok (.iload_n 1, 1) := by decide +kernel
theorem dX7_keep_76 : decode cX7_keep 76 = .ok (.iadd, 1) := by decide +kernel
theorem dX7_keep_77 : decode cX7_keep 77 = .ok (.aload_n 0, 1) := by decide +kernel
theorem dX7_keep_78 : decode cX7_keep 78 = .ok (.getfield 7, 3) := by decide +kernel
theorem dX7_keep_81 : decode cX7_keep 81 = .ok (.iload_n 1, 1) := by decide +kernel
theorem dX7_keep_82 : decode cX7_keep 82 = .ok (.iaload, 1) := by decide +kernel
theorem dX7_keep_83 : decode cX7_keep 83 = .ok (.iastore, 1) := by decide +kernel
theorem dX7_keep_84 : decode cX7_keep 84 = .ok (.iinc 1 1, 3) := by decide +kernel
theorem dX7_keep_87 : decode cX7_keep 87 = .ok (.goto (-29), 3) := by decide +kernel
theorem dX7_keep_90 : decode cX7_keep 90 = .ok (.iconst 0, 1) := by decide +kernel
theorem dX7_keep_91 : decode cX7_keep 91 = .ok (.istore_n 1, 1) := by decide +kernel
theorem dX7_keep_92 : decode cX7_keep 92 = .ok (.iload_n 1, 1) := by decide +kernel
theorem dX7_keep_93 : decode cX7_keep 93 = .ok (.iconst 4, 1) := by decide +kernel
theorem dX7_keep_94 : decode cX7_keep 94 = .ok (.if_icmp .ge 28, 3) := by decide +kernel
theorem dX7_keep_97 : decode cX7_keep 97 = .ok (.aload_n 0, 1) := by decide +kernel
theorem dX7_keep_98 : decode cX7_keep 98 = .ok (.getfield 38, 3) := by decide +kernel
theorem dX7_keep_101 : decode cX7_keep 101 = .ok (.iconst 4, 1) := by decide +kernel
theorem dX7_keep_102 : decode cX7_keep 102 = .ok (.aload_n 0, 1) := by decide +kernel
theorem dX7_keep_103 : decode cX7_keep 103 = .ok (.getfield 52, 3) := by decide +kernel
theorem dX7_keep_106 : decode cX7_keep 106 = .ok (.imul, 1) := by decide +kernel
theorem dX7_keep_107 : decode cX7_keep 107 = .ok (.iload_n 1, 1) := by decide +kernel
theorem dX7_keep_108 : decode cX7_keep 108 = .ok (.iadd, 1) := by decide +kernel
theorem dX7_keep_109 : decode cX7_keep 109 = .ok (.aload_n 0, 1) := by decide +kernel
theorem dX7_keep_110 : decode cX7_keep 110 = .ok (.getfield 16, 3) := by decide +kernel
theorem dX7_keep_113 : decode cX7_keep 113 = .ok (.iload_n 1, 1) := by decide +kernel
theorem dX7_keep_114 : decode cX7_keep 114 = .ok (.laload, 1) := by decide +kernel
theorem dX7_keep_115 : decode cX7_keep 115 = .ok (.lastore, 1) := by decide +kernel
theorem dX7_keep_116 : decode cX7_keep 116 = .ok (.iinc 1 1, 3) := by decide +kernel
theorem dX7_keep_119 : decode cX7_keep 119 = .ok (.goto (-27), 3) := by decide +kernel
theorem dX7_keep_122 : decode cX7_keep 122 = .ok (.aload_n 0, 1) := by decide +kernel
theorem dX7_keep_123 : decode cX7_keep 123 = .ok (.dup, 1) := by decide +kernel
theorem dX7_keep_124 : decode cX7_keep 124 = .ok (.getfield 52, 3) := by decide +kernel
theorem dX7_keep_127 : decode cX7_keep 127 = .ok (.iconst 1, 1) := by decide +kernel
theorem dX7_keep_128 : decode cX7_keep 128 = .ok (.iadd, 1) := by decide +kernel
theorem dX7_keep_129 : decode cX7_keep 129 = .ok (.putfield 52, 3) := by decide +kernel
theorem dX7_keep_132 : decode cX7_keep 132 = .ok (.return_, 1) := by decide +kernel
theorem dX7_undo_0 : decode cX7_undo 0 = .ok (.aload_n 0, 1) := by decide +kernel
theorem dX7_undo_1 : decode cX7_undo 1 = .ok (.getfield 52, 3) := by decide +kernel
theorem dX7_undo_4 : decode cX7_undo 4 = .ok (.ifCond .ne 6, 3) := by decide +kernel
theorem dX7_undo_7 : decode cX7_undo 7 = .ok (.ldc 59, 2) := by decide +kernel
theorem dX7_undo_9 : decode cX7_undo 9 = .ok (.ireturn, 1) := by decide +kernel
theorem dX7_undo_10 : decode cX7_undo 10 = .ok (.aload_n 0, 1) := by decide +kernel
theorem dX7_undo_11 : decode cX7_undo 11 = .ok (.dup, 1) := by decide +kernel
theorem dX7_undo_12 : decode cX7_undo 12 = .ok (.getfield 52, 3) := by decide +kernel
theorem dX7_undo_15 : decode cX7_undo 15 = .ok (.iconst 1, 1) := by decide +kernel
theorem dX7_undo_16 : decode cX7_undo 16 = .ok (.isub, 1) := by decide +kernel
theorem dX7_undo_17 : decode cX7_undo 17 = .ok (.putfield 52, 3) := by decide +kernel
theorem dX7_undo_20 : decode cX7_undo 20 = .ok (.iconst 0, 1) := by decide +kernel
theorem dX7_undo_21 : decode cX7_undo 21 = .ok (.istore_n 1, 1) := by decide +kernel
theorem dX7_undo_22 : decode cX7_undo 22 = .ok (.iload_n 1, 1) := by decide +kernel
theorem dX7_undo_23 : decode cX7_undo 23 = .ok (.sipush 5010, 3) := by decide +kernel
theorem dX7_undo_26 : decode cX7_undo 26 = .ok (.if_icmp .ge 38, 3) := by decide +kernel
theorem dX7_undo_29 : decode cX7_undo 29 = .ok (.aload_n 0, 1) := by decide +kernel
theorem dX7_undo_30 : decode cX7_undo 30 = .ok (.getfield 13, 3) := by decide +kernel
theorem dX7_undo_33 : decode cX7_undo 33 = .ok (.sipush 801, 3) := by decide +kernel
theorem dX7_undo_36 : decode cX7_undo 36 = .ok (.iload_n 1, 1) := by decide +kernel
theorem dX7_undo_37 : decode cX7_undo 37 = .ok (.sipush 501, 3) := by decide +kernel
theorem dX7_undo_40 : decode cX7_undo 40 = .ok (.idiv, 1) := by decide +kernel
theorem dX7_undo_41 : decode cX7_undo 41 = .ok (.imul, 1) := by decide +kernel
theorem dX7_undo_42 : decode cX7_undo 42 = .ok (.iload_n 1, 1) := by decide +kernel
theorem dX7_undo_43 : decode cX7_undo 43 = .ok (.sipush 501, 3) := by decide +kernel
theorem dX7_undo_46 : decode cX7_undo 46 = .ok (.irem, 1) := by decide +kernel
theorem dX7_undo_47 : decode cX7_undo 47 = .ok (.iadd, 1) := by decide +kernel
theorem dX7_undo_48 : decode cX7_undo 48 = .ok (.aload_n 0, 1) := by decide +kernel
theorem dX7_undo_49 : decode cX7_undo 49 = .ok (.aload_n 0, 1) := by decide +kernel
theorem dX7_undo_50 : decode cX7_undo 50 = .ok (.getfield 52, 3) := by decide +kernel
theorem dX7_undo_53 : decode cX7_undo 53 = .ok (.iload_n 1, 1) := by decide +kernel
theorem dX7_undo_54 : decode cX7_undo 54 = .ok (.invokevirtual 44, 3) := by decide +kernel
theorem dX7_undo_57 : decode cX7_undo 57 = .ok (.iastore, 1) := by decide +kernel
theorem dX7_undo_58 : decode cX7_undo 58 = .ok (.iinc 1 1, 3) := by decide +kernel
theorem dX7_undo_61 : decode cX7_undo 61 = .ok (.goto (-39), 3) := by decide +kernel
theorem dX7_undo_64 : decode cX7_undo 64 = .ok (.iconst 0, 1) := by decide +kernel
theorem dX7_undo_65 : decode cX7_undo 65 = .ok (.istore_n 1, 1) := by decide +kernel
theorem dX7_undo_66 : decode cX7_undo 66 = .ok (.iload_n 1, 1) := by decide +kernel
theorem dX7_undo_67 : decode cX7_undo 67 = .ok (.bipush 110, 2) := by decide +kernel
theorem dX7_undo_69 : decode cX7_undo 69 = .ok (.if_icmp .ge 29, 3) := by decide +kernel
theorem dX7_undo_72 : decode cX7_undo 72 = .ok (.aload_n 0, 1) := by decide +kernel
theorem dX7_undo_73 : decode cX7_undo 73 = .ok (.getfield 7, 3) := by decide +kernel
theorem dX7_undo_76 : decode cX7_undo 76 = .ok (.iload_n 1, 1) := by decide +kernel
theorem dX7_undo_77 : decode cX7_undo 77 = .ok (.aload_n 0, 1) := by decide +kernel
theorem dX7_undo_78 : decode cX7_undo 78 = .ok (.getfield 29, 3) := by decide +kernel
theorem dX7_undo_81 : decode cX7_undo 81 = .ok (.bipush 110, 2) := by decide +kernel
theorem dX7_undo_83 : decode cX7_undo 83 = .ok (.aload_n 0, 1) := by decide +kernel
theorem dX7_undo_84 : decode cX7_undo 84 = .ok (.getfield 52, 3) := by decide +kernel
theorem dX7_undo_87 : decode cX7_undo 87 = .ok (.imul, 1) := by decide +kernel
theorem dX7_undo_88 : decode cX7_undo 88 = .ok (.iload_n 1, 1) := by decide +kernel
theorem dX7_undo_89 : decode cX7_undo 89 = .ok (.iadd, 1) := by decide +kernel
theorem dX7_undo_90 : decode cX7_undo 90 = .ok (.iaload, 1) := by decide +kernel
theorem dX7_undo_91 : decode cX7_undo 91 = .ok (.iastore, 1) := by decide +kernel
theorem dX7_undo_92 : decode cX7_undo 92 = .ok (.iinc 1 1, 3) := by decide +kernel
theorem dX7_undo_95 : decode cX7_undo 95 = .ok (.goto (-29), 3) := by decide +kernel
theorem dX7_undo_98 : decode cX7_undo 98 = .ok (.iconst 0, 1) := by decide +kernel
theorem dX7_undo_99 : decode cX7_undo 99 = .ok (.istore_n 1, 1) := by decide +kernel
theorem dX7_undo_100 : decode cX7_undo 100 = .ok (.iload_n 1, 1) := by decide +kernel
theorem dX7_undo_101 : decode cX7_undo 101 = .ok (.iconst 4, 1) := by decide +kernel
theorem dX7_undo_102 : decode cX7_undo 102 = .ok (.if_icmp .ge 28, 3) := by decide +kernel
theorem dX7_undo_105 : decode cX7_undo 105 = .ok (.aload_n 0, 1) := by decide +kernel
theorem dX7_undo_106 : decode cX7_undo 106 = .ok (.getfield 16, 3) := by decide +kernel
theorem dX7_undo_109 : decode cX7_undo 109 = .ok (.iload_n 1, 1) := by decide +kernel
theorem dX7_undo_110 : decode cX7_undo 110 = .ok (.aload_n 0, 1) := by decide +kernel
theorem dX7_undo_111 : decode cX7_undo 111 = .ok (.getfield 38, 3) := by decide +kernel
theorem dX7_undo_114 : decode cX7_undo 114 = .ok (.iconst 4, 1) := by decide +kernel
theorem dX7_undo_115 : decode cX7_undo 115 = .ok (.aload_n 0, 1) := by decide +kernel
theorem dX7_undo_116 : decode cX7_undo 116 = .ok (.getfield 52, 3) := by decide +kernel
theorem dX7_undo_119 : decode cX7_undo 119 = .ok (.imul, 1) := by decide +kernel
theorem dX7_undo_120 : decode cX7_undo 120 = .ok (.iload_n 1, 1) := by decide +kernel
theorem dX7_undo_121 : decode cX7_undo 121 = .ok (.iadd, 1) := by decide +kernel
theorem dX7_undo_122 : decode cX7_undo 122 = .ok (.laload, 1) := by decide +kernel
theorem dX7_undo_123 : decode cX7_undo 123 = .ok (.lastore, 1) := by decide +kernel
theorem dX7_undo_124 : decode cX7_undo 124 = .ok (.iinc 1 1, 3) := by decide +kernel
theorem dX7_undo_127 : decode cX7_undo 127 = .ok (.goto (-27), 3) := by decide +kernel
theorem dX7_undo_130 : decode cX7_undo 130 = .ok (.aload_n 0, 1) := by decide +kernel
theorem dX7_undo_131 : decode cX7_undo 131 = .ok (.getfield 52, 3) := by decide +kernel
theorem dX7_undo_134 : decode cX7_undo 134 = .ok (.ireturn, 1) := by decide +kernel
theorem dX7_setAside_0 : decode cX7_setAside 0 = .ok (.iconst 0, 1) := by decide +kernel
theorem dX7_setAside_1 : decode cX7_setAside 1 = .ok (.istore_n 1, 1) := by decide +kernel
theorem dX7_setAside_2 : decode cX7_setAside 2 = .ok (.iload_n 1, 1) := by decide +kernel
theorem dX7_setAside_3 : decode cX7_setAside 3 = .ok (.sipush 8010, 3) := by decide +kernel
theorem dX7_setAside_6 : decode cX7_setAside 6 = .ok (.if_icmp .ge 21, 3) := by decide +kernel
theorem dX7_setAside_9 : decode cX7_setAside 9 = .ok (.aload_n 0, 1) := by decide +kernel
theorem dX7_setAside_10 : decode cX7_setAside 10 = .ok (.getfield 23, 3) := by decide +kernel
theorem dX7_setAside_13 : decode cX7_setAside 13 = .ok (.iload_n 1, 1) := by decide +kernel
theorem dX7_setAside_14 : decode cX7_setAside 14 = .ok (.aload_n 0, 1) := by decide +kernel
theorem dX7_setAside_15 : decode cX7_setAside 15 = .ok (.getfield 13, 3) := by decide +kernel
theorem dX7_setAside_18 : decode cX7_setAside 18 = .ok (.iload_n 1, 1) := by decide +kernel
theorem dX7_setAside_19 : decode cX7_setAside 19 = .ok (.iaload, 1) := by decide +kernel
theorem dX7_setAside_20 : decode cX7_setAside 20 = .ok (.iastore, 1) := by decide +kernel
theorem dX7_setAside_21 : decode cX7_setAside 21 = .ok (.iinc 1 1, 3) := by decide +kernel
theorem dX7_setAside_24 : decode cX7_setAside 24 = .ok (.goto (-22), 3) := by decide +kernel
theorem dX7_setAside_27 : decode cX7_setAside 27 = .ok (.iconst 0, 1) := by decide +kernel
theorem dX7_setAside_28 : decode cX7_setAside 28 = .ok (.istore_n 1, 1) := by decide +kernel
theorem dX7_setAside_29 : decode cX7_setAside 29 = .ok (.iload_n 1, 1) := by decide +kernel
theorem dX7_setAside_30 : decode cX7_setAside 30 = .ok (.bipush 110, 2) := by decide +kernel
theorem dX7_setAside_32 : decode cX7_setAside 32 = .ok (.if_icmp .ge 21, 3) := by decide +kernel
theorem dX7_setAside_35 : decode cX7_setAside 35 = .ok (.aload_n 0, 1) := by decide +kernel
theorem dX7_setAside_36 : decode cX7_setAside 36 = .ok (.getfield 20, 3) := by decide +kernel
theorem dX7_setAside_39 : decode cX7_setAside 39 = .ok (.iload_n 1, 1) := by decide +kernel
theorem dX7_setAside_40 : decode cX7_setAside 40 = .ok (.aload_n 0, 1) := by decide +kernel
theorem dX7_setAside_41 : decode cX7_setAside 41 = .ok (.getfield 7, 3) := by decide +kernel
theorem dX7_setAside_44 : decode cX7_setAside 44 = .ok (.iload_n 1, 1) := by decide +kernel
theorem dX7_setAside_45 : decode cX7_setAside 45 = .ok (.iaload, 1) := by decide +kernel
theorem dX7_setAside_46 : decode cX7_setAside 46 = .ok (.iastore, 1) := by decide +kernel
theorem dX7_setAside_47 : decode cX7_setAside 47 = .ok (.iinc 1 1, 3) := by decide +kernel
theorem dX7_setAside_50 : decode cX7_setAside 50 = .ok (.goto (-21), 3) := by decide +kernel
theorem dX7_setAside_53 : decode cX7_setAside 53 = .ok (.iconst 0, 1) := by decide +kernel
theorem dX7_setAside_54 : decode cX7_setAside 54 = .ok (.istore_n 1, 1) := by decide +kernel
theorem dX7_setAside_55 : decode cX7_setAside 55 = .ok (.iload_n 1, 1) := by decide +kernel
theorem dX7_setAside_56 : decode cX7_setAside 56 = .ok (.iconst 4, 1) := by decide +kernel
theorem dX7_setAside_57 : decode cX7_setAside 57 = .ok (.if_icmp .ge 21, 3) := by decide +kernel
theorem dX7_setAside_60 : decode cX7_setAside 60 = .ok (.aload_n 0, 1) := by decide +kernel
theorem dX7_setAside_61 : decode cX7_setAside 61 = .ok (.getfield 26, 3) := by decide +kernel
theorem dX7_setAside_64 : decode cX7_setAside 64 = .ok (.iload_n 1, 1) := by decide +kernel
theorem dX7_setAside_65 : decode cX7_setAside 65 = .ok (.aload_n 0, 1) := by decide +kernel
theorem dX7_setAside_66 : decode cX7_setAside 66 = .ok (.getfield 16, 3) := by decide +kernel
theorem dX7_setAside_69 : decode cX7_setAside 69 = .ok (.iload_n 1, 1) := by decide +kernel
theorem dX7_setAside_70 : decode cX7_setAside 70 = .ok (.laload, 1) := by decide +kernel
theorem dX7_setAside_71 : decode cX7_setAside 71 = .ok (.lastore, 1) := by decide +kernel
theorem dX7_setAside_72 : decode cX7_setAside 72 = .ok (.iinc 1 1, 3) := by decide +kernel
theorem dX7_setAside_75 : decode cX7_setAside 75 = .ok (.goto (-20), 3) := by decide +kernel
theorem dX7_setAside_78 : decode cX7_setAside 78 = .ok (.return_, 1) := by decide +kernel
theorem dX7_bringBack_0 : decode cX7_bringBack 0 = .ok (.iconst 0, 1) := by decide +kernel
theorem dX7_bringBack_1 : decode cX7_bringBack 1 = .ok (.istore_n 1, 1) := by decide +kernel
theorem dX7_bringBack_2 : decode cX7_bringBack 2 = .ok (.iload_n 1, 1) := by decide +kernel
theorem dX7_bringBack_3 : decode cX7_bringBack 3 = .ok (.sipush 8010, 3) := by decide +kernel
theorem dX7_bringBack_6 : decode cX7_bringBack 6 = .ok (.if_icmp .ge 21, 3) := by decide +kernel
theorem dX7_bringBack_9 : decode cX7_bringBack 9 = .ok (.aload_n 0, 1) := by decide +kernel
theorem dX7_bringBack_10 : decode cX7_bringBack 10 = .ok (.getfield 13, 3) := by decide +kernel
theorem dX7_bringBack_13 : decode cX7_bringBack 13 = .ok (.iload_n 1, 1) := by decide +kernel
theorem dX7_bringBack_14 : decode cX7_bringBack 14 = .ok (.aload_n 0, 1) := by decide +kernel
theorem dX7_bringBack_15 : decode cX7_bringBack 15 = .ok (.getfield 23, 3) := by decide +kernel
theorem dX7_bringBack_18 : decode cX7_bringBack 18 = .ok (.iload_n 1, 1) := by decide +kernel
theorem dX7_bringBack_19 : decode cX7_bringBack 19 = .ok (.iaload, 1) := by decide +kernel
theorem dX7_bringBack_20 : decode cX7_bringBack 20 = .ok (.iastore, 1) := by decide +kernel
theorem dX7_bringBack_21 : decode cX7_bringBack 21 = .ok (.iinc 1 1, 3) := by decide +kernel
theorem dX7_bringBack_24 : decode cX7_bringBack 24 = .ok (.goto (-22), 3) := by decide +kernel
theorem dX7_bringBack_27 : decode cX7_bringBack 27 = .ok (.iconst 0, 1) := by decide +kernel
theorem dX7_bringBack_28 : decode cX7_bringBack 28 = .ok (.istore_n 1, 1) := by decide +kernel
theorem dX7_bringBack_29 : decode cX7_bringBack 29 = .ok (.iload_n 1, 1) := by decide +kernel
theorem dX7_bringBack_30 : decode cX7_bringBack 30 = .ok (.bipush 110, 2) := by decide +kernel
theorem dX7_bringBack_32 : decode cX7_bringBack 32 = .ok (.if_icmp .ge 21, 3) := by decide +kernel
theorem dX7_bringBack_35 : decode cX7_bringBack 35 = .ok (.aload_n 0, 1) := by decide +kernel
theorem dX7_bringBack_36 : decode cX7_bringBack 36 = .ok (.getfield 7, 3) := by decide +kernel
theorem dX7_bringBack_39 : decode cX7_bringBack 39 = .ok (.iload_n 1, 1) := by decide +kernel
theorem dX7_bringBack_40 : decode cX7_bringBack 40 = .ok (.aload_n 0, 1) := by decide +kernel
theorem dX7_bringBack_41 : decode cX7_bringBack 41 = .ok (.getfield 20, 3) := by decide +kernel
theorem dX7_bringBack_44 : decode cX7_bringBack 44 = .ok (.iload_n 1, 1) := by decide +kernel
theorem dX7_bringBack_45 : decode cX7_bringBack 45 = .ok (.iaload, 1) := by decide +kernel
theorem dX7_bringBack_46 : decode cX7_bringBack 46 = .ok (.iastore, 1) := by decide +kernel
theorem dX7_bringBack_47 : decode cX7_bringBack 47 = .ok (.iinc 1 1, 3) := by decide +kernel
theorem dX7_bringBack_50 : decode cX7_bringBack 50 = .ok (.goto (-21), 3) := by decide +kernel
theorem dX7_bringBack_53 : decode cX7_bringBack 53 = .ok (.iconst 0, 1) := by decide +kernel
theorem dX7_bringBack_54 : decode cX7_bringBack 54 = .ok (.istore_n 1, 1) := by decide +kernel
theorem dX7_bringBack_55 : decode cX7_bringBack 55 = .ok (.iload_n 1, 1) := by decide +kernel
theorem dX7_bringBack_56 : decode cX7_bringBack 56 = .ok (.iconst 4, 1) := by decide +kernel
theorem dX7_bringBack_57 : decode cX7_bringBack 57 = .ok (.if_icmp .ge 21, 3) := by decide +kernel
theorem dX7_bringBack_60 : decode cX7_bringBack 60 = .ok (.aload_n 0, 1) := by decide +kernel
theorem dX7_bringBack_61 : decode cX7_bringBack 61 = .ok (.getfield 16, 3) := by decide +kernel
theorem dX7_bringBack_64 : decode cX7_bringBack 64 = .ok (.iload_n 1, 1) := by decide +kernel
theorem dX7_bringBack_65 : decode cX7_bringBack 65 = .ok (.aload_n 0, 1) := by decide +kernel
theorem dX7_bringBack_66 : decode cX7_bringBack 66 = .ok (.getfield 26, 3) := by decide +kernel
theorem dX7_bringBack_69 : decode cX7_bringBack 69 = .ok (.iload_n 1, 1) := by decide +kernel
theorem dX7_bringBack_70 : decode cX7_bringBack 70 = .ok (.laload, 1) := by decide +kernel
theorem dX7_bringBack_71 : decode cX7_bringBack 71 = .ok (.lastore, 1) := by decide +kernel
theorem dX7_bringBack_72 : decode cX7_bringBack 72 = .ok (.iinc 1 1, 3) := by decide +kernel
theorem dX7_bringBack_75 : decode cX7_bringBack 75 = .ok (.goto (-20), 3) := by decide +kernel
theorem dX7_bringBack_78 : decode cX7_bringBack 78 = .ok (.return_, 1) := by decide +kernel
theorem dX7_of_0 : decode cX7_of 0 = .ok (.aload_n 0, 1) := by decide +kernel
theorem dX7_of_1 : decode cX7_of 1 = .ok (.getfield 7, 3) := by decide +kernel
theorem dX7_of_4 : decode cX7_of 4 = .ok (.bipush 14, 2) := by decide +kernel
theorem dX7_of_6 : decode cX7_of 6 = .ok (.bipush 6, 2) := by decide +kernel
theorem dX7_of_8 : decode cX7_of 8 = .ok (.iload_n 1, 1) := by decide +kernel
theorem dX7_of_9 : decode cX7_of 9 = .ok (.imul, 1) := by decide +kernel
theorem dX7_of_10 : decode cX7_of 10 = .ok (.iadd, 1) := by decide +kernel
theorem dX7_of_11 : decode cX7_of 11 = .ok (.iload_n 2, 1) := by decide +kernel
theorem dX7_of_12 : decode cX7_of 12 = .ok (.iadd, 1) := by decide +kernel
theorem dX7_of_13 : decode cX7_of 13 = .ok (.iaload, 1) := by decide +kernel
theorem dX7_of_14 : decode cX7_of 14 = .ok (.ireturn, 1) := by decide +kernel
theorem dX7_put_0 : decode cX7_put 0 = .ok (.aload_n 0, 1) := by decide +kernel
theorem dX7_put_1 : decode cX7_put 1 = .ok (.getfield 7, 3) := by decide +kernel
theorem dX7_put_4 : decode cX7_put 4 = .ok (.bipush 14, 2) := by decide +kernel
theorem dX7_put_6 : decode cX7_put 6 = .ok (.bipush 6, 2) := by decide +kernel
theorem dX7_put_8 : decode cX7_put 8 = .ok (.iload_n 1, 1) := by decide +kernel
theorem dX7_put_9 : decode cX7_put 9 = .ok (.imul, 1) := by decide +kernel
theorem dX7_put_10 : decode cX7_put 10 = .ok (.iadd, 1) := by decide +kernel
theorem dX7_put_11 : decode cX7_put 11 = .ok (.iload_n 2, 1) := by decide +kernel
theorem dX7_put_12 : decode cX7_put 12 = .ok (.iadd, 1) := by decide +kernel
theorem dX7_put_13 : decode cX7_put 13 = .ok (.iload_n 3, 1) := by decide +kernel
theorem dX7_put_14 : decode cX7_put 14 = .ok (.iastore, 1) := by decide +kernel
theorem dX7_put_15 : decode cX7_put 15 = .ok (.return_, 1) := by decide +kernel
theorem dX7_ofStake_0 : decode cX7_ofStake 0 = .ok (.aload_n 0, 1) := by decide +kernel
theorem dX7_ofStake_1 : decode cX7_ofStake 1 = .ok (.getfield 7, 3) := by decide +kernel
theorem dX7_ofStake_4 : decode cX7_ofStake 4 = .ok (.bipush 74, 2) := by decide +kernel
theorem dX7_ofStake_6 : decode cX7_ofStake 6 = .ok (.bipush 6, 2) := by decide +kernel
theorem dX7_ofStake_8 : decode cX7_ofStake 8 = .ok (.iload_n 1, 1) := by decide +kernel
theorem dX7_ofStake_9 : decode cX7_ofStake 9 = .ok (.imul, 1) := by decide +kernel
theorem dX7_ofStake_10 : decode cX7_ofStake 10 = .ok (.iadd, 1) := by decide +kernel
theorem dX7_ofStake_11 : decode cX7_ofStake 11 = .ok (.iload_n 2, 1) := by decide +kernel
theorem dX7_ofStake_12 : decode cX7_ofStake 12 = .ok (.iadd, 1) := by decide +kernel
theorem dX7_ofStake_13 : decode cX7_ofStake 13 = .ok (.iaload, 1) := by decide +kernel
theorem dX7_ofStake_14 : decode cX7_ofStake 14 = .ok (.ireturn, 1) := by decide +kernel
theorem dX7_putStake_0 : decode cX7_putStake 0 = .ok (.aload_n 0, 1) := by decide +kernel
theorem dX7_putStake_1 : decode cX7_putStake 1 = .ok (.getfield 7, 3) := by decide +kernel
theorem dX7_putStake_4 : decode cX7_putStake 4 = .ok (.bipush 74, 2) := by decide +kernel
theorem dX7_putStake_6 : decode cX7_putStake 6 = .ok (.bipush 6, 2) := by decide +kernel
theorem dX7_putStake_8 : decode cX7_putStake 8 = .ok (.iload_n 1, 1) := by decide +kernel
theorem dX7_putStake_9 : decode cX7_putStake 9 = .ok (.imul, 1) := by decide +kernel
theorem dX7_putStake_10 : decode cX7_putStake 10 = .ok (.iadd, 1) := by decide +kernel
theorem dX7_putStake_11 : decode cX7_putStake 11 = .ok (.iload_n 2, 1) := by decide +kernel
theorem dX7_putStake_12 : decode cX7_putStake 12 = .ok (.iadd, 1) := by decide +kernel
theorem dX7_putStake_13 : decode cX7_putStake 13 = .ok (.iload_n 3, 1) := by decide +kernel
theorem dX7_putStake_14 : decode cX7_putStake 14 = .ok (.iastore, 1) := by decide +kernel
theorem dX7_putStake_15 : decode cX7_putStake 15 = .ok (.return_, 1) := by decide +kernel
theorem dX7_isBand_0 : decode cX7_isBand 0 = .ok (.iload_n 1, 1) := by decide +kernel
theorem dX7_isBand_1 : decode cX7_isBand 1 = .ok (.iconst 0, 1) := by decide +kernel
theorem dX7_isBand_2 : decode cX7_isBand 2 = .ok (.aload_n 0, 1) := by decide +kernel
theorem dX7_isBand_3 : decode cX7_isBand 3 = .ok (.getfield 7, 3) := by decide +kernel
theorem dX7_isBand_6 : decode cX7_isBand 6 = .ok (.bipush 8, 2) := by decide +kernel
theorem dX7_isBand_8 : decode cX7_isBand 8 = .ok (.iaload, 1) := by decide +kernel
theorem dX7_isBand_9 : decode cX7_isBand 9 = .ok (.iconst 1, 1) := by decide +kernel
theorem dX7_isBand_10 : decode cX7_isBand 10 = .ok (.isub, 1) := by decide +kernel
theorem dX7_isBand_11 : decode cX7_isBand 11 = .ok (.invokestatic 60, 3) := by decide +kernel
theorem dX7_isBand_14 : decode cX7_isBand 14 = .ok (.ireturn, 1) := by decide +kernel
theorem dX7_isStake_0 : decode cX7_isStake 0 = .ok (.iload_n 1, 1) := by decide +kernel
theorem dX7_isStake_1 : decode cX7_isStake 1 = .ok (.iconst 0, 1) := by decide +kernel
theorem dX7_isStake_2 : decode cX7_isStake 2 = .ok (.aload_n 0, 1) := by decide +kernel
theorem dX7_isStake_3 : decode cX7_isStake 3 = .ok (.getfield 7, 3) := by decide +kernel
theorem dX7_isStake_6 : decode cX7_isStake 6 = .ok (.bipush 9, 2) := by decide +kernel
theorem dX7_isStake_8 : decode cX7_isStake 8 = .ok (.iaload, 1) := by decide +kernel
theorem dX7_isStake_9 : decode cX7_isStake 9 = .ok (.iconst 1, 1) := by decide +kernel
theorem dX7_isStake_10 : decode cX7_isStake 10 = .ok (.isub, 1) := by decide +kernel
theorem dX7_isStake_11 : decode cX7_isStake 11 = .ok (.invokestatic 60, 3) := by decide +kernel
theorem dX7_isStake_14 : decode cX7_isStake 14 = .ok (.ireturn, 1) := by decide +kernel
theorem dX7_iceOf_0 : decode cX7_iceOf 0 = .ok (.iconst 0, 1) := by decide +kernel
theorem dX7_iceOf_1 : decode cX7_iceOf 1 = .ok (.istore_n 2, 1) := by decide +kernel
theorem dX7_iceOf_2 : decode cX7_iceOf 2 = .ok (.iconst 0, 1) := by decide +kernel
theorem dX7_iceOf_3 : decode cX7_iceOf 3 = .ok (.istore_n 3, 1) := by decide +kernel
theorem dX7_iceOf_4 : decode cX7_iceOf 4 = .ok (.iload_n 3, 1) := by decide +kernel
theorem dX7_iceOf_5 : decode cX7_iceOf 5 = .ok (.aload_n 0, 1) := by decide +kernel
theorem dX7_iceOf_6 : decode cX7_iceOf 6 = .ok (.getfield 7, 3) := by decide +kernel
theorem dX7_iceOf_9 : decode cX7_iceOf 9 = .ok (.bipush 7, 2) := by decide +kernel
theorem dX7_iceOf_11 : decode cX7_iceOf 11 = .ok (.iaload, 1) := by decide +kernel
theorem dX7_iceOf_12 : decode cX7_iceOf 12 = .ok (.if_icmp .gt 24, 3) := by decide +kernel
theorem dX7_iceOf_15 : decode cX7_iceOf 15 = .ok (.iload_n 2, 1) := by decide +kernel
theorem dX7_iceOf_16 : decode cX7_iceOf 16 = .ok (.aload_n 0, 1) := by decide +kernel
theorem dX7_iceOf_17 : decode cX7_iceOf 17 = .ok (.getfield 13, 3) := by decide +kernel
theorem dX7_iceOf_20 : decode cX7_iceOf 20 = .ok (.sipush 801, 3) := by decide +kernel
theorem dX7_iceOf_23 : decode cX7_iceOf 23 = .ok (.iload_n 1, 1) := by decide +kernel
theorem dX7_iceOf_24 : decode cX7_iceOf 24 = .ok (.imul, 1) := by decide +kernel
theorem dX7_iceOf_25 : decode cX7_iceOf 25 = .ok (.iload_n 3, 1) := by decide +kernel
theorem dX7_iceOf_26 : decode cX7_iceOf 26 = .ok (.iadd, 1) := by decide +kernel
theorem dX7_iceOf_27 : decode cX7_iceOf 27 = .ok (.iaload, 1) := by decide +kernel
theorem dX7_iceOf_28 : decode cX7_iceOf 28 = .ok (.iadd, 1) := by decide +kernel
theorem dX7_iceOf_29 : decode cX7_iceOf 29 = .ok (.istore_n 2, 1) := by decide +kernel
theorem dX7_iceOf_30 : decode cX7_iceOf 30 = .ok (.iinc 3 1, 3) := by decide +kernel
theorem dX7_iceOf_33 : decode cX7_iceOf 33 = .ok (.goto (-29), 3) := by decide +kernel
theorem dX7_iceOf_36 : decode cX7_iceOf 36 = .ok (.iload_n 2, 1) := by decide +kernel
theorem dX7_iceOf_37 : decode cX7_iceOf 37 = .ok (.ireturn, 1) := by decide +kernel
theorem dX7_isSetting_0 : decode cX7_isSetting 0 = .ok (.iload_n 0, 1) := by decide +kernel
theorem dX7_isSetting_1 : decode cX7_isSetting 1 = .ok (.tableswitch 74 0 5 #[39, 48, 57, 48, 39, 66], 39) := by decide +kernel
theorem dX7_isSetting_40 : decode cX7_isSetting 40 = .ok (.iload_n 1, 1) := by decide +kernel
theorem dX7_isSetting_41 : decode cX7_isSetting 41 = .ok (.iconst 0, 1) := by decide +kernel
theorem dX7_isSetting_42 : decode cX7_isSetting 42 = .ok (.sipush 5000, 3) := by decide +kernel
theorem dX7_isSetting_45 : decode cX7_isSetting 45 = .ok (.invokestatic 60, 3) := by decide +kernel
theorem dX7_isSetting_48 : decode cX7_isSetting 48 = .ok (.ireturn, 1) := by decide +kernel
theorem dX7_isSetting_49 : decode cX7_isSetting 49 = .ok (.iload_n 1, 1) := by decide +kernel
theorem dX7_isSetting_50 : decode cX7_isSetting 50 = .ok (.iconst 0, 1) := by decide +kernel
theorem dX7_isSetting_51 : decode cX7_isSetting 51 = .ok (.sipush 500, 3) := by decide +kernel
theorem dX7_isSetting_54 : decode cX7_isSetting 54 = .ok (.invokestatic 60, 3) := by decide +kernel
theorem dX7_isSetting_57 : decode cX7_isSetting 57 = .ok (.ireturn, 1) := by decide +kernel
theorem dX7_isSetting_58 : decode cX7_isSetting 58 = .ok (.iload_n 1, 1) := by decide +kernel
theorem dX7_isSetting_59 : decode cX7_isSetting 59 = .ok (.iconst 0, 1) := by decide +kernel
theorem dX7_isSetting_60 : decode cX7_isSetting 60 = .ok (.sipush 9000, 3) := by decide +kernel
theorem dX7_isSetting_63 : decode cX7_isSetting 63 = .ok (.invokestatic 60, 3) := by decide +kernel
theorem dX7_isSetting_66 : decode cX7_isSetting 66 = .ok (.ireturn, 1) := by decide +kernel
theorem dX7_isSetting_67 : decode cX7_isSetting 67 = .ok (.iload_n 1, 1) := by decide +kernel
theorem dX7_isSetting_68 : decode cX7_isSetting 68 = .ok (.iconst 1, 1) := by decide +kernel
theorem dX7_isSetting_69 : decode cX7_isSetting 69 = .ok (.ldc 64, 2) := by decide +kernel
theorem dX7_isSetting_71 : decode cX7_isSetting 71 = .ok (.invokestatic 60, 3) := by decide +kernel
theorem dX7_isSetting_74 : decode cX7_isSetting 74 = .ok (.ireturn, 1) := by decide +kernel
theorem dX7_isSetting_75 : decode cX7_isSetting 75 = .ok (.iload_n 0, 1) := by decide +kernel
theorem dX7_isSetting_76 : decode cX7_isSetting 76 = .ok (.bipush 6, 2) := by decide +kernel
theorem dX7_isSetting_78 : decode cX7_isSetting 78 = .ok (.if_icmp .ne 17, 3) := by decide +kernel
theorem dX7_isSetting_81 : decode cX7_isSetting 81 = .ok (.iload_n 1, 1) := by decide +kernel
theorem dX7_isSetting_82 : decode cX7_isSetting 82 = .ok (.iconst 0, 1) := by decide +kernel
theorem dX7_isSetting_83 : decode cX7_isSetting 83 = .ok (.bipush 50, 2) := by decide +kernel
theorem dX7_isSetting_85 : decode cX7_isSetting 85 = .ok (.invokestatic 60, 3) := by decide +kernel
theorem dX7_isSetting_88 : decode cX7_isSetting 88 = .ok (.ifCond .eq 7, 3) := by decide +kernel
theorem dX7_isSetting_91 : decode cX7_isSetting 91 = .ok (.iconst 1, 1) := by decide +kernel
theorem dX7_isSetting_92 : decode cX7_isSetting 92 = .ok (.goto 4, 3) := by decide +kernel
theorem dX7_isSetting_95 : decode cX7_isSetting 95 = .ok (.iconst 0, 1) := by decide +kernel
theorem dX7_isSetting_96 : decode cX7_isSetting 96 = .ok (.ireturn, 1) := by decide +kernel
theorem dX7_set_0 : decode cX7_set 0 = .ok (.iload_n 1, 1) := by decide +kernel
theorem dX7_set_1 : decode cX7_set 1 = .ok (.iload_n 2, 1) := by decide +kernel
theorem dX7_set_2 : decode cX7_set 2 = .ok (.invokestatic 65, 3) := by decide +kernel
theorem dX7_set_5 : decode cX7_set 5 = .ok (.ifCond .ne 6, 3) := by decide +kernel
theorem dX7_set_8 : decode cX7_set 8 = .ok (.ldc 69, 2) := by decide +kernel
theorem dX7_set_10 : decode cX7_set 10 = .ok (.ireturn, 1) := by decide +kernel
theorem dX7_set_11 : decode cX7_set 11 = .ok (.aload_n 0, 1) := by decide +kernel
theorem dX7_set_12 : decode cX7_set 12 = .ok (.invokevirtual 70, 3) := by decide +kernel
theorem dX7_set_15 : decode cX7_set 15 = .ok (.aload_n 0, 1) := by decide +kernel
theorem dX7_set_16 : decode cX7_set 16 = .ok (.getfield 7, 3) := by decide +kernel
theorem dX7_set_19 : decode cX7_set 19 = .ok (.iload_n 1, 1) := by decide +kernel
theorem dX7_set_20 : decode cX7_set 20 = .ok (.iaload, 1) := by decide +kernel
theorem dX7_set_21 : decode cX7_set 21 = .ok (.istore_n 3, 1) := by decide +kernel
theorem dX7_set_22 : decode cX7_set 22 = .ok (.aload_n 0, 1) := by decide +kernel
theorem dX7_set_23 : decode cX7_set 23 = .ok (.getfield 7, 3) := by decide +kernel
theorem dX7_set_26 : decode cX7_set 26 = .ok (.iload_n 1, 1) := by decide +kernel
theorem dX7_set_27 : decode cX7_set 27 = .ok (.iload_n 2, 1) := by decide +kernel
theorem dX7_set_28 : decode cX7_set 28 = .ok (.iastore, 1) := by decide +kernel
theorem dX7_set_29 : decode cX7_set 29 = .ok (.iload_n 3, 1) := by decide +kernel
theorem dX7_set_30 : decode cX7_set 30 = .ok (.ireturn, 1) := by decide +kernel
theorem dX7_band_0 : decode cX7_band 0 = .ok (.iload_n 1, 1) := by decide +kernel
theorem dX7_band_1 : decode cX7_band 1 = .ok (.iconst 0, 1) := by decide +kernel
theorem dX7_band_2 : decode cX7_band 2 = .ok (.sipush 5000, 3) := by decide +kernel
theorem dX7_band_5 : decode cX7_band 5 = .ok (.invokestatic 60, 3) := by decide +kernel
theorem dX7_band_8 : decode cX7_band 8 = .ok (.ifCond .eq 37, 3) := by decide +kernel
theorem dX7_band_11 : decode cX7_band 11 = .ok (.iload_n 2, 1) := by decide +kernel
theorem dX7_band_12 : decode cX7_band 12 = .ok (.bipush 100, 2) := by decide +kernel
theorem dX7_band_14 : decode cX7_band 14 = .ok (.sipush 5000, 3) := by decide +kernel
theorem dX7_band_17 : decode cX7_band 17 = .ok (.invokestatic 60, 3) := by decide +kernel
theorem dX7_band_20 : decode cX7_band 20 = .ok (.ifCond .eq 25, 3) := by decide +kernel
theorem dX7_band_23 : decode cX7_band 23 = .ok (.iload_n 3, 1) := by decide +kernel
theorem dX7_band_24 : decode cX7_band 24 = .ok (.iconst 0, 1) := by decide +kernel
theorem dX7_band_25 : decode cX7_band 25 = .ok (.sipush 500, 3) := by decide +kernel
theorem dX7_band_28 : decode cX7_band 28 = .ok (.invokestatic 60, 3) := by decide +kernel
theorem dX7_band_31 : decode cX7_band 31 = .ok (.ifCond .eq 14, 3) := by decide +kernel
theorem dX7_band_34 : decode cX7_band 34 = .ok (.iload 4, 2) := by decide +kernel
theorem dX7_band_36 : decode cX7_band 36 = .ok (.iconst 0, 1) := by decide +kernel
theorem dX7_band_37 : decode cX7_band 37 = .ok (.ldc 64, 2) := by decide +kernel
theorem dX7_band_39 : decode cX7_band 39 = .ok (.invokestatic 60, 3) := by decide +kernel
theorem dX7_band_42 : decode cX7_band 42 = .ok (.ifCond .ne 6, 3) := by decide +kernel
theorem dX7_band_45 : decode cX7_band 45 = .ok (.ldc 69, 2) := by decide +kernel
theorem dX7_band_47 : decode cX7_band 47 = .ok (.ireturn, 1) := by decide +kernel
theorem dX7_band_48 : decode cX7_band 48 = .ok (.aload_n 0, 1) := by decide +kernel
theorem dX7_band_49 : decode cX7_band 49 = .ok (.getfield 7, 3) := by decide +kernel
theorem dX7_band_52 : decode cX7_band 52 = .ok (.bipush 8, 2) := by decide +kernel
theorem dX7_band_54 : decode cX7_band 54 = .ok (.iaload, 1) := by decide +kernel
theorem dX7_band_55 : decode cX7_band 55 = .ok (.istore 5, 2) := by decide +kernel
theorem dX7_band_57 : decode cX7_band 57 = .ok (.iload 5, 2) := by decide +kernel
theorem dX7_band_59 : decode cX7_band 59 = .ok (.ifCond .le 19, 3) := by decide +kernel
theorem dX7_band_62 : decode cX7_band 62 = .ok (.iload_n 1, 1) := by decide +kernel
theorem dX7_band_63 : decode cX7_band 63 = .ok (.aload_n 0, 1) := by decide +kernel
theorem dX7_band_64 : decode cX7_band 64 = .ok (.iload 5, 2) := by decide +kernel
theorem dX7_band_66 : decode cX7_band 66 = .ok (.iconst 1, 1) := by decide +kernel
theorem dX7_band_67 : decode cX7_band 67 = .ok (.isub, 1) := by decide +kernel
theorem dX7_band_68 : decode cX7_band 68 = .ok (.iconst 0, 1) := by decide +kernel
theorem dX7_band_69 : decode cX7_band 69 = .ok (.invokevirtual 73, 3) := by decide +kernel
theorem dX7_band_72 : decode cX7_band 72 = .ok (.if_icmp .lt 6, 3) := by decide +kernel
theorem dX7_band_75 : decode cX7_band 75 = .ok (.ldc 59, 2) := by decide +kernel
theorem dX7_band_77 : decode cX7_band 77 = .ok (.ireturn, 1) := by decide +kernel
theorem dX7_band_78 : decode cX7_band 78 = .ok (.iload 5, 2) := by decide +kernel
theorem dX7_band_80 : decode cX7_band 80 = .ok (.bipush 10, 2) := by decide +kernel
theorem dX7_band_82 : decode cX7_band 82 = .ok (.if_icmp .ne 6, 3) := by decide +kernel
theorem dX7_band_85 : decode cX7_band 85 = .ok (.ldc 76, 2) := by decide +kernel
theorem dX7_band_87 : decode cX7_band 87 = .ok (.ireturn, 1) := by decide +kernel
theorem dX7_band_88 : decode cX7_band 88 = .ok (.aload_n 0, 1) := by decide +kernel
theorem dX7_band_89 : decode cX7_band 89 = .ok (.invokevirtual 70, 3) := by decide +kernel
theorem dX7_band_92 : decode cX7_band 92 = .ok (.aload_n 0, 1) := by decide +kernel
theorem dX7_band_93 : decode cX7_band 93 = .ok (.getfield 7, 3) := by decide +kernel
theorem dX7_band_96 : decode cX7_band 96 = .ok (.bipush 8, 2) := by decide +kernel
theorem dX7_band_98 : decode cX7_band 98 = .ok (.dup2, 1) := by decide +kernel
theorem dX7_band_99 : decode cX7_band 99 = .ok (.iaload, 1) := by decide +kernel
theorem dX7_band_100 : decode cX7_band 100 = .ok (.iconst 1, 1) := by decide +kernel
theorem dX7_band_101 : decode cX7_band 101 = .ok (.iadd, 1) := by decide +kernel
theorem dX7_band_102 : decode cX7_band 102 = .ok (.iastore, 1) := by decide +kernel
theorem dX7_band_103 : decode cX7_band 103 = .ok (.aload_n 0, 1) := by decide +kernel
theorem dX7_band_104 : decode cX7_band 104 = .ok (.iload 5, 2) := by decide +kernel
theorem dX7_band_106 : decode cX7_band 106 = .ok (.iconst 0, 1) := by decide +kernel
theorem dX7_band_107 : decode cX7_band 107 = .ok (.iload_n 1, 1) := by decide +kernel
theorem dX7_band_108 : decode cX7_band 108 = .ok (.invokevirtual 77, 3) := by decide +kernel
theorem dX7_band_111 : decode cX7_band 111 = .ok (.aload_n 0, 1) := by decide +kernel
theorem dX7_band_112 : decode cX7_band 112 = .ok (.iload 5, 2) := by decide +kernel
theorem dX7_band_114 : decode cX7_band 114 = .ok (.iconst 1, 1) := by decide +kernel
theorem dX7_band_115 : decode cX7_band 115 = .ok (.iload_n 2, 1) := by decide +kernel
theorem dX7_band_116 : decode cX7_band 116 = .ok (.invokevirtual 77, 3) := by decide +kernel
theorem dX7_band_119 : decode cX7_band 119 = .ok (.aload_n 0, 1) := by decide +kernel
theorem dX7_band_120 : decode cX7_band 120 = .ok (.iload 5, 2) := by decide +kernel
theorem dX7_band_122 : decode cX7_band 122 = .ok (.iconst 2, 1) := by decide +kernel
theorem dX7_band_123 : decode cX7_band 123 = .ok (.iload_n 3, 1) := by decide +kernel
theorem dX7_band_124 : decode cX7_band 124 = .ok (.invokevirtual 77, 3) := by decide +kernel
theorem dX7_band_127 : decode cX7_band 127 = .ok (.aload_n 0, 1) := by decide +kernel
theorem dX7_band_128 : decode cX7_band 128 = .ok (.iload 5, 2) := by decide +kernel
theorem dX7_band_130 : decode cX7_band 130 = .ok (.iconst 3, 1) := by decide +kernel
theorem dX7_band_131 : decode cX7_band 131 = .ok (.iconst 0, 1) := by decide +kernel
theorem dX7_band_132 : decode cX7_band 132 = .ok (.invokevirtual 77, 3) := by decide +kernel
theorem dX7_band_135 : decode cX7_band 135 = .ok (.aload_n 0, 1) := by decide +kernel
theorem dX7_band_136 : decode cX7_band 136 = .ok (.iload 5, 2) := by decide +kernel
theorem dX7_band_138 : decode cX7_band 138 = .ok (.iconst 4, 1) := by decide +kernel
theorem dX7_band_139 : decode cX7_band 139 = .ok (.iconst 0, 1) := by decide +kernel
theorem dX7_band_140 : decode cX7_band 140 = .ok (.invokevirtual 77, 3) := by decide +kernel
theorem dX7_band_143 : decode cX7_band 143 = .ok (.aload_n 0, 1) := by decide +kernel
theorem dX7_band_144 : decode cX7_band 144 = .ok (.iload 5, 2) := by decide +kernel
theorem dX7_band_146 : decode cX7_band 146 = .ok (.iconst 5, 1) := by decide +kernel
theorem dX7_band_147 : decode cX7_band 147 = .ok (.iconst 0, 1) := by decide +kernel
theorem dX7_band_148 : decode cX7_band 148 = .ok (.invokevirtual 77, 3) := by decide +kernel
theorem dX7_band_151 : decode cX7_band 151 = .ok (.aload_n 0, 1) := by decide +kernel
theorem dX7_band_152 : decode cX7_band 152 = .ok (.iload 5, 2) := by decide +kernel
theorem dX7_band_154 : decode cX7_band 154 = .ok (.iload 4, 2) := by decide +kernel
theorem dX7_band_156 : decode cX7_band 156 = .ok (.invokevirtual 80, 3) := by decide +kernel
theorem dX7_band_159 : decode cX7_band 159 = .ok (.iload 5, 2) := by decide +kernel
theorem dX7_band_161 : decode cX7_band 161 = .ok (.ireturn, 1) := by decide +kernel
theorem dX7_lay_0 : decode cX7_lay 0 = .ok (.iconst 0, 1) := by decide +kernel
theorem dX7_lay_1 : decode cX7_lay 1 = .ok (.istore_n 3, 1) := by decide +kernel
theorem dX7_lay_2 : decode cX7_lay 2 = .ok (.iload_n 3, 1) := by decide +kernel
theorem dX7_lay_3 : decode cX7_lay 3 = .ok (.sipush 801, 3) := by decide +kernel
theorem dX7_lay_6 : decode cX7_lay 6 = .ok (.if_icmp .ge 22, 3) := by decide +kernel
theorem dX7_lay_9 : decode cX7_lay 9 = .ok (.aload_n 0, 1) := by decide +kernel
theorem dX7_lay_10 : decode cX7_lay 10 = .ok (.getfield 13, 3) := by decide +kernel
theorem dX7_lay_13 : decode cX7_lay 13 = .ok (.sipush 801, 3) := by decide +kernel
theorem dX7_lay_16 : decode cX7_lay 16 = .ok (.iload_n 1, 1) := by decide +kernel
theorem dX7_lay_17 : decode cX7_lay 17 = .ok (.imul, 1) := by decide +kernel
theorem dX7_lay_18 : decode cX7_lay 18 = .ok (.iload_n 3, 1) := by decide +kernel
theorem dX7_lay_19 : decode cX7_lay 19 = .ok (.iadd, 1) := by decide +kernel
theorem dX7_lay_20 : decode cX7_lay 20 = .ok (.iconst 0, 1) := by decide +kernel
theorem dX7_lay_21 : decode cX7_lay 21 = .ok (.iastore, 1) := by decide +kernel
theorem dX7_lay_22 : decode cX7_lay 22 = .ok (.iinc 3 1, 3) := by decide +kernel
theorem dX7_lay_25 : decode cX7_lay 25 = .ok (.goto (-23), 3) := by decide +kernel
theorem dX7_lay_28 : decode cX7_lay 28 = .ok (.aload_n 0, 1) := by decide +kernel
theorem dX7_lay_29 : decode cX7_lay 29 = .ok (.getfield 13, 3) := by decide +kernel
theorem dX7_lay_32 : decode cX7_lay 32 = .ok (.sipush 801, 3) := by decide +kernel
theorem dX7_lay_35 : decode cX7_lay 35 = .ok (.iload_n 1, 1) := by decide +kernel
theorem dX7_lay_36 : decode cX7_lay 36 = .ok (.imul, 1) := by decide +kernel
theorem dX7_lay_37 : decode cX7_lay 37 = .ok (.aload_n 0, 1) := by decide +kernel
theorem dX7_lay_38 : decode cX7_lay 38 = .ok (.getfield 7, 3) := by decide +kernel
theorem dX7_lay_41 : decode cX7_lay 41 = .ok (.bipush 7, 2) := by decide +kernel
theorem dX7_lay_43 : decode cX7_lay 43 = .ok (.iaload, 1) := by decide +kernel
theorem dX7_lay_44 : decode cX7_lay 44 = .ok (.iadd, 1) := by decide +kernel
theorem dX7_lay_45 : decode cX7_lay 45 = .ok (.iload_n 2, 1) := by decide +kernel
theorem dX7_lay_46 : decode cX7_lay 46 = .ok (.iastore, 1) := by decide +kernel
theorem dX7_lay_47 : decode cX7_lay 47 = .ok (.aload_n 0, 1) := by decide +kernel
theorem dX7_lay_48 : decode cX7_lay 48 = .ok (.getfield 16, 3) := by decide +kernel
theorem dX7_lay_51 : decode cX7_lay 51 = .ok (.iconst 0, 1) := by decide +kernel
theorem dX7_lay_52 : decode cX7_lay 52 = .ok (.dup2, 1) := by decide +kernel
theorem dX7_lay_53 : decode cX7_lay 53 = .ok (.laload, 1) := by decide +kernel
theorem dX7_lay_54 : decode cX7_lay 54 = .ok (.iload_n 2, 1) := by decide +kernel
theorem dX7_lay_55 : decode cX7_lay 55 = .ok (.i2l, 1) := by decide +kernel
theorem dX7_lay_56 : decode cX7_lay 56 = .ok (.ladd, 1) := by decide +kernel
theorem dX7_lay_57 : decode cX7_lay 57 = .ok (.lastore, 1) := by decide +kernel
theorem dX7_lay_58 : decode cX7_lay 58 = .ok (.return_, 1) := by decide +kernel
theorem dX7_creep_0 : decode cX7_creep 0 = .ok (.aload_n 0, 1) := by decide +kernel
theorem dX7_creep_1 : decode cX7_creep 1 = .ok (.iload_n 1, 1) := by decide +kernel
theorem dX7_creep_2 : decode cX7_creep 2 = .ok (.invokevirtual 84, 3) := by decide +kernel
theorem dX7_creep_5 : decode cX7_creep 5 = .ok (.ifCond .eq 14, 3) := by decide +kernel
theorem dX7_creep_8 : decode cX7_creep 8 = .ok (.iload_n 2, 1) := by decide +kernel
theorem dX7_creep_9 : decode cX7_creep 9 = .ok (.iconst 0, 1) := by decide +kernel
theorem dX7_creep_10 : decode cX7_creep 10 = .ok (.sipush 500, 3) := by decide +kernel
theorem dX7_creep_13 : decode cX7_creep 13 = .ok (.invokestatic 60, 3) := by decide +kernel
theorem dX7_creep_16 : decode cX7_creep 16 = .ok (.ifCond .ne 6, 3) := by decide +kernel
theorem dX7_creep_19 : decode cX7_creep 19 = .ok (.ldc 69, 2) := by decide +kernel
theorem dX7_creep_21 : decode cX7_creep 21 = .ok (.ireturn, 1) := by decide +kernel
theorem dX7_creep_22 : decode cX7_creep 22 = .ok (.aload_n 0, 1) := by decide +kernel
theorem dX7_creep_23 : decode cX7_creep 23 = .ok (.invokevirtual 70, 3) := by decide +kernel
theorem dX7_creep_26 : decode cX7_creep 26 = .ok (.aload_n 0, 1) := by decide +kernel
theorem dX7_creep_27 : decode cX7_creep 27 = .ok (.iload_n 1, 1) := by decide +kernel
theorem dX7_creep_28 : decode cX7_creep 28 = .ok (.iconst 2, 1) := by decide +kernel
theorem dX7_creep_29 : decode cX7_creep 29 = .ok (.invokevirtual 73, 3) := by decide +kernel
theorem dX7_creep_32 : decode cX7_creep 32 = .ok (.istore_n 3, 1) := by decide +kernel
theorem dX7_creep_33 : decode cX7_creep 33 = .ok (.aload_n 0, 1) := by decide +kernel
theorem dX7_creep_34 : decode cX7_creep 34 = .ok (.iload_n 1, 1) := by decide +kernel
theorem dX7_creep_35 : decode cX7_creep 35 = .ok (.iconst 2, 1) := by decide +kernel
theorem dX7_creep_36 : decode cX7_creep 36 = .ok (.iload_n 2, 1) := by decide +kernel
theorem dX7_creep_37 : decode cX7_creep 37 = .ok (.invokevirtual 77, 3) := by decide +kernel
theorem dX7_creep_40 : decode cX7_creep 40 = .ok (.iload_n 3, 1) := by decide +kernel
theorem dX7_creep_41 : decode cX7_creep 41 = .ok (.ireturn, 1) := by decide +kernel
theorem dX7_snowOf_0 : decode cX7_snowOf 0 = .ok (.aload_n 0, 1) := by decide +kernel
theorem dX7_snowOf_1 : decode cX7_snowOf 1 = .ok (.getfield 7, 3) := by decide +kernel
theorem dX7_snowOf_4 : decode cX7_snowOf 4 = .ok (.iconst 0, 1) := by decide +kernel
theorem dX7_snowOf_5 : decode cX7_snowOf 5 = .ok (.iaload, 1) := by decide +kernel
theorem dX7_snowOf_6 : decode cX7_snowOf 6 = .ok (.aload_n 0, 1) := by decide +kernel
theorem dX7_snowOf_7 : decode cX7_snowOf 7 = .ok (.getfield 7, 3) := by decide +kernel
theorem dX7_snowOf_10 : decode cX7_snowOf 10 = .ok (.iconst 1, 1) := by decide +kernel
theorem dX7_snowOf_11 : decode cX7_snowOf 11 = .ok (.iaload, 1) := by decide +kernel
theorem dX7_snowOf_12 : decode cX7_snowOf 12 = .ok (.i2l, 1) := by decide +kernel
theorem dX7_snowOf_13 : decode cX7_snowOf 13 = .ok (.aload_n 0, 1) := by decide +kernel
theorem dX7_snowOf_14 : decode cX7_snowOf 14 = .ok (.iload_n 1, 1) := by decide +kernel
theorem dX7_snowOf_15 : decode cX7_snowOf 15 = .ok (.iconst 0, 1) := by decide +kernel
theorem dX7_snowOf_16 : decode cX7_snowOf 16 = .ok (.invokevirtual 73, 3) := by decide +kernel
theorem dX7_snowOf_19 : decode cX7_snowOf 19 = .ok (.aload_n 0, 1) := by decide +kernel
theorem dX7_snowOf_20 : decode cX7_snowOf 20 = .ok (.getfield 7, 3) := by decide +kernel
theorem dX7_snowOf_23 : decode cX7_snowOf 23 = .ok (.iconst 4, 1) := by decide +kernel
theorem dX7_snowOf_24 : decode cX7_snowOf 24 = .ok (.iaload, 1) := by decide +kernel
theorem dX7_snowOf_25 : decode cX7_snowOf 25 = .ok (.isub, 1) := by decide +kernel
theorem dX7_snowOf_26 : decode cX7_snowOf 26 = .ok (.i2l, 1) := by decide +kernel
theorem dX7_snowOf_27 : decode cX7_snowOf 27 = .ok (.lmul, 1) := by decide +kernel
theorem dX7_snowOf_28 : decode cX7_snowOf 28 = .ok (.bipush 100, 2) := by decide +kernel
theorem dX7_snowOf_30 : decode cX7_snowOf 30 = .ok (.invokestatic 88, 3) := by decide +kernel
theorem dX7_snowOf_33 : decode cX7_snowOf 33 = .ok (.iadd, 1) := by decide +kernel
theorem dX7_snowOf_34 : decode cX7_snowOf 34 = .ok (.istore_n 2, 1) := by decide +kernel
theorem dX7_snowOf_35 : decode cX7_snowOf 35 = .ok (.iload_n 2, 1) := by decide +kernel
theorem dX7_snowOf_36 : decode cX7_snowOf 36 = .ok (.ifCond .ge 7, 3) := by decide +kernel
theorem dX7_snowOf_39 : decode cX7_snowOf 39 = .ok (.iconst 0, 1) := by decide +kernel
theorem dX7_snowOf_40 : decode cX7_snowOf 40 = .ok (.goto 4, 3) := by decide +kernel
theorem dX7_snowOf_43 : decode cX7_snowOf 43 = .ok (.iload_n 2, 1) := by decide +kernel
theorem dX7_snowOf_44 : decode cX7_snowOf 44 = .ok (.ireturn, 1) := by decide +kernel
theorem dX7_meltOf_0 : decode cX7_meltOf 0 = .ok (.aload_n 0, 1) := by decide +kernel
theorem dX7_meltOf_1 : decode cX7_meltOf 1 = .ok (.getfield 7, 3) := by decide +kernel
theorem dX7_meltOf_4 : decode cX7_meltOf 4 = .ok (.iconst 2, 1) := by decide +kernel
theorem dX7_meltOf_5 : decode cX7_meltOf 5 = .ok (.iaload, 1) := by decide +kernel
theorem dX7_meltOf_6 : decode cX7_meltOf 6 = .ok (.aload_n 0, 1) := by decide +kernel
theorem dX7_meltOf_7 : decode cX7_meltOf 7 = .ok (.getfield 7, 3) := by decide +kernel
theorem dX7_meltOf_10 : decode cX7_meltOf 10 = .ok (.iconst 3, 1) := by decide +kernel
theorem dX7_meltOf_11 : decode cX7_meltOf 11 = .ok (.iaload, 1) := by decide +kernel
theorem dX7_meltOf_12 : decode cX7_meltOf 12 = .ok (.i2l, 1) := by decide +kernel
theorem dX7_meltOf_13 : decode cX7_meltOf 13 = .ok (.aload_n 0, 1) := by decide +kernel
theorem dX7_meltOf_14 : decode cX7_meltOf 14 = .ok (.iload_n 1, 1) := by decide +kernel
theorem dX7_meltOf_15 : decode cX7_meltOf 15 = .ok (.iconst 0, 1) := by decide +kernel
theorem dX7_meltOf_16 : decode cX7_meltOf 16 = .ok (.invokevirtual 73, 3) := by decide +kernel
theorem dX7_meltOf_19 : decode cX7_meltOf 19 = .ok (.aload_n 0, 1) := by decide +kernel
theorem dX7_meltOf_20 : decode cX7_meltOf 20 = .ok (.getfield 7, 3) := by decide +kernel
theorem dX7_meltOf_23 : decode cX7_meltOf 23 = .ok (.iconst 4, 1) := by decide +kernel
theorem dX7_meltOf_24 : decode cX7_meltOf 24 = .ok (.iaload, 1) := by decide +kernel
theorem dX7_meltOf_25 : decode cX7_meltOf 25 = .ok (.isub, 1) := by decide +kernel
theorem dX7_meltOf_26 : decode cX7_meltOf 26 = .ok (.i2l, 1) := by decide +kernel
theorem dX7_meltOf_27 : decode cX7_meltOf 27 = .ok (.lmul, 1) := by decide +kernel
theorem dX7_meltOf_28 : decode cX7_meltOf 28 = .ok (.bipush 100, 2) := by decide +kernel
theorem dX7_meltOf_30 : decode cX7_meltOf 30 = .ok (.invokestatic 88, 3) := by decide +kernel
theorem dX7_meltOf_33 : decode cX7_meltOf 33 = .ok (.isub, 1) := by decide +kernel
theorem dX7_meltOf_34 : decode cX7_meltOf 34 = .ok (.istore_n 2, 1) := by decide +kernel
theorem dX7_meltOf_35 : decode cX7_meltOf 35 = .ok (.iload_n 2, 1) := by decide +kernel
theorem dX7_meltOf_36 : decode cX7_meltOf 36 = .ok (.ifCond .ge 7, 3) := by decide +kernel
theorem dX7_meltOf_39 : decode cX7_meltOf 39 = .ok (.iconst 0, 1) := by decide +kernel
theorem dX7_meltOf_40 : decode cX7_meltOf 40 = .ok (.goto 4, 3) := by decide +kernel
theorem dX7_meltOf_43 : decode cX7_meltOf 43 = .ok (.iload_n 2, 1) := by decide +kernel
theorem dX7_meltOf_44 : decode cX7_meltOf 44 = .ok (.ireturn, 1) := by decide +kernel
theorem dX7_layersOf_0 : decode cX7_layersOf 0 = .ok (.iconst 0, 1) := by decide +kernel
theorem dX7_layersOf_1 : decode cX7_layersOf 1 = .ok (.istore_n 2, 1) := by decide +kernel
theorem dX7_layersOf_2 : decode cX7_layersOf 2 = .ok (.iconst 0, 1) := by decide +kernel
theorem dX7_layersOf_3 : decode cX7_layersOf 3 = .ok (.istore_n 3, 1) := by decide +kernel
theorem dX7_layersOf_4 : decode cX7_layersOf 4 = .ok (.iload_n 3, 1) := by decide +kernel
theorem dX7_layersOf_5 : decode cX7_layersOf 5 = .ok (.aload_n 0, 1) := by decide +kernel
theorem dX7_layersOf_6 : decode cX7_layersOf 6 = .ok (.getfield 7, 3) := by decide +kernel
theorem dX7_layersOf_9 : decode cX7_layersOf 9 = .ok (.bipush 7, 2) := by decide +kernel
theorem dX7_layersOf_11 : decode cX7_layersOf 11 = .ok (.iaload, 1) := by decide +kernel
theorem dX7_layersOf_12 : decode cX7_layersOf 12 = .ok (.if_icmp .gt 32, 3) := by decide +kernel
theorem dX7_layersOf_15 : decode cX7_layersOf 15 = .ok (.iload_n 2, 1) := by decide +kernel
theorem dX7_layersOf_16 : decode cX7_layersOf 16 = .ok (.aload_n 0, 1) := by decide +kernel
theorem dX7_layersOf_17 : decode cX7_layersOf 17 = .ok (.getfield 13, 3) := by decide +kernel
theorem dX7_layersOf_20 : decode cX7_layersOf 20 = .ok (.sipush 801, 3) := by decide +kernel
theorem dX7_layersOf_23 : decode cX7_layersOf 23 = .ok (.iload_n 1, 1) := by decide +kernel
theorem dX7_layersOf_24 : decode cX7_layersOf 24 = .ok (.imul, 1) := by decide +kernel
theorem dX7_layersOf_25 : decode cX7_layersOf 25 = .ok (.iload_n 3, 1) := by decide +kernel
theorem dX7_layersOf_26 : decode cX7_layersOf 26 = .ok (.iadd, 1) := by decide +kernel
theorem dX7_layersOf_27 : decode cX7_layersOf 27 = .ok (.iaload, 1) := by decide +kernel
theorem dX7_layersOf_28 : decode cX7_layersOf 28 = .ok (.ifCond .le 7, 3) := by decide +kernel
theorem dX7_layersOf_31 : decode cX7_layersOf 31 = .ok (.iconst 1, 1) := by decide +kernel
theorem dX7_layersOf_32 : decode cX7_layersOf 32 = .ok (.goto 4, 3) := by decide +kernel
theorem dX7_layersOf_35 : decode cX7_layersOf 35 = .ok (.iconst 0, 1) := by decide +kernel
theorem dX7_layersOf_36 : decode cX7_layersOf 36 = .ok (.iadd, 1) := by decide +kernel
theorem dX7_layersOf_37 : decode cX7_layersOf 37 = .ok (.istore_n 2, 1) := by decide +kernel
theorem dX7_layersOf_38 : decode cX7_layersOf 38 = .ok (.iinc 3 1, 3) := by decide +kernel
theorem dX7_layersOf_41 : decode cX7_layersOf 41 = .ok (.goto (-37), 3) := by decide +kernel
theorem dX7_layersOf_44 : decode cX7_layersOf 44 = .ok (.iload_n 2, 1) := by decide +kernel
theorem dX7_layersOf_45 : decode cX7_layersOf 45 = .ok (.ireturn, 1) := by decide +kernel
theorem dX7_yearOf_0 : decode cX7_yearOf 0 = .ok (.iload_n 2, 1) := by decide +kernel
theorem dX7_yearOf_1 : decode cX7_yearOf 1 = .ok (.istore_n 3, 1) := by decide +kernel
theorem dX7_yearOf_2 : decode cX7_yearOf 2 = .ok (.iconst 0, 1) := by decide +kernel
theorem dX7_yearOf_3 : decode cX7_yearOf 3 = .ok (.istore 4, 2) := by decide +kernel
theorem dX7_yearOf_5 : decode cX7_yearOf 5 = .ok (.iload 4, 2) := by decide +kernel
theorem dX7_yearOf_7 : decode cX7_yearOf 7 = .ok (.aload_n 0, 1) := by decide +kernel
theorem dX7_yearOf_8 : decode cX7_yearOf 8 = .ok (.getfield 7, 3) := by decide +kernel
theorem dX7_yearOf_11 : decode cX7_yearOf 11 = .ok (.bipush 7, 2) := by decide +kernel
theorem dX7_yearOf_13 : decode cX7_yearOf 13 = .ok (.iaload, 1) := by decide +kernel
theorem dX7_yearOf_14 : decode cX7_yearOf 14 = .ok (.if_icmp .gt 35, 3) := by decide +kernel
theorem dX7_yearOf_17 : decode cX7_yearOf 17 = .ok (.aload_n 0, 1) := by decide +kernel
theorem dX7_yearOf_18 : decode cX7_yearOf 18 = .ok (.getfield 13, 3) := by decide +kernel
theorem dX7_yearOf_21 : decode cX7_yearOf 21 = .ok (.sipush 801, 3) := by decide +kernel
theorem dX7_yearOf_24 : decode cX7_yearOf 24 = .ok (.iload_n 1, 1) := by decide +kernel
theorem dX7_yearOf_25 : decode cX7_yearOf 25 = .ok (.imul, 1) := by decide +kernel
theorem dX7_yearOf_26 : decode cX7_yearOf 26 = .ok (.iload 4, 2) := by decide +kernel
theorem dX7_yearOf_28 : decode cX7_yearOf 28 = .ok (.iadd, 1) := by decide +kernel
theorem dX7_yearOf_29 : decode cX7_yearOf 29 = .ok (.iaload, 1) := by decide +kernel
theorem dX7_yearOf_30 : decode cX7_yearOf 30 = .ok (.ifCond .le 13, 3) := by decide +kernel
theorem dX7_yearOf_33 : decode cX7_yearOf 33 = .ok (.iload_n 3, 1) := by decide +kernel
theorem dX7_yearOf_34 : decode cX7_yearOf 34 = .ok (.ifCond .ne 6, 3) := by decide +kernel
theorem dX7_yearOf_37 : decode cX7_yearOf 37 = .ok (.iload 4, 2) := by decide +kernel
theorem dX7_yearOf_39 : decode cX7_yearOf 39 = .ok (.ireturn, 1) := by decide +kernel
theorem dX7_yearOf_40 : decode cX7_yearOf 40 = .ok (.iinc 3 (-1), 3) := by decide +kernel
theorem dX7_yearOf_43 : decode cX7_yearOf 43 = .ok (.iinc 4 1, 3) := by decide +kernel
theorem dX7_yearOf_46 : decode cX7_yearOf 46 = .ok (.goto (-41), 3) := by decide +kernel
theorem dX7_yearOf_49 : decode cX7_yearOf 49 = .ok (.iconst (-1), 1) := by decide +kernel
theorem dX7_yearOf_50 : decode cX7_yearOf 50 = .ok (.ireturn, 1) := by decide +kernel
theorem dX7_found_0 : decode cX7_found 0 = .ok (.iload_n 0, 1) := by decide +kernel
theorem dX7_found_1 : decode cX7_found 1 = .ok (.iconst (-1), 1) := by decide +kernel
theorem dX7_found_2 : decode cX7_found 2 = .ok (.if_icmp .ne 8, 3) := by decide +kernel
theorem dX7_found_5 : decode cX7_found 5 = .ok (.ldc 92, 2) := by decide +kernel
theorem dX7_found_7 : decode cX7_found 7 = .ok (.goto 4, 3) := by decide +kernel
theorem dX7_found_10 : decode cX7_found 10 = .ok (.iload_n 0, 1) := by decide +kernel
theorem dX7_found_11 : decode cX7_found 11 = .ok (.ireturn, 1) := by decide +kernel
theorem dX7_infoOf_0 : decode cX7_infoOf 0 = .ok (.iload_n 2, 1) := by decide +kernel
theorem dX7_infoOf_1 : decode cX7_infoOf 1 = .ok (.tableswitch 113 3 11 #[51, 57, 63, 73, 89, 95, 101, 101, 101], 51) := by decide +kernel
theorem dX7_infoOf_52 : decode cX7_infoOf 52 = .ok (.aload_n 0, 1) := by decide +kernel
theorem dX7_infoOf_53 : decode cX7_infoOf 53 = .ok (.iload_n 1, 1) := by decide +kernel
theorem dX7_infoOf_54 : decode cX7_infoOf 54 = .ok (.invokevirtual 93, 3) := by decide +kernel
theorem dX7_infoOf_57 : decode cX7_infoOf 57 = .ok (.ireturn, 1) := by decide +kernel
theorem dX7_infoOf_58 : decode cX7_infoOf 58 = .ok (.aload_n 0, 1) := by decide +kernel
theorem dX7_infoOf_59 : decode cX7_infoOf 59 = .ok (.iload_n 1, 1) := by decide +kernel
theorem dX7_infoOf_60 : decode cX7_infoOf 60 = .ok (.invokevirtual 97, 3) := by decide +kernel
theorem dX7_infoOf_63 : decode cX7_infoOf 63 = .ok (.ireturn, 1) := by decide +kernel
theorem dX7_infoOf_64 : decode cX7_infoOf 64 = .ok (.aload_n 0, 1) := by decide +kernel
theorem dX7_infoOf_65 : decode cX7_infoOf 65 = .ok (.iload_n 1, 1) := by decide +kernel
theorem dX7_infoOf_66 : decode cX7_infoOf 66 = .ok (.iconst 0, 1) := by decide +kernel
theorem dX7_infoOf_67 : decode cX7_infoOf 67 = .ok (.invokevirtual 100, 3) := by decide +kernel
theorem dX7_infoOf_70 : decode cX7_infoOf 70 = .ok (.invokestatic 103, 3) := by decide +kernel
theorem dX7_infoOf_73 : decode cX7_infoOf 73 = .ok (.ireturn, 1) := by decide +kernel
theorem dX7_infoOf_74 : decode cX7_infoOf 74 = .ok (.aload_n 0, 1) := by decide +kernel
theorem dX7_infoOf_75 : decode cX7_infoOf 75 = .ok (.iload_n 1, 1) := by decide +kernel
theorem dX7_infoOf_76 : decode cX7_infoOf 76 = .ok (.aload_n 0, 1) := by decide +kernel
theorem dX7_infoOf_77 : decode cX7_infoOf 77 = .ok (.iload_n 1, 1) := by decide +kernel
theorem dX7_infoOf_78 : decode cX7_infoOf 78 = .ok (.invokevirtual 97, 3) := by decide +kernel
theorem dX7_infoOf_81 : decode cX7_infoOf 81 = .ok (.iconst 1, 1) := by decide +kernel
theorem dX7_infoOf_82 : decode cX7_infoOf 82 = .ok (.isub, 1) := by decide +kernel
theorem dX7_infoOf_83 : decode cX7_infoOf 83 = .ok (.invokevirtual 100, 3) := by decide +kernel
theorem dX7_infoOf_86 : decode cX7_infoOf 86 = .ok (.invokestatic 103, 3) := by decide +kernel
theorem dX7_infoOf_89 : decode cX7_infoOf 89 = .ok (.ireturn, 1) := by decide +kernel
theorem dX7_infoOf_90 : decode cX7_infoOf 90 = .ok (.aload_n 0, 1) := by decide +kernel
theorem dX7_infoOf_91 : decode cX7_infoOf 91 = .ok (.iload_n 1, 1) := by decide +kernel
theorem dX7_infoOf_92 : decode cX7_infoOf 92 = .ok (.invokevirtual 106, 3) := by decide +kernel
theorem dX7_infoOf_95 : decode cX7_infoOf 95 = .ok (.ireturn, 1) := by decide +kernel
theorem dX7_infoOf_96 : decode cX7_infoOf 96 = .ok (.aload_n 0, 1) := by decide +kernel
theorem dX7_infoOf_97 : decode cX7_infoOf 97 = .ok (.iload_n 1, 1) := by decide +kernel
theorem dX7_infoOf_98 : decode cX7_infoOf 98 = .ok (.invokevirtual 109, 3) := by decide +kernel
theorem dX7_infoOf_101 : decode cX7_infoOf 101 = .ok (.ireturn, 1) := by decide +kernel
theorem dX7_infoOf_102 : decode cX7_infoOf 102 = .ok (.aload_n 0, 1) := by decide +kernel
theorem dX7_infoOf_103 : decode cX7_infoOf 103 = .ok (.iload_n 1, 1) := by decide +kernel
theorem dX7_infoOf_104 : decode cX7_infoOf 104 = .ok (.iconst 3, 1) := by decide +kernel
theorem dX7_infoOf_105 : decode cX7_infoOf 105 = .ok (.iload_n 2, 1) := by decide +kernel
theorem dX7_infoOf_106 : decode cX7_infoOf 106 = .ok (.iadd, 1) := by decide +kernel
theorem dX7_infoOf_107 : decode cX7_infoOf 107 = .ok (.bipush 9, 2) := by decide +kernel
theorem dX7_infoOf_109 : decode cX7_infoOf 109 = .ok (.isub, 1) := by decide +kernel
theorem dX7_infoOf_110 : decode cX7_infoOf 110 = .ok (.invokevirtual 73, 3) := by decide +kernel
theorem dX7_infoOf_113 : decode cX7_infoOf 113 = .ok (.ireturn, 1) := by decide +kernel
theorem dX7_infoOf_114 : decode cX7_infoOf 114 = .ok (.aload_n 0, 1) := by decide +kernel
theorem dX7_infoOf_115 : decode cX7_infoOf 115 = .ok (.iload_n 1, 1) := by decide +kernel
theorem dX7_infoOf_116 : decode cX7_infoOf 116 = .ok (.iload_n 2, 1) := by decide +kernel
theorem dX7_infoOf_117 : decode cX7_infoOf 117 = .ok (.invokevirtual 73, 3) := by decide +kernel
theorem dX7_infoOf_120 : decode cX7_infoOf 120 = .ok (.ireturn, 1) := by decide +kernel
theorem dX7_bandInfo_0 : decode cX7_bandInfo 0 = .ok (.aload_n 0, 1) := by decide +kernel
theorem dX7_bandInfo_1 : decode cX7_bandInfo 1 = .ok (.iload_n 1, 1) := by decide +kernel
theorem dX7_bandInfo_2 : decode cX7_bandInfo 2 = .ok (.invokevirtual 84, 3) := by decide +kernel
theorem dX7_bandInfo_5 : decode cX7_bandInfo 5 = .ok (.ifCond .eq 22, 3) := by decide +kernel
theorem dX7_bandInfo_8 : decode cX7_bandInfo 8 = .ok (.iload_n 2, 1) := by decide +kernel
theorem dX7_bandInfo_9 : decode cX7_bandInfo 9 = .ok (.iconst 0, 1) := by decide +kernel
theorem dX7_bandInfo_10 : decode cX7_bandInfo 10 = .ok (.bipush 11, 2) := by decide +kernel
theorem dX7_bandInfo_12 : decode cX7_bandInfo 12 = .ok (.invokestatic 60, 3) := by decide +kernel
theorem dX7_bandInfo_15 : decode cX7_bandInfo 15 = .ok (.ifCond .eq 12, 3) := by decide +kernel
theorem dX7_bandInfo_18 : decode cX7_bandInfo 18 = .ok (.aload_n 0, 1) := by decide +kernel
theorem dX7_bandInfo_19 : decode cX7_bandInfo 19 = .ok (.iload_n 1, 1) := by decide +kernel
theorem dX7_bandInfo_20 : decode cX7_bandInfo 20 = .ok (.iload_n 2, 1) := by decide +kernel
theorem dX7_bandInfo_21 : decode cX7_bandInfo 21 = .ok (.invokevirtual 112, 3) := by decide +kernel
theorem dX7_bandInfo_24 : decode cX7_bandInfo 24 = .ok (.goto 5, 3) := by decide +kernel
theorem dX7_bandInfo_27 : decode cX7_bandInfo 27 = .ok (.ldc 69, 2) := by decide +kernel
theorem dX7_bandInfo_29 : decode cX7_bandInfo 29 = .ok (.ireturn, 1) := by decide +kernel
theorem dX7_layer_0 : decode cX7_layer 0 = .ok (.aload_n 0, 1) := by decide +kernel
theorem dX7_layer_1 : decode cX7_layer 1 = .ok (.iload_n 1, 1) := by decide +kernel
theorem dX7_layer_2 : decode cX7_layer 2 = .ok (.invokevirtual 84, 3) := by decide +kernel
theorem dX7_layer_5 : decode cX7_layer 5 = .ok (.ifCond .eq 16, 3) := by decide +kernel
theorem dX7_layer_8 : decode cX7_layer 8 = .ok (.iload_n 2, 1) := by decide +kernel
theorem dX7_layer_9 : decode cX7_layer 9 = .ok (.ifCond .lt 12, 3) := by decide +kernel
theorem dX7_layer_12 : decode cX7_layer 12 = .ok (.iload_n 3, 1) := by decide +kernel
theorem dX7_layer_13 : decode cX7_layer 13 = .ok (.iconst 0, 1) := by decide +kernel
theorem dX7_layer_14 : decode cX7_layer 14 = .ok (.iconst 1, 1) := by decide +kernel
theorem dX7_layer_15 : decode cX7_layer 15 = .ok (.invokestatic 60, 3) := by decide +kernel
theorem dX7_layer_18 : decode cX7_layer 18 = .ok (.ifCond .ne 6, 3) := by decide +kernel
theorem dX7_layer_21 : decode cX7_layer 21 = .ok (.ldc 69, 2) := by decide +kernel
theorem dX7_layer_23 : decode cX7_layer 23 = .ok (.ireturn, 1) := by decide +kernel
theorem dX7_layer_24 : decode cX7_layer 24 = .ok (.aload_n 0, 1) := by decide +kernel
theorem dX7_layer_25 : decode cX7_layer 25 = .ok (.iload_n 1, 1) := by decide +kernel
theorem dX7_layer_26 : decode cX7_layer 26 = .ok (.iload_n 2, 1) := by decide +kernel
theorem dX7_layer_27 : decode cX7_layer 27 = .ok (.invokevirtual 100, 3) := by decide +kernel
theorem dX7_layer_30 : decode cX7_layer 30 = .ok (.istore 4, 2) := by decide +kernel
theorem dX7_layer_32 : decode cX7_layer 32 = .ok (.iload 4, 2) := by decide +kernel
theorem dX7_layer_34 : decode cX7_layer 34 = .ok (.iconst (-1), 1) := by decide +kernel
theorem dX7_layer_35 : decode cX7_layer 35 = .ok (.if_icmp .ne 8, 3) := by decide +kernel
theorem dX7_layer_38 : decode cX7_layer 38 = .ok (.ldc 92, 2) := by decide +kernel
theorem dX7_layer_40 : decode cX7_layer 40 = .ok (.goto 25, 3) := by decide +kernel
theorem dX7_layer_43 : decode cX7_layer 43 = .ok (.iload_n 3, 1) := by decide +kernel
theorem dX7_layer_44 : decode cX7_layer 44 = .ok (.ifCond .ne 8, 3) := by decide +kernel
theorem dX7_layer_47 : decode cX7_layer 47 = .ok (.iload 4, 2) := by decide +kernel
theorem dX7_layer_49 : decode cX7_layer 49 = .ok (.goto 16, 3) := by decide +kernel
theorem dX7_layer_52 : decode cX7_layer 52 = .ok (.aload_n 0, 1) := by decide +kernel
theorem dX7_layer_53 : decode cX7_layer 53 = .ok (.getfield 13, 3) := by decide +kernel
theorem dX7_layer_56 : decode cX7_layer 56 = .ok (.sipush 801, 3) := by decide +kernel
theorem dX7_layer_59 : decode cX7_layer 59 = .ok (.iload_n 1, 1) := by decide +kernel
theorem dX7_layer_60 : decode cX7_layer 60 = .ok (.imul, 1) := by decide +kernel
theorem dX7_layer_61 : decode cX7_layer 61 = .ok (.iload 4, 2) := by decide +kernel
theorem dX7_layer_63 : decode cX7_layer 63 = .ok (.iadd, 1) := by decide +kernel
theorem dX7_layer_64 : decode cX7_layer 64 = .ok (.iaload, 1) := by decide +kernel
theorem dX7_layer_65 : decode cX7_layer 65 = .ok (.ireturn, 1) := by decide +kernel
theorem dX7_leftOf_0 : decode cX7_leftOf 0 = .ok (.iconst 0, 1) := by decide +kernel
theorem dX7_leftOf_1 : decode cX7_leftOf 1 = .ok (.istore_n 2, 1) := by decide +kernel
theorem dX7_leftOf_2 : decode cX7_leftOf 2 = .ok (.iconst 0, 1) := by decide +kernel
theorem dX7_leftOf_3 : decode cX7_leftOf 3 = .ok (.istore_n 3, 1) := by decide +kernel
theorem dX7_leftOf_4 : decode cX7_leftOf 4 = .ok (.iload_n 3, 1) := by decide +kernel
theorem dX7_leftOf_5 : decode cX7_leftOf 5 = .ok (.aload_n 0, 1) := by decide +kernel
theorem dX7_leftOf_6 : decode cX7_leftOf 6 = .ok (.getfield 7, 3) := by decide +kernel
theorem dX7_leftOf_9 : decode cX7_leftOf 9 = .ok (.bipush 8, 2) := by decide +kernel
theorem dX7_leftOf_11 : decode cX7_leftOf 11 = .ok (.iaload, 1) := by decide +kernel
theorem dX7_leftOf_12 : decode cX7_leftOf 12 = .ok (.if_icmp .ge 24, 3) := by decide +kernel
theorem dX7_leftOf_15 : decode cX7_leftOf 15 = .ok (.iload_n 2, 1) := by decide +kernel
theorem dX7_leftOf_16 : decode cX7_leftOf 16 = .ok (.aload_n 0, 1) := by decide +kernel
theorem dX7_leftOf_17 : decode cX7_leftOf 17 = .ok (.getfield 13, 3) := by decide +kernel
theorem dX7_leftOf_20 : decode cX7_leftOf 20 = .ok (.sipush 801, 3) := by decide +kernel
theorem dX7_leftOf_23 : decode cX7_leftOf 23 = .ok (.iload_n 3, 1) := by decide +kernel
theorem dX7_leftOf_24 : decode cX7_leftOf 24 = .ok (.imul, 1) := by decide +kernel
theorem dX7_leftOf_25 : decode cX7_leftOf 25 = .ok (.iload_n 1, 1) := by decide +kernel
theorem dX7_leftOf_26 : decode cX7_leftOf 26 = .ok (.iadd, 1) := by decide +kernel
theorem dX7_leftOf_27 : decode cX7_leftOf 27 = .ok (.iaload, 1) := by decide +kernel
theorem dX7_leftOf_28 : decode cX7_leftOf 28 = .ok (.iadd, 1) := by decide +kernel
theorem dX7_leftOf_29 : decode cX7_leftOf 29 = .ok (.istore_n 2, 1) := by decide +kernel
theorem dX7_leftOf_30 : decode cX7_leftOf 30 = .ok (.iinc 3 1, 3) := by decide +kernel
theorem dX7_leftOf_33 : decode cX7_leftOf 33 = .ok (.goto (-29), 3) := by decide +kernel
theorem dX7_leftOf_36 : decode cX7_leftOf 36 = .ok (.iload_n 2, 1) := by decide +kernel
theorem dX7_leftOf_37 : decode cX7_leftOf 37 = .ok (.ireturn, 1) := by decide +kernel
theorem dX7_ofYear_0 : decode cX7_ofYear 0 = .ok (.iload_n 1, 1) := by decide +kernel
theorem dX7_ofYear_1 : decode cX7_ofYear 1 = .ok (.iconst 0, 1) := by decide +kernel
theorem dX7_ofYear_2 : decode cX7_ofYear 2 = .ok (.sipush 500, 3) := by decide +kernel
theorem dX7_ofYear_5 : decode cX7_ofYear 5 = .ok (.invokestatic 60, 3) := by decide +kernel
theorem dX7_ofYear_8 : decode cX7_ofYear 8 = .ok (.ifCond .eq 11, 3) := by decide +kernel
theorem dX7_ofYear_11 : decode cX7_ofYear 11 = .ok (.aload_n 0, 1) := by decide +kernel
theorem dX7_ofYear_12 : decode cX7_ofYear 12 = .ok (.iload_n 1, 1) := by decide +kernel
theorem dX7_ofYear_13 : decode cX7_ofYear 13 = .ok (.invokevirtual 115, 3) := by decide +kernel
theorem dX7_ofYear_16 : decode cX7_ofYear 16 = .ok (.goto 5, 3) := by decide +kernel
theorem dX7_ofYear_19 : decode cX7_ofYear 19 = .ok (.ldc 69, 2) := by decide +kernel
theorem dX7_ofYear_21 : decode cX7_ofYear 21 = .ok (.ireturn, 1) := by decide +kernel
theorem dX7_line_0 : decode cX7_line 0 = .ok (.aload_n 0, 1) := by decide +kernel
theorem dX7_line_1 : decode cX7_line 1 = .ok (.getfield 7, 3) := by decide +kernel
theorem dX7_line_4 : decode cX7_line 4 = .ok (.bipush 8, 2) := by decide +kernel
theorem dX7_line_6 : decode cX7_line 6 = .ok (.iaload, 1) := by decide +kernel
theorem dX7_line_7 : decode cX7_line 7 = .ok (.iconst 1, 1) := by decide +kernel
theorem dX7_line_8 : decode cX7_line 8 = .ok (.isub, 1) := by decide +kernel
theorem dX7_line_9 : decode cX7_line 9 = .ok (.istore_n 1, 1) := by decide +kernel
theorem dX7_line_10 : decode cX7_line 10 = .ok (.iload_n 1, 1) := by decide +kernel
theorem dX7_line_11 : decode cX7_line 11 = .ok (.ifCond .lt 24, 3) := by decide +kernel
theorem dX7_line_14 : decode cX7_line 14 = .ok (.aload_n 0, 1) := by decide +kernel
theorem dX7_line_15 : decode cX7_line 15 = .ok (.iload_n 1, 1) := by decide +kernel
theorem dX7_line_16 : decode cX7_line 16 = .ok (.invokevirtual 106, 3) := by decide +kernel
theorem dX7_line_19 : decode cX7_line 19 = .ok (.aload_n 0, 1) := by decide +kernel
theorem dX7_line_20 : decode cX7_line 20 = .ok (.iload_n 1, 1) := by decide +kernel
theorem dX7_line_21 : decode cX7_line 21 = .ok (.invokevirtual 109, 3) := by decide +kernel
theorem dX7_line_24 : decode cX7_line 24 = .ok (.if_icmp .lt 5, 3) := by decide +kernel
theorem dX7_line_27 : decode cX7_line 27 = .ok (.iload_n 1, 1) := by decide +kernel
theorem dX7_line_28 : decode cX7_line 28 = .ok (.ireturn, 1) := by decide +kernel
theorem dX7_line_29 : decode cX7_line 29 = .ok (.iinc 1 (-1), 3) := by decide +kernel
theorem dX7_line_32 : decode cX7_line 32 = .ok (.goto (-22), 3) := by decide +kernel
theorem dX7_line_35 : decode cX7_line 35 = .ok (.ldc 92, 2) := by decide +kernel
theorem dX7_line_37 : decode cX7_line 37 = .ok (.ireturn, 1) := by decide +kernel
theorem dX7_front_0 : decode cX7_front 0 = .ok (.iload_n 1, 1) := by decide +kernel
theorem dX7_front_1 : decode cX7_front 1 = .ok (.iconst 0, 1) := by decide +kernel
theorem dX7_front_2 : decode cX7_front 2 = .ok (.iconst 3, 1) := by decide +kernel
theorem dX7_front_3 : decode cX7_front 3 = .ok (.invokestatic 60, 3) := by decide +kernel
theorem dX7_front_6 : decode cX7_front 6 = .ok (.ifCond .ne 6, 3) := by decide +kernel
theorem dX7_front_9 : decode cX7_front 9 = .ok (.ldc 69, 2) := by decide +kernel
theorem dX7_front_11 : decode cX7_front 11 = .ok (.ireturn, 1) := by decide +kernel
theorem dX7_front_12 : decode cX7_front 12 = .ok (.iload_n 1, 1) := by decide +kernel
theorem dX7_front_13 : decode cX7_front 13 = .ok (.iconst 3, 1) := by decide +kernel
theorem dX7_front_14 : decode cX7_front 14 = .ok (.if_icmp .ne 16, 3) := by decide +kernel
theorem dX7_front_17 : decode cX7_front 17 = .ok (.aload_n 0, 1) := by decide +kernel
theorem dX7_front_18 : decode cX7_front 18 = .ok (.getfield 7, 3) := by decide +kernel
theorem dX7_front_21 : decode cX7_front 21 = .ok (.bipush 13, 2) := by decide +kernel
theorem dX7_front_23 : decode cX7_front 23 = .ok (.iaload, 1) := by decide +kernel
theorem dX7_front_24 : decode cX7_front 24 = .ok (.invokestatic 103, 3) := by decide +kernel
theorem dX7_front_27 : decode cX7_front 27 = .ok (.goto 12, 3) := by decide +kernel
theorem dX7_front_30 : decode cX7_front 30 = .ok (.aload_n 0, 1) := by decide +kernel
theorem dX7_front_31 : decode cX7_front 31 = .ok (.getfield 7, 3) := by decide +kernel
theorem dX7_front_34 : decode cX7_front 34 = .ok (.bipush 10, 2) := by decide +kernel
theorem dX7_front_36 : decode cX7_front 36 = .ok (.iload_n 1, 1) := by decide +kernel
theorem dX7_front_37 : decode cX7_front 37 = .ok (.iadd, 1) := by decide +kernel
theorem dX7_front_38 : decode cX7_front 38 = .ok (.iaload, 1) := by decide +kernel
theorem dX7_front_39 : decode cX7_front 39 = .ok (.ireturn, 1) := by decide +kernel
theorem dX7_allOfBands_0 : decode cX7_allOfBands 0 = .ok (.iconst 0, 1) := by decide +kernel
theorem dX7_allOfBands_1 : decode cX7_allOfBands 1 = .ok (.istore_n 1, 1) := by decide +kernel
theorem dX7_allOfBands_2 : decode cX7_allOfBands 2 = .ok (.iconst 0, 1) := by decide +kernel
theorem dX7_allOfBands_3 : decode cX7_allOfBands 3 = .ok (.istore_n 2, 1) := by decide +kernel
theorem dX7_allOfBands_4 : decode cX7_allOfBands 4 = .ok (.iload_n 2, 1) := by decide +kernel
theorem dX7_allOfBands_5 : decode cX7_allOfBands 5 = .ok (.aload_n 0, 1) := by decide +kernel
theorem dX7_allOfBands_6 : decode cX7_allOfBands 6 = .ok (.getfield 7, 3) := by decide +kernel
theorem dX7_allOfBands_9 : decode cX7_allOfBands 9 = .ok (.bipush 8, 2) := by decide +kernel
theorem dX7_allOfBands_11 : decode cX7_allOfBands 11 = .ok (.iaload, 1) := by decide +kernel
theorem dX7_allOfBands_12 : decode cX7_allOfBands 12 = .ok (.if_icmp .ge 17, 3) := by decide +kernel
theorem dX7_allOfBands_15 : decode cX7_allOfBands 15 = .ok (.iload_n 1, 1) := by decide +kernel
theorem dX7_allOfBands_16 : decode cX7_allOfBands 16 = .ok (.aload_n 0, 1) := by decide +kernel
theorem dX7_allOfBands_17 : decode cX7_allOfBands 17 = .ok (.iload_n 2, 1) := by decide +kernel
theorem dX7_allOfBands_18 : decode cX7_allOfBands 18 = .ok (.invokevirtual 93, 3) := by decide +kernel
theorem dX7_allOfBands_21 : decode cX7_allOfBands 21 = .ok (.iadd, 1) := by decide +kernel
theorem dX7_allOfBands_22 : decode cX7_allOfBands 22 = .ok (.istore_n 1, 1) := by decide +kernel
theorem dX7_allOfBands_23 : decode cX7_allOfBands 23 = .ok (.iinc 2 1, 3) := by decide +kernel
theorem dX7_allOfBands_26 : decode cX7_allOfBands 26 = .ok (.goto (-22), 3) := by decide +kernel
theorem dX7_allOfBands_29 : decode cX7_allOfBands 29 = .ok (.iload_n 1, 1) := by decide +kernel
theorem dX7_allOfBands_30 : decode cX7_allOfBands 30 = .ok (.ireturn, 1) := by decide +kernel
theorem dX7_allByYears_0 : decode cX7_allByYears 0 = .ok (.iconst 0, 1) := by decide +kernel
theorem dX7_allByYears_1 : decode cX7_allByYears 1 = .ok (.istore_n 1, 1) := by decide +kernel
theorem dX7_allByYears_2 : decode cX7_allByYears 2 = .ok (.iconst 0, 1) := by decide +kernel
theorem dX7_allByYears_3 : decode cX7_allByYears 3 = .ok (.istore_n 2, 1) := by decide +kernel
theorem dX7_allByYears_4 : decode cX7_allByYears 4 = .ok (.iload_n 2, 1) := by decide +kernel
theorem dX7_allByYears_5 : decode cX7_allByYears 5 = .ok (.aload_n 0, 1) := by decide +kernel
theorem dX7_allByYears_6 : decode cX7_allByYears 6 = .ok (.getfield 7, 3) := by decide +kernel
theorem dX7_allByYears_9 : decode cX7_allByYears 9 = .ok (.bipush 7, 2) := by decide +kernel
theorem dX7_allByYears_11 : decode cX7_allByYears 11 = .ok (.iaload, 1) := by decide +kernel
theorem dX7_allByYears_12 : decode cX7_allByYears 12 = .ok (.if_icmp .gt 17, 3) := by decide +kernel
theorem dX7_allByYears_15 : decode cX7_allByYears 15 = .ok (.iload_n 1, 1) := by decide +kernel
theorem dX7_allByYears_16 : decode cX7_allByYears 16 = .ok (.aload_n 0, 1) := by decide +kernel
theorem dX7_allByYears_17 : decode cX7_allByYears 17 = .ok (.iload_n 2, 1) := by decide +kernel
theorem dX7_allByYears_18 : decode cX7_allByYears 18 = .ok (.invokevirtual 115, 3) := by decide +kernel
theorem dX7_allByYears_21 : decode cX7_allByYears 21 = .ok (.iadd, 1) := by decide +kernel
theorem dX7_allByYears_22 : decode cX7_allByYears 22 = .ok (.istore_n 1, 1) := by decide +kernel
theorem dX7_allByYears_23 : decode cX7_allByYears 23 = .ok (.iinc 2 1, 3) := by decide +kernel
theorem dX7_allByYears_26 : decode cX7_allByYears 26 = .ok (.goto (-22), 3) := by decide +kernel
theorem dX7_allByYears_29 : decode cX7_allByYears 29 = .ok (.iload_n 1, 1) := by decide +kernel
theorem dX7_allByYears_30 : decode cX7_allByYears 30 = .ok (.ireturn, 1) := by decide +kernel
theorem dX7_account_0 : decode cX7_account 0 = .ok (.iload_n 1, 1) := by decide +kernel
theorem dX7_account_1 : decode cX7_account 1 = .ok (.iconst 0, 1) := by decide +kernel
theorem dX7_account_2 : decode cX7_account 2 = .ok (.iconst 5, 1) := by decide +kernel
theorem dX7_account_3 : decode cX7_account 3 = .ok (.invokestatic 60, 3) := by decide +kernel
theorem dX7_account_6 : decode cX7_account 6 = .ok (.ifCond .ne 7, 3) := by decide +kernel
theorem dX7_account_9 : decode cX7_account 9 = .ok (.ldc2_w 118, 3) := by decide +kernel
theorem dX7_account_12 : decode cX7_account 12 = .ok (.lreturn, 1) := by decide +kernel
theorem dX7_account_13 : decode cX7_account 13 = .ok (.iload_n 1, 1) := by decide +kernel
theorem dX7_account_14 : decode cX7_account 14 = .ok (.iconst 4, 1) := by decide +kernel
theorem dX7_account_15 : decode cX7_account 15 = .ok (.if_icmp .ge 12, 3) := by decide +kernel
theorem dX7_account_18 : decode cX7_account 18 = .ok (.aload_n 0, 1) := by decide +kernel
theorem dX7_account_19 : decode cX7_account 19 = .ok (.getfield 16, 3) := by decide +kernel
theorem dX7_account_22 : decode cX7_account 22 = .ok (.iload_n 1, 1) := by decide +kernel
theorem dX7_account_23 : decode cX7_account 23 = .ok (.laload, 1) := by decide +kernel
theorem dX7_account_24 : decode cX7_account 24 = .ok (.goto 28, 3) := by decide +kernel
theorem dX7_account_27 : decode cX7_account 27 = .ok (.aload_n 0, 1) := by decide +kernel
theorem dX7_account_28 : decode cX7_account 28 = .ok (.getfield 7, 3) := by decide +kernel
theorem dX7_account_31 : decode cX7_account 31 = .ok (.bipush 10, 2) := by decide +kernel
theorem dX7_account_33 : decode cX7_account 33 = .ok (.iaload, 1) := by decide +kernel
theorem dX7_account_34 : decode cX7_account 34 = .ok (.iload_n 1, 1) := by decide +kernel
theorem dX7_account_35 : decode cX7_account 35 = .ok (.iconst 4, 1) := by decide +kernel
theorem dX7_account_36 : decode cX7_account 36 = .ok (.if_icmp .ne 10, 3) := by decide +kernel
theorem dX7_account_39 : decode cX7_account 39 = .ok (.aload_n 0, 1) := by decide +kernel
theorem dX7_account_40 : decode cX7_account 40 = .ok (.invokevirtual 120, 3) := by decide +kernel
theorem dX7_account_43 : decode cX7_account 43 = .ok (.goto 7, 3) := by decide +kernel
theorem dX7_account_46 : decode cX7_account 46 = .ok (.aload_n 0, 1) := by decide +kernel
theorem dX7_account_47 : decode cX7_account 47 = .ok (.invokevirtual 124, 3) := by decide +kernel
theorem dX7_account_50 : decode cX7_account 50 = .ok (.iadd, 1) := by decide +kernel
theorem dX7_account_51 : decode cX7_account 51 = .ok (.i2l, 1) := by decide +kernel
theorem dX7_account_52 : decode cX7_account 52 = .ok (.lreturn, 1) := by decide +kernel
theorem dX7_standing_0 : decode cX7_standing 0 = .ok (.iconst 0, 1) := by decide +kernel
theorem dX7_standing_1 : decode cX7_standing 1 = .ok (.istore_n 1, 1) := by decide +kernel
theorem dX7_standing_2 : decode cX7_standing 2 = .ok (.iconst 0, 1) := by decide +kernel
theorem dX7_standing_3 : decode cX7_standing 3 = .ok (.istore_n 2, 1) := by decide +kernel
theorem dX7_standing_4 : decode cX7_standing 4 = .ok (.iload_n 2, 1) := by decide +kernel
theorem dX7_standing_5 : decode cX7_standing 5 = .ok (.aload_n 0, 1) := by decide +kernel
theorem dX7_standing_6 : decode cX7_standing 6 = .ok (.getfield 7, 3) := by decide +kernel
theorem dX7_standing_9 : decode cX7_standing 9 = .ok (.bipush 9, 2) := by decide +kernel
theorem dX7_standing_11 : decode cX7_standing 11 = .ok (.iaload, 1) := by decide +kernel
theorem dX7_standing_12 : decode cX7_standing 12 = .ok (.if_icmp .ge 26, 3) := by decide +kernel
theorem dX7_standing_15 : decode cX7_standing 15 = .ok (.iload_n 1, 1) := by decide +kernel
theorem dX7_standing_16 : decode cX7_standing 16 = .ok (.aload_n 0, 1) := by decide +kernel
theorem dX7_standing_17 : decode cX7_standing 17 = .ok (.iload_n 2, 1) := by decide +kernel
theorem dX7_standing_18 : decode cX7_standing 18 = .ok (.iconst 4, 1) := by decide +kernel
theorem dX7_standing_19 : decode cX7_standing 19 = .ok (.invokevirtual 127, 3) := by decide +kernel
theorem dX7_standing_22 : decode cX7_standing 22 = .ok (.ifCond .ne 7, 3) := by decide +kernel
theorem dX7_standing_25 : decode cX7_standing 25 = .ok (.iconst 1, 1) := by decide +kernel
theorem dX7_standing_26 : decode cX7_standing 26 = .ok (.goto 4, 3) := by decide +kernel
theorem dX7_standing_29 : decode cX7_standing 29 = .ok (.iconst 0, 1) := by decide +kernel
theorem dX7_standing_30 : decode cX7_standing 30 = .ok (.iadd, 1) := by decide +kernel
theorem dX7_standing_31 : decode cX7_standing 31 = .ok (.istore_n 1, 1) := by decide +kernel
theorem dX7_standing_32 : decode cX7_standing 32 = .ok (.iinc 2 1, 3) := by decide +kernel
theorem dX7_standing_35 : decode cX7_standing 35 = .ok (.goto (-31), 3) := by decide +kernel
theorem dX7_standing_38 : decode cX7_standing 38 = .ok (.iload_n 1, 1) := by decide +kernel
theorem dX7_standing_39 : decode cX7_standing 39 = .ok (.ireturn, 1) := by decide +kernel
theorem dX7_differentYears_0 : decode cX7_differentYears 0 = .ok (.iconst 0, 1) := by decide +kernel
theorem dX7_differentYears_1 : decode cX7_differentYears 1 = .ok (.istore_n 1, 1) := by decide +kernel
theorem dX7_differentYears_2 : decode cX7_differentYears 2 = .ok (.iconst 0, 1) := by decide +kernel
theorem dX7_differentYears_3 : decode cX7_differentYears 3 = .ok (.istore_n 2, 1) := by decide +kernel
theorem dX7_differentYears_4 : decode cX7_differentYears 4 = .ok (.iload_n 2, 1) := by decide +kernel
theorem dX7_differentYears_5 : decode cX7_differentYears 5 = .ok (.aload_n 0, 1) := by decide +kernel
theorem dX7_differentYears_6 : decode cX7_differentYears 6 = .ok (.getfield 7, 3) := by decide +kernel
theorem dX7_differentYears_9 : decode cX7_differentYears 9 = .ok (.bipush 7, 2) := by decide +kernel
theorem dX7_differentYears_11 : decode cX7_differentYears 11 = .ok (.iaload, 1) := by decide +kernel
theorem dX7_differentYears_12 : decode cX7_differentYears 12 = .ok (.if_icmp .gt 25, 3) := by decide +kernel
theorem dX7_differentYears_15 : decode cX7_differentYears 15 = .ok (.iload_n 1, 1) := by decide +kernel
theorem dX7_differentYears_16 : decode cX7_differentYears 16 = .ok (.aload_n 0, 1) := by decide +kernel
theorem dX7_differentYears_17 : decode cX7_differentYears 17 = .ok (.iload_n 2, 1) := by decide +kernel
theorem dX7_differentYears_18 : decode cX7_differentYears 18 = .ok (.invokevirtual 115, 3) := by decide +kernel
theorem dX7_differentYears_21 : decode cX7_differentYears 21 = .ok (.ifCond .le 7, 3) := by decide +kernel
theorem dX7_differentYears_24 : decode cX7_differentYears 24 = .ok (.iconst 1, 1) := by decide +kernel
theorem dX7_differentYears_25 : decode cX7_differentYears 25 = .ok (.goto 4, 3) := by decide +kernel
theorem dX7_differentYears_28 : decode cX7_differentYears 28 = .ok (.iconst 0, 1) := by decide +kernel
theorem dX7_differentYears_29 : decode cX7_differentYears 29 = .ok (.iadd, 1) := by decide +kernel
theorem dX7_differentYears_30 : decode cX7_differentYears 30 = .ok (.istore_n 1, 1) := by decide +kernel
theorem dX7_differentYears_31 : decode cX7_differentYears 31 = .ok (.iinc 2 1, 3) := by decide +kernel
theorem dX7_differentYears_34 : decode cX7_differentYears 34 = .ok (.goto (-30), 3) := by decide +kernel
theorem dX7_differentYears_37 : decode cX7_differentYears 37 = .ok (.iload_n 1, 1) := by decide +kernel
theorem dX7_differentYears_38 : decode cX7_differentYears 38 = .ok (.ireturn, 1) := by decide +kernel
theorem dX7_allLayers_0 : decode cX7_allLayers 0 = .ok (.iconst 0, 1) := by decide +kernel
theorem dX7_allLayers_1 : decode cX7_allLayers 1 = .ok (.istore_n 1, 1) := by decide +kernel
theorem dX7_allLayers_2 : decode cX7_allLayers 2 = .ok (.iconst 0, 1) := by decide +kernel
theorem dX7_allLayers_3 : decode cX7_allLayers 3 = .ok (.istore_n 2, 1) := by decide +kernel
theorem dX7_allLayers_4 : decode cX7_allLayers 4 = .ok (.iload_n 2, 1) := by decide +kernel
theorem dX7_allLayers_5 : decode cX7_allLayers 5 = .ok (.aload_n 0, 1) := by decide +kernel
theorem dX7_allLayers_6 : decode cX7_allLayers 6 = .ok (.getfield 7, 3) := by decide +kernel
theorem dX7_allLayers_9 : decode cX7_allLayers 9 = .ok (.bipush 8, 2) := by decide +kernel
theorem dX7_allLayers_11 : decode cX7_allLayers 11 = .ok (.iaload, 1) := by decide +kernel
theorem dX7_allLayers_12 : decode cX7_allLayers 12 = .ok (.if_icmp .ge 17, 3) := by decide +kernel
theorem dX7_allLayers_15 : decode cX7_allLayers 15 = .ok (.iload_n 1, 1) := by decide +kernel
theorem dX7_allLayers_16 : decode cX7_allLayers 16 = .ok (.aload_n 0, 1) := by decide +kernel
theorem dX7_allLayers_17 : decode cX7_allLayers 17 = .ok (.iload_n 2, 1) := by decide +kernel
theorem dX7_allLayers_18 : decode cX7_allLayers 18 = .ok (.invokevirtual 97, 3) := by decide +kernel
theorem dX7_allLayers_21 : decode cX7_allLayers 21 = .ok (.iadd, 1) := by decide +kernel
theorem dX7_allLayers_22 : decode cX7_allLayers 22 = .ok (.istore_n 1, 1) := by decide +kernel
theorem dX7_allLayers_23 : decode cX7_allLayers 23 = .ok (.iinc 2 1, 3) := by decide +kernel
theorem dX7_allLayers_26 : decode cX7_allLayers 26 = .ok (.goto (-22), 3) := by decide +kernel
theorem dX7_allLayers_29 : decode cX7_allLayers 29 = .ok (.iload_n 1, 1) := by decide +kernel
theorem dX7_allLayers_30 : decode cX7_allLayers 30 = .ok (.ireturn, 1) := by decide +kernel
theorem dX7_count_0 : decode cX7_count 0 = .ok (.iload_n 1, 1) := by decide +kernel
theorem dX7_count_1 : decode cX7_count 1 = .ok (.tableswitch 124 0 14 #[75, 83, 91, 99, 104, 109, 124, 124, 124, 124, 124, 124, 124, 114, 119], 75) := by decide +kernel
theorem dX7_count_76 : decode cX7_count 76 = .ok (.aload_n 0, 1) := by decide +kernel
theorem dX7_count_77 : decode cX7_count 77 = .ok (.getfield 7, 3) := by decide +kernel
theorem dX7_count_80 : decode cX7_count 80 = .ok (.bipush 8, 2) := by decide +kernel
theorem dX7_count_82 : decode cX7_count 82 = .ok (.iaload, 1) := by decide +kernel
theorem dX7_count_83 : decode cX7_count 83 = .ok (.ireturn, 1) := by decide +kernel
theorem dX7_count_84 : decode cX7_count 84 = .ok (.aload_n 0, 1) := by decide +kernel
theorem dX7_count_85 : decode cX7_count 85 = .ok (.getfield 7, 3) := by decide +kernel
theorem dX7_count_88 : decode cX7_count 88 = .ok (.bipush 7, 2) := by decide +kernel
theorem dX7_count_90 : decode cX7_count 90 = .ok (.iaload, 1) := by decide +kernel
theorem dX7_count_91 : decode cX7_count 91 = .ok (.ireturn, 1) := by decide +kernel
theorem dX7_count_92 : decode cX7_count 92 = .ok (.aload_n 0, 1) := by decide +kernel
theorem dX7_count_93 : decode cX7_count 93 = .ok (.getfield 7, 3) := by decide +kernel
theorem dX7_count_96 : decode cX7_count 96 = .ok (.bipush 9, 2) := by decide +kernel
theorem dX7_count_98 : decode cX7_count 98 = .ok (.iaload, 1) := by decide +kernel
theorem dX7_count_99 : decode cX7_count 99 = .ok (.ireturn, 1) := by decide +kernel
theorem dX7_count_100 : decode cX7_count 100 = .ok (.aload_n 0, 1) := by decide +kernel
theorem dX7_count_101 : decode cX7_count 101 = .ok (.invokevirtual 130, 3) := by decide +kernel
theorem dX7_count_104 : decode cX7_count 104 = .ok (.ireturn, 1) := by decide +kernel
theorem dX7_count_105 : decode cX7_count 105 = .ok (.aload_n 0, 1) := by decide +kernel
theorem dX7_count_106 : decode cX7_count 106 = .ok (.invokevirtual 133, 3) := by decide +kernel
theorem dX7_count_109 : decode cX7_count 109 = .ok (.ireturn, 1) := by decide +kernel
theorem dX7_count_110 : decode cX7_count 110 = .ok (.aload_n 0, 1) := by decide +kernel
theorem dX7_count_111 : decode cX7_count 111 = .ok (.invokevirtual 136, 3) := by decide +kernel
theorem dX7_count_114 : decode cX7_count 114 = .ok (.ireturn, 1) := by decide +kernel
theorem dX7_count_115 : decode cX7_count 115 = .ok (.aload_n 0, 1) := by decide +kernel
theorem dX7_count_116 : decode cX7_count 116 = .ok (.getfield 52, 3) := by decide +kernel
theorem dX7_count_119 : decode cX7_count 119 = .ok (.ireturn, 1) := by decide +kernel
theorem dX7_count_120 : decode cX7_count 120 = .ok (.aload_n 0, 1) := by decide +kernel
theorem dX7_count_121 : decode cX7_count 121 = .ok (.getfield 139, 3) := by decide +kernel
theorem dX7_count_124 : decode cX7_count 124 = .ok (.ireturn, 1) := by decide +kernel
theorem dX7_count_125 : decode cX7_count 125 = .ok (.iload_n 1, 1) := by decide +kernel
theorem dX7_count_126 : decode cX7_count 126 = .ok (.bipush 6, 2) := by decide +kernel
theorem dX7_count_128 : decode cX7_count 128 = .ok (.bipush 12, 2) := by decide +kernel
theorem dX7_count_130 : decode cX7_count 130 = .ok (.invokestatic 60, 3) := by decide +kernel
theorem dX7_count_133 : decode cX7_count 133 = .ok (.ifCond .eq 15, 3) := by decide +kernel
theorem dX7_count_136 : decode cX7_count 136 = .ok (.aload_n 0, 1) := by decide +kernel
theorem dX7_count_137 : decode cX7_count 137 = .ok (.getfield 7, 3) := by decide +kernel
theorem dX7_count_140 : decode cX7_count 140 = .ok (.iload_n 1, 1) := by decide +kernel
theorem dX7_count_141 : decode cX7_count 141 = .ok (.bipush 6, 2) := by decide +kernel
theorem dX7_count_143 : decode cX7_count 143 = .ok (.isub, 1) := by decide +kernel
theorem dX7_count_144 : decode cX7_count 144 = .ok (.iaload, 1) := by decide +kernel
theorem dX7_count_145 : decode cX7_count 145 = .ok (.goto 5, 3) := by decide +kernel
theorem dX7_count_148 : decode cX7_count 148 = .ok (.ldc 69, 2) := by decide +kernel
theorem dX7_count_150 : decode cX7_count 150 = .ok (.ireturn, 1) := by decide +kernel
theorem dX7_stake_0 : decode cX7_stake 0 = .ok (.aload_n 0, 1) := by decide +kernel
theorem dX7_stake_1 : decode cX7_stake 1 = .ok (.iload_n 1, 1) := by decide +kernel
theorem dX7_stake_2 : decode cX7_stake 2 = .ok (.invokevirtual 84, 3) := by decide +kernel
theorem dX7_stake_5 : decode cX7_stake 5 = .ok (.ifCond .eq 30, 3) := by decide +kernel
theorem dX7_stake_8 : decode cX7_stake 8 = .ok (.iload_n 2, 1) := by decide +kernel
theorem dX7_stake_9 : decode cX7_stake 9 = .ok (.iconst 0, 1) := by decide +kernel
theorem dX7_stake_10 : decode cX7_stake 10 = .ok (.aload_n 0, 1) := by decide +kernel
theorem dX7_stake_11 : decode cX7_stake 11 = .ok (.iload_n 1, 1) := by decide +kernel
theorem dX7_stake_12 : decode cX7_stake 12 = .ok (.iconst 1, 1) := by decide +kernel
theorem dX7_stake_13 : decode cX7_stake 13 = .ok (.invokevirtual 73, 3) := by decide +kernel
theorem dX7_stake_16 : decode cX7_stake 16 = .ok (.iconst 1, 1) := by decide +kernel
theorem dX7_stake_17 : decode cX7_stake 17 = .ok (.isub, 1) := by decide +kernel
theorem dX7_stake_18 : decode cX7_stake 18 = .ok (.invokestatic 60, 3) := by decide +kernel
theorem dX7_stake_21 : decode cX7_stake 21 = .ok (.ifCond .eq 14, 3) := by decide +kernel
theorem dX7_stake_24 : decode cX7_stake 24 = .ok (.iload_n 3, 1) := by decide +kernel
theorem dX7_stake_25 : decode cX7_stake 25 = .ok (.iconst 1, 1) := by decide +kernel
theorem dX7_stake_26 : decode cX7_stake 26 = .ok (.sipush 10000, 3) := by decide +kernel
theorem dX7_stake_29 : decode cX7_stake 29 = .ok (.invokestatic 60, 3) := by decide +kernel
theorem dX7_stake_32 : decode cX7_stake 32 = .ok (.ifCond .ne 6, 3) := by decide +kernel
theorem dX7_stake_35 : decode cX7_stake 35 = .ok (.ldc 69, 2) := by decide +kernel
theorem dX7_stake_37 : decode cX7_stake 37 = .ok (.ireturn, 1) := by decide +kernel
theorem dX7_stake_38 : decode cX7_stake 38 = .ok (.iconst 0, 1) := by decide +kernel
theorem dX7_stake_39 : decode cX7_stake 39 = .ok (.istore 4, 2) := by decide +kernel
theorem dX7_stake_41 : decode cX7_stake 41 = .ok (.iload 4, 2) := by decide +kernel
theorem dX7_stake_43 : decode cX7_stake 43 = .ok (.aload_n 0, 1) := by decide +kernel
theorem dX7_stake_44 : decode cX7_stake 44 = .ok (.getfield 7, 3) := by decide +kernel
theorem dX7_stake_47 : decode cX7_stake 47 = .ok (.bipush 9, 2) := by decide +kernel
theorem dX7_stake_49 : decode cX7_stake 49 = .ok (.iaload, 1) := by decide +kernel
theorem dX7_stake_50 : decode cX7_stake 50 = .ok (.if_icmp .ge 44, 3) := by decide +kernel
theorem dX7_stake_53 : decode cX7_stake 53 = .ok (.aload_n 0, 1) := by decide +kernel
theorem dX7_stake_54 : decode cX7_stake 54 = .ok (.iload 4, 2) := by decide +kernel
theorem dX7_stake_56 : decode cX7_stake 56 = .ok (.iconst 4, 1) := by decide +kernel
theorem dX7_stake_57 : decode cX7_stake 57 = .ok (.invokevirtual 127, 3) := by decide +kernel
theorem dX7_stake_60 : decode cX7_stake 60 = .ok (.ifCond .ne 28, 3) := by decide +kernel
theorem dX7_stake_63 : decode cX7_stake 63 = .ok (.aload_n 0, 1) := by decide +kernel
theorem dX7_stake_64 : decode cX7_stake 64 = .ok (.iload 4, 2) := by decide +kernel
theorem dX7_stake_66 : decode cX7_stake 66 = .ok (.iconst 0, 1) := by decide +kernel
theorem dX7_stake_67 : decode cX7_stake 67 = .ok (.invokevirtual 127, 3) := by decide +kernel
theorem dX7_stake_70 : decode cX7_stake 70 = .ok (.iload_n 1, 1) := by decide +kernel
theorem dX7_stake_71 : decode cX7_stake 71 = .ok (.if_icmp .ne 17, 3) := by decide +kernel
theorem dX7_stake_74 : decode cX7_stake 74 = .ok (.aload_n 0, 1) := by decide +kernel
theorem dX7_stake_75 : decode cX7_stake 75 = .ok (.iload 4, 2) := by decide +kernel
theorem dX7_stake_77 : decode cX7_stake 77 = .ok (.iconst 1, 1) := by decide +kernel
theorem dX7_stake_78 : decode cX7_stake 78 = .ok (.invokevirtual 127, 3) := by decide +kernel
theorem dX7_stake_81 : decode cX7_stake 81 = .ok (.iload_n 2, 1) := by decide +kernel
theorem dX7_stake_82 : decode cX7_stake 82 = .ok (.if_icmp .ne 6, 3) := by decide +kernel
theorem dX7_stake_85 : decode cX7_stake 85 = .ok (.ldc 59, 2) := by decide +kernel
theorem dX7_stake_87 : decode cX7_stake 87 = .ok (.ireturn, 1) := by decide +kernel
theorem dX7_stake_88 : decode cX7_stake 88 = .ok (.iinc 4 1, 3) := by decide +kernel
theorem dX7_stake_91 : decode cX7_stake 91 = .ok (.goto (-50), 3) := by decide +kernel
theorem dX7_stake_94 : decode cX7_stake 94 = .ok (.aload_n 0, 1) := by decide +kernel
theorem dX7_stake_95 : decode cX7_stake 95 = .ok (.getfield 7, 3) := by decide +kernel
theorem dX7_stake_98 : decode cX7_stake 98 = .ok (.bipush 9, 2) := by decide +kernel
theorem dX7_stake_100 : decode cX7_stake 100 = .ok (.iaload, 1) := by decide +kernel
theorem dX7_stake_101 : decode cX7_stake 101 = .ok (.bipush 6, 2) := by decide +kernel
theorem dX7_stake_103 : decode cX7_stake 103 = .ok (.if_icmp .ne 6, 3) := by decide +kernel
theorem dX7_stake_106 : decode cX7_stake 106 = .ok (.ldc 76, 2) := by decide +kernel
theorem dX7_stake_108 : decode cX7_stake 108 = .ok (.ireturn, 1) := by decide +kernel
theorem dX7_stake_109 : decode cX7_stake 109 = .ok (.aload_n 0, 1) := by decide +kernel
theorem dX7_stake_110 : decode cX7_stake 110 = .ok (.invokevirtual 70, 3) := by decide +kernel
theorem dX7_stake_113 : decode cX7_stake 113 = .ok (.aload_n 0, 1) := by decide +kernel
theorem dX7_stake_114 : decode cX7_stake 114 = .ok (.getfield 7, 3) := by decide +kernel
theorem dX7_stake_117 : decode cX7_stake 117 = .ok (.bipush 9, 2) := by decide +kernel
theorem dX7_stake_119 : decode cX7_stake 119 = .ok (.iaload, 1) := by decide +kernel
theorem dX7_stake_120 : decode cX7_stake 120 = .ok (.istore 4, 2) := by decide +kernel
theorem dX7_stake_122 : decode cX7_stake 122 = .ok (.aload_n 0, 1) := by decide +kernel
theorem dX7_stake_123 : decode cX7_stake 123 = .ok (.getfield 7, 3) := by decide +kernel
theorem dX7_stake_126 : decode cX7_stake 126 = .ok (.bipush 9, 2) := by decide +kernel
theorem dX7_stake_128 : decode cX7_stake 128 = .ok (.dup2, 1) := by decide +kernel
theorem dX7_stake_129 : decode cX7_stake 129 = .ok (.iaload, 1) := by decide +kernel
theorem dX7_stake_130 : decode cX7_stake 130 = .ok (.iconst 1, 1) := by decide +kernel
theorem dX7_stake_131 : decode cX7_stake 131 = .ok (.iadd, 1) := by decide +kernel
theorem dX7_stake_132 : decode cX7_stake 132 = .ok (.iastore, 1) := by decide +kernel
theorem dX7_stake_133 : decode cX7_stake 133 = .ok (.aload_n 0, 1) := by decide +kernel
theorem dX7_stake_134 : decode cX7_stake 134 = .ok (.iload 4, 2) := by decide +kernel
theorem dX7_stake_136 : decode cX7_stake 136 = .ok (.iconst 0, 1) := by decide +kernel
theorem dX7_stake_137 : decode cX7_stake 137 = .ok (.iload_n 1, 1) := by decide +kernel
theorem dX7_stake_138 : decode cX7_stake 138 = .ok (.invokevirtual 142, 3) := by decide +kernel
theorem dX7_stake_141 : decode cX7_stake 141 = .ok (.aload_n 0, 1) := by decide +kernel
theorem dX7_stake_142 : decode cX7_stake 142 = .ok (.iload 4, 2) := by decide +kernel
theorem dX7_stake_144 : decode cX7_stake 144 = .ok (.iconst 1, 1) := by decide +kernel
theorem dX7_stake_145 : decode cX7_stake 145 = .ok (.iload_n 2, 1) := by decide +kernel
theorem dX7_stake_146 : decode cX7_stake 146 = .ok (.invokevirtual 142, 3) := by decide +kernel
theorem dX7_stake_149 : decode cX7_stake 149 = .ok (.aload_n 0, 1) := by decide +kernel
theorem dX7_stake_150 : decode cX7_stake 150 = .ok (.iload 4, 2) := by decide +kernel
theorem dX7_stake_152 : decode cX7_stake 152 = .ok (.iconst 2, 1) := by decide +kernel
theorem dX7_stake_153 : decode cX7_stake 153 = .ok (.iload_n 3, 1) := by decide +kernel
theorem dX7_stake_154 : decode cX7_stake 154 = .ok (.invokevirtual 142, 3) := by decide +kernel
theorem dX7_stake_157 : decode cX7_stake 157 = .ok (.aload_n 0, 1) := by decide +kernel
theorem dX7_stake_158 : decode cX7_stake 158 = .ok (.iload 4, 2) := by decide +kernel
theorem dX7_stake_160 : decode cX7_stake 160 = .ok (.iconst 3, 1) := by decide +kernel
theorem dX7_stake_161 : decode cX7_stake 161 = .ok (.iconst 0, 1) := by decide +kernel
theorem dX7_stake_162 : decode cX7_stake 162 = .ok (.invokevirtual 142, 3) := by decide +kernel
theorem dX7_stake_165 : decode cX7_stake 165 = .ok (.aload_n 0, 1) := by decide +kernel
theorem dX7_stake_166 : decode cX7_stake 166 = .ok (.iload 4, 2) := by decide +kernel
theorem dX7_stake_168 : decode cX7_stake 168 = .ok (.iconst 4, 1) := by decide +kernel
theorem dX7_stake_169 : decode cX7_stake 169 = .ok (.iconst 0, 1) := by decide +kernel
theorem dX7_stake_170 : decode cX7_stake 170 = .ok (.invokevirtual 142, 3) := by decide +kernel
theorem dX7_stake_173 : decode cX7_stake 173 = .ok (.aload_n 0, 1) := by decide +kernel
theorem dX7_stake_174 : decode cX7_stake 174 = .ok (.iload 4, 2) := by decide +kernel
theorem dX7_stake_176 : decode cX7_stake 176 = .ok (.iconst 5, 1) := by decide +kernel
theorem dX7_stake_177 : decode cX7_stake 177 = .ok (.iconst 0, 1) := by decide +kernel
theorem dX7_stake_178 : decode cX7_stake 178 = .ok (.invokevirtual 142, 3) := by decide +kernel
theorem dX7_stake_181 : decode cX7_stake 181 = .ok (.iload 4, 2) := by decide +kernel
theorem dX7_stake_183 : decode cX7_stake 183 = .ok (.ireturn, 1) := by decide +kernel
theorem dX7_pull_0 : decode cX7_pull 0 = .ok (.aload_n 0, 1) := by decide +kernel
theorem dX7_pull_1 : decode cX7_pull 1 = .ok (.iload_n 1, 1) := by decide +kernel
theorem dX7_pull_2 : decode cX7_pull 2 = .ok (.invokevirtual 145, 3) := by decide +kernel
theorem dX7_pull_5 : decode cX7_pull 5 = .ok (.ifCond .ne 6, 3) := by decide +kernel
theorem dX7_pull_8 : decode cX7_pull 8 = .ok (.ldc 69, 2) := by decide +kernel
theorem dX7_pull_10 : decode cX7_pull 10 = .ok (.ireturn, 1) := by decide +kernel
theorem dX7_pull_11 : decode cX7_pull 11 = .ok (.aload_n 0, 1) := by decide +kernel
theorem dX7_pull_12 : decode cX7_pull 12 = .ok (.invokevirtual 70, 3) := by decide +kernel
theorem dX7_pull_15 : decode cX7_pull 15 = .ok (.aload_n 0, 1) := by decide +kernel
theorem dX7_pull_16 : decode cX7_pull 16 = .ok (.iload_n 1, 1) := by decide +kernel
theorem dX7_pull_17 : decode cX7_pull 17 = .ok (.iconst 3, 1) := by decide +kernel
theorem dX7_pull_18 : decode cX7_pull 18 = .ok (.invokevirtual 127, 3) := by decide +kernel
theorem dX7_pull_21 : decode cX7_pull 21 = .ok (.istore_n 2, 1) := by decide +kernel
theorem dX7_pull_22 : decode cX7_pull 22 = .ok (.aload_n 0, 1) := by decide +kernel
theorem dX7_pull_23 : decode cX7_pull 23 = .ok (.getfield 7, 3) := by decide +kernel
theorem dX7_pull_26 : decode cX7_pull 26 = .ok (.bipush 9, 2) := by decide +kernel
theorem dX7_pull_28 : decode cX7_pull 28 = .ok (.dup2, 1) := by decide +kernel
theorem dX7_pull_29 : decode cX7_pull 29 = .ok (.iaload, 1) := by decide +kernel
theorem dX7_pull_30 : decode cX7_pull 30 = .ok (.iconst 1, 1) := by decide +kernel
theorem dX7_pull_31 : decode cX7_pull 31 = .ok (.isub, 1) := by decide +kernel
theorem dX7_pull_32 : decode cX7_pull 32 = .ok (.iastore, 1) := by decide +kernel
theorem dX7_pull_33 : decode cX7_pull 33 = .ok (.bipush 74, 2) := by decide +kernel
theorem dX7_pull_35 : decode cX7_pull 35 = .ok (.bipush 6, 2) := by decide +kernel
theorem dX7_pull_37 : decode cX7_pull 37 = .ok (.iload_n 1, 1) := by decide +kernel
theorem dX7_pull_38 : decode cX7_pull 38 = .ok (.imul, 1) := by decide +kernel
theorem dX7_pull_39 : decode cX7_pull 39 = .ok (.iadd, 1) := by decide +kernel
theorem dX7_pull_40 : decode cX7_pull 40 = .ok (.istore_n 3, 1) := by decide +kernel
theorem dX7_pull_41 : decode cX7_pull 41 = .ok (.iload_n 3, 1) := by decide +kernel
theorem dX7_pull_42 : decode cX7_pull 42 = .ok (.bipush 74, 2) := by decide +kernel
theorem dX7_pull_44 : decode cX7_pull 44 = .ok (.bipush 6, 2) := by decide +kernel
theorem dX7_pull_46 : decode cX7_pull 46 = .ok (.aload_n 0, 1) := by decide +kernel
theorem dX7_pull_47 : decode cX7_pull 47 = .ok (.getfield 7, 3) := by decide +kernel
theorem dX7_pull_50 : decode cX7_pull 50 = .ok (.bipush 9, 2) := by decide +kernel
theorem dX7_pull_52 : decode cX7_pull 52 = .ok (.iaload, 1) := by decide +kernel
theorem dX7_pull_53 : decode cX7_pull 53 = .ok (.imul, 1) := by decide +kernel
theorem dX7_pull_54 : decode cX7_pull 54 = .ok (.iadd, 1) := by decide +kernel
theorem dX7_pull_55 : decode cX7_pull 55 = .ok (.if_icmp .ge 24, 3) := by decide +kernel
theorem dX7_pull_58 : decode cX7_pull 58 = .ok (.aload_n 0, 1) := by decide +kernel
theorem dX7_pull_59 : decode cX7_pull 59 = .ok (.getfield 7, 3) := by decide +kernel
theorem dX7_pull_62 : decode cX7_pull 62 = .ok (.iload_n 3, 1) := by decide +kernel
theorem dX7_pull_63 : decode cX7_pull 63 = .ok (.aload_n 0, 1) := by decide +kernel
theorem dX7_pull_64 : decode cX7_pull 64 = .ok (.getfield 7, 3) := by decide +kernel
theorem dX7_pull_67 : decode cX7_pull 67 = .ok (.iload_n 3, 1) := by decide +kernel
theorem dX7_pull_68 : decode cX7_pull 68 = .ok (.bipush 6, 2) := by decide +kernel
theorem dX7_pull_70 : decode cX7_pull 70 = .ok (.iadd, 1) := by decide +kernel
theorem dX7_pull_71 : decode cX7_pull 71 = .ok (.iaload, 1) := by decide +kernel
theorem dX7_pull_72 : decode cX7_pull 72 = .ok (.iastore, 1) := by decide +kernel
theorem dX7_pull_73 : decode cX7_pull 73 = .ok (.iinc 3 1, 3) := by decide +kernel
theorem dX7_pull_76 : decode cX7_pull 76 = .ok (.goto (-35), 3) := by decide +kernel
theorem dX7_pull_79 : decode cX7_pull 79 = .ok (.iload_n 2, 1) := by decide +kernel
theorem dX7_pull_80 : decode cX7_pull 80 = .ok (.ireturn, 1) := by decide +kernel
theorem dX7_stakeInfo_0 : decode cX7_stakeInfo 0 = .ok (.aload_n 0, 1) := by decide +kernel
theorem dX7_stakeInfo_1 : decode cX7_stakeInfo 1 = .ok (.iload_n 1, 1) := by decide +kernel
theorem dX7_stakeInfo_2 : decode cX7_stakeInfo 2 = .ok (.invokevirtual 145, 3) := by decide +kernel
theorem dX7_stakeInfo_5 : decode cX7_stakeInfo 5 = .ok (.ifCond .eq 21, 3) := by decide +kernel
theorem dX7_stakeInfo_8 : decode cX7_stakeInfo 8 = .ok (.iload_n 2, 1) := by decide +kernel
theorem dX7_stakeInfo_9 : decode cX7_stakeInfo 9 = .ok (.iconst 0, 1) := by decide +kernel
theorem dX7_stakeInfo_10 : decode cX7_stakeInfo 10 = .ok (.iconst 5, 1) := by decide +kernel
theorem dX7_stakeInfo_11 : decode cX7_stakeInfo 11 = .ok (.invokestatic 60, 3) := by decide +kernel
theorem dX7_stakeInfo_14 : decode cX7_stakeInfo 14 = .ok (.ifCond .eq 12, 3) := by decide +kernel
theorem dX7_stakeInfo_17 : decode cX7_stakeInfo 17 = .ok (.aload_n 0, 1) := by decide +kernel
theorem dX7_stakeInfo_18 : decode cX7_stakeInfo 18 = .ok (.iload_n 1, 1) := by decide +kernel
theorem dX7_stakeInfo_19 : decode cX7_stakeInfo 19 = .ok (.iload_n 2, 1) := by decide +kernel
theorem dX7_stakeInfo_20 : decode cX7_stakeInfo 20 = .ok (.invokevirtual 127, 3) := by decide +kernel
theorem dX7_stakeInfo_23 : decode cX7_stakeInfo 23 = .ok (.goto 5, 3) := by decide +kernel
theorem dX7_stakeInfo_26 : decode cX7_stakeInfo 26 = .ok (.ldc 69, 2) := by decide +kernel
theorem dX7_stakeInfo_28 : decode cX7_stakeInfo 28 = .ok (.ireturn, 1) := by decide +kernel
theorem dX7_stakesIn_0 : decode cX7_stakesIn 0 = .ok (.aload_n 0, 1) := by decide +kernel
theorem dX7_stakesIn_1 : decode cX7_stakesIn 1 = .ok (.iload_n 1, 1) := by decide +kernel
theorem dX7_stakesIn_2 : decode cX7_stakesIn 2 = .ok (.invokevirtual 84, 3) := by decide +kernel
theorem dX7_stakesIn_5 : decode cX7_stakesIn 5 = .ok (.ifCond .ne 6, 3) := by decide +kernel
theorem dX7_stakesIn_8 : decode cX7_stakesIn 8 = .ok (.ldc 69, 2) := by decide +kernel
theorem dX7_stakesIn_10 : decode cX7_stakesIn 10 = .ok (.ireturn, 1) := by decide +kernel
theorem dX7_stakesIn_11 : decode cX7_stakesIn 11 = .ok (.iconst 0, 1) := by decide +kernel
theorem dX7_stakesIn_12 : decode cX7_stakesIn 12 = .ok (.istore_n 2, 1) := by decide +kernel
theorem dX7_stakesIn_13 : decode cX7_stakesIn 13 = .ok (.iconst 0, 1) := by decide +kernel
theorem dX7_stakesIn_14 : decode cX7_stakesIn 14 = .ok (.istore_n 3, 1) := by decide +kernel
theorem dX7_stakesIn_15 : decode cX7_stakesIn 15 = .ok (.iload_n 3, 1) := by decide +kernel
theorem dX7_stakesIn_16 : decode cX7_stakesIn 16 = .ok (.aload_n 0, 1) := by decide +kernel
theorem dX7_stakesIn_17 : decode cX7_stakesIn 17 = .ok (.getfield 7, 3) := by decide +kernel
theorem dX7_stakesIn_20 : decode cX7_stakesIn 20 = .ok (.bipush 9, 2) := by decide +kernel
theorem dX7_stakesIn_22 : decode cX7_stakesIn 22 = .ok (.iaload, 1) := by decide +kernel
theorem dX7_stakesIn_23 : decode cX7_stakesIn 23 = .ok (.if_icmp .ge 38, 3) := by decide +kernel
theorem dX7_stakesIn_26 : decode cX7_stakesIn 26 = .ok (.iload_n 2, 1) := by decide +kernel
theorem dX7_stakesIn_27 : decode cX7_stakesIn 27 = .ok (.aload_n 0, 1) := by decide +kernel
theorem dX7_stakesIn_28 : decode cX7_stakesIn 28 = .ok (.iload_n 3, 1) := by decide +kernel
theorem dX7_stakesIn_29 : decode cX7_stakesIn 29 = .ok (.iconst 4, 1) := by decide +kernel
theorem dX7_stakesIn_30 : decode cX7_stakesIn 30 = .ok (.invokevirtual 127, 3) := by decide +kernel
theorem dX7_stakesIn_33 : decode cX7_stakesIn 33 = .ok (.ifCond .ne 19, 3) := by decide +kernel
theorem dX7_stakesIn_36 : decode cX7_stakesIn 36 = .ok (.aload_n 0, 1) := by decide +kernel
theorem dX7_stakesIn_37 : decode cX7_stakesIn 37 = .ok (.iload_n 3, 1) := by decide +kernel
theorem dX7_stakesIn_38 : decode cX7_stakesIn 38 = .ok (.iconst 0, 1) := by decide +kernel
theorem dX7_stakesIn_39 : decode cX7_stakesIn 39 = .ok (.invokevirtual 127, 3) := by decide +kernel
theorem dX7_stakesIn_42 : decode cX7_stakesIn 42 = .ok (.iload_n 1, 1) := by decide +kernel
theorem dX7_stakesIn_43 : decode cX7_stakesIn 43 = .ok (.if_icmp .ne 9, 3) := by decide +kernel
theorem dX7_stakesIn_46 : decode cX7_stakesIn 46 = .ok (.iconst 1, 1) := by decide +kernel
theorem dX7_stakesIn_47 : decode cX7_stakesIn 47 = .ok (.iload_n 3, 1) := by decide +kernel
theorem dX7_stakesIn_48 : decode cX7_stakesIn 48 = .ok (.ishl, 1) := by decide +kernel
theorem dX7_stakesIn_49 : decode cX7_stakesIn 49 = .ok (.goto 4, 3) := by decide +kernel
theorem dX7_stakesIn_52 : decode cX7_stakesIn 52 = .ok (.iconst 0, 1) := by decide +kernel
theorem dX7_stakesIn_53 : decode cX7_stakesIn 53 = .ok (.ior, 1) := by decide +kernel
theorem dX7_stakesIn_54 : decode cX7_stakesIn 54 = .ok (.istore_n 2, 1) := by decide +kernel
theorem dX7_stakesIn_55 : decode cX7_stakesIn 55 = .ok (.iinc 3 1, 3) := by decide +kernel
theorem dX7_stakesIn_58 : decode cX7_stakesIn 58 = .ok (.goto (-43), 3) := by decide +kernel
theorem dX7_stakesIn_61 : decode cX7_stakesIn 61 = .ok (.iload_n 2, 1) := by decide +kernel
theorem dX7_stakesIn_62 : decode cX7_stakesIn 62 = .ok (.ireturn, 1) := by decide +kernel
theorem dX7_weather_0 : decode cX7_weather 0 = .ok (.aload_n 0, 1) := by decide +kernel
theorem dX7_weather_1 : decode cX7_weather 1 = .ok (.iload_n 1, 1) := by decide +kernel
theorem dX7_weather_2 : decode cX7_weather 2 = .ok (.invokevirtual 106, 3) := by decide +kernel
theorem dX7_weather_5 : decode cX7_weather 5 = .ok (.istore_n 2, 1) := by decide +kernel
theorem dX7_weather_6 : decode cX7_weather 6 = .ok (.aload_n 0, 1) := by decide +kernel
theorem dX7_weather_7 : decode cX7_weather 7 = .ok (.getfield 13, 3) := by decide +kernel
theorem dX7_weather_10 : decode cX7_weather 10 = .ok (.sipush 801, 3) := by decide +kernel
theorem dX7_weather_13 : decode cX7_weather 13 = .ok (.iload_n 1, 1) := by decide +kernel
theorem dX7_weather_14 : decode cX7_weather 14 = .ok (.imul, 1) := by decide +kernel
theorem dX7_weather_15 : decode cX7_weather 15 = .ok (.aload_n 0, 1) := by decide +kernel
theorem dX7_weather_16 : decode cX7_weather 16 = .ok (.getfield 7, 3) := by decide +kernel
theorem dX7_weather_19 : decode cX7_weather 19 = .ok (.bipush 7, 2) := by decide +kernel
theorem dX7_weather_21 : decode cX7_weather 21 = .ok (.iaload, 1) := by decide +kernel
theorem dX7_weather_22 : decode cX7_weather 22 = .ok (.iadd, 1) := by decide +kernel
theorem dX7_weather_23 : decode cX7_weather 23 = .ok (.dup2, 1) := by decide +kernel
theorem dX7_weather_24 : decode cX7_weather 24 = .ok (.iaload, 1) := by decide +kernel
theorem dX7_weather_25 : decode cX7_weather 25 = .ok (.iload_n 2, 1) := by decide +kernel
theorem dX7_weather_26 : decode cX7_weather 26 = .ok (.iadd, 1) := by decide +kernel
theorem dX7_weather_27 : decode cX7_weather 27 = .ok (.iastore, 1) := by decide +kernel
theorem dX7_weather_28 : decode cX7_weather 28 = .ok (.aload_n 0, 1) := by decide +kernel
theorem dX7_weather_29 : decode cX7_weather 29 = .ok (.getfield 16, 3) := by decide +kernel
theorem dX7_weather_32 : decode cX7_weather 32 = .ok (.iconst 1, 1) := by decide +kernel
theorem dX7_weather_33 : decode cX7_weather 33 = .ok (.dup2, 1) := by decide +kernel
theorem dX7_weather_34 : decode cX7_weather 34 = .ok (.laload, 1) := by decide +kernel
theorem dX7_weather_35 : decode cX7_weather 35 = .ok (.iload_n 2, 1) := by decide +kernel
theorem dX7_weather_36 : decode cX7_weather 36 = .ok (.i2l, 1) := by decide +kernel
theorem dX7_weather_37 : decode cX7_weather 37 = .ok (.ladd, 1) := by decide +kernel
theorem dX7_weather_38 : decode cX7_weather 38 = .ok (.lastore, 1) := by decide +kernel
theorem dX7_weather_39 : decode cX7_weather 39 = .ok (.aload_n 0, 1) := by decide +kernel
theorem dX7_weather_40 : decode cX7_weather 40 = .ok (.iload_n 1, 1) := by decide +kernel
theorem dX7_weather_41 : decode cX7_weather 41 = .ok (.invokevirtual 109, 3) := by decide +kernel
theorem dX7_weather_44 : decode cX7_weather 44 = .ok (.istore_n 3, 1) := by decide +kernel
theorem dX7_weather_45 : decode cX7_weather 45 = .ok (.iconst 0, 1) := by decide +kernel
theorem dX7_weather_46 : decode cX7_weather 46 = .ok (.istore 4, 2) := by decide +kernel
theorem dX7_weather_48 : decode cX7_weather 48 = .ok (.aload_n 0, 1) := by decide +kernel
theorem dX7_weather_49 : decode cX7_weather 49 = .ok (.getfield 7, 3) := by decide +kernel
theorem dX7_weather_52 : decode cX7_weather 52 = .ok (.bipush 7, 2) := by decide +kernel
theorem dX7_weather_54 : decode cX7_weather 54 = .ok (.iaload, 1) := by decide +kernel
theorem dX7_weather_55 : decode cX7_weather 55 = .ok (.istore 5, 2) := by decide +kernel
theorem dX7_weather_57 : decode cX7_weather 57 = .ok (.iload 5, 2) := by decide +kernel
theorem dX7_weather_59 : decode cX7_weather 59 = .ok (.ifCond .lt 72, 3) := by decide +kernel
theorem dX7_weather_62 : decode cX7_weather 62 = .ok (.iload_n 3, 1) := by decide +kernel
theorem dX7_weather_63 : decode cX7_weather 63 = .ok (.ifCond .le 68, 3) := by decide +kernel
theorem dX7_weather_66 : decode cX7_weather 66 = .ok (.aload_n 0, 1) := by decide +kernel
theorem dX7_weather_67 : decode cX7_weather 67 = .ok (.getfield 13, 3) := by decide +kernel
theorem dX7_weather_70 : decode cX7_weather 70 = .ok (.sipush 801, 3) := by decide +kernel
theorem dX7_weather_73 : decode cX7_weather 73 = .ok (.iload_n 1, 1) := by decide +kernel
theorem dX7_weather_74 : decode cX7_weather 74 = .ok (.imul, 1) := by decide +kernel
theorem dX7_weather_75 : decode cX7_weather 75 = .ok (.iload 5, 2) := by decide +kernel
theorem dX7_weather_77 : decode cX7_weather 77 = .ok (.iadd, 1) := by decide +kernel
theorem dX7_weather_78 : decode cX7_weather 78 = .ok (.iaload, 1) := by decide +kernel
theorem dX7_weather_79 : decode cX7_weather 79 = .ok (.istore 6, 2) := by decide +kernel
theorem dX7_weather_81 : decode cX7_weather 81 = .ok (.iload 6, 2) := by decide +kernel
theorem dX7_weather_83 : decode cX7_weather 83 = .ok (.iload_n 3, 1) := by decide +kernel
theorem dX7_weather_84 : decode cX7_weather 84 = .ok (.if_icmp .ge 8, 3) := by decide +kernel
theorem dX7_weather_87 : decode cX7_weather 87 = .ok (.iload 6, 2) := by decide +kernel
theorem dX7_weather_89 : decode cX7_weather 89 = .ok (.goto 4, 3) := by decide +kernel
theorem dX7_weather_92 : decode cX7_weather 92 = .ok (.iload_n 3, 1) := by decide +kernel
theorem dX7_weather_93 : decode cX7_weather 93 = .ok (.istore 7, 2) := by decide +kernel
theorem dX7_weather_95 : decode cX7_weather 95 = .ok (.aload_n 0, 1) := by decide +kernel
theorem dX7_weather_96 : decode cX7_weather 96 = .ok (.getfield 13, 3) := by decide +kernel
theorem dX7_weather_99 : decode cX7_weather 99 = .ok (.sipush 801, 3) := by decide +kernel
theorem dX7_weather_102 : decode cX7_weather 102 = .ok (.iload_n 1, 1) := by decide +kernel
theorem dX7_weather_103 : decode cX7_weather 103 = .ok (.imul, 1) := by decide +kernel
theorem dX7_weather_104 : decode cX7_weather 104 = .ok (.iload 5, 2) := by decide +kernel
theorem dX7_weather_106 : decode cX7_weather 106 = .ok (.iadd, 1) := by decide +kernel
theorem dX7_weather_107 : decode cX7_weather 107 = .ok (.dup2, 1) := by decide +kernel
theorem dX7_weather_108 : decode cX7_weather 108 = .ok (.iaload, 1) := by decide +kernel
theorem dX7_weather_109 : decode cX7_weather 109 = .ok (.iload 7, 2) := by decide +kernel
theorem dX7_weather_111 : decode cX7_weather 111 = .ok (.isub, 1) := by decide +kernel
theorem dX7_weather_112 : decode cX7_weather 112 = .ok (.iastore, 1) := by decide +kernel
theorem dX7_weather_113 : decode cX7_weather 113 = .ok (.iload_n 3, 1) := by decide +kernel
theorem dX7_weather_114 : decode cX7_weather 114 = .ok (.iload 7, 2) := by decide +kernel
theorem dX7_weather_116 : decode cX7_weather 116 = .ok (.isub, 1) := by decide +kernel
theorem dX7_weather_117 : decode cX7_weather 117 = .ok (.istore_n 3, 1) := by decide +kernel
theorem dX7_weather_118 : decode cX7_weather 118 = .ok (.iload 4, 2) := by decide +kernel
theorem dX7_weather_120 : decode cX7_weather 120 = .ok (.iload 7, 2) := by decide +kernel
theorem dX7_weather_122 : decode cX7_weather 122 = .ok (.iadd, 1) := by decide +kernel
theorem dX7_weather_123 : decode cX7_weather 123 = .ok (.istore 4, 2) := by decide +kernel
theorem dX7_weather_125 : decode cX7_weather 125 = .ok (.iinc 5 (-1), 3) := by decide +kernel
theorem dX7_weather_128 : decode cX7_weather 128 = .ok (.goto (-71), 3) := by decide +kernel
theorem dX7_weather_131 : decode cX7_weather 131 = .ok (.aload_n 0, 1) := by decide +kernel
theorem dX7_weather_132 : decode cX7_weather 132 = .ok (.iload_n 1, 1) := by decide +kernel
theorem dX7_weather_133 : decode cX7_weather 133 = .ok (.iconst 3, 1) := by decide +kernel
theorem dX7_weather_134 : decode cX7_weather 134 = .ok (.iload 4, 2) := by decide +kernel
theorem dX7_weather_136 : decode cX7_weather 136 = .ok (.invokevirtual 77, 3) := by decide +kernel
theorem dX7_weather_139 : decode cX7_weather 139 = .ok (.aload_n 0, 1) := by decide +kernel
theorem dX7_weather_140 : decode cX7_weather 140 = .ok (.getfield 16, 3) := by decide +kernel
theorem dX7_weather_143 : decode cX7_weather 143 = .ok (.iconst 2, 1) := by decide +kernel
theorem dX7_weather_144 : decode cX7_weather 144 = .ok (.dup2, 1) := by decide +kernel
theorem dX7_weather_145 : decode cX7_weather 145 = .ok (.laload, 1) := by decide +kernel
theorem dX7_weather_146 : decode cX7_weather 146 = .ok (.iload 4, 2) := by decide +kernel
theorem dX7_weather_148 : decode cX7_weather 148 = .ok (.i2l, 1) := by decide +kernel
theorem dX7_weather_149 : decode cX7_weather 149 = .ok (.ladd, 1) := by decide +kernel
theorem dX7_weather_150 : decode cX7_weather 150 = .ok (.lastore, 1) := by decide +kernel
theorem dX7_weather_151 : decode cX7_weather 151 = .ok (.return_, 1) := by decide +kernel
theorem dX7_gives_0 : decode cX7_gives 0 = .ok (.aload_n 0, 1) := by decide +kernel
theorem dX7_gives_1 : decode cX7_gives 1 = .ok (.iload_n 1, 1) := by decide +kernel
theorem dX7_gives_2 : decode cX7_gives 2 = .ok (.invokevirtual 93, 3) := by decide +kernel
theorem dX7_gives_5 : decode cX7_gives 5 = .ok (.i2l, 1) := by decide +kernel
theorem dX7_gives_6 : decode cX7_gives 6 = .ok (.aload_n 0, 1) := by decide +kernel
theorem dX7_gives_7 : decode cX7_gives 7 = .ok (.iload_n 1, 1) := by decide +kernel
theorem dX7_gives_8 : decode cX7_gives 8 = .ok (.iconst 2, 1) := by decide +kernel
theorem dX7_gives_9 : decode cX7_gives 9 = .ok (.invokevirtual 73, 3) := by decide +kernel
theorem dX7_gives_12 : decode cX7_gives 12 = .ok (.i2l, 1) := by decide +kernel
theorem dX7_gives_13 : decode cX7_gives 13 = .ok (.lmul, 1) := by decide +kernel
theorem dX7_gives_14 : decode cX7_gives 14 = .ok (.ldc2_w 148, 3) := by decide +kernel
theorem dX7_gives_17 : decode cX7_gives 17 = .ok (.ldiv, 1) := by decide +kernel
theorem dX7_gives_18 : decode cX7_gives 18 = .ok (.l2i, 1) := by decide +kernel
theorem dX7_gives_19 : decode cX7_gives 19 = .ok (.istore_n 2, 1) := by decide +kernel
theorem dX7_gives_20 : decode cX7_gives 20 = .ok (.aload_n 0, 1) := by decide +kernel
theorem dX7_gives_21 : decode cX7_gives 21 = .ok (.iload_n 1, 1) := by decide +kernel
theorem dX7_gives_22 : decode cX7_gives 22 = .ok (.iconst 4, 1) := by decide +kernel
theorem dX7_gives_23 : decode cX7_gives 23 = .ok (.iload_n 2, 1) := by decide +kernel
theorem dX7_gives_24 : decode cX7_gives 24 = .ok (.invokevirtual 77, 3) := by decide +kernel
theorem dX7_gives_27 : decode cX7_gives 27 = .ok (.iload_n 1, 1) := by decide +kernel
theorem dX7_gives_28 : decode cX7_gives 28 = .ok (.aload_n 0, 1) := by decide +kernel
theorem dX7_gives_29 : decode cX7_gives 29 = .ok (.getfield 7, 3) := by decide +kernel
theorem dX7_gives_32 : decode cX7_gives 32 = .ok (.bipush 8, 2) := by decide +kernel
theorem dX7_gives_34 : decode cX7_gives 34 = .ok (.iaload, 1) := by decide +kernel
theorem dX7_gives_35 : decode cX7_gives 35 = .ok (.iconst 1, 1) := by decide +kernel
theorem dX7_gives_36 : decode cX7_gives 36 = .ok (.isub, 1) := by decide +kernel
theorem dX7_gives_37 : decode cX7_gives 37 = .ok (.if_icmp .ne 7, 3) := by decide +kernel
theorem dX7_gives_40 : decode cX7_gives 40 = .ok (.iconst 1, 1) := by decide +kernel
theorem dX7_gives_41 : decode cX7_gives 41 = .ok (.goto 4, 3) := by decide +kernel
theorem dX7_gives_44 : decode cX7_gives 44 = .ok (.iconst 0, 1) := by decide +kernel
theorem dX7_gives_45 : decode cX7_gives 45 = .ok (.istore_n 3, 1) := by decide +kernel
theorem dX7_gives_46 : decode cX7_gives 46 = .ok (.aload_n 0, 1) := by decide +kernel
theorem dX7_gives_47 : decode cX7_gives 47 = .ok (.getfield 7, 3) := by decide +kernel
theorem dX7_gives_50 : decode cX7_gives 50 = .ok (.bipush 10, 2) := by decide +kernel
theorem dX7_gives_52 : decode cX7_gives 52 = .ok (.dup2, 1) := by decide +kernel
theorem dX7_gives_53 : decode cX7_gives 53 = .ok (.iaload, 1) := by decide +kernel
theorem dX7_gives_54 : decode cX7_gives 54 = .ok (.iload_n 3, 1) := by decide +kernel
theorem dX7_gives_55 : decode cX7_gives 55 = .ok (.ifCond .eq 7, 3) := by decide +kernel
theorem dX7_gives_58 : decode cX7_gives 58 = .ok (.iload_n 2, 1) := by decide +kernel
theorem dX7_gives_59 : decode cX7_gives 59 = .ok (.goto 4, 3) := by decide +kernel
theorem dX7_gives_62 : decode cX7_gives 62 = .ok (.iconst 0, 1) := by decide +kernel
theorem dX7_gives_63 : decode cX7_gives 63 = .ok (.iadd, 1) := by decide +kernel
theorem dX7_gives_64 : decode cX7_gives 64 = .ok (.iastore, 1) := by decide +kernel
theorem dX7_gives_65 : decode cX7_gives 65 = .ok (.iload_n 3, 1) := by decide +kernel
theorem dX7_gives_66 : decode cX7_gives 66 = .ok (.ifCond .ne 12, 3) := by decide +kernel
theorem dX7_gives_69 : decode cX7_gives 69 = .ok (.aload_n 0, 1) := by decide +kernel
theorem dX7_gives_70 : decode cX7_gives 70 = .ok (.iload_n 1, 1) := by decide +kernel
theorem dX7_gives_71 : decode cX7_gives 71 = .ok (.iconst 1, 1) := by decide +kernel
theorem dX7_gives_72 : decode cX7_gives 72 = .ok (.iadd, 1) := by decide +kernel
theorem dX7_gives_73 : decode cX7_gives 73 = .ok (.iconst 5, 1) := by decide +kernel
theorem dX7_gives_74 : decode cX7_gives 74 = .ok (.iload_n 2, 1) := by decide +kernel
theorem dX7_gives_75 : decode cX7_gives 75 = .ok (.invokevirtual 77, 3) := by decide +kernel
theorem dX7_gives_78 : decode cX7_gives 78 = .ok (.iconst 0, 1) := by decide +kernel
theorem dX7_gives_79 : decode cX7_gives 79 = .ok (.istore 4, 2) := by decide +kernel
theorem dX7_gives_81 : decode cX7_gives 81 = .ok (.iload 4, 2) := by decide +kernel
theorem dX7_gives_83 : decode cX7_gives 83 = .ok (.aload_n 0, 1) := by decide +kernel
theorem dX7_gives_84 : decode cX7_gives 84 = .ok (.getfield 7, 3) := by decide +kernel
theorem dX7_gives_87 : decode cX7_gives 87 = .ok (.bipush 7, 2) := by decide +kernel
theorem dX7_gives_89 : decode cX7_gives 89 = .ok (.iaload, 1) := by decide +kernel
theorem dX7_gives_90 : decode cX7_gives 90 = .ok (.if_icmp .gt 89, 3) := by decide +kernel
theorem dX7_gives_93 : decode cX7_gives 93 = .ok (.iload_n 2, 1) := by decide +kernel
theorem dX7_gives_94 : decode cX7_gives 94 = .ok (.ifCond .le 85, 3) := by decide +kernel
theorem dX7_gives_97 : decode cX7_gives 97 = .ok (.aload_n 0, 1) := by decide +kernel
theorem dX7_gives_98 : decode cX7_gives 98 = .ok (.getfield 13, 3) := by decide +kernel
theorem dX7_gives_101 : decode cX7_gives 101 = .ok (.sipush 801, 3) := by decide +kernel
theorem dX7_gives_104 : decode cX7_gives 104 = .ok (.iload_n 1, 1) := by decide +kernel
theorem dX7_gives_105 : decode cX7_gives 105 = .ok (.imul, 1) := by decide +kernel
theorem dX7_gives_106 : decode cX7_gives 106 = .ok (.iload 4, 2) := by decide +kernel
theorem dX7_gives_108 : decode cX7_gives 108 = .ok (.iadd, 1) := by decide +kernel
theorem dX7_gives_109 : decode cX7_gives 109 = .ok (.iaload, 1) := by decide +kernel
theorem dX7_gives_110 : decode cX7_gives 110 = .ok (.istore 5, 2) := by decide +kernel
theorem dX7_gives_112 : decode cX7_gives 112 = .ok (.iload 5, 2) := by decide +kernel
theorem dX7_gives_114 : decode cX7_gives 114 = .ok (.iload_n 2, 1) := by decide +kernel
theorem dX7_gives_115 : decode cX7_gives 115 = .ok (.if_icmp .ge 8, 3) := by decide +kernel
theorem dX7_gives_118 : decode cX7_gives 118 = .ok (.iload 5, 2) := by decide +kernel
theorem dX7_gives_120 : decode cX7_gives 120 = .ok (.goto 4, 3) := by decide +kernel
theorem dX7_gives_123 : decode cX7_gives 123 = .ok (.iload_n 2, 1) := by decide +kernel
theorem dX7_gives_124 : decode cX7_gives 124 = .ok (.istore 6, 2) := by decide +kernel
theorem dX7_gives_126 : decode cX7_gives 126 = .ok (.aload_n 0, 1) := by decide +kernel
theorem dX7_gives_127 : decode cX7_gives 127 = .ok (.getfield 13, 3) := by decide +kernel
theorem dX7_gives_130 : decode cX7_gives 130 = .ok (.sipush 801, 3) := by decide +kernel
theorem dX7_gives_133 : decode cX7_gives 133 = .ok (.iload_n 1, 1) := by decide +kernel
theorem dX7_gives_134 : decode cX7_gives 134 = .ok (.imul, 1) := by decide +kernel
theorem dX7_gives_135 : decode cX7_gives 135 = .ok (.iload 4, 2) := by decide +kernel
theorem dX7_gives_137 : decode cX7_gives 137 = .ok (.iadd, 1) := by decide +kernel
theorem dX7_gives_138 : decode cX7_gives 138 = .ok (.dup2, 1) := by decide +kernel
theorem dX7_gives_139 : decode cX7_gives 139 = .ok (.iaload, 1) := by decide +kernel
theorem dX7_gives_140 : decode cX7_gives 140 = .ok (.iload 6, 2) := by decide +kernel
theorem dX7_gives_142 : decode cX7_gives 142 = .ok (.isub, 1) := by decide +kernel
theorem dX7_gives_143 : decode cX7_gives 143 = .ok (.iastore, 1) := by decide +kernel
theorem dX7_gives_144 : decode cX7_gives 144 = .ok (.iload_n 2, 1) := by decide +kernel
theorem dX7_gives_145 : decode cX7_gives 145 = .ok (.iload 6, 2) := by decide +kernel
theorem dX7_gives_147 : decode cX7_gives 147 = .ok (.isub, 1) := by decide +kernel
theorem dX7_gives_148 : decode cX7_gives 148 = .ok (.istore_n 2, 1) := by decide +kernel
theorem dX7_gives_149 : decode cX7_gives 149 = .ok (.iload_n 3, 1) := by decide +kernel
theorem dX7_gives_150 : decode cX7_gives 150 = .ok (.ifCond .ne 23, 3) := by decide +kernel
theorem dX7_gives_153 : decode cX7_gives 153 = .ok (.aload_n 0, 1) := by decide +kernel
theorem dX7_gives_154 : decode cX7_gives 154 = .ok (.getfield 13, 3) := by decide +kernel
theorem dX7_gives_157 : decode cX7_gives 157 = .ok (.sipush 801, 3) := by decide +kernel
theorem dX7_gives_160 : decode cX7_gives 160 = .ok (.iload_n 1, 1) := by decide +kernel
theorem dX7_gives_161 : decode cX7_gives 161 = .ok (.iconst 1, 1) := by decide +kernel
theorem dX7_gives_162 : decode cX7_gives 162 = .ok (.iadd, 1) := by decide +kernel
theorem dX7_gives_163 : decode cX7_gives 163 = .ok (.imul, 1) := by decide +kernel
theorem dX7_gives_164 : decode cX7_gives 164 = .ok (.iload 4, 2) := by decide +kernel
theorem dX7_gives_166 : decode cX7_gives 166 = .ok (.iadd, 1) := by decide +kernel
theorem dX7_gives_167 : decode cX7_gives 167 = .ok (.dup2, 1) := by decide +kernel
theorem dX7_gives_168 : decode cX7_gives 168 = .ok (.iaload, 1) := by decide +kernel
theorem dX7_gives_169 : decode cX7_gives 169 = .ok (.iload 6, 2) := by decide +kernel
theorem dX7_gives_171 : decode cX7_gives 171 = .ok (.iadd, 1) := by decide +kernel
theorem dX7_gives_172 : decode cX7_gives 172 = .ok (.iastore, 1) := by decide +kernel
theorem dX7_gives_173 : decode cX7_gives 173 = .ok (.iinc 4 1, 3) := by decide +kernel
theorem dX7_gives_176 : decode cX7_gives 176 = .ok (.goto (-95), 3) := by decide +kernel
theorem dX7_gives_179 : decode cX7_gives 179 = .ok (.return_, 1) := by decide +kernel
theorem dX7_stepFront_0 : decode cX7_stepFront 0 = .ok (.aload_n 0, 1) := by decide +kernel
theorem dX7_stepFront_1 : decode cX7_stepFront 1 = .ok (.getfield 7, 3) := by decide +kernel
theorem dX7_stepFront_4 : decode cX7_stepFront 4 = .ok (.bipush 11, 2) := by decide +kernel
theorem dX7_stepFront_6 : decode cX7_stepFront 6 = .ok (.iaload, 1) := by decide +kernel
theorem dX7_stepFront_7 : decode cX7_stepFront 7 = .ok (.ifCond .le 17, 3) := by decide +kernel
theorem dX7_stepFront_10 : decode cX7_stepFront 10 = .ok (.aload_n 0, 1) := by decide +kernel
theorem dX7_stepFront_11 : decode cX7_stepFront 11 = .ok (.getfield 7, 3) := by decide +kernel
theorem dX7_stepFront_14 : decode cX7_stepFront 14 = .ok (.bipush 11, 2) := by decide +kernel
theorem dX7_stepFront_16 : decode cX7_stepFront 16 = .ok (.dup2, 1) := by decide +kernel
theorem dX7_stepFront_17 : decode cX7_stepFront 17 = .ok (.iaload, 1) := by decide +kernel
theorem dX7_stepFront_18 : decode cX7_stepFront 18 = .ok (.iconst 1, 1) := by decide +kernel
theorem dX7_stepFront_19 : decode cX7_stepFront 19 = .ok (.isub, 1) := by decide +kernel
theorem dX7_stepFront_20 : decode cX7_stepFront 20 = .ok (.iastore, 1) := by decide +kernel
theorem dX7_stepFront_21 : decode cX7_stepFront 21 = .ok (.goto 109, 3) := by decide +kernel
theorem dX7_stepFront_24 : decode cX7_stepFront 24 = .ok (.aload_n 0, 1) := by decide +kernel
theorem dX7_stepFront_25 : decode cX7_stepFront 25 = .ok (.getfield 7, 3) := by decide +kernel
theorem dX7_stepFront_28 : decode cX7_stepFront 28 = .ok (.bipush 10, 2) := by decide +kernel
theorem dX7_stepFront_30 : decode cX7_stepFront 30 = .ok (.iaload, 1) := by decide +kernel
theorem dX7_stepFront_31 : decode cX7_stepFront 31 = .ok (.aload_n 0, 1) := by decide +kernel
theorem dX7_stepFront_32 : decode cX7_stepFront 32 = .ok (.getfield 7, 3) := by decide +kernel
theorem dX7_stepFront_35 : decode cX7_stepFront 35 = .ok (.iconst 5, 1) := by decide +kernel
theorem dX7_stepFront_36 : decode cX7_stepFront 36 = .ok (.iaload, 1) := by decide +kernel
theorem dX7_stepFront_37 : decode cX7_stepFront 37 = .ok (.if_icmp .lt 93, 3) := by decide +kernel
theorem dX7_stepFront_40 : decode cX7_stepFront 40 = .ok (.aload_n 0, 1) := by decide +kernel
theorem dX7_stepFront_41 : decode cX7_stepFront 41 = .ok (.getfield 7, 3) := by decide +kernel
theorem dX7_stepFront_44 : decode cX7_stepFront 44 = .ok (.bipush 10, 2) := by decide +kernel
theorem dX7_stepFront_46 : decode cX7_stepFront 46 = .ok (.iaload, 1) := by decide +kernel
theorem dX7_stepFront_47 : decode cX7_stepFront 47 = .ok (.aload_n 0, 1) := by decide +kernel
theorem dX7_stepFront_48 : decode cX7_stepFront 48 = .ok (.getfield 7, 3) := by decide +kernel
theorem dX7_stepFront_51 : decode cX7_stepFront 51 = .ok (.iconst 5, 1) := by decide +kernel
theorem dX7_stepFront_52 : decode cX7_stepFront 52 = .ok (.iaload, 1) := by decide +kernel
theorem dX7_stepFront_53 : decode cX7_stepFront 53 = .ok (.idiv, 1) := by decide +kernel
theorem dX7_stepFront_54 : decode cX7_stepFront 54 = .ok (.istore_n 1, 1) := by decide +kernel
theorem dX7_stepFront_55 : decode cX7_stepFront 55 = .ok (.aload_n 0, 1) := by decide +kernel
theorem dX7_stepFront_56 : decode cX7_stepFront 56 = .ok (.getfield 7, 3) := by decide +kernel
theorem dX7_stepFront_59 : decode cX7_stepFront 59 = .ok (.bipush 10, 2) := by decide +kernel
theorem dX7_stepFront_61 : decode cX7_stepFront 61 = .ok (.dup2, 1) := by decide +kernel
theorem dX7_stepFront_62 : decode cX7_stepFront 62 = .ok (.iaload, 1) := by decide +kernel
theorem dX7_stepFront_63 : decode cX7_stepFront 63 = .ok (.iload_n 1, 1) := by decide +kernel
theorem dX7_stepFront_64 : decode cX7_stepFront 64 = .ok (.aload_n 0, 1) := by decide +kernel
theorem dX7_stepFront_65 : decode cX7_stepFront 65 = .ok (.getfield 7, 3) := by decide +kernel
theorem dX7_stepFront_68 : decode cX7_stepFront 68 = .ok (.iconst 5, 1) := by decide +kernel
theorem dX7_stepFront_69 : decode cX7_stepFront 69 = .ok (.iaload, 1) := by decide +kernel
theorem dX7_stepFront_70 : decode cX7_stepFront 70 = .ok (.imul, 1) := by decide +kernel
theorem dX7_stepFront_71 : decode cX7_stepFront 71 = .ok (.isub, 1) := by decide +kernel
theorem dX7_stepFront_72 : decode cX7_stepFront 72 = .ok (.iastore, 1) := by decide +kernel
theorem dX7_stepFront_73 : decode cX7_stepFront 73 = .ok (.aload_n 0, 1) := by decide +kernel
theorem dX7_stepFront_74 : decode cX7_stepFront 74 = .ok (.getfield 7, 3) := by decide +kernel
theorem dX7_stepFront_77 : decode cX7_stepFront 77 = .ok (.bipush 12, 2) := by decide +kernel
theorem dX7_stepFront_79 : decode cX7_stepFront 79 = .ok (.dup2, 1) := by decide +kernel
theorem dX7_stepFront_80 : decode cX7_stepFront 80 = .ok (.iaload, 1) := by decide +kernel
theorem dX7_stepFront_81 : decode cX7_stepFront 81 = .ok (.iload_n 1, 1) := by decide +kernel
theorem dX7_stepFront_82 : decode cX7_stepFront 82 = .ok (.iadd, 1) := by decide +kernel
theorem dX7_stepFront_83 : decode cX7_stepFront 83 = .ok (.iastore, 1) := by decide +kernel
theorem dX7_stepFront_84 : decode cX7_stepFront 84 = .ok (.aload_n 0, 1) := by decide +kernel
theorem dX7_stepFront_85 : decode cX7_stepFront 85 = .ok (.getfield 16, 3) := by decide +kernel
theorem dX7_stepFront_88 : decode cX7_stepFront 88 = .ok (.iconst 3, 1) := by decide +kernel
theorem dX7_stepFront_89 : decode cX7_stepFront 89 = .ok (.dup2, 1) := by decide +kernel
theorem dX7_stepFront_90 : decode cX7_stepFront 90 = .ok (.laload, 1) := by decide +kernel
theorem dX7_stepFront_91 : decode cX7_stepFront 91 = .ok (.iload_n 1, 1) := by decide +kernel
theorem dX7_stepFront_92 : decode cX7_stepFront 92 = .ok (.aload_n 0, 1) := by decide +kernel
theorem dX7_stepFront_93 : decode cX7_stepFront 93 = .ok (.getfield 7, 3) := by decide +kernel
theorem dX7_stepFront_96 : decode cX7_stepFront 96 = .ok (.iconst 5, 1) := by decide +kernel
theorem dX7_stepFront_97 : decode cX7_stepFront 97 = .ok (.iaload, 1) := by decide +kernel
theorem dX7_stepFront_98 : decode cX7_stepFront 98 = .ok (.imul, 1) := by decide +kernel
theorem dX7_stepFront_99 : decode cX7_stepFront 99 = .ok (.i2l, 1) := by decide +kernel
theorem dX7_stepFront_100 : decode cX7_stepFront 100 = .ok (.ladd, 1) := by decide +kernel
theorem dX7_stepFront_101 : decode cX7_stepFront 101 = .ok (.lastore, 1) := by decide +kernel
theorem dX7_stepFront_102 : decode cX7_stepFront 102 = .ok (.aload_n 0, 1) := by decide +kernel
theorem dX7_stepFront_103 : decode cX7_stepFront 103 = .ok (.getfield 7, 3) := by decide +kernel
theorem dX7_stepFront_106 : decode cX7_stepFront 106 = .ok (.bipush 13, 2) := by decide +kernel
theorem dX7_stepFront_108 : decode cX7_stepFront 108 = .ok (.aload_n 0, 1) := by decide +kernel
theorem dX7_stepFront_109 : decode cX7_stepFront 109 = .ok (.getfield 7, 3) := by decide +kernel
theorem dX7_stepFront_112 : decode cX7_stepFront 112 = .ok (.bipush 7, 2) := by decide +kernel
theorem dX7_stepFront_114 : decode cX7_stepFront 114 = .ok (.iaload, 1) := by decide +kernel
theorem dX7_stepFront_115 : decode cX7_stepFront 115 = .ok (.iastore, 1) := by decide +kernel
theorem dX7_stepFront_116 : decode cX7_stepFront 116 = .ok (.aload_n 0, 1) := by decide +kernel
theorem dX7_stepFront_117 : decode cX7_stepFront 117 = .ok (.getfield 7, 3) := by decide +kernel
theorem dX7_stepFront_120 : decode cX7_stepFront 120 = .ok (.bipush 11, 2) := by decide +kernel
theorem dX7_stepFront_122 : decode cX7_stepFront 122 = .ok (.aload_n 0, 1) := by decide +kernel
theorem dX7_stepFront_123 : decode cX7_stepFront 123 = .ok (.getfield 7, 3) := by decide +kernel
theorem dX7_stepFront_126 : decode cX7_stepFront 126 = .ok (.bipush 6, 2) := by decide +kernel
theorem dX7_stepFront_128 : decode cX7_stepFront 128 = .ok (.iaload, 1) := by decide +kernel
theorem dX7_stepFront_129 : decode cX7_stepFront 129 = .ok (.iastore, 1) := by decide +kernel
theorem dX7_stepFront_130 : decode cX7_stepFront 130 = .ok (.return_, 1) := by decide +kernel
theorem dX7_moves_0 : decode cX7_moves 0 = .ok (.aload_n 0, 1) := by decide +kernel
theorem dX7_moves_1 : decode cX7_moves 1 = .ok (.iload_n 1, 1) := by decide +kernel
theorem dX7_moves_2 : decode cX7_moves 2 = .ok (.iconst 0, 1) := by decide +kernel
theorem dX7_moves_3 : decode cX7_moves 3 = .ok (.invokevirtual 127, 3) := by decide +kernel
theorem dX7_moves_6 : decode cX7_moves 6 = .ok (.istore_n 2, 1) := by decide +kernel
theorem dX7_moves_7 : decode cX7_moves 7 = .ok (.aload_n 0, 1) := by decide +kernel
theorem dX7_moves_8 : decode cX7_moves 8 = .ok (.iload_n 1, 1) := by decide +kernel
theorem dX7_moves_9 : decode cX7_moves 9 = .ok (.iconst 1, 1) := by decide +kernel
theorem dX7_moves_10 : decode cX7_moves 10 = .ok (.invokevirtual 127, 3) := by decide +kernel
theorem dX7_moves_13 : decode cX7_moves 13 = .ok (.aload_n 0, 1) := by decide +kernel
theorem dX7_moves_14 : decode cX7_moves 14 = .ok (.iload_n 2, 1) := by decide +kernel
theorem dX7_moves_15 : decode cX7_moves 15 = .ok (.iconst 1, 1) := by decide +kernel
theorem dX7_moves_16 : decode cX7_moves 16 = .ok (.invokevirtual 73, 3) := by decide +kernel
theorem dX7_moves_19 : decode cX7_moves 19 = .ok (.aload_n 0, 1) := by decide +kernel
theorem dX7_moves_20 : decode cX7_moves 20 = .ok (.iload_n 2, 1) := by decide +kernel
theorem dX7_moves_21 : decode cX7_moves 21 = .ok (.iconst 2, 1) := by decide +kernel
theorem dX7_moves_22 : decode cX7_moves 22 = .ok (.invokevirtual 73, 3) := by decide +kernel
theorem dX7_moves_25 : decode cX7_moves 25 = .ok (.imul, 1) := by decide +kernel
theorem dX7_moves_26 : decode cX7_moves 26 = .ok (.sipush 1000, 3) := by decide +kernel
theorem dX7_moves_29 : decode cX7_moves 29 = .ok (.idiv, 1) := by decide +kernel
theorem dX7_moves_30 : decode cX7_moves 30 = .ok (.iadd, 1) := by decide +kernel
theorem dX7_moves_31 : decode cX7_moves 31 = .ok (.istore_n 3, 1) := by decide +kernel
theorem dX7_moves_32 : decode cX7_moves 32 = .ok (.iload_n 2, 1) := by decide +kernel
theorem dX7_moves_33 : decode cX7_moves 33 = .ok (.aload_n 0, 1) := by decide +kernel
theorem dX7_moves_34 : decode cX7_moves 34 = .ok (.getfield 7, 3) := by decide +kernel
theorem dX7_moves_37 : decode cX7_moves 37 = .ok (.bipush 8, 2) := by decide +kernel
theorem dX7_moves_39 : decode cX7_moves 39 = .ok (.iaload, 1) := by decide +kernel
theorem dX7_moves_40 : decode cX7_moves 40 = .ok (.if_icmp .ge 28, 3) := by decide +kernel
theorem dX7_moves_43 : decode cX7_moves 43 = .ok (.iload_n 3, 1) := by decide +kernel
theorem dX7_moves_44 : decode cX7_moves 44 = .ok (.aload_n 0, 1) := by decide +kernel
theorem dX7_moves_45 : decode cX7_moves 45 = .ok (.iload_n 2, 1) := by decide +kernel
theorem dX7_moves_46 : decode cX7_moves 46 = .ok (.iconst 1, 1) := by decide +kernel
theorem dX7_moves_47 : decode cX7_moves 47 = .ok (.invokevirtual 73, 3) := by decide +kernel
theorem dX7_moves_50 : decode cX7_moves 50 = .ok (.if_icmp .lt 18, 3) := by decide +kernel
theorem dX7_moves_53 : decode cX7_moves 53 = .ok (.iload_n 3, 1) := by decide +kernel
theorem dX7_moves_54 : decode cX7_moves 54 = .ok (.aload_n 0, 1) := by decide +kernel
theorem dX7_moves_55 : decode cX7_moves 55 = .ok (.iload_n 2, 1) := by decide +kernel
theorem dX7_moves_56 : decode cX7_moves 56 = .ok (.iconst 1, 1) := by decide +kernel
theorem dX7_moves_57 : decode cX7_moves 57 = .ok (.invokevirtual 73, 3) := by decide +kernel
theorem dX7_moves_60 : decode cX7_moves 60 = .ok (.isub, 1) := by decide +kernel
theorem dX7_moves_61 : decode cX7_moves 61 = .ok (.istore_n 3, 1) := by decide +kernel
theorem dX7_moves_62 : decode cX7_moves 62 = .ok (.iinc 2 1, 3) := by decide +kernel
theorem dX7_moves_65 : decode cX7_moves 65 = .ok (.goto (-33), 3) := by decide +kernel
theorem dX7_moves_68 : decode cX7_moves 68 = .ok (.iload_n 2, 1) := by decide +kernel
theorem dX7_moves_69 : decode cX7_moves 69 = .ok (.aload_n 0, 1) := by decide +kernel
theorem dX7_moves_70 : decode cX7_moves 70 = .ok (.getfield 7, 3) := by decide +kernel
theorem dX7_moves_73 : decode cX7_moves 73 = .ok (.bipush 8, 2) := by decide +kernel
theorem dX7_moves_75 : decode cX7_moves 75 = .ok (.iaload, 1) := by decide +kernel
theorem dX7_moves_76 : decode cX7_moves 76 = .ok (.if_icmp .ne 13, 3) := by decide +kernel
theorem dX7_moves_79 : decode cX7_moves 79 = .ok (.aload_n 0, 1) := by decide +kernel
theorem dX7_moves_80 : decode cX7_moves 80 = .ok (.iload_n 1, 1) := by decide +kernel
theorem dX7_moves_81 : decode cX7_moves 81 = .ok (.iconst 4, 1) := by decide +kernel
theorem dX7_moves_82 : decode cX7_moves 82 = .ok (.iconst 2, 1) := by decide +kernel
theorem dX7_moves_83 : decode cX7_moves 83 = .ok (.invokevirtual 142, 3) := by decide +kernel
theorem dX7_moves_86 : decode cX7_moves 86 = .ok (.goto 17, 3) := by decide +kernel
theorem dX7_moves_89 : decode cX7_moves 89 = .ok (.aload_n 0, 1) := by decide +kernel
theorem dX7_moves_90 : decode cX7_moves 90 = .ok (.iload_n 1, 1) := by decide +kernel
theorem dX7_moves_91 : decode cX7_moves 91 = .ok (.iconst 0, 1) := by decide +kernel
theorem dX7_moves_92 : decode cX7_moves 92 = .ok (.iload_n 2, 1) := by decide +kernel
theorem dX7_moves_93 : decode cX7_moves 93 = .ok (.invokevirtual 142, 3) := by decide +kernel
theorem dX7_moves_96 : decode cX7_moves 96 = .ok (.aload_n 0, 1) := by decide +kernel
theorem dX7_moves_97 : decode cX7_moves 97 = .ok (.iload_n 1, 1) := by decide +kernel
theorem dX7_moves_98 : decode cX7_moves 98 = .ok (.iconst 1, 1) := by decide +kernel
theorem dX7_moves_99 : decode cX7_moves 99 = .ok (.iload_n 3, 1) := by decide +kernel
theorem dX7_moves_100 : decode cX7_moves 100 = .ok (.invokevirtual 142, 3) := by decide +kernel
theorem dX7_moves_103 : decode cX7_moves 103 = .ok (.return_, 1) := by decide +kernel
theorem dX7_stepStake_0 : decode cX7_stepStake 0 = .ok (.aload_n 0, 1) := by decide +kernel
theorem dX7_stepStake_1 : decode cX7_stepStake 1 = .ok (.iload_n 1, 1) := by decide +kernel
theorem dX7_stepStake_2 : decode cX7_stepStake 2 = .ok (.iconst 0, 1) := by decide +kernel
theorem dX7_stepStake_3 : decode cX7_stepStake 3 = .ok (.invokevirtual 127, 3) := by decide +kernel
theorem dX7_stepStake_6 : decode cX7_stepStake 6 = .ok (.istore_n 2, 1) := by decide +kernel
theorem dX7_stepStake_7 : decode cX7_stepStake 7 = .ok (.aload_n 0, 1) := by decide +kernel
theorem dX7_stepStake_8 : decode cX7_stepStake 8 = .ok (.iload_n 1, 1) := by decide +kernel
theorem dX7_stepStake_9 : decode cX7_stepStake 9 = .ok (.iconst 5, 1) := by decide +kernel
theorem dX7_stepStake_10 : decode cX7_stepStake 10 = .ok (.aload_n 0, 1) := by decide +kernel
theorem dX7_stepStake_11 : decode cX7_stepStake 11 = .ok (.iload_n 1, 1) := by decide +kernel
theorem dX7_stepStake_12 : decode cX7_stepStake 12 = .ok (.iconst 5, 1) := by decide +kernel
theorem dX7_stepStake_13 : decode cX7_stepStake 13 = .ok (.invokevirtual 127, 3) := by decide +kernel
theorem dX7_stepStake_16 : decode cX7_stepStake 16 = .ok (.iconst 1, 1) := by decide +kernel
theorem dX7_stepStake_17 : decode cX7_stepStake 17 = .ok (.iadd, 1) := by decide +kernel
theorem dX7_stepStake_18 : decode cX7_stepStake 18 = .ok (.invokevirtual 142, 3) := by decide +kernel
theorem dX7_stepStake_21 : decode cX7_stepStake 21 = .ok (.aload_n 0, 1) := by decide +kernel
theorem dX7_stepStake_22 : decode cX7_stepStake 22 = .ok (.iload_n 1, 1) := by decide +kernel
theorem dX7_stepStake_23 : decode cX7_stepStake 23 = .ok (.iconst 3, 1) := by decide +kernel
theorem dX7_stepStake_24 : decode cX7_stepStake 24 = .ok (.aload_n 0, 1) := by decide +kernel
theorem dX7_stepStake_25 : decode cX7_stepStake 25 = .ok (.iload_n 1, 1) := by decide +kernel
theorem dX7_stepStake_26 : decode cX7_stepStake 26 = .ok (.iconst 3, 1) := by decide +kernel
theorem dX7_stepStake_27 : decode cX7_stepStake 27 = .ok (.invokevirtual 127, 3) := by decide +kernel
theorem dX7_stepStake_30 : decode cX7_stepStake 30 = .ok (.aload_n 0, 1) := by decide +kernel
theorem dX7_stepStake_31 : decode cX7_stepStake 31 = .ok (.iload_n 2, 1) := by decide +kernel
theorem dX7_stepStake_32 : decode cX7_stepStake 32 = .ok (.invokevirtual 106, 3) := by decide +kernel
theorem dX7_stepStake_35 : decode cX7_stepStake 35 = .ok (.iadd, 1) := by decide +kernel
theorem dX7_stepStake_36 : decode cX7_stepStake 36 = .ok (.aload_n 0, 1) := by decide +kernel
theorem dX7_stepStake_37 : decode cX7_stepStake 37 = .ok (.iload_n 2, 1) := by decide +kernel
theorem dX7_stepStake_38 : decode cX7_stepStake 38 = .ok (.iconst 3, 1) := by decide +kernel
theorem dX7_stepStake_39 : decode cX7_stepStake 39 = .ok (.invokevirtual 73, 3) := by decide +kernel
theorem dX7_stepStake_42 : decode cX7_stepStake 42 = .ok (.isub, 1) := by decide +kernel
theorem dX7_stepStake_43 : decode cX7_stepStake 43 = .ok (.invokevirtual 142, 3) := by decide +kernel
theorem dX7_stepStake_46 : decode cX7_stepStake 46 = .ok (.aload_n 0, 1) := by decide +kernel
theorem dX7_stepStake_47 : decode cX7_stepStake 47 = .ok (.iload_n 1, 1) := by decide +kernel
theorem dX7_stepStake_48 : decode cX7_stepStake 48 = .ok (.iconst 3, 1) := by decide +kernel
theorem dX7_stepStake_49 : decode cX7_stepStake 49 = .ok (.invokevirtual 127, 3) := by decide +kernel
theorem dX7_stepStake_52 : decode cX7_stepStake 52 = .ok (.aload_n 0, 1) := by decide +kernel
theorem dX7_stepStake_53 : decode cX7_stepStake 53 = .ok (.iload_n 1, 1) := by decide +kernel
theorem dX7_stepStake_54 : decode cX7_stepStake 54 = .ok (.iconst 2, 1) := by decide +kernel
theorem dX7_stepStake_55 : decode cX7_stepStake 55 = .ok (.invokevirtual 127, 3) := by decide +kernel
theorem dX7_stepStake_58 : decode cX7_stepStake 58 = .ok (.ineg, 1) := by decide +kernel
theorem dX7_stepStake_59 : decode cX7_stepStake 59 = .ok (.if_icmp .ge 13, 3) := by decide +kernel
theorem dX7_stepStake_62 : decode cX7_stepStake 62 = .ok (.aload_n 0, 1) := by decide +kernel
theorem dX7_stepStake_63 : decode cX7_stepStake 63 = .ok (.iload_n 1, 1) := by decide +kernel
theorem dX7_stepStake_64 : decode cX7_stepStake 64 = .ok (.iconst 4, 1) := by decide +kernel
theorem dX7_stepStake_65 : decode cX7_stepStake 65 = .ok (.iconst 1, 1) := by decide +kernel
theorem dX7_stepStake_66 : decode cX7_stepStake 66 = .ok (.invokevirtual 142, 3) := by decide +kernel
theorem dX7_stepStake_69 : decode cX7_stepStake 69 = .ok (.goto 8, 3) := by decide +kernel
theorem dX7_stepStake_72 : decode cX7_stepStake 72 = .ok (.aload_n 0, 1) := by decide +kernel
theorem dX7_stepStake_73 : decode cX7_stepStake 73 = .ok (.iload_n 1, 1) := by decide +kernel
theorem dX7_stepStake_74 : decode cX7_stepStake 74 = .ok (.invokevirtual 150, 3) := by decide +kernel
theorem dX7_stepStake_77 : decode cX7_stepStake 77 = .ok (.return_, 1) := by decide +kernel
theorem dX7_year_0 : decode cX7_year 0 = .ok (.aload_n 0, 1) := by decide +kernel
theorem dX7_year_1 : decode cX7_year 1 = .ok (.getfield 7, 3) := by decide +kernel
theorem dX7_year_4 : decode cX7_year 4 = .ok (.bipush 7, 2) := by decide +kernel
theorem dX7_year_6 : decode cX7_year 6 = .ok (.dup2, 1) := by decide +kernel
theorem dX7_year_7 : decode cX7_year 7 = .ok (.iaload, 1) := by decide +kernel
theorem dX7_year_8 : decode cX7_year 8 = .ok (.iconst 1, 1) := by decide +kernel
theorem dX7_year_9 : decode cX7_year 9 = .ok (.iadd, 1) := by decide +kernel
theorem dX7_year_10 : decode cX7_year 10 = .ok (.iastore, 1) := by decide +kernel
theorem dX7_year_11 : decode cX7_year 11 = .ok (.iconst 0, 1) := by decide +kernel
theorem dX7_year_12 : decode cX7_year 12 = .ok (.istore_n 1, 1) := by decide +kernel
theorem dX7_year_13 : decode cX7_year 13 = .ok (.iload_n 1, 1) := by decide +kernel
theorem dX7_year_14 : decode cX7_year 14 = .ok (.aload_n 0, 1) := by decide +kernel
theorem dX7_year_15 : decode cX7_year 15 = .ok (.getfield 7, 3) := by decide +kernel
theorem dX7_year_18 : decode cX7_year 18 = .ok (.bipush 8, 2) := by decide +kernel
theorem dX7_year_20 : decode cX7_year 20 = .ok (.iaload, 1) := by decide +kernel
theorem dX7_year_21 : decode cX7_year 21 = .ok (.if_icmp .ge 21, 3) := by decide +kernel
theorem dX7_year_24 : decode cX7_year 24 = .ok (.aload_n 0, 1) := by decide +kernel
theorem dX7_year_25 : decode cX7_year 25 = .ok (.iload_n 1, 1) := by decide +kernel
theorem dX7_year_26 : decode cX7_year 26 = .ok (.invokevirtual 154, 3) := by decide +kernel
theorem dX7_year_29 : decode cX7_year 29 = .ok (.aload_n 0, 1) := by decide +kernel
theorem dX7_year_30 : decode cX7_year 30 = .ok (.iload_n 1, 1) := by decide +kernel
theorem dX7_year_31 : decode cX7_year 31 = .ok (.iconst 5, 1) := by decide +kernel
theorem dX7_year_32 : decode cX7_year 32 = .ok (.iconst 0, 1) := by decide +kernel
theorem dX7_year_33 : decode cX7_year 33 = .ok (.invokevirtual 77, 3) := by decide +kernel
theorem dX7_year_36 : decode cX7_year 36 = .ok (.iinc 1 1, 3) := by decide +kernel
theorem dX7_year_39 : decode cX7_year 39 = .ok (.goto (-26), 3) := by decide +kernel
theorem dX7_year_42 : decode cX7_year 42 = .ok (.aload_n 0, 1) := by decide +kernel
theorem dX7_year_43 : decode cX7_year 43 = .ok (.getfield 7, 3) := by decide +kernel
theorem dX7_year_46 : decode cX7_year 46 = .ok (.bipush 8, 2) := by decide +kernel
theorem dX7_year_48 : decode cX7_year 48 = .ok (.iaload, 1) := by decide +kernel
theorem dX7_year_49 : decode cX7_year 49 = .ok (.iconst 1, 1) := by decide +kernel
theorem dX7_year_50 : decode cX7_year 50 = .ok (.isub, 1) := by decide +kernel
theorem dX7_year_51 : decode cX7_year 51 = .ok (.istore_n 1, 1) := by decide +kernel
theorem dX7_year_52 : decode cX7_year 52 = .ok (.iload_n 1, 1) := by decide +kernel
theorem dX7_year_53 : decode cX7_year 53 = .ok (.ifCond .lt 14, 3) := by decide +kernel
theorem dX7_year_56 : decode cX7_year 56 = .ok (.aload_n 0, 1) := by decide +kernel
theorem dX7_year_57 : decode cX7_year 57 = .ok (.iload_n 1, 1) := by decide +kernel
theorem dX7_year_58 : decode cX7_year 58 = .ok (.invokevirtual 157, 3) := by decide +kernel
theorem dX7_year_61 : decode cX7_year 61 = .ok (.iinc 1 (-1), 3) := by decide +kernel
theorem dX7_year_64 : decode cX7_year 64 = .ok (.goto (-12), 3) := by decide +kernel
theorem dX7_year_67 : decode cX7_year 67 = .ok (.aload_n 0, 1) := by decide +kernel
theorem dX7_year_68 : decode cX7_year 68 = .ok (.invokevirtual 160, 3) := by decide +kernel
theorem dX7_year_71 : decode cX7_year 71 = .ok (.iconst 0, 1) := by decide +kernel
theorem dX7_year_72 : decode cX7_year 72 = .ok (.istore_n 1, 1) := by decide +kernel
theorem dX7_year_73 : decode cX7_year 73 = .ok (.iload_n 1, 1) := by decide +kernel
theorem dX7_year_74 : decode cX7_year 74 = .ok (.aload_n 0, 1) := by decide +kernel
theorem dX7_year_75 : decode cX7_year 75 = .ok (.getfield 7, 3) := by decide +kernel
theorem dX7_year_78 : decode cX7_year 78 = .ok (.bipush 9, 2) := by decide +kernel
theorem dX7_year_80 : decode cX7_year 80 = .ok (.iaload, 1) := by decide +kernel
theorem dX7_year_81 : decode cX7_year 81 = .ok (.if_icmp .ge 23, 3) := by decide +kernel
theorem dX7_year_84 : decode cX7_year 84 = .ok (.aload_n 0, 1) := by decide +kernel
theorem dX7_year_85 : decode cX7_year 85 = .ok (.iload_n 1, 1) := by decide +kernel
theorem dX7_year_86 : decode cX7_year 86 = .ok (.iconst 4, 1) := by decide +kernel
theorem dX7_year_87 : decode cX7_year 87 = .ok (.invokevirtual 127, 3) := by decide +kernel
theorem dX7_year_90 : decode cX7_year 90 = .ok (.ifCond .ne 8, 3) := by decide +kernel
theorem dX7_year_93 : decode cX7_year 93 = .ok (.aload_n 0, 1) := by decide +kernel
theorem dX7_year_94 : decode cX7_year 94 = .ok (.iload_n 1, 1) := by decide +kernel
theorem dX7_year_95 : decode cX7_year 95 = .ok (.invokevirtual 163, 3) := by decide +kernel
theorem dX7_year_98 : decode cX7_year 98 = .ok (.iinc 1 1, 3) := by decide +kernel
theorem dX7_year_101 : decode cX7_year 101 = .ok (.goto (-28), 3) := by decide +kernel
theorem dX7_year_104 : decode cX7_year 104 = .ok (.return_, 1) := by decide +kernel
theorem dX7_goOn_0 : decode cX7_goOn 0 = .ok (.iconst 0, 1) := by decide +kernel
theorem dX7_goOn_1 : decode cX7_goOn 1 = .ok (.istore_n 2, 1) := by decide +kernel
theorem dX7_goOn_2 : decode cX7_goOn 2 = .ok (.iload_n 2, 1) := by decide +kernel
theorem dX7_goOn_3 : decode cX7_goOn 3 = .ok (.iload_n 1, 1) := by decide +kernel
theorem dX7_goOn_4 : decode cX7_goOn 4 = .ok (.if_icmp .ge 13, 3) := by decide +kernel
theorem dX7_goOn_7 : decode cX7_goOn 7 = .ok (.aload_n 0, 1) := by decide +kernel
theorem dX7_goOn_8 : decode cX7_goOn 8 = .ok (.invokevirtual 166, 3) := by decide +kernel
theorem dX7_goOn_11 : decode cX7_goOn 11 = .ok (.iinc 2 1, 3) := by decide +kernel
theorem dX7_goOn_14 : decode cX7_goOn 14 = .ok (.goto (-12), 3) := by decide +kernel
theorem dX7_goOn_17 : decode cX7_goOn 17 = .ok (.return_, 1) := by decide +kernel
theorem dX7_years_0 : decode cX7_years 0 = .ok (.iload_n 1, 1) := by decide +kernel
theorem dX7_years_1 : decode cX7_years 1 = .ok (.iconst 1, 1) := by decide +kernel
theorem dX7_years_2 : decode cX7_years 2 = .ok (.bipush 100, 2) := by decide +kernel
theorem dX7_years_4 : decode cX7_years 4 = .ok (.invokestatic 60, 3) := by decide +kernel
theorem dX7_years_7 : decode cX7_years 7 = .ok (.ifCond .ne 6, 3) := by decide +kernel
theorem dX7_years_10 : decode cX7_years 10 = .ok (.ldc 69, 2) := by decide +kernel
theorem dX7_years_12 : decode cX7_years 12 = .ok (.ireturn, 1) := by decide +kernel
theorem dX7_years_13 : decode cX7_years 13 = .ok (.aload_n 0, 1) := by decide +kernel
theorem dX7_years_14 : decode cX7_years 14 = .ok (.getfield 7, 3) := by decide +kernel
theorem dX7_years_17 : decode cX7_years 17 = .ok (.bipush 8, 2) := by decide +kernel
theorem dX7_years_19 : decode cX7_years 19 = .ok (.iaload, 1) := by decide +kernel
theorem dX7_years_20 : decode cX7_years 20 = .ok (.ifCond .ne 6, 3) := by decide +kernel
theorem dX7_years_23 : decode cX7_years 23 = .ok (.ldc 59, 2) := by decide +kernel
theorem dX7_years_25 : decode cX7_years 25 = .ok (.ireturn, 1) := by decide +kernel
theorem dX7_years_26 : decode cX7_years 26 = .ok (.aload_n 0, 1) := by decide +kernel
theorem dX7_years_27 : decode cX7_years 27 = .ok (.getfield 7, 3) := by decide +kernel
theorem dX7_years_30 : decode cX7_years 30 = .ok (.bipush 7, 2) := by decide +kernel
theorem dX7_years_32 : decode cX7_years 32 = .ok (.iaload, 1) := by decide +kernel
theorem dX7_years_33 : decode cX7_years 33 = .ok (.iload_n 1, 1) := by decide +kernel
theorem dX7_years_34 : decode cX7_years 34 = .ok (.iadd, 1) := by decide +kernel
theorem dX7_years_35 : decode cX7_years 35 = .ok (.sipush 500, 3) := by decide +kernel
theorem dX7_years_38 : decode cX7_years 38 = .ok (.if_icmp .le 6, 3) := by decide +kernel
theorem dX7_years_41 : decode cX7_years 41 = .ok (.ldc 76, 2) := by decide +kernel
theorem dX7_years_43 : decode cX7_years 43 = .ok (.ireturn, 1) := by decide +kernel
theorem dX7_years_44 : decode cX7_years 44 = .ok (.aload_n 0, 1) := by decide +kernel
theorem dX7_years_45 : decode cX7_years 45 = .ok (.invokevirtual 70, 3) := by decide +kernel
theorem dX7_years_48 : decode cX7_years 48 = .ok (.aload_n 0, 1) := by decide +kernel
theorem dX7_years_49 : decode cX7_years 49 = .ok (.getfield 7, 3) := by decide +kernel
theorem dX7_years_52 : decode cX7_years 52 = .ok (.bipush 12, 2) := by decide +kernel
theorem dX7_years_54 : decode cX7_years 54 = .ok (.iaload, 1) := by decide +kernel
theorem dX7_years_55 : decode cX7_years 55 = .ok (.istore_n 2, 1) := by decide +kernel
theorem dX7_years_56 : decode cX7_years 56 = .ok (.aload_n 0, 1) := by decide +kernel
theorem dX7_years_57 : decode cX7_years 57 = .ok (.iload_n 1, 1) := by decide +kernel
theorem dX7_years_58 : decode cX7_years 58 = .ok (.invokevirtual 169, 3) := by decide +kernel
theorem dX7_years_61 : decode cX7_years 61 = .ok (.aload_n 0, 1) := by decide +kernel
theorem dX7_years_62 : decode cX7_years 62 = .ok (.getfield 7, 3) := by decide +kernel
theorem dX7_years_65 : decode cX7_years 65 = .ok (.bipush 12, 2) := by decide +kernel
theorem dX7_years_67 : decode cX7_years 67 = .ok (.iaload, 1) := by decide +kernel
theorem dX7_years_68 : decode cX7_years 68 = .ok (.iload_n 2, 1) := by decide +kernel
theorem dX7_years_69 : decode cX7_years 69 = .ok (.isub, 1) := by decide +kernel
theorem dX7_years_70 : decode cX7_years 70 = .ok (.ireturn, 1) := by decide +kernel
theorem dX7_oldest_0 : decode cX7_oldest 0 = .ok (.iconst 0, 1) := by decide +kernel
theorem dX7_oldest_1 : decode cX7_oldest 1 = .ok (.istore_n 1, 1) := by decide +kernel
theorem dX7_oldest_2 : decode cX7_oldest 2 = .ok (.iload_n 1, 1) := by decide +kernel
theorem dX7_oldest_3 : decode cX7_oldest 3 = .ok (.aload_n 0, 1) := by decide +kernel
theorem dX7_oldest_4 : decode cX7_oldest 4 = .ok (.getfield 7, 3) := by decide +kernel
theorem dX7_oldest_7 : decode cX7_oldest 7 = .ok (.bipush 7, 2) := by decide +kernel
theorem dX7_oldest_9 : decode cX7_oldest 9 = .ok (.iaload, 1) := by decide +kernel
theorem dX7_oldest_10 : decode cX7_oldest 10 = .ok (.if_icmp .gt 19, 3) := by decide +kernel
theorem dX7_oldest_13 : decode cX7_oldest 13 = .ok (.aload_n 0, 1) := by decide +kernel
theorem dX7_oldest_14 : decode cX7_oldest 14 = .ok (.iload_n 1, 1) := by decide +kernel
theorem dX7_oldest_15 : decode cX7_oldest 15 = .ok (.invokevirtual 115, 3) := by decide +kernel
theorem dX7_oldest_18 : decode cX7_oldest 18 = .ok (.ifCond .le 5, 3) := by decide +kernel
theorem dX7_oldest_21 : decode cX7_oldest 21 = .ok (.iload_n 1, 1) := by decide +kernel
theorem dX7_oldest_22 : decode cX7_oldest 22 = .ok (.ireturn, 1) := by decide +kernel
theorem dX7_oldest_23 : decode cX7_oldest 23 = .ok (.iinc 1 1, 3) := by decide +kernel
theorem dX7_oldest_26 : decode cX7_oldest 26 = .ok (.goto (-24), 3) := by decide +kernel
theorem dX7_oldest_29 : decode cX7_oldest 29 = .ok (.ldc 92, 2) := by decide +kernel
theorem dX7_oldest_31 : decode cX7_oldest 31 = .ok (.ireturn, 1) := by decide +kernel
theorem dX7_brought_0 : decode cX7_brought 0 = .ok (.iload_n 1, 1) := by decide +kernel
theorem dX7_brought_1 : decode cX7_brought 1 = .ok (.tableswitch 80 0 3 #[31, 44, 60, 75], 31) := by decide +kernel
theorem dX7_brought_32 : decode cX7_brought 32 = .ok (.aload_n 0, 1) := by decide +kernel
theorem dX7_brought_33 : decode cX7_brought 33 = .ok (.getfield 7, 3) := by decide +kernel
theorem dX7_brought_36 : decode cX7_brought 36 = .ok (.bipush 10, 2) := by decide +kernel
theorem dX7_brought_38 : decode cX7_brought 38 = .ok (.iaload, 1) := by decide +kernel
theorem dX7_brought_39 : decode cX7_brought 39 = .ok (.aload_n 0, 1) := by decide +kernel
theorem dX7_brought_40 : decode cX7_brought 40 = .ok (.invokevirtual 120, 3) := by decide +kernel
theorem dX7_brought_43 : decode cX7_brought 43 = .ok (.iadd, 1) := by decide +kernel
theorem dX7_brought_44 : decode cX7_brought 44 = .ok (.ireturn, 1) := by decide +kernel
theorem dX7_brought_45 : decode cX7_brought 45 = .ok (.aload_n 0, 1) := by decide +kernel
theorem dX7_brought_46 : decode cX7_brought 46 = .ok (.getfield 7, 3) := by decide +kernel
theorem dX7_brought_49 : decode cX7_brought 49 = .ok (.bipush 12, 2) := by decide +kernel
theorem dX7_brought_51 : decode cX7_brought 51 = .ok (.iaload, 1) := by decide +kernel
theorem dX7_brought_52 : decode cX7_brought 52 = .ok (.aload_n 0, 1) := by decide +kernel
theorem dX7_brought_53 : decode cX7_brought 53 = .ok (.getfield 20, 3) := by decide +kernel
theorem dX7_brought_56 : decode cX7_brought 56 = .ok (.bipush 12, 2) := by decide +kernel
theorem dX7_brought_58 : decode cX7_brought 58 = .ok (.iaload, 1) := by decide +kernel
theorem dX7_brought_59 : decode cX7_brought 59 = .ok (.isub, 1) := by decide +kernel
theorem dX7_brought_60 : decode cX7_brought 60 = .ok (.ireturn, 1) := by decide +kernel
theorem dX7_brought_61 : decode cX7_brought 61 = .ok (.aload_n 0, 1) := by decide +kernel
theorem dX7_brought_62 : decode cX7_brought 62 = .ok (.getfield 16, 3) := by decide +kernel
theorem dX7_brought_65 : decode cX7_brought 65 = .ok (.iconst 2, 1) := by decide +kernel
theorem dX7_brought_66 : decode cX7_brought 66 = .ok (.laload, 1) := by decide +kernel
theorem dX7_brought_67 : decode cX7_brought 67 = .ok (.aload_n 0, 1) := by decide +kernel
theorem dX7_brought_68 : decode cX7_brought 68 = .ok (.getfield 26, 3) := by decide +kernel
theorem dX7_brought_71 : decode cX7_brought 71 = .ok (.iconst 2, 1) := by decide +kernel
theorem dX7_brought_72 : decode cX7_brought 72 = .ok (.laload, 1) := by decide +kernel
theorem dX7_brought_73 : decode cX7_brought 73 = .ok (.lsub, 1) := by decide +kernel
theorem dX7_brought_74 : decode cX7_brought 74 = .ok (.l2i, 1) := by decide +kernel
theorem dX7_brought_75 : decode cX7_brought 75 = .ok (.ireturn, 1) := by decide +kernel
theorem dX7_brought_76 : decode cX7_brought 76 = .ok (.aload_n 0, 1) := by decide +kernel
theorem dX7_brought_77 : decode cX7_brought 77 = .ok (.invokevirtual 130, 3) := by decide +kernel
theorem dX7_brought_80 : decode cX7_brought 80 = .ok (.ireturn, 1) := by decide +kernel
theorem dX7_brought_81 : decode cX7_brought 81 = .ok (.aload_n 0, 1) := by decide +kernel
theorem dX7_brought_82 : decode cX7_brought 82 = .ok (.invokevirtual 172, 3) := by decide +kernel
theorem dX7_brought_85 : decode cX7_brought 85 = .ok (.ireturn, 1) := by decide +kernel
theorem dX7_ifYears_0 : decode cX7_ifYears 0 = .ok (.iload_n 1, 1) := by decide +kernel
theorem dX7_ifYears_1 : decode cX7_ifYears 1 = .ok (.iconst 1, 1) := by decide +kernel
theorem dX7_ifYears_2 : decode cX7_ifYears 2 = .ok (.bipush 100, 2) := by decide +kernel
theorem dX7_ifYears_4 : decode cX7_ifYears 4 = .ok (.invokestatic 60, 3) := by decide +kernel
theorem dX7_ifYears_7 : decode cX7_ifYears 7 = .ok (.ifCond .eq 12, 3) := by decide +kernel
theorem dX7_ifYears_10 : decode cX7_ifYears 10 = .ok (.iload_n 2, 1) := by decide +kernel
theorem dX7_ifYears_11 : decode cX7_ifYears 11 = .ok (.iconst 0, 1) := by decide +kernel
theorem dX7_ifYears_12 : decode cX7_ifYears 12 = .ok (.iconst 4, 1) := by decide +kernel
theorem dX7_ifYears_13 : decode cX7_ifYears 13 = .ok (.invokestatic 60, 3) := by decide +kernel
theorem dX7_ifYears_16 : decode cX7_ifYears 16 = .ok (.ifCond .ne 6, 3) := by decide +kernel
theorem dX7_ifYears_19 : decode cX7_ifYears 19 = .ok (.ldc 69, 2) := by decide +kernel
theorem dX7_ifYears_21 : decode cX7_ifYears 21 = .ok (.ireturn, 1) := by decide +kernel
theorem dX7_ifYears_22 : decode cX7_ifYears 22 = .ok (.aload_n 0, 1) := by decide +kernel
theorem dX7_ifYears_23 : decode cX7_ifYears 23 = .ok (.getfield 7, 3) := by decide +kernel
theorem dX7_ifYears_26 : decode cX7_ifYears 26 = .ok (.bipush 8, 2) := by decide +kernel
theorem dX7_ifYears_28 : decode cX7_ifYears 28 = .ok (.iaload, 1) := by decide +kernel
theorem dX7_ifYears_29 : decode cX7_ifYears 29 = .ok (.ifCond .ne 6, 3) := by decide +kernel
theorem dX7_ifYears_32 : decode cX7_ifYears 32 = .ok (.ldc 59, 2) := by decide +kernel
theorem dX7_ifYears_34 : decode cX7_ifYears 34 = .ok (.ireturn, 1) := by decide +kernel
theorem dX7_ifYears_35 : decode cX7_ifYears 35 = .ok (.aload_n 0, 1) := by decide +kernel
theorem dX7_ifYears_36 : decode cX7_ifYears 36 = .ok (.invokevirtual 175, 3) := by decide +kernel
theorem dX7_ifYears_39 : decode cX7_ifYears 39 = .ok (.aload_n 0, 1) := by decide +kernel
theorem dX7_ifYears_40 : decode cX7_ifYears 40 = .ok (.iload_n 1, 1) := by decide +kernel
theorem dX7_ifYears_41 : decode cX7_ifYears 41 = .ok (.invokevirtual 169, 3) := by decide +kernel
theorem dX7_ifYears_44 : decode cX7_ifYears 44 = .ok (.aload_n 0, 1) := by decide +kernel
theorem dX7_ifYears_45 : decode cX7_ifYears 45 = .ok (.iload_n 2, 1) := by decide +kernel
theorem dX7_ifYears_46 : decode cX7_ifYears 46 = .ok (.invokevirtual 178, 3) := by decide +kernel
theorem dX7_ifYears_49 : decode cX7_ifYears 49 = .ok (.istore_n 3, 1) := by decide +kernel
theorem dX7_ifYears_50 : decode cX7_ifYears 50 = .ok (.aload_n 0, 1) := by decide +kernel
theorem dX7_ifYears_51 : decode cX7_ifYears 51 = .ok (.invokevirtual 181, 3) := by decide +kernel
theorem dX7_ifYears_54 : decode cX7_ifYears 54 = .ok (.iload_n 3, 1) := by decide +kernel
theorem dX7_ifYears_55 : decode cX7_ifYears 55 = .ok (.ireturn, 1) := by decide +kernel
theorem dX7_isSo_0 : decode cX7_isSo 0 = .ok (.iload_n 1, 1) := by decide +kernel
theorem dX7_isSo_1 : decode cX7_isSo 1 = .ok (.ifCond .ne 22, 3) := by decide +kernel
theorem dX7_isSo_4 : decode cX7_isSo 4 = .ok (.aload_n 0, 1) := by decide +kernel
theorem dX7_isSo_5 : decode cX7_isSo 5 = .ok (.getfield 7, 3) := by decide +kernel
theorem dX7_isSo_8 : decode cX7_isSo 8 = .ok (.bipush 12, 2) := by decide +kernel
theorem dX7_isSo_10 : decode cX7_isSo 10 = .ok (.iaload, 1) := by decide +kernel
theorem dX7_isSo_11 : decode cX7_isSo 11 = .ok (.iload_n 2, 1) := by decide +kernel
theorem dX7_isSo_12 : decode cX7_isSo 12 = .ok (.if_icmp .le 7, 3) := by decide +kernel
theorem dX7_isSo_15 : decode cX7_isSo 15 = .ok (.iconst 1, 1) := by decide +kernel
theorem dX7_isSo_16 : decode cX7_isSo 16 = .ok (.goto 39, 3) := by decide +kernel
theorem dX7_isSo_19 : decode cX7_isSo 19 = .ok (.iconst 0, 1) := by decide +kernel
theorem dX7_isSo_20 : decode cX7_isSo 20 = .ok (.goto 35, 3) := by decide +kernel
theorem dX7_isSo_23 : decode cX7_isSo 23 = .ok (.iload_n 1, 1) := by decide +kernel
theorem dX7_isSo_24 : decode cX7_isSo 24 = .ok (.iconst 1, 1) := by decide +kernel
theorem dX7_isSo_25 : decode cX7_isSo 25 = .ok (.if_icmp .ne 18, 3) := by decide +kernel
theorem dX7_isSo_28 : decode cX7_isSo 28 = .ok (.aload_n 0, 1) := by decide +kernel
theorem dX7_isSo_29 : decode cX7_isSo 29 = .ok (.invokevirtual 120, 3) := by decide +kernel
theorem dX7_isSo_32 : decode cX7_isSo 32 = .ok (.ifCond .ne 7, 3) := by decide +kernel
theorem dX7_isSo_35 : decode cX7_isSo 35 = .ok (.iconst 1, 1) := by decide +kernel
theorem dX7_isSo_36 : decode cX7_isSo 36 = .ok (.goto 19, 3) := by decide +kernel
theorem dX7_isSo_39 : decode cX7_isSo 39 = .ok (.iconst 0, 1) := by decide +kernel
theorem dX7_isSo_40 : decode cX7_isSo 40 = .ok (.goto 15, 3) := by decide +kernel
theorem dX7_isSo_43 : decode cX7_isSo 43 = .ok (.aload_n 0, 1) := by decide +kernel
theorem dX7_isSo_44 : decode cX7_isSo 44 = .ok (.invokevirtual 130, 3) := by decide +kernel
theorem dX7_isSo_47 : decode cX7_isSo 47 = .ok (.ifCond .ne 7, 3) := by decide +kernel
theorem dX7_isSo_50 : decode cX7_isSo 50 = .ok (.iconst 1, 1) := by decide +kernel
theorem dX7_isSo_51 : decode cX7_isSo 51 = .ok (.goto 4, 3) := by decide +kernel
theorem dX7_isSo_54 : decode cX7_isSo 54 = .ok (.iconst 0, 1) := by decide +kernel
theorem dX7_isSo_55 : decode cX7_isSo 55 = .ok (.ireturn, 1) := by decide +kernel
theorem dX7_yearsTo_0 : decode cX7_yearsTo 0 = .ok (.iload_n 1, 1) := by decide +kernel
theorem dX7_yearsTo_1 : decode cX7_yearsTo 1 = .ok (.iconst 0, 1) := by decide +kernel
theorem dX7_yearsTo_2 : decode cX7_yearsTo 2 = .ok (.iconst 2, 1) := by decide +kernel
theorem dX7_yearsTo_3 : decode cX7_yearsTo 3 = .ok (.invokestatic 60, 3) := by decide +kernel
theorem dX7_yearsTo_6 : decode cX7_yearsTo 6 = .ok (.ifCond .ne 6, 3) := by decide +kernel
theorem dX7_yearsTo_9 : decode cX7_yearsTo 9 = .ok (.ldc 69, 2) := by decide +kernel
theorem dX7_yearsTo_11 : decode cX7_yearsTo 11 = .ok (.ireturn, 1) := by decide +kernel
theorem dX7_yearsTo_12 : decode cX7_yearsTo 12 = .ok (.aload_n 0, 1) := by decide +kernel
theorem dX7_yearsTo_13 : decode cX7_yearsTo 13 = .ok (.getfield 7, 3) := by decide +kernel
theorem dX7_yearsTo_16 : decode cX7_yearsTo 16 = .ok (.bipush 8, 2) := by decide +kernel
theorem dX7_yearsTo_18 : decode cX7_yearsTo 18 = .ok (.iaload, 1) := by decide +kernel
theorem dX7_yearsTo_19 : decode cX7_yearsTo 19 = .ok (.ifCond .ne 6, 3) := by decide +kernel
theorem dX7_yearsTo_22 : decode cX7_yearsTo 22 = .ok (.ldc 59, 2) := by decide +kernel
theorem dX7_yearsTo_24 : decode cX7_yearsTo 24 = .ok (.ireturn, 1) := by decide +kernel
theorem dX7_yearsTo_25 : decode cX7_yearsTo 25 = .ok (.aload_n 0, 1) := by decide +kernel
theorem dX7_yearsTo_26 : decode cX7_yearsTo 26 = .ok (.invokevirtual 175, 3) := by decide +kernel
theorem dX7_yearsTo_29 : decode cX7_yearsTo 29 = .ok (.ldc 92, 2) := by decide +kernel
theorem dX7_yearsTo_31 : decode cX7_yearsTo 31 = .ok (.istore_n 2, 1) := by decide +kernel
theorem dX7_yearsTo_32 : decode cX7_yearsTo 32 = .ok (.iconst 1, 1) := by decide +kernel
theorem dX7_yearsTo_33 : decode cX7_yearsTo 33 = .ok (.istore_n 3, 1) := by decide +kernel
theorem dX7_yearsTo_34 : decode cX7_yearsTo 34 = .ok (.iload_n 3, 1) := by decide +kernel
theorem dX7_yearsTo_35 : decode cX7_yearsTo 35 = .ok (.sipush 300, 3) := by decide +kernel
theorem dX7_yearsTo_38 : decode cX7_yearsTo 38 = .ok (.if_icmp .gt 45, 3) := by decide +kernel
theorem dX7_yearsTo_41 : decode cX7_yearsTo 41 = .ok (.iload_n 2, 1) := by decide +kernel
theorem dX7_yearsTo_42 : decode cX7_yearsTo 42 = .ok (.ldc 92, 2) := by decide +kernel
theorem dX7_yearsTo_44 : decode cX7_yearsTo 44 = .ok (.if_icmp .ne 39, 3) := by decide +kernel
theorem dX7_yearsTo_47 : decode cX7_yearsTo 47 = .ok (.aload_n 0, 1) := by decide +kernel
theorem dX7_yearsTo_48 : decode cX7_yearsTo 48 = .ok (.getfield 7, 3) := by decide +kernel
theorem dX7_yearsTo_51 : decode cX7_yearsTo 51 = .ok (.bipush 12, 2) := by decide +kernel
theorem dX7_yearsTo_53 : decode cX7_yearsTo 53 = .ok (.iaload, 1) := by decide +kernel
theorem dX7_yearsTo_54 : decode cX7_yearsTo 54 = .ok (.istore 4, 2) := by decide +kernel
theorem dX7_yearsTo_56 : decode cX7_yearsTo 56 = .ok (.aload_n 0, 1) := by decide +kernel
theorem dX7_yearsTo_57 : decode cX7_yearsTo 57 = .ok (.invokevirtual 166, 3) := by decide +kernel
theorem dX7_yearsTo_60 : decode cX7_yearsTo 60 = .ok (.aload_n 0, 1) := by decide +kernel
theorem dX7_yearsTo_61 : decode cX7_yearsTo 61 = .ok (.iload_n 1, 1) := by decide +kernel
theorem dX7_yearsTo_62 : decode cX7_yearsTo 62 = .ok (.iload 4, 2) := by decide +kernel
theorem dX7_yearsTo_64 : decode cX7_yearsTo 64 = .ok (.invokevirtual 184, 3) := by decide +kernel
theorem dX7_yearsTo_67 : decode cX7_yearsTo 67 = .ok (.ifCond .eq 7, 3) := by decide +kernel
theorem dX7_yearsTo_70 : decode cX7_yearsTo 70 = .ok (.iload_n 3, 1) := by decide +kernel
theorem dX7_yearsTo_71 : decode cX7_yearsTo 71 = .ok (.goto 5, 3) := by decide +kernel
theorem dX7_yearsTo_74 : decode cX7_yearsTo 74 = .ok (.ldc 92, 2) := by decide +kernel
theorem dX7_yearsTo_76 : decode cX7_yearsTo 76 = .ok (.istore_n 2, 1) := by decide +kernel
theorem dX7_yearsTo_77 : decode cX7_yearsTo 77 = .ok (.iinc 3 1, 3) := by decide +kernel
theorem dX7_yearsTo_80 : decode cX7_yearsTo 80 = .ok (.goto (-46), 3) := by decide +kernel
theorem dX7_yearsTo_83 : decode cX7_yearsTo 83 = .ok (.aload_n 0, 1) := by decide +kernel
theorem dX7_yearsTo_84 : decode cX7_yearsTo 84 = .ok (.invokevirtual 181, 3) := by decide +kernel
theorem dX7_yearsTo_87 : decode cX7_yearsTo 87 = .ok (.iload_n 2, 1) := by decide +kernel
theorem dX7_yearsTo_88 : decode cX7_yearsTo 88 = .ok (.ireturn, 1) := by decide +kernel
theorem dX7_isSteady_0 : decode cX7_isSteady 0 = .ok (.lconst 0, 1) := by decide +kernel
theorem dX7_isSteady_1 : decode cX7_isSteady 1 = .ok (.lstore_n 1, 1) := by decide +kernel
theorem dX7_isSteady_2 : decode cX7_isSteady 2 = .ok (.iconst 0, 1) := by decide +kernel
theorem dX7_isSteady_3 : decode cX7_isSteady 3 = .ok (.istore_n 3, 1) := by decide +kernel
theorem dX7_isSteady_4 : decode cX7_isSteady 4 = .ok (.iload_n 3, 1) := by decide +kernel
theorem dX7_isSteady_5 : decode cX7_isSteady 5 = .ok (.aload_n 0, 1) := by decide +kernel
theorem dX7_isSteady_6 : decode cX7_isSteady 6 = .ok (.getfield 7, 3) := by decide +kernel
theorem dX7_isSteady_9 : decode cX7_isSteady 9 = .ok (.bipush 8, 2) := by decide +kernel
theorem dX7_isSteady_11 : decode cX7_isSteady 11 = .ok (.iaload, 1) := by decide +kernel
theorem dX7_isSteady_12 : decode cX7_isSteady 12 = .ok (.if_icmp .ge 24, 3) := by decide +kernel
theorem dX7_isSteady_15 : decode cX7_isSteady 15 = .ok (.lload_n 1, 1) := by decide +kernel
theorem dX7_isSteady_16 : decode cX7_isSteady 16 = .ok (.aload_n 0, 1) := by decide +kernel
theorem dX7_isSteady_17 : decode cX7_isSteady 17 = .ok (.iload_n 3, 1) := by decide +kernel
theorem dX7_isSteady_18 : decode cX7_isSteady 18 = .ok (.invokevirtual 106, 3) := by decide +kernel
theorem dX7_isSteady_21 : decode cX7_isSteady 21 = .ok (.aload_n 0, 1) := by decide +kernel
theorem dX7_isSteady_22 : decode cX7_isSteady 22 = .ok (.iload_n 3, 1) := by decide +kernel
theorem dX7_isSteady_23 : decode cX7_isSteady 23 = .ok (.invokevirtual 109, 3) := by decide +kernel
theorem dX7_isSteady_26 : decode cX7_isSteady 26 = .ok (.isub, 1) := by decide +kernel
theorem dX7_isSteady_27 : decode cX7_isSteady 27 = .ok (.i2l, 1) := by decide +kernel
theorem dX7_isSteady_28 : decode cX7_isSteady 28 = .ok (.ladd, 1) := by decide +kernel
theorem dX7_isSteady_29 : decode cX7_isSteady 29 = .ok (.lstore_n 1, 1) := by decide +kernel
theorem dX7_isSteady_30 : decode cX7_isSteady 30 = .ok (.iinc 3 1, 3) := by decide +kernel
theorem dX7_isSteady_33 : decode cX7_isSteady 33 = .ok (.goto (-29), 3) := by decide +kernel
theorem dX7_isSteady_36 : decode cX7_isSteady 36 = .ok (.lload_n 1, 1) := by decide +kernel
theorem dX7_isSteady_37 : decode cX7_isSteady 37 = .ok (.lconst 0, 1) := by decide +kernel
theorem dX7_isSteady_38 : decode cX7_isSteady 38 = .ok (.lcmp, 1) := by decide +kernel
theorem dX7_isSteady_39 : decode cX7_isSteady 39 = .ok (.ifCond .lt 7, 3) := by decide +kernel
theorem dX7_isSteady_42 : decode cX7_isSteady 42 = .ok (.iconst 1, 1) := by decide +kernel
theorem dX7_isSteady_43 : decode cX7_isSteady 43 = .ok (.goto 4, 3) := by decide +kernel
theorem dX7_isSteady_46 : decode cX7_isSteady 46 = .ok (.iconst 0, 1) := by decide +kernel
theorem dX7_isSteady_47 : decode cX7_isSteady 47 = .ok (.ireturn, 1) := by decide +kernel
theorem dX7_steadyMelt_0 : decode cX7_steadyMelt 0 = .ok (.aload_n 0, 1) := by decide +kernel
theorem dX7_steadyMelt_1 : decode cX7_steadyMelt 1 = .ok (.getfield 7, 3) := by decide +kernel
theorem dX7_steadyMelt_4 : decode cX7_steadyMelt 4 = .ok (.bipush 8, 2) := by decide +kernel
theorem dX7_steadyMelt_6 : decode cX7_steadyMelt 6 = .ok (.iaload, 1) := by decide +kernel
theorem dX7_steadyMelt_7 : decode cX7_steadyMelt 7 = .ok (.ifCond .ne 6, 3) := by decide +kernel
theorem dX7_steadyMelt_10 : decode cX7_steadyMelt 10 = .ok (.ldc 59, 2) := by decide +kernel
theorem dX7_steadyMelt_12 : decode cX7_steadyMelt 12 = .ok (.ireturn, 1) := by decide +kernel
theorem dX7_steadyMelt_13 : decode cX7_steadyMelt 13 = .ok (.aload_n 0, 1) := by decide +kernel
theorem dX7_steadyMelt_14 : decode cX7_steadyMelt 14 = .ok (.getfield 7, 3) := by decide +kernel
theorem dX7_steadyMelt_17 : decode cX7_steadyMelt 17 = .ok (.iconst 2, 1) := by decide +kernel
theorem dX7_steadyMelt_18 : decode cX7_steadyMelt 18 = .ok (.iaload, 1) := by decide +kernel
theorem dX7_steadyMelt_19 : decode cX7_steadyMelt 19 = .ok (.istore_n 1, 1) := by decide +kernel
theorem dX7_steadyMelt_20 : decode cX7_steadyMelt 20 = .ok (.aload_n 0, 1) := by decide +kernel
theorem dX7_steadyMelt_21 : decode cX7_steadyMelt 21 = .ok (.getfield 7, 3) := by decide +kernel
theorem dX7_steadyMelt_24 : decode cX7_steadyMelt 24 = .ok (.iconst 2, 1) := by decide +kernel
theorem dX7_steadyMelt_25 : decode cX7_steadyMelt 25 = .ok (.sipush 9000, 3) := by decide +kernel
theorem dX7_steadyMelt_28 : decode cX7_steadyMelt 28 = .ok (.iastore, 1) := by decide +kernel
theorem dX7_steadyMelt_29 : decode cX7_steadyMelt 29 = .ok (.aload_n 0, 1) := by decide +kernel
theorem dX7_steadyMelt_30 : decode cX7_steadyMelt 30 = .ok (.getfield 7, 3) := by decide +kernel
theorem dX7_steadyMelt_33 : decode cX7_steadyMelt 33 = .ok (.iconst 2, 1) := by decide +kernel
theorem dX7_steadyMelt_34 : decode cX7_steadyMelt 34 = .ok (.iaload, 1) := by decide +kernel
theorem dX7_steadyMelt_35 : decode cX7_steadyMelt 35 = .ok (.ifCond .lt 23, 3) := by decide +kernel
theorem dX7_steadyMelt_38 : decode cX7_steadyMelt 38 = .ok (.aload_n 0, 1) := by decide +kernel
theorem dX7_steadyMelt_39 : decode cX7_steadyMelt 39 = .ok (.invokevirtual 187, 3) := by decide +kernel
theorem dX7_steadyMelt_42 : decode cX7_steadyMelt 42 = .ok (.ifCond .ne 16, 3) := by decide +kernel
theorem dX7_steadyMelt_45 : decode cX7_steadyMelt 45 = .ok (.aload_n 0, 1) := by decide +kernel
theorem dX7_steadyMelt_46 : decode cX7_steadyMelt 46 = .ok (.getfield 7, 3) := by decide +kernel
theorem dX7_steadyMelt_49 : decode cX7_steadyMelt 49 = .ok (.iconst 2, 1) := by decide +kernel
theorem dX7_steadyMelt_50 : decode cX7_steadyMelt 50 = .ok (.dup2, 1) := by decide +kernel
theorem dX7_steadyMelt_51 : decode cX7_steadyMelt 51 = .ok (.iaload, 1) := by decide +kernel
theorem dX7_steadyMelt_52 : decode cX7_steadyMelt 52 = .ok (.iconst 1, 1) := by decide +kernel
theorem dX7_steadyMelt_53 : decode cX7_steadyMelt 53 = .ok (.isub, 1) := by decide +kernel
theorem dX7_steadyMelt_54 : decode cX7_steadyMelt 54 = .ok (.iastore, 1) := by decide +kernel
theorem dX7_steadyMelt_55 : decode cX7_steadyMelt 55 = .ok (.goto (-26), 3) := by decide +kernel
theorem dX7_steadyMelt_58 : decode cX7_steadyMelt 58 = .ok (.aload_n 0, 1) := by decide +kernel
theorem dX7_steadyMelt_59 : decode cX7_steadyMelt 59 = .ok (.getfield 7, 3) := by decide +kernel
theorem dX7_steadyMelt_62 : decode cX7_steadyMelt 62 = .ok (.iconst 2, 1) := by decide +kernel
theorem dX7_steadyMelt_63 : decode cX7_steadyMelt 63 = .ok (.iaload, 1) := by decide +kernel
theorem dX7_steadyMelt_64 : decode cX7_steadyMelt 64 = .ok (.istore_n 2, 1) := by decide +kernel
theorem dX7_steadyMelt_65 : decode cX7_steadyMelt 65 = .ok (.aload_n 0, 1) := by decide +kernel
theorem dX7_steadyMelt_66 : decode cX7_steadyMelt 66 = .ok (.getfield 7, 3) := by decide +kernel
theorem dX7_steadyMelt_69 : decode cX7_steadyMelt 69 = .ok (.iconst 2, 1) := by decide +kernel
theorem dX7_steadyMelt_70 : decode cX7_steadyMelt 70 = .ok (.iload_n 1, 1) := by decide +kernel
theorem dX7_steadyMelt_71 : decode cX7_steadyMelt 71 = .ok (.iastore, 1) := by decide +kernel
theorem dX7_steadyMelt_72 : decode cX7_steadyMelt 72 = .ok (.iload_n 2, 1) := by decide +kernel
theorem dX7_steadyMelt_73 : decode cX7_steadyMelt 73 = .ok (.ifCond .ge 8, 3) := by decide +kernel
theorem dX7_steadyMelt_76 : decode cX7_steadyMelt 76 = .ok (.ldc 92, 2) := by decide +kernel
theorem dX7_steadyMelt_78 : decode cX7_steadyMelt 78 = .ok (.goto 4, 3) := by decide +kernel
theorem dX7_steadyMelt_81 : decode cX7_steadyMelt 81 = .ok (.iload_n 2, 1) := by decide +kernel
theorem dX7_steadyMelt_82 : decode cX7_steadyMelt 82 = .ok (.ireturn, 1) := by decide +kernel
theorem dX7_type_0 : decode cX7_type 0 = .ok (.iload_n 1, 1) := by decide +kernel
theorem dX7_type_1 : decode cX7_type 1 = .ok (.bipush 32, 2) := by decide +kernel
theorem dX7_type_3 : decode cX7_type 3 = .ok (.bipush 126, 2) := by decide +kernel
theorem dX7_type_5 : decode cX7_type 5 = .ok (.invokestatic 60, 3) := by decide +kernel
theorem dX7_type_8 : decode cX7_type 8 = .ok (.ifCond .ne 6, 3) := by decide +kernel
theorem dX7_type_11 : decode cX7_type 11 = .ok (.ldc 69, 2) := by decide +kernel
theorem dX7_type_13 : decode cX7_type 13 = .ok (.ireturn, 1) := by decide +kernel
theorem dX7_type_14 : decode cX7_type 14 = .ok (.aload_n 0, 1) := by decide +kernel
theorem dX7_type_15 : decode cX7_type 15 = .ok (.getfield 139, 3) := by decide +kernel
theorem dX7_type_18 : decode cX7_type 18 = .ok (.bipush 60, 2) := by decide +kernel
theorem dX7_type_20 : decode cX7_type 20 = .ok (.if_icmp .ne 6, 3) := by decide +kernel
theorem dX7_type_23 : decode cX7_type 23 = .ok (.ldc 76, 2) := by decide +kernel
theorem dX7_type_25 : decode cX7_type 25 = .ok (.ireturn, 1) := by decide +kernel
theorem dX7_type_26 : decode cX7_type 26 = .ok (.aload_n 0, 1) := by decide +kernel
theorem dX7_type_27 : decode cX7_type 27 = .ok (.getfield 41, 3) := by decide +kernel
theorem dX7_type_30 : decode cX7_type 30 = .ok (.aload_n 0, 1) := by decide +kernel
theorem dX7_type_31 : decode cX7_type 31 = .ok (.getfield 139, 3) := by decide +kernel
theorem dX7_type_34 : decode cX7_type 34 = .ok (.iload_n 1, 1) := by decide +kernel
theorem dX7_type_35 : decode cX7_type 35 = .ok (.iastore, 1) := by decide +kernel
theorem dX7_type_36 : decode cX7_type 36 = .ok (.aload_n 0, 1) := by decide +kernel
theorem dX7_type_37 : decode cX7_type 37 = .ok (.dup, 1) := by decide +kernel
theorem dX7_type_38 : decode cX7_type 38 = .ok (.getfield 139, 3) := by decide +kernel
theorem dX7_type_41 : decode cX7_type 41 = .ok (.iconst 1, 1) := by decide +kernel
theorem dX7_type_42 : decode cX7_type 42 = .ok (.iadd, 1) := by decide +kernel
theorem dX7_type_43 : decode cX7_type 43 = .ok (.putfield 139, 3) := by decide +kernel
theorem dX7_type_46 : decode cX7_type 46 = .ok (.aload_n 0, 1) := by decide +kernel
theorem dX7_type_47 : decode cX7_type 47 = .ok (.getfield 139, 3) := by decide +kernel
theorem dX7_type_50 : decode cX7_type 50 = .ok (.ireturn, 1) := by decide +kernel
theorem dX7_clearText_0 : decode cX7_clearText 0 = .ok (.aload_n 0, 1) := by decide +kernel
theorem dX7_clearText_1 : decode cX7_clearText 1 = .ok (.getfield 139, 3) := by decide +kernel
theorem dX7_clearText_4 : decode cX7_clearText 4 = .ok (.istore_n 1, 1) := by decide +kernel
theorem dX7_clearText_5 : decode cX7_clearText 5 = .ok (.aload_n 0, 1) := by decide +kernel
theorem dX7_clearText_6 : decode cX7_clearText 6 = .ok (.iconst 0, 1) := by decide +kernel
theorem dX7_clearText_7 : decode cX7_clearText 7 = .ok (.putfield 139, 3) := by decide +kernel
theorem dX7_clearText_10 : decode cX7_clearText 10 = .ok (.iload_n 1, 1) := by decide +kernel
theorem dX7_clearText_11 : decode cX7_clearText 11 = .ok (.ireturn, 1) := by decide +kernel
theorem dX7_here_0 : decode cX7_here 0 = .ok (.aload_n 0, 1) := by decide +kernel
theorem dX7_here_1 : decode cX7_here 1 = .ok (.getfield 191, 3) := by decide +kernel
theorem dX7_here_4 : decode cX7_here 4 = .ok (.aload_n 0, 1) := by decide +kernel
theorem dX7_here_5 : decode cX7_here 5 = .ok (.getfield 139, 3) := by decide +kernel
theorem dX7_here_8 : decode cX7_here 8 = .ok (.if_icmp .ge 15, 3) := by decide +kernel
theorem dX7_here_11 : decode cX7_here 11 = .ok (.aload_n 0, 1) := by decide +kernel
theorem dX7_here_12 : decode cX7_here 12 = .ok (.getfield 41, 3) := by decide +kernel
theorem dX7_here_15 : decode cX7_here 15 = .ok (.aload_n 0, 1) := by decide +kernel
theorem dX7_here_16 : decode cX7_here 16 = .ok (.getfield 191, 3) := by decide +kernel
theorem dX7_here_19 : decode cX7_here 19 = .ok (.iaload, 1) := by decide +kernel
theorem dX7_here_20 : decode cX7_here 20 = .ok (.goto 4, 3) := by decide +kernel
theorem dX7_here_23 : decode cX7_here 23 = .ok (.iconst (-1), 1) := by decide +kernel
theorem dX7_here_24 : decode cX7_here 24 = .ok (.ireturn, 1) := by decide +kernel
theorem dX7_readNumber_0 : decode cX7_readNumber 0 = .ok (.aload_n 0, 1) := by decide +kernel
theorem dX7_readNumber_1 : decode cX7_readNumber 1 = .ok (.getfield 191, 3) := by decide +kernel
theorem dX7_readNumber_4 : decode cX7_readNumber 4 = .ok (.istore_n 2, 1) := by decide +kernel
theorem dX7_readNumber_5 : decode cX7_readNumber 5 = .ok (.aload_n 0, 1) := by decide +kernel
theorem dX7_readNumber_6 : decode cX7_readNumber 6 = .ok (.iconst 0, 1) := by decide +kernel
theorem dX7_readNumber_7 : decode cX7_readNumber 7 = .ok (.putfield 194, 3) := by decide +kernel
theorem dX7_readNumber_10 : decode cX7_readNumber 10 = .ok (.aload_n 0, 1) := by decide +kernel
theorem dX7_readNumber_11 : decode cX7_readNumber 11 = .ok (.getfield 191, 3) := by decide +kernel
theorem dX7_readNumber_14 : decode cX7_readNumber 14 = .ok (.iload_n 2, 1) := by decide +kernel
theorem dX7_readNumber_15 : decode cX7_readNumber 15 = .ok (.iconst 4, 1) := by decide +kernel
theorem dX7_readNumber_16 : decode cX7_readNumber 16 = .ok (.iadd, 1) := by decide +kernel
theorem dX7_readNumber_17 : decode cX7_readNumber 17 = .ok (.if_icmp .ge 49, 3) := by decide +kernel
theorem dX7_readNumber_20 : decode cX7_readNumber 20 = .ok (.aload_n 0, 1) := by decide +kernel
theorem dX7_readNumber_21 : decode cX7_readNumber 21 = .ok (.invokevirtual 197, 3) := by decide +kernel
theorem dX7_readNumber_24 : decode cX7_readNumber 24 = .ok (.bipush 48, 2) := by decide +kernel
theorem dX7_readNumber_26 : decode cX7_readNumber 26 = .ok (.bipush 57, 2) := by decide +kernel
theorem dX7_readNumber_28 : decode cX7_readNumber 28 = .ok (.invokestatic 60, 3) := by decide +kernel
theorem dX7_readNumber_31 : decode cX7_readNumber 31 = .ok (.ifCond .eq 35, 3) := by decide +kernel
theorem dX7_readNumber_34 : decode cX7_readNumber 34 = .ok (.aload_n 0, 1) := by decide +kernel
theorem dX7_readNumber_35 : decode cX7_readNumber 35 = .ok (.bipush 10, 2) := by decide +kernel
theorem dX7_readNumber_37 : decode cX7_readNumber 37 = .ok (.aload_n 0, 1) := by decide +kernel
theorem dX7_readNumber_38 : decode cX7_readNumber 38 = .ok (.getfield 194, 3) := by decide +kernel
theorem dX7_readNumber_41 : decode cX7_readNumber 41 = .ok (.imul, 1) := by decide +kernel
theorem dX7_readNumber_42 : decode cX7_readNumber 42 = .ok (.aload_n 0, 1) := by decide +kernel
theorem dX7_readNumber_43 : decode cX7_readNumber 43 = .ok (.invokevirtual 197, 3) := by decide +kernel
theorem dX7_readNumber_46 : decode cX7_readNumber 46 = .ok (.iadd, 1) := by decide +kernel
theorem dX7_readNumber_47 : decode cX7_readNumber 47 = .ok (.bipush 48, 2) := by decide +kernel
theorem dX7_readNumber_49 : decode cX7_readNumber 49 = .ok (.isub, 1) := by decide +kernel
theorem dX7_readNumber_50 : decode cX7_readNumber 50 = .ok (.putfield 194, 3) := by decide +kernel
theorem dX7_readNumber_53 : decode cX7_readNumber 53 = .ok (.aload_n 0, 1) := by decide +kernel
theorem dX7_readNumber_54 : decode cX7_readNumber 54 = .ok (.dup, 1) := by decide +kernel
theorem dX7_readNumber_55 : decode cX7_readNumber 55 = .ok (.getfield 191, 3) := by decide +kernel
theorem dX7_readNumber_58 : decode cX7_readNumber 58 = .ok (.iconst 1, 1) := by decide +kernel
theorem dX7_readNumber_59 : decode cX7_readNumber 59 = .ok (.iadd, 1) := by decide +kernel
theorem dX7_readNumber_60 : decode cX7_readNumber 60 = .ok (.putfield 191, 3) := by decide +kernel
theorem dX7_readNumber_63 : decode cX7_readNumber 63 = .ok (.goto (-53), 3) := by decide +kernel
theorem dX7_readNumber_66 : decode cX7_readNumber 66 = .ok (.aload_n 0, 1) := by decide +kernel
theorem dX7_readNumber_67 : decode cX7_readNumber 67 = .ok (.getfield 191, 3) := by decide +kernel
theorem dX7_readNumber_70 : decode cX7_readNumber 70 = .ok (.iload_n 2, 1) := by decide +kernel
theorem dX7_readNumber_71 : decode cX7_readNumber 71 = .ok (.if_icmp .le 15, 3) := by decide +kernel
theorem dX7_readNumber_74 : decode cX7_readNumber 74 = .ok (.aload_n 0, 1) := by decide +kernel
theorem dX7_readNumber_75 : decode cX7_readNumber 75 = .ok (.invokevirtual 197, 3) := by decide +kernel
theorem dX7_readNumber_78 : decode cX7_readNumber 78 = .ok (.iload_n 1, 1) := by decide +kernel
theorem dX7_readNumber_79 : decode cX7_readNumber 79 = .ok (.if_icmp .ne 7, 3) := by decide +kernel
theorem dX7_readNumber_82 : decode cX7_readNumber 82 = .ok (.iconst 1, 1) := by decide +kernel
theorem dX7_readNumber_83 : decode cX7_readNumber 83 = .ok (.goto 4, 3) := by decide +kernel
theorem dX7_readNumber_86 : decode cX7_readNumber 86 = .ok (.iconst 0, 1) := by decide +kernel
theorem dX7_readNumber_87 : decode cX7_readNumber 87 = .ok (.istore_n 3, 1) := by decide +kernel
theorem dX7_readNumber_88 : decode cX7_readNumber 88 = .ok (.aload_n 0, 1) := by decide +kernel
theorem dX7_readNumber_89 : decode cX7_readNumber 89 = .ok (.dup, 1) := by decide +kernel
theorem dX7_readNumber_90 : decode cX7_readNumber 90 = .ok (.getfield 191, 3) := by decide +kernel
theorem dX7_readNumber_93 : decode cX7_readNumber 93 = .ok (.iconst 1, 1) := by decide +kernel
theorem dX7_readNumber_94 : decode cX7_readNumber 94 = .ok (.iadd, 1) := by decide +kernel
theorem dX7_readNumber_95 : decode cX7_readNumber 95 = .ok (.putfield 191, 3) := by decide +kernel
theorem dX7_readNumber_98 : decode cX7_readNumber 98 = .ok (.iload_n 3, 1) := by decide +kernel
theorem dX7_readNumber_99 : decode cX7_readNumber 99 = .ok (.ireturn, 1) := by decide +kernel
theorem dX7_readYear_0 : decode cX7_readYear 0 = .ok (.aload_n 0, 1) := by decide +kernel
theorem dX7_readYear_1 : decode cX7_readYear 1 = .ok (.bipush 44, 2) := by decide +kernel
theorem dX7_readYear_3 : decode cX7_readYear 3 = .ok (.invokevirtual 200, 3) := by decide +kernel
theorem dX7_readYear_6 : decode cX7_readYear 6 = .ok (.ifCond .ne 5, 3) := by decide +kernel
theorem dX7_readYear_9 : decode cX7_readYear 9 = .ok (.iconst 0, 1) := by decide +kernel
theorem dX7_readYear_10 : decode cX7_readYear 10 = .ok (.ireturn, 1) := by decide +kernel
theorem dX7_readYear_11 : decode cX7_readYear 11 = .ok (.aload_n 0, 1) := by decide +kernel
theorem dX7_readYear_12 : decode cX7_readYear 12 = .ok (.aload_n 0, 1) := by decide +kernel
theorem dX7_readYear_13 : decode cX7_readYear 13 = .ok (.getfield 194, 3) := by decide +kernel
theorem dX7_readYear_16 : decode cX7_readYear 16 = .ok (.putfield 203, 3) := by decide +kernel
theorem dX7_readYear_19 : decode cX7_readYear 19 = .ok (.aload_n 0, 1) := by decide +kernel
theorem dX7_readYear_20 : decode cX7_readYear 20 = .ok (.bipush 59, 2) := by decide +kernel
theorem dX7_readYear_22 : decode cX7_readYear 22 = .ok (.invokevirtual 200, 3) := by decide +kernel
theorem dX7_readYear_25 : decode cX7_readYear 25 = .ok (.ireturn, 1) := by decide +kernel
theorem dX7_reason_0 : decode cX7_reason 0 = .ok (.aload_n 0, 1) := by decide +kernel
theorem dX7_reason_1 : decode cX7_reason 1 = .ok (.iconst 0, 1) := by decide +kernel
theorem dX7_reason_2 : decode cX7_reason 2 = .ok (.putfield 191, 3) := by decide +kernel
theorem dX7_reason_5 : decode cX7_reason 5 = .ok (.aload_n 0, 1) := by decide +kernel
theorem dX7_reason_6 : decode cX7_reason 6 = .ok (.getfield 7, 3) := by decide +kernel
theorem dX7_reason_9 : decode cX7_reason 9 = .ok (.bipush 7, 2) := by decide +kernel
theorem dX7_reason_11 : decode cX7_reason 11 = .ok (.iaload, 1) := by decide +kernel
theorem dX7_reason_12 : decode cX7_reason 12 = .ok (.istore_n 1, 1) := by decide +kernel
theorem dX7_reason_13 : decode cX7_reason 13 = .ok (.aload_n 0, 1) := by decide +kernel
theorem dX7_reason_14 : decode cX7_reason 14 = .ok (.getfield 191, 3) := by decide +kernel
theorem dX7_reason_17 : decode cX7_reason 17 = .ok (.aload_n 0, 1) := by decide +kernel
theorem dX7_reason_18 : decode cX7_reason 18 = .ok (.getfield 139, 3) := by decide +kernel
theorem dX7_reason_21 : decode cX7_reason 21 = .ok (.if_icmp .ge 57, 3) := by decide +kernel
theorem dX7_reason_24 : decode cX7_reason 24 = .ok (.aload_n 0, 1) := by decide +kernel
theorem dX7_reason_25 : decode cX7_reason 25 = .ok (.aload_n 0, 1) := by decide +kernel
theorem dX7_reason_26 : decode cX7_reason 26 = .ok (.getfield 191, 3) := by decide +kernel
theorem dX7_reason_29 : decode cX7_reason 29 = .ok (.putfield 206, 3) := by decide +kernel
theorem dX7_reason_32 : decode cX7_reason 32 = .ok (.aload_n 0, 1) := by decide +kernel
theorem dX7_reason_33 : decode cX7_reason 33 = .ok (.invokevirtual 209, 3) := by decide +kernel
theorem dX7_reason_36 : decode cX7_reason 36 = .ok (.ifCond .ne 5, 3) := by decide +kernel
theorem dX7_reason_39 : decode cX7_reason 39 = .ok (.iconst 1, 1) := by decide +kernel
theorem dX7_reason_40 : decode cX7_reason 40 = .ok (.ireturn, 1) := by decide +kernel
theorem dX7_reason_41 : decode cX7_reason 41 = .ok (.aload_n 0, 1) := by decide +kernel
theorem dX7_reason_42 : decode cX7_reason 42 = .ok (.getfield 203, 3) := by decide +kernel
theorem dX7_reason_45 : decode cX7_reason 45 = .ok (.sipush 5000, 3) := by decide +kernel
theorem dX7_reason_48 : decode cX7_reason 48 = .ok (.if_icmp .gt 13, 3) := by decide +kernel
theorem dX7_reason_51 : decode cX7_reason 51 = .ok (.aload_n 0, 1) := by decide +kernel
theorem dX7_reason_52 : decode cX7_reason 52 = .ok (.getfield 194, 3) := by decide +kernel
theorem dX7_reason_55 : decode cX7_reason 55 = .ok (.sipush 9000, 3) := by decide +kernel
theorem dX7_reason_58 : decode cX7_reason 58 = .ok (.if_icmp .le 5, 3) := by decide +kernel
theorem dX7_reason_61 : decode cX7_reason 61 = .ok (.iconst 2, 1) := by decide +kernel
theorem dX7_reason_62 : decode cX7_reason 62 = .ok (.ireturn, 1) := by decide +kernel
theorem dX7_reason_63 : decode cX7_reason 63 = .ok (.iload_n 1, 1) := by decide +kernel
theorem dX7_reason_64 : decode cX7_reason 64 = .ok (.sipush 500, 3) := by decide +kernel
theorem dX7_reason_67 : decode cX7_reason 67 = .ok (.if_icmp .ne 5, 3) := by decide +kernel
theorem dX7_reason_70 : decode cX7_reason 70 = .ok (.iconst 3, 1) := by decide +kernel
theorem dX7_reason_71 : decode cX7_reason 71 = .ok (.ireturn, 1) := by decide +kernel
theorem dX7_reason_72 : decode cX7_reason 72 = .ok (.iinc 1 1, 3) := by decide +kernel
theorem dX7_reason_75 : decode cX7_reason 75 = .ok (.goto (-62), 3) := by decide +kernel
theorem dX7_reason_78 : decode cX7_reason 78 = .ok (.iconst 0, 1) := by decide +kernel
theorem dX7_reason_79 : decode cX7_reason 79 = .ok (.ireturn, 1) := by decide +kernel
theorem dX7_fault_0 : decode cX7_fault 0 = .ok (.iload_n 1, 1) := by decide +kernel
theorem dX7_fault_1 : decode cX7_fault 1 = .ok (.iconst 0, 1) := by decide +kernel
theorem dX7_fault_2 : decode cX7_fault 2 = .ok (.iconst 1, 1) := by decide +kernel
theorem dX7_fault_3 : decode cX7_fault 3 = .ok (.invokestatic 60, 3) := by decide +kernel
theorem dX7_fault_6 : decode cX7_fault 6 = .ok (.ifCond .ne 6, 3) := by decide +kernel
theorem dX7_fault_9 : decode cX7_fault 9 = .ok (.ldc 69, 2) := by decide +kernel
theorem dX7_fault_11 : decode cX7_fault 11 = .ok (.ireturn, 1) := by decide +kernel
theorem dX7_fault_12 : decode cX7_fault 12 = .ok (.aload_n 0, 1) := by decide +kernel
theorem dX7_fault_13 : decode cX7_fault 13 = .ok (.invokevirtual 212, 3) := by decide +kernel
theorem dX7_fault_16 : decode cX7_fault 16 = .ok (.istore_n 2, 1) := by decide +kernel
theorem dX7_fault_17 : decode cX7_fault 17 = .ok (.iload_n 2, 1) := by decide +kernel
theorem dX7_fault_18 : decode cX7_fault 18 = .ok (.ifCond .ne 8, 3) := by decide +kernel
theorem dX7_fault_21 : decode cX7_fault 21 = .ok (.ldc 92, 2) := by decide +kernel
theorem dX7_fault_23 : decode cX7_fault 23 = .ok (.goto 15, 3) := by decide +kernel
theorem dX7_fault_26 : decode cX7_fault 26 = .ok (.iload_n 1, 1) := by decide +kernel
theorem dX7_fault_27 : decode cX7_fault 27 = .ok (.ifCond .ne 10, 3) := by decide +kernel
theorem dX7_fault_30 : decode cX7_fault 30 = .ok (.aload_n 0, 1) := by decide +kernel
theorem dX7_fault_31 : decode cX7_fault 31 = .ok (.getfield 206, 3) := by decide +kernel
theorem dX7_fault_34 : decode cX7_fault 34 = .ok (.goto 4, 3) := by decide +kernel
theorem dX7_fault_37 : decode cX7_fault 37 = .ok (.iload_n 2, 1) := by decide +kernel
theorem dX7_fault_38 : decode cX7_fault 38 = .ok (.ireturn, 1) := by decide +kernel
theorem dX7_live_0 : decode cX7_live 0 = .ok (.aload_n 0, 1) := by decide +kernel
theorem dX7_live_1 : decode cX7_live 1 = .ok (.invokevirtual 212, 3) := by decide +kernel
theorem dX7_live_4 : decode cX7_live 4 = .ok (.ifCond .ne 13, 3) := by decide +kernel
theorem dX7_live_7 : decode cX7_live 7 = .ok (.aload_n 0, 1) := by decide +kernel
theorem dX7_live_8 : decode cX7_live 8 = .ok (.getfield 7, 3) := by decide +kernel
theorem dX7_live_11 : decode cX7_live 11 = .ok (.bipush 8, 2) := by decide +kernel
theorem dX7_live_13 : decode cX7_live 13 = .ok (.iaload, 1) := by decide +kernel
theorem dX7_live_14 : decode cX7_live 14 = .ok (.ifCond .ne 6, 3) := by decide +kernel
theorem dX7_live_17 : decode cX7_live 17 = .ok (.ldc 59, 2) := by decide +kernel
theorem dX7_live_19 : decode cX7_live 19 = .ok (.ireturn, 1) := by decide +kernel
theorem dX7_live_20 : decode cX7_live 20 = .ok (.aload_n 0, 1) := by decide +kernel
theorem dX7_live_21 : decode cX7_live 21 = .ok (.invokevirtual 70, 3) := by decide +kernel
theorem dX7_live_24 : decode cX7_live 24 = .ok (.iconst 0, 1) := by decide +kernel
theorem dX7_live_25 : decode cX7_live 25 = .ok (.istore_n 1, 1) := by decide +kernel
theorem dX7_live_26 : decode cX7_live 26 = .ok (.aload_n 0, 1) := by decide +kernel
theorem dX7_live_27 : decode cX7_live 27 = .ok (.iconst 0, 1) := by decide +kernel
theorem dX7_live_28 : decode cX7_live 28 = .ok (.putfield 191, 3) := by decide +kernel
theorem dX7_live_31 : decode cX7_live 31 = .ok (.aload_n 0, 1) := by decide +kernel
theorem dX7_live_32 : decode cX7_live 32 = .ok (.getfield 191, 3) := by decide +kernel
theorem dX7_live_35 : decode cX7_live 35 = .ok (.aload_n 0, 1) := by decide +kernel
theorem dX7_live_36 : decode cX7_live 36 = .ok (.getfield 139, 3) := by decide +kernel
theorem dX7_live_39 : decode cX7_live 39 = .ok (.if_icmp .ge 40, 3) := by decide +kernel
theorem dX7_live_42 : decode cX7_live 42 = .ok (.aload_n 0, 1) := by decide +kernel
theorem dX7_live_43 : decode cX7_live 43 = .ok (.invokevirtual 209, 3) := by decide +kernel
theorem dX7_live_46 : decode cX7_live 46 = .ok (.ifCond .eq 33, 3) := by decide +kernel
theorem dX7_live_49 : decode cX7_live 49 = .ok (.aload_n 0, 1) := by decide +kernel
theorem dX7_live_50 : decode cX7_live 50 = .ok (.getfield 7, 3) := by decide +kernel
theorem dX7_live_53 : decode cX7_live 53 = .ok (.iconst 0, 1) := by decide +kernel
theorem dX7_live_54 : decode cX7_live 54 = .ok (.aload_n 0, 1) := by decide +kernel
theorem dX7_live_55 : decode cX7_live 55 = .ok (.getfield 203, 3) := by decide +kernel
theorem dX7_live_58 : decode cX7_live 58 = .ok (.iastore, 1) := by decide +kernel
theorem dX7_live_59 : decode cX7_live 59 = .ok (.aload_n 0, 1) := by decide +kernel
theorem dX7_live_60 : decode cX7_live 60 = .ok (.getfield 7, 3) := by decide +kernel
theorem dX7_live_63 : decode cX7_live 63 = .ok (.iconst 2, 1) := by decide +kernel
theorem dX7_live_64 : decode cX7_live 64 = .ok (.aload_n 0, 1) := by decide +kernel
theorem dX7_live_65 : decode cX7_live 65 = .ok (.getfield 194, 3) := by decide +kernel
theorem dX7_live_68 : decode cX7_live 68 = .ok (.iastore, 1) := by decide +kernel
theorem dX7_live_69 : decode cX7_live 69 = .ok (.aload_n 0, 1) := by decide +kernel
theorem dX7_live_70 : decode cX7_live 70 = .ok (.invokevirtual 166, 3) := by decide +kernel
theorem dX7_live_73 : decode cX7_live 73 = .ok (.iinc 1 1, 3) := by decide +kernel
theorem dX7_live_76 : decode cX7_live 76 = .ok (.goto (-45), 3) := by decide +kernel
theorem dX7_live_79 : decode cX7_live 79 = .ok (.iload_n 1, 1) := by decide +kernel
theorem dX7_live_80 : decode cX7_live 80 = .ok (.ireturn, 1) := by decide +kernel
