theorem dX5_init_0 : decode cX5_init 0 = .ok (.aload_n 0, 1) := by decide +kernel
theorem dX5_init_1 : decode cX5_init 1 = .ok (.invokespecial 3, 3) := by decide +kernel
theorem dX5_init_4 : decode cX5_init 4 = .ok (.aload_n 0, 1) := by decide +kernel
theorem dX5_init_5 : decode cX5_init 5 = .ok (.getstatic 9, 3) := by decide +kernel
theorem dX5_init_8 : decode cX5_init 8 = .ok (.invokevirtual 13, 3) := by decide +kernel
theorem dX5_init_11 : decode cX5_init 11 = .ok (.checkcast 14, 3) := by decide +kernel
theorem dX5_init_14 : decode cX5_init 14 = .ok (.putfield 18, 3) := by decide +kernel
theorem dX5_init_17 : decode cX5_init 17 = .ok (.aload_n 0, 1) := by decide +kernel
theorem dX5_init_18 : decode cX5_init 18 = .ok (.bipush 10, 2) := by decide +kernel
theorem dX5_init_20 : decode cX5_init 20 = .ok (.anewarray 23, 3) := by decide +kernel
theorem dX5_init_23 : decode cX5_init 23 = .ok (.putfield 25, 3) := by decide +kernel
theorem dX5_init_26 : decode cX5_init 26 = .ok (.aload_n 0, 1) := by decide +kernel
theorem dX5_init_27 : decode cX5_init 27 = .ok (.bipush 6, 2) := by decide +kernel
theorem dX5_init_29 : decode cX5_init 29 = .ok (.anewarray 29, 3) := by decide +kernel
theorem dX5_init_32 : decode cX5_init 32 = .ok (.putfield 31, 3) := by decide +kernel
theorem dX5_init_35 : decode cX5_init 35 = .ok (.aload_n 0, 1) := by decide +kernel
theorem dX5_init_36 : decode cX5_init 36 = .ok (.new 35, 3) := by decide +kernel
theorem dX5_init_39 : decode cX5_init 39 = .ok (.dup, 1) := by decide +kernel
theorem dX5_init_40 : decode cX5_init 40 = .ok (.invokespecial 37, 3) := by decide +kernel
theorem dX5_init_43 : decode cX5_init 43 = .ok (.putfield 38, 3) := by decide +kernel
theorem dX5_init_46 : decode cX5_init 46 = .ok (.aload_n 0, 1) := by decide +kernel
theorem dX5_init_47 : decode cX5_init 47 = .ok (.iconst 0, 1) := by decide +kernel
theorem dX5_init_48 : decode cX5_init 48 = .ok (.putfield 42, 3) := by decide +kernel
theorem dX5_init_51 : decode cX5_init 51 = .ok (.aload_n 0, 1) := by decide +kernel
theorem dX5_init_52 : decode cX5_init 52 = .ok (.iconst 0, 1) := by decide +kernel
theorem dX5_init_53 : decode cX5_init 53 = .ok (.putfield 46, 3) := by decide +kernel
theorem dX5_init_56 : decode cX5_init 56 = .ok (.aload_n 0, 1) := by decide +kernel
theorem dX5_init_57 : decode cX5_init 57 = .ok (.iconst 0, 1) := by decide +kernel
theorem dX5_init_58 : decode cX5_init 58 = .ok (.putfield 49, 3) := by decide +kernel
theorem dX5_init_61 : decode cX5_init 61 = .ok (.aload_n 0, 1) := by decide +kernel
theorem dX5_init_62 : decode cX5_init 62 = .ok (.lconst 0, 1) := by decide +kernel
theorem dX5_init_63 : decode cX5_init 63 = .ok (.putfield 52, 3) := by decide +kernel
theorem dX5_init_66 : decode cX5_init 66 = .ok (.aload_n 0, 1) := by decide +kernel
theorem dX5_init_67 : decode cX5_init 67 = .ok (.lconst 0, 1) := by decide +kernel
theorem dX5_init_68 : decode cX5_init 68 = .ok (.putfield 56, 3) := by decide +kernel
theorem dX5_init_71 : decode cX5_init 71 = .ok (.aload_n 0, 1) := by decide +kernel
theorem dX5_init_72 : decode cX5_init 72 = .ok (.lconst 0, 1) := by decide +kernel
theorem dX5_init_73 : decode cX5_init 73 = .ok (.putfield 59, 3) := by decide +kernel
theorem dX5_init_76 : decode cX5_init 76 = .ok (.aload_n 0, 1) := by decide +kernel
theorem dX5_init_77 : decode cX5_init 77 = .ok (.lconst 0, 1) := by decide +kernel
theorem dX5_init_78 : decode cX5_init 78 = .ok (.putfield 62, 3) := by decide +kernel
theorem dX5_init_81 : decode cX5_init 81 = .ok (.iconst 0, 1) := by decide +kernel
theorem dX5_init_82 : decode cX5_init 82 = .ok (.istore_n 1, 1) := by decide +kernel
theorem dX5_init_83 : decode cX5_init 83 = .ok (.iload_n 1, 1) := by decide +kernel
theorem dX5_init_84 : decode cX5_init 84 = .ok (.aload_n 0, 1) := by decide +kernel
theorem dX5_init_85 : decode cX5_init 85 = .ok (.getfield 25, 3) := by decide +kernel
theorem dX5_init_88 : decode cX5_init 88 = .ok (.arraylength, 1) := by decide +kernel
theorem dX5_init_89 : decode cX5_init 89 = .ok (.if_icmp .ge 22, 3) := by decide +kernel
theorem dX5_init_92 : decode cX5_init 92 = .ok (.aload_n 0, 1) := by decide +kernel
theorem dX5_init_93 : decode cX5_init 93 = .ok (.getfield 25, 3) := by decide +kernel
theorem dX5_init_96 : decode cX5_init 96 = .ok (.iload_n 1, 1) := by decide +kernel
theorem dX5_init_97 : decode cX5_init 97 = .ok (.new 23, 3) := by decide +kernel
theorem dX5_init_100 : decode cX5_init 100 = .ok (.dup, 1) := by decide +kernel
theorem dX5_init_101 : decode cX5_init 101 = .ok (.invokespecial 65, 3) := by decide +kernel
theorem dX5_init_104 : decode cX5_init 104 = .ok (.aastore, 1) := by decide +kernel
theorem dX5_init_105 : decode cX5_init 105 = .ok (.iinc 1 1, 3) := by decide +kernel
theorem dX5_init_108 : decode cX5_init 108 = .ok (.goto (-25), 3) := by decide +kernel
theorem dX5_init_111 : decode cX5_init 111 = .ok (.iconst 0, 1) := by decide +kernel
theorem dX5_init_112 : decode cX5_init 112 = .ok (.istore_n 1, 1) := by decide +kernel
theorem dX5_init_113 : decode cX5_init 113 = .ok (.iload_n 1, 1) := by decide +kernel
theorem dX5_init_114 : decode cX5_init 114 = .ok (.aload_n 0, 1) := by decide +kernel
theorem dX5_init_115 : decode cX5_init 115 = .ok (.getfield 31, 3) := by decide +kernel
theorem dX5_init_118 : decode cX5_init 118 = .ok (.arraylength, 1) := by decide +kernel
theorem dX5_init_119 : decode cX5_init 119 = .ok (.if_icmp .ge 22, 3) := by decide +kernel
theorem dX5_init_122 : decode cX5_init 122 = .ok (.aload_n 0, 1) := by decide +kernel
theorem dX5_init_123 : decode cX5_init 123 = .ok (.getfield 31, 3) := by decide +kernel
theorem dX5_init_126 : decode cX5_init 126 = .ok (.iload_n 1, 1) := by decide +kernel
theorem dX5_init_127 : decode cX5_init 127 = .ok (.new 29, 3) := by decide +kernel
theorem dX5_init_130 : decode cX5_init 130 = .ok (.dup, 1) := by decide +kernel
theorem dX5_init_131 : decode cX5_init 131 = .ok (.invokespecial 66, 3) := by decide +kernel
theorem dX5_init_134 : decode cX5_init 134 = .ok (.aastore, 1) := by decide +kernel
theorem dX5_init_135 : decode cX5_init 135 = .ok (.iinc 1 1, 3) := by decide +kernel
theorem dX5_init_138 : decode cX5_init 138 = .ok (.goto (-25), 3) := by decide +kernel
theorem dX5_init_141 : decode cX5_init 141 = .ok (.return_, 1) := by decide +kernel
theorem dX5_copyFrom_0 : decode cX5_copyFrom 0 = .ok (.aload_n 1, 1) := by decide +kernel
theorem dX5_copyFrom_1 : decode cX5_copyFrom 1 = .ok (.getfield 18, 3) := by decide +kernel
theorem dX5_copyFrom_4 : decode cX5_copyFrom 4 = .ok (.iconst 0, 1) := by decide +kernel
theorem dX5_copyFrom_5 : decode cX5_copyFrom 5 = .ok (.aload_n 0, 1) := by decide +kernel
theorem dX5_copyFrom_6 : decode cX5_copyFrom 6 = .ok (.getfield 18, 3) := by decide +kernel
theorem dX5_copyFrom_9 : decode cX5_copyFrom 9 = .ok (.iconst 0, 1) := by decide +kernel
theorem dX5_copyFrom_10 : decode cX5_copyFrom 10 = .ok (.bipush 7, 2) := by decide +kernel
theorem dX5_copyFrom_12 : decode cX5_copyFrom 12 = .ok (.invokestatic 67, 3) := by decide +kernel
theorem dX5_copyFrom_15 : decode cX5_copyFrom 15 = .ok (.iconst 0, 1) := by decide +kernel
theorem dX5_copyFrom_16 : decode cX5_copyFrom 16 = .ok (.istore_n 2, 1) := by decide +kernel
theorem dX5_copyFrom_17 : decode cX5_copyFrom 17 = .ok (.iload_n 2, 1) := by decide +kernel
theorem dX5_copyFrom_18 : decode cX5_copyFrom 18 = .ok (.aload_n 1, 1) := by decide +kernel
theorem dX5_copyFrom_19 : decode cX5_copyFrom 19 = .ok (.getfield 42, 3) := by decide +kernel
theorem dX5_copyFrom_22 : decode cX5_copyFrom 22 = .ok (.if_icmp .ge 24, 3) := by decide +kernel
theorem dX5_copyFrom_25 : decode cX5_copyFrom 25 = .ok (.aload_n 0, 1) := by decide +kernel
theorem dX5_copyFrom_26 : decode cX5_copyFrom 26 = .ok (.getfield 25, 3) := by decide +kernel
theorem dX5_copyFrom_29 : decode cX5_copyFrom 29 = .ok (.iload_n 2, 1) := by decide +kernel
theorem dX5_copyFrom_30 : decode cX5_copyFrom 30 = .ok (.aaload, 1) := by decide +kernel
theorem dX5_copyFrom_31 : decode cX5_copyFrom 31 = .ok (.aload_n 1, 1) := by decide +kernel
theorem dX5_copyFrom_32 : decode cX5_copyFrom 32 = .ok (.getfield 25, 3) := by decide +kernel
theorem dX5_copyFrom_35 : decode cX5_copyFrom 35 = .ok (.iload_n 2, 1) := by decide +kernel
theorem dX5_copyFrom_36 : decode cX5_copyFrom 36 = .ok (.aaload, 1) := by decide +kernel
theorem dX5_copyFrom_37 : decode cX5_copyFrom 37 = .ok (.invokevirtual 73, 3) := by decide +kernel
theorem dX5_copyFrom_40 : decode cX5_copyFrom 40 = .ok (.iinc 2 1, 3) := by decide +kernel
theorem dX5_copyFrom_43 : decode cX5_copyFrom 43 = .ok (.goto (-26), 3) := by decide +kernel
theorem dX5_copyFrom_46 : decode cX5_copyFrom 46 = .ok (.iconst 0, 1) := by decide +kernel
theorem dX5_copyFrom_47 : decode cX5_copyFrom 47 = .ok (.istore_n 2, 1) := by decide +kernel
theorem dX5_copyFrom_48 : decode cX5_copyFrom 48 = .ok (.iload_n 2, 1) := by decide +kernel
theorem dX5_copyFrom_49 : decode cX5_copyFrom 49 = .ok (.aload_n 1, 1) := by decide +kernel
theorem dX5_copyFrom_50 : decode cX5_copyFrom 50 = .ok (.getfield 46, 3) := by decide +kernel
theorem dX5_copyFrom_53 : decode cX5_copyFrom 53 = .ok (.if_icmp .ge 24, 3) := by decide +kernel
theorem dX5_copyFrom_56 : decode cX5_copyFrom 56 = .ok (.aload_n 0, 1) := by decide +kernel
theorem dX5_copyFrom_57 : decode cX5_copyFrom 57 = .ok (.getfield 31, 3) := by decide +kernel
theorem dX5_copyFrom_60 : decode cX5_copyFrom 60 = .ok (.iload_n 2, 1) := by decide +kernel
theorem dX5_copyFrom_61 : decode cX5_copyFrom 61 = .ok (.aaload, 1) := by decide +kernel
theorem dX5_copyFrom_62 : decode cX5_copyFrom 62 = .ok (.aload_n 1, 1) := by decide +kernel
theorem dX5_copyFrom_63 : decode cX5_copyFrom 63 = .ok (.getfield 31, 3) := by decide +kernel
theorem dX5_copyFrom_66 : decode cX5_copyFrom 66 = .ok (.iload_n 2, 1) := by decide +kernel
theorem dX5_copyFrom_67 : decode cX5_copyFrom 67 = .ok (.aaload, 1) := by decide +kernel
theorem dX5_copyFrom_68 : decode cX5_copyFrom 68 = .ok (.invokevirtual 77, 3) := by decide +kernel
theorem dX5_copyFrom_71 : decode cX5_copyFrom 71 = .ok (.iinc 2 1, 3) := by decide +kernel
theorem dX5_copyFrom_74 : decode cX5_copyFrom 74 = .ok (.goto (-26), 3) := by decide +kernel
theorem dX5_copyFrom_77 : decode cX5_copyFrom 77 = .ok (.aload_n 0, 1) := by decide +kernel
theorem dX5_copyFrom_78 : decode cX5_copyFrom 78 = .ok (.getfield 38, 3) := by decide +kernel
theorem dX5_copyFrom_81 : decode cX5_copyFrom 81 = .ok (.aload_n 1, 1) := by decide +kernel
theorem dX5_copyFrom_82 : decode cX5_copyFrom 82 = .ok (.getfield 38, 3) := by decide +kernel
theorem dX5_copyFrom_85 : decode cX5_copyFrom 85 = .ok (.invokevirtual 80, 3) := by decide +kernel
theorem dX5_copyFrom_88 : decode cX5_copyFrom 88 = .ok (.aload_n 0, 1) := by decide +kernel
theorem dX5_copyFrom_89 : decode cX5_copyFrom 89 = .ok (.aload_n 1, 1) := by decide +kernel
theorem dX5_copyFrom_90 : decode cX5_copyFrom 90 = .ok (.getfield 42, 3) := by decide +kernel
theorem dX5_copyFrom_93 : decode cX5_copyFrom 93 = .ok (.putfield 42, 3) := by decide +kernel
theorem dX5_copyFrom_96 : decode cX5_copyFrom 96 = .ok (.aload_n 0, 1) := by decide +kernel
theorem dX5_copyFrom_97 : decode cX5_copyFrom 97 = .ok (.aload_n 1, 1) := by decide +kernel
theorem dX5_copyFrom_98 : decode cX5_copyFrom 98 = .ok (.getfield 46, 3) := by decide +kernel
theorem dX5_copyFrom_101 : decode cX5_copyFrom 101 = .ok (.putfield 46, 3) := by decide +kernel
theorem dX5_copyFrom_104 : decode cX5_copyFrom 104 = .ok (.aload_n 0, 1) := by decide +kernel
theorem dX5_copyFrom_105 : decode cX5_copyFrom 105 = .ok (.aload_n 1, 1) := by decide +kernel
theorem dX5_copyFrom_106 : decode cX5_copyFrom 106 = .ok (.getfield 49, 3) := by decide +kernel
theorem dX5_copyFrom_109 : decode cX5_copyFrom 109 = .ok (.putfield 49, 3) := by decide +kernel
theorem dX5_copyFrom_112 : decode cX5_copyFrom 112 = .ok (.aload_n 0, 1) := by decide +kernel
theorem dX5_copyFrom_113 : decode cX5_copyFrom 113 = .ok (.aload_n 1, 1) := by decide +kernel
theorem dX5_copyFrom_114 : decode cX5_copyFrom 114 = .ok (.getfield 52, 3) := by decide +kernel
theorem dX5_copyFrom_117 : decode cX5_copyFrom 117 = .ok (.putfield 52, 3) := by decide +kernel
theorem dX5_copyFrom_120 : decode cX5_copyFrom 120 = .ok (.aload_n 0, 1) := by decide +kernel
theorem dX5_copyFrom_121 : decode cX5_copyFrom 121 = .ok (.aload_n 1, 1) := by decide +kernel
theorem dX5_copyFrom_122 : decode cX5_copyFrom 122 = .ok (.getfield 56, 3) := by decide +kernel
theorem dX5_copyFrom_125 : decode cX5_copyFrom 125 = .ok (.putfield 56, 3) := by decide +kernel
theorem dX5_copyFrom_128 : decode cX5_copyFrom 128 = .ok (.aload_n 0, 1) := by decide +kernel
theorem dX5_copyFrom_129 : decode cX5_copyFrom 129 = .ok (.aload_n 1, 1) := by decide +kernel
theorem dX5_copyFrom_130 : decode cX5_copyFrom 130 = .ok (.getfield 59, 3) := by decide +kernel
theorem dX5_copyFrom_133 : decode cX5_copyFrom 133 = .ok (.putfield 59, 3) := by decide +kernel
theorem dX5_copyFrom_136 : decode cX5_copyFrom 136 = .ok (.aload_n 0, 1) := by decide +kernel
theorem dX5_copyFrom_137 : decode cX5_copyFrom 137 = .ok (.aload_n 1, 1) := by decide +kernel
theorem dX5_copyFrom_138 : decode cX5_copyFrom 138 = .ok (.getfield 62, 3) := by decide +kernel
theorem dX5_copyFrom_141 : decode cX5_copyFrom 141 = .ok (.putfield 62, 3) := by decide +kernel
theorem dX5_copyFrom_144 : decode cX5_copyFrom 144 = .ok (.return_, 1) := by decide +kernel
theorem dX5_hasBand_0 : decode cX5_hasBand 0 = .ok (.iload_n 1, 1) := by decide +kernel
theorem dX5_hasBand_1 : decode cX5_hasBand 1 = .ok (.ifCond .lt 15, 3) := by decide +kernel
theorem dX5_hasBand_4 : decode cX5_hasBand 4 = .ok (.iload_n 1, 1) := by decide +kernel
theorem dX5_hasBand_5 : decode cX5_hasBand 5 = .ok (.aload_n 0, 1) := by decide +kernel
theorem dX5_hasBand_6 : decode cX5_hasBand 6 = .ok (.getfield 42, 3) := by decide +kernel
theorem dX5_hasBand_9 : decode cX5_hasBand 9 = .ok (.if_icmp .ge 7, 3) := by decide +kernel
theorem dX5_hasBand_12 : decode cX5_hasBand 12 = .ok (.iconst 1, 1) := by decide +kernel
theorem dX5_hasBand_13 : decode cX5_hasBand 13 = .ok (.goto 4, 3) := by decide +kernel
theorem dX5_hasBand_16 : decode cX5_hasBand 16 = .ok (.iconst 0, 1) := by decide +kernel
theorem dX5_hasBand_17 : decode cX5_hasBand 17 = .ok (.ireturn, 1) := by decide +kernel
theorem dX5_hasStake_0 : decode cX5_hasStake 0 = .ok (.iload_n 1, 1) := by decide +kernel
theorem dX5_hasStake_1 : decode cX5_hasStake 1 = .ok (.ifCond .lt 15, 3) := by decide +kernel
theorem dX5_hasStake_4 : decode cX5_hasStake 4 = .ok (.iload_n 1, 1) := by decide +kernel
theorem dX5_hasStake_5 : decode cX5_hasStake 5 = .ok (.aload_n 0, 1) := by decide +kernel
theorem dX5_hasStake_6 : decode cX5_hasStake 6 = .ok (.getfield 46, 3) := by decide +kernel
theorem dX5_hasStake_9 : decode cX5_hasStake 9 = .ok (.if_icmp .ge 7, 3) := by decide +kernel
theorem dX5_hasStake_12 : decode cX5_hasStake 12 = .ok (.iconst 1, 1) := by decide +kernel
theorem dX5_hasStake_13 : decode cX5_hasStake 13 = .ok (.goto 4, 3) := by decide +kernel
theorem dX5_hasStake_16 : decode cX5_hasStake 16 = .ok (.iconst 0, 1) := by decide +kernel
theorem dX5_hasStake_17 : decode cX5_hasStake 17 = .ok (.ireturn, 1) := by decide +kernel
theorem dX5_isBelowAll_0 : decode cX5_isBelowAll 0 = .ok (.aload_n 0, 1) := by decide +kernel
theorem dX5_isBelowAll_1 : decode cX5_isBelowAll 1 = .ok (.getfield 42, 3) := by decide +kernel
theorem dX5_isBelowAll_4 : decode cX5_isBelowAll 4 = .ok (.ifCond .eq 21, 3) := by decide +kernel
theorem dX5_isBelowAll_7 : decode cX5_isBelowAll 7 = .ok (.iload_n 1, 1) := by decide +kernel
theorem dX5_isBelowAll_8 : decode cX5_isBelowAll 8 = .ok (.aload_n 0, 1) := by decide +kernel
theorem dX5_isBelowAll_9 : decode cX5_isBelowAll 9 = .ok (.getfield 25, 3) := by decide +kernel
theorem dX5_isBelowAll_12 : decode cX5_isBelowAll 12 = .ok (.aload_n 0, 1) := by decide +kernel
theorem dX5_isBelowAll_13 : decode cX5_isBelowAll 13 = .ok (.getfield 42, 3) := by decide +kernel
theorem dX5_isBelowAll_16 : decode cX5_isBelowAll 16 = .ok (.iconst 1, 1) := by decide +kernel
theorem dX5_isBelowAll_17 : decode cX5_isBelowAll 17 = .ok (.isub, 1) := by decide +kernel
theorem dX5_isBelowAll_18 : decode cX5_isBelowAll 18 = .ok (.aaload, 1) := by decide +kernel
theorem dX5_isBelowAll_19 : decode cX5_isBelowAll 19 = .ok (.getfield 83, 3) := by decide +kernel
theorem dX5_isBelowAll_22 : decode cX5_isBelowAll 22 = .ok (.if_icmp .ge 7, 3) := by decide +kernel
theorem dX5_isBelowAll_25 : decode cX5_isBelowAll 25 = .ok (.iconst 1, 1) := by decide +kernel
theorem dX5_isBelowAll_26 : decode cX5_isBelowAll 26 = .ok (.goto 4, 3) := by decide +kernel
theorem dX5_isBelowAll_29 : decode cX5_isBelowAll 29 = .ok (.iconst 0, 1) := by decide +kernel
theorem dX5_isBelowAll_30 : decode cX5_isBelowAll 30 = .ok (.ireturn, 1) := by decide +kernel
theorem dX5_addBand_0 : decode cX5_addBand 0 = .ok (.aload_n 0, 1) := by decide +kernel
theorem dX5_addBand_1 : decode cX5_addBand 1 = .ok (.getfield 42, 3) := by decide +kernel
theorem dX5_addBand_4 : decode cX5_addBand 4 = .ok (.istore 5, 2) := by decide +kernel
theorem dX5_addBand_6 : decode cX5_addBand 6 = .ok (.aload_n 0, 1) := by decide +kernel
theorem dX5_addBand_7 : decode cX5_addBand 7 = .ok (.getfield 25, 3) := by decide +kernel
theorem dX5_addBand_10 : decode cX5_addBand 10 = .ok (.iload 5, 2) := by decide +kernel
theorem dX5_addBand_12 : decode cX5_addBand 12 = .ok (.aaload, 1) := by decide +kernel
theorem dX5_addBand_13 : decode cX5_addBand 13 = .ok (.iload_n 1, 1) := by decide +kernel
theorem dX5_addBand_14 : decode cX5_addBand 14 = .ok (.iload_n 2, 1) := by decide +kernel
theorem dX5_addBand_15 : decode cX5_addBand 15 = .ok (.iload_n 3, 1) := by decide +kernel
theorem dX5_addBand_16 : decode cX5_addBand 16 = .ok (.invokevirtual 86, 3) := by decide +kernel
theorem dX5_addBand_19 : decode cX5_addBand 19 = .ok (.aload_n 0, 1) := by decide +kernel
theorem dX5_addBand_20 : decode cX5_addBand 20 = .ok (.getfield 25, 3) := by decide +kernel
theorem dX5_addBand_23 : decode cX5_addBand 23 = .ok (.iload 5, 2) := by decide +kernel
theorem dX5_addBand_25 : decode cX5_addBand 25 = .ok (.aaload, 1) := by decide +kernel
theorem dX5_addBand_26 : decode cX5_addBand 26 = .ok (.getfield 90, 3) := by decide +kernel
theorem dX5_addBand_29 : decode cX5_addBand 29 = .ok (.aload_n 0, 1) := by decide +kernel
theorem dX5_addBand_30 : decode cX5_addBand 30 = .ok (.getfield 49, 3) := by decide +kernel
theorem dX5_addBand_33 : decode cX5_addBand 33 = .ok (.iload 4, 2) := by decide +kernel
theorem dX5_addBand_35 : decode cX5_addBand 35 = .ok (.invokevirtual 94, 3) := by decide +kernel
theorem dX5_addBand_38 : decode cX5_addBand 38 = .ok (.aload_n 0, 1) := by decide +kernel
theorem dX5_addBand_39 : decode cX5_addBand 39 = .ok (.dup, 1) := by decide +kernel
theorem dX5_addBand_40 : decode cX5_addBand 40 = .ok (.getfield 42, 3) := by decide +kernel
theorem dX5_addBand_43 : decode cX5_addBand 43 = .ok (.iconst 1, 1) := by decide +kernel
theorem dX5_addBand_44 : decode cX5_addBand 44 = .ok (.iadd, 1) := by decide +kernel
theorem dX5_addBand_45 : decode cX5_addBand 45 = .ok (.putfield 42, 3) := by decide +kernel
theorem dX5_addBand_48 : decode cX5_addBand 48 = .ok (.aload_n 0, 1) := by decide +kernel
theorem dX5_addBand_49 : decode cX5_addBand 49 = .ok (.dup, 1) := by decide +kernel
theorem dX5_addBand_50 : decode cX5_addBand 50 = .ok (.getfield 52, 3) := by decide +kernel
theorem dX5_addBand_53 : decode cX5_addBand 53 = .ok (.iload 4, 2) := by decide +kernel
theorem dX5_addBand_55 : decode cX5_addBand 55 = .ok (.i2l, 1) := by decide +kernel
theorem dX5_addBand_56 : decode cX5_addBand 56 = .ok (.ladd, 1) := by decide +kernel
theorem dX5_addBand_57 : decode cX5_addBand 57 = .ok (.putfield 52, 3) := by decide +kernel
theorem dX5_addBand_60 : decode cX5_addBand 60 = .ok (.iload 5, 2) := by decide +kernel
theorem dX5_addBand_62 : decode cX5_addBand 62 = .ok (.ireturn, 1) := by decide +kernel
theorem dX5_isStakeAt_0 : decode cX5_isStakeAt 0 = .ok (.iconst 0, 1) := by decide +kernel
theorem dX5_isStakeAt_1 : decode cX5_isStakeAt 1 = .ok (.istore_n 3, 1) := by decide +kernel
theorem dX5_isStakeAt_2 : decode cX5_isStakeAt 2 = .ok (.iload_n 3, 1) := by decide +kernel
theorem dX5_isStakeAt_3 : decode cX5_isStakeAt 3 = .ok (.aload_n 0, 1) := by decide +kernel
theorem dX5_isStakeAt_4 : decode cX5_isStakeAt 4 = .ok (.getfield 46, 3) := by decide +kernel
theorem dX5_isStakeAt_7 : decode cX5_isStakeAt 7 = .ok (.if_icmp .ge 49, 3) := by decide +kernel
theorem dX5_isStakeAt_10 : decode cX5_isStakeAt 10 = .ok (.aload_n 0, 1) := by decide +kernel
theorem dX5_isStakeAt_11 : decode cX5_isStakeAt 11 = .ok (.getfield 31, 3) := by decide +kernel
theorem dX5_isStakeAt_14 : decode cX5_isStakeAt 14 = .ok (.iload_n 3, 1) := by decide +kernel
theorem dX5_isStakeAt_15 : decode cX5_isStakeAt 15 = .ok (.aaload, 1) := by decide +kernel
theorem dX5_isStakeAt_16 : decode cX5_isStakeAt 16 = .ok (.getfield 100, 3) := by decide +kernel
theorem dX5_isStakeAt_19 : decode cX5_isStakeAt 19 = .ok (.ifCond .ne 31, 3) := by decide +kernel
theorem dX5_isStakeAt_22 : decode cX5_isStakeAt 22 = .ok (.aload_n 0, 1) := by decide +kernel
theorem dX5_isStakeAt_23 : decode cX5_isStakeAt 23 = .ok (.getfield 31, 3) := by decide +kernel
theorem dX5_isStakeAt_26 : decode cX5_isStakeAt 26 = .ok (.iload_n 3, 1) := by decide +kernel
theorem dX5_isStakeAt_27 : decode cX5_isStakeAt 27 = .ok (.aaload, 1) := by decide +kernel
theorem dX5_isStakeAt_28 : decode cX5_isStakeAt 28 = .ok (.getfield 103, 3) := by decide +kernel
theorem dX5_isStakeAt_31 : decode cX5_isStakeAt 31 = .ok (.iload_n 1, 1) := by decide +kernel
theorem dX5_isStakeAt_32 : decode cX5_isStakeAt 32 = .ok (.if_icmp .ne 18, 3) := by decide +kernel
theorem dX5_isStakeAt_35 : decode cX5_isStakeAt 35 = .ok (.aload_n 0, 1) := by decide +kernel
theorem dX5_isStakeAt_36 : decode cX5_isStakeAt 36 = .ok (.getfield 31, 3) := by decide +kernel
theorem dX5_isStakeAt_39 : decode cX5_isStakeAt 39 = .ok (.iload_n 3, 1) := by decide +kernel
theorem dX5_isStakeAt_40 : decode cX5_isStakeAt 40 = .ok (.aaload, 1) := by decide +kernel
theorem dX5_isStakeAt_41 : decode cX5_isStakeAt 41 = .ok (.getfield 106, 3) := by decide +kernel
theorem dX5_isStakeAt_44 : decode cX5_isStakeAt 44 = .ok (.iload_n 2, 1) := by decide +kernel
theorem dX5_isStakeAt_45 : decode cX5_isStakeAt 45 = .ok (.if_icmp .ne 5, 3) := by decide +kernel
theorem dX5_isStakeAt_48 : decode cX5_isStakeAt 48 = .ok (.iconst 1, 1) := by decide +kernel
theorem dX5_isStakeAt_49 : decode cX5_isStakeAt 49 = .ok (.ireturn, 1) := by decide +kernel
theorem dX5_isStakeAt_50 : decode cX5_isStakeAt 50 = .ok (.iinc 3 1, 3) := by decide +kernel
theorem dX5_isStakeAt_53 : decode cX5_isStakeAt 53 = .ok (.goto (-51), 3) := by decide +kernel
theorem dX5_isStakeAt_56 : decode cX5_isStakeAt 56 = .ok (.iconst 0, 1) := by decide +kernel
theorem dX5_isStakeAt_57 : decode cX5_isStakeAt 57 = .ok (.ireturn, 1) := by decide +kernel
theorem dX5_addStake_0 : decode cX5_addStake 0 = .ok (.aload_n 0, 1) := by decide +kernel
theorem dX5_addStake_1 : decode cX5_addStake 1 = .ok (.getfield 46, 3) := by decide +kernel
theorem dX5_addStake_4 : decode cX5_addStake 4 = .ok (.istore 4, 2) := by decide +kernel
theorem dX5_addStake_6 : decode cX5_addStake 6 = .ok (.aload_n 0, 1) := by decide +kernel
theorem dX5_addStake_7 : decode cX5_addStake 7 = .ok (.getfield 31, 3) := by decide +kernel
theorem dX5_addStake_10 : decode cX5_addStake 10 = .ok (.iload 4, 2) := by decide +kernel
theorem dX5_addStake_12 : decode cX5_addStake 12 = .ok (.aaload, 1) := by decide +kernel
theorem dX5_addStake_13 : decode cX5_addStake 13 = .ok (.iload_n 1, 1) := by decide +kernel
theorem dX5_addStake_14 : decode cX5_addStake 14 = .ok (.iload_n 2, 1) := by decide +kernel
theorem dX5_addStake_15 : decode cX5_addStake 15 = .ok (.iload_n 3, 1) := by decide +kernel
theorem dX5_addStake_16 : decode cX5_addStake 16 = .ok (.invokevirtual 109, 3) := by decide +kernel
theorem dX5_addStake_19 : decode cX5_addStake 19 = .ok (.aload_n 0, 1) := by decide +kernel
theorem dX5_addStake_20 : decode cX5_addStake 20 = .ok (.dup, 1) := by decide +kernel
theorem dX5_addStake_21 : decode cX5_addStake 21 = .ok (.getfield 46, 3) := by decide +kernel
theorem dX5_addStake_24 : decode cX5_addStake 24 = .ok (.iconst 1, 1) := by decide +kernel
theorem dX5_addStake_25 : decode cX5_addStake 25 = .ok (.iadd, 1) := by decide +kernel
theorem dX5_addStake_26 : decode cX5_addStake 26 = .ok (.putfield 46, 3) := by decide +kernel
theorem dX5_addStake_29 : decode cX5_addStake 29 = .ok (.iload 4, 2) := by decide +kernel
theorem dX5_addStake_31 : decode cX5_addStake 31 = .ok (.ireturn, 1) := by decide +kernel
theorem dX5_removeStake_0 : decode cX5_removeStake 0 = .ok (.aload_n 0, 1) := by decide +kernel
theorem dX5_removeStake_1 : decode cX5_removeStake 1 = .ok (.getfield 31, 3) := by decide +kernel
theorem dX5_removeStake_4 : decode cX5_removeStake 4 = .ok (.iload_n 1, 1) := by decide +kernel
theorem dX5_removeStake_5 : decode cX5_removeStake 5 = .ok (.aaload, 1) := by decide +kernel
theorem dX5_removeStake_6 : decode cX5_removeStake 6 = .ok (.astore_n 2, 1) := by decide +kernel
theorem dX5_removeStake_7 : decode cX5_removeStake 7 = .ok (.iload_n 1, 1) := by decide +kernel
theorem dX5_removeStake_8 : decode cX5_removeStake 8 = .ok (.istore_n 3, 1) := by decide +kernel
theorem dX5_removeStake_9 : decode cX5_removeStake 9 = .ok (.iload_n 3, 1) := by decide +kernel
theorem dX5_removeStake_10 : decode cX5_removeStake 10 = .ok (.iconst 1, 1) := by decide +kernel
theorem dX5_removeStake_11 : decode cX5_removeStake 11 = .ok (.iadd, 1) := by decide +kernel
theorem dX5_removeStake_12 : decode cX5_removeStake 12 = .ok (.aload_n 0, 1) := by decide +kernel
theorem dX5_removeStake_13 : decode cX5_removeStake 13 = .ok (.getfield 46, 3) := by decide +kernel
theorem dX5_removeStake_16 : decode cX5_removeStake 16 = .ok (.if_icmp .ge 23, 3) := by decide +kernel
theorem dX5_removeStake_19 : decode cX5_removeStake 19 = .ok (.aload_n 0, 1) := by decide +kernel
theorem dX5_removeStake_20 : decode cX5_removeStake 20 = .ok (.getfield 31, 3) := by decide +kernel
theorem dX5_removeStake_23 : decode cX5_removeStake 23 = .ok (.iload_n 3, 1) := by decide +kernel
theorem dX5_removeStake_24 : decode cX5_removeStake 24 = .ok (.aload_n 0, 1) := by decide +kernel
theorem dX5_removeStake_25 : decode cX5_removeStake 25 = .ok (.getfield 31, 3) := by decide +kernel
theorem dX5_removeStake_28 : decode cX5_removeStake 28 = .ok (.iload_n 3, 1) := by decide +kernel
theorem dX5_removeStake_29 : decode cX5_removeStake 29 = .ok (.iconst 1, 1) := by decide +kernel
theorem dX5_removeStake_30 : decode cX5_removeStake 30 = .ok (.iadd, 1) := by decide +kernel
theorem dX5_removeStake_31 : decode cX5_removeStake 31 = .ok (.aaload, 1) := by decide +kernel
theorem dX5_removeStake_32 : decode cX5_removeStake 32 = .ok (.aastore, 1) := by decide +kernel
theorem dX5_removeStake_33 : decode cX5_removeStake 33 = .ok (.iinc 3 1, 3) := by decide +kernel
theorem dX5_removeStake_36 : decode cX5_removeStake 36 = .ok (.goto (-27), 3) := by decide +kernel
theorem dX5_removeStake_39 : decode cX5_removeStake 39 = .ok (.aload_n 0, 1) := by decide +kernel
theorem dX5_removeStake_40 : decode cX5_removeStake 40 = .ok (.dup, 1) := by decide +kernel
theorem dX5_removeStake_41 : decode cX5_removeStake 41 = .ok (.getfield 46, 3) := by decide +kernel
theorem dX5_removeStake_44 : decode cX5_removeStake 44 = .ok (.iconst 1, 1) := by decide +kernel
theorem dX5_removeStake_45 : decode cX5_removeStake 45 = .ok (.isub, 1) := by decide +kernel
theorem dX5_removeStake_46 : decode cX5_removeStake 46 = .ok (.putfield 46, 3) := by decide +kernel
theorem dX5_removeStake_49 : decode cX5_removeStake 49 = .ok (.aload_n 0, 1) := by decide +kernel
theorem dX5_removeStake_50 : decode cX5_removeStake 50 = .ok (.getfield 31, 3) := by decide +kernel
theorem dX5_removeStake_53 : decode cX5_removeStake 53 = .ok (.aload_n 0, 1) := by decide +kernel
theorem dX5_removeStake_54 : decode cX5_removeStake 54 = .ok (.getfield 46, 3) := by decide +kernel
theorem dX5_removeStake_57 : decode cX5_removeStake 57 = .ok (.aload_n 2, 1) := by decide +kernel
theorem dX5_removeStake_58 : decode cX5_removeStake 58 = .ok (.aastore, 1) := by decide +kernel
theorem dX5_removeStake_59 : decode cX5_removeStake 59 = .ok (.aload_n 2, 1) := by decide +kernel
theorem dX5_removeStake_60 : decode cX5_removeStake 60 = .ok (.getfield 110, 3) := by decide +kernel
theorem dX5_removeStake_63 : decode cX5_removeStake 63 = .ok (.ireturn, 1) := by decide +kernel
theorem dX5_standingStakes_0 : decode cX5_standingStakes 0 = .ok (.iconst 0, 1) := by decide +kernel
theorem dX5_standingStakes_1 : decode cX5_standingStakes 1 = .ok (.istore_n 1, 1) := by decide +kernel
theorem dX5_standingStakes_2 : decode cX5_standingStakes 2 = .ok (.iconst 0, 1) := by decide +kernel
theorem dX5_standingStakes_3 : decode cX5_standingStakes 3 = .ok (.istore_n 2, 1) := by decide +kernel
theorem dX5_standingStakes_4 : decode cX5_standingStakes 4 = .ok (.iload_n 2, 1) := by decide +kernel
theorem dX5_standingStakes_5 : decode cX5_standingStakes 5 = .ok (.aload_n 0, 1) := by decide +kernel
theorem dX5_standingStakes_6 : decode cX5_standingStakes 6 = .ok (.getfield 46, 3) := by decide +kernel
theorem dX5_standingStakes_9 : decode cX5_standingStakes 9 = .ok (.if_icmp .ge 24, 3) := by decide +kernel
theorem dX5_standingStakes_12 : decode cX5_standingStakes 12 = .ok (.aload_n 0, 1) := by decide +kernel
theorem dX5_standingStakes_13 : decode cX5_standingStakes 13 = .ok (.getfield 31, 3) := by decide +kernel
theorem dX5_standingStakes_16 : decode cX5_standingStakes 16 = .ok (.iload_n 2, 1) := by decide +kernel
theorem dX5_standingStakes_17 : decode cX5_standingStakes 17 = .ok (.aaload, 1) := by decide +kernel
theorem dX5_standingStakes_18 : decode cX5_standingStakes 18 = .ok (.getfield 100, 3) := by decide +kernel
theorem dX5_standingStakes_21 : decode cX5_standingStakes 21 = .ok (.ifCond .ne 6, 3) := by decide +kernel
theorem dX5_standingStakes_24 : decode cX5_standingStakes 24 = .ok (.iinc 1 1, 3) := by decide +kernel
theorem dX5_standingStakes_27 : decode cX5_standingStakes 27 = .ok (.iinc 2 1, 3) := by decide +kernel
theorem dX5_standingStakes_30 : decode cX5_standingStakes 30 = .ok (.goto (-26), 3) := by decide +kernel
theorem dX5_standingStakes_33 : decode cX5_standingStakes 33 = .ok (.iload_n 1, 1) := by decide +kernel
theorem dX5_standingStakes_34 : decode cX5_standingStakes 34 = .ok (.ireturn, 1) := by decide +kernel
theorem dX5_snowAt_0 : decode cX5_snowAt 0 = .ok (.aload_n 0, 1) := by decide +kernel
theorem dX5_snowAt_1 : decode cX5_snowAt 1 = .ok (.getfield 18, 3) := by decide +kernel
theorem dX5_snowAt_4 : decode cX5_snowAt 4 = .ok (.iconst 1, 1) := by decide +kernel
theorem dX5_snowAt_5 : decode cX5_snowAt 5 = .ok (.iaload, 1) := by decide +kernel
theorem dX5_snowAt_6 : decode cX5_snowAt 6 = .ok (.iload_n 1, 1) := by decide +kernel
theorem dX5_snowAt_7 : decode cX5_snowAt 7 = .ok (.aload_n 0, 1) := by decide +kernel
theorem dX5_snowAt_8 : decode cX5_snowAt 8 = .ok (.getfield 18, 3) := by decide +kernel
theorem dX5_snowAt_11 : decode cX5_snowAt 11 = .ok (.iconst 4, 1) := by decide +kernel
theorem dX5_snowAt_12 : decode cX5_snowAt 12 = .ok (.iaload, 1) := by decide +kernel
theorem dX5_snowAt_13 : decode cX5_snowAt 13 = .ok (.isub, 1) := by decide +kernel
theorem dX5_snowAt_14 : decode cX5_snowAt 14 = .ok (.imul, 1) := by decide +kernel
theorem dX5_snowAt_15 : decode cX5_snowAt 15 = .ok (.bipush 100, 2) := by decide +kernel
theorem dX5_snowAt_17 : decode cX5_snowAt 17 = .ok (.invokestatic 113, 3) := by decide +kernel
theorem dX5_snowAt_20 : decode cX5_snowAt 20 = .ok (.istore_n 2, 1) := by decide +kernel
theorem dX5_snowAt_21 : decode cX5_snowAt 21 = .ok (.iconst 0, 1) := by decide +kernel
theorem dX5_snowAt_22 : decode cX5_snowAt 22 = .ok (.aload_n 0, 1) := by decide +kernel
theorem dX5_snowAt_23 : decode cX5_snowAt 23 = .ok (.getfield 18, 3) := by decide +kernel
theorem dX5_snowAt_26 : decode cX5_snowAt 26 = .ok (.iconst 0, 1) := by decide +kernel
theorem dX5_snowAt_27 : decode cX5_snowAt 27 = .ok (.iaload, 1) := by decide +kernel
theorem dX5_snowAt_28 : decode cX5_snowAt 28 = .ok (.iload_n 2, 1) := by decide +kernel
theorem dX5_snowAt_29 : decode cX5_snowAt 29 = .ok (.iadd, 1) := by decide +kernel
theorem dX5_snowAt_30 : decode cX5_snowAt 30 = .ok (.invokestatic 119, 3) := by decide +kernel
theorem dX5_snowAt_33 : decode cX5_snowAt 33 = .ok (.ireturn, 1) := by decide +kernel
theorem dX5_meltAt_0 : decode cX5_meltAt 0 = .ok (.aload_n 0, 1) := by decide +kernel
theorem dX5_meltAt_1 : decode cX5_meltAt 1 = .ok (.getfield 18, 3) := by decide +kernel
theorem dX5_meltAt_4 : decode cX5_meltAt 4 = .ok (.iconst 3, 1) := by decide +kernel
theorem dX5_meltAt_5 : decode cX5_meltAt 5 = .ok (.iaload, 1) := by decide +kernel
theorem dX5_meltAt_6 : decode cX5_meltAt 6 = .ok (.iload_n 1, 1) := by decide +kernel
theorem dX5_meltAt_7 : decode cX5_meltAt 7 = .ok (.aload_n 0, 1) := by decide +kernel
theorem dX5_meltAt_8 : decode cX5_meltAt 8 = .ok (.getfield 18, 3) := by decide +kernel
theorem dX5_meltAt_11 : decode cX5_meltAt 11 = .ok (.iconst 4, 1) := by decide +kernel
theorem dX5_meltAt_12 : decode cX5_meltAt 12 = .ok (.iaload, 1) := by decide +kernel
theorem dX5_meltAt_13 : decode cX5_meltAt 13 = .ok (.isub, 1) := by decide +kernel
theorem dX5_meltAt_14 : decode cX5_meltAt 14 = .ok (.imul, 1) := by decide +kernel
theorem dX5_meltAt_15 : decode cX5_meltAt 15 = .ok (.bipush 100, 2) := by decide +kernel
theorem dX5_meltAt_17 : decode cX5_meltAt 17 = .ok (.invokestatic 113, 3) := by decide +kernel
theorem dX5_meltAt_20 : decode cX5_meltAt 20 = .ok (.istore_n 3, 1) := by decide +kernel
theorem dX5_meltAt_21 : decode cX5_meltAt 21 = .ok (.iconst 0, 1) := by decide +kernel
theorem dX5_meltAt_22 : decode cX5_meltAt 22 = .ok (.iload_n 2, 1) := by decide +kernel
theorem dX5_meltAt_23 : decode cX5_meltAt 23 = .ok (.iload_n 3, 1) := by decide +kernel
theorem dX5_meltAt_24 : decode cX5_meltAt 24 = .ok (.isub, 1) := by decide +kernel
theorem dX5_meltAt_25 : decode cX5_meltAt 25 = .ok (.invokestatic 119, 3) := by decide +kernel
theorem dX5_meltAt_28 : decode cX5_meltAt 28 = .ok (.ireturn, 1) := by decide +kernel
theorem dX5_snowOutweighsMelt_0 : decode cX5_snowOutweighsMelt 0 = .ok (.iconst 0, 1) := by decide +kernel
theorem dX5_snowOutweighsMelt_1 : decode cX5_snowOutweighsMelt 1 = .ok (.istore_n 2, 1) := by decide +kernel
theorem dX5_snowOutweighsMelt_2 : decode cX5_snowOutweighsMelt 2 = .ok (.iconst 0, 1) := by decide +kernel
theorem dX5_snowOutweighsMelt_3 : decode cX5_snowOutweighsMelt 3 = .ok (.istore_n 3, 1) := by decide +kernel
theorem dX5_snowOutweighsMelt_4 : decode cX5_snowOutweighsMelt 4 = .ok (.iload_n 3, 1) := by decide +kernel
theorem dX5_snowOutweighsMelt_5 : decode cX5_snowOutweighsMelt 5 = .ok (.aload_n 0, 1) := by decide +kernel
theorem dX5_snowOutweighsMelt_6 : decode cX5_snowOutweighsMelt 6 = .ok (.getfield 42, 3) := by decide +kernel
theorem dX5_snowOutweighsMelt_9 : decode cX5_snowOutweighsMelt 9 = .ok (.if_icmp .ge 40, 3) := by decide +kernel
theorem dX5_snowOutweighsMelt_12 : decode cX5_snowOutweighsMelt 12 = .ok (.iload_n 2, 1) := by decide +kernel
theorem dX5_snowOutweighsMelt_13 : decode cX5_snowOutweighsMelt 13 = .ok (.aload_n 0, 1) := by decide +kernel
theorem dX5_snowOutweighsMelt_14 : decode cX5_snowOutweighsMelt 14 = .ok (.aload_n 0, 1) := by decide +kernel
theorem dX5_snowOutweighsMelt_15 : decode cX5_snowOutweighsMelt 15 = .ok (.getfield 25, 3) := by decide +kernel
theorem dX5_snowOutweighsMelt_18 : decode cX5_snowOutweighsMelt 18 = .ok (.iload_n 3, 1) := by decide +kernel
theorem dX5_snowOutweighsMelt_19 : decode cX5_snowOutweighsMelt 19 = .ok (.aaload, 1) := by decide +kernel
theorem dX5_snowOutweighsMelt_20 : decode cX5_snowOutweighsMelt 20 = .ok (.getfield 83, 3) := by decide +kernel
theorem dX5_snowOutweighsMelt_23 : decode cX5_snowOutweighsMelt 23 = .ok (.invokevirtual 122, 3) := by decide +kernel
theorem dX5_snowOutweighsMelt_26 : decode cX5_snowOutweighsMelt 26 = .ok (.aload_n 0, 1) := by decide +kernel
theorem dX5_snowOutweighsMelt_27 : decode cX5_snowOutweighsMelt 27 = .ok (.aload_n 0, 1) := by decide +kernel
theorem dX5_snowOutweighsMelt_28 : decode cX5_snowOutweighsMelt 28 = .ok (.getfield 25, 3) := by decide +kernel
theorem dX5_snowOutweighsMelt_31 : decode cX5_snowOutweighsMelt 31 = .ok (.iload_n 3, 1) := by decide +kernel
theorem dX5_snowOutweighsMelt_32 : decode cX5_snowOutweighsMelt 32 = .ok (.aaload, 1) := by decide +kernel
theorem dX5_snowOutweighsMelt_33 : decode cX5_snowOutweighsMelt 33 = .ok (.getfield 83, 3) := by decide +kernel
theorem dX5_snowOutweighsMelt_36 : decode cX5_snowOutweighsMelt 36 = .ok (.iload_n 1, 1) := by decide +kernel
theorem dX5_snowOutweighsMelt_37 : decode cX5_snowOutweighsMelt 37 = .ok (.invokevirtual 126, 3) := by decide +kernel
theorem dX5_snowOutweighsMelt_40 : decode cX5_snowOutweighsMelt 40 = .ok (.isub, 1) := by decide +kernel
theorem dX5_snowOutweighsMelt_41 : decode cX5_snowOutweighsMelt 41 = .ok (.iadd, 1) := by decide +kernel
theorem dX5_snowOutweighsMelt_42 : decode cX5_snowOutweighsMelt 42 = .ok (.istore_n 2, 1) := by decide +kernel
theorem dX5_snowOutweighsMelt_43 : decode cX5_snowOutweighsMelt 43 = .ok (.iinc 3 1, 3) := by decide +kernel
theorem dX5_snowOutweighsMelt_46 : decode cX5_snowOutweighsMelt 46 = .ok (.goto (-42), 3) := by decide +kernel
theorem dX5_snowOutweighsMelt_49 : decode cX5_snowOutweighsMelt 49 = .ok (.iload_n 2, 1) := by decide +kernel
theorem dX5_snowOutweighsMelt_50 : decode cX5_snowOutweighsMelt 50 = .ok (.ifCond .lt 7, 3) := by decide +kernel
theorem dX5_snowOutweighsMelt_53 : decode cX5_snowOutweighsMelt 53 = .ok (.iconst 1, 1) := by decide +kernel
theorem dX5_snowOutweighsMelt_54 : decode cX5_snowOutweighsMelt 54 = .ok (.goto 4, 3) := by decide +kernel
theorem dX5_snowOutweighsMelt_57 : decode cX5_snowOutweighsMelt 57 = .ok (.iconst 0, 1) := by decide +kernel
theorem dX5_snowOutweighsMelt_58 : decode cX5_snowOutweighsMelt 58 = .ok (.ireturn, 1) := by decide +kernel
theorem dX5_leftOf_0 : decode cX5_leftOf 0 = .ok (.iconst 0, 1) := by decide +kernel
theorem dX5_leftOf_1 : decode cX5_leftOf 1 = .ok (.istore_n 2, 1) := by decide +kernel
theorem dX5_leftOf_2 : decode cX5_leftOf 2 = .ok (.iconst 0, 1) := by decide +kernel
theorem dX5_leftOf_3 : decode cX5_leftOf 3 = .ok (.istore_n 3, 1) := by decide +kernel
theorem dX5_leftOf_4 : decode cX5_leftOf 4 = .ok (.iload_n 3, 1) := by decide +kernel
theorem dX5_leftOf_5 : decode cX5_leftOf 5 = .ok (.aload_n 0, 1) := by decide +kernel
theorem dX5_leftOf_6 : decode cX5_leftOf 6 = .ok (.getfield 42, 3) := by decide +kernel
theorem dX5_leftOf_9 : decode cX5_leftOf 9 = .ok (.if_icmp .ge 25, 3) := by decide +kernel
theorem dX5_leftOf_12 : decode cX5_leftOf 12 = .ok (.iload_n 2, 1) := by decide +kernel
theorem dX5_leftOf_13 : decode cX5_leftOf 13 = .ok (.aload_n 0, 1) := by decide +kernel
theorem dX5_leftOf_14 : decode cX5_leftOf 14 = .ok (.getfield 25, 3) := by decide +kernel
theorem dX5_leftOf_17 : decode cX5_leftOf 17 = .ok (.iload_n 3, 1) := by decide +kernel
theorem dX5_leftOf_18 : decode cX5_leftOf 18 = .ok (.aaload, 1) := by decide +kernel
theorem dX5_leftOf_19 : decode cX5_leftOf 19 = .ok (.getfield 90, 3) := by decide +kernel
theorem dX5_leftOf_22 : decode cX5_leftOf 22 = .ok (.iload_n 1, 1) := by decide +kernel
theorem dX5_leftOf_23 : decode cX5_leftOf 23 = .ok (.invokevirtual 129, 3) := by decide +kernel
theorem dX5_leftOf_26 : decode cX5_leftOf 26 = .ok (.iadd, 1) := by decide +kernel
theorem dX5_leftOf_27 : decode cX5_leftOf 27 = .ok (.istore_n 2, 1) := by decide +kernel
theorem dX5_leftOf_28 : decode cX5_leftOf 28 = .ok (.iinc 3 1, 3) := by decide +kernel
theorem dX5_leftOf_31 : decode cX5_leftOf 31 = .ok (.goto (-27), 3) := by decide +kernel
theorem dX5_leftOf_34 : decode cX5_leftOf 34 = .ok (.iload_n 2, 1) := by decide +kernel
theorem dX5_leftOf_35 : decode cX5_leftOf 35 = .ok (.ireturn, 1) := by decide +kernel
theorem dX5_bandIce_0 : decode cX5_bandIce 0 = .ok (.iconst 0, 1) := by decide +kernel
theorem dX5_bandIce_1 : decode cX5_bandIce 1 = .ok (.istore_n 1, 1) := by decide +kernel
theorem dX5_bandIce_2 : decode cX5_bandIce 2 = .ok (.iconst 0, 1) := by decide +kernel
theorem dX5_bandIce_3 : decode cX5_bandIce 3 = .ok (.istore_n 2, 1) := by decide +kernel
theorem dX5_bandIce_4 : decode cX5_bandIce 4 = .ok (.iload_n 2, 1) := by decide +kernel
theorem dX5_bandIce_5 : decode cX5_bandIce 5 = .ok (.aload_n 0, 1) := by decide +kernel
theorem dX5_bandIce_6 : decode cX5_bandIce 6 = .ok (.getfield 42, 3) := by decide +kernel
theorem dX5_bandIce_9 : decode cX5_bandIce 9 = .ok (.if_icmp .ge 24, 3) := by decide +kernel
theorem dX5_bandIce_12 : decode cX5_bandIce 12 = .ok (.iload_n 1, 1) := by decide +kernel
theorem dX5_bandIce_13 : decode cX5_bandIce 13 = .ok (.aload_n 0, 1) := by decide +kernel
theorem dX5_bandIce_14 : decode cX5_bandIce 14 = .ok (.getfield 25, 3) := by decide +kernel
theorem dX5_bandIce_17 : decode cX5_bandIce 17 = .ok (.iload_n 2, 1) := by decide +kernel
theorem dX5_bandIce_18 : decode cX5_bandIce 18 = .ok (.aaload, 1) := by decide +kernel
theorem dX5_bandIce_19 : decode cX5_bandIce 19 = .ok (.getfield 90, 3) := by decide +kernel
theorem dX5_bandIce_22 : decode cX5_bandIce 22 = .ok (.getfield 132, 3) := by decide +kernel
theorem dX5_bandIce_25 : decode cX5_bandIce 25 = .ok (.iadd, 1) := by decide +kernel
theorem dX5_bandIce_26 : decode cX5_bandIce 26 = .ok (.istore_n 1, 1) := by decide +kernel
theorem dX5_bandIce_27 : decode cX5_bandIce 27 = .ok (.iinc 2 1, 3) := by decide +kernel
theorem dX5_bandIce_30 : decode cX5_bandIce 30 = .ok (.goto (-26), 3) := by decide +kernel
theorem dX5_bandIce_33 : decode cX5_bandIce 33 = .ok (.iload_n 1, 1) := by decide +kernel
theorem dX5_bandIce_34 : decode cX5_bandIce 34 = .ok (.ireturn, 1) := by decide +kernel
theorem dX5_allIce_0 : decode cX5_allIce 0 = .ok (.aload_n 0, 1) := by decide +kernel
theorem dX5_allIce_1 : decode cX5_allIce 1 = .ok (.invokevirtual 135, 3) := by decide +kernel
theorem dX5_allIce_4 : decode cX5_allIce 4 = .ok (.i2l, 1) := by decide +kernel
theorem dX5_allIce_5 : decode cX5_allIce 5 = .ok (.aload_n 0, 1) := by decide +kernel
theorem dX5_allIce_6 : decode cX5_allIce 6 = .ok (.getfield 38, 3) := by decide +kernel
theorem dX5_allIce_9 : decode cX5_allIce 9 = .ok (.getfield 139, 3) := by decide +kernel
theorem dX5_allIce_12 : decode cX5_allIce 12 = .ok (.i2l, 1) := by decide +kernel
theorem dX5_allIce_13 : decode cX5_allIce 13 = .ok (.ladd, 1) := by decide +kernel
theorem dX5_allIce_14 : decode cX5_allIce 14 = .ok (.lreturn, 1) := by decide +kernel
theorem dX5_allIceByYears_0 : decode cX5_allIceByYears 0 = .ok (.aload_n 0, 1) := by decide +kernel
theorem dX5_allIceByYears_1 : decode cX5_allIceByYears 1 = .ok (.getfield 38, 3) := by decide +kernel
theorem dX5_allIceByYears_4 : decode cX5_allIceByYears 4 = .ok (.getfield 139, 3) := by decide +kernel
theorem dX5_allIceByYears_7 : decode cX5_allIceByYears 7 = .ok (.i2l, 1) := by decide +kernel
theorem dX5_allIceByYears_8 : decode cX5_allIceByYears 8 = .ok (.lstore_n 1, 1) := by decide +kernel
theorem dX5_allIceByYears_9 : decode cX5_allIceByYears 9 = .ok (.iconst 0, 1) := by decide +kernel
theorem dX5_allIceByYears_10 : decode cX5_allIceByYears 10 = .ok (.istore_n 3, 1) := by decide +kernel
theorem dX5_allIceByYears_11 : decode cX5_allIceByYears 11 = .ok (.iload_n 3, 1) := by decide +kernel
theorem dX5_allIceByYears_12 : decode cX5_allIceByYears 12 = .ok (.aload_n 0, 1) := by decide +kernel
theorem dX5_allIceByYears_13 : decode cX5_allIceByYears 13 = .ok (.getfield 49, 3) := by decide +kernel
theorem dX5_allIceByYears_16 : decode cX5_allIceByYears 16 = .ok (.if_icmp .gt 18, 3) := by decide +kernel
theorem dX5_allIceByYears_19 : decode cX5_allIceByYears 19 = .ok (.lload_n 1, 1) := by decide +kernel
theorem dX5_allIceByYears_20 : decode cX5_allIceByYears 20 = .ok (.aload_n 0, 1) := by decide +kernel
theorem dX5_allIceByYears_21 : decode cX5_allIceByYears 21 = .ok (.iload_n 3, 1) := by decide +kernel
theorem dX5_allIceByYears_22 : decode cX5_allIceByYears 22 = .ok (.invokevirtual 140, 3) := by decide +kernel
theorem dX5_allIceByYears_25 : decode cX5_allIceByYears 25 = .ok (.i2l, 1) := by decide +kernel
theorem dX5_allIceByYears_26 : decode cX5_allIceByYears 26 = .ok (.ladd, 1) := by decide +kernel
theorem dX5_allIceByYears_27 : decode cX5_allIceByYears 27 = .ok (.lstore_n 1, 1) := by decide +kernel
theorem dX5_allIceByYears_28 : decode cX5_allIceByYears 28 = .ok (.iinc 3 1, 3) := by decide +kernel
theorem dX5_allIceByYears_31 : decode cX5_allIceByYears 31 = .ok (.goto (-20), 3) := by decide +kernel
theorem dX5_allIceByYears_34 : decode cX5_allIceByYears 34 = .ok (.lload_n 1, 1) := by decide +kernel
theorem dX5_allIceByYears_35 : decode cX5_allIceByYears 35 = .ok (.lreturn, 1) := by decide +kernel
theorem dX5_layersOfAllBands_0 : decode cX5_layersOfAllBands 0 = .ok (.iconst 0, 1) := by decide +kernel
theorem dX5_layersOfAllBands_1 : decode cX5_layersOfAllBands 1 = .ok (.istore_n 1, 1) := by decide +kernel
theorem dX5_layersOfAllBands_2 : decode cX5_layersOfAllBands 2 = .ok (.iconst 0, 1) := by decide +kernel
theorem dX5_layersOfAllBands_3 : decode cX5_layersOfAllBands 3 = .ok (.istore_n 2, 1) := by decide +kernel
theorem dX5_layersOfAllBands_4 : decode cX5_layersOfAllBands 4 = .ok (.iload_n 2, 1) := by decide +kernel
theorem dX5_layersOfAllBands_5 : decode cX5_layersOfAllBands 5 = .ok (.aload_n 0, 1) := by decide +kernel
theorem dX5_layersOfAllBands_6 : decode cX5_layersOfAllBands 6 = .ok (.getfield 42, 3) := by decide +kernel
theorem dX5_layersOfAllBands_9 : decode cX5_layersOfAllBands 9 = .ok (.if_icmp .ge 24, 3) := by decide +kernel
theorem dX5_layersOfAllBands_12 : decode cX5_layersOfAllBands 12 = .ok (.iload_n 1, 1) := by decide +kernel
theorem dX5_layersOfAllBands_13 : decode cX5_layersOfAllBands 13 = .ok (.aload_n 0, 1) := by decide +kernel
theorem dX5_layersOfAllBands_14 : decode cX5_layersOfAllBands 14 = .ok (.getfield 25, 3) := by decide +kernel
theorem dX5_layersOfAllBands_17 : decode cX5_layersOfAllBands 17 = .ok (.iload_n 2, 1) := by decide +kernel
theorem dX5_layersOfAllBands_18 : decode cX5_layersOfAllBands 18 = .ok (.aaload, 1) := by decide +kernel
theorem dX5_layersOfAllBands_19 : decode cX5_layersOfAllBands 19 = .ok (.getfield 90, 3) := by decide +kernel
theorem dX5_layersOfAllBands_22 : decode cX5_layersOfAllBands 22 = .ok (.invokevirtual 141, 3) := by decide +kernel
theorem dX5_layersOfAllBands_25 : decode cX5_layersOfAllBands 25 = .ok (.iadd, 1) := by decide +kernel
theorem dX5_layersOfAllBands_26 : decode cX5_layersOfAllBands 26 = .ok (.istore_n 1, 1) := by decide +kernel
theorem dX5_layersOfAllBands_27 : decode cX5_layersOfAllBands 27 = .ok (.iinc 2 1, 3) := by decide +kernel
theorem dX5_layersOfAllBands_30 : decode cX5_layersOfAllBands 30 = .ok (.goto (-26), 3) := by decide +kernel
theorem dX5_layersOfAllBands_33 : decode cX5_layersOfAllBands 33 = .ok (.iload_n 1, 1) := by decide +kernel
theorem dX5_layersOfAllBands_34 : decode cX5_layersOfAllBands 34 = .ok (.ireturn, 1) := by decide +kernel
theorem dX5_differentYears_0 : decode cX5_differentYears 0 = .ok (.iconst 0, 1) := by decide +kernel
theorem dX5_differentYears_1 : decode cX5_differentYears 1 = .ok (.istore_n 1, 1) := by decide +kernel
theorem dX5_differentYears_2 : decode cX5_differentYears 2 = .ok (.iconst 0, 1) := by decide +kernel
theorem dX5_differentYears_3 : decode cX5_differentYears 3 = .ok (.istore_n 2, 1) := by decide +kernel
theorem dX5_differentYears_4 : decode cX5_differentYears 4 = .ok (.iload_n 2, 1) := by decide +kernel
theorem dX5_differentYears_5 : decode cX5_differentYears 5 = .ok (.aload_n 0, 1) := by decide +kernel
theorem dX5_differentYears_6 : decode cX5_differentYears 6 = .ok (.getfield 49, 3) := by decide +kernel
theorem dX5_differentYears_9 : decode cX5_differentYears 9 = .ok (.if_icmp .gt 20, 3) := by decide +kernel
theorem dX5_differentYears_12 : decode cX5_differentYears 12 = .ok (.aload_n 0, 1) := by decide +kernel
theorem dX5_differentYears_13 : decode cX5_differentYears 13 = .ok (.iload_n 2, 1) := by decide +kernel
theorem dX5_differentYears_14 : decode cX5_differentYears 14 = .ok (.invokevirtual 140, 3) := by decide +kernel
theorem dX5_differentYears_17 : decode cX5_differentYears 17 = .ok (.ifCond .le 6, 3) := by decide +kernel
theorem dX5_differentYears_20 : decode cX5_differentYears 20 = .ok (.iinc 1 1, 3) := by decide +kernel
theorem dX5_differentYears_23 : decode cX5_differentYears 23 = .ok (.iinc 2 1, 3) := by decide +kernel
theorem dX5_differentYears_26 : decode cX5_differentYears 26 = .ok (.goto (-22), 3) := by decide +kernel
theorem dX5_differentYears_29 : decode cX5_differentYears 29 = .ok (.iload_n 1, 1) := by decide +kernel
theorem dX5_differentYears_30 : decode cX5_differentYears 30 = .ok (.ireturn, 1) := by decide +kernel
theorem dX5_oldestYear_0 : decode cX5_oldestYear 0 = .ok (.sipush 801, 3) := by decide +kernel
theorem dX5_oldestYear_3 : decode cX5_oldestYear 3 = .ok (.istore_n 1, 1) := by decide +kernel
theorem dX5_oldestYear_4 : decode cX5_oldestYear 4 = .ok (.iconst 0, 1) := by decide +kernel
theorem dX5_oldestYear_5 : decode cX5_oldestYear 5 = .ok (.istore_n 2, 1) := by decide +kernel
theorem dX5_oldestYear_6 : decode cX5_oldestYear 6 = .ok (.iload_n 2, 1) := by decide +kernel
theorem dX5_oldestYear_7 : decode cX5_oldestYear 7 = .ok (.aload_n 0, 1) := by decide +kernel
theorem dX5_oldestYear_8 : decode cX5_oldestYear 8 = .ok (.getfield 42, 3) := by decide +kernel
theorem dX5_oldestYear_11 : decode cX5_oldestYear 11 = .ok (.if_icmp .ge 26, 3) := by decide +kernel
theorem dX5_oldestYear_14 : decode cX5_oldestYear 14 = .ok (.iload_n 1, 1) := by decide +kernel
theorem dX5_oldestYear_15 : decode cX5_oldestYear 15 = .ok (.aload_n 0, 1) := by decide +kernel
theorem dX5_oldestYear_16 : decode cX5_oldestYear 16 = .ok (.getfield 25, 3) := by decide +kernel
theorem dX5_oldestYear_19 : decode cX5_oldestYear 19 = .ok (.iload_n 2, 1) := by decide +kernel
theorem dX5_oldestYear_20 : decode cX5_oldestYear 20 = .ok (.aaload, 1) := by decide +kernel
theorem dX5_oldestYear_21 : decode cX5_oldestYear 21 = .ok (.getfield 90, 3) := by decide +kernel
theorem dX5_oldestYear_24 : decode cX5_oldestYear 24 = .ok (.getfield 144, 3) := by decide +kernel
theorem dX5_oldestYear_27 : decode cX5_oldestYear 27 = .ok (.invokestatic 147, 3) := by decide +kernel
theorem dX5_oldestYear_30 : decode cX5_oldestYear 30 = .ok (.istore_n 1, 1) := by decide +kernel
theorem dX5_oldestYear_31 : decode cX5_oldestYear 31 = .ok (.iinc 2 1, 3) := by decide +kernel
theorem dX5_oldestYear_34 : decode cX5_oldestYear 34 = .ok (.goto (-28), 3) := by decide +kernel
theorem dX5_oldestYear_37 : decode cX5_oldestYear 37 = .ok (.iload_n 1, 1) := by decide +kernel
theorem dX5_oldestYear_38 : decode cX5_oldestYear 38 = .ok (.ireturn, 1) := by decide +kernel
theorem dX5_letYearsGoBy_0 : decode cX5_letYearsGoBy 0 = .ok (.iconst 0, 1) := by decide +kernel
theorem dX5_letYearsGoBy_1 : decode cX5_letYearsGoBy 1 = .ok (.istore_n 2, 1) := by decide +kernel
theorem dX5_letYearsGoBy_2 : decode cX5_letYearsGoBy 2 = .ok (.iload_n 2, 1) := by decide +kernel
theorem dX5_letYearsGoBy_3 : decode cX5_letYearsGoBy 3 = .ok (.iload_n 1, 1) := by decide +kernel
theorem dX5_letYearsGoBy_4 : decode cX5_letYearsGoBy 4 = .ok (.if_icmp .ge 13, 3) := by decide +kernel
theorem dX5_letYearsGoBy_7 : decode cX5_letYearsGoBy 7 = .ok (.aload_n 0, 1) := by decide +kernel
theorem dX5_letYearsGoBy_8 : decode cX5_letYearsGoBy 8 = .ok (.invokevirtual 150, 3) := by decide +kernel
theorem dX5_letYearsGoBy_11 : decode cX5_letYearsGoBy 11 = .ok (.iinc 2 1, 3) := by decide +kernel
theorem dX5_letYearsGoBy_14 : decode cX5_letYearsGoBy 14 = .ok (.goto (-12), 3) := by decide +kernel
theorem dX5_letYearsGoBy_17 : decode cX5_letYearsGoBy 17 = .ok (.return_, 1) := by decide +kernel
theorem dX5_letYearGoBy_0 : decode cX5_letYearGoBy 0 = .ok (.aload_n 0, 1) := by decide +kernel
theorem dX5_letYearGoBy_1 : decode cX5_letYearGoBy 1 = .ok (.dup, 1) := by decide +kernel
theorem dX5_letYearGoBy_2 : decode cX5_letYearGoBy 2 = .ok (.getfield 49, 3) := by decide +kernel
theorem dX5_letYearGoBy_5 : decode cX5_letYearGoBy 5 = .ok (.iconst 1, 1) := by decide +kernel
theorem dX5_letYearGoBy_6 : decode cX5_letYearGoBy 6 = .ok (.iadd, 1) := by decide +kernel
theorem dX5_letYearGoBy_7 : decode cX5_letYearGoBy 7 = .ok (.putfield 49, 3) := by decide +kernel
theorem dX5_letYearGoBy_10 : decode cX5_letYearGoBy 10 = .ok (.iconst 0, 1) := by decide +kernel
theorem dX5_letYearGoBy_11 : decode cX5_letYearGoBy 11 = .ok (.istore_n 1, 1) := by decide +kernel
theorem dX5_letYearGoBy_12 : decode cX5_letYearGoBy 12 = .ok (.iload_n 1, 1) := by decide +kernel
theorem dX5_letYearGoBy_13 : decode cX5_letYearGoBy 13 = .ok (.aload_n 0, 1) := by decide +kernel
theorem dX5_letYearGoBy_14 : decode cX5_letYearGoBy 14 = .ok (.getfield 42, 3) := by decide +kernel
theorem dX5_letYearGoBy_17 : decode cX5_letYearGoBy 17 = .ok (.if_icmp .ge 19, 3) := by decide +kernel
theorem dX5_letYearGoBy_20 : decode cX5_letYearGoBy 20 = .ok (.aload_n 0, 1) := by decide +kernel
theorem dX5_letYearGoBy_21 : decode cX5_letYearGoBy 21 = .ok (.aload_n 0, 1) := by decide +kernel
theorem dX5_letYearGoBy_22 : decode cX5_letYearGoBy 22 = .ok (.getfield 25, 3) := by decide +kernel
theorem dX5_letYearGoBy_25 : decode cX5_letYearGoBy 25 = .ok (.iload_n 1, 1) := by decide +kernel
theorem dX5_letYearGoBy_26 : decode cX5_letYearGoBy 26 = .ok (.aaload, 1) := by decide +kernel
theorem dX5_letYearGoBy_27 : decode cX5_letYearGoBy 27 = .ok (.invokevirtual 153, 3) := by decide +kernel
theorem dX5_letYearGoBy_30 : decode cX5_letYearGoBy 30 = .ok (.iinc 1 1, 3) := by decide +kernel
theorem dX5_letYearGoBy_33 : decode cX5_letYearGoBy 33 = .ok (.goto (-21), 3) := by decide +kernel
theorem dX5_letYearGoBy_36 : decode cX5_letYearGoBy 36 = .ok (.aload_n 0, 1) := by decide +kernel
theorem dX5_letYearGoBy_37 : decode cX5_letYearGoBy 37 = .ok (.invokevirtual 156, 3) := by decide +kernel
theorem dX5_letYearGoBy_40 : decode cX5_letYearGoBy 40 = .ok (.aload_n 0, 1) := by decide +kernel
theorem dX5_letYearGoBy_41 : decode cX5_letYearGoBy 41 = .ok (.dup, 1) := by decide +kernel
theorem dX5_letYearGoBy_42 : decode cX5_letYearGoBy 42 = .ok (.getfield 62, 3) := by decide +kernel
theorem dX5_letYearGoBy_45 : decode cX5_letYearGoBy 45 = .ok (.aload_n 0, 1) := by decide +kernel
theorem dX5_letYearGoBy_46 : decode cX5_letYearGoBy 46 = .ok (.getfield 38, 3) := by decide +kernel
theorem dX5_letYearGoBy_49 : decode cX5_letYearGoBy 49 = .ok (.aload_n 0, 1) := by decide +kernel
theorem dX5_letYearGoBy_50 : decode cX5_letYearGoBy 50 = .ok (.getfield 18, 3) := by decide +kernel
theorem dX5_letYearGoBy_53 : decode cX5_letYearGoBy 53 = .ok (.iconst 5, 1) := by decide +kernel
theorem dX5_letYearGoBy_54 : decode cX5_letYearGoBy 54 = .ok (.iaload, 1) := by decide +kernel
theorem dX5_letYearGoBy_55 : decode cX5_letYearGoBy 55 = .ok (.aload_n 0, 1) := by decide +kernel
theorem dX5_letYearGoBy_56 : decode cX5_letYearGoBy 56 = .ok (.getfield 18, 3) := by decide +kernel
theorem dX5_letYearGoBy_59 : decode cX5_letYearGoBy 59 = .ok (.bipush 6, 2) := by decide +kernel
theorem dX5_letYearGoBy_61 : decode cX5_letYearGoBy 61 = .ok (.iaload, 1) := by decide +kernel
theorem dX5_letYearGoBy_62 : decode cX5_letYearGoBy 62 = .ok (.aload_n 0, 1) := by decide +kernel
theorem dX5_letYearGoBy_63 : decode cX5_letYearGoBy 63 = .ok (.getfield 49, 3) := by decide +kernel
theorem dX5_letYearGoBy_66 : decode cX5_letYearGoBy 66 = .ok (.invokevirtual 159, 3) := by decide +kernel
theorem dX5_letYearGoBy_69 : decode cX5_letYearGoBy 69 = .ok (.i2l, 1) := by decide +kernel
theorem dX5_letYearGoBy_70 : decode cX5_letYearGoBy 70 = .ok (.ladd, 1) := by decide +kernel
theorem dX5_letYearGoBy_71 : decode cX5_letYearGoBy 71 = .ok (.putfield 62, 3) := by decide +kernel
theorem dX5_letYearGoBy_74 : decode cX5_letYearGoBy 74 = .ok (.iconst 0, 1) := by decide +kernel
theorem dX5_letYearGoBy_75 : decode cX5_letYearGoBy 75 = .ok (.istore_n 1, 1) := by decide +kernel
theorem dX5_letYearGoBy_76 : decode cX5_letYearGoBy 76 = .ok (.iload_n 1, 1) := by decide +kernel
theorem dX5_letYearGoBy_77 : decode cX5_letYearGoBy 77 = .ok (.aload_n 0, 1) := by decide +kernel
theorem dX5_letYearGoBy_78 : decode cX5_letYearGoBy 78 = .ok (.getfield 46, 3) := by decide +kernel
theorem dX5_letYearGoBy_81 : decode cX5_letYearGoBy 81 = .ok (.if_icmp .ge 31, 3) := by decide +kernel
theorem dX5_letYearGoBy_84 : decode cX5_letYearGoBy 84 = .ok (.aload_n 0, 1) := by decide +kernel
theorem dX5_letYearGoBy_85 : decode cX5_letYearGoBy 85 = .ok (.getfield 31, 3) := by decide +kernel
theorem dX5_letYearGoBy_88 : decode cX5_letYearGoBy 88 = .ok (.iload_n 1, 1) := by decide +kernel
theorem dX5_letYearGoBy_89 : decode cX5_letYearGoBy 89 = .ok (.aaload, 1) := by decide +kernel
theorem dX5_letYearGoBy_90 : decode cX5_letYearGoBy 90 = .ok (.getfield 100, 3) := by decide +kernel
theorem dX5_letYearGoBy_93 : decode cX5_letYearGoBy 93 = .ok (.ifCond .ne 13, 3) := by decide +kernel
theorem dX5_letYearGoBy_96 : decode cX5_letYearGoBy 96 = .ok (.aload_n 0, 1) := by decide +kernel
theorem dX5_letYearGoBy_97 : decode cX5_letYearGoBy 97 = .ok (.aload_n 0, 1) := by decide +kernel
theorem dX5_letYearGoBy_98 : decode cX5_letYearGoBy 98 = .ok (.getfield 31, 3) := by decide +kernel
theorem dX5_letYearGoBy_101 : decode cX5_letYearGoBy 101 = .ok (.iload_n 1, 1) := by decide +kernel
theorem dX5_letYearGoBy_102 : decode cX5_letYearGoBy 102 = .ok (.aaload, 1) := by decide +kernel
theorem dX5_letYearGoBy_103 : decode cX5_letYearGoBy 103 = .ok (.invokevirtual 163, 3) := by decide +kernel
theorem dX5_letYearGoBy_106 : decode cX5_letYearGoBy 106 = .ok (.iinc 1 1, 3) := by decide +kernel
theorem dX5_letYearGoBy_109 : decode cX5_letYearGoBy 109 = .ok (.goto (-33), 3) := by decide +kernel
theorem dX5_letYearGoBy_112 : decode cX5_letYearGoBy 112 = .ok (.return_, 1) := by decide +kernel
theorem dX5_snowAndMelt_0 : decode cX5_snowAndMelt 0 = .ok (.aload_n 0, 1) := by decide +kernel
theorem dX5_snowAndMelt_1 : decode cX5_snowAndMelt 1 = .ok (.aload_n 1, 1) := by decide +kernel
theorem dX5_snowAndMelt_2 : decode cX5_snowAndMelt 2 = .ok (.getfield 83, 3) := by decide +kernel
theorem dX5_snowAndMelt_5 : decode cX5_snowAndMelt 5 = .ok (.invokevirtual 122, 3) := by decide +kernel
theorem dX5_snowAndMelt_8 : decode cX5_snowAndMelt 8 = .ok (.istore_n 2, 1) := by decide +kernel
theorem dX5_snowAndMelt_9 : decode cX5_snowAndMelt 9 = .ok (.aload_n 1, 1) := by decide +kernel
theorem dX5_snowAndMelt_10 : decode cX5_snowAndMelt 10 = .ok (.getfield 90, 3) := by decide +kernel
theorem dX5_snowAndMelt_13 : decode cX5_snowAndMelt 13 = .ok (.aload_n 0, 1) := by decide +kernel
theorem dX5_snowAndMelt_14 : decode cX5_snowAndMelt 14 = .ok (.getfield 49, 3) := by decide +kernel
theorem dX5_snowAndMelt_17 : decode cX5_snowAndMelt 17 = .ok (.iload_n 2, 1) := by decide +kernel
theorem dX5_snowAndMelt_18 : decode cX5_snowAndMelt 18 = .ok (.invokevirtual 94, 3) := by decide +kernel
theorem dX5_snowAndMelt_21 : decode cX5_snowAndMelt 21 = .ok (.aload_n 0, 1) := by decide +kernel
theorem dX5_snowAndMelt_22 : decode cX5_snowAndMelt 22 = .ok (.dup, 1) := by decide +kernel
theorem dX5_snowAndMelt_23 : decode cX5_snowAndMelt 23 = .ok (.getfield 56, 3) := by decide +kernel
theorem dX5_snowAndMelt_26 : decode cX5_snowAndMelt 26 = .ok (.iload_n 2, 1) := by decide +kernel
theorem dX5_snowAndMelt_27 : decode cX5_snowAndMelt 27 = .ok (.i2l, 1) := by decide +kernel
theorem dX5_snowAndMelt_28 : decode cX5_snowAndMelt 28 = .ok (.ladd, 1) := by decide +kernel
theorem dX5_snowAndMelt_29 : decode cX5_snowAndMelt 29 = .ok (.putfield 56, 3) := by decide +kernel
theorem dX5_snowAndMelt_32 : decode cX5_snowAndMelt 32 = .ok (.aload_n 1, 1) := by decide +kernel
theorem dX5_snowAndMelt_33 : decode cX5_snowAndMelt 33 = .ok (.aload_n 1, 1) := by decide +kernel
theorem dX5_snowAndMelt_34 : decode cX5_snowAndMelt 34 = .ok (.getfield 90, 3) := by decide +kernel
theorem dX5_snowAndMelt_37 : decode cX5_snowAndMelt 37 = .ok (.aload_n 0, 1) := by decide +kernel
theorem dX5_snowAndMelt_38 : decode cX5_snowAndMelt 38 = .ok (.aload_n 1, 1) := by decide +kernel
theorem dX5_snowAndMelt_39 : decode cX5_snowAndMelt 39 = .ok (.getfield 83, 3) := by decide +kernel
theorem dX5_snowAndMelt_42 : decode cX5_snowAndMelt 42 = .ok (.aload_n 0, 1) := by decide +kernel
theorem dX5_snowAndMelt_43 : decode cX5_snowAndMelt 43 = .ok (.getfield 18, 3) := by decide +kernel
theorem dX5_snowAndMelt_46 : decode cX5_snowAndMelt 46 = .ok (.iconst 2, 1) := by decide +kernel
theorem dX5_snowAndMelt_47 : decode cX5_snowAndMelt 47 = .ok (.iaload, 1) := by decide +kernel
theorem dX5_snowAndMelt_48 : decode cX5_snowAndMelt 48 = .ok (.invokevirtual 126, 3) := by decide +kernel
theorem dX5_snowAndMelt_51 : decode cX5_snowAndMelt 51 = .ok (.invokevirtual 166, 3) := by decide +kernel
theorem dX5_snowAndMelt_54 : decode cX5_snowAndMelt 54 = .ok (.putfield 169, 3) := by decide +kernel
theorem dX5_snowAndMelt_57 : decode cX5_snowAndMelt 57 = .ok (.aload_n 0, 1) := by decide +kernel
theorem dX5_snowAndMelt_58 : decode cX5_snowAndMelt 58 = .ok (.dup, 1) := by decide +kernel
theorem dX5_snowAndMelt_59 : decode cX5_snowAndMelt 59 = .ok (.getfield 59, 3) := by decide +kernel
theorem dX5_snowAndMelt_62 : decode cX5_snowAndMelt 62 = .ok (.aload_n 1, 1) := by decide +kernel
theorem dX5_snowAndMelt_63 : decode cX5_snowAndMelt 63 = .ok (.getfield 169, 3) := by decide +kernel
theorem dX5_snowAndMelt_66 : decode cX5_snowAndMelt 66 = .ok (.i2l, 1) := by decide +kernel
theorem dX5_snowAndMelt_67 : decode cX5_snowAndMelt 67 = .ok (.ladd, 1) := by decide +kernel
theorem dX5_snowAndMelt_68 : decode cX5_snowAndMelt 68 = .ok (.putfield 59, 3) := by decide +kernel
theorem dX5_snowAndMelt_71 : decode cX5_snowAndMelt 71 = .ok (.return_, 1) := by decide +kernel
theorem dX5_creepDown_0 : decode cX5_creepDown 0 = .ok (.aload_n 0, 1) := by decide +kernel
theorem dX5_creepDown_1 : decode cX5_creepDown 1 = .ok (.getfield 42, 3) := by decide +kernel
theorem dX5_creepDown_4 : decode cX5_creepDown 4 = .ok (.iconst 1, 1) := by decide +kernel
theorem dX5_creepDown_5 : decode cX5_creepDown 5 = .ok (.isub, 1) := by decide +kernel
theorem dX5_creepDown_6 : decode cX5_creepDown 6 = .ok (.istore_n 1, 1) := by decide +kernel
theorem dX5_creepDown_7 : decode cX5_creepDown 7 = .ok (.iload_n 1, 1) := by decide +kernel
theorem dX5_creepDown_8 : decode cX5_creepDown 8 = .ok (.ifCond .lt 102, 3) := by decide +kernel
theorem dX5_creepDown_11 : decode cX5_creepDown 11 = .ok (.aload_n 0, 1) := by decide +kernel
theorem dX5_creepDown_12 : decode cX5_creepDown 12 = .ok (.getfield 25, 3) := by decide +kernel
theorem dX5_creepDown_15 : decode cX5_creepDown 15 = .ok (.iload_n 1, 1) := by decide +kernel
theorem dX5_creepDown_16 : decode cX5_creepDown 16 = .ok (.aaload, 1) := by decide +kernel
theorem dX5_creepDown_17 : decode cX5_creepDown 17 = .ok (.astore_n 2, 1) := by decide +kernel
theorem dX5_creepDown_18 : decode cX5_creepDown 18 = .ok (.aload_n 2, 1) := by decide +kernel
theorem dX5_creepDown_19 : decode cX5_creepDown 19 = .ok (.aload_n 2, 1) := by decide +kernel
theorem dX5_creepDown_20 : decode cX5_creepDown 20 = .ok (.invokevirtual 171, 3) := by decide +kernel
theorem dX5_creepDown_23 : decode cX5_creepDown 23 = .ok (.putfield 174, 3) := by decide +kernel
theorem dX5_creepDown_26 : decode cX5_creepDown 26 = .ok (.iload_n 1, 1) := by decide +kernel
theorem dX5_creepDown_27 : decode cX5_creepDown 27 = .ok (.iconst 1, 1) := by decide +kernel
theorem dX5_creepDown_28 : decode cX5_creepDown 28 = .ok (.iadd, 1) := by decide +kernel
theorem dX5_creepDown_29 : decode cX5_creepDown 29 = .ok (.aload_n 0, 1) := by decide +kernel
theorem dX5_creepDown_30 : decode cX5_creepDown 30 = .ok (.getfield 42, 3) := by decide +kernel
theorem dX5_creepDown_33 : decode cX5_creepDown 33 = .ok (.if_icmp .ge 43, 3) := by decide +kernel
theorem dX5_creepDown_36 : decode cX5_creepDown 36 = .ok (.aload_n 2, 1) := by decide +kernel
theorem dX5_creepDown_37 : decode cX5_creepDown 37 = .ok (.getfield 90, 3) := by decide +kernel
theorem dX5_creepDown_40 : decode cX5_creepDown 40 = .ok (.aload_n 2, 1) := by decide +kernel
theorem dX5_creepDown_41 : decode cX5_creepDown 41 = .ok (.getfield 174, 3) := by decide +kernel
theorem dX5_creepDown_44 : decode cX5_creepDown 44 = .ok (.aload_n 0, 1) := by decide +kernel
theorem dX5_creepDown_45 : decode cX5_creepDown 45 = .ok (.getfield 25, 3) := by decide +kernel
theorem dX5_creepDown_48 : decode cX5_creepDown 48 = .ok (.iload_n 1, 1) := by decide +kernel
theorem dX5_creepDown_49 : decode cX5_creepDown 49 = .ok (.iconst 1, 1) := by decide +kernel
theorem dX5_creepDown_50 : decode cX5_creepDown 50 = .ok (.iadd, 1) := by decide +kernel
theorem dX5_creepDown_51 : decode cX5_creepDown 51 = .ok (.aaload, 1) := by decide +kernel
theorem dX5_creepDown_52 : decode cX5_creepDown 52 = .ok (.getfield 90, 3) := by decide +kernel
theorem dX5_creepDown_55 : decode cX5_creepDown 55 = .ok (.invokevirtual 177, 3) := by decide +kernel
theorem dX5_creepDown_58 : decode cX5_creepDown 58 = .ok (.aload_n 0, 1) := by decide +kernel
theorem dX5_creepDown_59 : decode cX5_creepDown 59 = .ok (.getfield 25, 3) := by decide +kernel
theorem dX5_creepDown_62 : decode cX5_creepDown 62 = .ok (.iload_n 1, 1) := by decide +kernel
theorem dX5_creepDown_63 : decode cX5_creepDown 63 = .ok (.iconst 1, 1) := by decide +kernel
theorem dX5_creepDown_64 : decode cX5_creepDown 64 = .ok (.iadd, 1) := by decide +kernel
theorem dX5_creepDown_65 : decode cX5_creepDown 65 = .ok (.aaload, 1) := by decide +kernel
theorem dX5_creepDown_66 : decode cX5_creepDown 66 = .ok (.aload_n 2, 1) := by decide +kernel
theorem dX5_creepDown_67 : decode cX5_creepDown 67 = .ok (.getfield 174, 3) := by decide +kernel
theorem dX5_creepDown_70 : decode cX5_creepDown 70 = .ok (.putfield 181, 3) := by decide +kernel
theorem dX5_creepDown_73 : decode cX5_creepDown 73 = .ok (.goto 31, 3) := by decide +kernel
theorem dX5_creepDown_76 : decode cX5_creepDown 76 = .ok (.aload_n 2, 1) := by decide +kernel
theorem dX5_creepDown_77 : decode cX5_creepDown 77 = .ok (.getfield 90, 3) := by decide +kernel
theorem dX5_creepDown_80 : decode cX5_creepDown 80 = .ok (.aload_n 2, 1) := by decide +kernel
theorem dX5_creepDown_81 : decode cX5_creepDown 81 = .ok (.getfield 174, 3) := by decide +kernel
theorem dX5_creepDown_84 : decode cX5_creepDown 84 = .ok (.aconst_null, 1) := by decide +kernel
theorem dX5_creepDown_85 : decode cX5_creepDown 85 = .ok (.invokevirtual 177, 3) := by decide +kernel
theorem dX5_creepDown_88 : decode cX5_creepDown 88 = .ok (.aload_n 0, 1) := by decide +kernel
theorem dX5_creepDown_89 : decode cX5_creepDown 89 = .ok (.getfield 38, 3) := by decide +kernel
theorem dX5_creepDown_92 : decode cX5_creepDown 92 = .ok (.dup, 1) := by decide +kernel
theorem dX5_creepDown_93 : decode cX5_creepDown 93 = .ok (.getfield 139, 3) := by decide +kernel
theorem dX5_creepDown_96 : decode cX5_creepDown 96 = .ok (.aload_n 2, 1) := by decide +kernel
theorem dX5_creepDown_97 : decode cX5_creepDown 97 = .ok (.getfield 174, 3) := by decide +kernel
theorem dX5_creepDown_100 : decode cX5_creepDown 100 = .ok (.iadd, 1) := by decide +kernel
theorem dX5_creepDown_101 : decode cX5_creepDown 101 = .ok (.putfield 139, 3) := by decide +kernel
theorem dX5_creepDown_104 : decode cX5_creepDown 104 = .ok (.iinc 1 (-1), 3) := by decide +kernel
theorem dX5_creepDown_107 : decode cX5_creepDown 107 = .ok (.goto (-100), 3) := by decide +kernel
theorem dX5_creepDown_110 : decode cX5_creepDown 110 = .ok (.return_, 1) := by decide +kernel
theorem dX5_ride_0 : decode cX5_ride 0 = .ok (.aload_n 0, 1) := by decide +kernel
theorem dX5_ride_1 : decode cX5_ride 1 = .ok (.aload_n 1, 1) := by decide +kernel
theorem dX5_ride_2 : decode cX5_ride 2 = .ok (.getfield 103, 3) := by decide +kernel
theorem dX5_ride_5 : decode cX5_ride 5 = .ok (.invokevirtual 184, 3) := by decide +kernel
theorem dX5_ride_8 : decode cX5_ride 8 = .ok (.ifCond .ne 4, 3) := by decide +kernel
theorem dX5_ride_11 : decode cX5_ride 11 = .ok (.return_, 1) := by decide +kernel
theorem dX5_ride_12 : decode cX5_ride 12 = .ok (.aload_n 0, 1) := by decide +kernel
theorem dX5_ride_13 : decode cX5_ride 13 = .ok (.getfield 25, 3) := by decide +kernel
theorem dX5_ride_16 : decode cX5_ride 16 = .ok (.aload_n 1, 1) := by decide +kernel
theorem dX5_ride_17 : decode cX5_ride 17 = .ok (.getfield 103, 3) := by decide +kernel
theorem dX5_ride_20 : decode cX5_ride 20 = .ok (.aaload, 1) := by decide +kernel
theorem dX5_ride_21 : decode cX5_ride 21 = .ok (.astore_n 2, 1) := by decide +kernel
theorem dX5_ride_22 : decode cX5_ride 22 = .ok (.aload_n 1, 1) := by decide +kernel
theorem dX5_ride_23 : decode cX5_ride 23 = .ok (.dup, 1) := by decide +kernel
theorem dX5_ride_24 : decode cX5_ride 24 = .ok (.getfield 188, 3) := by decide +kernel
theorem dX5_ride_27 : decode cX5_ride 27 = .ok (.iconst 1, 1) := by decide +kernel
theorem dX5_ride_28 : decode cX5_ride 28 = .ok (.iadd, 1) := by decide +kernel
theorem dX5_ride_29 : decode cX5_ride 29 = .ok (.putfield 188, 3) := by decide +kernel
theorem dX5_ride_32 : decode cX5_ride 32 = .ok (.aload_n 1, 1) := by decide +kernel
theorem dX5_ride_33 : decode cX5_ride 33 = .ok (.dup, 1) := by decide +kernel
theorem dX5_ride_34 : decode cX5_ride 34 = .ok (.getfield 110, 3) := by decide +kernel
theorem dX5_ride_37 : decode cX5_ride 37 = .ok (.aload_n 0, 1) := by decide +kernel
theorem dX5_ride_38 : decode cX5_ride 38 = .ok (.aload_n 2, 1) := by decide +kernel
theorem dX5_ride_39 : decode cX5_ride 39 = .ok (.getfield 83, 3) := by decide +kernel
theorem dX5_ride_42 : decode cX5_ride 42 = .ok (.invokevirtual 122, 3) := by decide +kernel
theorem dX5_ride_45 : decode cX5_ride 45 = .ok (.aload_n 2, 1) := by decide +kernel
theorem dX5_ride_46 : decode cX5_ride 46 = .ok (.getfield 169, 3) := by decide +kernel
theorem dX5_ride_49 : decode cX5_ride 49 = .ok (.isub, 1) := by decide +kernel
theorem dX5_ride_50 : decode cX5_ride 50 = .ok (.iadd, 1) := by decide +kernel
theorem dX5_ride_51 : decode cX5_ride 51 = .ok (.putfield 110, 3) := by decide +kernel
theorem dX5_ride_54 : decode cX5_ride 54 = .ok (.aload_n 1, 1) := by decide +kernel
theorem dX5_ride_55 : decode cX5_ride 55 = .ok (.getfield 110, 3) := by decide +kernel
theorem dX5_ride_58 : decode cX5_ride 58 = .ok (.aload_n 1, 1) := by decide +kernel
theorem dX5_ride_59 : decode cX5_ride 59 = .ok (.getfield 191, 3) := by decide +kernel
theorem dX5_ride_62 : decode cX5_ride 62 = .ok (.ineg, 1) := by decide +kernel
theorem dX5_ride_63 : decode cX5_ride 63 = .ok (.if_icmp .ge 11, 3) := by decide +kernel
theorem dX5_ride_66 : decode cX5_ride 66 = .ok (.aload_n 1, 1) := by decide +kernel
theorem dX5_ride_67 : decode cX5_ride 67 = .ok (.iconst 1, 1) := by decide +kernel
theorem dX5_ride_68 : decode cX5_ride 68 = .ok (.putfield 100, 3) := by decide +kernel
theorem dX5_ride_71 : decode cX5_ride 71 = .ok (.goto 17, 3) := by decide +kernel
theorem dX5_ride_74 : decode cX5_ride 74 = .ok (.aload_n 0, 1) := by decide +kernel
theorem dX5_ride_75 : decode cX5_ride 75 = .ok (.aload_n 1, 1) := by decide +kernel
theorem dX5_ride_76 : decode cX5_ride 76 = .ok (.aload_n 1, 1) := by decide +kernel
theorem dX5_ride_77 : decode cX5_ride 77 = .ok (.getfield 106, 3) := by decide +kernel
theorem dX5_ride_80 : decode cX5_ride 80 = .ok (.aload_n 2, 1) := by decide +kernel
theorem dX5_ride_81 : decode cX5_ride 81 = .ok (.invokevirtual 194, 3) := by decide +kernel
theorem dX5_ride_84 : decode cX5_ride 84 = .ok (.iadd, 1) := by decide +kernel
theorem dX5_ride_85 : decode cX5_ride 85 = .ok (.invokevirtual 197, 3) := by decide +kernel
theorem dX5_ride_88 : decode cX5_ride 88 = .ok (.return_, 1) := by decide +kernel
theorem dX5_moveDown_0 : decode cX5_moveDown 0 = .ok (.iload_n 2, 1) := by decide +kernel
theorem dX5_moveDown_1 : decode cX5_moveDown 1 = .ok (.istore_n 3, 1) := by decide +kernel
theorem dX5_moveDown_2 : decode cX5_moveDown 2 = .ok (.aload_n 1, 1) := by decide +kernel
theorem dX5_moveDown_3 : decode cX5_moveDown 3 = .ok (.getfield 103, 3) := by decide +kernel
theorem dX5_moveDown_6 : decode cX5_moveDown 6 = .ok (.istore 4, 2) := by decide +kernel
theorem dX5_moveDown_8 : decode cX5_moveDown 8 = .ok (.iload 4, 2) := by decide +kernel
theorem dX5_moveDown_10 : decode cX5_moveDown 10 = .ok (.aload_n 0, 1) := by decide +kernel
theorem dX5_moveDown_11 : decode cX5_moveDown 11 = .ok (.getfield 42, 3) := by decide +kernel
theorem dX5_moveDown_14 : decode cX5_moveDown 14 = .ok (.if_icmp .ge 48, 3) := by decide +kernel
theorem dX5_moveDown_17 : decode cX5_moveDown 17 = .ok (.iload_n 3, 1) := by decide +kernel
theorem dX5_moveDown_18 : decode cX5_moveDown 18 = .ok (.aload_n 0, 1) := by decide +kernel
theorem dX5_moveDown_19 : decode cX5_moveDown 19 = .ok (.getfield 25, 3) := by decide +kernel
theorem dX5_moveDown_22 : decode cX5_moveDown 22 = .ok (.iload 4, 2) := by decide +kernel
theorem dX5_moveDown_24 : decode cX5_moveDown 24 = .ok (.aaload, 1) := by decide +kernel
theorem dX5_moveDown_25 : decode cX5_moveDown 25 = .ok (.getfield 201, 3) := by decide +kernel
theorem dX5_moveDown_28 : decode cX5_moveDown 28 = .ok (.if_icmp .ge 15, 3) := by decide +kernel
theorem dX5_moveDown_31 : decode cX5_moveDown 31 = .ok (.aload_n 1, 1) := by decide +kernel
theorem dX5_moveDown_32 : decode cX5_moveDown 32 = .ok (.iload 4, 2) := by decide +kernel
theorem dX5_moveDown_34 : decode cX5_moveDown 34 = .ok (.putfield 103, 3) := by decide +kernel
theorem dX5_moveDown_37 : decode cX5_moveDown 37 = .ok (.aload_n 1, 1) := by decide +kernel
theorem dX5_moveDown_38 : decode cX5_moveDown 38 = .ok (.iload_n 3, 1) := by decide +kernel
theorem dX5_moveDown_39 : decode cX5_moveDown 39 = .ok (.putfield 106, 3) := by decide +kernel
theorem dX5_moveDown_42 : decode cX5_moveDown 42 = .ok (.return_, 1) := by decide +kernel
theorem dX5_moveDown_43 : decode cX5_moveDown 43 = .ok (.iload_n 3, 1) := by decide +kernel
theorem dX5_moveDown_44 : decode cX5_moveDown 44 = .ok (.aload_n 0, 1) := by decide +kernel
theorem dX5_moveDown_45 : decode cX5_moveDown 45 = .ok (.getfield 25, 3) := by decide +kernel
theorem dX5_moveDown_48 : decode cX5_moveDown 48 = .ok (.iload 4, 2) := by decide +kernel
theorem dX5_moveDown_50 : decode cX5_moveDown 50 = .ok (.aaload, 1) := by decide +kernel
theorem dX5_moveDown_51 : decode cX5_moveDown 51 = .ok (.getfield 201, 3) := by decide +kernel
theorem dX5_moveDown_54 : decode cX5_moveDown 54 = .ok (.isub, 1) := by decide +kernel
theorem dX5_moveDown_55 : decode cX5_moveDown 55 = .ok (.istore_n 3, 1) := by decide +kernel
theorem dX5_moveDown_56 : decode cX5_moveDown 56 = .ok (.iinc 4 1, 3) := by decide +kernel
theorem dX5_moveDown_59 : decode cX5_moveDown 59 = .ok (.goto (-51), 3) := by decide +kernel
theorem dX5_moveDown_62 : decode cX5_moveDown 62 = .ok (.aload_n 1, 1) := by decide +kernel
theorem dX5_moveDown_63 : decode cX5_moveDown 63 = .ok (.iconst 2, 1) := by decide +kernel
theorem dX5_moveDown_64 : decode cX5_moveDown 64 = .ok (.putfield 100, 3) := by decide +kernel
theorem dX5_moveDown_67 : decode cX5_moveDown 67 = .ok (.return_, 1) := by decide +kernel
