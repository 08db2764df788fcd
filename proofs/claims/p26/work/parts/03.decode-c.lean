theorem dX6_init_0 : decode cX6_init 0 = .ok (.aload_n 0, 1) := by decide +kernel
theorem dX6_init_1 : decode cX6_init 1 = .ok (.invokespecial 3, 3) := by decide +kernel
theorem dX6_init_4 : decode cX6_init 4 = .ok (.aload_n 0, 1) := by decide +kernel
theorem dX6_init_5 : decode cX6_init 5 = .ok (.new 9, 3) := by decide +kernel
theorem dX6_init_8 : decode cX6_init 8 = .ok (.dup, 1) := by decide +kernel
theorem dX6_init_9 : decode cX6_init 9 = .ok (.invokespecial 11, 3) := by decide +kernel
theorem dX6_init_12 : decode cX6_init 12 = .ok (.putfield 12, 3) := by decide +kernel
theorem dX6_init_15 : decode cX6_init 15 = .ok (.aload_n 0, 1) := by decide +kernel
theorem dX6_init_16 : decode cX6_init 16 = .ok (.iconst 4, 1) := by decide +kernel
theorem dX6_init_17 : decode cX6_init 17 = .ok (.anewarray 9, 3) := by decide +kernel
theorem dX6_init_20 : decode cX6_init 20 = .ok (.putfield 16, 3) := by decide +kernel
theorem dX6_init_23 : decode cX6_init 23 = .ok (.iconst 0, 1) := by decide +kernel
theorem dX6_init_24 : decode cX6_init 24 = .ok (.istore_n 1, 1) := by decide +kernel
theorem dX6_init_25 : decode cX6_init 25 = .ok (.iload_n 1, 1) := by decide +kernel
theorem dX6_init_26 : decode cX6_init 26 = .ok (.aload_n 0, 1) := by decide +kernel
theorem dX6_init_27 : decode cX6_init 27 = .ok (.getfield 16, 3) := by decide +kernel
theorem dX6_init_30 : decode cX6_init 30 = .ok (.arraylength, 1) := by decide +kernel
theorem dX6_init_31 : decode cX6_init 31 = .ok (.if_icmp .ge 22, 3) := by decide +kernel
theorem dX6_init_34 : decode cX6_init 34 = .ok (.aload_n 0, 1) := by decide +kernel
theorem dX6_init_35 : decode cX6_init 35 = .ok (.getfield 16, 3) := by decide +kernel
theorem dX6_init_38 : decode cX6_init 38 = .ok (.iload_n 1, 1) := by decide +kernel
theorem dX6_init_39 : decode cX6_init 39 = .ok (.new 9, 3) := by decide +kernel
theorem dX6_init_42 : decode cX6_init 42 = .ok (.dup, 1) := by decide +kernel
theorem dX6_init_43 : decode cX6_init 43 = .ok (.invokespecial 11, 3) := by decide +kernel
theorem dX6_init_46 : decode cX6_init 46 = .ok (.aastore, 1) := by decide +kernel
theorem dX6_init_47 : decode cX6_init 47 = .ok (.iinc 1 1, 3) := by decide +kernel
theorem dX6_init_50 : decode cX6_init 50 = .ok (.goto (-25), 3) := by decide +kernel
theorem dX6_init_53 : decode cX6_init 53 = .ok (.aload_n 0, 1) := by decide +kernel
theorem dX6_init_54 : decode cX6_init 54 = .ok (.new 20, 3) := by decide +kernel
theorem dX6_init_57 : decode cX6_init 57 = .ok (.dup, 1) := by decide +kernel
theorem dX6_init_58 : decode cX6_init 58 = .ok (.invokespecial 22, 3) := by decide +kernel
theorem dX6_init_61 : decode cX6_init 61 = .ok (.putfield 23, 3) := by decide +kernel
theorem dX6_init_64 : decode cX6_init 64 = .ok (.aload_n 0, 1) := by decide +kernel
theorem dX6_init_65 : decode cX6_init 65 = .ok (.new 9, 3) := by decide +kernel
theorem dX6_init_68 : decode cX6_init 68 = .ok (.dup, 1) := by decide +kernel
theorem dX6_init_69 : decode cX6_init 69 = .ok (.invokespecial 11, 3) := by decide +kernel
theorem dX6_init_72 : decode cX6_init 72 = .ok (.putfield 27, 3) := by decide +kernel
theorem dX6_init_75 : decode cX6_init 75 = .ok (.aload_n 0, 1) := by decide +kernel
theorem dX6_init_76 : decode cX6_init 76 = .ok (.iconst 0, 1) := by decide +kernel
theorem dX6_init_77 : decode cX6_init 77 = .ok (.putfield 30, 3) := by decide +kernel
theorem dX6_init_80 : decode cX6_init 80 = .ok (.return_, 1) := by decide +kernel
theorem dX6_set_0 : decode cX6_set 0 = .ok (.iload_n 1, 1) := by decide +kernel
theorem dX6_set_1 : decode cX6_set 1 = .ok (.iconst 0, 1) := by decide +kernel
theorem dX6_set_2 : decode cX6_set 2 = .ok (.bipush 6, 2) := by decide +kernel
theorem dX6_set_4 : decode cX6_set 4 = .ok (.invokestatic 34, 3) := by decide +kernel
theorem dX6_set_7 : decode cX6_set 7 = .ok (.ifCond .ne 6, 3) := by decide +kernel
theorem dX6_set_10 : decode cX6_set 10 = .ok (.ldc 38, 2) := by decide +kernel
theorem dX6_set_12 : decode cX6_set 12 = .ok (.ireturn, 1) := by decide +kernel
theorem dX6_set_13 : decode cX6_set 13 = .ok (.iload_n 2, 1) := by decide +kernel
theorem dX6_set_14 : decode cX6_set 14 = .ok (.getstatic 39, 3) := by decide +kernel
theorem dX6_set_17 : decode cX6_set 17 = .ok (.iload_n 1, 1) := by decide +kernel
theorem dX6_set_18 : decode cX6_set 18 = .ok (.iaload, 1) := by decide +kernel
theorem dX6_set_19 : decode cX6_set 19 = .ok (.getstatic 43, 3) := by decide +kernel
theorem dX6_set_22 : decode cX6_set 22 = .ok (.iload_n 1, 1) := by decide +kernel
theorem dX6_set_23 : decode cX6_set 23 = .ok (.iaload, 1) := by decide +kernel
theorem dX6_set_24 : decode cX6_set 24 = .ok (.invokestatic 34, 3) := by decide +kernel
theorem dX6_set_27 : decode cX6_set 27 = .ok (.ifCond .ne 6, 3) := by decide +kernel
theorem dX6_set_30 : decode cX6_set 30 = .ok (.ldc 38, 2) := by decide +kernel
theorem dX6_set_32 : decode cX6_set 32 = .ok (.ireturn, 1) := by decide +kernel
theorem dX6_set_33 : decode cX6_set 33 = .ok (.aload_n 0, 1) := by decide +kernel
theorem dX6_set_34 : decode cX6_set 34 = .ok (.invokevirtual 46, 3) := by decide +kernel
theorem dX6_set_37 : decode cX6_set 37 = .ok (.aload_n 0, 1) := by decide +kernel
theorem dX6_set_38 : decode cX6_set 38 = .ok (.getfield 27, 3) := by decide +kernel
theorem dX6_set_41 : decode cX6_set 41 = .ok (.getfield 49, 3) := by decide +kernel
theorem dX6_set_44 : decode cX6_set 44 = .ok (.iload_n 1, 1) := by decide +kernel
theorem dX6_set_45 : decode cX6_set 45 = .ok (.iaload, 1) := by decide +kernel
theorem dX6_set_46 : decode cX6_set 46 = .ok (.istore_n 3, 1) := by decide +kernel
theorem dX6_set_47 : decode cX6_set 47 = .ok (.aload_n 0, 1) := by decide +kernel
theorem dX6_set_48 : decode cX6_set 48 = .ok (.getfield 27, 3) := by decide +kernel
theorem dX6_set_51 : decode cX6_set 51 = .ok (.getfield 49, 3) := by decide +kernel
theorem dX6_set_54 : decode cX6_set 54 = .ok (.iload_n 1, 1) := by decide +kernel
theorem dX6_set_55 : decode cX6_set 55 = .ok (.iload_n 2, 1) := by decide +kernel
theorem dX6_set_56 : decode cX6_set 56 = .ok (.iastore, 1) := by decide +kernel
theorem dX6_set_57 : decode cX6_set 57 = .ok (.iload_n 3, 1) := by decide +kernel
theorem dX6_set_58 : decode cX6_set 58 = .ok (.ireturn, 1) := by decide +kernel
theorem dX6_band_0 : decode cX6_band 0 = .ok (.iload_n 1, 1) := by decide +kernel
theorem dX6_band_1 : decode cX6_band 1 = .ok (.iconst 0, 1) := by decide +kernel
theorem dX6_band_2 : decode cX6_band 2 = .ok (.sipush 5000, 3) := by decide +kernel
theorem dX6_band_5 : decode cX6_band 5 = .ok (.invokestatic 34, 3) := by decide +kernel
theorem dX6_band_8 : decode cX6_band 8 = .ok (.ifCond .eq 37, 3) := by decide +kernel
theorem dX6_band_11 : decode cX6_band 11 = .ok (.iload_n 2, 1) := by decide +kernel
theorem dX6_band_12 : decode cX6_band 12 = .ok (.bipush 100, 2) := by decide +kernel
theorem dX6_band_14 : decode cX6_band 14 = .ok (.sipush 5000, 3) := by decide +kernel
theorem dX6_band_17 : decode cX6_band 17 = .ok (.invokestatic 34, 3) := by decide +kernel
theorem dX6_band_20 : decode cX6_band 20 = .ok (.ifCond .eq 25, 3) := by decide +kernel
theorem dX6_band_23 : decode cX6_band 23 = .ok (.iload_n 3, 1) := by decide +kernel
theorem dX6_band_24 : decode cX6_band 24 = .ok (.iconst 0, 1) := by decide +kernel
theorem dX6_band_25 : decode cX6_band 25 = .ok (.sipush 500, 3) := by decide +kernel
theorem dX6_band_28 : decode cX6_band 28 = .ok (.invokestatic 34, 3) := by decide +kernel
theorem dX6_band_31 : decode cX6_band 31 = .ok (.ifCond .eq 14, 3) := by decide +kernel
theorem dX6_band_34 : decode cX6_band 34 = .ok (.iload 4, 2) := by decide +kernel
theorem dX6_band_36 : decode cX6_band 36 = .ok (.iconst 0, 1) := by decide +kernel
theorem dX6_band_37 : decode cX6_band 37 = .ok (.ldc 52, 2) := by decide +kernel
theorem dX6_band_39 : decode cX6_band 39 = .ok (.invokestatic 34, 3) := by decide +kernel
theorem dX6_band_42 : decode cX6_band 42 = .ok (.ifCond .ne 6, 3) := by decide +kernel
theorem dX6_band_45 : decode cX6_band 45 = .ok (.ldc 38, 2) := by decide +kernel
theorem dX6_band_47 : decode cX6_band 47 = .ok (.ireturn, 1) := by decide +kernel
theorem dX6_band_48 : decode cX6_band 48 = .ok (.aload_n 0, 1) := by decide +kernel
theorem dX6_band_49 : decode cX6_band 49 = .ok (.getfield 27, 3) := by decide +kernel
theorem dX6_band_52 : decode cX6_band 52 = .ok (.iload_n 1, 1) := by decide +kernel
theorem dX6_band_53 : decode cX6_band 53 = .ok (.invokevirtual 53, 3) := by decide +kernel
theorem dX6_band_56 : decode cX6_band 56 = .ok (.ifCond .ne 6, 3) := by decide +kernel
theorem dX6_band_59 : decode cX6_band 59 = .ok (.ldc 57, 2) := by decide +kernel
theorem dX6_band_61 : decode cX6_band 61 = .ok (.ireturn, 1) := by decide +kernel
theorem dX6_band_62 : decode cX6_band 62 = .ok (.aload_n 0, 1) := by decide +kernel
theorem dX6_band_63 : decode cX6_band 63 = .ok (.getfield 27, 3) := by decide +kernel
theorem dX6_band_66 : decode cX6_band 66 = .ok (.getfield 58, 3) := by decide +kernel
theorem dX6_band_69 : decode cX6_band 69 = .ok (.bipush 10, 2) := by decide +kernel
theorem dX6_band_71 : decode cX6_band 71 = .ok (.if_icmp .lt 6, 3) := by decide +kernel
theorem dX6_band_74 : decode cX6_band 74 = .ok (.ldc 61, 2) := by decide +kernel
theorem dX6_band_76 : decode cX6_band 76 = .ok (.ireturn, 1) := by decide +kernel
theorem dX6_band_77 : decode cX6_band 77 = .ok (.aload_n 0, 1) := by decide +kernel
theorem dX6_band_78 : decode cX6_band 78 = .ok (.invokevirtual 46, 3) := by decide +kernel
theorem dX6_band_81 : decode cX6_band 81 = .ok (.aload_n 0, 1) := by decide +kernel
theorem dX6_band_82 : decode cX6_band 82 = .ok (.getfield 27, 3) := by decide +kernel
theorem dX6_band_85 : decode cX6_band 85 = .ok (.iload_n 1, 1) := by decide +kernel
theorem dX6_band_86 : decode cX6_band 86 = .ok (.iload_n 2, 1) := by decide +kernel
theorem dX6_band_87 : decode cX6_band 87 = .ok (.iload_n 3, 1) := by decide +kernel
theorem dX6_band_88 : decode cX6_band 88 = .ok (.iload 4, 2) := by decide +kernel
theorem dX6_band_90 : decode cX6_band 90 = .ok (.invokevirtual 62, 3) := by decide +kernel
theorem dX6_band_93 : decode cX6_band 93 = .ok (.ireturn, 1) := by decide +kernel
theorem dX6_creep_0 : decode cX6_creep 0 = .ok (.aload_n 0, 1) := by decide +kernel
theorem dX6_creep_1 : decode cX6_creep 1 = .ok (.getfield 27, 3) := by decide +kernel
theorem dX6_creep_4 : decode cX6_creep 4 = .ok (.iload_n 1, 1) := by decide +kernel
theorem dX6_creep_5 : decode cX6_creep 5 = .ok (.invokevirtual 66, 3) := by decide +kernel
theorem dX6_creep_8 : decode cX6_creep 8 = .ok (.ifCond .eq 14, 3) := by decide +kernel
theorem dX6_creep_11 : decode cX6_creep 11 = .ok (.iload_n 2, 1) := by decide +kernel
theorem dX6_creep_12 : decode cX6_creep 12 = .ok (.iconst 0, 1) := by decide +kernel
theorem dX6_creep_13 : decode cX6_creep 13 = .ok (.sipush 500, 3) := by decide +kernel
theorem dX6_creep_16 : decode cX6_creep 16 = .ok (.invokestatic 34, 3) := by decide +kernel
theorem dX6_creep_19 : decode cX6_creep 19 = .ok (.ifCond .ne 6, 3) := by decide +kernel
theorem dX6_creep_22 : decode cX6_creep 22 = .ok (.ldc 38, 2) := by decide +kernel
theorem dX6_creep_24 : decode cX6_creep 24 = .ok (.ireturn, 1) := by decide +kernel
theorem dX6_creep_25 : decode cX6_creep 25 = .ok (.aload_n 0, 1) := by decide +kernel
theorem dX6_creep_26 : decode cX6_creep 26 = .ok (.invokevirtual 46, 3) := by decide +kernel
theorem dX6_creep_29 : decode cX6_creep 29 = .ok (.aload_n 0, 1) := by decide +kernel
theorem dX6_creep_30 : decode cX6_creep 30 = .ok (.getfield 27, 3) := by decide +kernel
theorem dX6_creep_33 : decode cX6_creep 33 = .ok (.getfield 69, 3) := by decide +kernel
theorem dX6_creep_36 : decode cX6_creep 36 = .ok (.iload_n 1, 1) := by decide +kernel
theorem dX6_creep_37 : decode cX6_creep 37 = .ok (.aaload, 1) := by decide +kernel
theorem dX6_creep_38 : decode cX6_creep 38 = .ok (.getfield 73, 3) := by decide +kernel
theorem dX6_creep_41 : decode cX6_creep 41 = .ok (.istore_n 3, 1) := by decide +kernel
theorem dX6_creep_42 : decode cX6_creep 42 = .ok (.aload_n 0, 1) := by decide +kernel
theorem dX6_creep_43 : decode cX6_creep 43 = .ok (.getfield 27, 3) := by decide +kernel
theorem dX6_creep_46 : decode cX6_creep 46 = .ok (.getfield 69, 3) := by decide +kernel
theorem dX6_creep_49 : decode cX6_creep 49 = .ok (.iload_n 1, 1) := by decide +kernel
theorem dX6_creep_50 : decode cX6_creep 50 = .ok (.aaload, 1) := by decide +kernel
theorem dX6_creep_51 : decode cX6_creep 51 = .ok (.iload_n 2, 1) := by decide +kernel
theorem dX6_creep_52 : decode cX6_creep 52 = .ok (.putfield 73, 3) := by decide +kernel
theorem dX6_creep_55 : decode cX6_creep 55 = .ok (.iload_n 3, 1) := by decide +kernel
theorem dX6_creep_56 : decode cX6_creep 56 = .ok (.ireturn, 1) := by decide +kernel
theorem dX6_bandInfo_0 : decode cX6_bandInfo 0 = .ok (.aload_n 0, 1) := by decide +kernel
theorem dX6_bandInfo_1 : decode cX6_bandInfo 1 = .ok (.getfield 27, 3) := by decide +kernel
theorem dX6_bandInfo_4 : decode cX6_bandInfo 4 = .ok (.iload_n 1, 1) := by decide +kernel
theorem dX6_bandInfo_5 : decode cX6_bandInfo 5 = .ok (.invokevirtual 66, 3) := by decide +kernel
theorem dX6_bandInfo_8 : decode cX6_bandInfo 8 = .ok (.ifCond .eq 13, 3) := by decide +kernel
theorem dX6_bandInfo_11 : decode cX6_bandInfo 11 = .ok (.iload_n 2, 1) := by decide +kernel
theorem dX6_bandInfo_12 : decode cX6_bandInfo 12 = .ok (.iconst 0, 1) := by decide +kernel
theorem dX6_bandInfo_13 : decode cX6_bandInfo 13 = .ok (.bipush 11, 2) := by decide +kernel
theorem dX6_bandInfo_15 : decode cX6_bandInfo 15 = .ok (.invokestatic 34, 3) := by decide +kernel
theorem dX6_bandInfo_18 : decode cX6_bandInfo 18 = .ok (.ifCond .ne 6, 3) := by decide +kernel
theorem dX6_bandInfo_21 : decode cX6_bandInfo 21 = .ok (.ldc 38, 2) := by decide +kernel
theorem dX6_bandInfo_23 : decode cX6_bandInfo 23 = .ok (.ireturn, 1) := by decide +kernel
theorem dX6_bandInfo_24 : decode cX6_bandInfo 24 = .ok (.aload_n 0, 1) := by decide +kernel
theorem dX6_bandInfo_25 : decode cX6_bandInfo 25 = .ok (.getfield 27, 3) := by decide +kernel
theorem dX6_bandInfo_28 : decode cX6_bandInfo 28 = .ok (.getfield 69, 3) := by decide +kernel
theorem dX6_bandInfo_31 : decode cX6_bandInfo 31 = .ok (.iload_n 1, 1) := by decide +kernel
theorem dX6_bandInfo_32 : decode cX6_bandInfo 32 = .ok (.aaload, 1) := by decide +kernel
theorem dX6_bandInfo_33 : decode cX6_bandInfo 33 = .ok (.astore_n 3, 1) := by decide +kernel
theorem dX6_bandInfo_34 : decode cX6_bandInfo 34 = .ok (.iload_n 2, 1) := by decide +kernel
theorem dX6_bandInfo_35 : decode cX6_bandInfo 35 = .ok (.tableswitch 177 0 10 #[57, 62, 67, 72, 80, 88, 111, 134, 146, 167, 172], 57) := by decide +kernel
theorem dX6_bandInfo_92 : decode cX6_bandInfo 92 = .ok (.aload_n 3, 1) := by decide +kernel
theorem dX6_bandInfo_93 : decode cX6_bandInfo 93 = .ok (.getfield 78, 3) := by decide +kernel
theorem dX6_bandInfo_96 : decode cX6_bandInfo 96 = .ok (.ireturn, 1) := by decide +kernel
theorem dX6_bandInfo_97 : decode cX6_bandInfo 97 = .ok (.aload_n 3, 1) := by decide +kernel
theorem dX6_bandInfo_98 : decode cX6_bandInfo 98 = .ok (.getfield 81, 3) := by decide +kernel
theorem dX6_bandInfo_101 : decode cX6_bandInfo 101 = .ok (.ireturn, 1) := by decide +kernel
theorem dX6_bandInfo_102 : decode cX6_bandInfo 102 = .ok (.aload_n 3, 1) := by decide +kernel
theorem dX6_bandInfo_103 : decode cX6_bandInfo 103 = .ok (.getfield 73, 3) := by decide +kernel
theorem dX6_bandInfo_106 : decode cX6_bandInfo 106 = .ok (.ireturn, 1) := by decide +kernel
theorem dX6_bandInfo_107 : decode cX6_bandInfo 107 = .ok (.aload_n 3, 1) := by decide +kernel
theorem dX6_bandInfo_108 : decode cX6_bandInfo 108 = .ok (.getfield 84, 3) := by decide +kernel
theorem dX6_bandInfo_111 : decode cX6_bandInfo 111 = .ok (.getfield 88, 3) := by decide +kernel
theorem dX6_bandInfo_114 : decode cX6_bandInfo 114 = .ok (.ireturn, 1) := by decide +kernel
theorem dX6_bandInfo_115 : decode cX6_bandInfo 115 = .ok (.aload_n 3, 1) := by decide +kernel
theorem dX6_bandInfo_116 : decode cX6_bandInfo 116 = .ok (.getfield 84, 3) := by decide +kernel
theorem dX6_bandInfo_119 : decode cX6_bandInfo 119 = .ok (.invokevirtual 93, 3) := by decide +kernel
theorem dX6_bandInfo_122 : decode cX6_bandInfo 122 = .ok (.ireturn, 1) := by decide +kernel
theorem dX6_bandInfo_123 : decode cX6_bandInfo 123 = .ok (.aload_n 3, 1) := by decide +kernel
theorem dX6_bandInfo_124 : decode cX6_bandInfo 124 = .ok (.getfield 84, 3) := by decide +kernel
theorem dX6_bandInfo_127 : decode cX6_bandInfo 127 = .ok (.getfield 88, 3) := by decide +kernel
theorem dX6_bandInfo_130 : decode cX6_bandInfo 130 = .ok (.ifCond .ne 8, 3) := by decide +kernel
theorem dX6_bandInfo_133 : decode cX6_bandInfo 133 = .ok (.ldc 97, 2) := by decide +kernel
theorem dX6_bandInfo_135 : decode cX6_bandInfo 135 = .ok (.goto 10, 3) := by decide +kernel
theorem dX6_bandInfo_138 : decode cX6_bandInfo 138 = .ok (.aload_n 3, 1) := by decide +kernel
theorem dX6_bandInfo_139 : decode cX6_bandInfo 139 = .ok (.getfield 84, 3) := by decide +kernel
theorem dX6_bandInfo_142 : decode cX6_bandInfo 142 = .ok (.getfield 98, 3) := by decide +kernel
theorem dX6_bandInfo_145 : decode cX6_bandInfo 145 = .ok (.ireturn, 1) := by decide +kernel
theorem dX6_bandInfo_146 : decode cX6_bandInfo 146 = .ok (.aload_n 3, 1) := by decide +kernel
theorem dX6_bandInfo_147 : decode cX6_bandInfo 147 = .ok (.getfield 84, 3) := by decide +kernel
theorem dX6_bandInfo_150 : decode cX6_bandInfo 150 = .ok (.getfield 88, 3) := by decide +kernel
theorem dX6_bandInfo_153 : decode cX6_bandInfo 153 = .ok (.ifCond .ne 8, 3) := by decide +kernel
theorem dX6_bandInfo_156 : decode cX6_bandInfo 156 = .ok (.ldc 97, 2) := by decide +kernel
theorem dX6_bandInfo_158 : decode cX6_bandInfo 158 = .ok (.goto 10, 3) := by decide +kernel
theorem dX6_bandInfo_161 : decode cX6_bandInfo 161 = .ok (.aload_n 3, 1) := by decide +kernel
theorem dX6_bandInfo_162 : decode cX6_bandInfo 162 = .ok (.getfield 84, 3) := by decide +kernel
theorem dX6_bandInfo_165 : decode cX6_bandInfo 165 = .ok (.getfield 101, 3) := by decide +kernel
theorem dX6_bandInfo_168 : decode cX6_bandInfo 168 = .ok (.ireturn, 1) := by decide +kernel
theorem dX6_bandInfo_169 : decode cX6_bandInfo 169 = .ok (.aload_n 0, 1) := by decide +kernel
theorem dX6_bandInfo_170 : decode cX6_bandInfo 170 = .ok (.getfield 27, 3) := by decide +kernel
theorem dX6_bandInfo_173 : decode cX6_bandInfo 173 = .ok (.aload_n 3, 1) := by decide +kernel
theorem dX6_bandInfo_174 : decode cX6_bandInfo 174 = .ok (.getfield 78, 3) := by decide +kernel
theorem dX6_bandInfo_177 : decode cX6_bandInfo 177 = .ok (.invokevirtual 104, 3) := by decide +kernel
theorem dX6_bandInfo_180 : decode cX6_bandInfo 180 = .ok (.ireturn, 1) := by decide +kernel
theorem dX6_bandInfo_181 : decode cX6_bandInfo 181 = .ok (.aload_n 0, 1) := by decide +kernel
theorem dX6_bandInfo_182 : decode cX6_bandInfo 182 = .ok (.getfield 27, 3) := by decide +kernel
theorem dX6_bandInfo_185 : decode cX6_bandInfo 185 = .ok (.aload_n 3, 1) := by decide +kernel
theorem dX6_bandInfo_186 : decode cX6_bandInfo 186 = .ok (.getfield 78, 3) := by decide +kernel
theorem dX6_bandInfo_189 : decode cX6_bandInfo 189 = .ok (.aload_n 0, 1) := by decide +kernel
theorem dX6_bandInfo_190 : decode cX6_bandInfo 190 = .ok (.getfield 27, 3) := by decide +kernel
theorem dX6_bandInfo_193 : decode cX6_bandInfo 193 = .ok (.getfield 49, 3) := by decide +kernel
theorem dX6_bandInfo_196 : decode cX6_bandInfo 196 = .ok (.iconst 2, 1) := by decide +kernel
theorem dX6_bandInfo_197 : decode cX6_bandInfo 197 = .ok (.iaload, 1) := by decide +kernel
theorem dX6_bandInfo_198 : decode cX6_bandInfo 198 = .ok (.invokevirtual 108, 3) := by decide +kernel
theorem dX6_bandInfo_201 : decode cX6_bandInfo 201 = .ok (.ireturn, 1) := by decide +kernel
theorem dX6_bandInfo_202 : decode cX6_bandInfo 202 = .ok (.aload_n 3, 1) := by decide +kernel
theorem dX6_bandInfo_203 : decode cX6_bandInfo 203 = .ok (.getfield 112, 3) := by decide +kernel
theorem dX6_bandInfo_206 : decode cX6_bandInfo 206 = .ok (.ireturn, 1) := by decide +kernel
theorem dX6_bandInfo_207 : decode cX6_bandInfo 207 = .ok (.aload_n 3, 1) := by decide +kernel
theorem dX6_bandInfo_208 : decode cX6_bandInfo 208 = .ok (.getfield 115, 3) := by decide +kernel
theorem dX6_bandInfo_211 : decode cX6_bandInfo 211 = .ok (.ireturn, 1) := by decide +kernel
theorem dX6_bandInfo_212 : decode cX6_bandInfo 212 = .ok (.aload_n 3, 1) := by decide +kernel
theorem dX6_bandInfo_213 : decode cX6_bandInfo 213 = .ok (.getfield 118, 3) := by decide +kernel
theorem dX6_bandInfo_216 : decode cX6_bandInfo 216 = .ok (.ireturn, 1) := by decide +kernel
theorem dX6_layer_0 : decode cX6_layer 0 = .ok (.aload_n 0, 1) := by decide +kernel
theorem dX6_layer_1 : decode cX6_layer 1 = .ok (.getfield 27, 3) := by decide +kernel
theorem dX6_layer_4 : decode cX6_layer 4 = .ok (.iload_n 1, 1) := by decide +kernel
theorem dX6_layer_5 : decode cX6_layer 5 = .ok (.invokevirtual 66, 3) := by decide +kernel
theorem dX6_layer_8 : decode cX6_layer 8 = .ok (.ifCond .eq 16, 3) := by decide +kernel
theorem dX6_layer_11 : decode cX6_layer 11 = .ok (.iload_n 2, 1) := by decide +kernel
theorem dX6_layer_12 : decode cX6_layer 12 = .ok (.ifCond .lt 12, 3) := by decide +kernel
theorem dX6_layer_15 : decode cX6_layer 15 = .ok (.iload_n 3, 1) := by decide +kernel
theorem dX6_layer_16 : decode cX6_layer 16 = .ok (.iconst 0, 1) := by decide +kernel
theorem dX6_layer_17 : decode cX6_layer 17 = .ok (.iconst 1, 1) := by decide +kernel
theorem dX6_layer_18 : decode cX6_layer 18 = .ok (.invokestatic 34, 3) := by decide +kernel
theorem dX6_layer_21 : decode cX6_layer 21 = .ok (.ifCond .ne 6, 3) := by decide +kernel
theorem dX6_layer_24 : decode cX6_layer 24 = .ok (.ldc 38, 2) := by decide +kernel
theorem dX6_layer_26 : decode cX6_layer 26 = .ok (.ireturn, 1) := by decide +kernel
theorem dX6_layer_27 : decode cX6_layer 27 = .ok (.aload_n 0, 1) := by decide +kernel
theorem dX6_layer_28 : decode cX6_layer 28 = .ok (.getfield 27, 3) := by decide +kernel
theorem dX6_layer_31 : decode cX6_layer 31 = .ok (.getfield 69, 3) := by decide +kernel
theorem dX6_layer_34 : decode cX6_layer 34 = .ok (.iload_n 1, 1) := by decide +kernel
theorem dX6_layer_35 : decode cX6_layer 35 = .ok (.aaload, 1) := by decide +kernel
theorem dX6_layer_36 : decode cX6_layer 36 = .ok (.getfield 84, 3) := by decide +kernel
theorem dX6_layer_39 : decode cX6_layer 39 = .ok (.astore 4, 2) := by decide +kernel
theorem dX6_layer_41 : decode cX6_layer 41 = .ok (.aload 4, 2) := by decide +kernel
theorem dX6_layer_43 : decode cX6_layer 43 = .ok (.iload_n 2, 1) := by decide +kernel
theorem dX6_layer_44 : decode cX6_layer 44 = .ok (.invokevirtual 121, 3) := by decide +kernel
theorem dX6_layer_47 : decode cX6_layer 47 = .ok (.istore 5, 2) := by decide +kernel
theorem dX6_layer_49 : decode cX6_layer 49 = .ok (.iload 5, 2) := by decide +kernel
theorem dX6_layer_51 : decode cX6_layer 51 = .ok (.ifCond .ge 6, 3) := by decide +kernel
theorem dX6_layer_54 : decode cX6_layer 54 = .ok (.ldc 97, 2) := by decide +kernel
theorem dX6_layer_56 : decode cX6_layer 56 = .ok (.ireturn, 1) := by decide +kernel
theorem dX6_layer_57 : decode cX6_layer 57 = .ok (.iload_n 3, 1) := by decide +kernel
theorem dX6_layer_58 : decode cX6_layer 58 = .ok (.ifCond .ne 8, 3) := by decide +kernel
theorem dX6_layer_61 : decode cX6_layer 61 = .ok (.iload 5, 2) := by decide +kernel
theorem dX6_layer_63 : decode cX6_layer 63 = .ok (.goto 10, 3) := by decide +kernel
theorem dX6_layer_66 : decode cX6_layer 66 = .ok (.aload 4, 2) := by decide +kernel
theorem dX6_layer_68 : decode cX6_layer 68 = .ok (.iload 5, 2) := by decide +kernel
theorem dX6_layer_70 : decode cX6_layer 70 = .ok (.invokevirtual 124, 3) := by decide +kernel
theorem dX6_layer_73 : decode cX6_layer 73 = .ok (.ireturn, 1) := by decide +kernel
theorem dX6_ofYear_0 : decode cX6_ofYear 0 = .ok (.iload_n 1, 1) := by decide +kernel
theorem dX6_ofYear_1 : decode cX6_ofYear 1 = .ok (.iconst 0, 1) := by decide +kernel
theorem dX6_ofYear_2 : decode cX6_ofYear 2 = .ok (.sipush 500, 3) := by decide +kernel
theorem dX6_ofYear_5 : decode cX6_ofYear 5 = .ok (.invokestatic 34, 3) := by decide +kernel
theorem dX6_ofYear_8 : decode cX6_ofYear 8 = .ok (.ifCond .ne 6, 3) := by decide +kernel
theorem dX6_ofYear_11 : decode cX6_ofYear 11 = .ok (.ldc 38, 2) := by decide +kernel
theorem dX6_ofYear_13 : decode cX6_ofYear 13 = .ok (.ireturn, 1) := by decide +kernel
theorem dX6_ofYear_14 : decode cX6_ofYear 14 = .ok (.aload_n 0, 1) := by decide +kernel
theorem dX6_ofYear_15 : decode cX6_ofYear 15 = .ok (.getfield 27, 3) := by decide +kernel
theorem dX6_ofYear_18 : decode cX6_ofYear 18 = .ok (.iload_n 1, 1) := by decide +kernel
theorem dX6_ofYear_19 : decode cX6_ofYear 19 = .ok (.invokevirtual 127, 3) := by decide +kernel
theorem dX6_ofYear_22 : decode cX6_ofYear 22 = .ok (.ireturn, 1) := by decide +kernel
theorem dX6_line_0 : decode cX6_line 0 = .ok (.aload_n 0, 1) := by decide +kernel
theorem dX6_line_1 : decode cX6_line 1 = .ok (.getfield 27, 3) := by decide +kernel
theorem dX6_line_4 : decode cX6_line 4 = .ok (.getfield 58, 3) := by decide +kernel
theorem dX6_line_7 : decode cX6_line 7 = .ok (.iconst 1, 1) := by decide +kernel
theorem dX6_line_8 : decode cX6_line 8 = .ok (.isub, 1) := by decide +kernel
theorem dX6_line_9 : decode cX6_line 9 = .ok (.istore_n 1, 1) := by decide +kernel
theorem dX6_line_10 : decode cX6_line 10 = .ok (.iload_n 1, 1) := by decide +kernel
theorem dX6_line_11 : decode cX6_line 11 = .ok (.ifCond .lt 52, 3) := by decide +kernel
theorem dX6_line_14 : decode cX6_line 14 = .ok (.aload_n 0, 1) := by decide +kernel
theorem dX6_line_15 : decode cX6_line 15 = .ok (.getfield 27, 3) := by decide +kernel
theorem dX6_line_18 : decode cX6_line 18 = .ok (.getfield 69, 3) := by decide +kernel
theorem dX6_line_21 : decode cX6_line 21 = .ok (.iload_n 1, 1) := by decide +kernel
theorem dX6_line_22 : decode cX6_line 22 = .ok (.aaload, 1) := by decide +kernel
theorem dX6_line_23 : decode cX6_line 23 = .ok (.getfield 78, 3) := by decide +kernel
theorem dX6_line_26 : decode cX6_line 26 = .ok (.istore_n 2, 1) := by decide +kernel
theorem dX6_line_27 : decode cX6_line 27 = .ok (.aload_n 0, 1) := by decide +kernel
theorem dX6_line_28 : decode cX6_line 28 = .ok (.getfield 27, 3) := by decide +kernel
theorem dX6_line_31 : decode cX6_line 31 = .ok (.iload_n 2, 1) := by decide +kernel
theorem dX6_line_32 : decode cX6_line 32 = .ok (.invokevirtual 104, 3) := by decide +kernel
theorem dX6_line_35 : decode cX6_line 35 = .ok (.aload_n 0, 1) := by decide +kernel
theorem dX6_line_36 : decode cX6_line 36 = .ok (.getfield 27, 3) := by decide +kernel
theorem dX6_line_39 : decode cX6_line 39 = .ok (.iload_n 2, 1) := by decide +kernel
theorem dX6_line_40 : decode cX6_line 40 = .ok (.aload_n 0, 1) := by decide +kernel
theorem dX6_line_41 : decode cX6_line 41 = .ok (.getfield 27, 3) := by decide +kernel
theorem dX6_line_44 : decode cX6_line 44 = .ok (.getfield 49, 3) := by decide +kernel
theorem dX6_line_47 : decode cX6_line 47 = .ok (.iconst 2, 1) := by decide +kernel
theorem dX6_line_48 : decode cX6_line 48 = .ok (.iaload, 1) := by decide +kernel
theorem dX6_line_49 : decode cX6_line 49 = .ok (.invokevirtual 108, 3) := by decide +kernel
theorem dX6_line_52 : decode cX6_line 52 = .ok (.if_icmp .lt 5, 3) := by decide +kernel
theorem dX6_line_55 : decode cX6_line 55 = .ok (.iload_n 1, 1) := by decide +kernel
theorem dX6_line_56 : decode cX6_line 56 = .ok (.ireturn, 1) := by decide +kernel
theorem dX6_line_57 : decode cX6_line 57 = .ok (.iinc 1 (-1), 3) := by decide +kernel
theorem dX6_line_60 : decode cX6_line 60 = .ok (.goto (-50), 3) := by decide +kernel
theorem dX6_line_63 : decode cX6_line 63 = .ok (.ldc 97, 2) := by decide +kernel
theorem dX6_line_65 : decode cX6_line 65 = .ok (.ireturn, 1) := by decide +kernel
theorem dX6_front_0 : decode cX6_front 0 = .ok (.iload_n 1, 1) := by decide +kernel
theorem dX6_front_1 : decode cX6_front 1 = .ok (.iconst 0, 1) := by decide +kernel
theorem dX6_front_2 : decode cX6_front 2 = .ok (.iconst 3, 1) := by decide +kernel
theorem dX6_front_3 : decode cX6_front 3 = .ok (.invokestatic 34, 3) := by decide +kernel
theorem dX6_front_6 : decode cX6_front 6 = .ok (.ifCond .ne 6, 3) := by decide +kernel
theorem dX6_front_9 : decode cX6_front 9 = .ok (.ldc 38, 2) := by decide +kernel
theorem dX6_front_11 : decode cX6_front 11 = .ok (.ireturn, 1) := by decide +kernel
theorem dX6_front_12 : decode cX6_front 12 = .ok (.iload_n 1, 1) := by decide +kernel
theorem dX6_front_13 : decode cX6_front 13 = .ok (.tableswitch 60 0 2 #[27, 38, 49], 27) := by decide +kernel
theorem dX6_front_40 : decode cX6_front 40 = .ok (.aload_n 0, 1) := by decide +kernel
theorem dX6_front_41 : decode cX6_front 41 = .ok (.getfield 27, 3) := by decide +kernel
theorem dX6_front_44 : decode cX6_front 44 = .ok (.getfield 128, 3) := by decide +kernel
theorem dX6_front_47 : decode cX6_front 47 = .ok (.getfield 132, 3) := by decide +kernel
theorem dX6_front_50 : decode cX6_front 50 = .ok (.ireturn, 1) := by decide +kernel
theorem dX6_front_51 : decode cX6_front 51 = .ok (.aload_n 0, 1) := by decide +kernel
theorem dX6_front_52 : decode cX6_front 52 = .ok (.getfield 27, 3) := by decide +kernel
theorem dX6_front_55 : decode cX6_front 55 = .ok (.getfield 128, 3) := by decide +kernel
theorem dX6_front_58 : decode cX6_front 58 = .ok (.getfield 135, 3) := by decide +kernel
theorem dX6_front_61 : decode cX6_front 61 = .ok (.ireturn, 1) := by decide +kernel
theorem dX6_front_62 : decode cX6_front 62 = .ok (.aload_n 0, 1) := by decide +kernel
theorem dX6_front_63 : decode cX6_front 63 = .ok (.getfield 27, 3) := by decide +kernel
theorem dX6_front_66 : decode cX6_front 66 = .ok (.getfield 128, 3) := by decide +kernel
theorem dX6_front_69 : decode cX6_front 69 = .ok (.getfield 138, 3) := by decide +kernel
theorem dX6_front_72 : decode cX6_front 72 = .ok (.ireturn, 1) := by decide +kernel
theorem dX6_front_73 : decode cX6_front 73 = .ok (.aload_n 0, 1) := by decide +kernel
theorem dX6_front_74 : decode cX6_front 74 = .ok (.getfield 27, 3) := by decide +kernel
theorem dX6_front_77 : decode cX6_front 77 = .ok (.getfield 128, 3) := by decide +kernel
theorem dX6_front_80 : decode cX6_front 80 = .ok (.getfield 138, 3) := by decide +kernel
theorem dX6_front_83 : decode cX6_front 83 = .ok (.ifCond .ne 8, 3) := by decide +kernel
theorem dX6_front_86 : decode cX6_front 86 = .ok (.ldc 97, 2) := by decide +kernel
theorem dX6_front_88 : decode cX6_front 88 = .ok (.goto 13, 3) := by decide +kernel
theorem dX6_front_91 : decode cX6_front 91 = .ok (.aload_n 0, 1) := by decide +kernel
theorem dX6_front_92 : decode cX6_front 92 = .ok (.getfield 27, 3) := by decide +kernel
theorem dX6_front_95 : decode cX6_front 95 = .ok (.getfield 128, 3) := by decide +kernel
theorem dX6_front_98 : decode cX6_front 98 = .ok (.getfield 141, 3) := by decide +kernel
theorem dX6_front_101 : decode cX6_front 101 = .ok (.ireturn, 1) := by decide +kernel
theorem dX6_account_0 : decode cX6_account 0 = .ok (.iload_n 1, 1) := by decide +kernel
theorem dX6_account_1 : decode cX6_account 1 = .ok (.iconst 0, 1) := by decide +kernel
theorem dX6_account_2 : decode cX6_account 2 = .ok (.iconst 5, 1) := by decide +kernel
theorem dX6_account_3 : decode cX6_account 3 = .ok (.invokestatic 34, 3) := by decide +kernel
theorem dX6_account_6 : decode cX6_account 6 = .ok (.ifCond .ne 7, 3) := by decide +kernel
theorem dX6_account_9 : decode cX6_account 9 = .ok (.ldc2_w 144, 3) := by decide +kernel
theorem dX6_account_12 : decode cX6_account 12 = .ok (.lreturn, 1) := by decide +kernel
theorem dX6_account_13 : decode cX6_account 13 = .ok (.iload_n 1, 1) := by decide +kernel
theorem dX6_account_14 : decode cX6_account 14 = .ok (.tableswitch 74 0 4 #[34, 42, 50, 58, 66], 34) := by decide +kernel
theorem dX6_account_48 : decode cX6_account 48 = .ok (.aload_n 0, 1) := by decide +kernel
theorem dX6_account_49 : decode cX6_account 49 = .ok (.getfield 27, 3) := by decide +kernel
theorem dX6_account_52 : decode cX6_account 52 = .ok (.getfield 146, 3) := by decide +kernel
theorem dX6_account_55 : decode cX6_account 55 = .ok (.lreturn, 1) := by decide +kernel
theorem dX6_account_56 : decode cX6_account 56 = .ok (.aload_n 0, 1) := by decide +kernel
theorem dX6_account_57 : decode cX6_account 57 = .ok (.getfield 27, 3) := by decide +kernel
theorem dX6_account_60 : decode cX6_account 60 = .ok (.getfield 150, 3) := by decide +kernel
theorem dX6_account_63 : decode cX6_account 63 = .ok (.lreturn, 1) := by decide +kernel
theorem dX6_account_64 : decode cX6_account 64 = .ok (.aload_n 0, 1) := by decide +kernel
theorem dX6_account_65 : decode cX6_account 65 = .ok (.getfield 27, 3) := by decide +kernel
theorem dX6_account_68 : decode cX6_account 68 = .ok (.getfield 153, 3) := by decide +kernel
theorem dX6_account_71 : decode cX6_account 71 = .ok (.lreturn, 1) := by decide +kernel
theorem dX6_account_72 : decode cX6_account 72 = .ok (.aload_n 0, 1) := by decide +kernel
theorem dX6_account_73 : decode cX6_account 73 = .ok (.getfield 27, 3) := by decide +kernel
theorem dX6_account_76 : decode cX6_account 76 = .ok (.getfield 155, 3) := by decide +kernel
theorem dX6_account_79 : decode cX6_account 79 = .ok (.lreturn, 1) := by decide +kernel
theorem dX6_account_80 : decode cX6_account 80 = .ok (.aload_n 0, 1) := by decide +kernel
theorem dX6_account_81 : decode cX6_account 81 = .ok (.getfield 27, 3) := by decide +kernel
theorem dX6_account_84 : decode cX6_account 84 = .ok (.invokevirtual 158, 3) := by decide +kernel
theorem dX6_account_87 : decode cX6_account 87 = .ok (.lreturn, 1) := by decide +kernel
theorem dX6_account_88 : decode cX6_account 88 = .ok (.aload_n 0, 1) := by decide +kernel
theorem dX6_account_89 : decode cX6_account 89 = .ok (.getfield 27, 3) := by decide +kernel
theorem dX6_account_92 : decode cX6_account 92 = .ok (.invokevirtual 162, 3) := by decide +kernel
theorem dX6_account_95 : decode cX6_account 95 = .ok (.lreturn, 1) := by decide +kernel
theorem dX6_count_0 : decode cX6_count 0 = .ok (.iload_n 1, 1) := by decide +kernel
theorem dX6_count_1 : decode cX6_count 1 = .ok (.iconst 0, 1) := by decide +kernel
theorem dX6_count_2 : decode cX6_count 2 = .ok (.bipush 14, 2) := by decide +kernel
theorem dX6_count_4 : decode cX6_count 4 = .ok (.invokestatic 34, 3) := by decide +kernel
theorem dX6_count_7 : decode cX6_count 7 = .ok (.ifCond .ne 6, 3) := by decide +kernel
theorem dX6_count_10 : decode cX6_count 10 = .ok (.ldc 38, 2) := by decide +kernel
theorem dX6_count_12 : decode cX6_count 12 = .ok (.ireturn, 1) := by decide +kernel
theorem dX6_count_13 : decode cX6_count 13 = .ok (.iload_n 1, 1) := by decide +kernel
theorem dX6_count_14 : decode cX6_count 14 = .ok (.bipush 6, 2) := by decide +kernel
theorem dX6_count_16 : decode cX6_count 16 = .ok (.bipush 12, 2) := by decide +kernel
theorem dX6_count_18 : decode cX6_count 18 = .ok (.invokestatic 34, 3) := by decide +kernel
theorem dX6_count_21 : decode cX6_count 21 = .ok (.ifCond .eq 16, 3) := by decide +kernel
theorem dX6_count_24 : decode cX6_count 24 = .ok (.aload_n 0, 1) := by decide +kernel
theorem dX6_count_25 : decode cX6_count 25 = .ok (.getfield 27, 3) := by decide +kernel
theorem dX6_count_28 : decode cX6_count 28 = .ok (.getfield 49, 3) := by decide +kernel
theorem dX6_count_31 : decode cX6_count 31 = .ok (.iload_n 1, 1) := by decide +kernel
theorem dX6_count_32 : decode cX6_count 32 = .ok (.bipush 6, 2) := by decide +kernel
theorem dX6_count_34 : decode cX6_count 34 = .ok (.isub, 1) := by decide +kernel
theorem dX6_count_35 : decode cX6_count 35 = .ok (.iaload, 1) := by decide +kernel
theorem dX6_count_36 : decode cX6_count 36 = .ok (.ireturn, 1) := by decide +kernel
theorem dX6_count_37 : decode cX6_count 37 = .ok (.iload_n 1, 1) := by decide +kernel
theorem dX6_count_38 : decode cX6_count 38 = .ok (.tableswitch 123 0 13 #[70, 78, 86, 94, 102, 110, 123, 123, 123, 123, 123, 123, 123, 118], 70) := by decide +kernel
theorem dX6_count_108 : decode cX6_count 108 = .ok (.aload_n 0, 1) := by decide +kernel
theorem dX6_count_109 : decode cX6_count 109 = .ok (.getfield 27, 3) := by decide +kernel
theorem dX6_count_112 : decode cX6_count 112 = .ok (.getfield 58, 3) := by decide +kernel
theorem dX6_count_115 : decode cX6_count 115 = .ok (.ireturn, 1) := by decide +kernel
theorem dX6_count_116 : decode cX6_count 116 = .ok (.aload_n 0, 1) := by decide +kernel
theorem dX6_count_117 : decode cX6_count 117 = .ok (.getfield 27, 3) := by decide +kernel
theorem dX6_count_120 : decode cX6_count 120 = .ok (.getfield 165, 3) := by decide +kernel
theorem dX6_count_123 : decode cX6_count 123 = .ok (.ireturn, 1) := by decide +kernel
theorem dX6_count_124 : decode cX6_count 124 = .ok (.aload_n 0, 1) := by decide +kernel
theorem dX6_count_125 : decode cX6_count 125 = .ok (.getfield 27, 3) := by decide +kernel
theorem dX6_count_128 : decode cX6_count 128 = .ok (.getfield 168, 3) := by decide +kernel
theorem dX6_count_131 : decode cX6_count 131 = .ok (.ireturn, 1) := by decide +kernel
theorem dX6_count_132 : decode cX6_count 132 = .ok (.aload_n 0, 1) := by decide +kernel
theorem dX6_count_133 : decode cX6_count 133 = .ok (.getfield 27, 3) := by decide +kernel
theorem dX6_count_136 : decode cX6_count 136 = .ok (.invokevirtual 171, 3) := by decide +kernel
theorem dX6_count_139 : decode cX6_count 139 = .ok (.ireturn, 1) := by decide +kernel
theorem dX6_count_140 : decode cX6_count 140 = .ok (.aload_n 0, 1) := by decide +kernel
theorem dX6_count_141 : decode cX6_count 141 = .ok (.getfield 27, 3) := by decide +kernel
theorem dX6_count_144 : decode cX6_count 144 = .ok (.invokevirtual 174, 3) := by decide +kernel
theorem dX6_count_147 : decode cX6_count 147 = .ok (.ireturn, 1) := by decide +kernel
theorem dX6_count_148 : decode cX6_count 148 = .ok (.aload_n 0, 1) := by decide +kernel
theorem dX6_count_149 : decode cX6_count 149 = .ok (.getfield 27, 3) := by decide +kernel
theorem dX6_count_152 : decode cX6_count 152 = .ok (.invokevirtual 177, 3) := by decide +kernel
theorem dX6_count_155 : decode cX6_count 155 = .ok (.ireturn, 1) := by decide +kernel
theorem dX6_count_156 : decode cX6_count 156 = .ok (.aload_n 0, 1) := by decide +kernel
theorem dX6_count_157 : decode cX6_count 157 = .ok (.getfield 30, 3) := by decide +kernel
theorem dX6_count_160 : decode cX6_count 160 = .ok (.ireturn, 1) := by decide +kernel
theorem dX6_count_161 : decode cX6_count 161 = .ok (.aload_n 0, 1) := by decide +kernel
theorem dX6_count_162 : decode cX6_count 162 = .ok (.getfield 23, 3) := by decide +kernel
theorem dX6_count_165 : decode cX6_count 165 = .ok (.getfield 180, 3) := by decide +kernel
theorem dX6_count_168 : decode cX6_count 168 = .ok (.ireturn, 1) := by decide +kernel
theorem dX6_stake_0 : decode cX6_stake 0 = .ok (.aload_n 0, 1) := by decide +kernel
theorem dX6_stake_1 : decode cX6_stake 1 = .ok (.getfield 27, 3) := by decide +kernel
theorem dX6_stake_4 : decode cX6_stake 4 = .ok (.iload_n 1, 1) := by decide +kernel
theorem dX6_stake_5 : decode cX6_stake 5 = .ok (.invokevirtual 66, 3) := by decide +kernel
theorem dX6_stake_8 : decode cX6_stake 8 = .ok (.ifCond .eq 36, 3) := by decide +kernel
theorem dX6_stake_11 : decode cX6_stake 11 = .ok (.iload_n 2, 1) := by decide +kernel
theorem dX6_stake_12 : decode cX6_stake 12 = .ok (.iconst 0, 1) := by decide +kernel
theorem dX6_stake_13 : decode cX6_stake 13 = .ok (.aload_n 0, 1) := by decide +kernel
theorem dX6_stake_14 : decode cX6_stake 14 = .ok (.getfield 27, 3) := by decide +kernel
theorem dX6_stake_17 : decode cX6_stake 17 = .ok (.getfield 69, 3) := by decide +kernel
theorem dX6_stake_20 : decode cX6_stake 20 = .ok (.iload_n 1, 1) := by decide +kernel
theorem dX6_stake_21 : decode cX6_stake 21 = .ok (.aaload, 1) := by decide +kernel
theorem dX6_stake_22 : decode cX6_stake 22 = .ok (.getfield 81, 3) := by decide +kernel
theorem dX6_stake_25 : decode cX6_stake 25 = .ok (.iconst 1, 1) := by decide +kernel
theorem dX6_stake_26 : decode cX6_stake 26 = .ok (.isub, 1) := by decide +kernel
theorem dX6_stake_27 : decode cX6_stake 27 = .ok (.invokestatic 34, 3) := by decide +kernel
theorem dX6_stake_30 : decode cX6_stake 30 = .ok (.ifCond .eq 14, 3) := by decide +kernel
theorem dX6_stake_33 : decode cX6_stake 33 = .ok (.iload_n 3, 1) := by decide +kernel
theorem dX6_stake_34 : decode cX6_stake 34 = .ok (.iconst 1, 1) := by decide +kernel
theorem dX6_stake_35 : decode cX6_stake 35 = .ok (.sipush 10000, 3) := by decide +kernel
theorem dX6_stake_38 : decode cX6_stake 38 = .ok (.invokestatic 34, 3) := by decide +kernel
theorem dX6_stake_41 : decode cX6_stake 41 = .ok (.ifCond .ne 6, 3) := by decide +kernel
theorem dX6_stake_44 : decode cX6_stake 44 = .ok (.ldc 38, 2) := by decide +kernel
theorem dX6_stake_46 : decode cX6_stake 46 = .ok (.ireturn, 1) := by decide +kernel
theorem dX6_stake_47 : decode cX6_stake 47 = .ok (.aload_n 0, 1) := by decide +kernel
theorem dX6_stake_48 : decode cX6_stake 48 = .ok (.getfield 27, 3) := by decide +kernel
theorem dX6_stake_51 : decode cX6_stake 51 = .ok (.iload_n 1, 1) := by decide +kernel
theorem dX6_stake_52 : decode cX6_stake 52 = .ok (.iload_n 2, 1) := by decide +kernel
theorem dX6_stake_53 : decode cX6_stake 53 = .ok (.invokevirtual 181, 3) := by decide +kernel
theorem dX6_stake_56 : decode cX6_stake 56 = .ok (.ifCond .eq 6, 3) := by decide +kernel
theorem dX6_stake_59 : decode cX6_stake 59 = .ok (.ldc 57, 2) := by decide +kernel
theorem dX6_stake_61 : decode cX6_stake 61 = .ok (.ireturn, 1) := by decide +kernel
theorem dX6_stake_62 : decode cX6_stake 62 = .ok (.aload_n 0, 1) := by decide +kernel
theorem dX6_stake_63 : decode cX6_stake 63 = .ok (.getfield 27, 3) := by decide +kernel
theorem dX6_stake_66 : decode cX6_stake 66 = .ok (.getfield 168, 3) := by decide +kernel
theorem dX6_stake_69 : decode cX6_stake 69 = .ok (.bipush 6, 2) := by decide +kernel
theorem dX6_stake_71 : decode cX6_stake 71 = .ok (.if_icmp .lt 6, 3) := by decide +kernel
theorem dX6_stake_74 : decode cX6_stake 74 = .ok (.ldc 61, 2) := by decide +kernel
theorem dX6_stake_76 : decode cX6_stake 76 = .ok (.ireturn, 1) := by decide +kernel
theorem dX6_stake_77 : decode cX6_stake 77 = .ok (.aload_n 0, 1) := by decide +kernel
theorem dX6_stake_78 : decode cX6_stake 78 = .ok (.invokevirtual 46, 3) := by decide +kernel
theorem dX6_stake_81 : decode cX6_stake 81 = .ok (.aload_n 0, 1) := by decide +kernel
theorem dX6_stake_82 : decode cX6_stake 82 = .ok (.getfield 27, 3) := by decide +kernel
theorem dX6_stake_85 : decode cX6_stake 85 = .ok (.iload_n 1, 1) := by decide +kernel
theorem dX6_stake_86 : decode cX6_stake 86 = .ok (.iload_n 2, 1) := by decide +kernel
theorem dX6_stake_87 : decode cX6_stake 87 = .ok (.iload_n 3, 1) := by decide +kernel
theorem dX6_stake_88 : decode cX6_stake 88 = .ok (.invokevirtual 185, 3) := by decide +kernel
theorem dX6_stake_91 : decode cX6_stake 91 = .ok (.ireturn, 1) := by decide +kernel
theorem dX6_pull_0 : decode cX6_pull 0 = .ok (.aload_n 0, 1) := by decide +kernel
theorem dX6_pull_1 : decode cX6_pull 1 = .ok (.getfield 27, 3) := by decide +kernel
theorem dX6_pull_4 : decode cX6_pull 4 = .ok (.iload_n 1, 1) := by decide +kernel
theorem dX6_pull_5 : decode cX6_pull 5 = .ok (.invokevirtual 189, 3) := by decide +kernel
theorem dX6_pull_8 : decode cX6_pull 8 = .ok (.ifCond .ne 6, 3) := by decide +kernel
theorem dX6_pull_11 : decode cX6_pull 11 = .ok (.ldc 38, 2) := by decide +kernel
theorem dX6_pull_13 : decode cX6_pull 13 = .ok (.ireturn, 1) := by decide +kernel
theorem dX6_pull_14 : decode cX6_pull 14 = .ok (.aload_n 0, 1) := by decide +kernel
theorem dX6_pull_15 : decode cX6_pull 15 = .ok (.invokevirtual 46, 3) := by decide +kernel
theorem dX6_pull_18 : decode cX6_pull 18 = .ok (.aload_n 0, 1) := by decide +kernel
theorem dX6_pull_19 : decode cX6_pull 19 = .ok (.getfield 27, 3) := by decide +kernel
theorem dX6_pull_22 : decode cX6_pull 22 = .ok (.iload_n 1, 1) := by decide +kernel
theorem dX6_pull_23 : decode cX6_pull 23 = .ok (.invokevirtual 192, 3) := by decide +kernel
theorem dX6_pull_26 : decode cX6_pull 26 = .ok (.ireturn, 1) := by decide +kernel
theorem dX6_stakeInfo_0 : decode cX6_stakeInfo 0 = .ok (.aload_n 0, 1) := by decide +kernel
theorem dX6_stakeInfo_1 : decode cX6_stakeInfo 1 = .ok (.getfield 27, 3) := by decide +kernel
theorem dX6_stakeInfo_4 : decode cX6_stakeInfo 4 = .ok (.iload_n 1, 1) := by decide +kernel
theorem dX6_stakeInfo_5 : decode cX6_stakeInfo 5 = .ok (.invokevirtual 189, 3) := by decide +kernel
theorem dX6_stakeInfo_8 : decode cX6_stakeInfo 8 = .ok (.ifCond .eq 12, 3) := by decide +kernel
theorem dX6_stakeInfo_11 : decode cX6_stakeInfo 11 = .ok (.iload_n 2, 1) := by decide +kernel
theorem dX6_stakeInfo_12 : decode cX6_stakeInfo 12 = .ok (.iconst 0, 1) := by decide +kernel
theorem dX6_stakeInfo_13 : decode cX6_stakeInfo 13 = .ok (.iconst 5, 1) := by decide +kernel
theorem dX6_stakeInfo_14 : decode cX6_stakeInfo 14 = .ok (.invokestatic 34, 3) := by decide +kernel
theorem dX6_stakeInfo_17 : decode cX6_stakeInfo 17 = .ok (.ifCond .ne 6, 3) := by decide +kernel
theorem dX6_stakeInfo_20 : decode cX6_stakeInfo 20 = .ok (.ldc 38, 2) := by decide +kernel
theorem dX6_stakeInfo_22 : decode cX6_stakeInfo 22 = .ok (.ireturn, 1) := by decide +kernel
theorem dX6_stakeInfo_23 : decode cX6_stakeInfo 23 = .ok (.aload_n 0, 1) := by decide +kernel
theorem dX6_stakeInfo_24 : decode cX6_stakeInfo 24 = .ok (.getfield 27, 3) := by decide +kernel
theorem dX6_stakeInfo_27 : decode cX6_stakeInfo 27 = .ok (.getfield 195, 3) := by decide +kernel
theorem dX6_stakeInfo_30 : decode cX6_stakeInfo 30 = .ok (.iload_n 1, 1) := by decide +kernel
theorem dX6_stakeInfo_31 : decode cX6_stakeInfo 31 = .ok (.aaload, 1) := by decide +kernel
theorem dX6_stakeInfo_32 : decode cX6_stakeInfo 32 = .ok (.astore_n 3, 1) := by decide +kernel
theorem dX6_stakeInfo_33 : decode cX6_stakeInfo 33 = .ok (.iload_n 2, 1) := by decide +kernel
theorem dX6_stakeInfo_34 : decode cX6_stakeInfo 34 = .ok (.tableswitch 59 0 4 #[34, 39, 44, 49, 54], 34) := by decide +kernel
theorem dX6_stakeInfo_68 : decode cX6_stakeInfo 68 = .ok (.aload_n 3, 1) := by decide +kernel
theorem dX6_stakeInfo_69 : decode cX6_stakeInfo 69 = .ok (.getfield 199, 3) := by decide +kernel
theorem dX6_stakeInfo_72 : decode cX6_stakeInfo 72 = .ok (.ireturn, 1) := by decide +kernel
theorem dX6_stakeInfo_73 : decode cX6_stakeInfo 73 = .ok (.aload_n 3, 1) := by decide +kernel
theorem dX6_stakeInfo_74 : decode cX6_stakeInfo 74 = .ok (.getfield 204, 3) := by decide +kernel
theorem dX6_stakeInfo_77 : decode cX6_stakeInfo 77 = .ok (.ireturn, 1) := by decide +kernel
theorem dX6_stakeInfo_78 : decode cX6_stakeInfo 78 = .ok (.aload_n 3, 1) := by decide +kernel
theorem dX6_stakeInfo_79 : decode cX6_stakeInfo 79 = .ok (.getfield 207, 3) := by decide +kernel
theorem dX6_stakeInfo_82 : decode cX6_stakeInfo 82 = .ok (.ireturn, 1) := by decide +kernel
theorem dX6_stakeInfo_83 : decode cX6_stakeInfo 83 = .ok (.aload_n 3, 1) := by decide +kernel
theorem dX6_stakeInfo_84 : decode cX6_stakeInfo 84 = .ok (.getfield 210, 3) := by decide +kernel
theorem dX6_stakeInfo_87 : decode cX6_stakeInfo 87 = .ok (.ireturn, 1) := by decide +kernel
theorem dX6_stakeInfo_88 : decode cX6_stakeInfo 88 = .ok (.aload_n 3, 1) := by decide +kernel
theorem dX6_stakeInfo_89 : decode cX6_stakeInfo 89 = .ok (.getfield 213, 3) := by decide +kernel
theorem dX6_stakeInfo_92 : decode cX6_stakeInfo 92 = .ok (.ireturn, 1) := by decide +kernel
theorem dX6_stakeInfo_93 : decode cX6_stakeInfo 93 = .ok (.aload_n 3, 1) := by decide +kernel
theorem dX6_stakeInfo_94 : decode cX6_stakeInfo 94 = .ok (.getfield 216, 3) := by decide +kernel
theorem dX6_stakeInfo_97 : decode cX6_stakeInfo 97 = .ok (.ireturn, 1) := by decide +kernel
theorem dX6_stakesIn_0 : decode cX6_stakesIn 0 = .ok (.aload_n 0, 1) := by decide +kernel
theorem dX6_stakesIn_1 : decode cX6_stakesIn 1 = .ok (.getfield 27, 3) := by decide +kernel
theorem dX6_stakesIn_4 : decode cX6_stakesIn 4 = .ok (.iload_n 1, 1) := by decide +kernel
theorem dX6_stakesIn_5 : decode cX6_stakesIn 5 = .ok (.invokevirtual 66, 3) := by decide +kernel
theorem dX6_stakesIn_8 : decode cX6_stakesIn 8 = .ok (.ifCond .ne 6, 3) := by decide +kernel
theorem dX6_stakesIn_11 : decode cX6_stakesIn 11 = .ok (.ldc 38, 2) := by decide +kernel
theorem dX6_stakesIn_13 : decode cX6_stakesIn 13 = .ok (.ireturn, 1) := by decide +kernel
theorem dX6_stakesIn_14 : decode cX6_stakesIn 14 = .ok (.iconst 0, 1) := by decide +kernel
theorem dX6_stakesIn_15 : decode cX6_stakesIn 15 = .ok (.istore_n 2, 1) := by decide +kernel
theorem dX6_stakesIn_16 : decode cX6_stakesIn 16 = .ok (.iconst 0, 1) := by decide +kernel
theorem dX6_stakesIn_17 : decode cX6_stakesIn 17 = .ok (.istore_n 3, 1) := by decide +kernel
theorem dX6_stakesIn_18 : decode cX6_stakesIn 18 = .ok (.iload_n 3, 1) := by decide +kernel
theorem dX6_stakesIn_19 : decode cX6_stakesIn 19 = .ok (.aload_n 0, 1) := by decide +kernel
theorem dX6_stakesIn_20 : decode cX6_stakesIn 20 = .ok (.getfield 27, 3) := by decide +kernel
theorem dX6_stakesIn_23 : decode cX6_stakesIn 23 = .ok (.getfield 168, 3) := by decide +kernel
theorem dX6_stakesIn_26 : decode cX6_stakesIn 26 = .ok (.if_icmp .ge 46, 3) := by decide +kernel
theorem dX6_stakesIn_29 : decode cX6_stakesIn 29 = .ok (.aload_n 0, 1) := by decide +kernel
theorem dX6_stakesIn_30 : decode cX6_stakesIn 30 = .ok (.getfield 27, 3) := by decide +kernel
theorem dX6_stakesIn_33 : decode cX6_stakesIn 33 = .ok (.getfield 195, 3) := by decide +kernel
theorem dX6_stakesIn_36 : decode cX6_stakesIn 36 = .ok (.iload_n 3, 1) := by decide +kernel
theorem dX6_stakesIn_37 : decode cX6_stakesIn 37 = .ok (.aaload, 1) := by decide +kernel
theorem dX6_stakesIn_38 : decode cX6_stakesIn 38 = .ok (.getfield 213, 3) := by decide +kernel
theorem dX6_stakesIn_41 : decode cX6_stakesIn 41 = .ok (.ifCond .ne 25, 3) := by decide +kernel
theorem dX6_stakesIn_44 : decode cX6_stakesIn 44 = .ok (.aload_n 0, 1) := by decide +kernel
theorem dX6_stakesIn_45 : decode cX6_stakesIn 45 = .ok (.getfield 27, 3) := by decide +kernel
theorem dX6_stakesIn_48 : decode cX6_stakesIn 48 = .ok (.getfield 195, 3) := by decide +kernel
theorem dX6_stakesIn_51 : decode cX6_stakesIn 51 = .ok (.iload_n 3, 1) := by decide +kernel
theorem dX6_stakesIn_52 : decode cX6_stakesIn 52 = .ok (.aaload, 1) := by decide +kernel
theorem dX6_stakesIn_53 : decode cX6_stakesIn 53 = .ok (.getfield 199, 3) := by decide +kernel
theorem dX6_stakesIn_56 : decode cX6_stakesIn 56 = .ok (.iload_n 1, 1) := by decide +kernel
theorem dX6_stakesIn_57 : decode cX6_stakesIn 57 = .ok (.if_icmp .ne 9, 3) := by decide +kernel
theorem dX6_stakesIn_60 : decode cX6_stakesIn 60 = .ok (.iload_n 2, 1) := by decide +kernel
theorem dX6_stakesIn_61 : decode cX6_stakesIn 61 = .ok (.iconst 1, 1) := by decide +kernel
theorem dX6_stakesIn_62 : decode cX6_stakesIn 62 = .ok (.iload_n 3, 1) := by decide +kernel
theorem dX6_stakesIn_63 : decode cX6_stakesIn 63 = .ok (.ishl, 1) := by decide +kernel
theorem dX6_stakesIn_64 : decode cX6_stakesIn 64 = .ok (.ior, 1) := by decide +kernel
theorem dX6_stakesIn_65 : decode cX6_stakesIn 65 = .ok (.istore_n 2, 1) := by decide +kernel
theorem dX6_stakesIn_66 : decode cX6_stakesIn 66 = .ok (.iinc 3 1, 3) := by decide +kernel
theorem dX6_stakesIn_69 : decode cX6_stakesIn 69 = .ok (.goto (-51), 3) := by decide +kernel
theorem dX6_stakesIn_72 : decode cX6_stakesIn 72 = .ok (.iload_n 2, 1) := by decide +kernel
theorem dX6_stakesIn_73 : decode cX6_stakesIn 73 = .ok (.ireturn, 1) := by decide +kernel
theorem dX6_years_0 : decode cX6_years 0 = .ok (.iload_n 1, 1) := by decide +kernel
theorem dX6_years_1 : decode cX6_years 1 = .ok (.iconst 1, 1) := by decide +kernel
theorem dX6_years_2 : decode cX6_years 2 = .ok (.bipush 100, 2) := by decide +kernel
theorem dX6_years_4 : decode cX6_years 4 = .ok (.invokestatic 34, 3) := by decide +kernel
theorem dX6_years_7 : decode cX6_years 7 = .ok (.ifCond .ne 6, 3) := by decide +kernel
theorem dX6_years_10 : decode cX6_years 10 = .ok (.ldc 38, 2) := by decide +kernel
theorem dX6_years_12 : decode cX6_years 12 = .ok (.ireturn, 1) := by decide +kernel
theorem dX6_years_13 : decode cX6_years 13 = .ok (.aload_n 0, 1) := by decide +kernel
theorem dX6_years_14 : decode cX6_years 14 = .ok (.getfield 27, 3) := by decide +kernel
theorem dX6_years_17 : decode cX6_years 17 = .ok (.getfield 58, 3) := by decide +kernel
theorem dX6_years_20 : decode cX6_years 20 = .ok (.ifCond .ne 6, 3) := by decide +kernel
theorem dX6_years_23 : decode cX6_years 23 = .ok (.ldc 57, 2) := by decide +kernel
theorem dX6_years_25 : decode cX6_years 25 = .ok (.ireturn, 1) := by decide +kernel
theorem dX6_years_26 : decode cX6_years 26 = .ok (.aload_n 0, 1) := by decide +kernel
theorem dX6_years_27 : decode cX6_years 27 = .ok (.getfield 27, 3) := by decide +kernel
theorem dX6_years_30 : decode cX6_years 30 = .ok (.getfield 165, 3) := by decide +kernel
theorem dX6_years_33 : decode cX6_years 33 = .ok (.iload_n 1, 1) := by decide +kernel
theorem dX6_years_34 : decode cX6_years 34 = .ok (.iadd, 1) := by decide +kernel
theorem dX6_years_35 : decode cX6_years 35 = .ok (.sipush 500, 3) := by decide +kernel
theorem dX6_years_38 : decode cX6_years 38 = .ok (.if_icmp .le 6, 3) := by decide +kernel
theorem dX6_years_41 : decode cX6_years 41 = .ok (.ldc 61, 2) := by decide +kernel
theorem dX6_years_43 : decode cX6_years 43 = .ok (.ireturn, 1) := by decide +kernel
theorem dX6_years_44 : decode cX6_years 44 = .ok (.aload_n 0, 1) := by decide +kernel
theorem dX6_years_45 : decode cX6_years 45 = .ok (.invokevirtual 46, 3) := by decide +kernel
theorem dX6_years_48 : decode cX6_years 48 = .ok (.aload_n 0, 1) := by decide +kernel
theorem dX6_years_49 : decode cX6_years 49 = .ok (.getfield 27, 3) := by decide +kernel
theorem dX6_years_52 : decode cX6_years 52 = .ok (.getfield 128, 3) := by decide +kernel
theorem dX6_years_55 : decode cX6_years 55 = .ok (.getfield 138, 3) := by decide +kernel
theorem dX6_years_58 : decode cX6_years 58 = .ok (.istore_n 2, 1) := by decide +kernel
theorem dX6_years_59 : decode cX6_years 59 = .ok (.aload_n 0, 1) := by decide +kernel
theorem dX6_years_60 : decode cX6_years 60 = .ok (.getfield 27, 3) := by decide +kernel
theorem dX6_years_63 : decode cX6_years 63 = .ok (.iload_n 1, 1) := by decide +kernel
theorem dX6_years_64 : decode cX6_years 64 = .ok (.invokevirtual 219, 3) := by decide +kernel
theorem dX6_years_67 : decode cX6_years 67 = .ok (.aload_n 0, 1) := by decide +kernel
theorem dX6_years_68 : decode cX6_years 68 = .ok (.getfield 27, 3) := by decide +kernel
theorem dX6_years_71 : decode cX6_years 71 = .ok (.getfield 128, 3) := by decide +kernel
theorem dX6_years_74 : decode cX6_years 74 = .ok (.getfield 138, 3) := by decide +kernel
theorem dX6_years_77 : decode cX6_years 77 = .ok (.iload_n 2, 1) := by decide +kernel
theorem dX6_years_78 : decode cX6_years 78 = .ok (.isub, 1) := by decide +kernel
theorem dX6_years_79 : decode cX6_years 79 = .ok (.ireturn, 1) := by decide +kernel
theorem dX6_ifYears_0 : decode cX6_ifYears 0 = .ok (.iload_n 1, 1) := by decide +kernel
theorem dX6_ifYears_1 : decode cX6_ifYears 1 = .ok (.iconst 1, 1) := by decide +kernel
theorem dX6_ifYears_2 : decode cX6_ifYears 2 = .ok (.bipush 100, 2) := by decide +kernel
theorem dX6_ifYears_4 : decode cX6_ifYears 4 = .ok (.invokestatic 34, 3) := by decide +kernel
theorem dX6_ifYears_7 : decode cX6_ifYears 7 = .ok (.ifCond .eq 12, 3) := by decide +kernel
theorem dX6_ifYears_10 : decode cX6_ifYears 10 = .ok (.iload_n 2, 1) := by decide +kernel
theorem dX6_ifYears_11 : decode cX6_ifYears 11 = .ok (.iconst 0, 1) := by decide +kernel
theorem dX6_ifYears_12 : decode cX6_ifYears 12 = .ok (.iconst 4, 1) := by decide +kernel
theorem dX6_ifYears_13 : decode cX6_ifYears 13 = .ok (.invokestatic 34, 3) := by decide +kernel
theorem dX6_ifYears_16 : decode cX6_ifYears 16 = .ok (.ifCond .ne 6, 3) := by decide +kernel
theorem dX6_ifYears_19 : decode cX6_ifYears 19 = .ok (.ldc 38, 2) := by decide +kernel
theorem dX6_ifYears_21 : decode cX6_ifYears 21 = .ok (.ireturn, 1) := by decide +kernel
theorem dX6_ifYears_22 : decode cX6_ifYears 22 = .ok (.aload_n 0, 1) := by decide +kernel
theorem dX6_ifYears_23 : decode cX6_ifYears 23 = .ok (.getfield 27, 3) := by decide +kernel
theorem dX6_ifYears_26 : decode cX6_ifYears 26 = .ok (.getfield 58, 3) := by decide +kernel
theorem dX6_ifYears_29 : decode cX6_ifYears 29 = .ok (.ifCond .ne 6, 3) := by decide +kernel
theorem dX6_ifYears_32 : decode cX6_ifYears 32 = .ok (.ldc 57, 2) := by decide +kernel
theorem dX6_ifYears_34 : decode cX6_ifYears 34 = .ok (.ireturn, 1) := by decide +kernel
theorem dX6_ifYears_35 : decode cX6_ifYears 35 = .ok (.aload_n 0, 1) := by decide +kernel
theorem dX6_ifYears_36 : decode cX6_ifYears 36 = .ok (.getfield 12, 3) := by decide +kernel
theorem dX6_ifYears_39 : decode cX6_ifYears 39 = .ok (.aload_n 0, 1) := by decide +kernel
theorem dX6_ifYears_40 : decode cX6_ifYears 40 = .ok (.getfield 27, 3) := by decide +kernel
theorem dX6_ifYears_43 : decode cX6_ifYears 43 = .ok (.invokevirtual 223, 3) := by decide +kernel
theorem dX6_ifYears_46 : decode cX6_ifYears 46 = .ok (.aload_n 0, 1) := by decide +kernel
theorem dX6_ifYears_47 : decode cX6_ifYears 47 = .ok (.getfield 12, 3) := by decide +kernel
theorem dX6_ifYears_50 : decode cX6_ifYears 50 = .ok (.iload_n 1, 1) := by decide +kernel
theorem dX6_ifYears_51 : decode cX6_ifYears 51 = .ok (.invokevirtual 219, 3) := by decide +kernel
theorem dX6_ifYears_54 : decode cX6_ifYears 54 = .ok (.iload_n 2, 1) := by decide +kernel
theorem dX6_ifYears_55 : decode cX6_ifYears 55 = .ok (.tableswitch 85 0 3 #[29, 38, 60, 77], 29) := by decide +kernel
theorem dX6_ifYears_84 : decode cX6_ifYears 84 = .ok (.aload_n 0, 1) := by decide +kernel
theorem dX6_ifYears_85 : decode cX6_ifYears 85 = .ok (.getfield 12, 3) := by decide +kernel
theorem dX6_ifYears_88 : decode cX6_ifYears 88 = .ok (.invokevirtual 158, 3) := by decide +kernel
theorem dX6_ifYears_91 : decode cX6_ifYears 91 = .ok (.l2i, 1) := by decide +kernel
theorem dX6_ifYears_92 : decode cX6_ifYears 92 = .ok (.ireturn, 1) := by decide +kernel
theorem dX6_ifYears_93 : decode cX6_ifYears 93 = .ok (.aload_n 0, 1) := by decide +kernel
theorem dX6_ifYears_94 : decode cX6_ifYears 94 = .ok (.getfield 12, 3) := by decide +kernel
theorem dX6_ifYears_97 : decode cX6_ifYears 97 = .ok (.getfield 128, 3) := by decide +kernel
theorem dX6_ifYears_100 : decode cX6_ifYears 100 = .ok (.getfield 138, 3) := by decide +kernel
theorem dX6_ifYears_103 : decode cX6_ifYears 103 = .ok (.aload_n 0, 1) := by decide +kernel
theorem dX6_ifYears_104 : decode cX6_ifYears 104 = .ok (.getfield 27, 3) := by decide +kernel
theorem dX6_ifYears_107 : decode cX6_ifYears 107 = .ok (.getfield 128, 3) := by decide +kernel
theorem dX6_ifYears_110 : decode cX6_ifYears 110 = .ok (.getfield 138, 3) := by decide +kernel
theorem dX6_ifYears_113 : decode cX6_ifYears 113 = .ok (.isub, 1) := by decide +kernel
theorem dX6_ifYears_114 : decode cX6_ifYears 114 = .ok (.ireturn, 1) := by decide +kernel
theorem dX6_ifYears_115 : decode cX6_ifYears 115 = .ok (.aload_n 0, 1) := by decide +kernel
theorem dX6_ifYears_116 : decode cX6_ifYears 116 = .ok (.getfield 12, 3) := by decide +kernel
theorem dX6_ifYears_119 : decode cX6_ifYears 119 = .ok (.getfield 153, 3) := by decide +kernel
theorem dX6_ifYears_122 : decode cX6_ifYears 122 = .ok (.aload_n 0, 1) := by decide +kernel
theorem dX6_ifYears_123 : decode cX6_ifYears 123 = .ok (.getfield 27, 3) := by decide +kernel
theorem dX6_ifYears_126 : decode cX6_ifYears 126 = .ok (.getfield 153, 3) := by decide +kernel
theorem dX6_ifYears_129 : decode cX6_ifYears 129 = .ok (.lsub, 1) := by decide +kernel
theorem dX6_ifYears_130 : decode cX6_ifYears 130 = .ok (.l2i, 1) := by decide +kernel
theorem dX6_ifYears_131 : decode cX6_ifYears 131 = .ok (.ireturn, 1) := by decide +kernel
theorem dX6_ifYears_132 : decode cX6_ifYears 132 = .ok (.aload_n 0, 1) := by decide +kernel
theorem dX6_ifYears_133 : decode cX6_ifYears 133 = .ok (.getfield 12, 3) := by decide +kernel
theorem dX6_ifYears_136 : decode cX6_ifYears 136 = .ok (.invokevirtual 171, 3) := by decide +kernel
theorem dX6_ifYears_139 : decode cX6_ifYears 139 = .ok (.ireturn, 1) := by decide +kernel
theorem dX6_ifYears_140 : decode cX6_ifYears 140 = .ok (.aload_n 0, 1) := by decide +kernel
theorem dX6_ifYears_141 : decode cX6_ifYears 141 = .ok (.getfield 12, 3) := by decide +kernel
theorem dX6_ifYears_144 : decode cX6_ifYears 144 = .ok (.invokevirtual 227, 3) := by decide +kernel
theorem dX6_ifYears_147 : decode cX6_ifYears 147 = .ok (.ifCond .ne 8, 3) := by decide +kernel
theorem dX6_ifYears_150 : decode cX6_ifYears 150 = .ok (.ldc 97, 2) := by decide +kernel
theorem dX6_ifYears_152 : decode cX6_ifYears 152 = .ok (.goto 10, 3) := by decide +kernel
theorem dX6_ifYears_155 : decode cX6_ifYears 155 = .ok (.aload_n 0, 1) := by decide +kernel
theorem dX6_ifYears_156 : decode cX6_ifYears 156 = .ok (.getfield 12, 3) := by decide +kernel
theorem dX6_ifYears_159 : decode cX6_ifYears 159 = .ok (.invokevirtual 230, 3) := by decide +kernel
theorem dX6_ifYears_162 : decode cX6_ifYears 162 = .ok (.ireturn, 1) := by decide +kernel
theorem dX6_yearsTo_0 : decode cX6_yearsTo 0 = .ok (.iload_n 1, 1) := by decide +kernel
theorem dX6_yearsTo_1 : decode cX6_yearsTo 1 = .ok (.iconst 0, 1) := by decide +kernel
theorem dX6_yearsTo_2 : decode cX6_yearsTo 2 = .ok (.iconst 2, 1) := by decide +kernel
theorem dX6_yearsTo_3 : decode cX6_yearsTo 3 = .ok (.invokestatic 34, 3) := by decide +kernel
theorem dX6_yearsTo_6 : decode cX6_yearsTo 6 = .ok (.ifCond .ne 6, 3) := by decide +kernel
theorem dX6_yearsTo_9 : decode cX6_yearsTo 9 = .ok (.ldc 38, 2) := by decide +kernel
theorem dX6_yearsTo_11 : decode cX6_yearsTo 11 = .ok (.ireturn, 1) := by decide +kernel
theorem dX6_yearsTo_12 : decode cX6_yearsTo 12 = .ok (.aload_n 0, 1) := by decide +kernel
theorem dX6_yearsTo_13 : decode cX6_yearsTo 13 = .ok (.getfield 27, 3) := by decide +kernel
theorem dX6_yearsTo_16 : decode cX6_yearsTo 16 = .ok (.getfield 58, 3) := by decide +kernel
theorem dX6_yearsTo_19 : decode cX6_yearsTo 19 = .ok (.ifCond .ne 6, 3) := by decide +kernel
theorem dX6_yearsTo_22 : decode cX6_yearsTo 22 = .ok (.ldc 57, 2) := by decide +kernel
theorem dX6_yearsTo_24 : decode cX6_yearsTo 24 = .ok (.ireturn, 1) := by decide +kernel
theorem dX6_yearsTo_25 : decode cX6_yearsTo 25 = .ok (.aload_n 0, 1) := by decide +kernel
theorem dX6_yearsTo_26 : decode cX6_yearsTo 26 = .ok (.getfield 12, 3) := by decide +kernel
theorem dX6_yearsTo_29 : decode cX6_yearsTo 29 = .ok (.aload_n 0, 1) := by decide +kernel
theorem dX6_yearsTo_30 : decode cX6_yearsTo 30 = .ok (.getfield 27, 3) := by decide +kernel
theorem dX6_yearsTo_33 : decode cX6_yearsTo 33 = .ok (.invokevirtual 223, 3) := by decide +kernel
theorem dX6_yearsTo_36 : decode cX6_yearsTo 36 = .ok (.iconst 1, 1) := by decide +kernel
theorem dX6_yearsTo_37 : decode cX6_yearsTo 37 = .ok (.istore_n 2, 1) := by decide +kernel
theorem dX6_yearsTo_38 : decode cX6_yearsTo 38 = .ok (.iload_n 2, 1) := by decide +kernel
theorem dX6_yearsTo_39 : decode cX6_yearsTo 39 = .ok (.sipush 300, 3) := by decide +kernel
theorem dX6_yearsTo_42 : decode cX6_yearsTo 42 = .ok (.if_icmp .gt 38, 3) := by decide +kernel
theorem dX6_yearsTo_45 : decode cX6_yearsTo 45 = .ok (.aload_n 0, 1) := by decide +kernel
theorem dX6_yearsTo_46 : decode cX6_yearsTo 46 = .ok (.getfield 12, 3) := by decide +kernel
theorem dX6_yearsTo_49 : decode cX6_yearsTo 49 = .ok (.getfield 128, 3) := by decide +kernel
theorem dX6_yearsTo_52 : decode cX6_yearsTo 52 = .ok (.getfield 138, 3) := by decide +kernel
theorem dX6_yearsTo_55 : decode cX6_yearsTo 55 = .ok (.istore_n 3, 1) := by decide +kernel
theorem dX6_yearsTo_56 : decode cX6_yearsTo 56 = .ok (.aload_n 0, 1) := by decide +kernel
theorem dX6_yearsTo_57 : decode cX6_yearsTo 57 = .ok (.getfield 12, 3) := by decide +kernel
theorem dX6_yearsTo_60 : decode cX6_yearsTo 60 = .ok (.invokevirtual 233, 3) := by decide +kernel
theorem dX6_yearsTo_63 : decode cX6_yearsTo 63 = .ok (.aload_n 0, 1) := by decide +kernel
theorem dX6_yearsTo_64 : decode cX6_yearsTo 64 = .ok (.iload_n 1, 1) := by decide +kernel
theorem dX6_yearsTo_65 : decode cX6_yearsTo 65 = .ok (.iload_n 3, 1) := by decide +kernel
theorem dX6_yearsTo_66 : decode cX6_yearsTo 66 = .ok (.invokevirtual 236, 3) := by decide +kernel
theorem dX6_yearsTo_69 : decode cX6_yearsTo 69 = .ok (.ifCond .eq 5, 3) := by decide +kernel
theorem dX6_yearsTo_72 : decode cX6_yearsTo 72 = .ok (.iload_n 2, 1) := by decide +kernel
theorem dX6_yearsTo_73 : decode cX6_yearsTo 73 = .ok (.ireturn, 1) := by decide +kernel
theorem dX6_yearsTo_74 : decode cX6_yearsTo 74 = .ok (.iinc 2 1, 3) := by decide +kernel
theorem dX6_yearsTo_77 : decode cX6_yearsTo 77 = .ok (.goto (-39), 3) := by decide +kernel
theorem dX6_yearsTo_80 : decode cX6_yearsTo 80 = .ok (.ldc 97, 2) := by decide +kernel
theorem dX6_yearsTo_82 : decode cX6_yearsTo 82 = .ok (.ireturn, 1) := by decide +kernel
theorem dX6_isSoInTrial_0 : decode cX6_isSoInTrial 0 = .ok (.iload_n 1, 1) := by decide +kernel
theorem dX6_isSoInTrial_1 : decode cX6_isSoInTrial 1 = .ok (.lookupswitch 63 #[(0, 27), (1, 47)], 27) := by decide +kernel
theorem dX6_isSoInTrial_28 : decode cX6_isSoInTrial 28 = .ok (.aload_n 0, 1) := by decide +kernel
theorem dX6_isSoInTrial_29 : decode cX6_isSoInTrial 29 = .ok (.getfield 12, 3) := by decide +kernel
theorem dX6_isSoInTrial_32 : decode cX6_isSoInTrial 32 = .ok (.getfield 128, 3) := by decide +kernel
theorem dX6_isSoInTrial_35 : decode cX6_isSoInTrial 35 = .ok (.getfield 138, 3) := by decide +kernel
theorem dX6_isSoInTrial_38 : decode cX6_isSoInTrial 38 = .ok (.iload_n 2, 1) := by decide +kernel
theorem dX6_isSoInTrial_39 : decode cX6_isSoInTrial 39 = .ok (.if_icmp .le 7, 3) := by decide +kernel
theorem dX6_isSoInTrial_42 : decode cX6_isSoInTrial 42 = .ok (.iconst 1, 1) := by decide +kernel
theorem dX6_isSoInTrial_43 : decode cX6_isSoInTrial 43 = .ok (.goto 4, 3) := by decide +kernel
theorem dX6_isSoInTrial_46 : decode cX6_isSoInTrial 46 = .ok (.iconst 0, 1) := by decide +kernel
theorem dX6_isSoInTrial_47 : decode cX6_isSoInTrial 47 = .ok (.ireturn, 1) := by decide +kernel
theorem dX6_isSoInTrial_48 : decode cX6_isSoInTrial 48 = .ok (.aload_n 0, 1) := by decide +kernel
theorem dX6_isSoInTrial_49 : decode cX6_isSoInTrial 49 = .ok (.getfield 12, 3) := by decide +kernel
theorem dX6_isSoInTrial_52 : decode cX6_isSoInTrial 52 = .ok (.invokevirtual 227, 3) := by decide +kernel
theorem dX6_isSoInTrial_55 : decode cX6_isSoInTrial 55 = .ok (.ifCond .ne 7, 3) := by decide +kernel
theorem dX6_isSoInTrial_58 : decode cX6_isSoInTrial 58 = .ok (.iconst 1, 1) := by decide +kernel
theorem dX6_isSoInTrial_59 : decode cX6_isSoInTrial 59 = .ok (.goto 4, 3) := by decide +kernel
theorem dX6_isSoInTrial_62 : decode cX6_isSoInTrial 62 = .ok (.iconst 0, 1) := by decide +kernel
theorem dX6_isSoInTrial_63 : decode cX6_isSoInTrial 63 = .ok (.ireturn, 1) := by decide +kernel
theorem dX6_isSoInTrial_64 : decode cX6_isSoInTrial 64 = .ok (.aload_n 0, 1) := by decide +kernel
theorem dX6_isSoInTrial_65 : decode cX6_isSoInTrial 65 = .ok (.getfield 12, 3) := by decide +kernel
theorem dX6_isSoInTrial_68 : decode cX6_isSoInTrial 68 = .ok (.invokevirtual 171, 3) := by decide +kernel
theorem dX6_isSoInTrial_71 : decode cX6_isSoInTrial 71 = .ok (.ifCond .ne 7, 3) := by decide +kernel
theorem dX6_isSoInTrial_74 : decode cX6_isSoInTrial 74 = .ok (.iconst 1, 1) := by decide +kernel
theorem dX6_isSoInTrial_75 : decode cX6_isSoInTrial 75 = .ok (.goto 4, 3) := by decide +kernel
theorem dX6_isSoInTrial_78 : decode cX6_isSoInTrial 78 = .ok (.iconst 0, 1) := by decide +kernel
theorem dX6_isSoInTrial_79 : decode cX6_isSoInTrial 79 = .ok (.ireturn, 1) := by decide +kernel
theorem dX6_steadyMelt_0 : decode cX6_steadyMelt 0 = .ok (.aload_n 0, 1) := by decide +kernel
theorem dX6_steadyMelt_1 : decode cX6_steadyMelt 1 = .ok (.getfield 27, 3) := by decide +kernel
theorem dX6_steadyMelt_4 : decode cX6_steadyMelt 4 = .ok (.getfield 58, 3) := by decide +kernel
theorem dX6_steadyMelt_7 : decode cX6_steadyMelt 7 = .ok (.ifCond .ne 6, 3) := by decide +kernel
theorem dX6_steadyMelt_10 : decode cX6_steadyMelt 10 = .ok (.ldc 57, 2) := by decide +kernel
theorem dX6_steadyMelt_12 : decode cX6_steadyMelt 12 = .ok (.ireturn, 1) := by decide +kernel
theorem dX6_steadyMelt_13 : decode cX6_steadyMelt 13 = .ok (.aload_n 0, 1) := by decide +kernel
theorem dX6_steadyMelt_14 : decode cX6_steadyMelt 14 = .ok (.getfield 27, 3) := by decide +kernel
theorem dX6_steadyMelt_17 : decode cX6_steadyMelt 17 = .ok (.getstatic 39, 3) := by decide +kernel
theorem dX6_steadyMelt_20 : decode cX6_steadyMelt 20 = .ok (.iconst 2, 1) := by decide +kernel
theorem dX6_steadyMelt_21 : decode cX6_steadyMelt 21 = .ok (.iaload, 1) := by decide +kernel
theorem dX6_steadyMelt_22 : decode cX6_steadyMelt 22 = .ok (.invokevirtual 239, 3) := by decide +kernel
theorem dX6_steadyMelt_25 : decode cX6_steadyMelt 25 = .ok (.ifCond .ne 6, 3) := by decide +kernel
theorem dX6_steadyMelt_28 : decode cX6_steadyMelt 28 = .ok (.ldc 97, 2) := by decide +kernel
theorem dX6_steadyMelt_30 : decode cX6_steadyMelt 30 = .ok (.ireturn, 1) := by decide +kernel
theorem dX6_steadyMelt_31 : decode cX6_steadyMelt 31 = .ok (.getstatic 39, 3) := by decide +kernel
theorem dX6_steadyMelt_34 : decode cX6_steadyMelt 34 = .ok (.iconst 2, 1) := by decide +kernel
theorem dX6_steadyMelt_35 : decode cX6_steadyMelt 35 = .ok (.iaload, 1) := by decide +kernel
theorem dX6_steadyMelt_36 : decode cX6_steadyMelt 36 = .ok (.istore_n 1, 1) := by decide +kernel
theorem dX6_steadyMelt_37 : decode cX6_steadyMelt 37 = .ok (.sipush 8192, 3) := by decide +kernel
theorem dX6_steadyMelt_40 : decode cX6_steadyMelt 40 = .ok (.istore_n 2, 1) := by decide +kernel
theorem dX6_steadyMelt_41 : decode cX6_steadyMelt 41 = .ok (.iload_n 2, 1) := by decide +kernel
theorem dX6_steadyMelt_42 : decode cX6_steadyMelt 42 = .ok (.ifCond .le 38, 3) := by decide +kernel
theorem dX6_steadyMelt_45 : decode cX6_steadyMelt 45 = .ok (.iload_n 1, 1) := by decide +kernel
theorem dX6_steadyMelt_46 : decode cX6_steadyMelt 46 = .ok (.iload_n 2, 1) := by decide +kernel
theorem dX6_steadyMelt_47 : decode cX6_steadyMelt 47 = .ok (.iadd, 1) := by decide +kernel
theorem dX6_steadyMelt_48 : decode cX6_steadyMelt 48 = .ok (.getstatic 43, 3) := by decide +kernel
theorem dX6_steadyMelt_51 : decode cX6_steadyMelt 51 = .ok (.iconst 2, 1) := by decide +kernel
theorem dX6_steadyMelt_52 : decode cX6_steadyMelt 52 = .ok (.iaload, 1) := by decide +kernel
theorem dX6_steadyMelt_53 : decode cX6_steadyMelt 53 = .ok (.if_icmp .gt 20, 3) := by decide +kernel
theorem dX6_steadyMelt_56 : decode cX6_steadyMelt 56 = .ok (.aload_n 0, 1) := by decide +kernel
theorem dX6_steadyMelt_57 : decode cX6_steadyMelt 57 = .ok (.getfield 27, 3) := by decide +kernel
theorem dX6_steadyMelt_60 : decode cX6_steadyMelt 60 = .ok (.iload_n 1, 1) := by decide +kernel
theorem dX6_steadyMelt_61 : decode cX6_steadyMelt 61 = .ok (.iload_n 2, 1) := by decide +kernel
theorem dX6_steadyMelt_62 : decode cX6_steadyMelt 62 = .ok (.iadd, 1) := by decide +kernel
theorem dX6_steadyMelt_63 : decode cX6_steadyMelt 63 = .ok (.invokevirtual 239, 3) := by decide +kernel
theorem dX6_steadyMelt_66 : decode cX6_steadyMelt 66 = .ok (.ifCond .eq 7, 3) := by decide +kernel
theorem dX6_steadyMelt_69 : decode cX6_steadyMelt 69 = .ok (.iload_n 1, 1) := by decide +kernel
theorem dX6_steadyMelt_70 : decode cX6_steadyMelt 70 = .ok (.iload_n 2, 1) := by decide +kernel
theorem dX6_steadyMelt_71 : decode cX6_steadyMelt 71 = .ok (.iadd, 1) := by decide +kernel
theorem dX6_steadyMelt_72 : decode cX6_steadyMelt 72 = .ok (.istore_n 1, 1) := by decide +kernel
theorem dX6_steadyMelt_73 : decode cX6_steadyMelt 73 = .ok (.iload_n 2, 1) := by decide +kernel
theorem dX6_steadyMelt_74 : decode cX6_steadyMelt 74 = .ok (.iconst 2, 1) := by decide +kernel
theorem dX6_steadyMelt_75 : decode cX6_steadyMelt 75 = .ok (.idiv, 1) := by decide +kernel
theorem dX6_steadyMelt_76 : decode cX6_steadyMelt 76 = .ok (.istore_n 2, 1) := by decide +kernel
theorem dX6_steadyMelt_77 : decode cX6_steadyMelt 77 = .ok (.goto (-36), 3) := by decide +kernel
theorem dX6_steadyMelt_80 : decode cX6_steadyMelt 80 = .ok (.iload_n 1, 1) := by decide +kernel
theorem dX6_steadyMelt_81 : decode cX6_steadyMelt 81 = .ok (.ireturn, 1) := by decide +kernel
theorem dX6_undo_0 : decode cX6_undo 0 = .ok (.aload_n 0, 1) := by decide +kernel
theorem dX6_undo_1 : decode cX6_undo 1 = .ok (.getfield 30, 3) := by decide +kernel
theorem dX6_undo_4 : decode cX6_undo 4 = .ok (.ifCond .ne 6, 3) := by decide +kernel
theorem dX6_undo_7 : decode cX6_undo 7 = .ok (.ldc 57, 2) := by decide +kernel
theorem dX6_undo_9 : decode cX6_undo 9 = .ok (.ireturn, 1) := by decide +kernel
theorem dX6_undo_10 : decode cX6_undo 10 = .ok (.aload_n 0, 1) := by decide +kernel
theorem dX6_undo_11 : decode cX6_undo 11 = .ok (.dup, 1) := by decide +kernel
theorem dX6_undo_12 : decode cX6_undo 12 = .ok (.getfield 30, 3) := by decide +kernel
theorem dX6_undo_15 : decode cX6_undo 15 = .ok (.iconst 1, 1) := by decide +kernel
theorem dX6_undo_16 : decode cX6_undo 16 = .ok (.isub, 1) := by decide +kernel
theorem dX6_undo_17 : decode cX6_undo 17 = .ok (.putfield 30, 3) := by decide +kernel
theorem dX6_undo_20 : decode cX6_undo 20 = .ok (.aload_n 0, 1) := by decide +kernel
theorem dX6_undo_21 : decode cX6_undo 21 = .ok (.getfield 16, 3) := by decide +kernel
theorem dX6_undo_24 : decode cX6_undo 24 = .ok (.aload_n 0, 1) := by decide +kernel
theorem dX6_undo_25 : decode cX6_undo 25 = .ok (.getfield 30, 3) := by decide +kernel
theorem dX6_undo_28 : decode cX6_undo 28 = .ok (.aaload, 1) := by decide +kernel
theorem dX6_undo_29 : decode cX6_undo 29 = .ok (.astore_n 1, 1) := by decide +kernel
theorem dX6_undo_30 : decode cX6_undo 30 = .ok (.aload_n 0, 1) := by decide +kernel
theorem dX6_undo_31 : decode cX6_undo 31 = .ok (.getfield 16, 3) := by decide +kernel
theorem dX6_undo_34 : decode cX6_undo 34 = .ok (.aload_n 0, 1) := by decide +kernel
theorem dX6_undo_35 : decode cX6_undo 35 = .ok (.getfield 30, 3) := by decide +kernel
theorem dX6_undo_38 : decode cX6_undo 38 = .ok (.aload_n 0, 1) := by decide +kernel
theorem dX6_undo_39 : decode cX6_undo 39 = .ok (.getfield 27, 3) := by decide +kernel
theorem dX6_undo_42 : decode cX6_undo 42 = .ok (.aastore, 1) := by decide +kernel
theorem dX6_undo_43 : decode cX6_undo 43 = .ok (.aload_n 0, 1) := by decide +kernel
theorem dX6_undo_44 : decode cX6_undo 44 = .ok (.aload_n 1, 1) := by decide +kernel
theorem dX6_undo_45 : decode cX6_undo 45 = .ok (.putfield 27, 3) := by decide +kernel
theorem dX6_undo_48 : decode cX6_undo 48 = .ok (.aload_n 0, 1) := by decide +kernel
theorem dX6_undo_49 : decode cX6_undo 49 = .ok (.getfield 30, 3) := by decide +kernel
theorem dX6_undo_52 : decode cX6_undo 52 = .ok (.ireturn, 1) := by decide +kernel
theorem dX6_recordState_0 : decode cX6_recordState 0 = .ok (.aload_n 0, 1) := by decide +kernel
theorem dX6_recordState_1 : decode cX6_recordState 1 = .ok (.getfield 30, 3) := by decide +kernel
theorem dX6_recordState_4 : decode cX6_recordState 4 = .ok (.iconst 4, 1) := by decide +kernel
theorem dX6_recordState_5 : decode cX6_recordState 5 = .ok (.if_icmp .lt 7, 3) := by decide +kernel
theorem dX6_recordState_8 : decode cX6_recordState 8 = .ok (.aload_n 0, 1) := by decide +kernel
theorem dX6_recordState_9 : decode cX6_recordState 9 = .ok (.invokevirtual 242, 3) := by decide +kernel
theorem dX6_recordState_12 : decode cX6_recordState 12 = .ok (.aload_n 0, 1) := by decide +kernel
theorem dX6_recordState_13 : decode cX6_recordState 13 = .ok (.getfield 16, 3) := by decide +kernel
theorem dX6_recordState_16 : decode cX6_recordState 16 = .ok (.aload_n 0, 1) := by decide +kernel
theorem dX6_recordState_17 : decode cX6_recordState 17 = .ok (.getfield 30, 3) := by decide +kernel
theorem dX6_recordState_20 : decode cX6_recordState 20 = .ok (.aaload, 1) := by decide +kernel
theorem dX6_recordState_21 : decode cX6_recordState 21 = .ok (.aload_n 0, 1) := by decide +kernel
theorem dX6_recordState_22 : decode cX6_recordState 22 = .ok (.getfield 27, 3) := by decide +kernel
theorem dX6_recordState_25 : decode cX6_recordState 25 = .ok (.invokevirtual 223, 3) := by decide +kernel
theorem dX6_recordState_28 : decode cX6_recordState 28 = .ok (.aload_n 0, 1) := by decide +kernel
theorem dX6_recordState_29 : decode cX6_recordState 29 = .ok (.dup, 1) := by decide +kernel
theorem dX6_recordState_30 : decode cX6_recordState 30 = .ok (.getfield 30, 3) := by decide +kernel
theorem dX6_recordState_33 : decode cX6_recordState 33 = .ok (.iconst 1, 1) := by decide +kernel
theorem dX6_recordState_34 : decode cX6_recordState 34 = .ok (.iadd, 1) := by decide +kernel
theorem dX6_recordState_35 : decode cX6_recordState 35 = .ok (.putfield 30, 3) := by decide +kernel
theorem dX6_recordState_38 : decode cX6_recordState 38 = .ok (.return_, 1) := by decide +kernel
theorem dX6_dropOldestState_0 : decode cX6_dropOldestState 0 = .ok (.aload_n 0, 1) := by decide +kernel
theorem dX6_dropOldestState_1 : decode cX6_dropOldestState 1 = .ok (.getfield 16, 3) := by decide +kernel
theorem dX6_dropOldestState_4 : decode cX6_dropOldestState 4 = .ok (.iconst 0, 1) := by decide +kernel
theorem dX6_dropOldestState_5 : decode cX6_dropOldestState 5 = .ok (.aaload, 1) := by decide +kernel
theorem dX6_dropOldestState_6 : decode cX6_dropOldestState 6 = .ok (.astore_n 1, 1) := by decide +kernel
theorem dX6_dropOldestState_7 : decode cX6_dropOldestState 7 = .ok (.iconst 1, 1) := by decide +kernel
theorem dX6_dropOldestState_8 : decode cX6_dropOldestState 8 = .ok (.istore_n 2, 1) := by decide +kernel
theorem dX6_dropOldestState_9 : decode cX6_dropOldestState 9 = .ok (.iload_n 2, 1) := by decide +kernel
theorem dX6_dropOldestState_10 : decode cX6_dropOldestState 10 = .ok (.aload_n 0, 1) := by decide +kernel
theorem dX6_dropOldestState_11 : decode cX6_dropOldestState 11 = .ok (.getfield 16, 3) := by decide +kernel
theorem dX6_dropOldestState_14 : decode cX6_dropOldestState 14 = .ok (.arraylength, 1) := by decide +kernel
theorem dX6_dropOldestState_15 : decode cX6_dropOldestState 15 = .ok (.if_icmp .ge 23, 3) := by decide +kernel
theorem dX6_dropOldestState_18 : decode cX6_dropOldestState 18 = .ok (.aload_n 0, 1) := by decide +kernel
theorem dX6_dropOldestState_19 : decode cX6_dropOldestState 19 = .ok (.getfield 16, 3) := by decide +kernel
theorem dX6_dropOldestState_22 : decode cX6_dropOldestState 22 = .ok (.iload_n 2, 1) := by decide +kernel
theorem dX6_dropOldestState_23 : decode cX6_dropOldestState 23 = .ok (.iconst 1, 1) := by decide +kernel
theorem dX6_dropOldestState_24 : decode cX6_dropOldestState 24 = .ok (.isub, 1) := by decide +kernel
theorem dX6_dropOldestState_25 : decode cX6_dropOldestState 25 = .ok (.aload_n 0, 1) := by decide +kernel
theorem dX6_dropOldestState_26 : decode cX6_dropOldestState 26 = .ok (.getfield 16, 3) := by decide +kernel
theorem dX6_dropOldestState_29 : decode cX6_dropOldestState 29 = .ok (.iload_n 2, 1) := by decide +kernel
theorem dX6_dropOldestState_30 : decode cX6_dropOldestState 30 = .ok (.aaload, 1) := by decide +kernel
theorem dX6_dropOldestState_31 : decode cX6_dropOldestState 31 = .ok (.aastore, 1) := by decide +kernel
theorem dX6_dropOldestState_32 : decode cX6_dropOldestState 32 = .ok (.iinc 2 1, 3) := by decide +kernel
theorem dX6_dropOldestState_35 : decode cX6_dropOldestState 35 = .ok (.goto (-26), 3) := by decide +kernel
theorem dX6_dropOldestState_38 : decode cX6_dropOldestState 38 = .ok (.aload_n 0, 1) := by decide +kernel
theorem dX6_dropOldestState_39 : decode cX6_dropOldestState 39 = .ok (.getfield 16, 3) := by decide +kernel
theorem dX6_dropOldestState_42 : decode cX6_dropOldestState 42 = .ok (.iconst 3, 1) := by decide +kernel
theorem dX6_dropOldestState_43 : decode cX6_dropOldestState 43 = .ok (.aload_n 1, 1) := by decide +kernel
theorem dX6_dropOldestState_44 : decode cX6_dropOldestState 44 = .ok (.aastore, 1) := by decide +kernel
theorem dX6_dropOldestState_45 : decode cX6_dropOldestState 45 = .ok (.aload_n 0, 1) := by decide +kernel
theorem dX6_dropOldestState_46 : decode cX6_dropOldestState 46 = .ok (.iconst 3, 1) := by decide +kernel
theorem dX6_dropOldestState_47 : decode cX6_dropOldestState 47 = .ok (.putfield 30, 3) := by decide +kernel
theorem dX6_dropOldestState_50 : decode cX6_dropOldestState 50 = .ok (.return_, 1) := by decide +kernel
theorem dX6_type_0 : decode cX6_type 0 = .ok (.iload_n 1, 1) := by decide +kernel
theorem dX6_type_1 : decode cX6_type 1 = .ok (.bipush 32, 2) := by decide +kernel
theorem dX6_type_3 : decode cX6_type 3 = .ok (.bipush 126, 2) := by decide +kernel
theorem dX6_type_5 : decode cX6_type 5 = .ok (.invokestatic 34, 3) := by decide +kernel
theorem dX6_type_8 : decode cX6_type 8 = .ok (.ifCond .ne 6, 3) := by decide +kernel
theorem dX6_type_11 : decode cX6_type 11 = .ok (.ldc 38, 2) := by decide +kernel
theorem dX6_type_13 : decode cX6_type 13 = .ok (.ireturn, 1) := by decide +kernel
theorem dX6_type_14 : decode cX6_type 14 = .ok (.aload_n 0, 1) := by decide +kernel
theorem dX6_type_15 : decode cX6_type 15 = .ok (.getfield 23, 3) := by decide +kernel
theorem dX6_type_18 : decode cX6_type 18 = .ok (.getfield 180, 3) := by decide +kernel
theorem dX6_type_21 : decode cX6_type 21 = .ok (.bipush 60, 2) := by decide +kernel
theorem dX6_type_23 : decode cX6_type 23 = .ok (.if_icmp .lt 6, 3) := by decide +kernel
theorem dX6_type_26 : decode cX6_type 26 = .ok (.ldc 61, 2) := by decide +kernel
theorem dX6_type_28 : decode cX6_type 28 = .ok (.ireturn, 1) := by decide +kernel
theorem dX6_type_29 : decode cX6_type 29 = .ok (.aload_n 0, 1) := by decide +kernel
theorem dX6_type_30 : decode cX6_type 30 = .ok (.getfield 23, 3) := by decide +kernel
theorem dX6_type_33 : decode cX6_type 33 = .ok (.iload_n 1, 1) := by decide +kernel
theorem dX6_type_34 : decode cX6_type 34 = .ok (.i2c, 1) := by decide +kernel
theorem dX6_type_35 : decode cX6_type 35 = .ok (.invokevirtual 245, 3) := by decide +kernel
theorem dX6_type_38 : decode cX6_type 38 = .ok (.aload_n 0, 1) := by decide +kernel
theorem dX6_type_39 : decode cX6_type 39 = .ok (.getfield 23, 3) := by decide +kernel
theorem dX6_type_42 : decode cX6_type 42 = .ok (.getfield 180, 3) := by decide +kernel
theorem dX6_type_45 : decode cX6_type 45 = .ok (.ireturn, 1) := by decide +kernel
theorem dX6_fault_0 : decode cX6_fault 0 = .ok (.iload_n 1, 1) := by decide +kernel
theorem dX6_fault_1 : decode cX6_fault 1 = .ok (.iconst 0, 1) := by decide +kernel
theorem dX6_fault_2 : decode cX6_fault 2 = .ok (.iconst 1, 1) := by decide +kernel
theorem dX6_fault_3 : decode cX6_fault 3 = .ok (.invokestatic 34, 3) := by decide +kernel
theorem dX6_fault_6 : decode cX6_fault 6 = .ok (.ifCond .ne 6, 3) := by decide +kernel
theorem dX6_fault_9 : decode cX6_fault 9 = .ok (.ldc 38, 2) := by decide +kernel
theorem dX6_fault_11 : decode cX6_fault 11 = .ok (.ireturn, 1) := by decide +kernel
theorem dX6_fault_12 : decode cX6_fault 12 = .ok (.aload_n 0, 1) := by decide +kernel
theorem dX6_fault_13 : decode cX6_fault 13 = .ok (.invokevirtual 249, 3) := by decide +kernel
theorem dX6_fault_16 : decode cX6_fault 16 = .ok (.istore_n 2, 1) := by decide +kernel
theorem dX6_fault_17 : decode cX6_fault 17 = .ok (.aload_n 0, 1) := by decide +kernel
theorem dX6_fault_18 : decode cX6_fault 18 = .ok (.getfield 23, 3) := by decide +kernel
theorem dX6_fault_21 : decode cX6_fault 21 = .ok (.iload_n 2, 1) := by decide +kernel
theorem dX6_fault_22 : decode cX6_fault 22 = .ok (.invokevirtual 252, 3) := by decide +kernel
theorem dX6_fault_25 : decode cX6_fault 25 = .ok (.istore_n 3, 1) := by decide +kernel
theorem dX6_fault_26 : decode cX6_fault 26 = .ok (.iload_n 3, 1) := by decide +kernel
theorem dX6_fault_27 : decode cX6_fault 27 = .ok (.aload_n 0, 1) := by decide +kernel
theorem dX6_fault_28 : decode cX6_fault 28 = .ok (.getfield 23, 3) := by decide +kernel
theorem dX6_fault_31 : decode cX6_fault 31 = .ok (.getfield 180, 3) := by decide +kernel
theorem dX6_fault_34 : decode cX6_fault 34 = .ok (.if_icmp .lt 6, 3) := by decide +kernel
theorem dX6_fault_37 : decode cX6_fault 37 = .ok (.ldc 97, 2) := by decide +kernel
theorem dX6_fault_39 : decode cX6_fault 39 = .ok (.ireturn, 1) := by decide +kernel
theorem dX6_fault_40 : decode cX6_fault 40 = .ok (.iload_n 1, 1) := by decide +kernel
theorem dX6_fault_41 : decode cX6_fault 41 = .ok (.ifCond .ne 7, 3) := by decide +kernel
theorem dX6_fault_44 : decode cX6_fault 44 = .ok (.iload_n 3, 1) := by decide +kernel
theorem dX6_fault_45 : decode cX6_fault 45 = .ok (.goto 9, 3) := by decide +kernel
theorem dX6_fault_48 : decode cX6_fault 48 = .ok (.aload_n 0, 1) := by decide +kernel
theorem dX6_fault_49 : decode cX6_fault 49 = .ok (.iload_n 3, 1) := by decide +kernel
theorem dX6_fault_50 : decode cX6_fault 50 = .ok (.iload_n 2, 1) := by decide +kernel
theorem dX6_fault_51 : decode cX6_fault 51 = .ok (.invokevirtual 255, 3) := by decide +kernel
theorem dX6_fault_54 : decode cX6_fault 54 = .ok (.ireturn, 1) := by decide +kernel
theorem dX6_possibleYears_0 : decode cX6_possibleYears 0 = .ok (.iconst 0, 1) := by decide +kernel
theorem dX6_possibleYears_1 : decode cX6_possibleYears 1 = .ok (.istore_n 1, 1) := by decide +kernel
theorem dX6_possibleYears_2 : decode cX6_possibleYears 2 = .ok (.iconst 0, 1) := by decide +kernel
theorem dX6_possibleYears_3 : decode cX6_possibleYears 3 = .ok (.istore_n 2, 1) := by decide +kernel
theorem dX6_possibleYears_4 : decode cX6_possibleYears 4 = .ok (.iload_n 2, 1) := by decide +kernel
theorem dX6_possibleYears_5 : decode cX6_possibleYears 5 = .ok (.bipush 60, 2) := by decide +kernel
theorem dX6_possibleYears_7 : decode cX6_possibleYears 7 = .ok (.if_icmp .ge 40, 3) := by decide +kernel
theorem dX6_possibleYears_10 : decode cX6_possibleYears 10 = .ok (.iload_n 1, 1) := by decide +kernel
theorem dX6_possibleYears_11 : decode cX6_possibleYears 11 = .ok (.aload_n 0, 1) := by decide +kernel
theorem dX6_possibleYears_12 : decode cX6_possibleYears 12 = .ok (.getfield 23, 3) := by decide +kernel
theorem dX6_possibleYears_15 : decode cX6_possibleYears 15 = .ok (.getfield 180, 3) := by decide +kernel
theorem dX6_possibleYears_18 : decode cX6_possibleYears 18 = .ok (.if_icmp .ge 12, 3) := by decide +kernel
theorem dX6_possibleYears_21 : decode cX6_possibleYears 21 = .ok (.aload_n 0, 1) := by decide +kernel
theorem dX6_possibleYears_22 : decode cX6_possibleYears 22 = .ok (.iload_n 1, 1) := by decide +kernel
theorem dX6_possibleYears_23 : decode cX6_possibleYears 23 = .ok (.iload_n 2, 1) := by decide +kernel
theorem dX6_possibleYears_24 : decode cX6_possibleYears 24 = .ok (.invokevirtual 255, 3) := by decide +kernel
theorem dX6_possibleYears_27 : decode cX6_possibleYears 27 = .ok (.ifCond .eq 5, 3) := by decide +kernel
theorem dX6_possibleYears_30 : decode cX6_possibleYears 30 = .ok (.iload_n 2, 1) := by decide +kernel
theorem dX6_possibleYears_31 : decode cX6_possibleYears 31 = .ok (.ireturn, 1) := by decide +kernel
theorem dX6_possibleYears_32 : decode cX6_possibleYears 32 = .ok (.aload_n 0, 1) := by decide +kernel
theorem dX6_possibleYears_33 : decode cX6_possibleYears 33 = .ok (.getfield 23, 3) := by decide +kernel
theorem dX6_possibleYears_36 : decode cX6_possibleYears 36 = .ok (.iload_n 1, 1) := by decide +kernel
theorem dX6_possibleYears_37 : decode cX6_possibleYears 37 = .ok (.invokevirtual 264, 3) := by decide +kernel
theorem dX6_possibleYears_40 : decode cX6_possibleYears 40 = .ok (.istore_n 1, 1) := by decide +kernel
theorem dX6_possibleYears_41 : decode cX6_possibleYears 41 = .ok (.iinc 2 1, 3) := by decide +kernel
theorem dX6_possibleYears_44 : decode cX6_possibleYears 44 = .ok (.goto (-40), 3) := by decide +kernel
theorem dX6_possibleYears_47 : decode cX6_possibleYears 47 = .ok (.bipush 60, 2) := by decide +kernel
theorem dX6_possibleYears_49 : decode cX6_possibleYears 49 = .ok (.ireturn, 1) := by decide +kernel
theorem dX6_reasonAt_0 : decode cX6_reasonAt 0 = .ok (.aload_n 0, 1) := by decide +kernel
theorem dX6_reasonAt_1 : decode cX6_reasonAt 1 = .ok (.getfield 23, 3) := by decide +kernel
theorem dX6_reasonAt_4 : decode cX6_reasonAt 4 = .ok (.iload_n 1, 1) := by decide +kernel
theorem dX6_reasonAt_5 : decode cX6_reasonAt 5 = .ok (.invokevirtual 264, 3) := by decide +kernel
theorem dX6_reasonAt_8 : decode cX6_reasonAt 8 = .ok (.ifCond .ge 5, 3) := by decide +kernel
theorem dX6_reasonAt_11 : decode cX6_reasonAt 11 = .ok (.iconst 1, 1) := by decide +kernel
theorem dX6_reasonAt_12 : decode cX6_reasonAt 12 = .ok (.ireturn, 1) := by decide +kernel
theorem dX6_reasonAt_13 : decode cX6_reasonAt 13 = .ok (.aload_n 0, 1) := by decide +kernel
theorem dX6_reasonAt_14 : decode cX6_reasonAt 14 = .ok (.getfield 23, 3) := by decide +kernel
theorem dX6_reasonAt_17 : decode cX6_reasonAt 17 = .ok (.iload_n 1, 1) := by decide +kernel
theorem dX6_reasonAt_18 : decode cX6_reasonAt 18 = .ok (.invokevirtual 258, 3) := by decide +kernel
theorem dX6_reasonAt_21 : decode cX6_reasonAt 21 = .ok (.getstatic 39, 3) := by decide +kernel
theorem dX6_reasonAt_24 : decode cX6_reasonAt 24 = .ok (.iconst 0, 1) := by decide +kernel
theorem dX6_reasonAt_25 : decode cX6_reasonAt 25 = .ok (.iaload, 1) := by decide +kernel
theorem dX6_reasonAt_26 : decode cX6_reasonAt 26 = .ok (.getstatic 43, 3) := by decide +kernel
theorem dX6_reasonAt_29 : decode cX6_reasonAt 29 = .ok (.iconst 0, 1) := by decide +kernel
theorem dX6_reasonAt_30 : decode cX6_reasonAt 30 = .ok (.iaload, 1) := by decide +kernel
theorem dX6_reasonAt_31 : decode cX6_reasonAt 31 = .ok (.invokestatic 34, 3) := by decide +kernel
theorem dX6_reasonAt_34 : decode cX6_reasonAt 34 = .ok (.ifCond .eq 27, 3) := by decide +kernel
theorem dX6_reasonAt_37 : decode cX6_reasonAt 37 = .ok (.aload_n 0, 1) := by decide +kernel
theorem dX6_reasonAt_38 : decode cX6_reasonAt 38 = .ok (.getfield 23, 3) := by decide +kernel
theorem dX6_reasonAt_41 : decode cX6_reasonAt 41 = .ok (.iload_n 1, 1) := by decide +kernel
theorem dX6_reasonAt_42 : decode cX6_reasonAt 42 = .ok (.invokevirtual 261, 3) := by decide +kernel
theorem dX6_reasonAt_45 : decode cX6_reasonAt 45 = .ok (.getstatic 39, 3) := by decide +kernel
theorem dX6_reasonAt_48 : decode cX6_reasonAt 48 = .ok (.iconst 2, 1) := by decide +kernel
theorem dX6_reasonAt_49 : decode cX6_reasonAt 49 = .ok (.iaload, 1) := by decide +kernel
theorem dX6_reasonAt_50 : decode cX6_reasonAt 50 = .ok (.getstatic 43, 3) := by decide +kernel
theorem dX6_reasonAt_53 : decode cX6_reasonAt 53 = .ok (.iconst 2, 1) := by decide +kernel
theorem dX6_reasonAt_54 : decode cX6_reasonAt 54 = .ok (.iaload, 1) := by decide +kernel
theorem dX6_reasonAt_55 : decode cX6_reasonAt 55 = .ok (.invokestatic 34, 3) := by decide +kernel
theorem dX6_reasonAt_58 : decode cX6_reasonAt 58 = .ok (.ifCond .ne 5, 3) := by decide +kernel
theorem dX6_reasonAt_61 : decode cX6_reasonAt 61 = .ok (.iconst 2, 1) := by decide +kernel
theorem dX6_reasonAt_62 : decode cX6_reasonAt 62 = .ok (.ireturn, 1) := by decide +kernel
theorem dX6_reasonAt_63 : decode cX6_reasonAt 63 = .ok (.aload_n 0, 1) := by decide +kernel
theorem dX6_reasonAt_64 : decode cX6_reasonAt 64 = .ok (.getfield 27, 3) := by decide +kernel
theorem dX6_reasonAt_67 : decode cX6_reasonAt 67 = .ok (.getfield 165, 3) := by decide +kernel
theorem dX6_reasonAt_70 : decode cX6_reasonAt 70 = .ok (.iload_n 2, 1) := by decide +kernel
theorem dX6_reasonAt_71 : decode cX6_reasonAt 71 = .ok (.iadd, 1) := by decide +kernel
theorem dX6_reasonAt_72 : decode cX6_reasonAt 72 = .ok (.iconst 1, 1) := by decide +kernel
theorem dX6_reasonAt_73 : decode cX6_reasonAt 73 = .ok (.iadd, 1) := by decide +kernel
theorem dX6_reasonAt_74 : decode cX6_reasonAt 74 = .ok (.sipush 500, 3) := by decide +kernel
theorem dX6_reasonAt_77 : decode cX6_reasonAt 77 = .ok (.if_icmp .le 7, 3) := by decide +kernel
theorem dX6_reasonAt_80 : decode cX6_reasonAt 80 = .ok (.iconst 3, 1) := by decide +kernel
theorem dX6_reasonAt_81 : decode cX6_reasonAt 81 = .ok (.goto 4, 3) := by decide +kernel
theorem dX6_reasonAt_84 : decode cX6_reasonAt 84 = .ok (.iconst 0, 1) := by decide +kernel
theorem dX6_reasonAt_85 : decode cX6_reasonAt 85 = .ok (.ireturn, 1) := by decide +kernel
theorem dX6_isWithin_0 : decode cX6_isWithin 0 = .ok (.iload_n 0, 1) := by decide +kernel
theorem dX6_isWithin_1 : decode cX6_isWithin 1 = .ok (.iload_n 1, 1) := by decide +kernel
theorem dX6_isWithin_2 : decode cX6_isWithin 2 = .ok (.if_icmp .lt 12, 3) := by decide +kernel
theorem dX6_isWithin_5 : decode cX6_isWithin 5 = .ok (.iload_n 0, 1) := by decide +kernel
theorem dX6_isWithin_6 : decode cX6_isWithin 6 = .ok (.iload_n 2, 1) := by decide +kernel
theorem dX6_isWithin_7 : decode cX6_isWithin 7 = .ok (.if_icmp .gt 7, 3) := by decide +kernel
theorem dX6_isWithin_10 : decode cX6_isWithin 10 = .ok (.iconst 1, 1) := by decide +kernel
theorem dX6_isWithin_11 : decode cX6_isWithin 11 = .ok (.goto 4, 3) := by decide +kernel
theorem dX6_isWithin_14 : decode cX6_isWithin 14 = .ok (.iconst 0, 1) := by decide +kernel
theorem dX6_isWithin_15 : decode cX6_isWithin 15 = .ok (.ireturn, 1) := by decide +kernel
