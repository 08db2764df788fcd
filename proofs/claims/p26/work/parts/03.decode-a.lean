theorem dJ9_floorDiv_7cf53_0 : decode cJ9_floorDiv_7cf53 0 = .ok (.iload_n 0, 1) := by decide +kernel
theorem dJ9_floorDiv_7cf53_1 : decode cJ9_floorDiv_7cf53 1 = .ok (.iload_n 1, 1) := by decide +kernel
theorem dJ9_floorDiv_7cf53_2 : decode cJ9_floorDiv_7cf53 2 = .ok (.idiv, 1) := by decide +kernel
theorem dJ9_floorDiv_7cf53_3 : decode cJ9_floorDiv_7cf53 3 = .ok (.istore_n 2, 1) := by decide +kernel
theorem dJ9_floorDiv_7cf53_4 : decode cJ9_floorDiv_7cf53 4 = .ok (.iload_n 0, 1) := by decide +kernel
theorem dJ9_floorDiv_7cf53_5 : decode cJ9_floorDiv_7cf53 5 = .ok (.iload_n 1, 1) := by decide +kernel
theorem dJ9_floorDiv_7cf53_6 : decode cJ9_floorDiv_7cf53 6 = .ok (.ixor, 1) := by decide +kernel
theorem dJ9_floorDiv_7cf53_7 : decode cJ9_floorDiv_7cf53 7 = .ok (.ifCond .ge 14, 3) := by decide +kernel
theorem dJ9_floorDiv_7cf53_10 : decode cJ9_floorDiv_7cf53 10 = .ok (.iload_n 2, 1) := by decide +kernel
theorem dJ9_floorDiv_7cf53_11 : decode cJ9_floorDiv_7cf53 11 = .ok (.iload_n 1, 1) := by decide +kernel
theorem dJ9_floorDiv_7cf53_12 : decode cJ9_floorDiv_7cf53 12 = .ok (.imul, 1) := by decide +kernel
theorem dJ9_floorDiv_7cf53_13 : decode cJ9_floorDiv_7cf53 13 = .ok (.iload_n 0, 1) := by decide +kernel
theorem dJ9_floorDiv_7cf53_14 : decode cJ9_floorDiv_7cf53 14 = .ok (.if_icmp .eq 7, 3) := by decide +kernel
theorem dJ9_floorDiv_7cf53_17 : decode cJ9_floorDiv_7cf53 17 = .ok (.iload_n 2, 1) := by decide +kernel
theorem dJ9_floorDiv_7cf53_18 : decode cJ9_floorDiv_7cf53 18 = .ok (.iconst 1, 1) := by decide +kernel
theorem dJ9_floorDiv_7cf53_19 : decode cJ9_floorDiv_7cf53 19 = .ok (.isub, 1) := by decide +kernel
theorem dJ9_floorDiv_7cf53_20 : decode cJ9_floorDiv_7cf53 20 = .ok (.ireturn, 1) := by decide +kernel
theorem dJ9_floorDiv_7cf53_21 : decode cJ9_floorDiv_7cf53 21 = .ok (.iload_n 2, 1) := by decide +kernel
theorem dJ9_floorDiv_7cf53_22 : decode cJ9_floorDiv_7cf53 22 = .ok (.ireturn, 1) := by decide +kernel
theorem dJ9_max_7cf53_0 : decode cJ9_max_7cf53 0 = .ok (.iload_n 0, 1) := by decide +kernel
theorem dJ9_max_7cf53_1 : decode cJ9_max_7cf53 1 = .ok (.iload_n 1, 1) := by decide +kernel
theorem dJ9_max_7cf53_2 : decode cJ9_max_7cf53 2 = .ok (.if_icmp .lt 7, 3) := by decide +kernel
theorem dJ9_max_7cf53_5 : decode cJ9_max_7cf53 5 = .ok (.iload_n 0, 1) := by decide +kernel
theorem dJ9_max_7cf53_6 : decode cJ9_max_7cf53 6 = .ok (.goto 4, 3) := by decide +kernel
theorem dJ9_max_7cf53_9 : decode cJ9_max_7cf53 9 = .ok (.iload_n 1, 1) := by decide +kernel
theorem dJ9_max_7cf53_10 : decode cJ9_max_7cf53 10 = .ok (.ireturn, 1) := by decide +kernel
theorem dJ9_min_7cf53_0 : decode cJ9_min_7cf53 0 = .ok (.iload_n 0, 1) := by decide +kernel
theorem dJ9_min_7cf53_1 : decode cJ9_min_7cf53 1 = .ok (.iload_n 1, 1) := by decide +kernel
theorem dJ9_min_7cf53_2 : decode cJ9_min_7cf53 2 = .ok (.if_icmp .gt 7, 3) := by decide +kernel
theorem dJ9_min_7cf53_5 : decode cJ9_min_7cf53 5 = .ok (.iload_n 0, 1) := by decide +kernel
theorem dJ9_min_7cf53_6 : decode cJ9_min_7cf53 6 = .ok (.goto 4, 3) := by decide +kernel
theorem dJ9_min_7cf53_9 : decode cJ9_min_7cf53 9 = .ok (.iload_n 1, 1) := by decide +kernel
theorem dJ9_min_7cf53_10 : decode cJ9_min_7cf53 10 = .ok (.ireturn, 1) := by decide +kernel
theorem dJ7_fill_53178_0 : decode cJ7_fill_53178 0 = .ok (.iconst 0, 1) := by decide +kernel
theorem dJ7_fill_53178_1 : decode cJ7_fill_53178 1 = .ok (.istore_n 2, 1) := by decide +kernel
theorem dJ7_fill_53178_2 : decode cJ7_fill_53178 2 = .ok (.aload_n 0, 1) := by decide +kernel
theorem dJ7_fill_53178_3 : decode cJ7_fill_53178 3 = .ok (.arraylength, 1) := by decide +kernel
theorem dJ7_fill_53178_4 : decode cJ7_fill_53178 4 = .ok (.istore_n 3, 1) := by decide +kernel
theorem dJ7_fill_53178_5 : decode cJ7_fill_53178 5 = .ok (.iload_n 2, 1) := by decide +kernel
theorem dJ7_fill_53178_6 : decode cJ7_fill_53178 6 = .ok (.iload_n 3, 1) := by decide +kernel
theorem dJ7_fill_53178_7 : decode cJ7_fill_53178 7 = .ok (.if_icmp .ge 13, 3) := by decide +kernel
theorem dJ7_fill_53178_10 : decode cJ7_fill_53178 10 = .ok (.aload_n 0, 1) := by decide +kernel
theorem dJ7_fill_53178_11 : decode cJ7_fill_53178 11 = .ok (.iload_n 2, 1) := by decide +kernel
theorem dJ7_fill_53178_12 : decode cJ7_fill_53178 12 = .ok (.iload_n 1, 1) := by decide +kernel
theorem dJ7_fill_53178_13 : decode cJ7_fill_53178 13 = .ok (.iastore, 1) := by decide +kernel
theorem dJ7_fill_53178_14 : decode cJ7_fill_53178 14 = .ok (.iinc 2 1, 3) := by decide +kernel
theorem dJ7_fill_53178_17 : decode cJ7_fill_53178 17 = .ok (.goto (-12), 3) := by decide +kernel
theorem dJ7_fill_53178_20 : decode cJ7_fill_53178 20 = .ok (.return_, 1) := by decide +kernel
theorem dX0_init_0 : decode cX0_init 0 = .ok (.aload_n 0, 1) := by decide +kernel
theorem dX0_init_1 : decode cX0_init 1 = .ok (.invokespecial 1, 3) := by decide +kernel
theorem dX0_init_4 : decode cX0_init 4 = .ok (.aload_n 0, 1) := by decide +kernel
theorem dX0_init_5 : decode cX0_init 5 = .ok (.new 7, 3) := by decide +kernel
theorem dX0_init_8 : decode cX0_init 8 = .ok (.dup, 1) := by decide +kernel
theorem dX0_init_9 : decode cX0_init 9 = .ok (.invokespecial 9, 3) := by decide +kernel
theorem dX0_init_12 : decode cX0_init 12 = .ok (.putfield 10, 3) := by decide +kernel
theorem dX0_init_15 : decode cX0_init 15 = .ok (.aload_n 0, 1) := by decide +kernel
theorem dX0_init_16 : decode cX0_init 16 = .ok (.iconst 0, 1) := by decide +kernel
theorem dX0_init_17 : decode cX0_init 17 = .ok (.putfield 16, 3) := by decide +kernel
theorem dX0_init_20 : decode cX0_init 20 = .ok (.aload_n 0, 1) := by decide +kernel
theorem dX0_init_21 : decode cX0_init 21 = .ok (.iconst 0, 1) := by decide +kernel
theorem dX0_init_22 : decode cX0_init 22 = .ok (.putfield 20, 3) := by decide +kernel
theorem dX0_init_25 : decode cX0_init 25 = .ok (.aload_n 0, 1) := by decide +kernel
theorem dX0_init_26 : decode cX0_init 26 = .ok (.iconst 0, 1) := by decide +kernel
theorem dX0_init_27 : decode cX0_init 27 = .ok (.putfield 23, 3) := by decide +kernel
theorem dX0_init_30 : decode cX0_init 30 = .ok (.aload_n 0, 1) := by decide +kernel
theorem dX0_init_31 : decode cX0_init 31 = .ok (.iconst 0, 1) := by decide +kernel
theorem dX0_init_32 : decode cX0_init 32 = .ok (.putfield 26, 3) := by decide +kernel
theorem dX0_init_35 : decode cX0_init 35 = .ok (.aload_n 0, 1) := by decide +kernel
theorem dX0_init_36 : decode cX0_init 36 = .ok (.iconst 0, 1) := by decide +kernel
theorem dX0_init_37 : decode cX0_init 37 = .ok (.putfield 29, 3) := by decide +kernel
theorem dX0_init_40 : decode cX0_init 40 = .ok (.aload_n 0, 1) := by decide +kernel
theorem dX0_init_41 : decode cX0_init 41 = .ok (.iconst 0, 1) := by decide +kernel
theorem dX0_init_42 : decode cX0_init 42 = .ok (.putfield 32, 3) := by decide +kernel
theorem dX0_init_45 : decode cX0_init 45 = .ok (.return_, 1) := by decide +kernel
theorem dX0_begin_0 : decode cX0_begin 0 = .ok (.aload_n 0, 1) := by decide +kernel
theorem dX0_begin_1 : decode cX0_begin 1 = .ok (.iload_n 1, 1) := by decide +kernel
theorem dX0_begin_2 : decode cX0_begin 2 = .ok (.putfield 16, 3) := by decide +kernel
theorem dX0_begin_5 : decode cX0_begin 5 = .ok (.aload_n 0, 1) := by decide +kernel
theorem dX0_begin_6 : decode cX0_begin 6 = .ok (.iload_n 2, 1) := by decide +kernel
theorem dX0_begin_7 : decode cX0_begin 7 = .ok (.putfield 20, 3) := by decide +kernel
theorem dX0_begin_10 : decode cX0_begin 10 = .ok (.aload_n 0, 1) := by decide +kernel
theorem dX0_begin_11 : decode cX0_begin 11 = .ok (.iload_n 3, 1) := by decide +kernel
theorem dX0_begin_12 : decode cX0_begin 12 = .ok (.putfield 23, 3) := by decide +kernel
theorem dX0_begin_15 : decode cX0_begin 15 = .ok (.aload_n 0, 1) := by decide +kernel
theorem dX0_begin_16 : decode cX0_begin 16 = .ok (.iconst 0, 1) := by decide +kernel
theorem dX0_begin_17 : decode cX0_begin 17 = .ok (.putfield 26, 3) := by decide +kernel
theorem dX0_begin_20 : decode cX0_begin 20 = .ok (.aload_n 0, 1) := by decide +kernel
theorem dX0_begin_21 : decode cX0_begin 21 = .ok (.iconst 0, 1) := by decide +kernel
theorem dX0_begin_22 : decode cX0_begin 22 = .ok (.putfield 29, 3) := by decide +kernel
theorem dX0_begin_25 : decode cX0_begin 25 = .ok (.aload_n 0, 1) := by decide +kernel
theorem dX0_begin_26 : decode cX0_begin 26 = .ok (.iconst 0, 1) := by decide +kernel
theorem dX0_begin_27 : decode cX0_begin 27 = .ok (.putfield 32, 3) := by decide +kernel
theorem dX0_begin_30 : decode cX0_begin 30 = .ok (.aload_n 0, 1) := by decide +kernel
theorem dX0_begin_31 : decode cX0_begin 31 = .ok (.getfield 10, 3) := by decide +kernel
theorem dX0_begin_34 : decode cX0_begin 34 = .ok (.invokevirtual 35, 3) := by decide +kernel
theorem dX0_begin_37 : decode cX0_begin 37 = .ok (.return_, 1) := by decide +kernel
theorem dX0_copyFrom_0 : decode cX0_copyFrom 0 = .ok (.aload_n 0, 1) := by decide +kernel
theorem dX0_copyFrom_1 : decode cX0_copyFrom 1 = .ok (.getfield 10, 3) := by decide +kernel
theorem dX0_copyFrom_4 : decode cX0_copyFrom 4 = .ok (.aload_n 1, 1) := by decide +kernel
theorem dX0_copyFrom_5 : decode cX0_copyFrom 5 = .ok (.getfield 10, 3) := by decide +kernel
theorem dX0_copyFrom_8 : decode cX0_copyFrom 8 = .ok (.invokevirtual 38, 3) := by decide +kernel
theorem dX0_copyFrom_11 : decode cX0_copyFrom 11 = .ok (.aload_n 0, 1) := by decide +kernel
theorem dX0_copyFrom_12 : decode cX0_copyFrom 12 = .ok (.aload_n 1, 1) := by decide +kernel
theorem dX0_copyFrom_13 : decode cX0_copyFrom 13 = .ok (.getfield 16, 3) := by decide +kernel
theorem dX0_copyFrom_16 : decode cX0_copyFrom 16 = .ok (.putfield 16, 3) := by decide +kernel
theorem dX0_copyFrom_19 : decode cX0_copyFrom 19 = .ok (.aload_n 0, 1) := by decide +kernel
theorem dX0_copyFrom_20 : decode cX0_copyFrom 20 = .ok (.aload_n 1, 1) := by decide +kernel
theorem dX0_copyFrom_21 : decode cX0_copyFrom 21 = .ok (.getfield 20, 3) := by decide +kernel
theorem dX0_copyFrom_24 : decode cX0_copyFrom 24 = .ok (.putfield 20, 3) := by decide +kernel
theorem dX0_copyFrom_27 : decode cX0_copyFrom 27 = .ok (.aload_n 0, 1) := by decide +kernel
theorem dX0_copyFrom_28 : decode cX0_copyFrom 28 = .ok (.aload_n 1, 1) := by decide +kernel
theorem dX0_copyFrom_29 : decode cX0_copyFrom 29 = .ok (.getfield 23, 3) := by decide +kernel
theorem dX0_copyFrom_32 : decode cX0_copyFrom 32 = .ok (.putfield 23, 3) := by decide +kernel
theorem dX0_copyFrom_35 : decode cX0_copyFrom 35 = .ok (.aload_n 0, 1) := by decide +kernel
theorem dX0_copyFrom_36 : decode cX0_copyFrom 36 = .ok (.aload_n 1, 1) := by decide +kernel
theorem dX0_copyFrom_37 : decode cX0_copyFrom 37 = .ok (.getfield 26, 3) := by decide +kernel
theorem dX0_copyFrom_40 : decode cX0_copyFrom 40 = .ok (.putfield 26, 3) := by decide +kernel
theorem dX0_copyFrom_43 : decode cX0_copyFrom 43 = .ok (.aload_n 0, 1) := by decide +kernel
theorem dX0_copyFrom_44 : decode cX0_copyFrom 44 = .ok (.aload_n 1, 1) := by decide +kernel
theorem dX0_copyFrom_45 : decode cX0_copyFrom 45 = .ok (.getfield 29, 3) := by decide +kernel
theorem dX0_copyFrom_48 : decode cX0_copyFrom 48 = .ok (.putfield 29, 3) := by decide +kernel
theorem dX0_copyFrom_51 : decode cX0_copyFrom 51 = .ok (.aload_n 0, 1) := by decide +kernel
theorem dX0_copyFrom_52 : decode cX0_copyFrom 52 = .ok (.aload_n 1, 1) := by decide +kernel
theorem dX0_copyFrom_53 : decode cX0_copyFrom 53 = .ok (.getfield 32, 3) := by decide +kernel
theorem dX0_copyFrom_56 : decode cX0_copyFrom 56 = .ok (.putfield 32, 3) := by decide +kernel
theorem dX0_copyFrom_59 : decode cX0_copyFrom 59 = .ok (.return_, 1) := by decide +kernel
theorem dX0_iceToGive_0 : decode cX0_iceToGive 0 = .ok (.aload_n 0, 1) := by decide +kernel
theorem dX0_iceToGive_1 : decode cX0_iceToGive 1 = .ok (.getfield 10, 3) := by decide +kernel
theorem dX0_iceToGive_4 : decode cX0_iceToGive 4 = .ok (.getfield 42, 3) := by decide +kernel
theorem dX0_iceToGive_7 : decode cX0_iceToGive 7 = .ok (.i2l, 1) := by decide +kernel
theorem dX0_iceToGive_8 : decode cX0_iceToGive 8 = .ok (.aload_n 0, 1) := by decide +kernel
theorem dX0_iceToGive_9 : decode cX0_iceToGive 9 = .ok (.getfield 23, 3) := by decide +kernel
theorem dX0_iceToGive_12 : decode cX0_iceToGive 12 = .ok (.i2l, 1) := by decide +kernel
theorem dX0_iceToGive_13 : decode cX0_iceToGive 13 = .ok (.lmul, 1) := by decide +kernel
theorem dX0_iceToGive_14 : decode cX0_iceToGive 14 = .ok (.ldc2_w 45, 3) := by decide +kernel
theorem dX0_iceToGive_17 : decode cX0_iceToGive 17 = .ok (.ldiv, 1) := by decide +kernel
theorem dX0_iceToGive_18 : decode cX0_iceToGive 18 = .ok (.l2i, 1) := by decide +kernel
theorem dX0_iceToGive_19 : decode cX0_iceToGive 19 = .ok (.ireturn, 1) := by decide +kernel
theorem dX0_way_0 : decode cX0_way 0 = .ok (.aload_n 0, 1) := by decide +kernel
theorem dX0_way_1 : decode cX0_way 1 = .ok (.getfield 20, 3) := by decide +kernel
theorem dX0_way_4 : decode cX0_way 4 = .ok (.aload_n 0, 1) := by decide +kernel
theorem dX0_way_5 : decode cX0_way 5 = .ok (.getfield 23, 3) := by decide +kernel
theorem dX0_way_8 : decode cX0_way 8 = .ok (.imul, 1) := by decide +kernel
theorem dX0_way_9 : decode cX0_way 9 = .ok (.sipush 1000, 3) := by decide +kernel
theorem dX0_way_12 : decode cX0_way 12 = .ok (.idiv, 1) := by decide +kernel
theorem dX0_way_13 : decode cX0_way 13 = .ok (.ireturn, 1) := by decide +kernel
theorem dX1_init_0 : decode cX1_init 0 = .ok (.aload_n 0, 1) := by decide +kernel
theorem dX1_init_1 : decode cX1_init 1 = .ok (.invokespecial 1, 3) := by decide +kernel
theorem dX1_init_4 : decode cX1_init 4 = .ok (.aload_n 0, 1) := by decide +kernel
theorem dX1_init_5 : decode cX1_init 5 = .ok (.iconst 0, 1) := by decide +kernel
theorem dX1_init_6 : decode cX1_init 6 = .ok (.putfield 7, 3) := by decide +kernel
theorem dX1_init_9 : decode cX1_init 9 = .ok (.aload_n 0, 1) := by decide +kernel
theorem dX1_init_10 : decode cX1_init 10 = .ok (.iconst 0, 1) := by decide +kernel
theorem dX1_init_11 : decode cX1_init 11 = .ok (.putfield 13, 3) := by decide +kernel
theorem dX1_init_14 : decode cX1_init 14 = .ok (.aload_n 0, 1) := by decide +kernel
theorem dX1_init_15 : decode cX1_init 15 = .ok (.iconst 0, 1) := by decide +kernel
theorem dX1_init_16 : decode cX1_init 16 = .ok (.putfield 16, 3) := by decide +kernel
theorem dX1_init_19 : decode cX1_init 19 = .ok (.aload_n 0, 1) := by decide +kernel
theorem dX1_init_20 : decode cX1_init 20 = .ok (.iconst 0, 1) := by decide +kernel
theorem dX1_init_21 : decode cX1_init 21 = .ok (.putfield 19, 3) := by decide +kernel
theorem dX1_init_24 : decode cX1_init 24 = .ok (.return_, 1) := by decide +kernel
theorem dX1_copyFrom_0 : decode cX1_copyFrom 0 = .ok (.aload_n 0, 1) := by decide +kernel
theorem dX1_copyFrom_1 : decode cX1_copyFrom 1 = .ok (.aload_n 1, 1) := by decide +kernel
theorem dX1_copyFrom_2 : decode cX1_copyFrom 2 = .ok (.getfield 7, 3) := by decide +kernel
theorem dX1_copyFrom_5 : decode cX1_copyFrom 5 = .ok (.putfield 7, 3) := by decide +kernel
theorem dX1_copyFrom_8 : decode cX1_copyFrom 8 = .ok (.aload_n 0, 1) := by decide +kernel
theorem dX1_copyFrom_9 : decode cX1_copyFrom 9 = .ok (.aload_n 1, 1) := by decide +kernel
theorem dX1_copyFrom_10 : decode cX1_copyFrom 10 = .ok (.getfield 13, 3) := by decide +kernel
theorem dX1_copyFrom_13 : decode cX1_copyFrom 13 = .ok (.putfield 13, 3) := by decide +kernel
theorem dX1_copyFrom_16 : decode cX1_copyFrom 16 = .ok (.aload_n 0, 1) := by decide +kernel
theorem dX1_copyFrom_17 : decode cX1_copyFrom 17 = .ok (.aload_n 1, 1) := by decide +kernel
theorem dX1_copyFrom_18 : decode cX1_copyFrom 18 = .ok (.getfield 16, 3) := by decide +kernel
theorem dX1_copyFrom_21 : decode cX1_copyFrom 21 = .ok (.putfield 16, 3) := by decide +kernel
theorem dX1_copyFrom_24 : decode cX1_copyFrom 24 = .ok (.aload_n 0, 1) := by decide +kernel
theorem dX1_copyFrom_25 : decode cX1_copyFrom 25 = .ok (.aload_n 1, 1) := by decide +kernel
theorem dX1_copyFrom_26 : decode cX1_copyFrom 26 = .ok (.getfield 19, 3) := by decide +kernel
theorem dX1_copyFrom_29 : decode cX1_copyFrom 29 = .ok (.putfield 19, 3) := by decide +kernel
theorem dX1_copyFrom_32 : decode cX1_copyFrom 32 = .ok (.return_, 1) := by decide +kernel
theorem dX1_calve_0 : decode cX1_calve 0 = .ok (.aload_n 0, 1) := by decide +kernel
theorem dX1_calve_1 : decode cX1_calve 1 = .ok (.getfield 13, 3) := by decide +kernel
theorem dX1_calve_4 : decode cX1_calve 4 = .ok (.ifCond .le 15, 3) := by decide +kernel
theorem dX1_calve_7 : decode cX1_calve 7 = .ok (.aload_n 0, 1) := by decide +kernel
theorem dX1_calve_8 : decode cX1_calve 8 = .ok (.dup, 1) := by decide +kernel
theorem dX1_calve_9 : decode cX1_calve 9 = .ok (.getfield 13, 3) := by decide +kernel
theorem dX1_calve_12 : decode cX1_calve 12 = .ok (.iconst 1, 1) := by decide +kernel
theorem dX1_calve_13 : decode cX1_calve 13 = .ok (.isub, 1) := by decide +kernel
theorem dX1_calve_14 : decode cX1_calve 14 = .ok (.putfield 13, 3) := by decide +kernel
theorem dX1_calve_17 : decode cX1_calve 17 = .ok (.iconst 0, 1) := by decide +kernel
theorem dX1_calve_18 : decode cX1_calve 18 = .ok (.ireturn, 1) := by decide +kernel
theorem dX1_calve_19 : decode cX1_calve 19 = .ok (.iload_n 1, 1) := by decide +kernel
theorem dX1_calve_20 : decode cX1_calve 20 = .ok (.ifCond .le 11, 3) := by decide +kernel
theorem dX1_calve_23 : decode cX1_calve 23 = .ok (.aload_n 0, 1) := by decide +kernel
theorem dX1_calve_24 : decode cX1_calve 24 = .ok (.getfield 7, 3) := by decide +kernel
theorem dX1_calve_27 : decode cX1_calve 27 = .ok (.iload_n 1, 1) := by decide +kernel
theorem dX1_calve_28 : decode cX1_calve 28 = .ok (.if_icmp .ge 5, 3) := by decide +kernel
theorem dX1_calve_31 : decode cX1_calve 31 = .ok (.iconst 0, 1) := by decide +kernel
theorem dX1_calve_32 : decode cX1_calve 32 = .ok (.ireturn, 1) := by decide +kernel
theorem dX1_calve_33 : decode cX1_calve 33 = .ok (.aload_n 0, 1) := by decide +kernel
theorem dX1_calve_34 : decode cX1_calve 34 = .ok (.getfield 7, 3) := by decide +kernel
theorem dX1_calve_37 : decode cX1_calve 37 = .ok (.iload_n 1, 1) := by decide +kernel
theorem dX1_calve_38 : decode cX1_calve 38 = .ok (.idiv, 1) := by decide +kernel
theorem dX1_calve_39 : decode cX1_calve 39 = .ok (.istore 4, 2) := by decide +kernel
theorem dX1_calve_41 : decode cX1_calve 41 = .ok (.aload_n 0, 1) := by decide +kernel
theorem dX1_calve_42 : decode cX1_calve 42 = .ok (.dup, 1) := by decide +kernel
theorem dX1_calve_43 : decode cX1_calve 43 = .ok (.getfield 16, 3) := by decide +kernel
theorem dX1_calve_46 : decode cX1_calve 46 = .ok (.iload 4, 2) := by decide +kernel
theorem dX1_calve_48 : decode cX1_calve 48 = .ok (.iadd, 1) := by decide +kernel
theorem dX1_calve_49 : decode cX1_calve 49 = .ok (.putfield 16, 3) := by decide +kernel
theorem dX1_calve_52 : decode cX1_calve 52 = .ok (.aload_n 0, 1) := by decide +kernel
theorem dX1_calve_53 : decode cX1_calve 53 = .ok (.dup, 1) := by decide +kernel
theorem dX1_calve_54 : decode cX1_calve 54 = .ok (.getfield 7, 3) := by decide +kernel
theorem dX1_calve_57 : decode cX1_calve 57 = .ok (.iload 4, 2) := by decide +kernel
theorem dX1_calve_59 : decode cX1_calve 59 = .ok (.iload_n 1, 1) := by decide +kernel
theorem dX1_calve_60 : decode cX1_calve 60 = .ok (.imul, 1) := by decide +kernel
theorem dX1_calve_61 : decode cX1_calve 61 = .ok (.isub, 1) := by decide +kernel
theorem dX1_calve_62 : decode cX1_calve 62 = .ok (.putfield 7, 3) := by decide +kernel
theorem dX1_calve_65 : decode cX1_calve 65 = .ok (.aload_n 0, 1) := by decide +kernel
theorem dX1_calve_66 : decode cX1_calve 66 = .ok (.iload_n 2, 1) := by decide +kernel
theorem dX1_calve_67 : decode cX1_calve 67 = .ok (.putfield 13, 3) := by decide +kernel
theorem dX1_calve_70 : decode cX1_calve 70 = .ok (.aload_n 0, 1) := by decide +kernel
theorem dX1_calve_71 : decode cX1_calve 71 = .ok (.iload_n 3, 1) := by decide +kernel
theorem dX1_calve_72 : decode cX1_calve 72 = .ok (.putfield 19, 3) := by decide +kernel
theorem dX1_calve_75 : decode cX1_calve 75 = .ok (.iload 4, 2) := by decide +kernel
theorem dX1_calve_77 : decode cX1_calve 77 = .ok (.iload_n 1, 1) := by decide +kernel
theorem dX1_calve_78 : decode cX1_calve 78 = .ok (.imul, 1) := by decide +kernel
theorem dX1_calve_79 : decode cX1_calve 79 = .ok (.ireturn, 1) := by decide +kernel
theorem dX2_init_0 : decode cX2_init 0 = .ok (.aload_n 0, 1) := by decide +kernel
theorem dX2_init_1 : decode cX2_init 1 = .ok (.invokespecial 3, 3) := by decide +kernel
theorem dX2_init_4 : decode cX2_init 4 = .ok (.aload_n 0, 1) := by decide +kernel
theorem dX2_init_5 : decode cX2_init 5 = .ok (.sipush 801, 3) := by decide +kernel
theorem dX2_init_8 : decode cX2_init 8 = .ok (.newarray .int, 2) := by decide +kernel
theorem dX2_init_10 : decode cX2_init 10 = .ok (.putfield 9, 3) := by decide +kernel
theorem dX2_init_13 : decode cX2_init 13 = .ok (.aload_n 0, 1) := by decide +kernel
theorem dX2_init_14 : decode cX2_init 14 = .ok (.iconst 0, 1) := by decide +kernel
theorem dX2_init_15 : decode cX2_init 15 = .ok (.putfield 15, 3) := by decide +kernel
theorem dX2_init_18 : decode cX2_init 18 = .ok (.aload_n 0, 1) := by decide +kernel
theorem dX2_init_19 : decode cX2_init 19 = .ok (.sipush 801, 3) := by decide +kernel
theorem dX2_init_22 : decode cX2_init 22 = .ok (.putfield 19, 3) := by decide +kernel
theorem dX2_init_25 : decode cX2_init 25 = .ok (.aload_n 0, 1) := by decide +kernel
theorem dX2_init_26 : decode cX2_init 26 = .ok (.iconst (-1), 1) := by decide +kernel
theorem dX2_init_27 : decode cX2_init 27 = .ok (.putfield 22, 3) := by decide +kernel
theorem dX2_init_30 : decode cX2_init 30 = .ok (.return_, 1) := by decide +kernel
theorem dX2_copyFrom_0 : decode cX2_copyFrom 0 = .ok (.aload_n 1, 1) := by decide +kernel
theorem dX2_copyFrom_1 : decode cX2_copyFrom 1 = .ok (.getfield 9, 3) := by decide +kernel
theorem dX2_copyFrom_4 : decode cX2_copyFrom 4 = .ok (.iconst 0, 1) := by decide +kernel
theorem dX2_copyFrom_5 : decode cX2_copyFrom 5 = .ok (.aload_n 0, 1) := by decide +kernel
theorem dX2_copyFrom_6 : decode cX2_copyFrom 6 = .ok (.getfield 9, 3) := by decide +kernel
theorem dX2_copyFrom_9 : decode cX2_copyFrom 9 = .ok (.iconst 0, 1) := by decide +kernel
theorem dX2_copyFrom_10 : decode cX2_copyFrom 10 = .ok (.sipush 801, 3) := by decide +kernel
theorem dX2_copyFrom_13 : decode cX2_copyFrom 13 = .ok (.invokestatic 25, 3) := by decide +kernel
theorem dX2_copyFrom_16 : decode cX2_copyFrom 16 = .ok (.aload_n 0, 1) := by decide +kernel
theorem dX2_copyFrom_17 : decode cX2_copyFrom 17 = .ok (.aload_n 1, 1) := by decide +kernel
theorem dX2_copyFrom_18 : decode cX2_copyFrom 18 = .ok (.getfield 15, 3) := by decide +kernel
theorem dX2_copyFrom_21 : decode cX2_copyFrom 21 = .ok (.putfield 15, 3) := by decide +kernel
theorem dX2_copyFrom_24 : decode cX2_copyFrom 24 = .ok (.aload_n 0, 1) := by decide +kernel
theorem dX2_copyFrom_25 : decode cX2_copyFrom 25 = .ok (.aload_n 1, 1) := by decide +kernel
theorem dX2_copyFrom_26 : decode cX2_copyFrom 26 = .ok (.getfield 19, 3) := by decide +kernel
theorem dX2_copyFrom_29 : decode cX2_copyFrom 29 = .ok (.putfield 19, 3) := by decide +kernel
theorem dX2_copyFrom_32 : decode cX2_copyFrom 32 = .ok (.aload_n 0, 1) := by decide +kernel
theorem dX2_copyFrom_33 : decode cX2_copyFrom 33 = .ok (.aload_n 1, 1) := by decide +kernel
theorem dX2_copyFrom_34 : decode cX2_copyFrom 34 = .ok (.getfield 22, 3) := by decide +kernel
theorem dX2_copyFrom_37 : decode cX2_copyFrom 37 = .ok (.putfield 22, 3) := by decide +kernel
theorem dX2_copyFrom_40 : decode cX2_copyFrom 40 = .ok (.return_, 1) := by decide +kernel
theorem dX2_empty_0 : decode cX2_empty 0 = .ok (.aload_n 0, 1) := by decide +kernel
theorem dX2_empty_1 : decode cX2_empty 1 = .ok (.getfield 9, 3) := by decide +kernel
theorem dX2_empty_4 : decode cX2_empty 4 = .ok (.iconst 0, 1) := by decide +kernel
theorem dX2_empty_5 : decode cX2_empty 5 = .ok (.invokestatic 31, 3) := by decide +kernel
theorem dX2_empty_8 : decode cX2_empty 8 = .ok (.aload_n 0, 1) := by decide +kernel
theorem dX2_empty_9 : decode cX2_empty 9 = .ok (.iconst 0, 1) := by decide +kernel
theorem dX2_empty_10 : decode cX2_empty 10 = .ok (.putfield 15, 3) := by decide +kernel
theorem dX2_empty_13 : decode cX2_empty 13 = .ok (.aload_n 0, 1) := by decide +kernel
theorem dX2_empty_14 : decode cX2_empty 14 = .ok (.invokevirtual 37, 3) := by decide +kernel
theorem dX2_empty_17 : decode cX2_empty 17 = .ok (.return_, 1) := by decide +kernel
theorem dX2_add_0 : decode cX2_add 0 = .ok (.iload_n 2, 1) := by decide +kernel
theorem dX2_add_1 : decode cX2_add 1 = .ok (.ifCond .le 14, 3) := by decide +kernel
theorem dX2_add_4 : decode cX2_add 4 = .ok (.iload_n 1, 1) := by decide +kernel
theorem dX2_add_5 : decode cX2_add 5 = .ok (.ifCond .lt 10, 3) := by decide +kernel
theorem dX2_add_8 : decode cX2_add 8 = .ok (.iload_n 1, 1) := by decide +kernel
theorem dX2_add_9 : decode cX2_add 9 = .ok (.sipush 801, 3) := by decide +kernel
theorem dX2_add_12 : decode cX2_add 12 = .ok (.if_icmp .lt 4, 3) := by decide +kernel
theorem dX2_add_15 : decode cX2_add 15 = .ok (.return_, 1) := by decide +kernel
theorem dX2_add_16 : decode cX2_add 16 = .ok (.aload_n 0, 1) := by decide +kernel
theorem dX2_add_17 : decode cX2_add 17 = .ok (.getfield 9, 3) := by decide +kernel
theorem dX2_add_20 : decode cX2_add 20 = .ok (.iload_n 1, 1) := by decide +kernel
theorem dX2_add_21 : decode cX2_add 21 = .ok (.dup2, 1) := by decide +kernel
theorem dX2_add_22 : decode cX2_add 22 = .ok (.iaload, 1) := by decide +kernel
theorem dX2_add_23 : decode cX2_add 23 = .ok (.iload_n 2, 1) := by decide +kernel
theorem dX2_add_24 : decode cX2_add 24 = .ok (.iadd, 1) := by decide +kernel
theorem dX2_add_25 : decode cX2_add 25 = .ok (.iastore, 1) := by decide +kernel
theorem dX2_add_26 : decode cX2_add 26 = .ok (.aload_n 0, 1) := by decide +kernel
theorem dX2_add_27 : decode cX2_add 27 = .ok (.dup, 1) := by decide +kernel
theorem dX2_add_28 : decode cX2_add 28 = .ok (.getfield 15, 3) := by decide +kernel
theorem dX2_add_31 : decode cX2_add 31 = .ok (.iload_n 2, 1) := by decide +kernel
theorem dX2_add_32 : decode cX2_add 32 = .ok (.iadd, 1) := by decide +kernel
theorem dX2_add_33 : decode cX2_add 33 = .ok (.putfield 15, 3) := by decide +kernel
theorem dX2_add_36 : decode cX2_add 36 = .ok (.aload_n 0, 1) := by decide +kernel
theorem dX2_add_37 : decode cX2_add 37 = .ok (.aload_n 0, 1) := by decide +kernel
theorem dX2_add_38 : decode cX2_add 38 = .ok (.getfield 19, 3) := by decide +kernel
theorem dX2_add_41 : decode cX2_add 41 = .ok (.iload_n 1, 1) := by decide +kernel
theorem dX2_add_42 : decode cX2_add 42 = .ok (.invokestatic 40, 3) := by decide +kernel
theorem dX2_add_45 : decode cX2_add 45 = .ok (.putfield 19, 3) := by decide +kernel
theorem dX2_add_48 : decode cX2_add 48 = .ok (.aload_n 0, 1) := by decide +kernel
theorem dX2_add_49 : decode cX2_add 49 = .ok (.aload_n 0, 1) := by decide +kernel
theorem dX2_add_50 : decode cX2_add 50 = .ok (.getfield 22, 3) := by decide +kernel
theorem dX2_add_53 : decode cX2_add 53 = .ok (.iload_n 1, 1) := by decide +kernel
theorem dX2_add_54 : decode cX2_add 54 = .ok (.invokestatic 46, 3) := by decide +kernel
theorem dX2_add_57 : decode cX2_add 57 = .ok (.putfield 22, 3) := by decide +kernel
theorem dX2_add_60 : decode cX2_add 60 = .ok (.return_, 1) := by decide +kernel
theorem dX2_takeFromLatest_0 : decode cX2_takeFromLatest 0 = .ok (.iload_n 1, 1) := by decide +kernel
theorem dX2_takeFromLatest_1 : decode cX2_takeFromLatest 1 = .ok (.aload_n 0, 1) := by decide +kernel
theorem dX2_takeFromLatest_2 : decode cX2_takeFromLatest 2 = .ok (.getfield 15, 3) := by decide +kernel
theorem dX2_takeFromLatest_5 : decode cX2_takeFromLatest 5 = .ok (.invokestatic 40, 3) := by decide +kernel
theorem dX2_takeFromLatest_8 : decode cX2_takeFromLatest 8 = .ok (.istore_n 2, 1) := by decide +kernel
theorem dX2_takeFromLatest_9 : decode cX2_takeFromLatest 9 = .ok (.iload_n 2, 1) := by decide +kernel
theorem dX2_takeFromLatest_10 : decode cX2_takeFromLatest 10 = .ok (.istore_n 3, 1) := by decide +kernel
theorem dX2_takeFromLatest_11 : decode cX2_takeFromLatest 11 = .ok (.aload_n 0, 1) := by decide +kernel
theorem dX2_takeFromLatest_12 : decode cX2_takeFromLatest 12 = .ok (.getfield 22, 3) := by decide +kernel
theorem dX2_takeFromLatest_15 : decode cX2_takeFromLatest 15 = .ok (.istore 4, 2) := by decide +kernel
theorem dX2_takeFromLatest_17 : decode cX2_takeFromLatest 17 = .ok (.iload 4, 2) := by decide +kernel
theorem dX2_takeFromLatest_19 : decode cX2_takeFromLatest 19 = .ok (.aload_n 0, 1) := by decide +kernel
theorem dX2_takeFromLatest_20 : decode cX2_takeFromLatest 20 = .ok (.getfield 19, 3) := by decide +kernel
theorem dX2_takeFromLatest_23 : decode cX2_takeFromLatest 23 = .ok (.if_icmp .lt 23, 3) := by decide +kernel
theorem dX2_takeFromLatest_26 : decode cX2_takeFromLatest 26 = .ok (.iload_n 3, 1) := by decide +kernel
theorem dX2_takeFromLatest_27 : decode cX2_takeFromLatest 27 = .ok (.ifCond .le 19, 3) := by decide +kernel
theorem dX2_takeFromLatest_30 : decode cX2_takeFromLatest 30 = .ok (.iload_n 3, 1) := by decide +kernel
theorem dX2_takeFromLatest_31 : decode cX2_takeFromLatest 31 = .ok (.aload_n 0, 1) := by decide +kernel
theorem dX2_takeFromLatest_32 : decode cX2_takeFromLatest 32 = .ok (.iload 4, 2) := by decide +kernel
theorem dX2_takeFromLatest_34 : decode cX2_takeFromLatest 34 = .ok (.iload_n 3, 1) := by decide +kernel
theorem dX2_takeFromLatest_35 : decode cX2_takeFromLatest 35 = .ok (.invokevirtual 49, 3) := by decide +kernel
theorem dX2_takeFromLatest_38 : decode cX2_takeFromLatest 38 = .ok (.isub, 1) := by decide +kernel
theorem dX2_takeFromLatest_39 : decode cX2_takeFromLatest 39 = .ok (.istore_n 3, 1) := by decide +kernel
theorem dX2_takeFromLatest_40 : decode cX2_takeFromLatest 40 = .ok (.iinc 4 (-1), 3) := by decide +kernel
theorem dX2_takeFromLatest_43 : decode cX2_takeFromLatest 43 = .ok (.goto (-26), 3) := by decide +kernel
theorem dX2_takeFromLatest_46 : decode cX2_takeFromLatest 46 = .ok (.aload_n 0, 1) := by decide +kernel
theorem dX2_takeFromLatest_47 : decode cX2_takeFromLatest 47 = .ok (.invokevirtual 37, 3) := by decide +kernel
theorem dX2_takeFromLatest_50 : decode cX2_takeFromLatest 50 = .ok (.iload_n 2, 1) := by decide +kernel
theorem dX2_takeFromLatest_51 : decode cX2_takeFromLatest 51 = .ok (.ireturn, 1) := by decide +kernel
theorem dX2_giveFromOldest_0 : decode cX2_giveFromOldest 0 = .ok (.iload_n 1, 1) := by decide +kernel
theorem dX2_giveFromOldest_1 : decode cX2_giveFromOldest 1 = .ok (.aload_n 0, 1) := by decide +kernel
theorem dX2_giveFromOldest_2 : decode cX2_giveFromOldest 2 = .ok (.getfield 15, 3) := by decide +kernel
theorem dX2_giveFromOldest_5 : decode cX2_giveFromOldest 5 = .ok (.invokestatic 40, 3) := by decide +kernel
theorem dX2_giveFromOldest_8 : decode cX2_giveFromOldest 8 = .ok (.istore_n 3, 1) := by decide +kernel
theorem dX2_giveFromOldest_9 : decode cX2_giveFromOldest 9 = .ok (.aload_n 0, 1) := by decide +kernel
theorem dX2_giveFromOldest_10 : decode cX2_giveFromOldest 10 = .ok (.getfield 19, 3) := by decide +kernel
theorem dX2_giveFromOldest_13 : decode cX2_giveFromOldest 13 = .ok (.istore 4, 2) := by decide +kernel
theorem dX2_giveFromOldest_15 : decode cX2_giveFromOldest 15 = .ok (.iload 4, 2) := by decide +kernel
theorem dX2_giveFromOldest_17 : decode cX2_giveFromOldest 17 = .ok (.aload_n 0, 1) := by decide +kernel
theorem dX2_giveFromOldest_18 : decode cX2_giveFromOldest 18 = .ok (.getfield 22, 3) := by decide +kernel
theorem dX2_giveFromOldest_21 : decode cX2_giveFromOldest 21 = .ok (.if_icmp .gt 39, 3) := by decide +kernel
theorem dX2_giveFromOldest_24 : decode cX2_giveFromOldest 24 = .ok (.iload_n 3, 1) := by decide +kernel
theorem dX2_giveFromOldest_25 : decode cX2_giveFromOldest 25 = .ok (.ifCond .le 35, 3) := by decide +kernel
theorem dX2_giveFromOldest_28 : decode cX2_giveFromOldest 28 = .ok (.aload_n 0, 1) := by decide +kernel
theorem dX2_giveFromOldest_29 : decode cX2_giveFromOldest 29 = .ok (.iload 4, 2) := by decide +kernel
theorem dX2_giveFromOldest_31 : decode cX2_giveFromOldest 31 = .ok (.iload_n 3, 1) := by decide +kernel
theorem dX2_giveFromOldest_32 : decode cX2_giveFromOldest 32 = .ok (.invokevirtual 49, 3) := by decide +kernel
theorem dX2_giveFromOldest_35 : decode cX2_giveFromOldest 35 = .ok (.istore 5, 2) := by decide +kernel
theorem dX2_giveFromOldest_37 : decode cX2_giveFromOldest 37 = .ok (.iload_n 3, 1) := by decide +kernel
theorem dX2_giveFromOldest_38 : decode cX2_giveFromOldest 38 = .ok (.iload 5, 2) := by decide +kernel
theorem dX2_giveFromOldest_40 : decode cX2_giveFromOldest 40 = .ok (.isub, 1) := by decide +kernel
theorem dX2_giveFromOldest_41 : decode cX2_giveFromOldest 41 = .ok (.istore_n 3, 1) := by decide +kernel
theorem dX2_giveFromOldest_42 : decode cX2_giveFromOldest 42 = .ok (.aload_n 2, 1) := by decide +kernel
theorem dX2_giveFromOldest_43 : decode cX2_giveFromOldest 43 = .ok (.ifnull 11, 3) := by decide +kernel
theorem dX2_giveFromOldest_46 : decode cX2_giveFromOldest 46 = .ok (.aload_n 2, 1) := by decide +kernel
theorem dX2_giveFromOldest_47 : decode cX2_giveFromOldest 47 = .ok (.iload 4, 2) := by decide +kernel
theorem dX2_giveFromOldest_49 : decode cX2_giveFromOldest 49 = .ok (.iload 5, 2) := by decide +kernel
theorem dX2_giveFromOldest_51 : decode cX2_giveFromOldest 51 = .ok (.invokevirtual 52, 3) := by decide +kernel
theorem dX2_giveFromOldest_54 : decode cX2_giveFromOldest 54 = .ok (.iinc 4 1, 3) := by decide +kernel
theorem dX2_giveFromOldest_57 : decode cX2_giveFromOldest 57 = .ok (.goto (-42), 3) := by decide +kernel
theorem dX2_giveFromOldest_60 : decode cX2_giveFromOldest 60 = .ok (.aload_n 0, 1) := by decide +kernel
theorem dX2_giveFromOldest_61 : decode cX2_giveFromOldest 61 = .ok (.invokevirtual 37, 3) := by decide +kernel
theorem dX2_giveFromOldest_64 : decode cX2_giveFromOldest 64 = .ok (.return_, 1) := by decide +kernel
theorem dX2_takeOfYear_0 : decode cX2_takeOfYear 0 = .ok (.aload_n 0, 1) := by decide +kernel
theorem dX2_takeOfYear_1 : decode cX2_takeOfYear 1 = .ok (.iload_n 1, 1) := by decide +kernel
theorem dX2_takeOfYear_2 : decode cX2_takeOfYear 2 = .ok (.invokevirtual 56, 3) := by decide +kernel
theorem dX2_takeOfYear_5 : decode cX2_takeOfYear 5 = .ok (.iload_n 2, 1) := by decide +kernel
theorem dX2_takeOfYear_6 : decode cX2_takeOfYear 6 = .ok (.invokestatic 40, 3) := by decide +kernel
theorem dX2_takeOfYear_9 : decode cX2_takeOfYear 9 = .ok (.istore_n 3, 1) := by decide +kernel
theorem dX2_takeOfYear_10 : decode cX2_takeOfYear 10 = .ok (.iload_n 3, 1) := by decide +kernel
theorem dX2_takeOfYear_11 : decode cX2_takeOfYear 11 = .ok (.ifCond .le 23, 3) := by decide +kernel
theorem dX2_takeOfYear_14 : decode cX2_takeOfYear 14 = .ok (.aload_n 0, 1) := by decide +kernel
theorem dX2_takeOfYear_15 : decode cX2_takeOfYear 15 = .ok (.getfield 9, 3) := by decide +kernel
theorem dX2_takeOfYear_18 : decode cX2_takeOfYear 18 = .ok (.iload_n 1, 1) := by decide +kernel
theorem dX2_takeOfYear_19 : decode cX2_takeOfYear 19 = .ok (.dup2, 1) := by decide +kernel
theorem dX2_takeOfYear_20 : decode cX2_takeOfYear 20 = .ok (.iaload, 1) := by decide +kernel
theorem dX2_takeOfYear_21 : decode cX2_takeOfYear 21 = .ok (.iload_n 3, 1) := by decide +kernel
theorem dX2_takeOfYear_22 : decode cX2_takeOfYear 22 = .ok (.isub, 1) := by decide +kernel
theorem dX2_takeOfYear_23 : decode cX2_takeOfYear 23 = .ok (.iastore, 1) := by decide +kernel
theorem dX2_takeOfYear_24 : decode cX2_takeOfYear 24 = .ok (.aload_n 0, 1) := by decide +kernel
theorem dX2_takeOfYear_25 : decode cX2_takeOfYear 25 = .ok (.dup, 1) := by decide +kernel
theorem dX2_takeOfYear_26 : decode cX2_takeOfYear 26 = .ok (.getfield 15, 3) := by decide +kernel
theorem dX2_takeOfYear_29 : decode cX2_takeOfYear 29 = .ok (.iload_n 3, 1) := by decide +kernel
theorem dX2_takeOfYear_30 : decode cX2_takeOfYear 30 = .ok (.isub, 1) := by decide +kernel
theorem dX2_takeOfYear_31 : decode cX2_takeOfYear 31 = .ok (.putfield 15, 3) := by decide +kernel
theorem dX2_takeOfYear_34 : decode cX2_takeOfYear 34 = .ok (.iload_n 3, 1) := by decide +kernel
theorem dX2_takeOfYear_35 : decode cX2_takeOfYear 35 = .ok (.ireturn, 1) := by decide +kernel
theorem dX2_narrow_0 : decode cX2_narrow 0 = .ok (.aload_n 0, 1) := by decide +kernel
theorem dX2_narrow_1 : decode cX2_narrow 1 = .ok (.getfield 15, 3) := by decide +kernel
theorem dX2_narrow_4 : decode cX2_narrow 4 = .ok (.ifCond .ne 15, 3) := by decide +kernel
theorem dX2_narrow_7 : decode cX2_narrow 7 = .ok (.aload_n 0, 1) := by decide +kernel
theorem dX2_narrow_8 : decode cX2_narrow 8 = .ok (.sipush 801, 3) := by decide +kernel
theorem dX2_narrow_11 : decode cX2_narrow 11 = .ok (.putfield 19, 3) := by decide +kernel
theorem dX2_narrow_14 : decode cX2_narrow 14 = .ok (.aload_n 0, 1) := by decide +kernel
theorem dX2_narrow_15 : decode cX2_narrow 15 = .ok (.iconst (-1), 1) := by decide +kernel
theorem dX2_narrow_16 : decode cX2_narrow 16 = .ok (.putfield 22, 3) := by decide +kernel
theorem dX2_narrow_19 : decode cX2_narrow 19 = .ok (.aload_n 0, 1) := by decide +kernel
theorem dX2_narrow_20 : decode cX2_narrow 20 = .ok (.getfield 19, 3) := by decide +kernel
theorem dX2_narrow_23 : decode cX2_narrow 23 = .ok (.aload_n 0, 1) := by decide +kernel
theorem dX2_narrow_24 : decode cX2_narrow 24 = .ok (.getfield 22, 3) := by decide +kernel
theorem dX2_narrow_27 : decode cX2_narrow 27 = .ok (.if_icmp .ge 27, 3) := by decide +kernel
theorem dX2_narrow_30 : decode cX2_narrow 30 = .ok (.aload_n 0, 1) := by decide +kernel
theorem dX2_narrow_31 : decode cX2_narrow 31 = .ok (.aload_n 0, 1) := by decide +kernel
theorem dX2_narrow_32 : decode cX2_narrow 32 = .ok (.getfield 19, 3) := by decide +kernel
theorem dX2_narrow_35 : decode cX2_narrow 35 = .ok (.invokevirtual 56, 3) := by decide +kernel
theorem dX2_narrow_38 : decode cX2_narrow 38 = .ok (.ifCond .ne 16, 3) := by decide +kernel
theorem dX2_narrow_41 : decode cX2_narrow 41 = .ok (.aload_n 0, 1) := by decide +kernel
theorem dX2_narrow_42 : decode cX2_narrow 42 = .ok (.dup, 1) := by decide +kernel
theorem dX2_narrow_43 : decode cX2_narrow 43 = .ok (.getfield 19, 3) := by decide +kernel
theorem dX2_narrow_46 : decode cX2_narrow 46 = .ok (.iconst 1, 1) := by decide +kernel
theorem dX2_narrow_47 : decode cX2_narrow 47 = .ok (.iadd, 1) := by decide +kernel
theorem dX2_narrow_48 : decode cX2_narrow 48 = .ok (.putfield 19, 3) := by decide +kernel
theorem dX2_narrow_51 : decode cX2_narrow 51 = .ok (.goto (-32), 3) := by decide +kernel
theorem dX2_narrow_54 : decode cX2_narrow 54 = .ok (.aload_n 0, 1) := by decide +kernel
theorem dX2_narrow_55 : decode cX2_narrow 55 = .ok (.getfield 22, 3) := by decide +kernel
theorem dX2_narrow_58 : decode cX2_narrow 58 = .ok (.aload_n 0, 1) := by decide +kernel
theorem dX2_narrow_59 : decode cX2_narrow 59 = .ok (.getfield 19, 3) := by decide +kernel
theorem dX2_narrow_62 : decode cX2_narrow 62 = .ok (.if_icmp .le 27, 3) := by decide +kernel
theorem dX2_narrow_65 : decode cX2_narrow 65 = .ok (.aload_n 0, 1) := by decide +kernel
theorem dX2_narrow_66 : decode cX2_narrow 66 = .ok (.aload_n 0, 1) := by decide +kernel
theorem dX2_narrow_67 : decode cX2_narrow 67 = .ok (.getfield 22, 3) := by decide +kernel
theorem dX2_narrow_70 : decode cX2_narrow 70 = .ok (.invokevirtual 56, 3) := by decide +kernel
theorem dX2_narrow_73 : decode cX2_narrow 73 = .ok (.ifCond .ne 16, 3) := by decide +kernel
theorem dX2_narrow_76 : decode cX2_narrow 76 = .ok (.aload_n 0, 1) := by decide +kernel
theorem dX2_narrow_77 : decode cX2_narrow 77 = .ok (.dup, 1) := by decide +kernel
theorem dX2_narrow_78 : decode cX2_narrow 78 = .ok (.getfield 22, 3) := by decide +kernel
theorem dX2_narrow_81 : decode cX2_narrow 81 = .ok (.iconst 1, 1) := by decide +kernel
theorem dX2_narrow_82 : decode cX2_narrow 82 = .ok (.isub, 1) := by decide +kernel
theorem dX2_narrow_83 : decode cX2_narrow 83 = .ok (.putfield 22, 3) := by decide +kernel
theorem dX2_narrow_86 : decode cX2_narrow 86 = .ok (.goto (-32), 3) := by decide +kernel
theorem dX2_narrow_89 : decode cX2_narrow 89 = .ok (.return_, 1) := by decide +kernel
theorem dX2_leftOf_0 : decode cX2_leftOf 0 = .ok (.iload_n 1, 1) := by decide +kernel
theorem dX2_leftOf_1 : decode cX2_leftOf 1 = .ok (.ifCond .lt 19, 3) := by decide +kernel
theorem dX2_leftOf_4 : decode cX2_leftOf 4 = .ok (.iload_n 1, 1) := by decide +kernel
theorem dX2_leftOf_5 : decode cX2_leftOf 5 = .ok (.sipush 801, 3) := by decide +kernel
theorem dX2_leftOf_8 : decode cX2_leftOf 8 = .ok (.if_icmp .ge 12, 3) := by decide +kernel
theorem dX2_leftOf_11 : decode cX2_leftOf 11 = .ok (.aload_n 0, 1) := by decide +kernel
theorem dX2_leftOf_12 : decode cX2_leftOf 12 = .ok (.getfield 9, 3) := by decide +kernel
theorem dX2_leftOf_15 : decode cX2_leftOf 15 = .ok (.iload_n 1, 1) := by decide +kernel
theorem dX2_leftOf_16 : decode cX2_leftOf 16 = .ok (.iaload, 1) := by decide +kernel
theorem dX2_leftOf_17 : decode cX2_leftOf 17 = .ok (.goto 4, 3) := by decide +kernel
theorem dX2_leftOf_20 : decode cX2_leftOf 20 = .ok (.iconst 0, 1) := by decide +kernel
theorem dX2_leftOf_21 : decode cX2_leftOf 21 = .ok (.ireturn, 1) := by decide +kernel
theorem dX2_number_0 : decode cX2_number 0 = .ok (.iconst 0, 1) := by decide +kernel
theorem dX2_number_1 : decode cX2_number 1 = .ok (.istore_n 1, 1) := by decide +kernel
theorem dX2_number_2 : decode cX2_number 2 = .ok (.aload_n 0, 1) := by decide +kernel
theorem dX2_number_3 : decode cX2_number 3 = .ok (.getfield 19, 3) := by decide +kernel
theorem dX2_number_6 : decode cX2_number 6 = .ok (.istore_n 2, 1) := by decide +kernel
theorem dX2_number_7 : decode cX2_number 7 = .ok (.iload_n 2, 1) := by decide +kernel
theorem dX2_number_8 : decode cX2_number 8 = .ok (.aload_n 0, 1) := by decide +kernel
theorem dX2_number_9 : decode cX2_number 9 = .ok (.getfield 22, 3) := by decide +kernel
theorem dX2_number_12 : decode cX2_number 12 = .ok (.if_icmp .gt 20, 3) := by decide +kernel
theorem dX2_number_15 : decode cX2_number 15 = .ok (.aload_n 0, 1) := by decide +kernel
theorem dX2_number_16 : decode cX2_number 16 = .ok (.iload_n 2, 1) := by decide +kernel
theorem dX2_number_17 : decode cX2_number 17 = .ok (.invokevirtual 56, 3) := by decide +kernel
theorem dX2_number_20 : decode cX2_number 20 = .ok (.ifCond .le 6, 3) := by decide +kernel
theorem dX2_number_23 : decode cX2_number 23 = .ok (.iinc 1 1, 3) := by decide +kernel
theorem dX2_number_26 : decode cX2_number 26 = .ok (.iinc 2 1, 3) := by decide +kernel
theorem dX2_number_29 : decode cX2_number 29 = .ok (.goto (-22), 3) := by decide +kernel
theorem dX2_number_32 : decode cX2_number 32 = .ok (.iload_n 1, 1) := by decide +kernel
theorem dX2_number_33 : decode cX2_number 33 = .ok (.ireturn, 1) := by decide +kernel
theorem dX2_yearOfLayer_0 : decode cX2_yearOfLayer 0 = .ok (.iconst 0, 1) := by decide +kernel
theorem dX2_yearOfLayer_1 : decode cX2_yearOfLayer 1 = .ok (.istore_n 2, 1) := by decide +kernel
theorem dX2_yearOfLayer_2 : decode cX2_yearOfLayer 2 = .ok (.aload_n 0, 1) := by decide +kernel
theorem dX2_yearOfLayer_3 : decode cX2_yearOfLayer 3 = .ok (.getfield 19, 3) := by decide +kernel
theorem dX2_yearOfLayer_6 : decode cX2_yearOfLayer 6 = .ok (.istore_n 3, 1) := by decide +kernel
theorem dX2_yearOfLayer_7 : decode cX2_yearOfLayer 7 = .ok (.iload_n 3, 1) := by decide +kernel
theorem dX2_yearOfLayer_8 : decode cX2_yearOfLayer 8 = .ok (.aload_n 0, 1) := by decide +kernel
theorem dX2_yearOfLayer_9 : decode cX2_yearOfLayer 9 = .ok (.getfield 22, 3) := by decide +kernel
theorem dX2_yearOfLayer_12 : decode cX2_yearOfLayer 12 = .ok (.if_icmp .gt 27, 3) := by decide +kernel
theorem dX2_yearOfLayer_15 : decode cX2_yearOfLayer 15 = .ok (.aload_n 0, 1) := by decide +kernel
theorem dX2_yearOfLayer_16 : decode cX2_yearOfLayer 16 = .ok (.iload_n 3, 1) := by decide +kernel
theorem dX2_yearOfLayer_17 : decode cX2_yearOfLayer 17 = .ok (.invokevirtual 56, 3) := by decide +kernel
theorem dX2_yearOfLayer_20 : decode cX2_yearOfLayer 20 = .ok (.ifCond .le 13, 3) := by decide +kernel
theorem dX2_yearOfLayer_23 : decode cX2_yearOfLayer 23 = .ok (.iload_n 2, 1) := by decide +kernel
theorem dX2_yearOfLayer_24 : decode cX2_yearOfLayer 24 = .ok (.iload_n 1, 1) := by decide +kernel
theorem dX2_yearOfLayer_25 : decode cX2_yearOfLayer 25 = .ok (.if_icmp .ne 5, 3) := by decide +kernel
theorem dX2_yearOfLayer_28 : decode cX2_yearOfLayer 28 = .ok (.iload_n 3, 1) := by decide +kernel
theorem dX2_yearOfLayer_29 : decode cX2_yearOfLayer 29 = .ok (.ireturn, 1) := by decide +kernel
theorem dX2_yearOfLayer_30 : decode cX2_yearOfLayer 30 = .ok (.iinc 2 1, 3) := by decide +kernel
theorem dX2_yearOfLayer_33 : decode cX2_yearOfLayer 33 = .ok (.iinc 3 1, 3) := by decide +kernel
theorem dX2_yearOfLayer_36 : decode cX2_yearOfLayer 36 = .ok (.goto (-29), 3) := by decide +kernel
theorem dX2_yearOfLayer_39 : decode cX2_yearOfLayer 39 = .ok (.iconst (-1), 1) := by decide +kernel
theorem dX2_yearOfLayer_40 : decode cX2_yearOfLayer 40 = .ok (.ireturn, 1) := by decide +kernel
theorem dX3_init_0 : decode cX3_init 0 = .ok (.aload_n 0, 1) := by decide +kernel
theorem dX3_init_1 : decode cX3_init 1 = .ok (.invokespecial 3, 3) := by decide +kernel
theorem dX3_init_4 : decode cX3_init 4 = .ok (.aload_n 0, 1) := by decide +kernel
theorem dX3_init_5 : decode cX3_init 5 = .ok (.iconst 0, 1) := by decide +kernel
theorem dX3_init_6 : decode cX3_init 6 = .ok (.putfield 9, 3) := by decide +kernel
theorem dX3_init_9 : decode cX3_init 9 = .ok (.aload_n 0, 1) := by decide +kernel
theorem dX3_init_10 : decode cX3_init 10 = .ok (.iconst 0, 1) := by decide +kernel
theorem dX3_init_11 : decode cX3_init 11 = .ok (.putfield 15, 3) := by decide +kernel
theorem dX3_init_14 : decode cX3_init 14 = .ok (.aload_n 0, 1) := by decide +kernel
theorem dX3_init_15 : decode cX3_init 15 = .ok (.iconst 0, 1) := by decide +kernel
theorem dX3_init_16 : decode cX3_init 16 = .ok (.putfield 18, 3) := by decide +kernel
theorem dX3_init_19 : decode cX3_init 19 = .ok (.aload_n 0, 1) := by decide +kernel
theorem dX3_init_20 : decode cX3_init 20 = .ok (.iconst 0, 1) := by decide +kernel
theorem dX3_init_21 : decode cX3_init 21 = .ok (.putfield 21, 3) := by decide +kernel
theorem dX3_init_24 : decode cX3_init 24 = .ok (.aload_n 0, 1) := by decide +kernel
theorem dX3_init_25 : decode cX3_init 25 = .ok (.iconst 0, 1) := by decide +kernel
theorem dX3_init_26 : decode cX3_init 26 = .ok (.putfield 24, 3) := by decide +kernel
theorem dX3_init_29 : decode cX3_init 29 = .ok (.aload_n 0, 1) := by decide +kernel
theorem dX3_init_30 : decode cX3_init 30 = .ok (.iconst 0, 1) := by decide +kernel
theorem dX3_init_31 : decode cX3_init 31 = .ok (.putfield 27, 3) := by decide +kernel
theorem dX3_init_34 : decode cX3_init 34 = .ok (.return_, 1) := by decide +kernel
theorem dX3_begin_0 : decode cX3_begin 0 = .ok (.aload_n 0, 1) := by decide +kernel
theorem dX3_begin_1 : decode cX3_begin 1 = .ok (.iload_n 1, 1) := by decide +kernel
theorem dX3_begin_2 : decode cX3_begin 2 = .ok (.putfield 9, 3) := by decide +kernel
theorem dX3_begin_5 : decode cX3_begin 5 = .ok (.aload_n 0, 1) := by decide +kernel
theorem dX3_begin_6 : decode cX3_begin 6 = .ok (.iload_n 2, 1) := by decide +kernel
theorem dX3_begin_7 : decode cX3_begin 7 = .ok (.putfield 15, 3) := by decide +kernel
theorem dX3_begin_10 : decode cX3_begin 10 = .ok (.aload_n 0, 1) := by decide +kernel
theorem dX3_begin_11 : decode cX3_begin 11 = .ok (.iload_n 3, 1) := by decide +kernel
theorem dX3_begin_12 : decode cX3_begin 12 = .ok (.putfield 18, 3) := by decide +kernel
theorem dX3_begin_15 : decode cX3_begin 15 = .ok (.aload_n 0, 1) := by decide +kernel
theorem dX3_begin_16 : decode cX3_begin 16 = .ok (.iconst 0, 1) := by decide +kernel
theorem dX3_begin_17 : decode cX3_begin 17 = .ok (.putfield 21, 3) := by decide +kernel
theorem dX3_begin_20 : decode cX3_begin 20 = .ok (.aload_n 0, 1) := by decide +kernel
theorem dX3_begin_21 : decode cX3_begin 21 = .ok (.iconst 0, 1) := by decide +kernel
theorem dX3_begin_22 : decode cX3_begin 22 = .ok (.putfield 24, 3) := by decide +kernel
theorem dX3_begin_25 : decode cX3_begin 25 = .ok (.aload_n 0, 1) := by decide +kernel
theorem dX3_begin_26 : decode cX3_begin 26 = .ok (.iconst 0, 1) := by decide +kernel
theorem dX3_begin_27 : decode cX3_begin 27 = .ok (.putfield 27, 3) := by decide +kernel
theorem dX3_begin_30 : decode cX3_begin 30 = .ok (.return_, 1) := by decide +kernel
theorem dX3_copyFrom_0 : decode cX3_copyFrom 0 = .ok (.aload_n 0, 1) := by decide +kernel
theorem dX3_copyFrom_1 : decode cX3_copyFrom 1 = .ok (.aload_n 1, 1) := by decide +kernel
theorem dX3_copyFrom_2 : decode cX3_copyFrom 2 = .ok (.getfield 9, 3) := by decide +kernel
theorem dX3_copyFrom_5 : decode cX3_copyFrom 5 = .ok (.putfield 9, 3) := by decide +kernel
theorem dX3_copyFrom_8 : decode cX3_copyFrom 8 = .ok (.aload_n 0, 1) := by decide +kernel
theorem dX3_copyFrom_9 : decode cX3_copyFrom 9 = .ok (.aload_n 1, 1) := by decide +kernel
theorem dX3_copyFrom_10 : decode cX3_copyFrom 10 = .ok (.getfield 15, 3) := by decide +kernel
theorem dX3_copyFrom_13 : decode cX3_copyFrom 13 = .ok (.putfield 15, 3) := by decide +kernel
theorem dX3_copyFrom_16 : decode cX3_copyFrom 16 = .ok (.aload_n 0, 1) := by decide +kernel
theorem dX3_copyFrom_17 : decode cX3_copyFrom 17 = .ok (.aload_n 1, 1) := by decide +kernel
theorem dX3_copyFrom_18 : decode cX3_copyFrom 18 = .ok (.getfield 18, 3) := by decide +kernel
theorem dX3_copyFrom_21 : decode cX3_copyFrom 21 = .ok (.putfield 18, 3) := by decide +kernel
theorem dX3_copyFrom_24 : decode cX3_copyFrom 24 = .ok (.aload_n 0, 1) := by decide +kernel
theorem dX3_copyFrom_25 : decode cX3_copyFrom 25 = .ok (.aload_n 1, 1) := by decide +kernel
theorem dX3_copyFrom_26 : decode cX3_copyFrom 26 = .ok (.getfield 21, 3) := by decide +kernel
theorem dX3_copyFrom_29 : decode cX3_copyFrom 29 = .ok (.putfield 21, 3) := by decide +kernel
theorem dX3_copyFrom_32 : decode cX3_copyFrom 32 = .ok (.aload_n 0, 1) := by decide +kernel
theorem dX3_copyFrom_33 : decode cX3_copyFrom 33 = .ok (.aload_n 1, 1) := by decide +kernel
theorem dX3_copyFrom_34 : decode cX3_copyFrom 34 = .ok (.getfield 24, 3) := by decide +kernel
theorem dX3_copyFrom_37 : decode cX3_copyFrom 37 = .ok (.putfield 24, 3) := by decide +kernel
theorem dX3_copyFrom_40 : decode cX3_copyFrom 40 = .ok (.aload_n 0, 1) := by decide +kernel
theorem dX3_copyFrom_41 : decode cX3_copyFrom 41 = .ok (.aload_n 1, 1) := by decide +kernel
theorem dX3_copyFrom_42 : decode cX3_copyFrom 42 = .ok (.getfield 27, 3) := by decide +kernel
theorem dX3_copyFrom_45 : decode cX3_copyFrom 45 = .ok (.putfield 27, 3) := by decide +kernel
theorem dX3_copyFrom_48 : decode cX3_copyFrom 48 = .ok (.return_, 1) := by decide +kernel
theorem dX4_init_0 : decode cX4_init 0 = .ok (.aload_n 0, 1) := by decide +kernel
theorem dX4_init_1 : decode cX4_init 1 = .ok (.invokespecial 3, 3) := by decide +kernel
theorem dX4_init_4 : decode cX4_init 4 = .ok (.aload_n 0, 1) := by decide +kernel
theorem dX4_init_5 : decode cX4_init 5 = .ok (.bipush 60, 2) := by decide +kernel
theorem dX4_init_7 : decode cX4_init 7 = .ok (.newarray .char, 2) := by decide +kernel
theorem dX4_init_9 : decode cX4_init 9 = .ok (.putfield 9, 3) := by decide +kernel
theorem dX4_init_12 : decode cX4_init 12 = .ok (.aload_n 0, 1) := by decide +kernel
theorem dX4_init_13 : decode cX4_init 13 = .ok (.iconst 0, 1) := by decide +kernel
theorem dX4_init_14 : decode cX4_init 14 = .ok (.putfield 15, 3) := by decide +kernel
theorem dX4_init_17 : decode cX4_init 17 = .ok (.return_, 1) := by decide +kernel
theorem dX4_append_0 : decode cX4_append 0 = .ok (.aload_n 0, 1) := by decide +kernel
theorem dX4_append_1 : decode cX4_append 1 = .ok (.getfield 15, 3) := by decide +kernel
theorem dX4_append_4 : decode cX4_append 4 = .ok (.bipush 60, 2) := by decide +kernel
theorem dX4_append_6 : decode cX4_append 6 = .ok (.if_icmp .ge 23, 3) := by decide +kernel
theorem dX4_append_9 : decode cX4_append 9 = .ok (.aload_n 0, 1) := by decide +kernel
theorem dX4_append_10 : decode cX4_append 10 = .ok (.getfield 9, 3) := by decide +kernel
theorem dX4_append_13 : decode cX4_append 13 = .ok (.aload_n 0, 1) := by decide +kernel
theorem dX4_append_14 : decode cX4_append 14 = .ok (.getfield 15, 3) := by decide +kernel
theorem dX4_append_17 : decode cX4_append 17 = .ok (.iload_n 1, 1) := by decide +kernel
theorem dX4_append_18 : decode cX4_append 18 = .ok (.castore, 1) := by decide +kernel
theorem dX4_append_19 : decode cX4_append 19 = .ok (.aload_n 0, 1) := by decide +kernel
theorem dX4_append_20 : decode cX4_append 20 = .ok (.dup, 1) := by decide +kernel
theorem dX4_append_21 : decode cX4_append 21 = .ok (.getfield 15, 3) := by decide +kernel
theorem dX4_append_24 : decode cX4_append 24 = .ok (.iconst 1, 1) := by decide +kernel
theorem dX4_append_25 : decode cX4_append 25 = .ok (.iadd, 1) := by decide +kernel
theorem dX4_append_26 : decode cX4_append 26 = .ok (.putfield 15, 3) := by decide +kernel
theorem dX4_append_29 : decode cX4_append 29 = .ok (.return_, 1) := by decide +kernel
theorem dX4_isSignAt_0 : decode cX4_isSignAt 0 = .ok (.iload_n 1, 1) := by decide +kernel
theorem dX4_isSignAt_1 : decode cX4_isSignAt 1 = .ok (.ifCond .lt 25, 3) := by decide +kernel
theorem dX4_isSignAt_4 : decode cX4_isSignAt 4 = .ok (.iload_n 1, 1) := by decide +kernel
theorem dX4_isSignAt_5 : decode cX4_isSignAt 5 = .ok (.aload_n 0, 1) := by decide +kernel
theorem dX4_isSignAt_6 : decode cX4_isSignAt 6 = .ok (.getfield 15, 3) := by decide +kernel
theorem dX4_isSignAt_9 : decode cX4_isSignAt 9 = .ok (.if_icmp .ge 17, 3) := by decide +kernel
theorem dX4_isSignAt_12 : decode cX4_isSignAt 12 = .ok (.aload_n 0, 1) := by decide +kernel
theorem dX4_isSignAt_13 : decode cX4_isSignAt 13 = .ok (.getfield 9, 3) := by decide +kernel
theorem dX4_isSignAt_16 : decode cX4_isSignAt 16 = .ok (.iload_n 1, 1) := by decide +kernel
theorem dX4_isSignAt_17 : decode cX4_isSignAt 17 = .ok (.caload, 1) := by decide +kernel
theorem dX4_isSignAt_18 : decode cX4_isSignAt 18 = .ok (.iload_n 2, 1) := by decide +kernel
theorem dX4_isSignAt_19 : decode cX4_isSignAt 19 = .ok (.if_icmp .ne 7, 3) := by decide +kernel
theorem dX4_isSignAt_22 : decode cX4_isSignAt 22 = .ok (.iconst 1, 1) := by decide +kernel
theorem dX4_isSignAt_23 : decode cX4_isSignAt 23 = .ok (.goto 4, 3) := by decide +kernel
theorem dX4_isSignAt_26 : decode cX4_isSignAt 26 = .ok (.iconst 0, 1) := by decide +kernel
theorem dX4_isSignAt_27 : decode cX4_isSignAt 27 = .ok (.ireturn, 1) := by decide +kernel
theorem dX4_isDigitAt_0 : decode cX4_isDigitAt 0 = .ok (.iload_n 1, 1) := by decide +kernel
theorem dX4_isDigitAt_1 : decode cX4_isDigitAt 1 = .ok (.ifCond .lt 37, 3) := by decide +kernel
theorem dX4_isDigitAt_4 : decode cX4_isDigitAt 4 = .ok (.iload_n 1, 1) := by decide +kernel
theorem dX4_isDigitAt_5 : decode cX4_isDigitAt 5 = .ok (.aload_n 0, 1) := by decide +kernel
theorem dX4_isDigitAt_6 : decode cX4_isDigitAt 6 = .ok (.getfield 15, 3) := by decide +kernel
theorem dX4_isDigitAt_9 : decode cX4_isDigitAt 9 = .ok (.if_icmp .ge 29, 3) := by decide +kernel
theorem dX4_isDigitAt_12 : decode cX4_isDigitAt 12 = .ok (.aload_n 0, 1) := by decide +kernel
theorem dX4_isDigitAt_13 : decode cX4_isDigitAt 13 = .ok (.getfield 9, 3) := by decide +kernel
theorem dX4_isDigitAt_16 : decode cX4_isDigitAt 16 = .ok (.iload_n 1, 1) := by decide +kernel
theorem dX4_isDigitAt_17 : decode cX4_isDigitAt 17 = .ok (.caload, 1) := by decide +kernel
theorem dX4_isDigitAt_18 : decode cX4_isDigitAt 18 = .ok (.bipush 48, 2) := by decide +kernel
theorem dX4_isDigitAt_20 : decode cX4_isDigitAt 20 = .ok (.if_icmp .lt 18, 3) := by decide +kernel
theorem dX4_isDigitAt_23 : decode cX4_isDigitAt 23 = .ok (.aload_n 0, 1) := by decide +kernel
theorem dX4_isDigitAt_24 : decode cX4_isDigitAt 24 = .ok (.getfield 9, 3) := by decide +kernel
theorem dX4_isDigitAt_27 : decode cX4_isDigitAt 27 = .ok (.iload_n 1, 1) := by decide +kernel
theorem dX4_isDigitAt_28 : decode cX4_isDigitAt 28 = .ok (.caload, 1) := by decide +kernel
theorem dX4_isDigitAt_29 : decode cX4_isDigitAt 29 = .ok (.bipush 57, 2) := by decide +kernel
theorem dX4_isDigitAt_31 : decode cX4_isDigitAt 31 = .ok (.if_icmp .gt 7, 3) := by decide +kernel
theorem dX4_isDigitAt_34 : decode cX4_isDigitAt 34 = .ok (.iconst 1, 1) := by decide +kernel
theorem dX4_isDigitAt_35 : decode cX4_isDigitAt 35 = .ok (.goto 4, 3) := by decide +kernel
theorem dX4_isDigitAt_38 : decode cX4_isDigitAt 38 = .ok (.iconst 0, 1) := by decide +kernel
theorem dX4_isDigitAt_39 : decode cX4_isDigitAt 39 = .ok (.ireturn, 1) := by decide +kernel
theorem dX4_endOfNumber_0 : decode cX4_endOfNumber 0 = .ok (.iload_n 1, 1) := by decide +kernel
theorem dX4_endOfNumber_1 : decode cX4_endOfNumber 1 = .ok (.istore_n 2, 1) := by decide +kernel
theorem dX4_endOfNumber_2 : decode cX4_endOfNumber 2 = .ok (.iload_n 2, 1) := by decide +kernel
theorem dX4_endOfNumber_3 : decode cX4_endOfNumber 3 = .ok (.aload_n 0, 1) := by decide +kernel
theorem dX4_endOfNumber_4 : decode cX4_endOfNumber 4 = .ok (.getfield 15, 3) := by decide +kernel
theorem dX4_endOfNumber_7 : decode cX4_endOfNumber 7 = .ok (.if_icmp .ge 17, 3) := by decide +kernel
theorem dX4_endOfNumber_10 : decode cX4_endOfNumber 10 = .ok (.aload_n 0, 1) := by decide +kernel
theorem dX4_endOfNumber_11 : decode cX4_endOfNumber 11 = .ok (.iload_n 2, 1) := by decide +kernel
theorem dX4_endOfNumber_12 : decode cX4_endOfNumber 12 = .ok (.invokevirtual 19, 3) := by decide +kernel
theorem dX4_endOfNumber_15 : decode cX4_endOfNumber 15 = .ok (.ifCond .eq 9, 3) := by decide +kernel
theorem dX4_endOfNumber_18 : decode cX4_endOfNumber 18 = .ok (.iinc 2 1, 3) := by decide +kernel
theorem dX4_endOfNumber_21 : decode cX4_endOfNumber 21 = .ok (.goto (-19), 3) := by decide +kernel
theorem dX4_endOfNumber_24 : decode cX4_endOfNumber 24 = .ok (.iload_n 2, 1) := by decide +kernel
theorem dX4_endOfNumber_25 : decode cX4_endOfNumber 25 = .ok (.iload_n 1, 1) := by decide +kernel
theorem dX4_endOfNumber_26 : decode cX4_endOfNumber 26 = .ok (.isub, 1) := by decide +kernel
theorem dX4_endOfNumber_27 : decode cX4_endOfNumber 27 = .ok (.iconst 1, 1) := by decide +kernel
theorem dX4_endOfNumber_28 : decode cX4_endOfNumber 28 = .ok (.if_icmp .lt 14, 3) := by decide +kernel
theorem dX4_endOfNumber_31 : decode cX4_endOfNumber 31 = .ok (.iload_n 2, 1) := by decide +kernel
theorem dX4_endOfNumber_32 : decode cX4_endOfNumber 32 = .ok (.iload_n 1, 1) := by decide +kernel
theorem dX4_endOfNumber_33 : decode cX4_endOfNumber 33 = .ok (.isub, 1) := by decide +kernel
theorem dX4_endOfNumber_34 : decode cX4_endOfNumber 34 = .ok (.iconst 4, 1) := by decide +kernel
theorem dX4_endOfNumber_35 : decode cX4_endOfNumber 35 = .ok (.if_icmp .gt 7, 3) := by decide +kernel
theorem dX4_endOfNumber_38 : decode cX4_endOfNumber 38 = .ok (.iload_n 2, 1) := by decide +kernel
theorem dX4_endOfNumber_39 : decode cX4_endOfNumber 39 = .ok (.goto 4, 3) := by decide +kernel
theorem dX4_endOfNumber_42 : decode cX4_endOfNumber 42 = .ok (.iconst (-1), 1) := by decide +kernel
theorem dX4_endOfNumber_43 : decode cX4_endOfNumber 43 = .ok (.ireturn, 1) := by decide +kernel
theorem dX4_numberAt_0 : decode cX4_numberAt 0 = .ok (.aload_n 0, 1) := by decide +kernel
theorem dX4_numberAt_1 : decode cX4_numberAt 1 = .ok (.iload_n 1, 1) := by decide +kernel
theorem dX4_numberAt_2 : decode cX4_numberAt 2 = .ok (.invokevirtual 23, 3) := by decide +kernel
theorem dX4_numberAt_5 : decode cX4_numberAt 5 = .ok (.istore_n 2, 1) := by decide +kernel
theorem dX4_numberAt_6 : decode cX4_numberAt 6 = .ok (.iconst 0, 1) := by decide +kernel
theorem dX4_numberAt_7 : decode cX4_numberAt 7 = .ok (.istore_n 3, 1) := by decide +kernel
theorem dX4_numberAt_8 : decode cX4_numberAt 8 = .ok (.iload_n 1, 1) := by decide +kernel
theorem dX4_numberAt_9 : decode cX4_numberAt 9 = .ok (.istore 4, 2) := by decide +kernel
theorem dX4_numberAt_11 : decode cX4_numberAt 11 = .ok (.iload 4, 2) := by decide +kernel
theorem dX4_numberAt_13 : decode cX4_numberAt 13 = .ok (.ifCond .lt 31, 3) := by decide +kernel
theorem dX4_numberAt_16 : decode cX4_numberAt 16 = .ok (.iload 4, 2) := by decide +kernel
theorem dX4_numberAt_18 : decode cX4_numberAt 18 = .ok (.iload_n 2, 1) := by decide +kernel
theorem dX4_numberAt_19 : decode cX4_numberAt 19 = .ok (.if_icmp .ge 25, 3) := by decide +kernel
theorem dX4_numberAt_22 : decode cX4_numberAt 22 = .ok (.iload_n 3, 1) := by decide +kernel
theorem dX4_numberAt_23 : decode cX4_numberAt 23 = .ok (.bipush 10, 2) := by decide +kernel
theorem dX4_numberAt_25 : decode cX4_numberAt 25 = .ok (.imul, 1) := by decide +kernel
theorem dX4_numberAt_26 : decode cX4_numberAt 26 = .ok (.aload_n 0, 1) := by decide +kernel
theorem dX4_numberAt_27 : decode cX4_numberAt 27 = .ok (.getfield 9, 3) := by decide +kernel
theorem dX4_numberAt_30 : decode cX4_numberAt 30 = .ok (.iload 4, 2) := by decide +kernel
theorem dX4_numberAt_32 : decode cX4_numberAt 32 = .ok (.caload, 1) := by decide +kernel
theorem dX4_numberAt_33 : decode cX4_numberAt 33 = .ok (.bipush 48, 2) := by decide +kernel
theorem dX4_numberAt_35 : decode cX4_numberAt 35 = .ok (.isub, 1) := by decide +kernel
theorem dX4_numberAt_36 : decode cX4_numberAt 36 = .ok (.iadd, 1) := by decide +kernel
theorem dX4_numberAt_37 : decode cX4_numberAt 37 = .ok (.istore_n 3, 1) := by decide +kernel
theorem dX4_numberAt_38 : decode cX4_numberAt 38 = .ok (.iinc 4 1, 3) := by decide +kernel
theorem dX4_numberAt_41 : decode cX4_numberAt 41 = .ok (.goto (-30), 3) := by decide +kernel
theorem dX4_numberAt_44 : decode cX4_numberAt 44 = .ok (.iload_n 3, 1) := by decide +kernel
theorem dX4_numberAt_45 : decode cX4_numberAt 45 = .ok (.ireturn, 1) := by decide +kernel
theorem dX4_endOfYear_0 : decode cX4_endOfYear 0 = .ok (.aload_n 0, 1) := by decide +kernel
theorem dX4_endOfYear_1 : decode cX4_endOfYear 1 = .ok (.iload_n 1, 1) := by decide +kernel
theorem dX4_endOfYear_2 : decode cX4_endOfYear 2 = .ok (.invokevirtual 23, 3) := by decide +kernel
theorem dX4_endOfYear_5 : decode cX4_endOfYear 5 = .ok (.istore_n 2, 1) := by decide +kernel
theorem dX4_endOfYear_6 : decode cX4_endOfYear 6 = .ok (.aload_n 0, 1) := by decide +kernel
theorem dX4_endOfYear_7 : decode cX4_endOfYear 7 = .ok (.iload_n 2, 1) := by decide +kernel
theorem dX4_endOfYear_8 : decode cX4_endOfYear 8 = .ok (.bipush 44, 2) := by decide +kernel
theorem dX4_endOfYear_10 : decode cX4_endOfYear 10 = .ok (.invokevirtual 27, 3) := by decide +kernel
theorem dX4_endOfYear_13 : decode cX4_endOfYear 13 = .ok (.ifCond .ne 5, 3) := by decide +kernel
theorem dX4_endOfYear_16 : decode cX4_endOfYear 16 = .ok (.iconst (-1), 1) := by decide +kernel
theorem dX4_endOfYear_17 : decode cX4_endOfYear 17 = .ok (.ireturn, 1) := by decide +kernel
theorem dX4_endOfYear_18 : decode cX4_endOfYear 18 = .ok (.aload_n 0, 1) := by decide +kernel
theorem dX4_endOfYear_19 : decode cX4_endOfYear 19 = .ok (.iload_n 2, 1) := by decide +kernel
theorem dX4_endOfYear_20 : decode cX4_endOfYear 20 = .ok (.iconst 1, 1) := by decide +kernel
theorem dX4_endOfYear_21 : decode cX4_endOfYear 21 = .ok (.iadd, 1) := by decide +kernel
theorem dX4_endOfYear_22 : decode cX4_endOfYear 22 = .ok (.invokevirtual 23, 3) := by decide +kernel
theorem dX4_endOfYear_25 : decode cX4_endOfYear 25 = .ok (.istore_n 3, 1) := by decide +kernel
theorem dX4_endOfYear_26 : decode cX4_endOfYear 26 = .ok (.aload_n 0, 1) := by decide +kernel
theorem dX4_endOfYear_27 : decode cX4_endOfYear 27 = .ok (.iload_n 3, 1) := by decide +kernel
theorem dX4_endOfYear_28 : decode cX4_endOfYear 28 = .ok (.bipush 59, 2) := by decide +kernel
theorem dX4_endOfYear_30 : decode cX4_endOfYear 30 = .ok (.invokevirtual 27, 3) := by decide +kernel
theorem dX4_endOfYear_33 : decode cX4_endOfYear 33 = .ok (.ifCond .eq 9, 3) := by decide +kernel
theorem dX4_endOfYear_36 : decode cX4_endOfYear 36 = .ok (.iload_n 3, 1) := by decide +kernel
theorem dX4_endOfYear_37 : decode cX4_endOfYear 37 = .ok (.iconst 1, 1) := by decide +kernel
theorem dX4_endOfYear_38 : decode cX4_endOfYear 38 = .ok (.iadd, 1) := by decide +kernel
theorem dX4_endOfYear_39 : decode cX4_endOfYear 39 = .ok (.goto 4, 3) := by decide +kernel
theorem dX4_endOfYear_42 : decode cX4_endOfYear 42 = .ok (.iconst (-1), 1) := by decide +kernel
theorem dX4_endOfYear_43 : decode cX4_endOfYear 43 = .ok (.ireturn, 1) := by decide +kernel
theorem dX4_snowOfYear_0 : decode cX4_snowOfYear 0 = .ok (.aload_n 0, 1) := by decide +kernel
theorem dX4_snowOfYear_1 : decode cX4_snowOfYear 1 = .ok (.iload_n 1, 1) := by decide +kernel
theorem dX4_snowOfYear_2 : decode cX4_snowOfYear 2 = .ok (.invokevirtual 31, 3) := by decide +kernel
theorem dX4_snowOfYear_5 : decode cX4_snowOfYear 5 = .ok (.ireturn, 1) := by decide +kernel
theorem dX4_meltOfYear_0 : decode cX4_meltOfYear 0 = .ok (.aload_n 0, 1) := by decide +kernel
theorem dX4_meltOfYear_1 : decode cX4_meltOfYear 1 = .ok (.aload_n 0, 1) := by decide +kernel
theorem dX4_meltOfYear_2 : decode cX4_meltOfYear 2 = .ok (.iload_n 1, 1) := by decide +kernel
theorem dX4_meltOfYear_3 : decode cX4_meltOfYear 3 = .ok (.invokevirtual 23, 3) := by decide +kernel
theorem dX4_meltOfYear_6 : decode cX4_meltOfYear 6 = .ok (.iconst 1, 1) := by decide +kernel
theorem dX4_meltOfYear_7 : decode cX4_meltOfYear 7 = .ok (.iadd, 1) := by decide +kernel
theorem dX4_meltOfYear_8 : decode cX4_meltOfYear 8 = .ok (.invokevirtual 31, 3) := by decide +kernel
theorem dX4_meltOfYear_11 : decode cX4_meltOfYear 11 = .ok (.ireturn, 1) := by decide +kernel
theorem dX4_startOfYear_0 : decode cX4_startOfYear 0 = .ok (.iconst 0, 1) := by decide +kernel
theorem dX4_startOfYear_1 : decode cX4_startOfYear 1 = .ok (.istore_n 2, 1) := by decide +kernel
theorem dX4_startOfYear_2 : decode cX4_startOfYear 2 = .ok (.iconst 0, 1) := by decide +kernel
theorem dX4_startOfYear_3 : decode cX4_startOfYear 3 = .ok (.istore_n 3, 1) := by decide +kernel
theorem dX4_startOfYear_4 : decode cX4_startOfYear 4 = .ok (.iload_n 3, 1) := by decide +kernel
theorem dX4_startOfYear_5 : decode cX4_startOfYear 5 = .ok (.iload_n 1, 1) := by decide +kernel
theorem dX4_startOfYear_6 : decode cX4_startOfYear 6 = .ok (.if_icmp .ge 19, 3) := by decide +kernel
theorem dX4_startOfYear_9 : decode cX4_startOfYear 9 = .ok (.iload_n 2, 1) := by decide +kernel
theorem dX4_startOfYear_10 : decode cX4_startOfYear 10 = .ok (.ifCond .lt 15, 3) := by decide +kernel
theorem dX4_startOfYear_13 : decode cX4_startOfYear 13 = .ok (.aload_n 0, 1) := by decide +kernel
theorem dX4_startOfYear_14 : decode cX4_startOfYear 14 = .ok (.iload_n 2, 1) := by decide +kernel
theorem dX4_startOfYear_15 : decode cX4_startOfYear 15 = .ok (.invokevirtual 34, 3) := by decide +kernel
theorem dX4_startOfYear_18 : decode cX4_startOfYear 18 = .ok (.istore_n 2, 1) := by decide +kernel
theorem dX4_startOfYear_19 : decode cX4_startOfYear 19 = .ok (.iinc 3 1, 3) := by decide +kernel
theorem dX4_startOfYear_22 : decode cX4_startOfYear 22 = .ok (.goto (-18), 3) := by decide +kernel
theorem dX4_startOfYear_25 : decode cX4_startOfYear 25 = .ok (.iload_n 2, 1) := by decide +kernel
theorem dX4_startOfYear_26 : decode cX4_startOfYear 26 = .ok (.ireturn, 1) := by decide +kernel
