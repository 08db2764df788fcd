theorem fbs_J7_fill_53178_5 (T : Ty) (R : Rm) (a0 : Nat) (x1 : Int32) (n : Nat) : fb_J7_fill_53178_5 T R a0 x1 (n + 1) = fs_J7_fill_53178_5 T R a0 x1 (fb_J7_fill_53178_5 T R a0 x1 n) := rfl
theorem fbs_X2_narrow_54 (T : Ty) (R : Rm) (a0 : Nat) (n : Nat) : fb_X2_narrow_54 T R a0 (n + 1) = fs_X2_narrow_54 T R a0 (fb_X2_narrow_54 T R a0 n) := rfl
theorem fbs_X2_narrow_19 (T : Ty) (R : Rm) (a0 : Nat) (j54 : Mm → Option (Unit × Mm)) (n : Nat) : fb_X2_narrow_19 T R a0 j54 (n + 1) = fs_X2_narrow_19 T R a0 (fb_X2_narrow_19 T R a0 j54 n) j54 := rfl
theorem fbs_X2_takeFromLatest_17 (T : Ty) (R : Rm) (a0 : Nat) (x1 : Int32) (j46 : Int32 → Mm → Option (Int32 × Mm)) (n : Nat) : fb_X2_takeFromLatest_17 T R a0 x1 j46 (n + 1) = fs_X2_takeFromLatest_17 T R a0 x1 (fb_X2_takeFromLatest_17 T R a0 x1 j46 n) j46 := rfl
theorem fbs_X2_giveFromOldest_15 (T : Ty) (R : Rm) (a0 : Nat) (x1 : Int32) (a2 : Nat) (j60 : Mm → Option (Unit × Mm)) (n : Nat) : fb_X2_giveFromOldest_15 T R a0 x1 a2 j60 (n + 1) = fs_X2_giveFromOldest_15 T R a0 x1 a2 (fb_X2_giveFromOldest_15 T R a0 x1 a2 j60 n) j60 := rfl
theorem fbs_X2_giveFromOldest_N_15 (T : Ty) (R : Rm) (a0 : Nat) (x1 : Int32) (j60 : Mm → Option (Unit × Mm)) (n : Nat) : fb_X2_giveFromOldest_N_15 T R a0 x1 j60 (n + 1) = fs_X2_giveFromOldest_N_15 T R a0 x1 (fb_X2_giveFromOldest_N_15 T R a0 x1 j60 n) j60 := rfl
theorem fbs_X2_number_7 (T : Ty) (R : Rm) (a0 : Nat) (n : Nat) : fb_X2_number_7 T R a0 (n + 1) = fs_X2_number_7 T R a0 (fb_X2_number_7 T R a0 n) := rfl
theorem fbs_X2_yearOfLayer_7 (T : Ty) (R : Rm) (a0 : Nat) (x1 : Int32) (n : Nat) : fb_X2_yearOfLayer_7 T R a0 x1 (n + 1) = fs_X2_yearOfLayer_7 T R a0 x1 (fb_X2_yearOfLayer_7 T R a0 x1 n) := rfl
theorem fbs_X4_endOfNumber_2 (T : Ty) (R : Rm) (a0 : Nat) (x1 : Int32) (j24 : Int32 → Mm → Option (Int32 × Mm)) (n : Nat) : fb_X4_endOfNumber_2 T R a0 x1 j24 (n + 1) = fs_X4_endOfNumber_2 T R a0 x1 (fb_X4_endOfNumber_2 T R a0 x1 j24 n) j24 := rfl
theorem fbs_X4_numberAt_11 (T : Ty) (R : Rm) (a0 : Nat) (x1 : Int32) (n : Nat) : fb_X4_numberAt_11 T R a0 x1 (n + 1) = fs_X4_numberAt_11 T R a0 x1 (fb_X4_numberAt_11 T R a0 x1 n) := rfl
theorem fbs_X4_startOfYear_4 (T : Ty) (R : Rm) (a0 : Nat) (x1 : Int32) (n : Nat) : fb_X4_startOfYear_4 T R a0 x1 (n + 1) = fs_X4_startOfYear_4 T R a0 x1 (fb_X4_startOfYear_4 T R a0 x1 n) := rfl
theorem fbs_X5_copyFrom_48 (T : Ty) (R : Rm) (a0 : Nat) (a1 : Nat) (n : Nat) : fb_X5_copyFrom_48 T R a0 a1 (n + 1) = fs_X5_copyFrom_48 T R a0 a1 (fb_X5_copyFrom_48 T R a0 a1 n) := rfl
theorem fbs_X5_copyFrom_17 (T : Ty) (R : Rm) (a0 : Nat) (a1 : Nat) (j48 : Int32 → Mm → Option (Unit × Mm)) (n : Nat) : fb_X5_copyFrom_17 T R a0 a1 j48 (n + 1) = fs_X5_copyFrom_17 T R a0 a1 (fb_X5_copyFrom_17 T R a0 a1 j48 n) j48 := rfl
theorem fbs_X5_isStakeAt_2 (T : Ty) (R : Rm) (a0 : Nat) (x1 : Int32) (x2 : Int32) (n : Nat) : fb_X5_isStakeAt_2 T R a0 x1 x2 (n + 1) = fs_X5_isStakeAt_2 T R a0 x1 x2 (fb_X5_isStakeAt_2 T R a0 x1 x2 n) := rfl
theorem fbs_X5_removeStake_9 (T : Ty) (a0 : Nat) (x1 : Int32) (n : Nat) : fb_X5_removeStake_9 T a0 x1 (n + 1) = fs_X5_removeStake_9 T a0 x1 (fb_X5_removeStake_9 T a0 x1 n) := rfl
theorem fbs_X5_standingStakes_4 (T : Ty) (R : Rm) (a0 : Nat) (n : Nat) : fb_X5_standingStakes_4 T R a0 (n + 1) = fs_X5_standingStakes_4 T R a0 (fb_X5_standingStakes_4 T R a0 n) := rfl
theorem fbs_X5_snowOutweighsMelt_4 (T : Ty) (R : Rm) (a0 : Nat) (x1 : Int32) (n : Nat) : fb_X5_snowOutweighsMelt_4 T R a0 x1 (n + 1) = fs_X5_snowOutweighsMelt_4 T R a0 x1 (fb_X5_snowOutweighsMelt_4 T R a0 x1 n) := rfl
theorem fbs_X5_leftOf_4 (T : Ty) (R : Rm) (a0 : Nat) (x1 : Int32) (n : Nat) : fb_X5_leftOf_4 T R a0 x1 (n + 1) = fs_X5_leftOf_4 T R a0 x1 (fb_X5_leftOf_4 T R a0 x1 n) := rfl
theorem fbs_X5_bandIce_4 (T : Ty) (R : Rm) (a0 : Nat) (n : Nat) : fb_X5_bandIce_4 T R a0 (n + 1) = fs_X5_bandIce_4 T R a0 (fb_X5_bandIce_4 T R a0 n) := rfl
theorem fbs_X5_allIceByYears_11 (T : Ty) (R : Rm) (a0 : Nat) (n : Nat) : fb_X5_allIceByYears_11 T R a0 (n + 1) = fs_X5_allIceByYears_11 T R a0 (fb_X5_allIceByYears_11 T R a0 n) := rfl
theorem fbs_X5_layersOfAllBands_4 (T : Ty) (R : Rm) (a0 : Nat) (n : Nat) : fb_X5_layersOfAllBands_4 T R a0 (n + 1) = fs_X5_layersOfAllBands_4 T R a0 (fb_X5_layersOfAllBands_4 T R a0 n) := rfl
theorem fbs_X5_differentYears_4 (T : Ty) (R : Rm) (a0 : Nat) (n : Nat) : fb_X5_differentYears_4 T R a0 (n + 1) = fs_X5_differentYears_4 T R a0 (fb_X5_differentYears_4 T R a0 n) := rfl
theorem fbs_X5_oldestYear_6 (T : Ty) (R : Rm) (a0 : Nat) (n : Nat) : fb_X5_oldestYear_6 T R a0 (n + 1) = fs_X5_oldestYear_6 T R a0 (fb_X5_oldestYear_6 T R a0 n) := rfl
theorem fbs_X5_creepDown_7 (T : Ty) (R : Rm) (a0 : Nat) (n : Nat) : fb_X5_creepDown_7 T R a0 (n + 1) = fs_X5_creepDown_7 T R a0 (fb_X5_creepDown_7 T R a0 n) := rfl
theorem fbs_X5_moveDown_8 (T : Ty) (R : Rm) (a0 : Nat) (a1 : Nat) (x2 : Int32) (n : Nat) : fb_X5_moveDown_8 T R a0 a1 x2 (n + 1) = fs_X5_moveDown_8 T R a0 a1 x2 (fb_X5_moveDown_8 T R a0 a1 x2 n) := rfl
theorem fbs_X5_letYearGoBy_76 (T : Ty) (R : Rm) (a0 : Nat) (n : Nat) : fb_X5_letYearGoBy_76 T R a0 (n + 1) = fs_X5_letYearGoBy_76 T R a0 (fb_X5_letYearGoBy_76 T R a0 n) := rfl
theorem fbs_X5_letYearGoBy_12 (T : Ty) (R : Rm) (a0 : Nat) (j76 : Int32 → Mm → Option (Unit × Mm)) (n : Nat) : fb_X5_letYearGoBy_12 T R a0 j76 (n + 1) = fs_X5_letYearGoBy_12 T R a0 (fb_X5_letYearGoBy_12 T R a0 j76 n) j76 := rfl
theorem fbs_X5_letYearsGoBy_2 (T : Ty) (R : Rm) (a0 : Nat) (x1 : Int32) (n : Nat) : fb_X5_letYearsGoBy_2 T R a0 x1 (n + 1) = fs_X5_letYearsGoBy_2 T R a0 x1 (fb_X5_letYearsGoBy_2 T R a0 x1 n) := rfl
theorem fbs_X6_dropOldestState_9 (T : Ty) (a0 : Nat) (n : Nat) : fb_X6_dropOldestState_9 T a0 (n + 1) = fs_X6_dropOldestState_9 T a0 (fb_X6_dropOldestState_9 T a0 n) := rfl
theorem fbs_X6_line_10 (T : Ty) (R : Rm) (a0 : Nat) (n : Nat) : fb_X6_line_10 T R a0 (n + 1) = fs_X6_line_10 T R a0 (fb_X6_line_10 T R a0 n) := rfl
theorem fbs_X6_stakesIn_18 (T : Ty) (R : Rm) (a0 : Nat) (x1 : Int32) (n : Nat) : fb_X6_stakesIn_18 T R a0 x1 (n + 1) = fs_X6_stakesIn_18 T R a0 x1 (fb_X6_stakesIn_18 T R a0 x1 n) := rfl
theorem fbs_X6_yearsTo_38 (T : Ty) (R : Rm) (a0 : Nat) (x1 : Int32) (n : Nat) : fb_X6_yearsTo_38 T R a0 x1 (n + 1) = fs_X6_yearsTo_38 T R a0 x1 (fb_X6_yearsTo_38 T R a0 x1 n) := rfl
theorem fbs_X6_steadyMelt_41 (T : Ty) (R : Rm) (a0 : Nat) (n : Nat) : fb_X6_steadyMelt_41 T R a0 (n + 1) = fs_X6_steadyMelt_41 T R a0 (fb_X6_steadyMelt_41 T R a0 n) := rfl
theorem fbs_X6_possibleYears_4 (T : Ty) (R : Rm) (a0 : Nat) (n : Nat) : fb_X6_possibleYears_4 T R a0 (n + 1) = fs_X6_possibleYears_4 T R a0 (fb_X6_possibleYears_4 T R a0 n) := rfl
theorem fbs_X6_live_44 (T : Ty) (a0 : Nat) (n : Nat) : fb_X6_live_44 T a0 (n + 1) = fs_X6_live_44 T a0 (fb_X6_live_44 T a0 n) := rfl
theorem fbs_X7_dropOldest_74 (T : Ty) (R : Rm) (a0 : Nat) (n : Nat) : fb_X7_dropOldest_74 T R a0 (n + 1) = fs_X7_dropOldest_74 T R a0 (fb_X7_dropOldest_74 T R a0 n) := rfl
theorem fbs_X7_dropOldest_44 (T : Ty) (R : Rm) (a0 : Nat) (j74 : Int32 → Mm → Option (Unit × Mm)) (n : Nat) : fb_X7_dropOldest_44 T R a0 j74 (n + 1) = fs_X7_dropOldest_44 T R a0 (fb_X7_dropOldest_44 T R a0 j74 n) j74 := rfl
theorem fbs_X7_dropOldest_9 (T : Ty) (R : Rm) (a0 : Nat) (j2 : Int32 → Mm → Option (Unit × Mm)) (n : Nat) : fb_X7_dropOldest_9 T R a0 j2 (n + 1) = fs_X7_dropOldest_9 T R a0 (fb_X7_dropOldest_9 T R a0 j2 n) j2 := rfl
theorem fbs_X7_dropOldest_2 (T : Ty) (R : Rm) (a0 : Nat) (j44 : Int32 → Mm → Option (Unit × Mm)) (n : Nat) : fb_X7_dropOldest_2 T R a0 j44 (n + 1) = fs_X7_dropOldest_2 T R a0 (fb_X7_dropOldest_2 T R a0 j44 n) j44 := rfl
theorem fbs_X7_keep_92 (T : Ty) (R : Rm) (a0 : Nat) (n : Nat) : fb_X7_keep_92 T R a0 (n + 1) = fs_X7_keep_92 T R a0 (fb_X7_keep_92 T R a0 n) := rfl
theorem fbs_X7_keep_58 (T : Ty) (R : Rm) (a0 : Nat) (j92 : Int32 → Mm → Option (Unit × Mm)) (n : Nat) : fb_X7_keep_58 T R a0 j92 (n + 1) = fs_X7_keep_58 T R a0 (fb_X7_keep_58 T R a0 j92 n) j92 := rfl
theorem fbs_X7_keep_14 (T : Ty) (R : Rm) (a0 : Nat) (j58 : Int32 → Mm → Option (Unit × Mm)) (n : Nat) : fb_X7_keep_14 T R a0 j58 (n + 1) = fs_X7_keep_14 T R a0 (fb_X7_keep_14 T R a0 j58 n) j58 := rfl
theorem fbs_X7_undo_100 (T : Ty) (R : Rm) (a0 : Nat) (n : Nat) : fb_X7_undo_100 T R a0 (n + 1) = fs_X7_undo_100 T R a0 (fb_X7_undo_100 T R a0 n) := rfl
theorem fbs_X7_undo_66 (T : Ty) (R : Rm) (a0 : Nat) (j100 : Int32 → Mm → Option (Int32 × Mm)) (n : Nat) : fb_X7_undo_66 T R a0 j100 (n + 1) = fs_X7_undo_66 T R a0 (fb_X7_undo_66 T R a0 j100 n) j100 := rfl
theorem fbs_X7_undo_22 (T : Ty) (R : Rm) (a0 : Nat) (j66 : Int32 → Mm → Option (Int32 × Mm)) (n : Nat) : fb_X7_undo_22 T R a0 j66 (n + 1) = fs_X7_undo_22 T R a0 (fb_X7_undo_22 T R a0 j66 n) j66 := rfl
theorem fbs_X7_setAside_55 (T : Ty) (R : Rm) (a0 : Nat) (n : Nat) : fb_X7_setAside_55 T R a0 (n + 1) = fs_X7_setAside_55 T R a0 (fb_X7_setAside_55 T R a0 n) := rfl
theorem fbs_X7_setAside_29 (T : Ty) (R : Rm) (a0 : Nat) (j55 : Int32 → Mm → Option (Unit × Mm)) (n : Nat) : fb_X7_setAside_29 T R a0 j55 (n + 1) = fs_X7_setAside_29 T R a0 (fb_X7_setAside_29 T R a0 j55 n) j55 := rfl
theorem fbs_X7_setAside_2 (T : Ty) (R : Rm) (a0 : Nat) (j29 : Int32 → Mm → Option (Unit × Mm)) (n : Nat) : fb_X7_setAside_2 T R a0 j29 (n + 1) = fs_X7_setAside_2 T R a0 (fb_X7_setAside_2 T R a0 j29 n) j29 := rfl
theorem fbs_X7_bringBack_55 (T : Ty) (R : Rm) (a0 : Nat) (n : Nat) : fb_X7_bringBack_55 T R a0 (n + 1) = fs_X7_bringBack_55 T R a0 (fb_X7_bringBack_55 T R a0 n) := rfl
theorem fbs_X7_bringBack_29 (T : Ty) (R : Rm) (a0 : Nat) (j55 : Int32 → Mm → Option (Unit × Mm)) (n : Nat) : fb_X7_bringBack_29 T R a0 j55 (n + 1) = fs_X7_bringBack_29 T R a0 (fb_X7_bringBack_29 T R a0 j55 n) j55 := rfl
theorem fbs_X7_bringBack_2 (T : Ty) (R : Rm) (a0 : Nat) (j29 : Int32 → Mm → Option (Unit × Mm)) (n : Nat) : fb_X7_bringBack_2 T R a0 j29 (n + 1) = fs_X7_bringBack_2 T R a0 (fb_X7_bringBack_2 T R a0 j29 n) j29 := rfl
theorem fbs_X7_iceOf_4 (T : Ty) (R : Rm) (a0 : Nat) (x1 : Int32) (n : Nat) : fb_X7_iceOf_4 T R a0 x1 (n + 1) = fs_X7_iceOf_4 T R a0 x1 (fb_X7_iceOf_4 T R a0 x1 n) := rfl
theorem fbs_X7_lay_2 (T : Ty) (R : Rm) (a0 : Nat) (x1 : Int32) (x2 : Int32) (n : Nat) : fb_X7_lay_2 T R a0 x1 x2 (n + 1) = fs_X7_lay_2 T R a0 x1 x2 (fb_X7_lay_2 T R a0 x1 x2 n) := rfl
theorem fbs_X7_layersOf_4 (T : Ty) (R : Rm) (a0 : Nat) (x1 : Int32) (n : Nat) : fb_X7_layersOf_4 T R a0 x1 (n + 1) = fs_X7_layersOf_4 T R a0 x1 (fb_X7_layersOf_4 T R a0 x1 n) := rfl
theorem fbs_X7_yearOf_5 (T : Ty) (R : Rm) (a0 : Nat) (x1 : Int32) (x2 : Int32) (n : Nat) : fb_X7_yearOf_5 T R a0 x1 x2 (n + 1) = fs_X7_yearOf_5 T R a0 x1 x2 (fb_X7_yearOf_5 T R a0 x1 x2 n) := rfl
theorem fbs_X7_leftOf_4 (T : Ty) (R : Rm) (a0 : Nat) (x1 : Int32) (n : Nat) : fb_X7_leftOf_4 T R a0 x1 (n + 1) = fs_X7_leftOf_4 T R a0 x1 (fb_X7_leftOf_4 T R a0 x1 n) := rfl
theorem fbs_X7_line_10 (T : Ty) (R : Rm) (a0 : Nat) (n : Nat) : fb_X7_line_10 T R a0 (n + 1) = fs_X7_line_10 T R a0 (fb_X7_line_10 T R a0 n) := rfl
theorem fbs_X7_allOfBands_4 (T : Ty) (R : Rm) (a0 : Nat) (n : Nat) : fb_X7_allOfBands_4 T R a0 (n + 1) = fs_X7_allOfBands_4 T R a0 (fb_X7_allOfBands_4 T R a0 n) := rfl
theorem fbs_X7_allByYears_4 (T : Ty) (R : Rm) (a0 : Nat) (n : Nat) : fb_X7_allByYears_4 T R a0 (n + 1) = fs_X7_allByYears_4 T R a0 (fb_X7_allByYears_4 T R a0 n) := rfl
theorem fbs_X7_standing_4 (T : Ty) (R : Rm) (a0 : Nat) (n : Nat) : fb_X7_standing_4 T R a0 (n + 1) = fs_X7_standing_4 T R a0 (fb_X7_standing_4 T R a0 n) := rfl
theorem fbs_X7_differentYears_4 (T : Ty) (R : Rm) (a0 : Nat) (n : Nat) : fb_X7_differentYears_4 T R a0 (n + 1) = fs_X7_differentYears_4 T R a0 (fb_X7_differentYears_4 T R a0 n) := rfl
theorem fbs_X7_allLayers_4 (T : Ty) (R : Rm) (a0 : Nat) (n : Nat) : fb_X7_allLayers_4 T R a0 (n + 1) = fs_X7_allLayers_4 T R a0 (fb_X7_allLayers_4 T R a0 n) := rfl
theorem fbs_X7_stake_41 (T : Ty) (R : Rm) (a0 : Nat) (x1 : Int32) (x2 : Int32) (x3 : Int32) (n : Nat) : fb_X7_stake_41 T R a0 x1 x2 x3 (n + 1) = fs_X7_stake_41 T R a0 x1 x2 x3 (fb_X7_stake_41 T R a0 x1 x2 x3 n) := rfl
theorem fbs_X7_pull_41 (T : Ty) (R : Rm) (a0 : Nat) (x1 : Int32) (n : Nat) : fb_X7_pull_41 T R a0 x1 (n + 1) = fs_X7_pull_41 T R a0 x1 (fb_X7_pull_41 T R a0 x1 n) := rfl
theorem fbs_X7_stakesIn_15 (T : Ty) (R : Rm) (a0 : Nat) (x1 : Int32) (n : Nat) : fb_X7_stakesIn_15 T R a0 x1 (n + 1) = fs_X7_stakesIn_15 T R a0 x1 (fb_X7_stakesIn_15 T R a0 x1 n) := rfl
theorem fbs_X7_weather_57 (T : Ty) (R : Rm) (a0 : Nat) (x1 : Int32) (j131 : Int32 → Mm → Option (Unit × Mm)) (n : Nat) : fb_X7_weather_57 T R a0 x1 j131 (n + 1) = fs_X7_weather_57 T R a0 x1 (fb_X7_weather_57 T R a0 x1 j131 n) j131 := rfl
theorem fbs_X7_gives_81 (T : Ty) (R : Rm) (a0 : Nat) (x1 : Int32) (n : Nat) : fb_X7_gives_81 T R a0 x1 (n + 1) = fs_X7_gives_81 T R a0 x1 (fb_X7_gives_81 T R a0 x1 n) := rfl
theorem fbs_X7_moves_32 (T : Ty) (R : Rm) (a0 : Nat) (x1 : Int32) (j68 : Int32 → Int32 → Mm → Option (Unit × Mm)) (n : Nat) : fb_X7_moves_32 T R a0 x1 j68 (n + 1) = fs_X7_moves_32 T R a0 x1 (fb_X7_moves_32 T R a0 x1 j68 n) j68 := rfl
theorem fbs_X7_year_73 (T : Ty) (R : Rm) (a0 : Nat) (n : Nat) : fb_X7_year_73 T R a0 (n + 1) = fs_X7_year_73 T R a0 (fb_X7_year_73 T R a0 n) := rfl
theorem fbs_X7_year_52 (T : Ty) (R : Rm) (a0 : Nat) (j73 : Int32 → Mm → Option (Unit × Mm)) (n : Nat) : fb_X7_year_52 T R a0 j73 (n + 1) = fs_X7_year_52 T R a0 (fb_X7_year_52 T R a0 j73 n) j73 := rfl
theorem fbs_X7_year_13 (T : Ty) (R : Rm) (a0 : Nat) (j52 : Int32 → Mm → Option (Unit × Mm)) (n : Nat) : fb_X7_year_13 T R a0 j52 (n + 1) = fs_X7_year_13 T R a0 (fb_X7_year_13 T R a0 j52 n) j52 := rfl
theorem fbs_X7_goOn_2 (T : Ty) (R : Rm) (a0 : Nat) (x1 : Int32) (n : Nat) : fb_X7_goOn_2 T R a0 x1 (n + 1) = fs_X7_goOn_2 T R a0 x1 (fb_X7_goOn_2 T R a0 x1 n) := rfl
theorem fbs_X7_oldest_2 (T : Ty) (R : Rm) (a0 : Nat) (n : Nat) : fb_X7_oldest_2 T R a0 (n + 1) = fs_X7_oldest_2 T R a0 (fb_X7_oldest_2 T R a0 n) := rfl
theorem fbs_X7_yearsTo_34 (T : Ty) (R : Rm) (a0 : Nat) (x1 : Int32) (j83 : Int32 → Mm → Option (Int32 × Mm)) (n : Nat) : fb_X7_yearsTo_34 T R a0 x1 j83 (n + 1) = fs_X7_yearsTo_34 T R a0 x1 (fb_X7_yearsTo_34 T R a0 x1 j83 n) j83 := rfl
theorem fbs_X7_isSteady_4 (T : Ty) (R : Rm) (a0 : Nat) (n : Nat) : fb_X7_isSteady_4 T R a0 (n + 1) = fs_X7_isSteady_4 T R a0 (fb_X7_isSteady_4 T R a0 n) := rfl
theorem fbs_X7_steadyMelt_29 (T : Ty) (R : Rm) (a0 : Nat) (j58 : Int32 → Mm → Option (Int32 × Mm)) (n : Nat) : fb_X7_steadyMelt_29 T R a0 j58 (n + 1) = fs_X7_steadyMelt_29 T R a0 (fb_X7_steadyMelt_29 T R a0 j58 n) j58 := rfl
theorem fbs_X7_readNumber_10 (T : Ty) (R : Rm) (a0 : Nat) (x1 : Int32) (j66 : Int32 → Mm → Option (Int32 × Mm)) (n : Nat) : fb_X7_readNumber_10 T R a0 x1 j66 (n + 1) = fs_X7_readNumber_10 T R a0 x1 (fb_X7_readNumber_10 T R a0 x1 j66 n) j66 := rfl
theorem fbs_X7_reason_13 (T : Ty) (R : Rm) (a0 : Nat) (n : Nat) : fb_X7_reason_13 T R a0 (n + 1) = fs_X7_reason_13 T R a0 (fb_X7_reason_13 T R a0 n) := rfl
theorem fbs_X7_live_31 (T : Ty) (R : Rm) (a0 : Nat) (n : Nat) : fb_X7_live_31 T R a0 (n + 1) = fs_X7_live_31 T R a0 (fb_X7_live_31 T R a0 n) := rfl
