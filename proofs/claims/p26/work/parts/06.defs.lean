def fs_J7_fill_53178_5 (T : Ty) (R : Rm) (a0 : Nat) (x1 : Int32) (j5 : Int32 → Int32 → Mm → Option (Unit × Mm)) (x2 : Int32) (x3 : Int32) (M : Mm) : Option (Unit × Mm) :=
  if x3 ≤ x2 then (
    some ((), M)) else (
    chk (isK T a0 9) <|
    chk (inb x2 (lnT T a0)) <|
    bnd (sI M a0 x2.toNatClampNeg x1) fun M_4 =>
    bnd (x2 + (1 : Int32)) fun v_5 =>
    j5 v_5 x3 M_4)
def fb_J7_fill_53178_5 (T : Ty) (R : Rm) (a0 : Nat) (x1 : Int32) : Nat → Int32 → Int32 → Mm → Option (Unit × Mm) :=
  lp (fun j5 => fs_J7_fill_53178_5 T R a0 x1 j5) (fun _ _ _ => none)
def fn_J7_fill_53178 (T : Ty) (R : Rm) (a0 : Nat) (x1 : Int32) (M : Mm) : Option (Unit × Mm) :=
  chk (isK T a0 9) <|
  bnd (Int32.ofNat (lnT T a0)) fun v_7 =>
  (fb_J7_fill_53178_5 T R a0 x1 FU) (0 : Int32) v_7 M
def fn_X2_leftOf (T : Ty) (R : Rm) (a0 : Nat) (x1 : Int32) (M : Mm) : Option (Int32 × Mm) :=
  if x1 < 0 then (
    some ((0 : Int32), M)) else (
    if (801 : Int32) ≤ x1 then (
      some ((0 : Int32), M)) else (
      chk (isK T a0 2) <|
      rfm (R a0 0) fun b_4 =>
      chk (isK T b_4 9) <|
      chk (inb x1 (lnT T b_4)) <|
      some ((gI M b_4 x1.toNatClampNeg), M)))
def fs_X2_narrow_54 (T : Ty) (R : Rm) (a0 : Nat) (j54 : Mm → Option (Unit × Mm))  (M : Mm) : Option (Unit × Mm) :=
  chk (isK T a0 2) <|
  if (gI M a0 3) ≤ (gI M a0 2) then (
    some ((), M)) else (
    cal (fn_X2_leftOf T R a0 (gI M a0 3) M) fun r_3 M_4 =>
    if r_3 = 0 then (
      bnd (sI M_4 a0 3 ((gI M_4 a0 3) - (1 : Int32))) fun M_7 =>
      j54 M_7) else (
      some ((), M_4)))
def fb_X2_narrow_54 (T : Ty) (R : Rm) (a0 : Nat) : Nat → Mm → Option (Unit × Mm) :=
  lp (fun j54 => fs_X2_narrow_54 T R a0 j54) (fun _ => none)
def fs_X2_narrow_19 (T : Ty) (R : Rm) (a0 : Nat) (j19 : Mm → Option (Unit × Mm)) (j54 : Mm → Option (Unit × Mm))  (M : Mm) : Option (Unit × Mm) :=
  chk (isK T a0 2) <|
  if (gI M a0 3) ≤ (gI M a0 2) then (
    j54 M) else (
    cal (fn_X2_leftOf T R a0 (gI M a0 2) M) fun r_10 M_11 =>
    if r_10 = 0 then (
      bnd (sI M_11 a0 2 ((gI M_11 a0 2) + (1 : Int32))) fun M_14 =>
      j19 M_14) else (
      j54 M_11))
def fb_X2_narrow_19 (T : Ty) (R : Rm) (a0 : Nat) (j54 : Mm → Option (Unit × Mm)) : Nat → Mm → Option (Unit × Mm) :=
  lp (fun j19 => fs_X2_narrow_19 T R a0 j19 j54) (fun _ => none)
def fn_X2_narrow (T : Ty) (R : Rm) (a0 : Nat) (M : Mm) : Option (Unit × Mm) :=
  chk (isK T a0 2) <|
  if (gI M a0 1) = 0 then (
    bnd (sI M a0 2 (801 : Int32)) fun M_17 =>
    bnd (sI M_17 a0 3 (-1 : Int32)) fun M_18 =>
    (fb_X2_narrow_19 T R a0 (fb_X2_narrow_54 T R a0 FU) FU) M_18) else (
    (fb_X2_narrow_19 T R a0 (fb_X2_narrow_54 T R a0 FU) FU) M)
def fn_X2_empty (T : Ty) (R : Rm) (a0 : Nat) (M : Mm) : Option (Unit × Mm) :=
  chk (isK T a0 2) <|
  rfm (R a0 0) fun b_2 =>
  cal (fn_J7_fill_53178 T R b_2 (0 : Int32) M) fun _ M_4 =>
  bnd (sI M_4 a0 1 (0 : Int32)) fun M_6 =>
  cal (fn_X2_narrow T R a0 M_6) fun _ M_8 =>
  some ((), M_8)
def fn_X0_begin (T : Ty) (R : Rm) (a0 : Nat) (x1 : Int32) (x2 : Int32) (x3 : Int32) (M : Mm) : Option (Unit × Mm) :=
  chk (isK T a0 0) <|
  bnd (sI M a0 1 x1) fun M_2 =>
  bnd (sI M_2 a0 2 x2) fun M_3 =>
  bnd (sI M_3 a0 3 x3) fun M_4 =>
  bnd (sI M_4 a0 4 (0 : Int32)) fun M_5 =>
  bnd (sI M_5 a0 5 (0 : Int32)) fun M_6 =>
  bnd (sI M_6 a0 6 (0 : Int32)) fun M_7 =>
  rfm (R a0 0) fun b_8 =>
  chk (isK T b_8 2) <|
  cal (fn_X2_empty T R b_8 M_7) fun _ M_11 =>
  some ((), M_11)
def fn_X2_copyFrom (T : Ty) (R : Rm) (a0 : Nat) (a1 : Nat) (M : Mm) : Option (Unit × Mm) :=
  chk (isK T a1 2) <|
  rfm (R a1 0) fun b_2 =>
  chk (isK T a0 2) <|
  rfm (R a0 0) fun b_4 =>
  chk (isK T b_2 9) <|
  chk (isK T b_4 9) <|
  chk (cpok (0 : Int32) (0 : Int32) (801 : Int32) (lnT T b_2) (lnT T b_4)) <|
  bnd (cpI M b_2 b_4 (0 : Int32).toNatClampNeg (0 : Int32).toNatClampNeg (801 : Int32).toNatClampNeg) fun M_8 =>
  bnd (sI M_8 a0 1 (gI M_8 a1 1)) fun M_9 =>
  bnd (sI M_9 a0 2 (gI M_9 a1 2)) fun M_10 =>
  bnd (sI M_10 a0 3 (gI M_10 a1 3)) fun M_11 =>
  some ((), M_11)
def fn_X0_copyFrom (T : Ty) (R : Rm) (a0 : Nat) (a1 : Nat) (M : Mm) : Option (Unit × Mm) :=
  chk (isK T a0 0) <|
  rfm (R a0 0) fun b_2 =>
  chk (isK T a1 0) <|
  rfm (R a1 0) fun b_4 =>
  chk (isK T b_2 2) <|
  cal (fn_X2_copyFrom T R b_2 b_4 M) fun _ M_7 =>
  bnd (sI M_7 a0 1 (gI M_7 a1 1)) fun M_9 =>
  bnd (sI M_9 a0 2 (gI M_9 a1 2)) fun M_10 =>
  bnd (sI M_10 a0 3 (gI M_10 a1 3)) fun M_11 =>
  bnd (sI M_11 a0 4 (gI M_11 a1 4)) fun M_12 =>
  bnd (sI M_12 a0 5 (gI M_12 a1 5)) fun M_13 =>
  bnd (sI M_13 a0 6 (gI M_13 a1 6)) fun M_14 =>
  some ((), M_14)
def fn_X0_iceToGive (T : Ty) (R : Rm) (a0 : Nat) (M : Mm) : Option (Int32 × Mm) :=
  chk (isK T a0 0) <|
  rfm (R a0 0) fun b_2 =>
  chk (isK T b_2 2) <|
  some ((((((gI M b_2 1).toInt64) * ((gI M a0 3).toInt64)) / (1000 : Int64)).toInt32), M)
def fn_X0_way (T : Ty) (R : Rm) (a0 : Nat) (M : Mm) : Option (Int32 × Mm) :=
  chk (isK T a0 0) <|
  some ((((gI M a0 2) * (gI M a0 3)) / (1000 : Int32)), M)
def fn_X1_copyFrom (T : Ty) (R : Rm) (a0 : Nat) (a1 : Nat) (M : Mm) : Option (Unit × Mm) :=
  chk (isK T a1 1) <|
  chk (isK T a0 1) <|
  bnd (sI M a0 0 (gI M a1 0)) fun M_3 =>
  bnd (sI M_3 a0 1 (gI M_3 a1 1)) fun M_4 =>
  bnd (sI M_4 a0 2 (gI M_4 a1 2)) fun M_5 =>
  bnd (sI M_5 a0 3 (gI M_5 a1 3)) fun M_6 =>
  some ((), M_6)
def fn_X1_calve (T : Ty) (R : Rm) (a0 : Nat) (x1 : Int32) (x2 : Int32) (x3 : Int32) (M : Mm) : Option (Int32 × Mm) :=
  chk (isK T a0 1) <|
  if (gI M a0 1) ≤ 0 then (
    if x1 ≤ 0 then (
      some ((0 : Int32), M)) else (
      if x1 ≤ (gI M a0 0) then (
        chk (decide (¬ x1 = 0)) <|
        bnd ((gI M a0 0) / x1) fun v_6 =>
        bnd (sI M a0 2 ((gI M a0 2) + v_6)) fun M_7 =>
        bnd (sI M_7 a0 0 ((gI M_7 a0 0) - (v_6 * x1))) fun M_8 =>
        bnd (sI M_8 a0 1 x2) fun M_9 =>
        bnd (sI M_9 a0 3 x3) fun M_10 =>
        some ((v_6 * x1), M_10)) else (
        some ((0 : Int32), M)))) else (
    bnd (sI M a0 1 ((gI M a0 1) - (1 : Int32))) fun M_11 =>
    some ((0 : Int32), M_11))
def fn_X2_add (T : Ty) (R : Rm) (a0 : Nat) (x1 : Int32) (x2 : Int32) (M : Mm) : Option (Unit × Mm) :=
  if x2 ≤ 0 then (
    some ((), M)) else (
    if x1 < 0 then (
      some ((), M)) else (
      if x1 < (801 : Int32) then (
        chk (isK T a0 2) <|
        rfm (R a0 0) fun b_5 =>
        chk (isK T b_5 9) <|
        chk (inb x1 (lnT T b_5)) <|
        bnd (sI M b_5 x1.toNatClampNeg ((gI M b_5 x1.toNatClampNeg) + x2)) fun M_8 =>
        bnd (sI M_8 a0 1 ((gI M_8 a0 1) + x2)) fun M_9 =>
        bnd (if x1 < (gI M_9 a0 2) then x1 else (gI M_9 a0 2)) fun v_10 =>
        bnd (sI M_9 a0 2 v_10) fun M_11 =>
        bnd (if (gI M_11 a0 3) < x1 then x1 else (gI M_11 a0 3)) fun v_12 =>
        bnd (sI M_11 a0 3 v_12) fun M_13 =>
        some ((), M_13)) else (
        some ((), M))))
def fn_X2_takeOfYear (T : Ty) (R : Rm) (a0 : Nat) (x1 : Int32) (x2 : Int32) (M : Mm) : Option (Int32 × Mm) :=
  chk (isK T a0 2) <|
  cal (fn_X2_leftOf T R a0 x1 M) fun r_2 M_3 =>
  bnd (if x2 < r_2 then x2 else r_2) fun v_5 =>
  if v_5 ≤ 0 then (
    some (v_5, M_3)) else (
    rfm (R a0 0) fun b_7 =>
    chk (isK T b_7 9) <|
    chk (inb x1 (lnT T b_7)) <|
    bnd (sI M_3 b_7 x1.toNatClampNeg ((gI M_3 b_7 x1.toNatClampNeg) - v_5)) fun M_10 =>
    bnd (sI M_10 a0 1 ((gI M_10 a0 1) - v_5)) fun M_11 =>
    some (v_5, M_11))
def fs_X2_takeFromLatest_46 (T : Ty) (R : Rm) (a0 : Nat) (x1 : Int32) (x2 : Int32) (M : Mm) : Option (Int32 × Mm) :=
  chk (isK T a0 2) <|
  cal (fn_X2_narrow T R a0 M) fun _ M_3 =>
  some (x2, M_3)
def fs_X2_takeFromLatest_17 (T : Ty) (R : Rm) (a0 : Nat) (x1 : Int32) (j17 : Int32 → Int32 → Int32 → Mm → Option (Int32 × Mm)) (j46 : Int32 → Mm → Option (Int32 × Mm)) (x2 : Int32) (x3 : Int32) (x4 : Int32) (M : Mm) : Option (Int32 × Mm) :=
  chk (isK T a0 2) <|
  if x4 < (gI M a0 2) then (
    j46 x2 M) else (
    if x3 ≤ 0 then (
      j46 x2 M) else (
      cal (fn_X2_takeOfYear T R a0 x4 x3 M) fun r_8 M_9 =>
      bnd (x3 - r_8) fun v_11 =>
      bnd (x4 + (-1 : Int32)) fun v_12 =>
      j17 x2 v_11 v_12 M_9))
def fb_X2_takeFromLatest_17 (T : Ty) (R : Rm) (a0 : Nat) (x1 : Int32) (j46 : Int32 → Mm → Option (Int32 × Mm)) : Nat → Int32 → Int32 → Int32 → Mm → Option (Int32 × Mm) :=
  lp (fun j17 => fs_X2_takeFromLatest_17 T R a0 x1 j17 j46) (fun _ _ _ _ => none)
def fn_X2_takeFromLatest (T : Ty) (R : Rm) (a0 : Nat) (x1 : Int32) (M : Mm) : Option (Int32 × Mm) :=
  chk (isK T a0 2) <|
  bnd (if (gI M a0 1) < x1 then (gI M a0 1) else x1) fun v_14 =>
  bnd (gI M a0 3) fun v_15 =>
  (fb_X2_takeFromLatest_17 T R a0 x1 (fs_X2_takeFromLatest_46 T R a0 x1) FU) v_14 v_14 v_15 M
def fs_X2_giveFromOldest_60 (T : Ty) (R : Rm) (a0 : Nat) (x1 : Int32) (a2 : Nat)  (M : Mm) : Option (Unit × Mm) :=
  chk (isK T a0 2) <|
  cal (fn_X2_narrow T R a0 M) fun _ M_3 =>
  some ((), M_3)
def fs_X2_giveFromOldest_54 (T : Ty) (R : Rm) (a0 : Nat) (x1 : Int32) (a2 : Nat) (j15 : Int32 → Int32 → Mm → Option (Unit × Mm)) (x3 : Int32) (x4 : Int32) (M : Mm) : Option (Unit × Mm) :=
  bnd (x4 + (1 : Int32)) fun v_5 =>
  j15 x3 v_5 M
def fs_X2_giveFromOldest_15 (T : Ty) (R : Rm) (a0 : Nat) (x1 : Int32) (a2 : Nat) (j15 : Int32 → Int32 → Mm → Option (Unit × Mm)) (j60 : Mm → Option (Unit × Mm)) (x3 : Int32) (x4 : Int32) (M : Mm) : Option (Unit × Mm) :=
  chk (isK T a0 2) <|
  if (gI M a0 3) < x4 then (
    j60 M) else (
    if x3 ≤ 0 then (
      j60 M) else (
      cal (fn_X2_takeOfYear T R a0 x4 x3 M) fun r_9 M_10 =>
      bnd (x3 - r_9) fun v_12 =>
      chk (isK T a2 2) <|
      cal (fn_X2_add T R a2 x4 r_9 M_10) fun _ M_15 =>
      (fs_X2_giveFromOldest_54 T R a0 x1 a2 j15) v_12 x4 M_15))
def fb_X2_giveFromOldest_15 (T : Ty) (R : Rm) (a0 : Nat) (x1 : Int32) (a2 : Nat) (j60 : Mm → Option (Unit × Mm)) : Nat → Int32 → Int32 → Mm → Option (Unit × Mm) :=
  lp (fun j15 => fs_X2_giveFromOldest_15 T R a0 x1 a2 j15 j60) (fun _ _ _ => none)
def fn_X2_giveFromOldest (T : Ty) (R : Rm) (a0 : Nat) (x1 : Int32) (a2 : Nat) (M : Mm) : Option (Unit × Mm) :=
  chk (isK T a0 2) <|
  bnd (if (gI M a0 1) < x1 then (gI M a0 1) else x1) fun v_18 =>
  bnd (gI M a0 2) fun v_19 =>
  (fb_X2_giveFromOldest_15 T R a0 x1 a2 (fs_X2_giveFromOldest_60 T R a0 x1 a2) FU) v_18 v_19 M
def fs_X2_giveFromOldest_N_60 (T : Ty) (R : Rm) (a0 : Nat) (x1 : Int32)  (M : Mm) : Option (Unit × Mm) :=
  chk (isK T a0 2) <|
  cal (fn_X2_narrow T R a0 M) fun _ M_3 =>
  some ((), M_3)
def fs_X2_giveFromOldest_N_54 (T : Ty) (R : Rm) (a0 : Nat) (x1 : Int32) (j15 : Int32 → Int32 → Mm → Option (Unit × Mm)) (x3 : Int32) (x4 : Int32) (M : Mm) : Option (Unit × Mm) :=
  bnd (x4 + (1 : Int32)) fun v_5 =>
  j15 x3 v_5 M
def fs_X2_giveFromOldest_N_15 (T : Ty) (R : Rm) (a0 : Nat) (x1 : Int32) (j15 : Int32 → Int32 → Mm → Option (Unit × Mm)) (j60 : Mm → Option (Unit × Mm)) (x3 : Int32) (x4 : Int32) (M : Mm) : Option (Unit × Mm) :=
  chk (isK T a0 2) <|
  if (gI M a0 3) < x4 then (
    j60 M) else (
    if x3 ≤ 0 then (
      j60 M) else (
      cal (fn_X2_takeOfYear T R a0 x4 x3 M) fun r_9 M_10 =>
      bnd (x3 - r_9) fun v_12 =>
      (fs_X2_giveFromOldest_N_54 T R a0 x1 j15) v_12 x4 M_10))
def fb_X2_giveFromOldest_N_15 (T : Ty) (R : Rm) (a0 : Nat) (x1 : Int32) (j60 : Mm → Option (Unit × Mm)) : Nat → Int32 → Int32 → Mm → Option (Unit × Mm) :=
  lp (fun j15 => fs_X2_giveFromOldest_N_15 T R a0 x1 j15 j60) (fun _ _ _ => none)
def fn_X2_giveFromOldest_N (T : Ty) (R : Rm) (a0 : Nat) (x1 : Int32) (M : Mm) : Option (Unit × Mm) :=
  chk (isK T a0 2) <|
  bnd (if (gI M a0 1) < x1 then (gI M a0 1) else x1) fun v_14 =>
  bnd (gI M a0 2) fun v_15 =>
  (fb_X2_giveFromOldest_N_15 T R a0 x1 (fs_X2_giveFromOldest_N_60 T R a0 x1) FU) v_14 v_15 M
def fs_X2_number_26 (T : Ty) (R : Rm) (a0 : Nat) (j7 : Int32 → Int32 → Mm → Option (Int32 × Mm)) (x1 : Int32) (x2 : Int32) (M : Mm) : Option (Int32 × Mm) :=
  bnd (x2 + (1 : Int32)) fun v_1 =>
  j7 x1 v_1 M
def fs_X2_number_7 (T : Ty) (R : Rm) (a0 : Nat) (j7 : Int32 → Int32 → Mm → Option (Int32 × Mm)) (x1 : Int32) (x2 : Int32) (M : Mm) : Option (Int32 × Mm) :=
  chk (isK T a0 2) <|
  if (gI M a0 3) < x2 then (
    some (x1, M)) else (
    cal (fn_X2_leftOf T R a0 x2 M) fun r_4 M_5 =>
    if r_4 ≤ 0 then (
      (fs_X2_number_26 T R a0 j7) x1 x2 M_5) else (
      bnd (x1 + (1 : Int32)) fun v_8 =>
      (fs_X2_number_26 T R a0 j7) v_8 x2 M_5))
def fb_X2_number_7 (T : Ty) (R : Rm) (a0 : Nat) : Nat → Int32 → Int32 → Mm → Option (Int32 × Mm) :=
  lp (fun j7 => fs_X2_number_7 T R a0 j7) (fun _ _ _ => none)
def fn_X2_number (T : Ty) (R : Rm) (a0 : Nat) (M : Mm) : Option (Int32 × Mm) :=
  chk (isK T a0 2) <|
  bnd (gI M a0 2) fun v_10 =>
  (fb_X2_number_7 T R a0 FU) (0 : Int32) v_10 M
def fs_X2_yearOfLayer_33 (T : Ty) (R : Rm) (a0 : Nat) (x1 : Int32) (j7 : Int32 → Int32 → Mm → Option (Int32 × Mm)) (x2 : Int32) (x3 : Int32) (M : Mm) : Option (Int32 × Mm) :=
  bnd (x3 + (1 : Int32)) fun v_1 =>
  j7 x2 v_1 M
def fs_X2_yearOfLayer_7 (T : Ty) (R : Rm) (a0 : Nat) (x1 : Int32) (j7 : Int32 → Int32 → Mm → Option (Int32 × Mm)) (x2 : Int32) (x3 : Int32) (M : Mm) : Option (Int32 × Mm) :=
  chk (isK T a0 2) <|
  if (gI M a0 3) < x3 then (
    some ((-1 : Int32), M)) else (
    cal (fn_X2_leftOf T R a0 x3 M) fun r_4 M_5 =>
    if r_4 ≤ 0 then (
      (fs_X2_yearOfLayer_33 T R a0 x1 j7) x2 x3 M_5) else (
      if x2 = x1 then (
        some (x3, M_5)) else (
        bnd (x2 + (1 : Int32)) fun v_9 =>
        (fs_X2_yearOfLayer_33 T R a0 x1 j7) v_9 x3 M_5)))
def fb_X2_yearOfLayer_7 (T : Ty) (R : Rm) (a0 : Nat) (x1 : Int32) : Nat → Int32 → Int32 → Mm → Option (Int32 × Mm) :=
  lp (fun j7 => fs_X2_yearOfLayer_7 T R a0 x1 j7) (fun _ _ _ => none)
def fn_X2_yearOfLayer (T : Ty) (R : Rm) (a0 : Nat) (x1 : Int32) (M : Mm) : Option (Int32 × Mm) :=
  chk (isK T a0 2) <|
  bnd (gI M a0 2) fun v_11 =>
  (fb_X2_yearOfLayer_7 T R a0 x1 FU) (0 : Int32) v_11 M
def fn_X3_begin (T : Ty) (R : Rm) (a0 : Nat) (x1 : Int32) (x2 : Int32) (x3 : Int32) (M : Mm) : Option (Unit × Mm) :=
  chk (isK T a0 3) <|
  bnd (sI M a0 0 x1) fun M_2 =>
  bnd (sI M_2 a0 1 x2) fun M_3 =>
  bnd (sI M_3 a0 2 x3) fun M_4 =>
  bnd (sI M_4 a0 3 (0 : Int32)) fun M_5 =>
  bnd (sI M_5 a0 4 (0 : Int32)) fun M_6 =>
  bnd (sI M_6 a0 5 (0 : Int32)) fun M_7 =>
  some ((), M_7)
def fn_X3_copyFrom (T : Ty) (R : Rm) (a0 : Nat) (a1 : Nat) (M : Mm) : Option (Unit × Mm) :=
  chk (isK T a1 3) <|
  chk (isK T a0 3) <|
  bnd (sI M a0 0 (gI M a1 0)) fun M_3 =>
  bnd (sI M_3 a0 1 (gI M_3 a1 1)) fun M_4 =>
  bnd (sI M_4 a0 2 (gI M_4 a1 2)) fun M_5 =>
  bnd (sI M_5 a0 3 (gI M_5 a1 3)) fun M_6 =>
  bnd (sI M_6 a0 4 (gI M_6 a1 4)) fun M_7 =>
  bnd (sI M_7 a0 5 (gI M_7 a1 5)) fun M_8 =>
  some ((), M_8)
def fn_X4_append (T : Ty) (R : Rm) (a0 : Nat) (x1 : Int32) (M : Mm) : Option (Unit × Mm) :=
  chk (isK T a0 4) <|
  if (60 : Int32) ≤ (gI M a0 1) then (
    some ((), M)) else (
    rfm (R a0 0) fun b_3 =>
    chk (isK T b_3 8) <|
    chk (inb (gI M a0 1) (lnT T b_3)) <|
    bnd (sI M b_3 (gI M a0 1).toNatClampNeg (vp_nar .char x1)) fun M_6 =>
    bnd (sI M_6 a0 1 ((gI M_6 a0 1) + (1 : Int32))) fun M_7 =>
    some ((), M_7))
def fn_X4_isSignAt (T : Ty) (R : Rm) (a0 : Nat) (x1 : Int32) (x2 : Int32) (M : Mm) : Option (Int32 × Mm) :=
  if x1 < 0 then (
    some ((0 : Int32), M)) else (
    chk (isK T a0 4) <|
    if (gI M a0 1) ≤ x1 then (
      some ((0 : Int32), M)) else (
      rfm (R a0 0) fun b_4 =>
      chk (isK T b_4 8) <|
      chk (inb x1 (lnT T b_4)) <|
      if (gI M b_4 x1.toNatClampNeg) = x2 then (
        some ((1 : Int32), M)) else (
        some ((0 : Int32), M))))
def fn_X4_isDigitAt (T : Ty) (R : Rm) (a0 : Nat) (x1 : Int32) (M : Mm) : Option (Int32 × Mm) :=
  if x1 < 0 then (
    some ((0 : Int32), M)) else (
    chk (isK T a0 4) <|
    if (gI M a0 1) ≤ x1 then (
      some ((0 : Int32), M)) else (
      rfm (R a0 0) fun b_4 =>
      chk (isK T b_4 8) <|
      chk (inb x1 (lnT T b_4)) <|
      if (gI M b_4 x1.toNatClampNeg) < (48 : Int32) then (
        some ((0 : Int32), M)) else (
        if (57 : Int32) < (gI M b_4 x1.toNatClampNeg) then (
          some ((0 : Int32), M)) else (
          some ((1 : Int32), M)))))
def fs_X4_endOfNumber_24 (T : Ty) (R : Rm) (a0 : Nat) (x1 : Int32) (x2 : Int32) (M : Mm) : Option (Int32 × Mm) :=
  if (x2 - x1) < (1 : Int32) then (
    some ((-1 : Int32), M)) else (
    if (4 : Int32) < (x2 - x1) then (
      some ((-1 : Int32), M)) else (
      some (x2, M)))
def fs_X4_endOfNumber_2 (T : Ty) (R : Rm) (a0 : Nat) (x1 : Int32) (j2 : Int32 → Mm → Option (Int32 × Mm)) (j24 : Int32 → Mm → Option (Int32 × Mm)) (x2 : Int32) (M : Mm) : Option (Int32 × Mm) :=
  chk (isK T a0 4) <|
  if (gI M a0 1) ≤ x2 then (
    j24 x2 M) else (
    cal (fn_X4_isDigitAt T R a0 x2 M) fun r_5 M_6 =>
    if r_5 = 0 then (
      j24 x2 M_6) else (
      bnd (x2 + (1 : Int32)) fun v_9 =>
      j2 v_9 M_6))
def fb_X4_endOfNumber_2 (T : Ty) (R : Rm) (a0 : Nat) (x1 : Int32) (j24 : Int32 → Mm → Option (Int32 × Mm)) : Nat → Int32 → Mm → Option (Int32 × Mm) :=
  lp (fun j2 => fs_X4_endOfNumber_2 T R a0 x1 j2 j24) (fun _ _ => none)
def fn_X4_endOfNumber (T : Ty) (R : Rm) (a0 : Nat) (x1 : Int32) (M : Mm) : Option (Int32 × Mm) :=
  (fb_X4_endOfNumber_2 T R a0 x1 (fs_X4_endOfNumber_24 T R a0 x1) FU) x1 M
def fs_X4_numberAt_11 (T : Ty) (R : Rm) (a0 : Nat) (x1 : Int32) (j11 : Int32 → Int32 → Int32 → Mm → Option (Int32 × Mm)) (x2 : Int32) (x3 : Int32) (x4 : Int32) (M : Mm) : Option (Int32 × Mm) :=
  if x4 < 0 then (
    some (x3, M)) else (
    if x2 ≤ x4 then (
      some (x3, M)) else (
      chk (isK T a0 4) <|
      rfm (R a0 0) fun b_4 =>
      chk (isK T b_4 8) <|
      chk (inb x4 (lnT T b_4)) <|
      bnd ((x3 * (10 : Int32)) + ((gI M b_4 x4.toNatClampNeg) - (48 : Int32))) fun v_7 =>
      bnd (x4 + (1 : Int32)) fun v_8 =>
      j11 x2 v_7 v_8 M))
def fb_X4_numberAt_11 (T : Ty) (R : Rm) (a0 : Nat) (x1 : Int32) : Nat → Int32 → Int32 → Int32 → Mm → Option (Int32 × Mm) :=
  lp (fun j11 => fs_X4_numberAt_11 T R a0 x1 j11) (fun _ _ _ _ => none)
def fn_X4_numberAt (T : Ty) (R : Rm) (a0 : Nat) (x1 : Int32) (M : Mm) : Option (Int32 × Mm) :=
  chk (isK T a0 4) <|
  cal (fn_X4_endOfNumber T R a0 x1 M) fun r_10 M_11 =>
  (fb_X4_numberAt_11 T R a0 x1 FU) r_10 (0 : Int32) x1 M_11
def fn_X4_endOfYear (T : Ty) (R : Rm) (a0 : Nat) (x1 : Int32) (M : Mm) : Option (Int32 × Mm) :=
  chk (isK T a0 4) <|
  cal (fn_X4_endOfNumber T R a0 x1 M) fun r_2 M_3 =>
  cal (fn_X4_isSignAt T R a0 r_2 (44 : Int32) M_3) fun r_5 M_6 =>
  if r_5 = 0 then (
    some ((-1 : Int32), M_6)) else (
    cal (fn_X4_endOfNumber T R a0 (r_2 + (1 : Int32)) M_6) fun r_9 M_10 =>
    cal (fn_X4_isSignAt T R a0 r_9 (59 : Int32) M_10) fun r_12 M_13 =>
    if r_12 = 0 then (
      some ((-1 : Int32), M_13)) else (
      some ((r_9 + (1 : Int32)), M_13)))
def fn_X4_snowOfYear (T : Ty) (R : Rm) (a0 : Nat) (x1 : Int32) (M : Mm) : Option (Int32 × Mm) :=
  chk (isK T a0 4) <|
  cal (fn_X4_numberAt T R a0 x1 M) fun r_2 M_3 =>
  some (r_2, M_3)
def fn_X4_meltOfYear (T : Ty) (R : Rm) (a0 : Nat) (x1 : Int32) (M : Mm) : Option (Int32 × Mm) :=
  chk (isK T a0 4) <|
  cal (fn_X4_endOfNumber T R a0 x1 M) fun r_2 M_3 =>
  cal (fn_X4_numberAt T R a0 (r_2 + (1 : Int32)) M_3) fun r_5 M_6 =>
  some (r_5, M_6)
def fs_X4_startOfYear_4 (T : Ty) (R : Rm) (a0 : Nat) (x1 : Int32) (j4 : Int32 → Int32 → Mm → Option (Int32 × Mm)) (x2 : Int32) (x3 : Int32) (M : Mm) : Option (Int32 × Mm) :=
  if x1 ≤ x3 then (
    some (x2, M)) else (
    if x2 < 0 then (
      some (x2, M)) else (
      chk (isK T a0 4) <|
      cal (fn_X4_endOfYear T R a0 x2 M) fun r_4 M_5 =>
      bnd (x3 + (1 : Int32)) fun v_7 =>
      j4 r_4 v_7 M_5))
def fb_X4_startOfYear_4 (T : Ty) (R : Rm) (a0 : Nat) (x1 : Int32) : Nat → Int32 → Int32 → Mm → Option (Int32 × Mm) :=
  lp (fun j4 => fs_X4_startOfYear_4 T R a0 x1 j4) (fun _ _ _ => none)
def fn_X4_startOfYear (T : Ty) (R : Rm) (a0 : Nat) (x1 : Int32) (M : Mm) : Option (Int32 × Mm) :=
  (fb_X4_startOfYear_4 T R a0 x1 FU) (0 : Int32) (0 : Int32) M
def fn_J9_floorDiv_7cf53 (T : Ty) (R : Rm) (x0 : Int32) (x1 : Int32) (M : Mm) : Option (Int32 × Mm) :=
  chk (decide (¬ x1 = 0)) <|
  bnd (x0 / x1) fun v_2 =>
  if 0 ≤ (x0 ^^^ x1) then (
    some (v_2, M)) else (
    if (v_2 * x1) = x0 then (
      some (v_2, M)) else (
      some ((v_2 - (1 : Int32)), M)))
def fs_X5_copyFrom_48 (T : Ty) (R : Rm) (a0 : Nat) (a1 : Nat) (j48 : Int32 → Mm → Option (Unit × Mm)) (x2 : Int32) (M : Mm) : Option (Unit × Mm) :=
  chk (isK T a1 5) <|
  if (gI M a1 5) ≤ x2 then (
    chk (isK T a0 5) <|
    rfm (R a0 3) fun b_4 =>
    rfm (R a1 3) fun b_5 =>
    chk (isK T b_4 1) <|
    cal (fn_X1_copyFrom T R b_4 b_5 M) fun _ M_8 =>
    bnd (sI M_8 a0 4 (gI M_8 a1 4)) fun M_10 =>
    bnd (sI M_10 a0 5 (gI M_10 a1 5)) fun M_11 =>
    bnd (sI M_11 a0 6 (gI M_11 a1 6)) fun M_12 =>
    bnd (sJ M_12 a0 7 (gJ M_12 a1 7)) fun M_13 =>
    bnd (sJ M_13 a0 8 (gJ M_13 a1 8)) fun M_14 =>
    bnd (sJ M_14 a0 9 (gJ M_14 a1 9)) fun M_15 =>
    bnd (sJ M_15 a0 10 (gJ M_15 a1 10)) fun M_16 =>
    some ((), M_16)) else (
    chk (isK T a0 5) <|
    rfm (R a0 2) fun b_18 =>
    chk (isK T b_18 12) <|
    chk (inb x2 (lnT T b_18)) <|
    rfm (R b_18 x2.toNatClampNeg) fun b_21 =>
    rfm (R a1 2) fun b_22 =>
    chk (isK T b_22 12) <|
    chk (inb x2 (lnT T b_22)) <|
    rfm (R b_22 x2.toNatClampNeg) fun b_25 =>
    chk (isK T b_21 3) <|
    cal (fn_X3_copyFrom T R b_21 b_25 M) fun _ M_28 =>
    bnd (x2 + (1 : Int32)) fun v_30 =>
    j48 v_30 M_28)
def fb_X5_copyFrom_48 (T : Ty) (R : Rm) (a0 : Nat) (a1 : Nat) : Nat → Int32 → Mm → Option (Unit × Mm) :=
  lp (fun j48 => fs_X5_copyFrom_48 T R a0 a1 j48) (fun _ _ => none)
def fs_X5_copyFrom_17 (T : Ty) (R : Rm) (a0 : Nat) (a1 : Nat) (j17 : Int32 → Mm → Option (Unit × Mm)) (j48 : Int32 → Mm → Option (Unit × Mm)) (x2 : Int32) (M : Mm) : Option (Unit × Mm) :=
  chk (isK T a1 5) <|
  if (gI M a1 4) ≤ x2 then (
    j48 (0 : Int32) M) else (
    chk (isK T a0 5) <|
    rfm (R a0 1) fun b_34 =>
    chk (isK T b_34 11) <|
    chk (inb x2 (lnT T b_34)) <|
    rfm (R b_34 x2.toNatClampNeg) fun b_37 =>
    rfm (R a1 1) fun b_38 =>
    chk (isK T b_38 11) <|
    chk (inb x2 (lnT T b_38)) <|
    rfm (R b_38 x2.toNatClampNeg) fun b_41 =>
    chk (isK T b_37 0) <|
    cal (fn_X0_copyFrom T R b_37 b_41 M) fun _ M_44 =>
    bnd (x2 + (1 : Int32)) fun v_46 =>
    j17 v_46 M_44)
def fb_X5_copyFrom_17 (T : Ty) (R : Rm) (a0 : Nat) (a1 : Nat) (j48 : Int32 → Mm → Option (Unit × Mm)) : Nat → Int32 → Mm → Option (Unit × Mm) :=
  lp (fun j17 => fs_X5_copyFrom_17 T R a0 a1 j17 j48) (fun _ _ => none)
def fn_X5_copyFrom (T : Ty) (R : Rm) (a0 : Nat) (a1 : Nat) (M : Mm) : Option (Unit × Mm) :=
  chk (isK T a1 5) <|
  rfm (R a1 0) fun b_48 =>
  chk (isK T a0 5) <|
  rfm (R a0 0) fun b_50 =>
  chk (isK T b_48 9) <|
  chk (isK T b_50 9) <|
  chk (cpok (0 : Int32) (0 : Int32) (7 : Int32) (lnT T b_48) (lnT T b_50)) <|
  bnd (cpI M b_48 b_50 (0 : Int32).toNatClampNeg (0 : Int32).toNatClampNeg (7 : Int32).toNatClampNeg) fun M_54 =>
  (fb_X5_copyFrom_17 T R a0 a1 (fb_X5_copyFrom_48 T R a0 a1 FU) FU) (0 : Int32) M_54
def fn_X5_hasBand (T : Ty) (R : Rm) (a0 : Nat) (x1 : Int32) (M : Mm) : Option (Int32 × Mm) :=
  if x1 < 0 then (
    some ((0 : Int32), M)) else (
    chk (isK T a0 5) <|
    if (gI M a0 4) ≤ x1 then (
      some ((0 : Int32), M)) else (
      some ((1 : Int32), M)))
def fn_X5_hasStake (T : Ty) (R : Rm) (a0 : Nat) (x1 : Int32) (M : Mm) : Option (Int32 × Mm) :=
  if x1 < 0 then (
    some ((0 : Int32), M)) else (
    chk (isK T a0 5) <|
    if (gI M a0 5) ≤ x1 then (
      some ((0 : Int32), M)) else (
      some ((1 : Int32), M)))
def fn_X5_isBelowAll (T : Ty) (R : Rm) (a0 : Nat) (x1 : Int32) (M : Mm) : Option (Int32 × Mm) :=
  chk (isK T a0 5) <|
  if (gI M a0 4) = 0 then (
    some ((1 : Int32), M)) else (
    rfm (R a0 1) fun b_3 =>
    chk (isK T b_3 11) <|
    chk (inb ((gI M a0 4) - (1 : Int32)) (lnT T b_3)) <|
    rfm (R b_3 ((gI M a0 4) - (1 : Int32)).toNatClampNeg) fun b_6 =>
    chk (isK T b_6 0) <|
    if (gI M b_6 1) ≤ x1 then (
      some ((0 : Int32), M)) else (
      some ((1 : Int32), M)))
def fn_X5_addBand (T : Ty) (R : Rm) (a0 : Nat) (x1 : Int32) (x2 : Int32) (x3 : Int32) (x4 : Int32) (M : Mm) : Option (Int32 × Mm) :=
  chk (isK T a0 5) <|
  bnd (gI M a0 4) fun v_2 =>
  rfm (R a0 1) fun b_3 =>
  chk (isK T b_3 11) <|
  chk (inb v_2 (lnT T b_3)) <|
  rfm (R b_3 v_2.toNatClampNeg) fun b_6 =>
  chk (isK T b_6 0) <|
  cal (fn_X0_begin T R b_6 x1 x2 x3 M) fun _ M_9 =>
  rfm (R b_6 0) fun b_11 =>
  chk (isK T b_11 2) <|
  cal (fn_X2_add T R b_11 (gI M_9 a0 6) x4 M_9) fun _ M_14 =>
  bnd (sI M_14 a0 4 ((gI M_14 a0 4) + (1 : Int32))) fun M_16 =>
  bnd (sJ M_16 a0 7 ((gJ M_16 a0 7) + (x4.toInt64))) fun M_17 =>
  some (v_2, M_17)
def fs_X5_isStakeAt_50 (T : Ty) (R : Rm) (a0 : Nat) (x1 : Int32) (x2 : Int32) (j2 : Int32 → Mm → Option (Int32 × Mm)) (x3 : Int32) (M : Mm) : Option (Int32 × Mm) :=
  bnd (x3 + (1 : Int32)) fun v_1 =>
  j2 v_1 M
def fs_X5_isStakeAt_2 (T : Ty) (R : Rm) (a0 : Nat) (x1 : Int32) (x2 : Int32) (j2 : Int32 → Mm → Option (Int32 × Mm)) (x3 : Int32) (M : Mm) : Option (Int32 × Mm) :=
  chk (isK T a0 5) <|
  if (gI M a0 5) ≤ x3 then (
    some ((0 : Int32), M)) else (
    rfm (R a0 2) fun b_4 =>
    chk (isK T b_4 12) <|
    chk (inb x3 (lnT T b_4)) <|
    rfm (R b_4 x3.toNatClampNeg) fun b_7 =>
    chk (isK T b_7 3) <|
    if (gI M b_7 4) = 0 then (
      if (gI M b_7 0) = x1 then (
        if (gI M b_7 1) = x2 then (
          some ((1 : Int32), M)) else (
          (fs_X5_isStakeAt_50 T R a0 x1 x2 j2) x3 M)) else (
        (fs_X5_isStakeAt_50 T R a0 x1 x2 j2) x3 M)) else (
      (fs_X5_isStakeAt_50 T R a0 x1 x2 j2) x3 M))
def fb_X5_isStakeAt_2 (T : Ty) (R : Rm) (a0 : Nat) (x1 : Int32) (x2 : Int32) : Nat → Int32 → Mm → Option (Int32 × Mm) :=
  lp (fun j2 => fs_X5_isStakeAt_2 T R a0 x1 x2 j2) (fun _ _ => none)
def fn_X5_isStakeAt (T : Ty) (R : Rm) (a0 : Nat) (x1 : Int32) (x2 : Int32) (M : Mm) : Option (Int32 × Mm) :=
  (fb_X5_isStakeAt_2 T R a0 x1 x2 FU) (0 : Int32) M
def fn_X5_addStake (T : Ty) (R : Rm) (a0 : Nat) (x1 : Int32) (x2 : Int32) (x3 : Int32) (M : Mm) : Option (Int32 × Mm) :=
  chk (isK T a0 5) <|
  bnd (gI M a0 5) fun v_2 =>
  rfm (R a0 2) fun b_3 =>
  chk (isK T b_3 12) <|
  chk (inb v_2 (lnT T b_3)) <|
  rfm (R b_3 v_2.toNatClampNeg) fun b_6 =>
  chk (isK T b_6 3) <|
  cal (fn_X3_begin T R b_6 x1 x2 x3 M) fun _ M_9 =>
  bnd (sI M_9 a0 5 ((gI M_9 a0 5) + (1 : Int32))) fun M_11 =>
  some (v_2, M_11)
def fs_X5_removeStake_9 (T : Ty) (a0 : Nat) (x1 : Int32) (j9 : Nat → Int32 → Mm → Rm → Option (Int32 × Mm × Rm)) (a2 : Nat) (x3 : Int32) (M : Mm) (R : Rm) : Option (Int32 × Mm × Rm) :=
  chk (isK T a0 5) <|
  if (gI M a0 5) ≤ (x3 + (1 : Int32)) then (
    bnd (sI M a0 5 ((gI M a0 5) - (1 : Int32))) fun M_3 =>
    rfm (R a0 2) fun b_4 =>
    chk (isK T b_4 12) <|
    chk (inb (gI M_3 a0 5) (lnT T b_4)) <|
    chk (isK T a2 3) <|
    bnd (up2 R b_4 (gI M_3 a0 5).toNatClampNeg (some a2)) fun R_8 =>
    some ((gI M_3 a2 3), M_3, R_8)) else (
    rfm (R a0 2) fun b_9 =>
    chk (isK T b_9 12) <|
    chk (inb (x3 + (1 : Int32)) (lnT T b_9)) <|
    rfm (R b_9 (x3 + (1 : Int32)).toNatClampNeg) fun b_12 =>
    chk (inb x3 (lnT T b_9)) <|
    chk (isK T b_12 3) <|
    bnd (up2 R b_9 x3.toNatClampNeg (some b_12)) fun R_15 =>
    bnd (x3 + (1 : Int32)) fun v_16 =>
    j9 a2 v_16 M R_15)
def fb_X5_removeStake_9 (T : Ty) (a0 : Nat) (x1 : Int32) : Nat → Nat → Int32 → Mm → Rm → Option (Int32 × Mm × Rm) :=
  lp (fun j9 => fs_X5_removeStake_9 T a0 x1 j9) (fun _ _ _ _ => none)
def fn_X5_removeStake (T : Ty) (a0 : Nat) (x1 : Int32) (M : Mm) (R : Rm) : Option (Int32 × Mm × Rm) :=
  chk (isK T a0 5) <|
  rfm (R a0 2) fun b_18 =>
  chk (isK T b_18 12) <|
  chk (inb x1 (lnT T b_18)) <|
  rfm (R b_18 x1.toNatClampNeg) fun b_21 =>
  (fb_X5_removeStake_9 T a0 x1 FU) b_21 x1 M R
def fs_X5_standingStakes_27 (T : Ty) (R : Rm) (a0 : Nat) (j4 : Int32 → Int32 → Mm → Option (Int32 × Mm)) (x1 : Int32) (x2 : Int32) (M : Mm) : Option (Int32 × Mm) :=
  bnd (x2 + (1 : Int32)) fun v_1 =>
  j4 x1 v_1 M
def fs_X5_standingStakes_4 (T : Ty) (R : Rm) (a0 : Nat) (j4 : Int32 → Int32 → Mm → Option (Int32 × Mm)) (x1 : Int32) (x2 : Int32) (M : Mm) : Option (Int32 × Mm) :=
  chk (isK T a0 5) <|
  if (gI M a0 5) ≤ x2 then (
    some (x1, M)) else (
    rfm (R a0 2) fun b_4 =>
    chk (isK T b_4 12) <|
    chk (inb x2 (lnT T b_4)) <|
    rfm (R b_4 x2.toNatClampNeg) fun b_7 =>
    chk (isK T b_7 3) <|
    if (gI M b_7 4) = 0 then (
      bnd (x1 + (1 : Int32)) fun v_10 =>
      (fs_X5_standingStakes_27 T R a0 j4) v_10 x2 M) else (
      (fs_X5_standingStakes_27 T R a0 j4) x1 x2 M))
def fb_X5_standingStakes_4 (T : Ty) (R : Rm) (a0 : Nat) : Nat → Int32 → Int32 → Mm → Option (Int32 × Mm) :=
  lp (fun j4 => fs_X5_standingStakes_4 T R a0 j4) (fun _ _ _ => none)
def fn_X5_standingStakes (T : Ty) (R : Rm) (a0 : Nat) (M : Mm) : Option (Int32 × Mm) :=
  (fb_X5_standingStakes_4 T R a0 FU) (0 : Int32) (0 : Int32) M
def fn_X5_snowAt (T : Ty) (R : Rm) (a0 : Nat) (x1 : Int32) (M : Mm) : Option (Int32 × Mm) :=
  chk (isK T a0 5) <|
  rfm (R a0 0) fun b_2 =>
  chk (isK T b_2 9) <|
  chk (inb (1 : Int32) (lnT T b_2)) <|
  chk (inb (4 : Int32) (lnT T b_2)) <|
  cal (fn_J9_floorDiv_7cf53 T R ((gI M b_2 (1 : Int32).toNatClampNeg) * (x1 - (gI M b_2 (4 : Int32).toNatClampNeg))) (100 : Int32) M) fun r_6 M_7 =>
  chk (inb (0 : Int32) (lnT T b_2)) <|
  bnd (if (0 : Int32) < ((gI M_7 b_2 (0 : Int32).toNatClampNeg) + r_6) then ((gI M_7 b_2 (0 : Int32).toNatClampNeg) + r_6) else (0 : Int32)) fun v_10 =>
  some (v_10, M_7)
def fn_X5_meltAt (T : Ty) (R : Rm) (a0 : Nat) (x1 : Int32) (x2 : Int32) (M : Mm) : Option (Int32 × Mm) :=
  chk (isK T a0 5) <|
  rfm (R a0 0) fun b_2 =>
  chk (isK T b_2 9) <|
  chk (inb (3 : Int32) (lnT T b_2)) <|
  chk (inb (4 : Int32) (lnT T b_2)) <|
  cal (fn_J9_floorDiv_7cf53 T R ((gI M b_2 (3 : Int32).toNatClampNeg) * (x1 - (gI M b_2 (4 : Int32).toNatClampNeg))) (100 : Int32) M) fun r_6 M_7 =>
  bnd (if (0 : Int32) < (x2 - r_6) then (x2 - r_6) else (0 : Int32)) fun v_9 =>
  some (v_9, M_7)
def fs_X5_snowOutweighsMelt_4 (T : Ty) (R : Rm) (a0 : Nat) (x1 : Int32) (j4 : Int32 → Int32 → Mm → Option (Int32 × Mm)) (x2 : Int32) (x3 : Int32) (M : Mm) : Option (Int32 × Mm) :=
  chk (isK T a0 5) <|
  if (gI M a0 4) ≤ x3 then (
    if x2 < 0 then (
      some ((0 : Int32), M)) else (
      some ((1 : Int32), M))) else (
    rfm (R a0 1) fun b_4 =>
    chk (isK T b_4 11) <|
    chk (inb x3 (lnT T b_4)) <|
    rfm (R b_4 x3.toNatClampNeg) fun b_7 =>
    chk (isK T b_7 0) <|
    cal (fn_X5_snowAt T R a0 (gI M b_7 1) M) fun r_9 M_10 =>
    cal (fn_X5_meltAt T R a0 (gI M_10 b_7 1) x1 M_10) fun r_12 M_13 =>
    bnd (x2 + (r_9 - r_12)) fun v_15 =>
    bnd (x3 + (1 : Int32)) fun v_16 =>
    j4 v_15 v_16 M_13)
def fb_X5_snowOutweighsMelt_4 (T : Ty) (R : Rm) (a0 : Nat) (x1 : Int32) : Nat → Int32 → Int32 → Mm → Option (Int32 × Mm) :=
  lp (fun j4 => fs_X5_snowOutweighsMelt_4 T R a0 x1 j4) (fun _ _ _ => none)
def fn_X5_snowOutweighsMelt (T : Ty) (R : Rm) (a0 : Nat) (x1 : Int32) (M : Mm) : Option (Int32 × Mm) :=
  (fb_X5_snowOutweighsMelt_4 T R a0 x1 FU) (0 : Int32) (0 : Int32) M
def fs_X5_leftOf_4 (T : Ty) (R : Rm) (a0 : Nat) (x1 : Int32) (j4 : Int32 → Int32 → Mm → Option (Int32 × Mm)) (x2 : Int32) (x3 : Int32) (M : Mm) : Option (Int32 × Mm) :=
  chk (isK T a0 5) <|
  if (gI M a0 4) ≤ x3 then (
    some (x2, M)) else (
    rfm (R a0 1) fun b_3 =>
    chk (isK T b_3 11) <|
    chk (inb x3 (lnT T b_3)) <|
    rfm (R b_3 x3.toNatClampNeg) fun b_6 =>
    chk (isK T b_6 0) <|
    rfm (R b_6 0) fun b_8 =>
    chk (isK T b_8 2) <|
    cal (fn_X2_leftOf T R b_8 x1 M) fun r_10 M_11 =>
    bnd (x2 + r_10) fun v_13 =>
    bnd (x3 + (1 : Int32)) fun v_14 =>
    j4 v_13 v_14 M_11)
def fb_X5_leftOf_4 (T : Ty) (R : Rm) (a0 : Nat) (x1 : Int32) : Nat → Int32 → Int32 → Mm → Option (Int32 × Mm) :=
  lp (fun j4 => fs_X5_leftOf_4 T R a0 x1 j4) (fun _ _ _ => none)
def fn_X5_leftOf (T : Ty) (R : Rm) (a0 : Nat) (x1 : Int32) (M : Mm) : Option (Int32 × Mm) :=
  (fb_X5_leftOf_4 T R a0 x1 FU) (0 : Int32) (0 : Int32) M
def fs_X5_bandIce_4 (T : Ty) (R : Rm) (a0 : Nat) (j4 : Int32 → Int32 → Mm → Option (Int32 × Mm)) (x1 : Int32) (x2 : Int32) (M : Mm) : Option (Int32 × Mm) :=
  chk (isK T a0 5) <|
  if (gI M a0 4) ≤ x2 then (
    some (x1, M)) else (
    rfm (R a0 1) fun b_3 =>
    chk (isK T b_3 11) <|
    chk (inb x2 (lnT T b_3)) <|
    rfm (R b_3 x2.toNatClampNeg) fun b_6 =>
    chk (isK T b_6 0) <|
    rfm (R b_6 0) fun b_8 =>
    chk (isK T b_8 2) <|
    bnd (x1 + (gI M b_8 1)) fun v_10 =>
    bnd (x2 + (1 : Int32)) fun v_11 =>
    j4 v_10 v_11 M)
def fb_X5_bandIce_4 (T : Ty) (R : Rm) (a0 : Nat) : Nat → Int32 → Int32 → Mm → Option (Int32 × Mm) :=
  lp (fun j4 => fs_X5_bandIce_4 T R a0 j4) (fun _ _ _ => none)
def fn_X5_bandIce (T : Ty) (R : Rm) (a0 : Nat) (M : Mm) : Option (Int32 × Mm) :=
  (fb_X5_bandIce_4 T R a0 FU) (0 : Int32) (0 : Int32) M
def fn_X5_allIce (T : Ty) (R : Rm) (a0 : Nat) (M : Mm) : Option (Int64 × Mm) :=
  chk (isK T a0 5) <|
  cal (fn_X5_bandIce T R a0 M) fun r_2 M_3 =>
  rfm (R a0 3) fun b_5 =>
  chk (isK T b_5 1) <|
  some (((r_2.toInt64) + ((gI M_3 b_5 0).toInt64)), M_3)
def fs_X5_allIceByYears_11 (T : Ty) (R : Rm) (a0 : Nat) (j11 : Int64 → Int32 → Mm → Option (Int64 × Mm)) (l1 : Int64) (x3 : Int32) (M : Mm) : Option (Int64 × Mm) :=
  chk (isK T a0 5) <|
  if (gI M a0 6) < x3 then (
    some (l1, M)) else (
    cal (fn_X5_leftOf T R a0 x3 M) fun r_3 M_4 =>
    bnd (l1 + (r_3.toInt64)) fun v_6 =>
    bnd (x3 + (1 : Int32)) fun v_7 =>
    j11 v_6 v_7 M_4)
def fb_X5_allIceByYears_11 (T : Ty) (R : Rm) (a0 : Nat) : Nat → Int64 → Int32 → Mm → Option (Int64 × Mm) :=
  lp (fun j11 => fs_X5_allIceByYears_11 T R a0 j11) (fun _ _ _ => none)
def fn_X5_allIceByYears (T : Ty) (R : Rm) (a0 : Nat) (M : Mm) : Option (Int64 × Mm) :=
  chk (isK T a0 5) <|
  rfm (R a0 3) fun b_9 =>
  chk (isK T b_9 1) <|
  bnd ((gI M b_9 0).toInt64) fun v_11 =>
  (fb_X5_allIceByYears_11 T R a0 FU) v_11 (0 : Int32) M
def fs_X5_layersOfAllBands_4 (T : Ty) (R : Rm) (a0 : Nat) (j4 : Int32 → Int32 → Mm → Option (Int32 × Mm)) (x1 : Int32) (x2 : Int32) (M : Mm) : Option (Int32 × Mm) :=
  chk (isK T a0 5) <|
  if (gI M a0 4) ≤ x2 then (
    some (x1, M)) else (
    rfm (R a0 1) fun b_3 =>
    chk (isK T b_3 11) <|
    chk (inb x2 (lnT T b_3)) <|
    rfm (R b_3 x2.toNatClampNeg) fun b_6 =>
    chk (isK T b_6 0) <|
    rfm (R b_6 0) fun b_8 =>
    chk (isK T b_8 2) <|
    cal (fn_X2_number T R b_8 M) fun r_10 M_11 =>
    bnd (x1 + r_10) fun v_13 =>
    bnd (x2 + (1 : Int32)) fun v_14 =>
    j4 v_13 v_14 M_11)
def fb_X5_layersOfAllBands_4 (T : Ty) (R : Rm) (a0 : Nat) : Nat → Int32 → Int32 → Mm → Option (Int32 × Mm) :=
  lp (fun j4 => fs_X5_layersOfAllBands_4 T R a0 j4) (fun _ _ _ => none)
def fn_X5_layersOfAllBands (T : Ty) (R : Rm) (a0 : Nat) (M : Mm) : Option (Int32 × Mm) :=
  (fb_X5_layersOfAllBands_4 T R a0 FU) (0 : Int32) (0 : Int32) M
def fs_X5_differentYears_23 (T : Ty) (R : Rm) (a0 : Nat) (j4 : Int32 → Int32 → Mm → Option (Int32 × Mm)) (x1 : Int32) (x2 : Int32) (M : Mm) : Option (Int32 × Mm) :=
  bnd (x2 + (1 : Int32)) fun v_1 =>
  j4 x1 v_1 M
def fs_X5_differentYears_4 (T : Ty) (R : Rm) (a0 : Nat) (j4 : Int32 → Int32 → Mm → Option (Int32 × Mm)) (x1 : Int32) (x2 : Int32) (M : Mm) : Option (Int32 × Mm) :=
  chk (isK T a0 5) <|
  if (gI M a0 6) < x2 then (
    some (x1, M)) else (
    cal (fn_X5_leftOf T R a0 x2 M) fun r_4 M_5 =>
    if r_4 ≤ 0 then (
      (fs_X5_differentYears_23 T R a0 j4) x1 x2 M_5) else (
      bnd (x1 + (1 : Int32)) fun v_8 =>
      (fs_X5_differentYears_23 T R a0 j4) v_8 x2 M_5))
def fb_X5_differentYears_4 (T : Ty) (R : Rm) (a0 : Nat) : Nat → Int32 → Int32 → Mm → Option (Int32 × Mm) :=
  lp (fun j4 => fs_X5_differentYears_4 T R a0 j4) (fun _ _ _ => none)
def fn_X5_differentYears (T : Ty) (R : Rm) (a0 : Nat) (M : Mm) : Option (Int32 × Mm) :=
  (fb_X5_differentYears_4 T R a0 FU) (0 : Int32) (0 : Int32) M
def fs_X5_oldestYear_6 (T : Ty) (R : Rm) (a0 : Nat) (j6 : Int32 → Int32 → Mm → Option (Int32 × Mm)) (x1 : Int32) (x2 : Int32) (M : Mm) : Option (Int32 × Mm) :=
  chk (isK T a0 5) <|
  if (gI M a0 4) ≤ x2 then (
    some (x1, M)) else (
    rfm (R a0 1) fun b_3 =>
    chk (isK T b_3 11) <|
    chk (inb x2 (lnT T b_3)) <|
    rfm (R b_3 x2.toNatClampNeg) fun b_6 =>
    chk (isK T b_6 0) <|
    rfm (R b_6 0) fun b_8 =>
    chk (isK T b_8 2) <|
    bnd (if (gI M b_8 2) < x1 then (gI M b_8 2) else x1) fun v_10 =>
    bnd (x2 + (1 : Int32)) fun v_11 =>
    j6 v_10 v_11 M)
def fb_X5_oldestYear_6 (T : Ty) (R : Rm) (a0 : Nat) : Nat → Int32 → Int32 → Mm → Option (Int32 × Mm) :=
  lp (fun j6 => fs_X5_oldestYear_6 T R a0 j6) (fun _ _ _ => none)
def fn_X5_oldestYear (T : Ty) (R : Rm) (a0 : Nat) (M : Mm) : Option (Int32 × Mm) :=
  (fb_X5_oldestYear_6 T R a0 FU) (801 : Int32) (0 : Int32) M
def fn_X5_snowAndMelt (T : Ty) (R : Rm) (a0 : Nat) (a1 : Nat) (M : Mm) : Option (Unit × Mm) :=
  chk (isK T a1 0) <|
  chk (isK T a0 5) <|
  cal (fn_X5_snowAt T R a0 (gI M a1 1) M) fun r_3 M_4 =>
  rfm (R a1 0) fun b_6 =>
  chk (isK T b_6 2) <|
  cal (fn_X2_add T R b_6 (gI M_4 a0 6) r_3 M_4) fun _ M_9 =>
  bnd (sJ M_9 a0 8 ((gJ M_9 a0 8) + (r_3.toInt64))) fun M_11 =>
  rfm (R a0 0) fun b_12 =>
  chk (isK T b_12 9) <|
  chk (inb (2 : Int32) (lnT T b_12)) <|
  cal (fn_X5_meltAt T R a0 (gI M_11 a1 1) (gI M_11 b_12 (2 : Int32).toNatClampNeg) M_11) fun r_15 M_16 =>
  cal (fn_X2_takeFromLatest T R b_6 r_15 M_16) fun r_18 M_19 =>
  bnd (sI M_19 a1 4 r_18) fun M_21 =>
  bnd (sJ M_21 a0 9 ((gJ M_21 a0 9) + ((gI M_21 a1 4).toInt64))) fun M_22 =>
  some ((), M_22)
def fs_X5_creepDown_104 (T : Ty) (R : Rm) (a0 : Nat) (j7 : Int32 → Mm → Option (Unit × Mm)) (x1 : Int32) (M : Mm) : Option (Unit × Mm) :=
  bnd (x1 + (-1 : Int32)) fun v_1 =>
  j7 v_1 M
def fs_X5_creepDown_7 (T : Ty) (R : Rm) (a0 : Nat) (j7 : Int32 → Mm → Option (Unit × Mm)) (x1 : Int32) (M : Mm) : Option (Unit × Mm) :=
  if x1 < 0 then (
    some ((), M)) else (
    chk (isK T a0 5) <|
    rfm (R a0 1) fun b_4 =>
    chk (isK T b_4 11) <|
    chk (inb x1 (lnT T b_4)) <|
    rfm (R b_4 x1.toNatClampNeg) fun b_7 =>
    chk (isK T b_7 0) <|
    cal (fn_X0_iceToGive T R b_7 M) fun r_9 M_10 =>
    bnd (sI M_10 b_7 5 r_9) fun M_12 =>
    if (gI M_12 a0 4) ≤ (x1 + (1 : Int32)) then (
      rfm (R b_7 0) fun b_14 =>
      chk (isK T b_14 2) <|
      cal (fn_X2_giveFromOldest_N T R b_14 (gI M_12 b_7 5) M_12) fun _ M_17 =>
      rfm (R a0 3) fun b_19 =>
      chk (isK T b_19 1) <|
      bnd (sI M_17 b_19 0 ((gI M_17 b_19 0) + (gI M_17 b_7 5))) fun M_21 =>
      (fs_X5_creepDown_104 T R a0 j7) x1 M_21) else (
      rfm (R b_7 0) fun b_22 =>
      chk (inb (x1 + (1 : Int32)) (lnT T b_4)) <|
      rfm (R b_4 (x1 + (1 : Int32)).toNatClampNeg) fun b_24 =>
      chk (isK T b_24 0) <|
      rfm (R b_24 0) fun b_26 =>
      chk (isK T b_22 2) <|
      cal (fn_X2_giveFromOldest T R b_22 (gI M_12 b_7 5) b_26 M_12) fun _ M_29 =>
      bnd (sI M_29 b_24 6 (gI M_29 b_7 5)) fun M_31 =>
      (fs_X5_creepDown_104 T R a0 j7) x1 M_31))
def fb_X5_creepDown_7 (T : Ty) (R : Rm) (a0 : Nat) : Nat → Int32 → Mm → Option (Unit × Mm) :=
  lp (fun j7 => fs_X5_creepDown_7 T R a0 j7) (fun _ _ => none)
def fn_X5_creepDown (T : Ty) (R : Rm) (a0 : Nat) (M : Mm) : Option (Unit × Mm) :=
  chk (isK T a0 5) <|
  bnd ((gI M a0 4) - (1 : Int32)) fun v_33 =>
  (fb_X5_creepDown_7 T R a0 FU) v_33 M
def fs_X5_moveDown_8 (T : Ty) (R : Rm) (a0 : Nat) (a1 : Nat) (x2 : Int32) (j8 : Int32 → Int32 → Mm → Option (Unit × Mm)) (x3 : Int32) (x4 : Int32) (M : Mm) : Option (Unit × Mm) :=
  chk (isK T a0 5) <|
  if (gI M a0 4) ≤ x4 then (
    chk (isK T a1 3) <|
    bnd (sI M a1 4 (2 : Int32)) fun M_4 =>
    some ((), M_4)) else (
    rfm (R a0 1) fun b_5 =>
    chk (isK T b_5 11) <|
    chk (inb x4 (lnT T b_5)) <|
    rfm (R b_5 x4.toNatClampNeg) fun b_8 =>
    chk (isK T b_8 0) <|
    if (gI M b_8 2) ≤ x3 then (
      bnd (x3 - (gI M b_8 2)) fun v_11 =>
      bnd (x4 + (1 : Int32)) fun v_12 =>
      j8 v_11 v_12 M) else (
      chk (isK T a1 3) <|
      bnd (sI M a1 0 x4) fun M_14 =>
      bnd (sI M_14 a1 1 x3) fun M_15 =>
      some ((), M_15)))
def fb_X5_moveDown_8 (T : Ty) (R : Rm) (a0 : Nat) (a1 : Nat) (x2 : Int32) : Nat → Int32 → Int32 → Mm → Option (Unit × Mm) :=
  lp (fun j8 => fs_X5_moveDown_8 T R a0 a1 x2 j8) (fun _ _ _ => none)
def fn_X5_moveDown (T : Ty) (R : Rm) (a0 : Nat) (a1 : Nat) (x2 : Int32) (M : Mm) : Option (Unit × Mm) :=
  chk (isK T a1 3) <|
  bnd (gI M a1 0) fun v_17 =>
  (fb_X5_moveDown_8 T R a0 a1 x2 FU) x2 v_17 M
def fn_X5_ride (T : Ty) (R : Rm) (a0 : Nat) (a1 : Nat) (M : Mm) : Option (Unit × Mm) :=
  chk (isK T a1 3) <|
  chk (isK T a0 5) <|
  cal (fn_X5_hasBand T R a0 (gI M a1 0) M) fun r_3 M_4 =>
  if r_3 = 0 then (
    some ((), M_4)) else (
    rfm (R a0 1) fun b_7 =>
    chk (isK T b_7 11) <|
    chk (inb (gI M_4 a1 0) (lnT T b_7)) <|
    rfm (R b_7 (gI M_4 a1 0).toNatClampNeg) fun b_10 =>
    bnd (sI M_4 a1 5 ((gI M_4 a1 5) + (1 : Int32))) fun M_11 =>
    chk (isK T b_10 0) <|
    cal (fn_X5_snowAt T R a0 (gI M_11 b_10 1) M_11) fun r_13 M_14 =>
    bnd (sI M_14 a1 3 ((gI M_11 a1 3) + (r_13 - (gI M_14 b_10 4)))) fun M_16 =>
    if (-(gI M_16 a1 2)) ≤ (gI M_16 a1 3) then (
      cal (fn_X0_way T R b_10 M_16) fun r_18 M_19 =>
      cal (fn_X5_moveDown T R a0 a1 ((gI M_16 a1 1) + r_18) M_19) fun _ M_22 =>
      some ((), M_22)) else (
      bnd (sI M_16 a1 4 (1 : Int32)) fun M_24 =>
      some ((), M_24)))
def fs_X5_letYearGoBy_106 (T : Ty) (R : Rm) (a0 : Nat) (j76 : Int32 → Mm → Option (Unit × Mm)) (x1 : Int32) (M : Mm) : Option (Unit × Mm) :=
  bnd (x1 + (1 : Int32)) fun v_1 =>
  j76 v_1 M
def fs_X5_letYearGoBy_76 (T : Ty) (R : Rm) (a0 : Nat) (j76 : Int32 → Mm → Option (Unit × Mm)) (x1 : Int32) (M : Mm) : Option (Unit × Mm) :=
  chk (isK T a0 5) <|
  if (gI M a0 5) ≤ x1 then (
    some ((), M)) else (
    rfm (R a0 2) fun b_4 =>
    chk (isK T b_4 12) <|
    chk (inb x1 (lnT T b_4)) <|
    rfm (R b_4 x1.toNatClampNeg) fun b_7 =>
    chk (isK T b_7 3) <|
    if (gI M b_7 4) = 0 then (
      cal (fn_X5_ride T R a0 b_7 M) fun _ M_11 =>
      (fs_X5_letYearGoBy_106 T R a0 j76) x1 M_11) else (
      (fs_X5_letYearGoBy_106 T R a0 j76) x1 M))
def fb_X5_letYearGoBy_76 (T : Ty) (R : Rm) (a0 : Nat) : Nat → Int32 → Mm → Option (Unit × Mm) :=
  lp (fun j76 => fs_X5_letYearGoBy_76 T R a0 j76) (fun _ _ => none)
def fs_X5_letYearGoBy_12 (T : Ty) (R : Rm) (a0 : Nat) (j12 : Int32 → Mm → Option (Unit × Mm)) (j76 : Int32 → Mm → Option (Unit × Mm)) (x1 : Int32) (M : Mm) : Option (Unit × Mm) :=
  chk (isK T a0 5) <|
  if (gI M a0 4) ≤ x1 then (
    cal (fn_X5_creepDown T R a0 M) fun _ M_16 =>
    rfm (R a0 3) fun b_18 =>
    rfm (R a0 0) fun b_19 =>
    chk (isK T b_19 9) <|
    chk (inb (5 : Int32) (lnT T b_19)) <|
    chk (inb (6 : Int32) (lnT T b_19)) <|
    chk (isK T b_18 1) <|
    cal (fn_X1_calve T R b_18 (gI M_16 b_19 (5 : Int32).toNatClampNeg) (gI M_16 b_19 (6 : Int32).toNatClampNeg) (gI M_16 a0 6) M_16) fun r_24 M_25 =>
    bnd (sJ M_25 a0 10 ((gJ M_16 a0 10) + (r_24.toInt64))) fun M_27 =>
    j76 (0 : Int32) M_27) else (
    rfm (R a0 1) fun b_28 =>
    chk (isK T b_28 11) <|
    chk (inb x1 (lnT T b_28)) <|
    rfm (R b_28 x1.toNatClampNeg) fun b_31 =>
    cal (fn_X5_snowAndMelt T R a0 b_31 M) fun _ M_33 =>
    bnd (x1 + (1 : Int32)) fun v_35 =>
    j12 v_35 M_33)
def fb_X5_letYearGoBy_12 (T : Ty) (R : Rm) (a0 : Nat) (j76 : Int32 → Mm → Option (Unit × Mm)) : Nat → Int32 → Mm → Option (Unit × Mm) :=
  lp (fun j12 => fs_X5_letYearGoBy_12 T R a0 j12 j76) (fun _ _ => none)
def fn_X5_letYearGoBy (T : Ty) (R : Rm) (a0 : Nat) (M : Mm) : Option (Unit × Mm) :=
  chk (isK T a0 5) <|
  bnd (sI M a0 6 ((gI M a0 6) + (1 : Int32))) fun M_37 =>
  (fb_X5_letYearGoBy_12 T R a0 (fb_X5_letYearGoBy_76 T R a0 FU) FU) (0 : Int32) M_37
def fs_X5_letYearsGoBy_2 (T : Ty) (R : Rm) (a0 : Nat) (x1 : Int32) (j2 : Int32 → Mm → Option (Unit × Mm)) (x2 : Int32) (M : Mm) : Option (Unit × Mm) :=
  if x1 ≤ x2 then (
    some ((), M)) else (
    chk (isK T a0 5) <|
    cal (fn_X5_letYearGoBy T R a0 M) fun _ M_4 =>
    bnd (x2 + (1 : Int32)) fun v_6 =>
    j2 v_6 M_4)
def fb_X5_letYearsGoBy_2 (T : Ty) (R : Rm) (a0 : Nat) (x1 : Int32) : Nat → Int32 → Mm → Option (Unit × Mm) :=
  lp (fun j2 => fs_X5_letYearsGoBy_2 T R a0 x1 j2) (fun _ _ => none)
def fn_X5_letYearsGoBy (T : Ty) (R : Rm) (a0 : Nat) (x1 : Int32) (M : Mm) : Option (Unit × Mm) :=
  (fb_X5_letYearsGoBy_2 T R a0 x1 FU) (0 : Int32) M
def fn_X6_isWithin (T : Ty) (R : Rm) (x0 : Int32) (x1 : Int32) (x2 : Int32) (M : Mm) : Option (Int32 × Mm) :=
  if x0 < x1 then (
    some ((0 : Int32), M)) else (
    if x2 < x0 then (
      some ((0 : Int32), M)) else (
      some ((1 : Int32), M)))
def fs_X6_dropOldestState_9 (T : Ty) (a0 : Nat) (j9 : Nat → Int32 → Mm → Rm → Option (Unit × Mm × Rm)) (a1 : Nat) (x2 : Int32) (M : Mm) (R : Rm) : Option (Unit × Mm × Rm) :=
  chk (isK T a0 6) <|
  rfm (R a0 1) fun b_2 =>
  chk (isK T b_2 13) <|
  if (Int32.ofNat (lnT T b_2)) ≤ x2 then (
    chk (inb (3 : Int32) (lnT T b_2)) <|
    chk (isK T a1 5) <|
    bnd (up2 R b_2 (3 : Int32).toNatClampNeg (some a1)) fun R_7 =>
    bnd (sI M a0 4 (3 : Int32)) fun M_8 =>
    some ((), M_8, R_7)) else (
    chk (inb x2 (lnT T b_2)) <|
    rfm (R b_2 x2.toNatClampNeg) fun b_10 =>
    chk (inb (x2 - (1 : Int32)) (lnT T b_2)) <|
    chk (isK T b_10 5) <|
    bnd (up2 R b_2 (x2 - (1 : Int32)).toNatClampNeg (some b_10)) fun R_13 =>
    bnd (x2 + (1 : Int32)) fun v_14 =>
    j9 a1 v_14 M R_13)
def fb_X6_dropOldestState_9 (T : Ty) (a0 : Nat) : Nat → Nat → Int32 → Mm → Rm → Option (Unit × Mm × Rm) :=
  lp (fun j9 => fs_X6_dropOldestState_9 T a0 j9) (fun _ _ _ _ => none)
def fn_X6_dropOldestState (T : Ty) (a0 : Nat) (M : Mm) (R : Rm) : Option (Unit × Mm × Rm) :=
  chk (isK T a0 6) <|
  rfm (R a0 1) fun b_16 =>
  chk (isK T b_16 13) <|
  chk (inb (0 : Int32) (lnT T b_16)) <|
  rfm (R b_16 (0 : Int32).toNatClampNeg) fun b_19 =>
  (fb_X6_dropOldestState_9 T a0 FU) b_19 (1 : Int32) M R
def fs_X6_recordState_12 (T : Ty) (a0 : Nat)  (M : Mm) (R : Rm) : Option (Unit × Mm × Rm) :=
  chk (isK T a0 6) <|
  rfm (R a0 1) fun b_2 =>
  chk (isK T b_2 13) <|
  chk (inb (gI M a0 4) (lnT T b_2)) <|
  rfm (R b_2 (gI M a0 4).toNatClampNeg) fun b_5 =>
  rfm (R a0 3) fun b_6 =>
  chk (isK T b_5 5) <|
  cal (fn_X5_copyFrom T R b_5 b_6 M) fun _ M_9 =>
  bnd (sI M_9 a0 4 ((gI M_9 a0 4) + (1 : Int32))) fun M_11 =>
  some ((), M_11, R)
def fn_X6_recordState (T : Ty) (a0 : Nat) (M : Mm) (R : Rm) : Option (Unit × Mm × Rm) :=
  chk (isK T a0 6) <|
  if (gI M a0 4) < (4 : Int32) then (
    (fs_X6_recordState_12 T a0) M R) else (
    calR (fn_X6_dropOldestState T a0 M R) fun _ M_15 R_17 =>
    (fs_X6_recordState_12 T a0) M_15 R_17)
def fn_X6_set (T : Ty) (a0 : Nat) (x1 : Int32) (x2 : Int32) (M : Mm) (R : Rm) : Option (Int32 × Mm × Rm) :=
  cal (fn_X6_isWithin T R x1 (0 : Int32) (6 : Int32) M) fun r_1 M_2 =>
  if r_1 = 0 then (
    some ((-2000000001 : Int32), M_2, R)) else (
    chk (inb x1 7) <|
    chk (inb x1 7) <|
    cal (fn_X6_isWithin T R x2 (fLeast x1.toNatClampNeg) (fMost x1.toNatClampNeg) M_2) fun r_9 M_10 =>
    if r_9 = 0 then (
      some ((-2000000001 : Int32), M_10, R)) else (
      chk (isK T a0 6) <|
      calR (fn_X6_recordState T a0 M_10 R) fun _ M_15 R_17 =>
      rfm (R_17 a0 3) fun b_18 =>
      chk (isK T b_18 5) <|
      rfm (R_17 b_18 0) fun b_20 =>
      chk (isK T b_20 9) <|
      chk (inb x1 (lnT T b_20)) <|
      bnd (gI M_15 b_20 x1.toNatClampNeg) fun v_23 =>
      bnd (sI M_15 b_20 x1.toNatClampNeg x2) fun M_24 =>
      some (v_23, M_24, R_17)))
def fn_X6_band (T : Ty) (a0 : Nat) (x1 : Int32) (x2 : Int32) (x3 : Int32) (x4 : Int32) (M : Mm) (R : Rm) : Option (Int32 × Mm × Rm) :=
  cal (fn_X6_isWithin T R x1 (0 : Int32) (5000 : Int32) M) fun r_1 M_2 =>
  if r_1 = 0 then (
    some ((-2000000001 : Int32), M_2, R)) else (
    cal (fn_X6_isWithin T R x2 (100 : Int32) (5000 : Int32) M_2) fun r_5 M_6 =>
    if r_5 = 0 then (
      some ((-2000000001 : Int32), M_6, R)) else (
      cal (fn_X6_isWithin T R x3 (0 : Int32) (500 : Int32) M_6) fun r_9 M_10 =>
      if r_9 = 0 then (
        some ((-2000000001 : Int32), M_10, R)) else (
        cal (fn_X6_isWithin T R x4 (0 : Int32) (1000000 : Int32) M_10) fun r_13 M_14 =>
        if r_13 = 0 then (
          some ((-2000000001 : Int32), M_14, R)) else (
          chk (isK T a0 6) <|
          rfm (R a0 3) fun b_18 =>
          chk (isK T b_18 5) <|
          cal (fn_X5_isBelowAll T R b_18 x1 M_14) fun r_20 M_21 =>
          if r_20 = 0 then (
            some ((-2000000002 : Int32), M_21, R)) else (
            if (gI M_21 b_18 4) < (10 : Int32) then (
              calR (fn_X6_recordState T a0 M_21 R) fun _ M_26 R_28 =>
              rfm (R_28 a0 3) fun b_29 =>
              chk (isK T b_29 5) <|
              cal (fn_X5_addBand T R_28 b_29 x1 x2 x3 x4 M_26) fun r_31 M_32 =>
              some (r_31, M_32, R_28)) else (
              some ((-2000000003 : Int32), M_21, R)))))))
def fn_X6_creep (T : Ty) (a0 : Nat) (x1 : Int32) (x2 : Int32) (M : Mm) (R : Rm) : Option (Int32 × Mm × Rm) :=
  chk (isK T a0 6) <|
  rfm (R a0 3) fun b_2 =>
  chk (isK T b_2 5) <|
  cal (fn_X5_hasBand T R b_2 x1 M) fun r_4 M_5 =>
  if r_4 = 0 then (
    some ((-2000000001 : Int32), M_5, R)) else (
    cal (fn_X6_isWithin T R x2 (0 : Int32) (500 : Int32) M_5) fun r_8 M_9 =>
    if r_8 = 0 then (
      some ((-2000000001 : Int32), M_9, R)) else (
      calR (fn_X6_recordState T a0 M_9 R) fun _ M_13 R_15 =>
      rfm (R_15 a0 3) fun b_16 =>
      chk (isK T b_16 5) <|
      rfm (R_15 b_16 1) fun b_18 =>
      chk (isK T b_18 11) <|
      chk (inb x1 (lnT T b_18)) <|
      rfm (R_15 b_18 x1.toNatClampNeg) fun b_21 =>
      chk (isK T b_21 0) <|
      bnd (gI M_13 b_21 3) fun v_23 =>
      bnd (sI M_13 b_21 3 x2) fun M_24 =>
      some (v_23, M_24, R_15)))
def fn_X6_bandInfo (T : Ty) (R : Rm) (a0 : Nat) (x1 : Int32) (x2 : Int32) (M : Mm) : Option (Int32 × Mm) :=
  chk (isK T a0 6) <|
  rfm (R a0 3) fun b_2 =>
  chk (isK T b_2 5) <|
  cal (fn_X5_hasBand T R b_2 x1 M) fun r_4 M_5 =>
  if r_4 = 0 then (
    some ((-2000000001 : Int32), M_5)) else (
    cal (fn_X6_isWithin T R x2 (0 : Int32) (11 : Int32) M_5) fun r_8 M_9 =>
    if r_8 = 0 then (
      some ((-2000000001 : Int32), M_9)) else (
      rfm (R b_2 1) fun b_12 =>
      chk (isK T b_12 11) <|
      chk (inb x1 (lnT T b_12)) <|
      rfm (R b_12 x1.toNatClampNeg) fun b_15 =>
      if x2 = 0 then (
        chk (isK T b_15 0) <|
        some ((gI M_9 b_15 1), M_9)) else (
      if x2 = 1 then (
        chk (isK T b_15 0) <|
        some ((gI M_9 b_15 2), M_9)) else (
      if x2 = 2 then (
        chk (isK T b_15 0) <|
        some ((gI M_9 b_15 3), M_9)) else (
      if x2 = 3 then (
        chk (isK T b_15 0) <|
        rfm (R b_15 0) fun b_24 =>
        chk (isK T b_24 2) <|
        some ((gI M_9 b_24 1), M_9)) else (
      if x2 = 4 then (
        chk (isK T b_15 0) <|
        rfm (R b_15 0) fun b_28 =>
        chk (isK T b_28 2) <|
        cal (fn_X2_number T R b_28 M_9) fun r_30 M_31 =>
        some (r_30, M_31)) else (
      if x2 = 5 then (
        chk (isK T b_15 0) <|
        rfm (R b_15 0) fun b_35 =>
        chk (isK T b_35 2) <|
        if (gI M_9 b_35 1) = 0 then (
          some ((-2000000004 : Int32), M_9)) else (
          some ((gI M_9 b_35 2), M_9))) else (
      if x2 = 6 then (
        chk (isK T b_15 0) <|
        rfm (R b_15 0) fun b_40 =>
        chk (isK T b_40 2) <|
        if (gI M_9 b_40 1) = 0 then (
          some ((-2000000004 : Int32), M_9)) else (
          some ((gI M_9 b_40 3), M_9))) else (
      if x2 = 7 then (
        chk (isK T b_15 0) <|
        cal (fn_X5_snowAt T R b_2 (gI M_9 b_15 1) M_9) fun r_45 M_46 =>
        some (r_45, M_46)) else (
      if x2 = 8 then (
        chk (isK T b_15 0) <|
        rfm (R b_2 0) fun b_50 =>
        chk (isK T b_50 9) <|
        chk (inb (2 : Int32) (lnT T b_50)) <|
        cal (fn_X5_meltAt T R b_2 (gI M_9 b_15 1) (gI M_9 b_50 (2 : Int32).toNatClampNeg) M_9) fun r_53 M_54 =>
        some (r_53, M_54)) else (
      if x2 = 9 then (
        chk (isK T b_15 0) <|
        some ((gI M_9 b_15 4), M_9)) else (
      if x2 = 10 then (
        chk (isK T b_15 0) <|
        some ((gI M_9 b_15 5), M_9)) else (
        chk (isK T b_15 0) <|
        some ((gI M_9 b_15 6), M_9))))))))))))))
def fn_X6_layer (T : Ty) (R : Rm) (a0 : Nat) (x1 : Int32) (x2 : Int32) (x3 : Int32) (M : Mm) : Option (Int32 × Mm) :=
  chk (isK T a0 6) <|
  rfm (R a0 3) fun b_2 =>
  chk (isK T b_2 5) <|
  cal (fn_X5_hasBand T R b_2 x1 M) fun r_4 M_5 =>
  if r_4 = 0 then (
    some ((-2000000001 : Int32), M_5)) else (
    if x2 < 0 then (
      some ((-2000000001 : Int32), M_5)) else (
      cal (fn_X6_isWithin T R x3 (0 : Int32) (1 : Int32) M_5) fun r_9 M_10 =>
      if r_9 = 0 then (
        some ((-2000000001 : Int32), M_10)) else (
        rfm (R b_2 1) fun b_13 =>
        chk (isK T b_13 11) <|
        chk (inb x1 (lnT T b_13)) <|
        rfm (R b_13 x1.toNatClampNeg) fun b_16 =>
        chk (isK T b_16 0) <|
        rfm (R b_16 0) fun b_18 =>
        chk (isK T b_18 2) <|
        cal (fn_X2_yearOfLayer T R b_18 x2 M_10) fun r_20 M_21 =>
        if 0 ≤ r_20 then (
          if x3 = 0 then (
            some (r_20, M_21)) else (
            cal (fn_X2_leftOf T R b_18 r_20 M_21) fun r_25 M_26 =>
            some (r_25, M_26))) else (
          some ((-2000000004 : Int32), M_21)))))
def fn_X6_ofYear (T : Ty) (R : Rm) (a0 : Nat) (x1 : Int32) (M : Mm) : Option (Int32 × Mm) :=
  cal (fn_X6_isWithin T R x1 (0 : Int32) (500 : Int32) M) fun r_1 M_2 =>
  if r_1 = 0 then (
    some ((-2000000001 : Int32), M_2)) else (
    chk (isK T a0 6) <|
    rfm (R a0 3) fun b_6 =>
    chk (isK T b_6 5) <|
    cal (fn_X5_leftOf T R b_6 x1 M_2) fun r_8 M_9 =>
    some (r_8, M_9))
def fs_X6_line_10 (T : Ty) (R : Rm) (a0 : Nat) (j10 : Int32 → Mm → Option (Int32 × Mm)) (x1 : Int32) (M : Mm) : Option (Int32 × Mm) :=
  if x1 < 0 then (
    some ((-2000000004 : Int32), M)) else (
    chk (isK T a0 6) <|
    rfm (R a0 3) fun b_3 =>
    chk (isK T b_3 5) <|
    rfm (R b_3 1) fun b_5 =>
    chk (isK T b_5 11) <|
    chk (inb x1 (lnT T b_5)) <|
    rfm (R b_5 x1.toNatClampNeg) fun b_8 =>
    chk (isK T b_8 0) <|
    bnd (gI M b_8 1) fun v_10 =>
    cal (fn_X5_snowAt T R b_3 v_10 M) fun r_11 M_12 =>
    rfm (R b_3 0) fun b_14 =>
    chk (isK T b_14 9) <|
    chk (inb (2 : Int32) (lnT T b_14)) <|
    cal (fn_X5_meltAt T R b_3 v_10 (gI M_12 b_14 (2 : Int32).toNatClampNeg) M_12) fun r_17 M_18 =>
    if r_11 < r_17 then (
      bnd (x1 + (-1 : Int32)) fun v_21 =>
      j10 v_21 M_18) else (
      some (x1, M_18)))
def fb_X6_line_10 (T : Ty) (R : Rm) (a0 : Nat) : Nat → Int32 → Mm → Option (Int32 × Mm) :=
  lp (fun j10 => fs_X6_line_10 T R a0 j10) (fun _ _ => none)
def fn_X6_line (T : Ty) (R : Rm) (a0 : Nat) (M : Mm) : Option (Int32 × Mm) :=
  chk (isK T a0 6) <|
  rfm (R a0 3) fun b_23 =>
  chk (isK T b_23 5) <|
  bnd ((gI M b_23 4) - (1 : Int32)) fun v_25 =>
  (fb_X6_line_10 T R a0 FU) v_25 M
def fn_X6_front (T : Ty) (R : Rm) (a0 : Nat) (x1 : Int32) (M : Mm) : Option (Int32 × Mm) :=
  cal (fn_X6_isWithin T R x1 (0 : Int32) (3 : Int32) M) fun r_1 M_2 =>
  if r_1 = 0 then (
    some ((-2000000001 : Int32), M_2)) else (
    if x1 = 0 then (
      chk (isK T a0 6) <|
      rfm (R a0 3) fun b_7 =>
      chk (isK T b_7 5) <|
      rfm (R b_7 3) fun b_9 =>
      chk (isK T b_9 1) <|
      some ((gI M_2 b_9 0), M_2)) else (
    if x1 = 1 then (
      chk (isK T a0 6) <|
      rfm (R a0 3) fun b_13 =>
      chk (isK T b_13 5) <|
      rfm (R b_13 3) fun b_15 =>
      chk (isK T b_15 1) <|
      some ((gI M_2 b_15 1), M_2)) else (
    if x1 = 2 then (
      chk (isK T a0 6) <|
      rfm (R a0 3) fun b_19 =>
      chk (isK T b_19 5) <|
      rfm (R b_19 3) fun b_21 =>
      chk (isK T b_21 1) <|
      some ((gI M_2 b_21 2), M_2)) else (
      chk (isK T a0 6) <|
      rfm (R a0 3) fun b_24 =>
      chk (isK T b_24 5) <|
      rfm (R b_24 3) fun b_26 =>
      chk (isK T b_26 1) <|
      if (gI M_2 b_26 2) = 0 then (
        some ((-2000000004 : Int32), M_2)) else (
        some ((gI M_2 b_26 3), M_2))))))
def fn_X6_account (T : Ty) (R : Rm) (a0 : Nat) (x1 : Int32) (M : Mm) : Option (Int64 × Mm) :=
  cal (fn_X6_isWithin T R x1 (0 : Int32) (5 : Int32) M) fun r_1 M_2 =>
  if r_1 = 0 then (
    some ((-2000000001 : Int64), M_2)) else (
    if x1 = 0 then (
      chk (isK T a0 6) <|
      rfm (R a0 3) fun b_7 =>
      chk (isK T b_7 5) <|
      some ((gJ M_2 b_7 7), M_2)) else (
    if x1 = 1 then (
      chk (isK T a0 6) <|
      rfm (R a0 3) fun b_11 =>
      chk (isK T b_11 5) <|
      some ((gJ M_2 b_11 8), M_2)) else (
    if x1 = 2 then (
      chk (isK T a0 6) <|
      rfm (R a0 3) fun b_15 =>
      chk (isK T b_15 5) <|
      some ((gJ M_2 b_15 9), M_2)) else (
    if x1 = 3 then (
      chk (isK T a0 6) <|
      rfm (R a0 3) fun b_19 =>
      chk (isK T b_19 5) <|
      some ((gJ M_2 b_19 10), M_2)) else (
    if x1 = 4 then (
      chk (isK T a0 6) <|
      rfm (R a0 3) fun b_23 =>
      chk (isK T b_23 5) <|
      cal (fn_X5_allIce T R b_23 M_2) fun r_25 M_26 =>
      some (r_25, M_26)) else (
      chk (isK T a0 6) <|
      rfm (R a0 3) fun b_29 =>
      chk (isK T b_29 5) <|
      cal (fn_X5_allIceByYears T R b_29 M_2) fun r_31 M_32 =>
      some (r_31, M_32)))))))
def fn_X6_count (T : Ty) (R : Rm) (a0 : Nat) (x1 : Int32) (M : Mm) : Option (Int32 × Mm) :=
  cal (fn_X6_isWithin T R x1 (0 : Int32) (14 : Int32) M) fun r_1 M_2 =>
  if r_1 = 0 then (
    some ((-2000000001 : Int32), M_2)) else (
    cal (fn_X6_isWithin T R x1 (6 : Int32) (12 : Int32) M_2) fun r_5 M_6 =>
    if r_5 = 0 then (
      if x1 = 0 then (
        chk (isK T a0 6) <|
        rfm (R a0 3) fun b_11 =>
        chk (isK T b_11 5) <|
        some ((gI M_6 b_11 4), M_6)) else (
      if x1 = 1 then (
        chk (isK T a0 6) <|
        rfm (R a0 3) fun b_15 =>
        chk (isK T b_15 5) <|
        some ((gI M_6 b_15 6), M_6)) else (
      if x1 = 2 then (
        chk (isK T a0 6) <|
        rfm (R a0 3) fun b_19 =>
        chk (isK T b_19 5) <|
        some ((gI M_6 b_19 5), M_6)) else (
      if x1 = 3 then (
        chk (isK T a0 6) <|
        rfm (R a0 3) fun b_23 =>
        chk (isK T b_23 5) <|
        cal (fn_X5_standingStakes T R b_23 M_6) fun r_25 M_26 =>
        some (r_25, M_26)) else (
      if x1 = 4 then (
        chk (isK T a0 6) <|
        rfm (R a0 3) fun b_30 =>
        chk (isK T b_30 5) <|
        cal (fn_X5_layersOfAllBands T R b_30 M_6) fun r_32 M_33 =>
        some (r_32, M_33)) else (
      if x1 = 5 then (
        chk (isK T a0 6) <|
        rfm (R a0 3) fun b_37 =>
        chk (isK T b_37 5) <|
        cal (fn_X5_differentYears T R b_37 M_6) fun r_39 M_40 =>
        some (r_39, M_40)) else (
      if x1 = 6 then (
        chk (isK T a0 6) <|
        rfm (R a0 2) fun b_44 =>
        chk (isK T b_44 4) <|
        some ((gI M_6 b_44 1), M_6)) else (
      if x1 = 7 then (
        chk (isK T a0 6) <|
        rfm (R a0 2) fun b_48 =>
        chk (isK T b_48 4) <|
        some ((gI M_6 b_48 1), M_6)) else (
      if x1 = 8 then (
        chk (isK T a0 6) <|
        rfm (R a0 2) fun b_52 =>
        chk (isK T b_52 4) <|
        some ((gI M_6 b_52 1), M_6)) else (
      if x1 = 9 then (
        chk (isK T a0 6) <|
        rfm (R a0 2) fun b_56 =>
        chk (isK T b_56 4) <|
        some ((gI M_6 b_56 1), M_6)) else (
      if x1 = 10 then (
        chk (isK T a0 6) <|
        rfm (R a0 2) fun b_60 =>
        chk (isK T b_60 4) <|
        some ((gI M_6 b_60 1), M_6)) else (
      if x1 = 11 then (
        chk (isK T a0 6) <|
        rfm (R a0 2) fun b_64 =>
        chk (isK T b_64 4) <|
        some ((gI M_6 b_64 1), M_6)) else (
      if x1 = 12 then (
        chk (isK T a0 6) <|
        rfm (R a0 2) fun b_68 =>
        chk (isK T b_68 4) <|
        some ((gI M_6 b_68 1), M_6)) else (
      if x1 = 13 then (
        chk (isK T a0 6) <|
        some ((gI M_6 a0 4), M_6)) else (
        chk (isK T a0 6) <|
        rfm (R a0 2) fun b_73 =>
        chk (isK T b_73 4) <|
        some ((gI M_6 b_73 1), M_6)))))))))))))))) else (
      chk (isK T a0 6) <|
      rfm (R a0 3) fun b_76 =>
      chk (isK T b_76 5) <|
      rfm (R b_76 0) fun b_78 =>
      chk (isK T b_78 9) <|
      chk (inb (x1 - (6 : Int32)) (lnT T b_78)) <|
      some ((gI M_6 b_78 (x1 - (6 : Int32)).toNatClampNeg), M_6)))
def fn_X6_stake (T : Ty) (a0 : Nat) (x1 : Int32) (x2 : Int32) (x3 : Int32) (M : Mm) (R : Rm) : Option (Int32 × Mm × Rm) :=
  chk (isK T a0 6) <|
  rfm (R a0 3) fun b_2 =>
  chk (isK T b_2 5) <|
  cal (fn_X5_hasBand T R b_2 x1 M) fun r_4 M_5 =>
  if r_4 = 0 then (
    some ((-2000000001 : Int32), M_5, R)) else (
    rfm (R b_2 1) fun b_8 =>
    chk (isK T b_8 11) <|
    chk (inb x1 (lnT T b_8)) <|
    rfm (R b_8 x1.toNatClampNeg) fun b_11 =>
    chk (isK T b_11 0) <|
    cal (fn_X6_isWithin T R x2 (0 : Int32) ((gI M_5 b_11 2) - (1 : Int32)) M_5) fun r_13 M_14 =>
    if r_13 = 0 then (
      some ((-2000000001 : Int32), M_14, R)) else (
      cal (fn_X6_isWithin T R x3 (1 : Int32) (10000 : Int32) M_14) fun r_17 M_18 =>
      if r_17 = 0 then (
        some ((-2000000001 : Int32), M_18, R)) else (
        cal (fn_X5_isStakeAt T R b_2 x1 x2 M_18) fun r_21 M_22 =>
        if r_21 = 0 then (
          if (gI M_22 b_2 5) < (6 : Int32) then (
            calR (fn_X6_recordState T a0 M_22 R) fun _ M_27 R_29 =>
            rfm (R_29 a0 3) fun b_30 =>
            chk (isK T b_30 5) <|
            cal (fn_X5_addStake T R_29 b_30 x1 x2 x3 M_27) fun r_32 M_33 =>
            some (r_32, M_33, R_29)) else (
            some ((-2000000003 : Int32), M_22, R))) else (
          some ((-2000000002 : Int32), M_22, R)))))
def fn_X6_pull (T : Ty) (a0 : Nat) (x1 : Int32) (M : Mm) (R : Rm) : Option (Int32 × Mm × Rm) :=
  chk (isK T a0 6) <|
  rfm (R a0 3) fun b_2 =>
  chk (isK T b_2 5) <|
  cal (fn_X5_hasStake T R b_2 x1 M) fun r_4 M_5 =>
  if r_4 = 0 then (
    some ((-2000000001 : Int32), M_5, R)) else (
    calR (fn_X6_recordState T a0 M_5 R) fun _ M_9 R_11 =>
    rfm (R_11 a0 3) fun b_12 =>
    chk (isK T b_12 5) <|
    calR (fn_X5_removeStake T b_12 x1 M_9 R_11) fun r_14 M_15 R_17 =>
    some (r_14, M_15, R_17))
def fn_X6_stakeInfo (T : Ty) (R : Rm) (a0 : Nat) (x1 : Int32) (x2 : Int32) (M : Mm) : Option (Int32 × Mm) :=
  chk (isK T a0 6) <|
  rfm (R a0 3) fun b_2 =>
  chk (isK T b_2 5) <|
  cal (fn_X5_hasStake T R b_2 x1 M) fun r_4 M_5 =>
  if r_4 = 0 then (
    some ((-2000000001 : Int32), M_5)) else (
    cal (fn_X6_isWithin T R x2 (0 : Int32) (5 : Int32) M_5) fun r_8 M_9 =>
    if r_8 = 0 then (
      some ((-2000000001 : Int32), M_9)) else (
      rfm (R b_2 2) fun b_12 =>
      chk (isK T b_12 12) <|
      chk (inb x1 (lnT T b_12)) <|
      rfm (R b_12 x1.toNatClampNeg) fun b_15 =>
      if x2 = 0 then (
        chk (isK T b_15 3) <|
        some ((gI M_9 b_15 0), M_9)) else (
      if x2 = 1 then (
        chk (isK T b_15 3) <|
        some ((gI M_9 b_15 1), M_9)) else (
      if x2 = 2 then (
        chk (isK T b_15 3) <|
        some ((gI M_9 b_15 2), M_9)) else (
      if x2 = 3 then (
        chk (isK T b_15 3) <|
        some ((gI M_9 b_15 3), M_9)) else (
      if x2 = 4 then (
        chk (isK T b_15 3) <|
        some ((gI M_9 b_15 4), M_9)) else (
        chk (isK T b_15 3) <|
        some ((gI M_9 b_15 5), M_9))))))))
def fs_X6_stakesIn_66 (T : Ty) (R : Rm) (a0 : Nat) (x1 : Int32) (j18 : Int32 → Int32 → Mm → Option (Int32 × Mm)) (x2 : Int32) (x3 : Int32) (M : Mm) : Option (Int32 × Mm) :=
  bnd (x3 + (1 : Int32)) fun v_1 =>
  j18 x2 v_1 M
def fs_X6_stakesIn_18 (T : Ty) (R : Rm) (a0 : Nat) (x1 : Int32) (j18 : Int32 → Int32 → Mm → Option (Int32 × Mm)) (x2 : Int32) (x3 : Int32) (M : Mm) : Option (Int32 × Mm) :=
  chk (isK T a0 6) <|
  rfm (R a0 3) fun b_3 =>
  chk (isK T b_3 5) <|
  if (gI M b_3 5) ≤ x3 then (
    some (x2, M)) else (
    rfm (R b_3 2) fun b_6 =>
    chk (isK T b_6 12) <|
    chk (inb x3 (lnT T b_6)) <|
    rfm (R b_6 x3.toNatClampNeg) fun b_9 =>
    chk (isK T b_9 3) <|
    if (gI M b_9 4) = 0 then (
      if (gI M b_9 0) = x1 then (
        bnd (x2 ||| ((1 : Int32) <<< (x3 &&& 31))) fun v_13 =>
        (fs_X6_stakesIn_66 T R a0 x1 j18) v_13 x3 M) else (
        (fs_X6_stakesIn_66 T R a0 x1 j18) x2 x3 M)) else (
      (fs_X6_stakesIn_66 T R a0 x1 j18) x2 x3 M))
def fb_X6_stakesIn_18 (T : Ty) (R : Rm) (a0 : Nat) (x1 : Int32) : Nat → Int32 → Int32 → Mm → Option (Int32 × Mm) :=
  lp (fun j18 => fs_X6_stakesIn_18 T R a0 x1 j18) (fun _ _ _ => none)
def fn_X6_stakesIn (T : Ty) (R : Rm) (a0 : Nat) (x1 : Int32) (M : Mm) : Option (Int32 × Mm) :=
  chk (isK T a0 6) <|
  rfm (R a0 3) fun b_15 =>
  chk (isK T b_15 5) <|
  cal (fn_X5_hasBand T R b_15 x1 M) fun r_17 M_18 =>
  if r_17 = 0 then (
    some ((-2000000001 : Int32), M_18)) else (
    (fb_X6_stakesIn_18 T R a0 x1 FU) (0 : Int32) (0 : Int32) M_18)
def fn_X6_years (T : Ty) (a0 : Nat) (x1 : Int32) (M : Mm) (R : Rm) : Option (Int32 × Mm × Rm) :=
  cal (fn_X6_isWithin T R x1 (1 : Int32) (100 : Int32) M) fun r_1 M_2 =>
  if r_1 = 0 then (
    some ((-2000000001 : Int32), M_2, R)) else (
    chk (isK T a0 6) <|
    rfm (R a0 3) fun b_6 =>
    chk (isK T b_6 5) <|
    if (gI M_2 b_6 4) = 0 then (
      some ((-2000000002 : Int32), M_2, R)) else (
      if ((gI M_2 b_6 6) + x1) ≤ (500 : Int32) then (
        calR (fn_X6_recordState T a0 M_2 R) fun _ M_11 R_13 =>
        rfm (R_13 a0 3) fun b_14 =>
        chk (isK T b_14 5) <|
        rfm (R_13 b_14 3) fun b_16 =>
        chk (isK T b_16 1) <|
        bnd (gI M_11 b_16 2) fun v_18 =>
        cal (fn_X5_letYearsGoBy T R_13 b_14 x1 M_11) fun _ M_20 =>
        some (((gI M_20 b_16 2) - v_18), M_20, R_13)) else (
        some ((-2000000003 : Int32), M_2, R))))
def fn_X6_ifYears (T : Ty) (R : Rm) (a0 : Nat) (x1 : Int32) (x2 : Int32) (M : Mm) : Option (Int32 × Mm) :=
  cal (fn_X6_isWithin T R x1 (1 : Int32) (100 : Int32) M) fun r_1 M_2 =>
  if r_1 = 0 then (
    some ((-2000000001 : Int32), M_2)) else (
    cal (fn_X6_isWithin T R x2 (0 : Int32) (4 : Int32) M_2) fun r_5 M_6 =>
    if r_5 = 0 then (
      some ((-2000000001 : Int32), M_6)) else (
      chk (isK T a0 6) <|
      rfm (R a0 3) fun b_10 =>
      chk (isK T b_10 5) <|
      if (gI M_6 b_10 4) = 0 then (
        some ((-2000000002 : Int32), M_6)) else (
        rfm (R a0 0) fun b_13 =>
        chk (isK T b_13 5) <|
        cal (fn_X5_copyFrom T R b_13 b_10 M_6) fun _ M_16 =>
        cal (fn_X5_letYearsGoBy T R b_13 x1 M_16) fun _ M_19 =>
        if x2 = 0 then (
          cal (fn_X5_allIce T R b_13 M_19) fun r_22 M_23 =>
          some ((r_22.toInt32), M_23)) else (
        if x2 = 1 then (
          rfm (R b_13 3) fun b_26 =>
          chk (isK T b_26 1) <|
          rfm (R b_10 3) fun b_28 =>
          chk (isK T b_28 1) <|
          some (((gI M_19 b_26 2) - (gI M_19 b_28 2)), M_19)) else (
        if x2 = 2 then (
          some ((((gJ M_19 b_13 9) - (gJ M_19 b_10 9)).toInt32), M_19)) else (
        if x2 = 3 then (
          cal (fn_X5_standingStakes T R b_13 M_19) fun r_32 M_33 =>
          some (r_32, M_33)) else (
          cal (fn_X5_bandIce T R b_13 M_19) fun r_35 M_36 =>
          if r_35 = 0 then (
            some ((-2000000004 : Int32), M_36)) else (
            cal (fn_X5_oldestYear T R b_13 M_36) fun r_39 M_40 =>
            some (r_39, M_40)))))))))
def fn_X6_isSoInTrial (T : Ty) (R : Rm) (a0 : Nat) (x1 : Int32) (x2 : Int32) (M : Mm) : Option (Int32 × Mm) :=
  if x1 = 0 then (
    chk (isK T a0 6) <|
    rfm (R a0 0) fun b_3 =>
    chk (isK T b_3 5) <|
    rfm (R b_3 3) fun b_5 =>
    chk (isK T b_5 1) <|
    if (gI M b_5 2) ≤ x2 then (
      some ((0 : Int32), M)) else (
      some ((1 : Int32), M))) else (
  if x1 = 1 then (
    chk (isK T a0 6) <|
    rfm (R a0 0) fun b_10 =>
    chk (isK T b_10 5) <|
    cal (fn_X5_bandIce T R b_10 M) fun r_12 M_13 =>
    if r_12 = 0 then (
      some ((1 : Int32), M_13)) else (
      some ((0 : Int32), M_13))) else (
    chk (isK T a0 6) <|
    rfm (R a0 0) fun b_17 =>
    chk (isK T b_17 5) <|
    cal (fn_X5_standingStakes T R b_17 M) fun r_19 M_20 =>
    if r_19 = 0 then (
      some ((1 : Int32), M_20)) else (
      some ((0 : Int32), M_20))))
def fs_X6_yearsTo_38 (T : Ty) (R : Rm) (a0 : Nat) (x1 : Int32) (j38 : Int32 → Mm → Option (Int32 × Mm)) (x2 : Int32) (M : Mm) : Option (Int32 × Mm) :=
  if (300 : Int32) < x2 then (
    some ((-2000000004 : Int32), M)) else (
    chk (isK T a0 6) <|
    rfm (R a0 0) fun b_3 =>
    chk (isK T b_3 5) <|
    rfm (R b_3 3) fun b_5 =>
    chk (isK T b_5 1) <|
    bnd (gI M b_5 2) fun v_7 =>
    cal (fn_X5_letYearGoBy T R b_3 M) fun _ M_9 =>
    cal (fn_X6_isSoInTrial T R a0 x1 v_7 M_9) fun r_11 M_12 =>
    if r_11 = 0 then (
      bnd (x2 + (1 : Int32)) fun v_15 =>
      j38 v_15 M_12) else (
      some (x2, M_12)))
def fb_X6_yearsTo_38 (T : Ty) (R : Rm) (a0 : Nat) (x1 : Int32) : Nat → Int32 → Mm → Option (Int32 × Mm) :=
  lp (fun j38 => fs_X6_yearsTo_38 T R a0 x1 j38) (fun _ _ => none)
def fn_X6_yearsTo (T : Ty) (R : Rm) (a0 : Nat) (x1 : Int32) (M : Mm) : Option (Int32 × Mm) :=
  cal (fn_X6_isWithin T R x1 (0 : Int32) (2 : Int32) M) fun r_16 M_17 =>
  if r_16 = 0 then (
    some ((-2000000001 : Int32), M_17)) else (
    chk (isK T a0 6) <|
    rfm (R a0 3) fun b_21 =>
    chk (isK T b_21 5) <|
    if (gI M_17 b_21 4) = 0 then (
      some ((-2000000002 : Int32), M_17)) else (
      rfm (R a0 0) fun b_24 =>
      chk (isK T b_24 5) <|
      cal (fn_X5_copyFrom T R b_24 b_21 M_17) fun _ M_27 =>
      (fb_X6_yearsTo_38 T R a0 x1 FU) (1 : Int32) M_27))
def fs_X6_steadyMelt_73 (T : Ty) (R : Rm) (a0 : Nat) (j41 : Int32 → Int32 → Mm → Option (Int32 × Mm)) (x1 : Int32) (x2 : Int32) (M : Mm) : Option (Int32 × Mm) :=
  bnd (x2 / (2 : Int32)) fun v_1 =>
  j41 x1 v_1 M
def fs_X6_steadyMelt_41 (T : Ty) (R : Rm) (a0 : Nat) (j41 : Int32 → Int32 → Mm → Option (Int32 × Mm)) (x1 : Int32) (x2 : Int32) (M : Mm) : Option (Int32 × Mm) :=
  if x2 ≤ 0 then (
    some (x1, M)) else (
    chk (inb (2 : Int32) 7) <|
    if (fMost (2 : Int32).toNatClampNeg) < (x1 + x2) then (
      (fs_X6_steadyMelt_73 T R a0 j41) x1 x2 M) else (
      chk (isK T a0 6) <|
      rfm (R a0 3) fun b_7 =>
      chk (isK T b_7 5) <|
      cal (fn_X5_snowOutweighsMelt T R b_7 (x1 + x2) M) fun r_9 M_10 =>
      if r_9 = 0 then (
        (fs_X6_steadyMelt_73 T R a0 j41) x1 x2 M_10) else (
        bnd (x1 + x2) fun v_13 =>
        (fs_X6_steadyMelt_73 T R a0 j41) v_13 x2 M_10)))
def fb_X6_steadyMelt_41 (T : Ty) (R : Rm) (a0 : Nat) : Nat → Int32 → Int32 → Mm → Option (Int32 × Mm) :=
  lp (fun j41 => fs_X6_steadyMelt_41 T R a0 j41) (fun _ _ _ => none)
def fn_X6_steadyMelt (T : Ty) (R : Rm) (a0 : Nat) (M : Mm) : Option (Int32 × Mm) :=
  chk (isK T a0 6) <|
  rfm (R a0 3) fun b_15 =>
  chk (isK T b_15 5) <|
  if (gI M b_15 4) = 0 then (
    some ((-2000000002 : Int32), M)) else (
    chk (inb (2 : Int32) 7) <|
    cal (fn_X5_snowOutweighsMelt T R b_15 (fLeast (2 : Int32).toNatClampNeg) M) fun r_20 M_21 =>
    if r_20 = 0 then (
      some ((-2000000004 : Int32), M_21)) else (
      bnd (fLeast (2 : Int32).toNatClampNeg) fun v_25 =>
      (fb_X6_steadyMelt_41 T R a0 FU) v_25 (8192 : Int32) M_21))
def fn_X6_undo (T : Ty) (a0 : Nat) (M : Mm) (R : Rm) : Option (Int32 × Mm × Rm) :=
  chk (isK T a0 6) <|
  if (gI M a0 4) = 0 then (
    some ((-2000000002 : Int32), M, R)) else (
    bnd (sI M a0 4 ((gI M a0 4) - (1 : Int32))) fun M_3 =>
    rfm (R a0 1) fun b_4 =>
    chk (isK T b_4 13) <|
    chk (inb (gI M_3 a0 4) (lnT T b_4)) <|
    rfm (R b_4 (gI M_3 a0 4).toNatClampNeg) fun b_7 =>
    rfm (R a0 3) fun b_8 =>
    chk (isK T b_8 5) <|
    bnd (up2 R b_4 (gI M_3 a0 4).toNatClampNeg (some b_8)) fun R_10 =>
    bnd (up2 R_10 a0 3 (some b_7)) fun R_11 =>
    some ((gI M_3 a0 4), M_3, R_11))
def fn_X6_type (T : Ty) (R : Rm) (a0 : Nat) (x1 : Int32) (M : Mm) : Option (Int32 × Mm) :=
  cal (fn_X6_isWithin T R x1 (32 : Int32) (126 : Int32) M) fun r_1 M_2 =>
  if r_1 = 0 then (
    some ((-2000000001 : Int32), M_2)) else (
    chk (isK T a0 6) <|
    rfm (R a0 2) fun b_6 =>
    chk (isK T b_6 4) <|
    if (gI M_2 b_6 1) < (60 : Int32) then (
      cal (fn_X4_append T R b_6 ((x1.toUInt32 % 65536).toInt32) M_2) fun _ M_10 =>
      some ((gI M_10 b_6 1), M_10)) else (
      some ((-2000000003 : Int32), M_2)))
def fn_X6_reasonAt (T : Ty) (R : Rm) (a0 : Nat) (x1 : Int32) (x2 : Int32) (M : Mm) : Option (Int32 × Mm) :=
  chk (isK T a0 6) <|
  rfm (R a0 2) fun b_2 =>
  chk (isK T b_2 4) <|
  cal (fn_X4_endOfYear T R b_2 x1 M) fun r_4 M_5 =>
  if 0 ≤ r_4 then (
    cal (fn_X4_snowOfYear T R b_2 x1 M_5) fun r_8 M_9 =>
    chk (inb (0 : Int32) 7) <|
    chk (inb (0 : Int32) 7) <|
    cal (fn_X6_isWithin T R r_8 (fLeast (0 : Int32).toNatClampNeg) (fMost (0 : Int32).toNatClampNeg) M_9) fun r_15 M_16 =>
    if r_15 = 0 then (
      some ((2 : Int32), M_16)) else (
      cal (fn_X4_meltOfYear T R b_2 x1 M_16) fun r_19 M_20 =>
      chk (inb (2 : Int32) 7) <|
      chk (inb (2 : Int32) 7) <|
      cal (fn_X6_isWithin T R r_19 (fLeast (2 : Int32).toNatClampNeg) (fMost (2 : Int32).toNatClampNeg) M_20) fun r_26 M_27 =>
      if r_26 = 0 then (
        some ((2 : Int32), M_27)) else (
        rfm (R a0 3) fun b_30 =>
        chk (isK T b_30 5) <|
        if (((gI M_27 b_30 6) + x2) + (1 : Int32)) ≤ (500 : Int32) then (
          some ((0 : Int32), M_27)) else (
          some ((3 : Int32), M_27))))) else (
    some ((1 : Int32), M_5))
def fs_X6_possibleYears_4 (T : Ty) (R : Rm) (a0 : Nat) (j4 : Int32 → Int32 → Mm → Option (Int32 × Mm)) (x1 : Int32) (x2 : Int32) (M : Mm) : Option (Int32 × Mm) :=
  if (60 : Int32) ≤ x2 then (
    some ((60 : Int32), M)) else (
    chk (isK T a0 6) <|
    rfm (R a0 2) fun b_3 =>
    chk (isK T b_3 4) <|
    if (gI M b_3 1) ≤ x1 then (
      some (x2, M)) else (
      cal (fn_X6_reasonAt T R a0 x1 x2 M) fun r_6 M_7 =>
      if r_6 = 0 then (
        cal (fn_X4_endOfYear T R b_3 x1 M_7) fun r_10 M_11 =>
        bnd (x2 + (1 : Int32)) fun v_13 =>
        j4 r_10 v_13 M_11) else (
        some (x2, M_7))))
def fb_X6_possibleYears_4 (T : Ty) (R : Rm) (a0 : Nat) : Nat → Int32 → Int32 → Mm → Option (Int32 × Mm) :=
  lp (fun j4 => fs_X6_possibleYears_4 T R a0 j4) (fun _ _ _ => none)
def fn_X6_possibleYears (T : Ty) (R : Rm) (a0 : Nat) (M : Mm) : Option (Int32 × Mm) :=
  (fb_X6_possibleYears_4 T R a0 FU) (0 : Int32) (0 : Int32) M
def fn_X6_fault (T : Ty) (R : Rm) (a0 : Nat) (x1 : Int32) (M : Mm) : Option (Int32 × Mm) :=
  cal (fn_X6_isWithin T R x1 (0 : Int32) (1 : Int32) M) fun r_1 M_2 =>
  if r_1 = 0 then (
    some ((-2000000001 : Int32), M_2)) else (
    chk (isK T a0 6) <|
    cal (fn_X6_possibleYears T R a0 M_2) fun r_6 M_7 =>
    rfm (R a0 2) fun b_9 =>
    chk (isK T b_9 4) <|
    cal (fn_X4_startOfYear T R b_9 r_6 M_7) fun r_11 M_12 =>
    if r_11 < (gI M_12 b_9 1) then (
      if x1 = 0 then (
        some (r_11, M_12)) else (
        cal (fn_X6_reasonAt T R a0 r_11 r_6 M_12) fun r_16 M_17 =>
        some (r_16, M_17))) else (
      some ((-2000000004 : Int32), M_12)))
def fn_L_low (T : Ty) (R : Rm) (x0 : Int32) (x1 : Int32) (M : Mm) : Option (Int32 × Mm) :=
  chk (decide (¬ x1 = 0)) <|
  some (((x0 &&& (2147483647 : Int32)) - (x0 &&& (2147483647 : Int32)) / x1 * x1), M)
def fs_L_sound_781 (T : Ty) (R : Rm) (a0 : Nat)  (s0 : Int32) (s1 : Int32) (M : Mm) : Option (Int32 × Mm) :=
  if s0 = s1 then (
    some ((1 : Int32), M)) else (
    some ((0 : Int32), M))
def fs_L_sound_768 (T : Ty) (R : Rm) (a0 : Nat)  (s0 : Int32) (M : Mm) : Option (Int32 × Mm) :=
  chk (isK T a0 6) <|
  cal (fn_X6_front T R a0 (2 : Int32) M) fun r_3 M_4 =>
  if r_3 = 0 then (
    (fs_L_sound_781 T R a0) s0 (1 : Int32) M_4) else (
    (fs_L_sound_781 T R a0) s0 (0 : Int32) M_4)
def fs_L_sound_623 (T : Ty) (R : Rm) (a0 : Nat) (j452 : Int32 → Int64 → Int32 → Int32 → Int32 → Int32 → Int64 → Int32 → Int32 → Mm → Option (Int32 × Mm)) (x2 : Int32) (l3 : Int64) (x5 : Int32) (x6 : Int32) (x7 : Int32) (x8 : Int32) (l9 : Int64) (x11 : Int32) (x12 : Int32) (M : Mm) : Option (Int32 × Mm) :=
  chk (isK T a0 6) <|
  cal (fn_X6_stakeInfo T R a0 x12 (5 : Int32) M) fun r_8 M_9 =>
  if r_8 ≤ x2 then (
    bnd (x12 + (1 : Int32)) fun v_12 =>
    j452 x2 l3 x5 x6 x7 x8 l9 x11 v_12 M_9) else (
    some ((0 : Int32), M_9))
def fs_L_sound_594 (T : Ty) (R : Rm) (a0 : Nat) (j452 : Int32 → Int64 → Int32 → Int32 → Int32 → Int32 → Int64 → Int32 → Int32 → Mm → Option (Int32 × Mm)) (x2 : Int32) (l3 : Int64) (x5 : Int32) (x6 : Int32) (x7 : Int32) (x8 : Int32) (l9 : Int64) (x11 : Int32) (x12 : Int32) (M : Mm) : Option (Int32 × Mm) :=
  chk (isK T a0 6) <|
  cal (fn_X6_stakeInfo T R a0 x12 (4 : Int32) M) fun r_14 M_15 =>
  if r_14 = (1 : Int32) then (
    cal (fn_X6_stakeInfo T R a0 x12 (3 : Int32) M_15) fun r_18 M_19 =>
    cal (fn_X6_stakeInfo T R a0 x12 (2 : Int32) M_19) fun r_21 M_22 =>
    if (-r_21) ≤ r_18 then (
      some ((0 : Int32), M_22)) else (
      (fs_L_sound_623 T R a0 j452) x2 l3 x5 x6 x7 x8 l9 x11 x12 M_22)) else (
    (fs_L_sound_623 T R a0 j452) x2 l3 x5 x6 x7 x8 l9 x11 x12 M_15)
def fs_L_sound_571 (T : Ty) (R : Rm) (a0 : Nat) (j452 : Int32 → Int64 → Int32 → Int32 → Int32 → Int32 → Int64 → Int32 → Int32 → Mm → Option (Int32 × Mm)) (x2 : Int32) (l3 : Int64) (x5 : Int32) (x6 : Int32) (x7 : Int32) (x8 : Int32) (l9 : Int64) (x11 : Int32) (x12 : Int32) (x13 : Int32) (M : Mm) : Option (Int32 × Mm) :=
  if x13 = 0 then (
    (fs_L_sound_594 T R a0 j452) x2 l3 x5 x6 x7 x8 l9 x11 x12 M) else (
    chk (isK T a0 6) <|
    cal (fn_X6_stakeInfo T R a0 x12 (3 : Int32) M) fun r_27 M_28 =>
    cal (fn_X6_stakeInfo T R a0 x12 (2 : Int32) M_28) fun r_30 M_31 =>
    if r_27 < (-r_30) then (
      some ((0 : Int32), M_31)) else (
      (fs_L_sound_594 T R a0 j452) x2 l3 x5 x6 x7 x8 l9 x11 x12 M_31))
def fs_L_sound_512 (T : Ty) (R : Rm) (a0 : Nat) (j452 : Int32 → Int64 → Int32 → Int32 → Int32 → Int32 → Int64 → Int32 → Int32 → Mm → Option (Int32 × Mm)) (x2 : Int32) (l3 : Int64) (x5 : Int32) (x6 : Int32) (x7 : Int32) (x8 : Int32) (l9 : Int64) (x11 : Int32) (x12 : Int32) (x13 : Int32) (s0 : Int32) (s1 : Int32) (M : Mm) : Option (Int32 × Mm) :=
  if s0 = s1 then (
    chk (isK T a0 6) <|
    cal (fn_X6_stakeInfo T R a0 x12 (1 : Int32) M) fun r_36 M_37 =>
    if r_36 < 0 then (
      some ((0 : Int32), M_37)) else (
      cal (fn_X6_stakeInfo T R a0 x12 (1 : Int32) M_37) fun r_40 M_41 =>
      cal (fn_X6_stakeInfo T R a0 x12 (0 : Int32) M_41) fun r_43 M_44 =>
      cal (fn_X6_bandInfo T R a0 r_43 (1 : Int32) M_44) fun r_46 M_47 =>
      if r_46 ≤ r_40 then (
        some ((0 : Int32), M_47)) else (
        if x13 = 0 then (
          (fs_L_sound_571 T R a0 j452) x2 l3 x5 x6 x7 x8 l9 x11 x12 x13 M_47) else (
          cal (fn_X6_stakeInfo T R a0 x12 (0 : Int32) M_47) fun r_51 M_52 =>
          cal (fn_X6_stakesIn T R a0 r_51 M_52) fun r_54 M_55 =>
          if ((r_54 >>> (x12 &&& 31)) &&& (1 : Int32)) = 0 then (
            some ((0 : Int32), M_55)) else (
            (fs_L_sound_571 T R a0 j452) x2 l3 x5 x6 x7 x8 l9 x11 x12 x13 M_55))))) else (
    some ((0 : Int32), M))
def fs_L_sound_491 (T : Ty) (R : Rm) (a0 : Nat) (j452 : Int32 → Int64 → Int32 → Int32 → Int32 → Int32 → Int64 → Int32 → Int32 → Mm → Option (Int32 × Mm)) (x2 : Int32) (l3 : Int64) (x5 : Int32) (x6 : Int32) (x7 : Int32) (x8 : Int32) (l9 : Int64) (x12 : Int32) (x13 : Int32) (s0 : Int32) (s1 : Int32) (M : Mm) : Option (Int32 × Mm) :=
  bnd (s0 + s1) fun v_58 =>
  if ((x6 >>> (x12 &&& 31)) &&& (1 : Int32)) = (1 : Int32) then (
    (fs_L_sound_512 T R a0 j452) x2 l3 x5 x6 x7 x8 l9 v_58 x12 x13 x13 (1 : Int32) M) else (
    (fs_L_sound_512 T R a0 j452) x2 l3 x5 x6 x7 x8 l9 v_58 x12 x13 x13 (0 : Int32) M)
def fs_L_sound_477 (T : Ty) (R : Rm) (a0 : Nat) (j452 : Int32 → Int64 → Int32 → Int32 → Int32 → Int32 → Int64 → Int32 → Int32 → Mm → Option (Int32 × Mm)) (x2 : Int32) (l3 : Int64) (x5 : Int32) (x6 : Int32) (x7 : Int32) (x8 : Int32) (l9 : Int64) (x11 : Int32) (x12 : Int32) (s0 : Int32) (M : Mm) : Option (Int32 × Mm) :=
  if s0 = 0 then (
    (fs_L_sound_491 T R a0 j452) x2 l3 x5 x6 x7 x8 l9 x12 s0 x11 (0 : Int32) M) else (
    (fs_L_sound_491 T R a0 j452) x2 l3 x5 x6 x7 x8 l9 x12 s0 x11 (1 : Int32) M)
def fs_L_sound_452 (T : Ty) (R : Rm) (a0 : Nat) (j452 : Int32 → Int64 → Int32 → Int32 → Int32 → Int32 → Int64 → Int32 → Int32 → Mm → Option (Int32 × Mm)) (j768 : Int32 → Mm → Option (Int32 × Mm)) (x2 : Int32) (l3 : Int64) (x5 : Int32) (x6 : Int32) (x7 : Int32) (x8 : Int32) (l9 : Int64) (x11 : Int32) (x12 : Int32) (M : Mm) : Option (Int32 × Mm) :=
  chk (isK T a0 6) <|
  cal (fn_X6_count T R a0 (2 : Int32) M) fun r_62 M_63 =>
  if r_62 ≤ x12 then (
    cal (fn_X6_account T R a0 (4 : Int32) M_63) fun r_66 M_67 =>
    if (lg_cmp r_66 l3) = 0 then (
      cal (fn_X6_account T R a0 (5 : Int32) M_67) fun r_70 M_71 =>
      if (lg_cmp r_70 l9) = 0 then (
        if (lg_cmp l3 l9) = 0 then (
          cal (fn_X6_account T R a0 (0 : Int32) M_71) fun r_75 M_76 =>
          cal (fn_X6_account T R a0 (1 : Int32) M_76) fun r_78 M_79 =>
          cal (fn_X6_account T R a0 (2 : Int32) M_79) fun r_81 M_82 =>
          cal (fn_X6_account T R a0 (3 : Int32) M_82) fun r_84 M_85 =>
          if (lg_cmp l3 (((r_75 + r_78) - r_81) - r_84)) = 0 then (
            cal (fn_X6_count T R a0 (3 : Int32) M_85) fun r_88 M_89 =>
            if r_88 = x11 then (
              cal (fn_X6_count T R a0 (4 : Int32) M_89) fun r_92 M_93 =>
              if r_92 = x5 then (
                cal (fn_X6_count T R a0 (5 : Int32) M_93) fun r_96 M_97 =>
                if r_96 = x8 then (
                  cal (fn_X6_line T R a0 M_97) fun r_100 M_101 =>
                  if r_100 = x7 then (
                    cal (fn_X6_front T R a0 (0 : Int32) M_101) fun r_104 M_105 =>
                    if r_104 < 0 then (
                      some ((0 : Int32), M_105)) else (
                      cal (fn_X6_front T R a0 (1 : Int32) M_105) fun r_108 M_109 =>
                      if r_108 < 0 then (
                        some ((0 : Int32), M_109)) else (
                        cal (fn_X6_front T R a0 (3 : Int32) M_109) fun r_112 M_113 =>
                        if r_112 = (-2000000004 : Int32) then (
                          j768 (1 : Int32) M_113) else (
                          j768 (0 : Int32) M_113)))) else (
                    some ((0 : Int32), M_101))) else (
                  some ((0 : Int32), M_97))) else (
                some ((0 : Int32), M_93))) else (
              some ((0 : Int32), M_89))) else (
            some ((0 : Int32), M_85))) else (
          some ((0 : Int32), M_71))) else (
        some ((0 : Int32), M_71))) else (
      some ((0 : Int32), M_67))) else (
    cal (fn_X6_stakeInfo T R a0 x12 (4 : Int32) M_63) fun r_116 M_117 =>
    if r_116 = 0 then (
      (fs_L_sound_477 T R a0 j452) x2 l3 x5 x6 x7 x8 l9 x11 x12 (1 : Int32) M_117) else (
      (fs_L_sound_477 T R a0 j452) x2 l3 x5 x6 x7 x8 l9 x11 x12 (0 : Int32) M_117))
def fb_L_sound_452 (T : Ty) (R : Rm) (a0 : Nat) (j768 : Int32 → Mm → Option (Int32 × Mm)) : Nat → Int32 → Int64 → Int32 → Int32 → Int32 → Int32 → Int64 → Int32 → Int32 → Mm → Option (Int32 × Mm) :=
  lp (fun j452 => fs_L_sound_452 T R a0 j452 j768) (fun _ _ _ _ _ _ _ _ _ _ => none)
def fs_L_sound_425 (T : Ty) (R : Rm) (a0 : Nat) (j403 : Int32 → Int64 → Int32 → Int32 → Int32 → Int32 → Int64 → Int32 → Mm → Option (Int32 × Mm)) (x2 : Int32) (l3 : Int64) (x5 : Int32) (x6 : Int32) (x7 : Int32) (l9 : Int64) (x11 : Int32) (s0 : Int32) (s1 : Int32) (M : Mm) : Option (Int32 × Mm) :=
  bnd (s0 + s1) fun v_120 =>
  chk (isK T a0 6) <|
  cal (fn_X6_ofYear T R a0 x11 M) fun r_122 M_123 =>
  bnd (l9 + (r_122.toInt64)) fun v_125 =>
  bnd (x11 + (1 : Int32)) fun v_126 =>
  j403 x2 l3 x5 x6 x7 v_120 v_125 v_126 M_123
def fs_L_sound_403 (T : Ty) (R : Rm) (a0 : Nat) (j403 : Int32 → Int64 → Int32 → Int32 → Int32 → Int32 → Int64 → Int32 → Mm → Option (Int32 × Mm)) (j452 : Int32 → Int64 → Int32 → Int32 → Int32 → Int32 → Int64 → Int32 → Int32 → Mm → Option (Int32 × Mm)) (x2 : Int32) (l3 : Int64) (x5 : Int32) (x6 : Int32) (x7 : Int32) (x8 : Int32) (l9 : Int64) (x11 : Int32) (M : Mm) : Option (Int32 × Mm) :=
  if x2 < x11 then (
    j452 x2 l3 x5 x6 x7 x8 l9 (0 : Int32) (0 : Int32) M) else (
    chk (isK T a0 6) <|
    cal (fn_X6_ofYear T R a0 x11 M) fun r_129 M_130 =>
    if r_129 ≤ 0 then (
      (fs_L_sound_425 T R a0 j403) x2 l3 x5 x6 x7 l9 x11 x8 (0 : Int32) M_130) else (
      (fs_L_sound_425 T R a0 j403) x2 l3 x5 x6 x7 l9 x11 x8 (1 : Int32) M_130))
def fb_L_sound_403 (T : Ty) (R : Rm) (a0 : Nat) (j452 : Int32 → Int64 → Int32 → Int32 → Int32 → Int32 → Int64 → Int32 → Int32 → Mm → Option (Int32 × Mm)) : Nat → Int32 → Int64 → Int32 → Int32 → Int32 → Int32 → Int64 → Int32 → Mm → Option (Int32 × Mm) :=
  lp (fun j403 => fs_L_sound_403 T R a0 j403 j452) (fun _ _ _ _ _ _ _ _ _ => none)
def fs_L_sound_363 (T : Ty) (R : Rm) (a0 : Nat) (j32 : Int32 → Int32 → Int64 → Int32 → Int32 → Int32 → Int32 → Mm → Option (Int32 × Mm)) (x1 : Int32) (x2 : Int32) (l3 : Int64) (x5 : Int32) (x6 : Int32) (x7 : Int32) (x8 : Int32) (x9 : Int32) (x10 : Int32) (x12 : Int32) (M : Mm) : Option (Int32 × Mm) :=
  bnd (x6 ||| x12) fun v_133 =>
  bnd (x5 + x9) fun v_134 =>
  bnd (l3 + (x10.toInt64)) fun v_135 =>
  bnd (x8 + (1 : Int32)) fun v_136 =>
  j32 x1 x2 v_135 v_134 v_133 x7 v_136 M
def fs_L_sound_264 (T : Ty) (R : Rm) (a0 : Nat) (j32 : Int32 → Int32 → Int64 → Int32 → Int32 → Int32 → Int32 → Mm → Option (Int32 × Mm)) (x1 : Int32) (x2 : Int32) (l3 : Int64) (x5 : Int32) (x6 : Int32) (x7 : Int32) (x8 : Int32) (x9 : Int32) (x10 : Int32) (x12 : Int32) (M : Mm) : Option (Int32 × Mm) :=
  if (x12 &&& x6) = 0 then (
    chk (isK T a0 6) <|
    cal (fn_X6_bandInfo T R a0 x8 (7 : Int32) M) fun r_139 M_140 =>
    if r_139 < 0 then (
      some ((0 : Int32), M_140)) else (
      cal (fn_X6_bandInfo T R a0 x8 (8 : Int32) M_140) fun r_143 M_144 =>
      if r_143 < 0 then (
        some ((0 : Int32), M_144)) else (
        cal (fn_X6_bandInfo T R a0 x8 (9 : Int32) M_144) fun r_147 M_148 =>
        if r_147 < 0 then (
          some ((0 : Int32), M_148)) else (
          if x8 ≤ 0 then (
            (fs_L_sound_363 T R a0 j32) x1 x2 l3 x5 x6 x7 x8 x9 x10 x12 M_148) else (
            cal (fn_X6_bandInfo T R a0 x8 (0 : Int32) M_148) fun r_152 M_153 =>
            cal (fn_X6_bandInfo T R a0 (x8 - (1 : Int32)) (0 : Int32) M_153) fun r_155 M_156 =>
            if r_155 ≤ r_152 then (
              some ((0 : Int32), M_156)) else (
              cal (fn_X6_bandInfo T R a0 x8 (11 : Int32) M_156) fun r_159 M_160 =>
              cal (fn_X6_bandInfo T R a0 (x8 - (1 : Int32)) (10 : Int32) M_160) fun r_162 M_163 =>
              if r_159 = r_162 then (
                (fs_L_sound_363 T R a0 j32) x1 x2 l3 x5 x6 x7 x8 x9 x10 x12 M_163) else (
                cal (fn_X6_bandInfo T R a0 x8 (11 : Int32) M_163) fun r_166 M_167 =>
                if r_166 = 0 then (
                  (fs_L_sound_363 T R a0 j32) x1 x2 l3 x5 x6 x7 x8 x9 x10 x12 M_167) else (
                  some ((0 : Int32), M_167))))))))) else (
    some ((0 : Int32), M))
def fs_L_sound_225 (T : Ty) (R : Rm) (a0 : Nat) (j32 : Int32 → Int32 → Int64 → Int32 → Int32 → Int32 → Int32 → Mm → Option (Int32 × Mm)) (x1 : Int32) (x2 : Int32) (l3 : Int64) (x5 : Int32) (x6 : Int32) (x7 : Int32) (x8 : Int32) (x9 : Int32) (x10 : Int32) (x11 : Int32) (x12 : Int32) (s0 : Int32) (s1 : Int32) (M : Mm) : Option (Int32 × Mm) :=
  if s0 = s1 then (
    if x9 ≤ 0 then (
      (fs_L_sound_264 T R a0 j32) x1 x2 l3 x5 x6 x7 x8 x9 x10 x12 M) else (
      chk (isK T a0 6) <|
      cal (fn_X6_bandInfo T R a0 x8 (5 : Int32) M) fun r_173 M_174 =>
      cal (fn_X6_layer T R a0 x8 (0 : Int32) (0 : Int32) M_174) fun r_176 M_177 =>
      if r_173 = r_176 then (
        cal (fn_X6_bandInfo T R a0 x8 (6 : Int32) M_177) fun r_180 M_181 =>
        if r_180 = x11 then (
          (fs_L_sound_264 T R a0 j32) x1 x2 l3 x5 x6 x7 x8 x9 x10 x12 M_181) else (
          some ((0 : Int32), M_181))) else (
        some ((0 : Int32), M_177)))) else (
    some ((0 : Int32), M))
def fs_L_sound_208 (T : Ty) (R : Rm) (a0 : Nat) (j32 : Int32 → Int32 → Int64 → Int32 → Int32 → Int32 → Int32 → Mm → Option (Int32 × Mm)) (x1 : Int32) (x2 : Int32) (l3 : Int64) (x5 : Int32) (x6 : Int32) (x7 : Int32) (x8 : Int32) (x9 : Int32) (x10 : Int32) (x11 : Int32) (x12 : Int32) (s0 : Int32) (M : Mm) : Option (Int32 × Mm) :=
  chk (isK T a0 6) <|
  cal (fn_X6_bandInfo T R a0 x8 (5 : Int32) M) fun r_185 M_186 =>
  if r_185 = (-2000000004 : Int32) then (
    (fs_L_sound_225 T R a0 j32) x1 x2 l3 x5 x6 x7 x8 x9 x10 x11 x12 s0 (1 : Int32) M_186) else (
    (fs_L_sound_225 T R a0 j32) x1 x2 l3 x5 x6 x7 x8 x9 x10 x11 x12 s0 (0 : Int32) M_186)
def fs_L_sound_170 (T : Ty) (R : Rm) (a0 : Nat) (j32 : Int32 → Int32 → Int64 → Int32 → Int32 → Int32 → Int32 → Mm → Option (Int32 × Mm)) (x1 : Int32) (x2 : Int32) (l3 : Int64) (x5 : Int32) (x6 : Int32) (x8 : Int32) (x9 : Int32) (x10 : Int32) (x11 : Int32) (x12 : Int32) (s0 : Int32) (M : Mm) : Option (Int32 × Mm) :=
  chk (isK T a0 6) <|
  cal (fn_X6_bandInfo T R a0 x8 (3 : Int32) M) fun r_190 M_191 =>
  if x10 = r_190 then (
    cal (fn_X6_layer T R a0 x8 x9 (0 : Int32) M_191) fun r_194 M_195 =>
    if r_194 = (-2000000004 : Int32) then (
      if x9 = 0 then (
        (fs_L_sound_208 T R a0 j32) x1 x2 l3 x5 x6 s0 x8 x9 x10 x11 x12 (1 : Int32) M_195) else (
        (fs_L_sound_208 T R a0 j32) x1 x2 l3 x5 x6 s0 x8 x9 x10 x11 x12 (0 : Int32) M_195)) else (
      some ((0 : Int32), M_195))) else (
    some ((0 : Int32), M_191))
def fs_L_sound_56 (T : Ty) (R : Rm) (a0 : Nat) (j56 : Int32 → Int32 → Int64 → Int32 → Int32 → Int32 → Int32 → Int32 → Int32 → Int32 → Int32 → Mm → Option (Int32 × Mm)) (j170 : Int32 → Int32 → Int64 → Int32 → Int32 → Int32 → Int32 → Int32 → Int32 → Int32 → Int32 → Mm → Option (Int32 × Mm)) (x1 : Int32) (x2 : Int32) (l3 : Int64) (x5 : Int32) (x6 : Int32) (x7 : Int32) (x8 : Int32) (x9 : Int32) (x10 : Int32) (x11 : Int32) (x12 : Int32) (M : Mm) : Option (Int32 × Mm) :=
  if x9 ≤ x12 then (
    chk (isK T a0 6) <|
    cal (fn_X6_stakesIn T R a0 x8 M) fun r_201 M_202 =>
    cal (fn_X6_bandInfo T R a0 x8 (7 : Int32) M_202) fun r_204 M_205 =>
    cal (fn_X6_bandInfo T R a0 x8 (8 : Int32) M_205) fun r_207 M_208 =>
    if r_204 < r_207 then (
      j170 x1 x2 l3 x5 x6 x8 x9 x10 x11 r_201 x7 M_208) else (
      j170 x1 x2 l3 x5 x6 x8 x9 x10 x11 r_201 x8 M_208)) else (
    chk (isK T a0 6) <|
    cal (fn_X6_layer T R a0 x8 x12 (0 : Int32) M) fun r_212 M_213 =>
    if r_212 ≤ x11 then (
      some ((0 : Int32), M_213)) else (
      cal (fn_X6_layer T R a0 x8 x12 (1 : Int32) M_213) fun r_216 M_217 =>
      if r_216 < (1 : Int32) then (
        some ((0 : Int32), M_217)) else (
        cal (fn_X6_layer T R a0 x8 x12 (0 : Int32) M_217) fun r_220 M_221 =>
        if r_220 ≤ x2 then (
          cal (fn_X6_layer T R a0 x8 x12 (0 : Int32) M_221) fun r_224 M_225 =>
          cal (fn_X6_layer T R a0 x8 x12 (1 : Int32) M_225) fun r_227 M_228 =>
          bnd (x10 + r_227) fun v_230 =>
          bnd (x12 + (1 : Int32)) fun v_231 =>
          j56 x1 x2 l3 x5 x6 x7 x8 x9 v_230 r_224 v_231 M_228) else (
          some ((0 : Int32), M_221)))))
def fb_L_sound_56 (T : Ty) (R : Rm) (a0 : Nat) (j170 : Int32 → Int32 → Int64 → Int32 → Int32 → Int32 → Int32 → Int32 → Int32 → Int32 → Int32 → Mm → Option (Int32 × Mm)) : Nat → Int32 → Int32 → Int64 → Int32 → Int32 → Int32 → Int32 → Int32 → Int32 → Int32 → Int32 → Mm → Option (Int32 × Mm) :=
  lp (fun j56 => fs_L_sound_56 T R a0 j56 j170) (fun _ _ _ _ _ _ _ _ _ _ _ _ => none)
def fs_L_sound_32 (T : Ty) (R : Rm) (a0 : Nat) (j32 : Int32 → Int32 → Int64 → Int32 → Int32 → Int32 → Int32 → Mm → Option (Int32 × Mm)) (j403 : Int32 → Int64 → Int32 → Int32 → Int32 → Int32 → Int64 → Int32 → Mm → Option (Int32 × Mm)) (x1 : Int32) (x2 : Int32) (l3 : Int64) (x5 : Int32) (x6 : Int32) (x7 : Int32) (x8 : Int32) (M : Mm) : Option (Int32 × Mm) :=
  if x1 ≤ x8 then (
    chk (isK T a0 6) <|
    cal (fn_X6_front T R a0 (0 : Int32) M) fun r_234 M_235 =>
    bnd (r_234.toInt64) fun v_237 =>
    j403 x2 l3 x5 x6 x7 (0 : Int32) v_237 (0 : Int32) M_235) else (
    chk (isK T a0 6) <|
    cal (fn_X6_bandInfo T R a0 x8 (4 : Int32) M) fun r_239 M_240 =>
    (fb_L_sound_56 T R a0 (fs_L_sound_170 T R a0 j32) FU) x1 x2 l3 x5 x6 x7 x8 r_239 (0 : Int32) (-1 : Int32) (0 : Int32) M_240)
def fb_L_sound_32 (T : Ty) (R : Rm) (a0 : Nat) (j403 : Int32 → Int64 → Int32 → Int32 → Int32 → Int32 → Int64 → Int32 → Mm → Option (Int32 × Mm)) : Nat → Int32 → Int32 → Int64 → Int32 → Int32 → Int32 → Int32 → Mm → Option (Int32 × Mm) :=
  lp (fun j32 => fs_L_sound_32 T R a0 j32 j403) (fun _ _ _ _ _ _ _ _ => none)
def fn_L_sound (T : Ty) (R : Rm) (a0 : Nat) (M : Mm) : Option (Int32 × Mm) :=
  chk (isK T a0 6) <|
  cal (fn_X6_count T R a0 (0 : Int32) M) fun r_243 M_244 =>
  cal (fn_X6_count T R a0 (1 : Int32) M_244) fun r_246 M_247 =>
  cal (fn_X6_front T R a0 (0 : Int32) M_247) fun r_249 M_250 =>
  bnd (r_249.toInt64) fun v_252 =>
  (fb_L_sound_32 T R a0 (fb_L_sound_403 T R a0 (fb_L_sound_452 T R a0 (fs_L_sound_768 T R a0) FU) FU) FU) r_243 r_246 v_252 (0 : Int32) (0 : Int32) (-2000000004 : Int32) (0 : Int32) M_250
def fs_L_thoughts_219 (T : Ty) (a0 : Nat) (x1 : Int32) (j219 : Int32 → Int32 → Int64 → Int32 → Mm → Rm → Option (Int32 × Mm × Rm)) (x10 : Int32) (x11 : Int32) (l12 : Int64) (x14 : Int32) (M : Mm) (R : Rm) : Option (Int32 × Mm × Rm) :=
  chk (isK T a0 6) <|
  cal (fn_X6_count T R a0 (0 : Int32) M) fun r_2 M_3 =>
  if r_2 ≤ x14 then (
    if (lg_cmp l12 (0 : Int64)) < 0 then (
      some ((0 : Int32), M_3, R)) else (
      cal (fn_X6_steadyMelt T R a0 M_3) fun r_7 M_8 =>
      if r_7 = x10 then (
        calR (fn_X6_undo T a0 M_8 R) fun r_11 M_12 R_14 =>
        if r_11 < 0 then (
          some ((0 : Int32), M_12, R_14)) else (
          cal (fn_X6_count T R_14 a0 (8 : Int32) M_12) fun r_16 M_17 =>
          if r_16 = x11 then (
            some ((1 : Int32), M_17, R_14)) else (
            some ((0 : Int32), M_17, R_14)))) else (
        some ((0 : Int32), M_8, R)))) else (
    cal (fn_X6_bandInfo T R a0 x14 (7 : Int32) M_3) fun r_20 M_21 =>
    cal (fn_X6_bandInfo T R a0 x14 (8 : Int32) M_21) fun r_23 M_24 =>
    bnd (l12 + ((r_20 - r_23).toInt64)) fun v_26 =>
    bnd (x14 + (1 : Int32)) fun v_27 =>
    j219 x10 x11 v_26 v_27 M_24 R)
def fb_L_thoughts_219 (T : Ty) (a0 : Nat) (x1 : Int32) : Nat → Int32 → Int32 → Int64 → Int32 → Mm → Rm → Option (Int32 × Mm × Rm) :=
  lp (fun j219 => fs_L_thoughts_219 T a0 x1 j219) (fun _ _ _ _ _ _ => none)
def fs_L_thoughts_134 (T : Ty) (a0 : Nat) (x1 : Int32) (x6 : Int32) (l7 : Int64) (s0 : Int32) (s1 : Int32) (M : Mm) (R : Rm) : Option (Int32 × Mm × Rm) :=
  if s0 = s1 then (
    chk (isK T a0 6) <|
    calR (fn_X6_undo T a0 M R) fun r_30 M_31 R_33 =>
    if r_30 < 0 then (
      some ((0 : Int32), M_31, R_33)) else (
      cal (fn_X6_count T R_33 a0 (1 : Int32) M_31) fun r_35 M_36 =>
      if r_35 = x6 then (
        cal (fn_X6_account T R_33 a0 (4 : Int32) M_36) fun r_39 M_40 =>
        if (lg_cmp r_39 l7) = 0 then (
          cal (fn_X6_steadyMelt T R_33 a0 M_40) fun r_43 M_44 =>
          cal (fn_X6_count T R_33 a0 (8 : Int32) M_44) fun r_46 M_47 =>
          if r_43 = (-2000000004 : Int32) then (
            if r_46 < 0 then (
              some ((0 : Int32), M_47, R_33)) else (
              some ((1 : Int32), M_47, R_33))) else (
            calR (fn_X6_set T a0 (2 : Int32) r_43 M_47 R_33) fun r_50 M_51 R_53 =>
            if r_50 = r_46 then (
              (fb_L_thoughts_219 T a0 x1 FU) r_43 r_46 (0 : Int64) (0 : Int32) M_51 R_53) else (
              some ((0 : Int32), M_51, R_53)))) else (
          some ((0 : Int32), M_40, R_33))) else (
        some ((0 : Int32), M_36, R_33)))) else (
    some ((0 : Int32), M, R))
def fs_L_thoughts_125 (T : Ty) (a0 : Nat) (x1 : Int32) (x3 : Int32) (x6 : Int32) (l7 : Int64) (s0 : Int32) (M : Mm) (R : Rm) : Option (Int32 × Mm × Rm) :=
  if x3 ≤ 0 then (
    (fs_L_thoughts_134 T a0 x1) x6 l7 s0 (0 : Int32) M R) else (
    (fs_L_thoughts_134 T a0 x1) x6 l7 s0 (1 : Int32) M R)
def fs_L_thoughts_124 (T : Ty) (a0 : Nat) (x1 : Int32) (x3 : Int32) (x6 : Int32) (l7 : Int64) (M : Mm) (R : Rm) : Option (Int32 × Mm × Rm) :=
  (fs_L_thoughts_125 T a0 x1) x3 x6 l7 (0 : Int32) M R
def fn_L_thoughts (T : Ty) (a0 : Nat) (x1 : Int32) (M : Mm) (R : Rm) : Option (Int32 × Mm × Rm) :=
  cal (fn_L_low T R x1 (40 : Int32) M) fun r_57 M_58 =>
  bnd ((1 : Int32) + r_57) fun v_60 =>
  chk (isK T a0 6) <|
  cal (fn_X6_ifYears T R a0 v_60 (1 : Int32) M_58) fun r_62 M_63 =>
  cal (fn_X6_ifYears T R a0 v_60 (0 : Int32) M_63) fun r_65 M_66 =>
  cal (fn_X6_yearsTo T R a0 (0 : Int32) M_66) fun r_68 M_69 =>
  cal (fn_X6_count T R a0 (1 : Int32) M_69) fun r_71 M_72 =>
  cal (fn_X6_account T R a0 (4 : Int32) M_72) fun r_74 M_75 =>
  if (r_71 + v_60) ≤ (500 : Int32) then (
    calR (fn_X6_years T a0 v_60 M_75 R) fun r_78 M_79 R_81 =>
    if r_78 = r_62 then (
      cal (fn_X6_account T R_81 a0 (4 : Int32) M_79) fun r_83 M_84 =>
      if (lg_cmp r_83 (r_65.toInt64)) = 0 then (
        if r_68 = (-2000000004 : Int32) then (
          (fs_L_thoughts_124 T a0 x1) r_62 r_71 r_74 M_84 R_81) else (
          if v_60 < r_68 then (
            (fs_L_thoughts_124 T a0 x1) r_62 r_71 r_74 M_84 R_81) else (
            (fs_L_thoughts_125 T a0 x1) r_62 r_71 r_74 (1 : Int32) M_84 R_81))) else (
        some ((0 : Int32), M_84, R_81))) else (
      some ((0 : Int32), M_79, R_81))) else (
    calR (fn_X6_years T a0 v_60 M_75 R) fun r_89 M_90 R_92 =>
    if r_89 = (-2000000003 : Int32) then (
      cal (fn_X6_account T R_92 a0 (4 : Int32) M_90) fun r_94 M_95 =>
      if (lg_cmp r_94 r_74) = 0 then (
        some ((1 : Int32), M_95, R_92)) else (
        some ((0 : Int32), M_95, R_92))) else (
      some ((0 : Int32), M_90, R_92)))
def fs_L_refuses_368 (T : Ty) (a0 : Nat) (x1 : Int32) (x2 : Int32) (x3 : Int32) (s0 : Int32) (M : Mm) (R : Rm) : Option (Int32 × Mm × Rm) :=
  if s0 = 0 then (
    some ((0 : Int32), M, R)) else (
    chk (isK T a0 6) <|
    cal (fn_X6_count T R a0 (13 : Int32) M) fun r_3 M_4 =>
    if r_3 = x1 then (
      cal (fn_X6_count T R a0 (0 : Int32) M_4) fun r_7 M_8 =>
      if r_7 = x2 then (
        cal (fn_X6_count T R a0 (2 : Int32) M_8) fun r_11 M_12 =>
        if r_11 = x3 then (
          some ((1 : Int32), M_12, R)) else (
          some ((0 : Int32), M_12, R))) else (
        some ((0 : Int32), M_8, R))) else (
      some ((0 : Int32), M_4, R)))
def fs_L_refuses_367 (T : Ty) (a0 : Nat) (x1 : Int32) (x2 : Int32) (x3 : Int32) (M : Mm) (R : Rm) : Option (Int32 × Mm × Rm) :=
  (fs_L_refuses_368 T a0) x1 x2 x3 (0 : Int32) M R
def fs_L_refuses_239 (T : Ty) (a0 : Nat) (x1 : Int32) (x2 : Int32) (x3 : Int32) (s0 : Int32) (M : Mm) (R : Rm) : Option (Int32 × Mm × Rm) :=
  if s0 = 0 then (
    (fs_L_refuses_367 T a0) x1 x2 x3 M R) else (
    chk (isK T a0 6) <|
    calR (fn_X6_stake T a0 x2 (0 : Int32) (1 : Int32) M R) fun r_17 M_18 R_20 =>
    if r_17 = (-2000000001 : Int32) then (
      calR (fn_X6_pull T a0 x3 M_18 R_20) fun r_22 M_23 R_25 =>
      if r_22 = (-2000000001 : Int32) then (
        cal (fn_X6_stakeInfo T R_25 a0 x3 (0 : Int32) M_23) fun r_27 M_28 =>
        if r_27 = (-2000000001 : Int32) then (
          cal (fn_X6_stakesIn T R_25 a0 (-1 : Int32) M_28) fun r_31 M_32 =>
          if r_31 = (-2000000001 : Int32) then (
            calR (fn_X6_years T a0 (0 : Int32) M_32 R_25) fun r_35 M_36 R_38 =>
            if r_35 = (-2000000001 : Int32) then (
              calR (fn_X6_years T a0 (101 : Int32) M_36 R_38) fun r_40 M_41 R_43 =>
              if r_40 = (-2000000001 : Int32) then (
                cal (fn_X6_ifYears T R_43 a0 (0 : Int32) (0 : Int32) M_41) fun r_45 M_46 =>
                if r_45 = (-2000000001 : Int32) then (
                  cal (fn_X6_ifYears T R_43 a0 (1 : Int32) (5 : Int32) M_46) fun r_49 M_50 =>
                  if r_49 = (-2000000001 : Int32) then (
                    cal (fn_X6_yearsTo T R_43 a0 (3 : Int32) M_50) fun r_53 M_54 =>
                    if r_53 = (-2000000001 : Int32) then (
                      cal (fn_X6_type T R_43 a0 (31 : Int32) M_54) fun r_57 M_58 =>
                      if r_57 = (-2000000001 : Int32) then (
                        cal (fn_X6_fault T R_43 a0 (2 : Int32) M_58) fun r_61 M_62 =>
                        if r_61 = (-2000000001 : Int32) then (
                          (fs_L_refuses_368 T a0) x1 x2 x3 (1 : Int32) M_62 R_43) else (
                          (fs_L_refuses_367 T a0) x1 x2 x3 M_62 R_43)) else (
                        (fs_L_refuses_367 T a0) x1 x2 x3 M_58 R_43)) else (
                      (fs_L_refuses_367 T a0) x1 x2 x3 M_54 R_43)) else (
                    (fs_L_refuses_367 T a0) x1 x2 x3 M_50 R_43)) else (
                  (fs_L_refuses_367 T a0) x1 x2 x3 M_46 R_43)) else (
                (fs_L_refuses_367 T a0) x1 x2 x3 M_41 R_43)) else (
              (fs_L_refuses_367 T a0) x1 x2 x3 M_36 R_38)) else (
            (fs_L_refuses_367 T a0) x1 x2 x3 M_32 R_25)) else (
          (fs_L_refuses_367 T a0) x1 x2 x3 M_28 R_25)) else (
        (fs_L_refuses_367 T a0) x1 x2 x3 M_23 R_25)) else (
      (fs_L_refuses_367 T a0) x1 x2 x3 M_18 R_20))
def fs_L_refuses_238 (T : Ty) (a0 : Nat) (x1 : Int32) (x2 : Int32) (x3 : Int32) (M : Mm) (R : Rm) : Option (Int32 × Mm × Rm) :=
  (fs_L_refuses_239 T a0) x1 x2 x3 (0 : Int32) M R
def fn_L_refuses (T : Ty) (a0 : Nat) (M : Mm) (R : Rm) : Option (Int32 × Mm × Rm) :=
  chk (isK T a0 6) <|
  cal (fn_X6_count T R a0 (13 : Int32) M) fun r_66 M_67 =>
  cal (fn_X6_count T R a0 (0 : Int32) M_67) fun r_69 M_70 =>
  cal (fn_X6_count T R a0 (2 : Int32) M_70) fun r_72 M_73 =>
  calR (fn_X6_set T a0 (7 : Int32) (0 : Int32) M_73 R) fun r_75 M_76 R_78 =>
  if r_75 = (-2000000001 : Int32) then (
    calR (fn_X6_set T a0 (0 : Int32) (5001 : Int32) M_76 R_78) fun r_80 M_81 R_83 =>
    if r_80 = (-2000000001 : Int32) then (
      calR (fn_X6_set T a0 (1 : Int32) (501 : Int32) M_81 R_83) fun r_85 M_86 R_88 =>
      if r_85 = (-2000000001 : Int32) then (
        calR (fn_X6_set T a0 (2 : Int32) (9001 : Int32) M_86 R_88) fun r_90 M_91 R_93 =>
        if r_90 = (-2000000001 : Int32) then (
          calR (fn_X6_set T a0 (5 : Int32) (0 : Int32) M_91 R_93) fun r_95 M_96 R_98 =>
          if r_95 = (-2000000001 : Int32) then (
            calR (fn_X6_set T a0 (6 : Int32) (-1 : Int32) M_96 R_98) fun r_100 M_101 R_103 =>
            if r_100 = (-2000000001 : Int32) then (
              calR (fn_X6_band T a0 (5001 : Int32) (100 : Int32) (0 : Int32) (0 : Int32) M_101 R_103) fun r_105 M_106 R_108 =>
              if r_105 = (-2000000001 : Int32) then (
                calR (fn_X6_band T a0 (0 : Int32) (99 : Int32) (0 : Int32) (0 : Int32) M_106 R_108) fun r_110 M_111 R_113 =>
                if r_110 = (-2000000001 : Int32) then (
                  calR (fn_X6_band T a0 (0 : Int32) (100 : Int32) (501 : Int32) (0 : Int32) M_111 R_113) fun r_115 M_116 R_118 =>
                  if r_115 = (-2000000001 : Int32) then (
                    calR (fn_X6_band T a0 (0 : Int32) (100 : Int32) (0 : Int32) (1000001 : Int32) M_116 R_118) fun r_120 M_121 R_123 =>
                    if r_120 = (-2000000001 : Int32) then (
                      calR (fn_X6_creep T a0 r_69 (0 : Int32) M_121 R_123) fun r_125 M_126 R_128 =>
                      if r_125 = (-2000000001 : Int32) then (
                        cal (fn_X6_bandInfo T R_128 a0 r_69 (0 : Int32) M_126) fun r_130 M_131 =>
                        if r_130 = (-2000000001 : Int32) then (
                          cal (fn_X6_layer T R_128 a0 r_69 (0 : Int32) (0 : Int32) M_131) fun r_134 M_135 =>
                          if r_134 = (-2000000001 : Int32) then (
                            cal (fn_X6_ofYear T R_128 a0 (501 : Int32) M_135) fun r_138 M_139 =>
                            if r_138 = (-2000000001 : Int32) then (
                              cal (fn_X6_front T R_128 a0 (4 : Int32) M_139) fun r_142 M_143 =>
                              if r_142 = (-2000000001 : Int32) then (
                                cal (fn_X6_account T R_128 a0 (6 : Int32) M_143) fun r_146 M_147 =>
                                if (lg_cmp r_146 (-2000000001 : Int64)) = 0 then (
                                  cal (fn_X6_count T R_128 a0 (15 : Int32) M_147) fun r_150 M_151 =>
                                  if r_150 = (-2000000001 : Int32) then (
                                    (fs_L_refuses_239 T a0) r_66 r_69 r_72 (1 : Int32) M_151 R_128) else (
                                    (fs_L_refuses_238 T a0) r_66 r_69 r_72 M_151 R_128)) else (
                                  (fs_L_refuses_238 T a0) r_66 r_69 r_72 M_147 R_128)) else (
                                (fs_L_refuses_238 T a0) r_66 r_69 r_72 M_143 R_128)) else (
                              (fs_L_refuses_238 T a0) r_66 r_69 r_72 M_139 R_128)) else (
                            (fs_L_refuses_238 T a0) r_66 r_69 r_72 M_135 R_128)) else (
                          (fs_L_refuses_238 T a0) r_66 r_69 r_72 M_131 R_128)) else (
                        (fs_L_refuses_238 T a0) r_66 r_69 r_72 M_126 R_128)) else (
                      (fs_L_refuses_238 T a0) r_66 r_69 r_72 M_121 R_123)) else (
                    (fs_L_refuses_238 T a0) r_66 r_69 r_72 M_116 R_118)) else (
                  (fs_L_refuses_238 T a0) r_66 r_69 r_72 M_111 R_113)) else (
                (fs_L_refuses_238 T a0) r_66 r_69 r_72 M_106 R_108)) else (
              (fs_L_refuses_238 T a0) r_66 r_69 r_72 M_101 R_103)) else (
            (fs_L_refuses_238 T a0) r_66 r_69 r_72 M_96 R_98)) else (
          (fs_L_refuses_238 T a0) r_66 r_69 r_72 M_91 R_93)) else (
        (fs_L_refuses_238 T a0) r_66 r_69 r_72 M_86 R_88)) else (
      (fs_L_refuses_238 T a0) r_66 r_69 r_72 M_81 R_83)) else (
    (fs_L_refuses_238 T a0) r_66 r_69 r_72 M_76 R_78)
