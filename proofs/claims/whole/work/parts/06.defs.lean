def fs_J7_fill_53178_5 (T : Ty) (R : Rm) (a0 : Nat) (x1 : Int32) (j5 : Int32 → Int32 → Mm → Option (Unit × Mm)) (x2 : Int32) (x3 : Int32) (M : Mm) : Option (Unit × Mm) :=
  if x3 ≤ x2 then (
    some ((), M)) else (
    chk (isK T a0 9) <|
    chk (inb x2 (lnT T a0)) <|
    bnd (sI M a0 x2.toNatClampNeg x1) fun M_4 =>
    bnd (x2 + (1 : Int32)) fun v_5 =>
    j5 v_5 x3 M_4)
def fb_J7_fill_53178_5 (T : Ty) (R : Rm) (a0 : Nat) (x1 : Int32) : Nat → Int32 → Int32 → Mm → Option (Unit × Mm) :=
  lp (fun j5 => fs_J7_fill_53178_5 T R a0 x1 j5) (fun _ _ _ => none)
def fn_J7_fill_53178 (T : Ty) (R : Rm) (a0 : Nat) (x1 : Int32) (M : Mm) : Option (Unit × Mm) :=
  chk (isK T a0 9) <|
  bnd (Int32.ofNat (lnT T a0)) fun v_7 =>
  (fb_J7_fill_53178_5 T R a0 x1 FU) (0 : Int32) v_7 M
def fn_X2_leftOf (T : Ty) (R : Rm) (a0 : Nat) (x1 : Int32) (M : Mm) : Option (Int32 × Mm) :=
  if x1 < 0 then (
    some ((0 : Int32), M)) else (
    if (801 : Int32) ≤ x1 then (
      some ((0 : Int32), M)) else (
      chk (isK T a0 2) <|
      rfm (R a0 0) fun b_4 =>
      chk (isK T b_4 9) <|
      chk (inb x1 (lnT T b_4)) <|
      some ((gI M b_4 x1.toNatClampNeg), M)))
def fs_X2_narrow_54 (T : Ty) (R : Rm) (a0 : Nat) (j54 : Mm → Option (Unit × Mm))  (M : Mm) : Option (Unit × Mm) :=
  chk (isK T a0 2) <|
  if (gI M a0 3) ≤ (gI M a0 2) then (
    some ((), M)) else (
    cal (fn_X2_leftOf T R a0 (gI M a0 3) M) fun r_3 M_4 =>
    if r_3 = 0 then (
      bnd (sI M_4 a0 3 ((gI M_4 a0 3) - (1 : Int32))) fun M_7 =>
      j54 M_7) else (
      some ((), M_4)))
def fb_X2_narrow_54 (T : Ty) (R : Rm) (a0 : Nat) : Nat → Mm → Option (Unit × Mm) :=
  lp (fun j54 => fs_X2_narrow_54 T R a0 j54) (fun _ => none)
def fs_X2_narrow_19 (T : Ty) (R : Rm) (a0 : Nat) (j19 : Mm → Option (Unit × Mm)) (j54 : Mm → Option (Unit × Mm))  (M : Mm) : Option (Unit × Mm) :=
  chk (isK T a0 2) <|
  if (gI M a0 3) ≤ (gI M a0 2) then (
    j54 M) else (
    cal (fn_X2_leftOf T R a0 (gI M a0 2) M) fun r_10 M_11 =>
    if r_10 = 0 then (
      bnd (sI M_11 a0 2 ((gI M_11 a0 2) + (1 : Int32))) fun M_14 =>
      j19 M_14) else (
      j54 M_11))
def fb_X2_narrow_19 (T : Ty) (R : Rm) (a0 : Nat) (j54 : Mm → Option (Unit × Mm)) : Nat → Mm → Option (Unit × Mm) :=
  lp (fun j19 => fs_X2_narrow_19 T R a0 j19 j54) (fun _ => none)
def fn_X2_narrow (T : Ty) (R : Rm) (a0 : Nat) (M : Mm) : Option (Unit × Mm) :=
  chk (isK T a0 2) <|
  if (gI M a0 1) = 0 then (
    bnd (sI M a0 2 (801 : Int32)) fun M_17 =>
    bnd (sI M_17 a0 3 (-1 : Int32)) fun M_18 =>
    (fb_X2_narrow_19 T R a0 (fb_X2_narrow_54 T R a0 FU) FU) M_18) else (
    (fb_X2_narrow_19 T R a0 (fb_X2_narrow_54 T R a0 FU) FU) M)
def fn_X2_empty (T : Ty) (R : Rm) (a0 : Nat) (M : Mm) : Option (Unit × Mm) :=
  chk (isK T a0 2) <|
  rfm (R a0 0) fun b_2 =>
  cal (fn_J7_fill_53178 T R b_2 (0 : Int32) M) fun _ M_4 =>
  bnd (sI M_4 a0 1 (0 : Int32)) fun M_6 =>
  cal (fn_X2_narrow T R a0 M_6) fun _ M_8 =>
  some ((), M_8)
def fn_X0_begin (T : Ty) (R : Rm) (a0 : Nat) (x1 : Int32) (x2 : Int32) (x3 : Int32) (M : Mm) : Option (Unit × Mm) :=
  chk (isK T a0 0) <|
  bnd (sI M a0 1 x1) fun M_2 =>
  bnd (sI M_2 a0 2 x2) fun M_3 =>
  bnd (sI M_3 a0 3 x3) fun M_4 =>
  bnd (sI M_4 a0 4 (0 : Int32)) fun M_5 =>
  bnd (sI M_5 a0 5 (0 : Int32)) fun M_6 =>
  bnd (sI M_6 a0 6 (0 : Int32)) fun M_7 =>
  rfm (R a0 0) fun b_8 =>
  chk (isK T b_8 2) <|
  cal (fn_X2_empty T R b_8 M_7) fun _ M_11 =>
  some ((), M_11)
def fn_X2_copyFrom (T : Ty) (R : Rm) (a0 : Nat) (a1 : Nat) (M : Mm) : Option (Unit × Mm) :=
  chk (isK T a1 2) <|
  rfm (R a1 0) fun b_2 =>
  chk (isK T a0 2) <|
  rfm (R a0 0) fun b_4 =>
  chk (isK T b_2 9) <|
  chk (isK T b_4 9) <|
  chk (cpok (0 : Int32) (0 : Int32) (801 : Int32) (lnT T b_2) (lnT T b_4)) <|
  bnd (cpI M b_2 b_4 (0 : Int32).toNatClampNeg (0 : Int32).toNatClampNeg (801 : Int32).toNatClampNeg) fun M_8 =>
  bnd (sI M_8 a0 1 (gI M_8 a1 1)) fun M_9 =>
  bnd (sI M_9 a0 2 (gI M_9 a1 2)) fun M_10 =>
  bnd (sI M_10 a0 3 (gI M_10 a1 3)) fun M_11 =>
  some ((), M_11)
def fn_X0_copyFrom (T : Ty) (R : Rm) (a0 : Nat) (a1 : Nat) (M : Mm) : Option (Unit × Mm) :=
  chk (isK T a0 0) <|
  rfm (R a0 0) fun b_2 =>
  chk (isK T a1 0) <|
  rfm (R a1 0) fun b_4 =>
  chk (isK T b_2 2) <|
  cal (fn_X2_copyFrom T R b_2 b_4 M) fun _ M_7 =>
  bnd (sI M_7 a0 1 (gI M_7 a1 1)) fun M_9 =>
  bnd (sI M_9 a0 2 (gI M_9 a1 2)) fun M_10 =>
  bnd (sI M_10 a0 3 (gI M_10 a1 3)) fun M_11 =>
  bnd (sI M_11 a0 4 (gI M_11 a1 4)) fun M_12 =>
  bnd (sI M_12 a0 5 (gI M_12 a1 5)) fun M_13 =>
  bnd (sI M_13 a0 6 (gI M_13 a1 6)) fun M_14 =>
  some ((), M_14)
def fn_X0_iceToGive (T : Ty) (R : Rm) (a0 : Nat) (M : Mm) : Option (Int32 × Mm) :=
  chk (isK T a0 0) <|
  rfm (R a0 0) fun b_2 =>
  chk (isK T b_2 2) <|
  some ((((((gI M b_2 1).toInt64) * ((gI M a0 3).toInt64)) / (1000 : Int64)).toInt32), M)
def fn_X0_way (T : Ty) (R : Rm) (a0 : Nat) (M : Mm) : Option (Int32 × Mm) :=
  chk (isK T a0 0) <|
  some ((((gI M a0 2) * (gI M a0 3)) / (1000 : Int32)), M)
def fn_X1_copyFrom (T : Ty) (R : Rm) (a0 : Nat) (a1 : Nat) (M : Mm) : Option (Unit × Mm) :=
  chk (isK T a1 1) <|
  chk (isK T a0 1) <|
  bnd (sI M a0 0 (gI M a1 0)) fun M_3 =>
  bnd (sI M_3 a0 1 (gI M_3 a1 1)) fun M_4 =>
  bnd (sI M_4 a0 2 (gI M_4 a1 2)) fun M_5 =>
  bnd (sI M_5 a0 3 (gI M_5 a1 3)) fun M_6 =>
  some ((), M_6)
def fn_X1_calve (T : Ty) (R : Rm) (a0 : Nat) (x1 : Int32) (x2 : Int32) (x3 : Int32) (M : Mm) : Option (Int32 × Mm) :=
  chk (isK T a0 1) <|
  if (gI M a0 1) ≤ 0 then (
    if x1 ≤ 0 then (
      some ((0 : Int32), M)) else (
      if x1 ≤ (gI M a0 0) then (
        chk (decide (¬ x1 = 0)) <|
        bnd ((gI M a0 0) / x1) fun v_6 =>
        bnd (sI M a0 2 ((gI M a0 2) + v_6)) fun M_7 =>
        bnd (sI M_7 a0 0 ((gI M_7 a0 0) - (v_6 * x1))) fun M_8 =>
        bnd (sI M_8 a0 1 x2) fun M_9 =>
        bnd (sI M_9 a0 3 x3) fun M_10 =>
        some ((v_6 * x1), M_10)) else (
        some ((0 : Int32), M)))) else (
    bnd (sI M a0 1 ((gI M a0 1) - (1 : Int32))) fun M_11 =>
    some ((0 : Int32), M_11))
def fn_X2_add (T : Ty) (R : Rm) (a0 : Nat) (x1 : Int32) (x2 : Int32) (M : Mm) : Option (Unit × Mm) :=
  if x2 ≤ 0 then (
    some ((), M)) else (
    if x1 < 0 then (
      some ((), M)) else (
      if x1 < (801 : Int32) then (
        chk (isK T a0 2) <|
        rfm (R a0 0) fun b_5 =>
        chk (isK T b_5 9) <|
        chk (inb x1 (lnT T b_5)) <|
        bnd (sI M b_5 x1.toNatClampNeg ((gI M b_5 x1.toNatClampNeg) + x2)) fun M_8 =>
        bnd (sI M_8 a0 1 ((gI M_8 a0 1) + x2)) fun M_9 =>
        bnd (if x1 < (gI M_9 a0 2) then x1 else (gI M_9 a0 2)) fun v_10 =>
        bnd (sI M_9 a0 2 v_10) fun M_11 =>
        bnd (if (gI M_11 a0 3) < x1 then x1 else (gI M_11 a0 3)) fun v_12 =>
        bnd (sI M_11 a0 3 v_12) fun M_13 =>
        some ((), M_13)) else (
        some ((), M))))
def fn_X2_takeOfYear (T : Ty) (R : Rm) (a0 : Nat) (x1 : Int32) (x2 : Int32) (M : Mm) : Option (Int32 × Mm) :=
  chk (isK T a0 2) <|
  cal (fn_X2_leftOf T R a0 x1 M) fun r_2 M_3 =>
  bnd (if x2 < r_2 then x2 else r_2) fun v_5 =>
  if v_5 ≤ 0 then (
    some (v_5, M_3)) else (
    rfm (R a0 0) fun b_7 =>
    chk (isK T b_7 9) <|
    chk (inb x1 (lnT T b_7)) <|
    bnd (sI M_3 b_7 x1.toNatClampNeg ((gI M_3 b_7 x1.toNatClampNeg) - v_5)) fun M_10 =>
    bnd (sI M_10 a0 1 ((gI M_10 a0 1) - v_5)) fun M_11 =>
    some (v_5, M_11))
def fs_X2_takeFromLatest_46 (T : Ty) (R : Rm) (a0 : Nat) (x1 : Int32) (x2 : Int32) (M : Mm) : Option (Int32 × Mm) :=
  chk (isK T a0 2) <|
  cal (fn_X2_narrow T R a0 M) fun _ M_3 =>
  some (x2, M_3)
def fs_X2_takeFromLatest_17 (T : Ty) (R : Rm) (a0 : Nat) (x1 : Int32) (j17 : Int32 → Int32 → Int32 → Mm → Option (Int32 × Mm)) (j46 : Int32 → Mm → Option (Int32 × Mm)) (x2 : Int32) (x3 : Int32) (x4 : Int32) (M : Mm) : Option (Int32 × Mm) :=
  chk (isK T a0 2) <|
  if x4 < (gI M a0 2) then (
    j46 x2 M) else (
    if x3 ≤ 0 then (
      j46 x2 M) else (
      cal (fn_X2_takeOfYear T R a0 x4 x3 M) fun r_8 M_9 =>
      bnd (x3 - r_8) fun v_11 =>
      bnd (x4 + (-1 : Int32)) fun v_12 =>
      j17 x2 v_11 v_12 M_9))
def fb_X2_takeFromLatest_17 (T : Ty) (R : Rm) (a0 : Nat) (x1 : Int32) (j46 : Int32 → Mm → Option (Int32 × Mm)) : Nat → Int32 → Int32 → Int32 → Mm → Option (Int32 × Mm) :=
  lp (fun j17 => fs_X2_takeFromLatest_17 T R a0 x1 j17 j46) (fun _ _ _ _ => none)
def fn_X2_takeFromLatest (T : Ty) (R : Rm) (a0 : Nat) (x1 : Int32) (M : Mm) : Option (Int32 × Mm) :=
  chk (isK T a0 2) <|
  bnd (if (gI M a0 1) < x1 then (gI M a0 1) else x1) fun v_14 =>
  bnd (gI M a0 3) fun v_15 =>
  (fb_X2_takeFromLatest_17 T R a0 x1 (fs_X2_takeFromLatest_46 T R a0 x1) FU) v_14 v_14 v_15 M
def fs_X2_giveFromOldest_60 (T : Ty) (R : Rm) (a0 : Nat) (x1 : Int32) (a2 : Nat)  (M : Mm) : Option (Unit × Mm) :=
  chk (isK T a0 2) <|
  cal (fn_X2_narrow T R a0 M) fun _ M_3 =>
  some ((), M_3)
def fs_X2_giveFromOldest_54 (T : Ty) (R : Rm) (a0 : Nat) (x1 : Int32) (a2 : Nat) (j15 : Int32 → Int32 → Mm → Option (Unit × Mm)) (x3 : Int32) (x4 : Int32) (M : Mm) : Option (Unit × Mm) :=
  bnd (x4 + (1 : Int32)) fun v_5 =>
  j15 x3 v_5 M
def fs_X2_giveFromOldest_15 (T : Ty) (R : Rm) (a0 : Nat) (x1 : Int32) (a2 : Nat) (j15 : Int32 → Int32 → Mm → Option (Unit × Mm)) (j60 : Mm → Option (Unit × Mm)) (x3 : Int32) (x4 : Int32) (M : Mm) : Option (Unit × Mm) :=
  chk (isK T a0 2) <|
  if (gI M a0 3) < x4 then (
    j60 M) else (
    if x3 ≤ 0 then (
      j60 M) else (
      cal (fn_X2_takeOfYear T R a0 x4 x3 M) fun r_9 M_10 =>
      bnd (x3 - r_9) fun v_12 =>
      chk (isK T a2 2) <|
      cal (fn_X2_add T R a2 x4 r_9 M_10) fun _ M_15 =>
      (fs_X2_giveFromOldest_54 T R a0 x1 a2 j15) v_12 x4 M_15))
def fb_X2_giveFromOldest_15 (T : Ty) (R : Rm) (a0 : Nat) (x1 : Int32) (a2 : Nat) (j60 : Mm → Option (Unit × Mm)) : Nat → Int32 → Int32 → Mm → Option (Unit × Mm) :=
  lp (fun j15 => fs_X2_giveFromOldest_15 T R a0 x1 a2 j15 j60) (fun _ _ _ => none)
def fn_X2_giveFromOldest (T : Ty) (R : Rm) (a0 : Nat) (x1 : Int32) (a2 : Nat) (M : Mm) : Option (Unit × Mm) :=
  chk (isK T a0 2) <|
  bnd (if (gI M a0 1) < x1 then (gI M a0 1) else x1) fun v_18 =>
  bnd (gI M a0 2) fun v_19 =>
  (fb_X2_giveFromOldest_15 T R a0 x1 a2 (fs_X2_giveFromOldest_60 T R a0 x1 a2) FU) v_18 v_19 M
def fs_X2_giveFromOldest_N_60 (T : Ty) (R : Rm) (a0 : Nat) (x1 : Int32)  (M : Mm) : Option (Unit × Mm) :=
  chk (isK T a0 2) <|
  cal (fn_X2_narrow T R a0 M) fun _ M_3 =>
  some ((), M_3)
def fs_X2_giveFromOldest_N_54 (T : Ty) (R : Rm) (a0 : Nat) (x1 : Int32) (j15 : Int32 → Int32 → Mm → Option (Unit × Mm)) (x3 : Int32) (x4 : Int32) (M : Mm) : Option (Unit × Mm) :=
  bnd (x4 + (1 : Int32)) fun v_5 =>
  j15 x3 v_5 M
def fs_X2_giveFromOldest_N_15 (T : Ty) (R : Rm) (a0 : Nat) (x1 : Int32) (j15 : Int32 → Int32 → Mm → Option (Unit × Mm)) (j60 : Mm → Option (Unit × Mm)) (x3 : Int32) (x4 : Int32) (M : Mm) : Option (Unit × Mm) :=
  chk (isK T a0 2) <|
  if (gI M a0 3) < x4 then (
    j60 M) else (
    if x3 ≤ 0 then (
      j60 M) else (
      cal (fn_X2_takeOfYear T R a0 x4 x3 M) fun r_9 M_10 =>
      bnd (x3 - r_9) fun v_12 =>
      (fs_X2_giveFromOldest_N_54 T R a0 x1 j15) v_12 x4 M_10))
def fb_X2_giveFromOldest_N_15 (T : Ty) (R : Rm) (a0 : Nat) (x1 : Int32) (j60 : Mm → Option (Unit × Mm)) : Nat → Int32 → Int32 → Mm → Option (Unit × Mm) :=
  lp (fun j15 => fs_X2_giveFromOldest_N_15 T R a0 x1 j15 j60) (fun _ _ _ => none)
def fn_X2_giveFromOldest_N (T : Ty) (R : Rm) (a0 : Nat) (x1 : Int32) (M : Mm) : Option (Unit × Mm) :=
  chk (isK T a0 2) <|
  bnd (if (gI M a0 1) < x1 then (gI M a0 1) else x1) fun v_14 =>
  bnd (gI M a0 2) fun v_15 =>
  (fb_X2_giveFromOldest_N_15 T R a0 x1 (fs_X2_giveFromOldest_N_60 T R a0 x1) FU) v_14 v_15 M
def fs_X2_number_26 (T : Ty) (R : Rm) (a0 : Nat) (j7 : Int32 → Int32 → Mm → Option (Int32 × Mm)) (x1 : Int32) (x2 : Int32) (M : Mm) : Option (Int32 × Mm) :=
  bnd (x2 + (1 : Int32)) fun v_1 =>
  j7 x1 v_1 M
def fs_X2_number_7 (T : Ty) (R : Rm) (a0 : Nat) (j7 : Int32 → Int32 → Mm → Option (Int32 × Mm)) (x1 : Int32) (x2 : Int32) (M : Mm) : Option (Int32 × Mm) :=
  chk (isK T a0 2) <|
  if (gI M a0 3) < x2 then (
    some (x1, M)) else (
    cal (fn_X2_leftOf T R a0 x2 M) fun r_4 M_5 =>
    if r_4 ≤ 0 then (
      (fs_X2_number_26 T R a0 j7) x1 x2 M_5) else (
      bnd (x1 + (1 : Int32)) fun v_8 =>
      (fs_X2_number_26 T R a0 j7) v_8 x2 M_5))
def fb_X2_number_7 (T : Ty) (R : Rm) (a0 : Nat) : Nat → Int32 → Int32 → Mm → Option (Int32 × Mm) :=
  lp (fun j7 => fs_X2_number_7 T R a0 j7) (fun _ _ _ => none)
def fn_X2_number (T : Ty) (R : Rm) (a0 : Nat) (M : Mm) : Option (Int32 × Mm) :=
  chk (isK T a0 2) <|
  bnd (gI M a0 2) fun v_10 =>
  (fb_X2_number_7 T R a0 FU) (0 : Int32) v_10 M
def fs_X2_yearOfLayer_33 (T : Ty) (R : Rm) (a0 : Nat) (x1 : Int32) (j7 : Int32 → Int32 → Mm → Option (Int32 × Mm)) (x2 : Int32) (x3 : Int32) (M : Mm) : Option (Int32 × Mm) :=
  bnd (x3 + (1 : Int32)) fun v_1 =>
  j7 x2 v_1 M
def fs_X2_yearOfLayer_7 (T : Ty) (R : Rm) (a0 : Nat) (x1 : Int32) (j7 : Int32 → Int32 → Mm → Option (Int32 × Mm)) (x2 : Int32) (x3 : Int32) (M : Mm) : Option (Int32 × Mm) :=
  chk (isK T a0 2) <|
  if (gI M a0 3) < x3 then (
    some ((-1 : Int32), M)) else (
    cal (fn_X2_leftOf T R a0 x3 M) fun r_4 M_5 =>
    if r_4 ≤ 0 then (
      (fs_X2_yearOfLayer_33 T R a0 x1 j7) x2 x3 M_5) else (
      if x2 = x1 then (
        some (x3, M_5)) else (
        bnd (x2 + (1 : Int32)) fun v_9 =>
        (fs_X2_yearOfLayer_33 T R a0 x1 j7) v_9 x3 M_5)))
def fb_X2_yearOfLayer_7 (T : Ty) (R : Rm) (a0 : Nat) (x1 : Int32) : Nat → Int32 → Int32 → Mm → Option (Int32 × Mm) :=
  lp (fun j7 => fs_X2_yearOfLayer_7 T R a0 x1 j7) (fun _ _ _ => none)
def fn_X2_yearOfLayer (T : Ty) (R : Rm) (a0 : Nat) (x1 : Int32) (M : Mm) : Option (Int32 × Mm) :=
  chk (isK T a0 2) <|
  bnd (gI M a0 2) fun v_11 =>
  (fb_X2_yearOfLayer_7 T R a0 x1 FU) (0 : Int32) v_11 M
def fn_X3_begin (T : Ty) (R : Rm) (a0 : Nat) (x1 : Int32) (x2 : Int32) (x3 : Int32) (M : Mm) : Option (Unit × Mm) :=
  chk (isK T a0 3) <|
  bnd (sI M a0 0 x1) fun M_2 =>
  bnd (sI M_2 a0 1 x2) fun M_3 =>
  bnd (sI M_3 a0 2 x3) fun M_4 =>
  bnd (sI M_4 a0 3 (0 : Int32)) fun M_5 =>
  bnd (sI M_5 a0 4 (0 : Int32)) fun M_6 =>
  bnd (sI M_6 a0 5 (0 : Int32)) fun M_7 =>
  some ((), M_7)
def fn_X3_copyFrom (T : Ty) (R : Rm) (a0 : Nat) (a1 : Nat) (M : Mm) : Option (Unit × Mm) :=
  chk (isK T a1 3) <|
  chk (isK T a0 3) <|
  bnd (sI M a0 0 (gI M a1 0)) fun M_3 =>
  bnd (sI M_3 a0 1 (gI M_3 a1 1)) fun M_4 =>
  bnd (sI M_4 a0 2 (gI M_4 a1 2)) fun M_5 =>
  bnd (sI M_5 a0 3 (gI M_5 a1 3)) fun M_6 =>
  bnd (sI M_6 a0 4 (gI M_6 a1 4)) fun M_7 =>
  bnd (sI M_7 a0 5 (gI M_7 a1 5)) fun M_8 =>
  some ((), M_8)
def fn_X4_append (T : Ty) (R : Rm) (a0 : Nat) (x1 : Int32) (M : Mm) : Option (Unit × Mm) :=
  chk (isK T a0 4) <|
  if (60 : Int32) ≤ (gI M a0 1) then (
    some ((), M)) else (
    rfm (R a0 0) fun b_3 =>
    chk (isK T b_3 8) <|
    chk (inb (gI M a0 1) (lnT T b_3)) <|
    bnd (sI M b_3 (gI M a0 1).toNatClampNeg (vp_nar .char x1)) fun M_6 =>
    bnd (sI M_6 a0 1 ((gI M_6 a0 1) + (1 : Int32))) fun M_7 =>
    some ((), M_7))
def fn_X4_isSignAt (T : Ty) (R : Rm) (a0 : Nat) (x1 : Int32) (x2 : Int32) (M : Mm) : Option (Int32 × Mm) :=
  if x1 < 0 then (
    some ((0 : Int32), M)) else (
    chk (isK T a0 4) <|
    if (gI M a0 1) ≤ x1 then (
      some ((0 : Int32), M)) else (
      rfm (R a0 0) fun b_4 =>
      chk (isK T b_4 8) <|
      chk (inb x1 (lnT T b_4)) <|
      if (gI M b_4 x1.toNatClampNeg) = x2 then (
        some ((1 : Int32), M)) else (
        some ((0 : Int32), M))))
def fn_X4_isDigitAt (T : Ty) (R : Rm) (a0 : Nat) (x1 : Int32) (M : Mm) : Option (Int32 × Mm) :=
  if x1 < 0 then (
    some ((0 : Int32), M)) else (
    chk (isK T a0 4) <|
    if (gI M a0 1) ≤ x1 then (
      some ((0 : Int32), M)) else (
      rfm (R a0 0) fun b_4 =>
      chk (isK T b_4 8) <|
      chk (inb x1 (lnT T b_4)) <|
      if (gI M b_4 x1.toNatClampNeg) < (48 : Int32) then (
        some ((0 : Int32), M)) else (
        if (57 : Int32) < (gI M b_4 x1.toNatClampNeg) then (
          some ((0 : Int32), M)) else (
          some ((1 : Int32), M)))))
def fs_X4_endOfNumber_24 (T : Ty) (R : Rm) (a0 : Nat) (x1 : Int32) (x2 : Int32) (M : Mm) : Option (Int32 × Mm) :=
  if (x2 - x1) < (1 : Int32) then (
    some ((-1 : Int32), M)) else (
    if (4 : Int32) < (x2 - x1) then (
      some ((-1 : Int32), M)) else (
      some (x2, M)))
def fs_X4_endOfNumber_2 (T : Ty) (R : Rm) (a0 : Nat) (x1 : Int32) (j2 : Int32 → Mm → Option (Int32 × Mm)) (j24 : Int32 → Mm → Option (Int32 × Mm)) (x2 : Int32) (M : Mm) : Option (Int32 × Mm) :=
  chk (isK T a0 4) <|
  if (gI M a0 1) ≤ x2 then (
    j24 x2 M) else (
    cal (fn_X4_isDigitAt T R a0 x2 M) fun r_5 M_6 =>
    if r_5 = 0 then (
      j24 x2 M_6) else (
      bnd (x2 + (1 : Int32)) fun v_9 =>
      j2 v_9 M_6))
def fb_X4_endOfNumber_2 (T : Ty) (R : Rm) (a0 : Nat) (x1 : Int32) (j24 : Int32 → Mm → Option (Int32 × Mm)) : Nat → Int32 → Mm → Option (Int32 × Mm) :=
  lp (fun j2 => fs_X4_endOfNumber_2 T R a0 x1 j2 j24) (fun _ _ => none)
def fn_X4_endOfNumber (T : Ty) (R : Rm) (a0 : Nat) (x1 : Int32) (M : Mm) : Option (Int32 × Mm) :=
  (fb_X4_endOfNumber_2 T R a0 x1 (fs_X4_endOfNumber_24 T R a0 x1) FU) x1 M
def fs_X4_numberAt_11 (T : Ty) (R : Rm) (a0 : Nat) (x1 : Int32) (j11 : Int32 → Int32 → Int32 → Mm → Option (Int32 × Mm)) (x2 : Int32) (x3 : Int32) (x4 : Int32) (M : Mm) : Option (Int32 × Mm) :=
  if x4 < 0 then (
    some (x3, M)) else (
    if x2 ≤ x4 then (
      some (x3, M)) else (
      chk (isK T a0 4) <|
      rfm (R a0 0) fun b_4 =>
      chk (isK T b_4 8) <|
      chk (inb x4 (lnT T b_4)) <|
      bnd ((x3 * (10 : Int32)) + ((gI M b_4 x4.toNatClampNeg) - (48 : Int32))) fun v_7 =>
      bnd (x4 + (1 : Int32)) fun v_8 =>
      j11 x2 v_7 v_8 M))
def fb_X4_numberAt_11 (T : Ty) (R : Rm) (a0 : Nat) (x1 : Int32) : Nat → Int32 → Int32 → Int32 → Mm → Option (Int32 × Mm) :=
  lp (fun j11 => fs_X4_numberAt_11 T R a0 x1 j11) (fun _ _ _ _ => none)
def fn_X4_numberAt (T : Ty) (R : Rm) (a0 : Nat) (x1 : Int32) (M : Mm) : Option (Int32 × Mm) :=
  chk (isK T a0 4) <|
  cal (fn_X4_endOfNumber T R a0 x1 M) fun r_10 M_11 =>
  (fb_X4_numberAt_11 T R a0 x1 FU) r_10 (0 : Int32) x1 M_11
def fn_X4_endOfYear (T : Ty) (R : Rm) (a0 : Nat) (x1 : Int32) (M : Mm) : Option (Int32 × Mm) :=
  chk (isK T a0 4) <|
  cal (fn_X4_endOfNumber T R a0 x1 M) fun r_2 M_3 =>
  cal (fn_X4_isSignAt T R a0 r_2 (44 : Int32) M_3) fun r_5 M_6 =>
  if r_5 = 0 then (
    some ((-1 : Int32), M_6)) else (
    cal (fn_X4_endOfNumber T R a0 (r_2 + (1 : Int32)) M_6) fun r_9 M_10 =>
    cal (fn_X4_isSignAt T R a0 r_9 (59 : Int32) M_10) fun r_12 M_13 =>
    if r_12 = 0 then (
      some ((-1 : Int32), M_13)) else (
      some ((r_9 + (1 : Int32)), M_13)))
def fn_X4_snowOfYear (T : Ty) (R : Rm) (a0 : Nat) (x1 : Int32) (M : Mm) : Option (Int32 × Mm) :=
  chk (isK T a0 4) <|
  cal (fn_X4_numberAt T R a0 x1 M) fun r_2 M_3 =>
  some (r_2, M_3)
def fn_X4_meltOfYear (T : Ty) (R : Rm) (a0 : Nat) (x1 : Int32) (M : Mm) : Option (Int32 × Mm) :=
  chk (isK T a0 4) <|
  cal (fn_X4_endOfNumber T R a0 x1 M) fun r_2 M_3 =>
  cal (fn_X4_numberAt T R a0 (r_2 + (1 : Int32)) M_3) fun r_5 M_6 =>
  some (r_5, M_6)
def fs_X4_startOfYear_4 (T : Ty) (R : Rm) (a0 : Nat) (x1 : Int32) (j4 : Int32 → Int32 → Mm → Option (Int32 × Mm)) (x2 : Int32) (x3 : Int32) (M : Mm) : Option (Int32 × Mm) :=
  if x1 ≤ x3 then (
    some (x2, M)) else (
    if x2 < 0 then (
      some (x2, M)) else (
      chk (isK T a0 4) <|
      cal (fn_X4_endOfYear T R a0 x2 M) fun r_4 M_5 =>
      bnd (x3 + (1 : Int32)) fun v_7 =>
      j4 r_4 v_7 M_5))
def fb_X4_startOfYear_4 (T : Ty) (R : Rm) (a0 : Nat) (x1 : Int32) : Nat → Int32 → Int32 → Mm → Option (Int32 × Mm) :=
  lp (fun j4 => fs_X4_startOfYear_4 T R a0 x1 j4) (fun _ _ _ => none)
def fn_X4_startOfYear (T : Ty) (R : Rm) (a0 : Nat) (x1 : Int32) (M : Mm) : Option (Int32 × Mm) :=
  (fb_X4_startOfYear_4 T R a0 x1 FU) (0 : Int32) (0 : Int32) M
def fn_J9_floorDiv_7cf53 (T : Ty) (R : Rm) (x0 : Int32) (x1 : Int32) (M : Mm) : Option (Int32 × Mm) :=
  chk (decide (¬ x1 = 0)) <|
  bnd (x0 / x1) fun v_2 =>
  if 0 ≤ (x0 ^^^ x1) then (
    some (v_2, M)) else (
    if (v_2 * x1) = x0 then (
      some (v_2, M)) else (
      some ((v_2 - (1 : Int32)), M)))
def fs_X5_copyFrom_48 (T : Ty) (R : Rm) (a0 : Nat) (a1 : Nat) (j48 : Int32 → Mm → Option (Unit × Mm)) (x2 : Int32) (M : Mm) : Option (Unit × Mm) :=
  chk (isK T a1 5) <|
  if (gI M a1 5) ≤ x2 then (
    chk (isK T a0 5) <|
    rfm (R a0 3) fun b_4 =>
    rfm (R a1 3) fun b_5 =>
    chk (isK T b_4 1) <|
    cal (fn_X1_copyFrom T R b_4 b_5 M) fun _ M_8 =>
    bnd (sI M_8 a0 4 (gI M_8 a1 4)) fun M_10 =>
    bnd (sI M_10 a0 5 (gI M_10 a1 5)) fun M_11 =>
    bnd (sI M_11 a0 6 (gI M_11 a1 6)) fun M_12 =>
    bnd (sJ M_12 a0 7 (gJ M_12 a1 7)) fun M_13 =>
    bnd (sJ M_13 a0 8 (gJ M_13 a1 8)) fun M_14 =>
    bnd (sJ M_14 a0 9 (gJ M_14 a1 9)) fun M_15 =>
    bnd (sJ M_15 a0 10 (gJ M_15 a1 10)) fun M_16 =>
    some ((), M_16)) else (
    chk (isK T a0 5) <|
    rfm (R a0 2) fun b_18 =>
    chk (isK T b_18 12) <|
    chk (inb x2 (lnT T b_18)) <|
    rfm (R b_18 x2.toNatClampNeg) fun b_21 =>
    rfm (R a1 2) fun b_22 =>
    chk (isK T b_22 12) <|
    chk (inb x2 (lnT T b_22)) <|
    rfm (R b_22 x2.toNatClampNeg) fun b_25 =>
    chk (isK T b_21 3) <|
    cal (fn_X3_copyFrom T R b_21 b_25 M) fun _ M_28 =>
    bnd (x2 + (1 : Int32)) fun v_30 =>
    j48 v_30 M_28)
def fb_X5_copyFrom_48 (T : Ty) (R : Rm) (a0 : Nat) (a1 : Nat) : Nat → Int32 → Mm → Option (Unit × Mm) :=
  lp (fun j48 => fs_X5_copyFrom_48 T R a0 a1 j48) (fun _ _ => none)
def fs_X5_copyFrom_17 (T : Ty) (R : Rm) (a0 : Nat) (a1 : Nat) (j17 : Int32 → Mm → Option (Unit × Mm)) (j48 : Int32 → Mm → Option (Unit × Mm)) (x2 : Int32) (M : Mm) : Option (Unit × Mm) :=
  chk (isK T a1 5) <|
  if (gI M a1 4) ≤ x2 then (
    j48 (0 : Int32) M) else (
    chk (isK T a0 5) <|
    rfm (R a0 1) fun b_34 =>
    chk (isK T b_34 11) <|
    chk (inb x2 (lnT T b_34)) <|
    rfm (R b_34 x2.toNatClampNeg) fun b_37 =>
    rfm (R a1 1) fun b_38 =>
    chk (isK T b_38 11) <|
    chk (inb x2 (lnT T b_38)) <|
    rfm (R b_38 x2.toNatClampNeg) fun b_41 =>
    chk (isK T b_37 0) <|
    cal (fn_X0_copyFrom T R b_37 b_41 M) fun _ M_44 =>
    bnd (x2 + (1 : Int32)) fun v_46 =>
    j17 v_46 M_44)
def fb_X5_copyFrom_17 (T : Ty) (R : Rm) (a0 : Nat) (a1 : Nat) (j48 : Int32 → Mm → Option (Unit × Mm)) : Nat → Int32 → Mm → Option (Unit × Mm) :=
  lp (fun j17 => fs_X5_copyFrom_17 T R a0 a1 j17 j48) (fun _ _ => none)
def fn_X5_copyFrom (T : Ty) (R : Rm) (a0 : Nat) (a1 : Nat) (M : Mm) : Option (Unit × Mm) :=
  chk (isK T a1 5) <|
  rfm (R a1 0) fun b_48 =>
  chk (isK T a0 5) <|
  rfm (R a0 0) fun b_50 =>
  chk (isK T b_48 9) <|
  chk (isK T b_50 9) <|
  chk (cpok (0 : Int32) (0 : Int32) (7 : Int32) (lnT T b_48) (lnT T b_50)) <|
  bnd (cpI M b_48 b_50 (0 : Int32).toNatClampNeg (0 : Int32).toNatClampNeg (7 : Int32).toNatClampNeg) fun M_54 =>
  (fb_X5_copyFrom_17 T R a0 a1 (fb_X5_copyFrom_48 T R a0 a1 FU) FU) (0 : Int32) M_54
def fn_X5_hasBand (T : Ty) (R : Rm) (a0 : Nat) (x1 : Int32) (M : Mm) : Option (Int32 × Mm) :=
  if x1 < 0 then (
    some ((0 : Int32), M)) else (
    chk (isK T a0 5) <|
    if (gI M a0 4) ≤ x1 then (
      some ((0 : Int32), M)) else (
      some ((1 : Int32), M)))
def fn_X5_hasStake (T : Ty) (R : Rm) (a0 : Nat) (x1 : Int32) (M : Mm) : Option (Int32 × Mm) :=
  if x1 < 0 then (
    some ((0 : Int32), M)) else (
    chk (isK T a0 5) <|
    if (gI M a0 5) ≤ x1 then (
      some ((0 : Int32), M)) else (
      some ((1 : Int32), M)))
def fn_X5_isBelowAll (T : Ty) (R : Rm) (a0 : Nat) (x1 : Int32) (M : Mm) : Option (Int32 × Mm) :=
  chk (isK T a0 5) <|
  if (gI M a0 4) = 0 then (
    some ((1 : Int32), M)) else (
    rfm (R a0 1) fun b_3 =>
    chk (isK T b_3 11) <|
    chk (inb ((gI M a0 4) - (1 : Int32)) (lnT T b_3)) <|
    rfm (R b_3 ((gI M a0 4) - (1 : Int32)).toNatClampNeg) fun b_6 =>
    chk (isK T b_6 0) <|
    if (gI M b_6 1) ≤ x1 then (
      some ((0 : Int32), M)) else (
      some ((1 : Int32), M)))
def fn_X5_addBand (T : Ty) (R : Rm) (a0 : Nat) (x1 : Int32) (x2 : Int32) (x3 : Int32) (x4 : Int32) (M : Mm) : Option (Int32 × Mm) :=
  chk (isK T a0 5) <|
  bnd (gI M a0 4) fun v_2 =>
  rfm (R a0 1) fun b_3 =>
  chk (isK T b_3 11) <|
  chk (inb v_2 (lnT T b_3)) <|
  rfm (R b_3 v_2.toNatClampNeg) fun b_6 =>
  chk (isK T b_6 0) <|
  cal (fn_X0_begin T R b_6 x1 x2 x3 M) fun _ M_9 =>
  rfm (R b_6 0) fun b_11 =>
  chk (isK T b_11 2) <|
  cal (fn_X2_add T R b_11 (gI M_9 a0 6) x4 M_9) fun _ M_14 =>
  bnd (sI M_14 a0 4 ((gI M_14 a0 4) + (1 : Int32))) fun M_16 =>
  bnd (sJ M_16 a0 7 ((gJ M_16 a0 7) + (x4.toInt64))) fun M_17 =>
  some (v_2, M_17)
def fs_X5_isStakeAt_50 (T : Ty) (R : Rm) (a0 : Nat) (x1 : Int32) (x2 : Int32) (j2 : Int32 → Mm → Option (Int32 × Mm)) (x3 : Int32) (M : Mm) : Option (Int32 × Mm) :=
  bnd (x3 + (1 : Int32)) fun v_1 =>
  j2 v_1 M
def fs_X5_isStakeAt_2 (T : Ty) (R : Rm) (a0 : Nat) (x1 : Int32) (x2 : Int32) (j2 : Int32 → Mm → Option (Int32 × Mm)) (x3 : Int32) (M : Mm) : Option (Int32 × Mm) :=
  chk (isK T a0 5) <|
  if (gI M a0 5) ≤ x3 then (
    some ((0 : Int32), M)) else (
    rfm (R a0 2) fun b_4 =>
    chk (isK T b_4 12) <|
    chk (inb x3 (lnT T b_4)) <|
    rfm (R b_4 x3.toNatClampNeg) fun b_7 =>
    chk (isK T b_7 3) <|
    if (gI M b_7 4) = 0 then (
      if (gI M b_7 0) = x1 then (
        if (gI M b_7 1) = x2 then (
          some ((1 : Int32), M)) else (
          (fs_X5_isStakeAt_50 T R a0 x1 x2 j2) x3 M)) else (
        (fs_X5_isStakeAt_50 T R a0 x1 x2 j2) x3 M)) else (
      (fs_X5_isStakeAt_50 T R a0 x1 x2 j2) x3 M))
def fb_X5_isStakeAt_2 (T : Ty) (R : Rm) (a0 : Nat) (x1 : Int32) (x2 : Int32) : Nat → Int32 → Mm → Option (Int32 × Mm) :=
  lp (fun j2 => fs_X5_isStakeAt_2 T R a0 x1 x2 j2) (fun _ _ => none)
def fn_X5_isStakeAt (T : Ty) (R : Rm) (a0 : Nat) (x1 : Int32) (x2 : Int32) (M : Mm) : Option (Int32 × Mm) :=
  (fb_X5_isStakeAt_2 T R a0 x1 x2 FU) (0 : Int32) M
def fn_X5_addStake (T : Ty) (R : Rm) (a0 : Nat) (x1 : Int32) (x2 : Int32) (x3 : Int32) (M : Mm) : Option (Int32 × Mm) :=
  chk (isK T a0 5) <|
  bnd (gI M a0 5) fun v_2 =>
  rfm (R a0 2) fun b_3 =>
  chk (isK T b_3 12) <|
  chk (inb v_2 (lnT T b_3)) <|
  rfm (R b_3 v_2.toNatClampNeg) fun b_6 =>
  chk (isK T b_6 3) <|
  cal (fn_X3_begin T R b_6 x1 x2 x3 M) fun _ M_9 =>
  bnd (sI M_9 a0 5 ((gI M_9 a0 5) + (1 : Int32))) fun M_11 =>
  some (v_2, M_11)
def fs_X5_removeStake_9 (T : Ty) (a0 : Nat) (x1 : Int32) (j9 : Nat → Int32 → Mm → Rm → Option (Int32 × Mm × Rm)) (a2 : Nat) (x3 : Int32) (M : Mm) (R : Rm) : Option (Int32 × Mm × Rm) :=
  chk (isK T a0 5) <|
  if (gI M a0 5) ≤ (x3 + (1 : Int32)) then (
    bnd (sI M a0 5 ((gI M a0 5) - (1 : Int32))) fun M_3 =>
    rfm (R a0 2) fun b_4 =>
    chk (isK T b_4 12) <|
    chk (inb (gI M_3 a0 5) (lnT T b_4)) <|
    chk (isK T a2 3) <|
    bnd (up2 R b_4 (gI M_3 a0 5).toNatClampNeg (some a2)) fun R_8 =>
    some ((gI M_3 a2 3), M_3, R_8)) else (
    rfm (R a0 2) fun b_9 =>
    chk (isK T b_9 12) <|
    chk (inb (x3 + (1 : Int32)) (lnT T b_9)) <|
    rfm (R b_9 (x3 + (1 : Int32)).toNatClampNeg) fun b_12 =>
    chk (inb x3 (lnT T b_9)) <|
    chk (isK T b_12 3) <|
    bnd (up2 R b_9 x3.toNatClampNeg (some b_12)) fun R_15 =>
    bnd (x3 + (1 : Int32)) fun v_16 =>
    j9 a2 v_16 M R_15)
def fb_X5_removeStake_9 (T : Ty) (a0 : Nat) (x1 : Int32) : Nat → Nat → Int32 → Mm → Rm → Option (Int32 × Mm × Rm) :=
  lp (fun j9 => fs_X5_removeStake_9 T a0 x1 j9) (fun _ _ _ _ => none)
def fn_X5_removeStake (T : Ty) (a0 : Nat) (x1 : Int32) (M : Mm) (R : Rm) : Option (Int32 × Mm × Rm) :=
  chk (isK T a0 5) <|
  rfm (R a0 2) fun b_18 =>
  chk (isK T b_18 12) <|
  chk (inb x1 (lnT T b_18)) <|
  rfm (R b_18 x1.toNatClampNeg) fun b_21 =>
  (fb_X5_removeStake_9 T a0 x1 FU) b_21 x1 M R
def fs_X5_standingStakes_27 (T : Ty) (R : Rm) (a0 : Nat) (j4 : Int32 → Int32 → Mm → Option (Int32 × Mm)) (x1 : Int32) (x2 : Int32) (M : Mm) : Option (Int32 × Mm) :=
  bnd (x2 + (1 : Int32)) fun v_1 =>
  j4 x1 v_1 M
def fs_X5_standingStakes_4 (T : Ty) (R : Rm) (a0 : Nat) (j4 : Int32 → Int32 → Mm → Option (Int32 × Mm)) (x1 : Int32) (x2 : Int32) (M : Mm) : Option (Int32 × Mm) :=
  chk (isK T a0 5) <|
  if (gI M a0 5) ≤ x2 then (
    some (x1, M)) else (
    rfm (R a0 2) fun b_4 =>
    chk (isK T b_4 12) <|
    chk (inb x2 (lnT T b_4)) <|
    rfm (R b_4 x2.toNatClampNeg) fun b_7 =>
    chk (isK T b_7 3) <|
    if (gI M b_7 4) = 0 then (
      bnd (x1 + (1 : Int32)) fun v_10 =>
      (fs_X5_standingStakes_27 T R a0 j4) v_10 x2 M) else (
      (fs_X5_standingStakes_27 T R a0 j4) x1 x2 M))
def fb_X5_standingStakes_4 (T : Ty) (R : Rm) (a0 : Nat) : Nat → Int32 → Int32 → Mm → Option (Int32 × Mm) :=
  lp (fun j4 => fs_X5_standingStakes_4 T R a0 j4) (fun _ _ _ => none)
def fn_X5_standingStakes (T : Ty) (R : Rm) (a0 : Nat) (M : Mm) : Option (Int32 × Mm) :=
  (fb_X5_standingStakes_4 T R a0 FU) (0 : Int32) (0 : Int32) M
def fn_X5_snowAt (T : Ty) (R : Rm) (a0 : Nat) (x1 : Int32) (M : Mm) : Option (Int32 × Mm) :=
  chk (isK T a0 5) <|
  rfm (R a0 0) fun b_2 =>
  chk (isK T b_2 9) <|
  chk (inb (1 : Int32) (lnT T b_2)) <|
  chk (inb (4 : Int32) (lnT T b_2)) <|
  cal (fn_J9_floorDiv_7cf53 T R ((gI M b_2 (1 : Int32).toNatClampNeg) * (x1 - (gI M b_2 (4 : Int32).toNatClampNeg))) (100 : Int32) M) fun r_6 M_7 =>
  chk (inb (0 : Int32) (lnT T b_2)) <|
  bnd (if (0 : Int32) < ((gI M_7 b_2 (0 : Int32).toNatClampNeg) + r_6) then ((gI M_7 b_2 (0 : Int32).toNatClampNeg) + r_6) else (0 : Int32)) fun v_10 =>
  some (v_10, M_7)
def fn_X5_meltAt (T : Ty) (R : Rm) (a0 : Nat) (x1 : Int32) (x2 : Int32) (M : Mm) : Option (Int32 × Mm) :=
  chk (isK T a0 5) <|
  rfm (R a0 0) fun b_2 =>
  chk (isK T b_2 9) <|
  chk (inb (3 : Int32) (lnT T b_2)) <|
  chk (inb (4 : Int32) (lnT T b_2)) <|
  cal (fn_J9_floorDiv_7cf53 T R ((gI M b_2 (3 : Int32).toNatClampNeg) * (x1 - (gI M b_2 (4 : Int32).toNatClampNeg))) (100 : Int32) M) fun r_6 M_7 =>
  bnd (if (0 : Int32) < (x2 - r_6) then (x2 - r_6) else (0 : Int32)) fun v_9 =>
  some (v_9, M_7)
def fs_X5_snowOutweighsMelt_4 (T : Ty) (R : Rm) (a0 : Nat) (x1 : Int32) (j4 : Int32 → Int32 → Mm → Option (Int32 × Mm)) (x2 : Int32) (x3 : Int32) (M : Mm) : Option (Int32 × Mm) :=
  chk (isK T a0 5) <|
  if (gI M a0 4) ≤ x3 then (
    if x2 < 0 then (
      some ((0 : Int32), M)) else (
      some ((1 : Int32), M))) else (
    rfm (R a0 1) fun b_4 =>
    chk (isK T b_4 11) <|
    chk (inb x3 (lnT T b_4)) <|
    rfm (R b_4 x3.toNatClampNeg) fun b_7 =>
    chk (isK T b_7 0) <|
    cal (fn_X5_snowAt T R a0 (gI M b_7 1) M) fun r_9 M_10 =>
    cal (fn_X5_meltAt T R a0 (gI M_10 b_7 1) x1 M_10) fun r_12 M_13 =>
    bnd (x2 + (r_9 - r_12)) fun v_15 =>
    bnd (x3 + (1 : Int32)) fun v_16 =>
    j4 v_15 v_16 M_13)
def fb_X5_snowOutweighsMelt_4 (T : Ty) (R : Rm) (a0 : Nat) (x1 : Int32) : Nat → Int32 → Int32 → Mm → Option (Int32 × Mm) :=
  lp (fun j4 => fs_X5_snowOutweighsMelt_4 T R a0 x1 j4) (fun _ _ _ => none)
def fn_X5_snowOutweighsMelt (T : Ty) (R : Rm) (a0 : Nat) (x1 : Int32) (M : Mm) : Option (Int32 × Mm) :=
  (fb_X5_snowOutweighsMelt_4 T R a0 x1 FU) (0 : Int32) (0 : Int32) M
def fs_X5_leftOf_4 (T : Ty) (R : Rm) (a0 : Nat) (x1 : Int32) (j4 : Int32 → Int32 → Mm → Option (Int32 × Mm)) (x2 : Int32) (x3 : Int32) (M : Mm) : Option (Int32 × Mm) :=
  chk (isK T a0 5) <|
  if (gI M a0 4) ≤ x3 then (
    some (x2, M)) else (
    rfm (R a0 1) fun b_3 =>
    chk (isK T b_3 11) <|
    chk (inb x3 (lnT T b_3)) <|
    rfm (R b_3 x3.toNatClampNeg) fun b_6 =>
    chk (isK T b_6 0) <|
    rfm (R b_6 0) fun b_8 =>
    chk (isK T b_8 2) <|
    cal (fn_X2_leftOf T R b_8 x1 M) fun r_10 M_11 =>
    bnd (x2 + r_10) fun v_13 =>
    bnd (x3 + (1 : Int32)) fun v_14 =>
    j4 v_13 v_14 M_11)
def fb_X5_leftOf_4 (T : Ty) (R : Rm) (a0 : Nat) (x1 : Int32) : Nat → Int32 → Int32 → Mm → Option (Int32 × Mm) :=
  lp (fun j4 => fs_X5_leftOf_4 T R a0 x1 j4) (fun _ _ _ => none)
def fn_X5_leftOf (T : Ty) (R : Rm) (a0 : Nat) (x1 : Int32) (M : Mm) : Option (Int32 × Mm) :=
  (fb_X5_leftOf_4 T R a0 x1 FU) (0 : Int32) (0 : Int32) M
def fs_X5_bandIce_4 (T : Ty) (R : Rm) (a0 : Nat) (j4 : Int32 → Int32 → Mm → Option (Int32 × Mm)) (x1 : Int32) (x2 : Int32) (M : Mm) : Option (Int32 × Mm) :=
  chk (isK T a0 5) <|
  if (gI M a0 4) ≤ x2 then (
    some (x1, M)) else (
    rfm (R a0 1) fun b_3 =>
    chk (isK T b_3 11) <|
    chk (inb x2 (lnT T b_3)) <|
    rfm (R b_3 x2.toNatClampNeg) fun b_6 =>
    chk (isK T b_6 0) <|
    rfm (R b_6 0) fun b_8 =>
    chk (isK T b_8 2) <|
    bnd (x1 + (gI M b_8 1)) fun v_10 =>
    bnd (x2 + (1 : Int32)) fun v_11 =>
    j4 v_10 v_11 M)
def fb_X5_bandIce_4 (T : Ty) (R : Rm) (a0 : Nat) : Nat → Int32 → Int32 → Mm → Option (Int32 × Mm) :=
  lp (fun j4 => fs_X5_bandIce_4 T R a0 j4) (fun _ _ _ => none)
def fn_X5_bandIce (T : Ty) (R : Rm) (a0 : Nat) (M : Mm) : Option (Int32 × Mm) :=
  (fb_X5_bandIce_4 T R a0 FU) (0 : Int32) (0 : Int32) M
def fn_X5_allIce (T : Ty) (R : Rm) (a0 : Nat) (M : Mm) : Option (Int64 × Mm) :=
  chk (isK T a0 5) <|
  cal (fn_X5_bandIce T R a0 M) fun r_2 M_3 =>
  rfm (R a0 3) fun b_5 =>
  chk (isK T b_5 1) <|
  some (((r_2.toInt64) + ((gI M_3 b_5 0).toInt64)), M_3)
def fs_X5_allIceByYears_11 (T : Ty) (R : Rm) (a0 : Nat) (j11 : Int64 → Int32 → Mm → Option (Int64 × Mm)) (l1 : Int64) (x3 : Int32) (M : Mm) : Option (Int64 × Mm) :=
  chk (isK T a0 5) <|
  if (gI M a0 6) < x3 then (
    some (l1, M)) else (
    cal (fn_X5_leftOf T R a0 x3 M) fun r_3 M_4 =>
    bnd (l1 + (r_3.toInt64)) fun v_6 =>
    bnd (x3 + (1 : Int32)) fun v_7 =>
    j11 v_6 v_7 M_4)
def fb_X5_allIceByYears_11 (T : Ty) (R : Rm) (a0 : Nat) : Nat → Int64 → Int32 → Mm → Option (Int64 × Mm) :=
  lp (fun j11 => fs_X5_allIceByYears_11 T R a0 j11) (fun _ _ _ => none)
def fn_X5_allIceByYears (T : Ty) (R : Rm) (a0 : Nat) (M : Mm) : Option (Int64 × Mm) :=
  chk (isK T a0 5) <|
  rfm (R a0 3) fun b_9 =>
  chk (isK T b_9 1) <|
  bnd ((gI M b_9 0).toInt64) fun v_11 =>
  (fb_X5_allIceByYears_11 T R a0 FU) v_11 (0 : Int32) M
def fs_X5_layersOfAllBands_4 (T : Ty) (R : Rm) (a0 : Nat) (j4 : Int32 → Int32 → Mm → Option (Int32 × Mm)) (x1 : Int32) (x2 : Int32) (M : Mm) : Option (Int32 × Mm) :=
  chk (isK T a0 5) <|
  if (gI M a0 4) ≤ x2 then (
    some (x1, M)) else (
    rfm (R a0 1) fun b_3 =>
    chk (isK T b_3 11) <|
    chk (inb x2 (lnT T b_3)) <|
    rfm (R b_3 x2.toNatClampNeg) fun b_6 =>
    chk (isK T b_6 0) <|
    rfm (R b_6 0) fun b_8 =>
    chk (isK T b_8 2) <|
    cal (fn_X2_number T R b_8 M) fun r_10 M_11 =>
    bnd (x1 + r_10) fun v_13 =>
    bnd (x2 + (1 : Int32)) fun v_14 =>
    j4 v_13 v_14 M_11)
def fb_X5_layersOfAllBands_4 (T : Ty) (R : Rm) (a0 : Nat) : Nat → Int32 → Int32 → Mm → Option (Int32 × Mm) :=
  lp (fun j4 => fs_X5_layersOfAllBands_4 T R a0 j4) (fun _ _ _ => none)
def fn_X5_layersOfAllBands (T : Ty) (R : Rm) (a0 : Nat) (M : Mm) : Option (Int32 × Mm) :=
  (fb_X5_layersOfAllBands_4 T R a0 FU) (0 : Int32) (0 : Int32) M
def fs_X5_differentYears_23 (T : Ty) (R : Rm) (a0 : Nat) (j4 : Int32 → Int32 → Mm → Option (Int32 × Mm)) (x1 : Int32) (x2 : Int32) (M : Mm) : Option (Int32 × Mm) :=
  bnd (x2 + (1 : Int32)) fun v_1 =>
  j4 x1 v_1 M
def fs_X5_differentYears_4 (T : Ty) (R : Rm) (a0 : Nat) (j4 : Int32 → Int32 → Mm → Option (Int32 × Mm)) (x1 : Int32) (x2 : Int32) (M : Mm) : Option (Int32 × Mm) :=
  chk (isK T a0 5) <|
  if (gI M a0 6) < x2 then (
    some (x1, M)) else (
    cal (fn_X5_leftOf T R a0 x2 M) fun r_4 M_5 =>
    if r_4 ≤ 0 then (
      (fs_X5_differentYears_23 T R a0 j4) x1 x2 M_5) else (
      bnd (x1 + (1 : Int32)) fun v_8 =>
      (fs_X5_differentYears_23 T R a0 j4) v_8 x2 M_5))
def fb_X5_differentYears_4 (T : Ty) (R : Rm) (a0 : Nat) : Nat → Int32 → Int32 → Mm → Option (Int32 × Mm) :=
  lp (fun j4 => fs_X5_differentYears_4 T R a0 j4) (fun _ _ _ => none)
def fn_X5_differentYears (T : Ty) (R : Rm) (a0 : Nat) (M : Mm) : Option (Int32 × Mm) :=
  (fb_X5_differentYears_4 T R a0 FU) (0 : Int32) (0 : Int32) M
def fs_X5_oldestYear_6 (T : Ty) (R : Rm) (a0 : Nat) (j6 : Int32 → Int32 → Mm → Option (Int32 × Mm)) (x1 : Int32) (x2 : Int32) (M : Mm) : Option (Int32 × Mm) :=
  chk (isK T a0 5) <|
  if (gI M a0 4) ≤ x2 then (
    some (x1, M)) else (
    rfm (R a0 1) fun b_3 =>
    chk (isK T b_3 11) <|
    chk (inb x2 (lnT T b_3)) <|
    rfm (R b_3 x2.toNatClampNeg) fun b_6 =>
    chk (isK T b_6 0) <|
    rfm (R b_6 0) fun b_8 =>
    chk (isK T b_8 2) <|
    bnd (if (gI M b_8 2) < x1 then (gI M b_8 2) else x1) fun v_10 =>
    bnd (x2 + (1 : Int32)) fun v_11 =>
    j6 v_10 v_11 M)
def fb_X5_oldestYear_6 (T : Ty) (R : Rm) (a0 : Nat) : Nat → Int32 → Int32 → Mm → Option (Int32 × Mm) :=
  lp (fun j6 => fs_X5_oldestYear_6 T R a0 j6) (fun _ _ _ => none)
def fn_X5_oldestYear (T : Ty) (R : Rm) (a0 : Nat) (M : Mm) : Option (Int32 × Mm) :=
  (fb_X5_oldestYear_6 T R a0 FU) (801 : Int32) (0 : Int32) M
def fn_X5_snowAndMelt (T : Ty) (R : Rm) (a0 : Nat) (a1 : Nat) (M : Mm) : Option (Unit × Mm) :=
  chk (isK T a1 0) <|
  chk (isK T a0 5) <|
  cal (fn_X5_snowAt T R a0 (gI M a1 1) M) fun r_3 M_4 =>
  rfm (R a1 0) fun b_6 =>
  chk (isK T b_6 2) <|
  cal (fn_X2_add T R b_6 (gI M_4 a0 6) r_3 M_4) fun _ M_9 =>
  bnd (sJ M_9 a0 8 ((gJ M_9 a0 8) + (r_3.toInt64))) fun M_11 =>
  rfm (R a0 0) fun b_12 =>
  chk (isK T b_12 9) <|
  chk (inb (2 : Int32) (lnT T b_12)) <|
  cal (fn_X5_meltAt T R a0 (gI M_11 a1 1) (gI M_11 b_12 (2 : Int32).toNatClampNeg) M_11) fun r_15 M_16 =>
  cal (fn_X2_takeFromLatest T R b_6 r_15 M_16) fun r_18 M_19 =>
  bnd (sI M_19 a1 4 r_18) fun M_21 =>
  bnd (sJ M_21 a0 9 ((gJ M_21 a0 9) + ((gI M_21 a1 4).toInt64))) fun M_22 =>
  some ((), M_22)
def fs_X5_creepDown_104 (T : Ty) (R : Rm) (a0 : Nat) (j7 : Int32 → Mm → Option (Unit × Mm)) (x1 : Int32) (M : Mm) : Option (Unit × Mm) :=
  bnd (x1 + (-1 : Int32)) fun v_1 =>
  j7 v_1 M
def fs_X5_creepDown_7 (T : Ty) (R : Rm) (a0 : Nat) (j7 : Int32 → Mm → Option (Unit × Mm)) (x1 : Int32) (M : Mm) : Option (Unit × Mm) :=
  if x1 < 0 then (
    some ((), M)) else (
    chk (isK T a0 5) <|
    rfm (R a0 1) fun b_4 =>
    chk (isK T b_4 11) <|
    chk (inb x1 (lnT T b_4)) <|
    rfm (R b_4 x1.toNatClampNeg) fun b_7 =>
    chk (isK T b_7 0) <|
    cal (fn_X0_iceToGive T R b_7 M) fun r_9 M_10 =>
    bnd (sI M_10 b_7 5 r_9) fun M_12 =>
    if (gI M_12 a0 4) ≤ (x1 + (1 : Int32)) then (
      rfm (R b_7 0) fun b_14 =>
      chk (isK T b_14 2) <|
      cal (fn_X2_giveFromOldest_N T R b_14 (gI M_12 b_7 5) M_12) fun _ M_17 =>
      rfm (R a0 3) fun b_19 =>
      chk (isK T b_19 1) <|
      bnd (sI M_17 b_19 0 ((gI M_17 b_19 0) + (gI M_17 b_7 5))) fun M_21 =>
      (fs_X5_creepDown_104 T R a0 j7) x1 M_21) else (
      rfm (R b_7 0) fun b_22 =>
      chk (inb (x1 + (1 : Int32)) (lnT T b_4)) <|
      rfm (R b_4 (x1 + (1 : Int32)).toNatClampNeg) fun b_24 =>
      chk (isK T b_24 0) <|
      rfm (R b_24 0) fun b_26 =>
      chk (isK T b_22 2) <|
      cal (fn_X2_giveFromOldest T R b_22 (gI M_12 b_7 5) b_26 M_12) fun _ M_29 =>
      bnd (sI M_29 b_24 6 (gI M_29 b_7 5)) fun M_31 =>
      (fs_X5_creepDown_104 T R a0 j7) x1 M_31))
def fb_X5_creepDown_7 (T : Ty) (R : Rm) (a0 : Nat) : Nat → Int32 → Mm → Option (Unit × Mm) :=
  lp (fun j7 => fs_X5_creepDown_7 T R a0 j7) (fun _ _ => none)
def fn_X5_creepDown (T : Ty) (R : Rm) (a0 : Nat) (M : Mm) : Option (Unit × Mm) :=
  chk (isK T a0 5) <|
  bnd ((gI M a0 4) - (1 : Int32)) fun v_33 =>
  (fb_X5_creepDown_7 T R a0 FU) v_33 M
def fs_X5_moveDown_8 (T : Ty) (R : Rm) (a0 : Nat) (a1 : Nat) (x2 : Int32) (j8 : Int32 → Int32 → Mm → Option (Unit × Mm)) (x3 : Int32) (x4 : Int32) (M : Mm) : Option (Unit × Mm) :=
  chk (isK T a0 5) <|
  if (gI M a0 4) ≤ x4 then (
    chk (isK T a1 3) <|
    bnd (sI M a1 4 (2 : Int32)) fun M_4 =>
    some ((), M_4)) else (
    rfm (R a0 1) fun b_5 =>
    chk (isK T b_5 11) <|
    chk (inb x4 (lnT T b_5)) <|
    rfm (R b_5 x4.toNatClampNeg) fun b_8 =>
    chk (isK T b_8 0) <|
    if (gI M b_8 2) ≤ x3 then (
      bnd (x3 - (gI M b_8 2)) fun v_11 =>
      bnd (x4 + (1 : Int32)) fun v_12 =>
      j8 v_11 v_12 M) else (
      chk (isK T a1 3) <|
      bnd (sI M a1 0 x4) fun M_14 =>
      bnd (sI M_14 a1 1 x3) fun M_15 =>
      some ((), M_15)))
def fb_X5_moveDown_8 (T : Ty) (R : Rm) (a0 : Nat) (a1 : Nat) (x2 : Int32) : Nat → Int32 → Int32 → Mm → Option (Unit × Mm) :=
  lp (fun j8 => fs_X5_moveDown_8 T R a0 a1 x2 j8) (fun _ _ _ => none)
def fn_X5_moveDown (T : Ty) (R : Rm) (a0 : Nat) (a1 : Nat) (x2 : Int32) (M : Mm) : Option (Unit × Mm) :=
  chk (isK T a1 3) <|
  bnd (gI M a1 0) fun v_17 =>
  (fb_X5_moveDown_8 T R a0 a1 x2 FU) x2 v_17 M
def fn_X5_ride (T : Ty) (R : Rm) (a0 : Nat) (a1 : Nat) (M : Mm) : Option (Unit × Mm) :=
  chk (isK T a1 3) <|
  chk (isK T a0 5) <|
  cal (fn_X5_hasBand T R a0 (gI M a1 0) M) fun r_3 M_4 =>
  if r_3 = 0 then (
    some ((), M_4)) else (
    rfm (R a0 1) fun b_7 =>
    chk (isK T b_7 11) <|
    chk (inb (gI M_4 a1 0) (lnT T b_7)) <|
    rfm (R b_7 (gI M_4 a1 0).toNatClampNeg) fun b_10 =>
    bnd (sI M_4 a1 5 ((gI M_4 a1 5) + (1 : Int32))) fun M_11 =>
    chk (isK T b_10 0) <|
    cal (fn_X5_snowAt T R a0 (gI M_11 b_10 1) M_11) fun r_13 M_14 =>
    bnd (sI M_14 a1 3 ((gI M_11 a1 3) + (r_13 - (gI M_14 b_10 4)))) fun M_16 =>
    if (-(gI M_16 a1 2)) ≤ (gI M_16 a1 3) then (
      cal (fn_X0_way T R b_10 M_16) fun r_18 M_19 =>
      cal (fn_X5_moveDown T R a0 a1 ((gI M_16 a1 1) + r_18) M_19) fun _ M_22 =>
      some ((), M_22)) else (
      bnd (sI M_16 a1 4 (1 : Int32)) fun M_24 =>
      some ((), M_24)))
def fs_X5_letYearGoBy_106 (T : Ty) (R : Rm) (a0 : Nat) (j76 : Int32 → Mm → Option (Unit × Mm)) (x1 : Int32) (M : Mm) : Option (Unit × Mm) :=
  bnd (x1 + (1 : Int32)) fun v_1 =>
  j76 v_1 M
def fs_X5_letYearGoBy_76 (T : Ty) (R : Rm) (a0 : Nat) (j76 : Int32 → Mm → Option (Unit × Mm)) (x1 : Int32) (M : Mm) : Option (Unit × Mm) :=
  chk (isK T a0 5) <|
  if (gI M a0 5) ≤ x1 then (
    some ((), M)) else (
    rfm (R a0 2) fun b_4 =>
    chk (isK T b_4 12) <|
    chk (inb x1 (lnT T b_4)) <|
    rfm (R b_4 x1.toNatClampNeg) fun b_7 =>
    chk (isK T b_7 3) <|
    if (gI M b_7 4) = 0 then (
      cal (fn_X5_ride T R a0 b_7 M) fun _ M_11 =>
      (fs_X5_letYearGoBy_106 T R a0 j76) x1 M_11) else (
      (fs_X5_letYearGoBy_106 T R a0 j76) x1 M))
def fb_X5_letYearGoBy_76 (T : Ty) (R : Rm) (a0 : Nat) : Nat → Int32 → Mm → Option (Unit × Mm) :=
  lp (fun j76 => fs_X5_letYearGoBy_76 T R a0 j76) (fun _ _ => none)
def fs_X5_letYearGoBy_12 (T : Ty) (R : Rm) (a0 : Nat) (j12 : Int32 → Mm → Option (Unit × Mm)) (j76 : Int32 → Mm → Option (Unit × Mm)) (x1 : Int32) (M : Mm) : Option (Unit × Mm) :=
  chk (isK T a0 5) <|
  if (gI M a0 4) ≤ x1 then (
    cal (fn_X5_creepDown T R a0 M) fun _ M_16 =>
    rfm (R a0 3) fun b_18 =>
    rfm (R a0 0) fun b_19 =>
    chk (isK T b_19 9) <|
    chk (inb (5 : Int32) (lnT T b_19)) <|
    chk (inb (6 : Int32) (lnT T b_19)) <|
    chk (isK T b_18 1) <|
    cal (fn_X1_calve T R b_18 (gI M_16 b_19 (5 : Int32).toNatClampNeg) (gI M_16 b_19 (6 : Int32).toNatClampNeg) (gI M_16 a0 6) M_16) fun r_24 M_25 =>
    bnd (sJ M_25 a0 10 ((gJ M_16 a0 10) + (r_24.toInt64))) fun M_27 =>
    j76 (0 : Int32) M_27) else (
    rfm (R a0 1) fun b_28 =>
    chk (isK T b_28 11) <|
    chk (inb x1 (lnT T b_28)) <|
    rfm (R b_28 x1.toNatClampNeg) fun b_31 =>
    cal (fn_X5_snowAndMelt T R a0 b_31 M) fun _ M_33 =>
    bnd (x1 + (1 : Int32)) fun v_35 =>
    j12 v_35 M_33)
def fb_X5_letYearGoBy_12 (T : Ty) (R : Rm) (a0 : Nat) (j76 : Int32 → Mm → Option (Unit × Mm)) : Nat → Int32 → Mm → Option (Unit × Mm) :=
  lp (fun j12 => fs_X5_letYearGoBy_12 T R a0 j12 j76) (fun _ _ => none)
def fn_X5_letYearGoBy (T : Ty) (R : Rm) (a0 : Nat) (M : Mm) : Option (Unit × Mm) :=
  chk (isK T a0 5) <|
  bnd (sI M a0 6 ((gI M a0 6) + (1 : Int32))) fun M_37 =>
  (fb_X5_letYearGoBy_12 T R a0 (fb_X5_letYearGoBy_76 T R a0 FU) FU) (0 : Int32) M_37
def fs_X5_letYearsGoBy_2 (T : Ty) (R : Rm) (a0 : Nat) (x1 : Int32) (j2 : Int32 → Mm → Option (Unit × Mm)) (x2 : Int32) (M : Mm) : Option (Unit × Mm) :=
  if x1 ≤ x2 then (
    some ((), M)) else (
    chk (isK T a0 5) <|
    cal (fn_X5_letYearGoBy T R a0 M) fun _ M_4 =>
    bnd (x2 + (1 : Int32)) fun v_6 =>
    j2 v_6 M_4)
def fb_X5_letYearsGoBy_2 (T : Ty) (R : Rm) (a0 : Nat) (x1 : Int32) : Nat → Int32 → Mm → Option (Unit × Mm) :=
  lp (fun j2 => fs_X5_letYearsGoBy_2 T R a0 x1 j2) (fun _ _ => none)
def fn_X5_letYearsGoBy (T : Ty) (R : Rm) (a0 : Nat) (x1 : Int32) (M : Mm) : Option (Unit × Mm) :=
  (fb_X5_letYearsGoBy_2 T R a0 x1 FU) (0 : Int32) M
def fn_X6_isWithin (T : Ty) (R : Rm) (x0 : Int32) (x1 : Int32) (x2 : Int32) (M : Mm) : Option (Int32 × Mm) :=
  if x0 < x1 then (
    some ((0 : Int32), M)) else (
    if x2 < x0 then (
      some ((0 : Int32), M)) else (
      some ((1 : Int32), M)))
def fs_X6_dropOldestState_9 (T : Ty) (a0 : Nat) (j9 : Nat → Int32 → Mm → Rm → Option (Unit × Mm × Rm)) (a1 : Nat) (x2 : Int32) (M : Mm) (R : Rm) : Option (Unit × Mm × Rm) :=
  chk (isK T a0 6) <|
  rfm (R a0 1) fun b_2 =>
  chk (isK T b_2 13) <|
  if (Int32.ofNat (lnT T b_2)) ≤ x2 then (
    chk (inb (3 : Int32) (lnT T b_2)) <|
    chk (isK T a1 5) <|
    bnd (up2 R b_2 (3 : Int32).toNatClampNeg (some a1)) fun R_7 =>
    bnd (sI M a0 4 (3 : Int32)) fun M_8 =>
    some ((), M_8, R_7)) else (
    chk (inb x2 (lnT T b_2)) <|
    rfm (R b_2 x2.toNatClampNeg) fun b_10 =>
    chk (inb (x2 - (1 : Int32)) (lnT T b_2)) <|
    chk (isK T b_10 5) <|
    bnd (up2 R b_2 (x2 - (1 : Int32)).toNatClampNeg (some b_10)) fun R_13 =>
    bnd (x2 + (1 : Int32)) fun v_14 =>
    j9 a1 v_14 M R_13)
def fb_X6_dropOldestState_9 (T : Ty) (a0 : Nat) : Nat → Nat → Int32 → Mm → Rm → Option (Unit × Mm × Rm) :=
  lp (fun j9 => fs_X6_dropOldestState_9 T a0 j9) (fun _ _ _ _ => none)
def fn_X6_dropOldestState (T : Ty) (a0 : Nat) (M : Mm) (R : Rm) : Option (Unit × Mm × Rm) :=
  chk (isK T a0 6) <|
  rfm (R a0 1) fun b_16 =>
  chk (isK T b_16 13) <|
  chk (inb (0 : Int32) (lnT T b_16)) <|
  rfm (R b_16 (0 : Int32).toNatClampNeg) fun b_19 =>
  (fb_X6_dropOldestState_9 T a0 FU) b_19 (1 : Int32) M R
def fs_X6_recordState_12 (T : Ty) (a0 : Nat)  (M : Mm) (R : Rm) : Option (Unit × Mm × Rm) :=
  chk (isK T a0 6) <|
  rfm (R a0 1) fun b_2 =>
  chk (isK T b_2 13) <|
  chk (inb (gI M a0 4) (lnT T b_2)) <|
  rfm (R b_2 (gI M a0 4).toNatClampNeg) fun b_5 =>
  rfm (R a0 3) fun b_6 =>
  chk (isK T b_5 5) <|
  cal (fn_X5_copyFrom T R b_5 b_6 M) fun _ M_9 =>
  bnd (sI M_9 a0 4 ((gI M_9 a0 4) + (1 : Int32))) fun M_11 =>
  some ((), M_11, R)
def fn_X6_recordState (T : Ty) (a0 : Nat) (M : Mm) (R : Rm) : Option (Unit × Mm × Rm) :=
  chk (isK T a0 6) <|
  if (gI M a0 4) < (4 : Int32) then (
    (fs_X6_recordState_12 T a0) M R) else (
    calR (fn_X6_dropOldestState T a0 M R) fun _ M_15 R_17 =>
    (fs_X6_recordState_12 T a0) M_15 R_17)
def fn_X6_set (T : Ty) (a0 : Nat) (x1 : Int32) (x2 : Int32) (M : Mm) (R : Rm) : Option (Int32 × Mm × Rm) :=
  cal (fn_X6_isWithin T R x1 (0 : Int32) (6 : Int32) M) fun r_1 M_2 =>
  if r_1 = 0 then (
    some ((-2000000001 : Int32), M_2, R)) else (
    chk (inb x1 7) <|
    chk (inb x1 7) <|
    cal (fn_X6_isWithin T R x2 (fLeast x1.toNatClampNeg) (fMost x1.toNatClampNeg) M_2) fun r_9 M_10 =>
    if r_9 = 0 then (
      some ((-2000000001 : Int32), M_10, R)) else (
      chk (isK T a0 6) <|
      calR (fn_X6_recordState T a0 M_10 R) fun _ M_15 R_17 =>
      rfm (R_17 a0 3) fun b_18 =>
      chk (isK T b_18 5) <|
      rfm (R_17 b_18 0) fun b_20 =>
      chk (isK T b_20 9) <|
      chk (inb x1 (lnT T b_20)) <|
      bnd (gI M_15 b_20 x1.toNatClampNeg) fun v_23 =>
      bnd (sI M_15 b_20 x1.toNatClampNeg x2) fun M_24 =>
      some (v_23, M_24, R_17)))
def fn_X6_band (T : Ty) (a0 : Nat) (x1 : Int32) (x2 : Int32) (x3 : Int32) (x4 : Int32) (M : Mm) (R : Rm) : Option (Int32 × Mm × Rm) :=
  cal (fn_X6_isWithin T R x1 (0 : Int32) (5000 : Int32) M) fun r_1 M_2 =>
  if r_1 = 0 then (
    some ((-2000000001 : Int32), M_2, R)) else (
    cal (fn_X6_isWithin T R x2 (100 : Int32) (5000 : Int32) M_2) fun r_5 M_6 =>
    if r_5 = 0 then (
      some ((-2000000001 : Int32), M_6, R)) else (
      cal (fn_X6_isWithin T R x3 (0 : Int32) (500 : Int32) M_6) fun r_9 M_10 =>
      if r_9 = 0 then (
        some ((-2000000001 : Int32), M_10, R)) else (
        cal (fn_X6_isWithin T R x4 (0 : Int32) (1000000 : Int32) M_10) fun r_13 M_14 =>
        if r_13 = 0 then (
          some ((-2000000001 : Int32), M_14, R)) else (
          chk (isK T a0 6) <|
          rfm (R a0 3) fun b_18 =>
          chk (isK T b_18 5) <|
          cal (fn_X5_isBelowAll T R b_18 x1 M_14) fun r_20 M_21 =>
          if r_20 = 0 then (
            some ((-2000000002 : Int32), M_21, R)) else (
            if (gI M_21 b_18 4) < (10 : Int32) then (
              calR (fn_X6_recordState T a0 M_21 R) fun _ M_26 R_28 =>
              rfm (R_28 a0 3) fun b_29 =>
              chk (isK T b_29 5) <|
              cal (fn_X5_addBand T R_28 b_29 x1 x2 x3 x4 M_26) fun r_31 M_32 =>
              some (r_31, M_32, R_28)) else (
              some ((-2000000003 : Int32), M_21, R)))))))
def fn_X6_creep (T : Ty) (a0 : Nat) (x1 : Int32) (x2 : Int32) (M : Mm) (R : Rm) : Option (Int32 × Mm × Rm) :=
  chk (isK T a0 6) <|
  rfm (R a0 3) fun b_2 =>
  chk (isK T b_2 5) <|
  cal (fn_X5_hasBand T R b_2 x1 M) fun r_4 M_5 =>
  if r_4 = 0 then (
    some ((-2000000001 : Int32), M_5, R)) else (
    cal (fn_X6_isWithin T R x2 (0 : Int32) (500 : Int32) M_5) fun r_8 M_9 =>
    if r_8 = 0 then (
      some ((-2000000001 : Int32), M_9, R)) else (
      calR (fn_X6_recordState T a0 M_9 R) fun _ M_13 R_15 =>
      rfm (R_15 a0 3) fun b_16 =>
      chk (isK T b_16 5) <|
      rfm (R_15 b_16 1) fun b_18 =>
      chk (isK T b_18 11) <|
      chk (inb x1 (lnT T b_18)) <|
      rfm (R_15 b_18 x1.toNatClampNeg) fun b_21 =>
      chk (isK T b_21 0) <|
      bnd (gI M_13 b_21 3) fun v_23 =>
      bnd (sI M_13 b_21 3 x2) fun M_24 =>
      some (v_23, M_24, R_15)))
def fn_X6_bandInfo (T : Ty) (R : Rm) (a0 : Nat) (x1 : Int32) (x2 : Int32) (M : Mm) : Option (Int32 × Mm) :=
  chk (isK T a0 6) <|
  rfm (R a0 3) fun b_2 =>
  chk (isK T b_2 5) <|
  cal (fn_X5_hasBand T R b_2 x1 M) fun r_4 M_5 =>
  if r_4 = 0 then (
    some ((-2000000001 : Int32), M_5)) else (
    cal (fn_X6_isWithin T R x2 (0 : Int32) (11 : Int32) M_5) fun r_8 M_9 =>
    if r_8 = 0 then (
      some ((-2000000001 : Int32), M_9)) else (
      rfm (R b_2 1) fun b_12 =>
      chk (isK T b_12 11) <|
      chk (inb x1 (lnT T b_12)) <|
      rfm (R b_12 x1.toNatClampNeg) fun b_15 =>
      if x2 = 0 then (
        chk (isK T b_15 0) <|
        some ((gI M_9 b_15 1), M_9)) else (
      if x2 = 1 then (
        chk (isK T b_15 0) <|
        some ((gI M_9 b_15 2), M_9)) else (
      if x2 = 2 then (
        chk (isK T b_15 0) <|
        some ((gI M_9 b_15 3), M_9)) else (
      if x2 = 3 then (
        chk (isK T b_15 0) <|
        rfm (R b_15 0) fun b_24 =>
        chk (isK T b_24 2) <|
        some ((gI M_9 b_24 1), M_9)) else (
      if x2 = 4 then (
        chk (isK T b_15 0) <|
        rfm (R b_15 0) fun b_28 =>
        chk (isK T b_28 2) <|
        cal (fn_X2_number T R b_28 M_9) fun r_30 M_31 =>
        some (r_30, M_31)) else (
      if x2 = 5 then (
        chk (isK T b_15 0) <|
        rfm (R b_15 0) fun b_35 =>
        chk (isK T b_35 2) <|
        if (gI M_9 b_35 1) = 0 then (
          some ((-2000000004 : Int32), M_9)) else (
          some ((gI M_9 b_35 2), M_9))) else (
      if x2 = 6 then (
        chk (isK T b_15 0) <|
        rfm (R b_15 0) fun b_40 =>
        chk (isK T b_40 2) <|
        if (gI M_9 b_40 1) = 0 then (
          some ((-2000000004 : Int32), M_9)) else (
          some ((gI M_9 b_40 3), M_9))) else (
      if x2 = 7 then (
        chk (isK T b_15 0) <|
        cal (fn_X5_snowAt T R b_2 (gI M_9 b_15 1) M_9) fun r_45 M_46 =>
        some (r_45, M_46)) else (
      if x2 = 8 then (
        chk (isK T b_15 0) <|
        rfm (R b_2 0) fun b_50 =>
        chk (isK T b_50 9) <|
        chk (inb (2 : Int32) (lnT T b_50)) <|
        cal (fn_X5_meltAt T R b_2 (gI M_9 b_15 1) (gI M_9 b_50 (2 : Int32).toNatClampNeg) M_9) fun r_53 M_54 =>
        some (r_53, M_54)) else (
      if x2 = 9 then (
        chk (isK T b_15 0) <|
        some ((gI M_9 b_15 4), M_9)) else (
      if x2 = 10 then (
        chk (isK T b_15 0) <|
        some ((gI M_9 b_15 5), M_9)) else (
        chk (isK T b_15 0) <|
        some ((gI M_9 b_15 6), M_9))))))))))))))
def fn_X6_layer (T : Ty) (R : Rm) (a0 : Nat) (x1 : Int32) (x2 : Int32) (x3 : Int32) (M : Mm) : Option (Int32 × Mm) :=
  chk (isK T a0 6) <|
  rfm (R a0 3) fun b_2 =>
  chk (isK T b_2 5) <|
  cal (fn_X5_hasBand T R b_2 x1 M) fun r_4 M_5 =>
  if r_4 = 0 then (
    some ((-2000000001 : Int32), M_5)) else (
    if x2 < 0 then (
      some ((-2000000001 : Int32), M_5)) else (
      cal (fn_X6_isWithin T R x3 (0 : Int32) (1 : Int32) M_5) fun r_9 M_10 =>
      if r_9 = 0 then (
        some ((-2000000001 : Int32), M_10)) else (
        rfm (R b_2 1) fun b_13 =>
        chk (isK T b_13 11) <|
        chk (inb x1 (lnT T b_13)) <|
        rfm (R b_13 x1.toNatClampNeg) fun b_16 =>
        chk (isK T b_16 0) <|
        rfm (R b_16 0) fun b_18 =>
        chk (isK T b_18 2) <|
        cal (fn_X2_yearOfLayer T R b_18 x2 M_10) fun r_20 M_21 =>
        if 0 ≤ r_20 then (
          if x3 = 0 then (
            some (r_20, M_21)) else (
            cal (fn_X2_leftOf T R b_18 r_20 M_21) fun r_25 M_26 =>
            some (r_25, M_26))) else (
          some ((-2000000004 : Int32), M_21)))))
def fn_X6_ofYear (T : Ty) (R : Rm) (a0 : Nat) (x1 : Int32) (M : Mm) : Option (Int32 × Mm) :=
  cal (fn_X6_isWithin T R x1 (0 : Int32) (500 : Int32) M) fun r_1 M_2 =>
  if r_1 = 0 then (
    some ((-2000000001 : Int32), M_2)) else (
    chk (isK T a0 6) <|
    rfm (R a0 3) fun b_6 =>
    chk (isK T b_6 5) <|
    cal (fn_X5_leftOf T R b_6 x1 M_2) fun r_8 M_9 =>
    some (r_8, M_9))
def fs_X6_line_10 (T : Ty) (R : Rm) (a0 : Nat) (j10 : Int32 → Mm → Option (Int32 × Mm)) (x1 : Int32) (M : Mm) : Option (Int32 × Mm) :=
  if x1 < 0 then (
    some ((-2000000004 : Int32), M)) else (
    chk (isK T a0 6) <|
    rfm (R a0 3) fun b_3 =>
    chk (isK T b_3 5) <|
    rfm (R b_3 1) fun b_5 =>
    chk (isK T b_5 11) <|
    chk (inb x1 (lnT T b_5)) <|
    rfm (R b_5 x1.toNatClampNeg) fun b_8 =>
    chk (isK T b_8 0) <|
    bnd (gI M b_8 1) fun v_10 =>
    cal (fn_X5_snowAt T R b_3 v_10 M) fun r_11 M_12 =>
    rfm (R b_3 0) fun b_14 =>
    chk (isK T b_14 9) <|
    chk (inb (2 : Int32) (lnT T b_14)) <|
    cal (fn_X5_meltAt T R b_3 v_10 (gI M_12 b_14 (2 : Int32).toNatClampNeg) M_12) fun r_17 M_18 =>
    if r_11 < r_17 then (
      bnd (x1 + (-1 : Int32)) fun v_21 =>
      j10 v_21 M_18) else (
      some (x1, M_18)))
def fb_X6_line_10 (T : Ty) (R : Rm) (a0 : Nat) : Nat → Int32 → Mm → Option (Int32 × Mm) :=
  lp (fun j10 => fs_X6_line_10 T R a0 j10) (fun _ _ => none)
def fn_X6_line (T : Ty) (R : Rm) (a0 : Nat) (M : Mm) : Option (Int32 × Mm) :=
  chk (isK T a0 6) <|
  rfm (R a0 3) fun b_23 =>
  chk (isK T b_23 5) <|
  bnd ((gI M b_23 4) - (1 : Int32)) fun v_25 =>
  (fb_X6_line_10 T R a0 FU) v_25 M
def fn_X6_front (T : Ty) (R : Rm) (a0 : Nat) (x1 : Int32) (M : Mm) : Option (Int32 × Mm) :=
  cal (fn_X6_isWithin T R x1 (0 : Int32) (3 : Int32) M) fun r_1 M_2 =>
  if r_1 = 0 then (
    some ((-2000000001 : Int32), M_2)) else (
    if x1 = 0 then (
      chk (isK T a0 6) <|
      rfm (R a0 3) fun b_7 =>
      chk (isK T b_7 5) <|
      rfm (R b_7 3) fun b_9 =>
      chk (isK T b_9 1) <|
      some ((gI M_2 b_9 0), M_2)) else (
    if x1 = 1 then (
      chk (isK T a0 6) <|
      rfm (R a0 3) fun b_13 =>
      chk (isK T b_13 5) <|
      rfm (R b_13 3) fun b_15 =>
      chk (isK T b_15 1) <|
      some ((gI M_2 b_15 1), M_2)) else (
    if x1 = 2 then (
      chk (isK T a0 6) <|
      rfm (R a0 3) fun b_19 =>
      chk (isK T b_19 5) <|
      rfm (R b_19 3) fun b_21 =>
      chk (isK T b_21 1) <|
      some ((gI M_2 b_21 2), M_2)) else (
      chk (isK T a0 6) <|
      rfm (R a0 3) fun b_24 =>
      chk (isK T b_24 5) <|
      rfm (R b_24 3) fun b_26 =>
      chk (isK T b_26 1) <|
      if (gI M_2 b_26 2) = 0 then (
        some ((-2000000004 : Int32), M_2)) else (
        some ((gI M_2 b_26 3), M_2))))))
def fn_X6_account (T : Ty) (R : Rm) (a0 : Nat) (x1 : Int32) (M : Mm) : Option (Int64 × Mm) :=
  cal (fn_X6_isWithin T R x1 (0 : Int32) (5 : Int32) M) fun r_1 M_2 =>
  if r_1 = 0 then (
    some ((-2000000001 : Int64), M_2)) else (
    if x1 = 0 then (
      chk (isK T a0 6) <|
      rfm (R a0 3) fun b_7 =>
      chk (isK T b_7 5) <|
      some ((gJ M_2 b_7 7), M_2)) else (
    if x1 = 1 then (
      chk (isK T a0 6) <|
      rfm (R a0 3) fun b_11 =>
      chk (isK T b_11 5) <|
      some ((gJ M_2 b_11 8), M_2)) else (
    if x1 = 2 then (
      chk (isK T a0 6) <|
      rfm (R a0 3) fun b_15 =>
      chk (isK T b_15 5) <|
      some ((gJ M_2 b_15 9), M_2)) else (
    if x1 = 3 then (
      chk (isK T a0 6) <|
      rfm (R a0 3) fun b_19 =>
      chk (isK T b_19 5) <|
      some ((gJ M_2 b_19 10), M_2)) else (
    if x1 = 4 then (
      chk (isK T a0 6) <|
      rfm (R a0 3) fun b_23 =>
      chk (isK T b_23 5) <|
      cal (fn_X5_allIce T R b_23 M_2) fun r_25 M_26 =>
      some (r_25, M_26)) else (
      chk (isK T a0 6) <|
      rfm (R a0 3) fun b_29 =>
      chk (isK T b_29 5) <|
      cal (fn_X5_allIceByYears T R b_29 M_2) fun r_31 M_32 =>
      some (r_31, M_32)))))))
def fn_X6_count (T : Ty) (R : Rm) (a0 : Nat) (x1 : Int32) (M : Mm) : Option (Int32 × Mm) :=
  cal (fn_X6_isWithin T R x1 (0 : Int32) (14 : Int32) M) fun r_1 M_2 =>
  if r_1 = 0 then (
    some ((-2000000001 : Int32), M_2)) else (
    cal (fn_X6_isWithin T R x1 (6 : Int32) (12 : Int32) M_2) fun r_5 M_6 =>
    if r_5 = 0 then (
      if x1 = 0 then (
        chk (isK T a0 6) <|
        rfm (R a0 3) fun b_11 =>
        chk (isK T b_11 5) <|
        some ((gI M_6 b_11 4), M_6)) else (
      if x1 = 1 then (
        chk (isK T a0 6) <|
        rfm (R a0 3) fun b_15 =>
        chk (isK T b_15 5) <|
        some ((gI M_6 b_15 6), M_6)) else (
      if x1 = 2 then (
        chk (isK T a0 6) <|
        rfm (R a0 3) fun b_19 =>
        chk (isK T b_19 5) <|
        some ((gI M_6 b_19 5), M_6)) else (
      if x1 = 3 then (
        chk (isK T a0 6) <|
        rfm (R a0 3) fun b_23 =>
        chk (isK T b_23 5) <|
        cal (fn_X5_standingStakes T R b_23 M_6) fun r_25 M_26 =>
        some (r_25, M_26)) else (
      if x1 = 4 then (
        chk (isK T a0 6) <|
        rfm (R a0 3) fun b_30 =>
        chk (isK T b_30 5) <|
        cal (fn_X5_layersOfAllBands T R b_30 M_6) fun r_32 M_33 =>
        some (r_32, M_33)) else (
      if x1 = 5 then (
        chk (isK T a0 6) <|
        rfm (R a0 3) fun b_37 =>
        chk (isK T b_37 5) <|
        cal (fn_X5_differentYears T R b_37 M_6) fun r_39 M_40 =>
        some (r_39, M_40)) else (
      if x1 = 6 then (
        chk (isK T a0 6) <|
        rfm (R a0 2) fun b_44 =>
        chk (isK T b_44 4) <|
        some ((gI M_6 b_44 1), M_6)) else (
      if x1 = 7 then (
        chk (isK T a0 6) <|
        rfm (R a0 2) fun b_48 =>
        chk (isK T b_48 4) <|
        some ((gI M_6 b_48 1), M_6)) else (
      if x1 = 8 then (
        chk (isK T a0 6) <|
        rfm (R a0 2) fun b_52 =>
        chk (isK T b_52 4) <|
        some ((gI M_6 b_52 1), M_6)) else (
      if x1 = 9 then (
        chk (isK T a0 6) <|
        rfm (R a0 2) fun b_56 =>
        chk (isK T b_56 4) <|
        some ((gI M_6 b_56 1), M_6)) else (
      if x1 = 10 then (
        chk (isK T a0 6) <|
        rfm (R a0 2) fun b_60 =>
        chk (isK T b_60 4) <|
        some ((gI M_6 b_60 1), M_6)) else (
      if x1 = 11 then (
        chk (isK T a0 6) <|
        rfm (R a0 2) fun b_64 =>
        chk (isK T b_64 4) <|
        some ((gI M_6 b_64 1), M_6)) else (
      if x1 = 12 then (
        chk (isK T a0 6) <|
        rfm (R a0 2) fun b_68 =>
        chk (isK T b_68 4) <|
        some ((gI M_6 b_68 1), M_6)) else (
      if x1 = 13 then (
        chk (isK T a0 6) <|
        some ((gI M_6 a0 4), M_6)) else (
        chk (isK T a0 6) <|
        rfm (R a0 2) fun b_73 =>
        chk (isK T b_73 4) <|
        some ((gI M_6 b_73 1), M_6)))))))))))))))) else (
      chk (isK T a0 6) <|
      rfm (R a0 3) fun b_76 =>
      chk (isK T b_76 5) <|
      rfm (R b_76 0) fun b_78 =>
      chk (isK T b_78 9) <|
      chk (inb (x1 - (6 : Int32)) (lnT T b_78)) <|
      some ((gI M_6 b_78 (x1 - (6 : Int32)).toNatClampNeg), M_6)))
def fn_X6_stake (T : Ty) (a0 : Nat) (x1 : Int32) (x2 : Int32) (x3 : Int32) (M : Mm) (R : Rm) : Option (Int32 × Mm × Rm) :=
  chk (isK T a0 6) <|
  rfm (R a0 3) fun b_2 =>
  chk (isK T b_2 5) <|
  cal (fn_X5_hasBand T R b_2 x1 M) fun r_4 M_5 =>
  if r_4 = 0 then (
    some ((-2000000001 : Int32), M_5, R)) else (
    rfm (R b_2 1) fun b_8 =>
    chk (isK T b_8 11) <|
    chk (inb x1 (lnT T b_8)) <|
    rfm (R b_8 x1.toNatClampNeg) fun b_11 =>
    chk (isK T b_11 0) <|
    cal (fn_X6_isWithin T R x2 (0 : Int32) ((gI M_5 b_11 2) - (1 : Int32)) M_5) fun r_13 M_14 =>
    if r_13 = 0 then (
      some ((-2000000001 : Int32), M_14, R)) else (
      cal (fn_X6_isWithin T R x3 (1 : Int32) (10000 : Int32) M_14) fun r_17 M_18 =>
      if r_17 = 0 then (
        some ((-2000000001 : Int32), M_18, R)) else (
        cal (fn_X5_isStakeAt T R b_2 x1 x2 M_18) fun r_21 M_22 =>
        if r_21 = 0 then (
          if (gI M_22 b_2 5) < (6 : Int32) then (
            calR (fn_X6_recordState T a0 M_22 R) fun _ M_27 R_29 =>
            rfm (R_29 a0 3) fun b_30 =>
            chk (isK T b_30 5) <|
            cal (fn_X5_addStake T R_29 b_30 x1 x2 x3 M_27) fun r_32 M_33 =>
            some (r_32, M_33, R_29)) else (
            some ((-2000000003 : Int32), M_22, R))) else (
          some ((-2000000002 : Int32), M_22, R)))))
def fn_X6_pull (T : Ty) (a0 : Nat) (x1 : Int32) (M : Mm) (R : Rm) : Option (Int32 × Mm × Rm) :=
  chk (isK T a0 6) <|
  rfm (R a0 3) fun b_2 =>
  chk (isK T b_2 5) <|
  cal (fn_X5_hasStake T R b_2 x1 M) fun r_4 M_5 =>
  if r_4 = 0 then (
    some ((-2000000001 : Int32), M_5, R)) else (
    calR (fn_X6_recordState T a0 M_5 R) fun _ M_9 R_11 =>
    rfm (R_11 a0 3) fun b_12 =>
    chk (isK T b_12 5) <|
    calR (fn_X5_removeStake T b_12 x1 M_9 R_11) fun r_14 M_15 R_17 =>
    some (r_14, M_15, R_17))
def fn_X6_stakeInfo (T : Ty) (R : Rm) (a0 : Nat) (x1 : Int32) (x2 : Int32) (M : Mm) : Option (Int32 × Mm) :=
  chk (isK T a0 6) <|
  rfm (R a0 3) fun b_2 =>
  chk (isK T b_2 5) <|
  cal (fn_X5_hasStake T R b_2 x1 M) fun r_4 M_5 =>
  if r_4 = 0 then (
    some ((-2000000001 : Int32), M_5)) else (
    cal (fn_X6_isWithin T R x2 (0 : Int32) (5 : Int32) M_5) fun r_8 M_9 =>
    if r_8 = 0 then (
      some ((-2000000001 : Int32), M_9)) else (
      rfm (R b_2 2) fun b_12 =>
      chk (isK T b_12 12) <|
      chk (inb x1 (lnT T b_12)) <|
      rfm (R b_12 x1.toNatClampNeg) fun b_15 =>
      if x2 = 0 then (
        chk (isK T b_15 3) <|
        some ((gI M_9 b_15 0), M_9)) else (
      if x2 = 1 then (
        chk (isK T b_15 3) <|
        some ((gI M_9 b_15 1), M_9)) else (
      if x2 = 2 then (
        chk (isK T b_15 3) <|
        some ((gI M_9 b_15 2), M_9)) else (
      if x2 = 3 then (
        chk (isK T b_15 3) <|
        some ((gI M_9 b_15 3), M_9)) else (
      if x2 = 4 then (
        chk (isK T b_15 3) <|
        some ((gI M_9 b_15 4), M_9)) else (
        chk (isK T b_15 3) <|
        some ((gI M_9 b_15 5), M_9))))))))
def fs_X6_stakesIn_66 (T : Ty) (R : Rm) (a0 : Nat) (x1 : Int32) (j18 : Int32 → Int32 → Mm → Option (Int32 × Mm)) (x2 : Int32) (x3 : Int32) (M : Mm) : Option (Int32 × Mm) :=
  bnd (x3 + (1 : Int32)) fun v_1 =>
  j18 x2 v_1 M
def fs_X6_stakesIn_18 (T : Ty) (R : Rm) (a0 : Nat) (x1 : Int32) (j18 : Int32 → Int32 → Mm → Option (Int32 × Mm)) (x2 : Int32) (x3 : Int32) (M : Mm) : Option (Int32 × Mm) :=
  chk (isK T a0 6) <|
  rfm (R a0 3) fun b_3 =>
  chk (isK T b_3 5) <|
  if (gI M b_3 5) ≤ x3 then (
    some (x2, M)) else (
    rfm (R b_3 2) fun b_6 =>
    chk (isK T b_6 12) <|
    chk (inb x3 (lnT T b_6)) <|
    rfm (R b_6 x3.toNatClampNeg) fun b_9 =>
    chk (isK T b_9 3) <|
    if (gI M b_9 4) = 0 then (
      if (gI M b_9 0) = x1 then (
        bnd (x2 ||| ((1 : Int32) <<< (x3 &&& 31))) fun v_13 =>
        (fs_X6_stakesIn_66 T R a0 x1 j18) v_13 x3 M) else (
        (fs_X6_stakesIn_66 T R a0 x1 j18) x2 x3 M)) else (
      (fs_X6_stakesIn_66 T R a0 x1 j18) x2 x3 M))
def fb_X6_stakesIn_18 (T : Ty) (R : Rm) (a0 : Nat) (x1 : Int32) : Nat → Int32 → Int32 → Mm → Option (Int32 × Mm) :=
  lp (fun j18 => fs_X6_stakesIn_18 T R a0 x1 j18) (fun _ _ _ => none)
def fn_X6_stakesIn (T : Ty) (R : Rm) (a0 : Nat) (x1 : Int32) (M : Mm) : Option (Int32 × Mm) :=
  chk (isK T a0 6) <|
  rfm (R a0 3) fun b_15 =>
  chk (isK T b_15 5) <|
  cal (fn_X5_hasBand T R b_15 x1 M) fun r_17 M_18 =>
  if r_17 = 0 then (
    some ((-2000000001 : Int32), M_18)) else (
    (fb_X6_stakesIn_18 T R a0 x1 FU) (0 : Int32) (0 : Int32) M_18)
def fn_X6_years (T : Ty) (a0 : Nat) (x1 : Int32) (M : Mm) (R : Rm) : Option (Int32 × Mm × Rm) :=
  cal (fn_X6_isWithin T R x1 (1 : Int32) (100 : Int32) M) fun r_1 M_2 =>
  if r_1 = 0 then (
    some ((-2000000001 : Int32), M_2, R)) else (
    chk (isK T a0 6) <|
    rfm (R a0 3) fun b_6 =>
    chk (isK T b_6 5) <|
    if (gI M_2 b_6 4) = 0 then (
      some ((-2000000002 : Int32), M_2, R)) else (
      if ((gI M_2 b_6 6) + x1) ≤ (500 : Int32) then (
        calR (fn_X6_recordState T a0 M_2 R) fun _ M_11 R_13 =>
        rfm (R_13 a0 3) fun b_14 =>
        chk (isK T b_14 5) <|
        rfm (R_13 b_14 3) fun b_16 =>
        chk (isK T b_16 1) <|
        bnd (gI M_11 b_16 2) fun v_18 =>
        cal (fn_X5_letYearsGoBy T R_13 b_14 x1 M_11) fun _ M_20 =>
        some (((gI M_20 b_16 2) - v_18), M_20, R_13)) else (
        some ((-2000000003 : Int32), M_2, R))))
def fn_X6_ifYears (T : Ty) (R : Rm) (a0 : Nat) (x1 : Int32) (x2 : Int32) (M : Mm) : Option (Int32 × Mm) :=
  cal (fn_X6_isWithin T R x1 (1 : Int32) (100 : Int32) M) fun r_1 M_2 =>
  if r_1 = 0 then (
    some ((-2000000001 : Int32), M_2)) else (
    cal (fn_X6_isWithin T R x2 (0 : Int32) (4 : Int32) M_2) fun r_5 M_6 =>
    if r_5 = 0 then (
      some ((-2000000001 : Int32), M_6)) else (
      chk (isK T a0 6) <|
      rfm (R a0 3) fun b_10 =>
      chk (isK T b_10 5) <|
      if (gI M_6 b_10 4) = 0 then (
        some ((-2000000002 : Int32), M_6)) else (
        rfm (R a0 0) fun b_13 =>
        chk (isK T b_13 5) <|
        cal (fn_X5_copyFrom T R b_13 b_10 M_6) fun _ M_16 =>
        cal (fn_X5_letYearsGoBy T R b_13 x1 M_16) fun _ M_19 =>
        if x2 = 0 then (
          cal (fn_X5_allIce T R b_13 M_19) fun r_22 M_23 =>
          some ((r_22.toInt32), M_23)) else (
        if x2 = 1 then (
          rfm (R b_13 3) fun b_26 =>
          chk (isK T b_26 1) <|
          rfm (R b_10 3) fun b_28 =>
          chk (isK T b_28 1) <|
          some (((gI M_19 b_26 2) - (gI M_19 b_28 2)), M_19)) else (
        if x2 = 2 then (
          some ((((gJ M_19 b_13 9) - (gJ M_19 b_10 9)).toInt32), M_19)) else (
        if x2 = 3 then (
          cal (fn_X5_standingStakes T R b_13 M_19) fun r_32 M_33 =>
          some (r_32, M_33)) else (
          cal (fn_X5_bandIce T R b_13 M_19) fun r_35 M_36 =>
          if r_35 = 0 then (
            some ((-2000000004 : Int32), M_36)) else (
            cal (fn_X5_oldestYear T R b_13 M_36) fun r_39 M_40 =>
            some (r_39, M_40)))))))))
def fn_X6_isSoInTrial (T : Ty) (R : Rm) (a0 : Nat) (x1 : Int32) (x2 : Int32) (M : Mm) : Option (Int32 × Mm) :=
  if x1 = 0 then (
    chk (isK T a0 6) <|
    rfm (R a0 0) fun b_3 =>
    chk (isK T b_3 5) <|
    rfm (R b_3 3) fun b_5 =>
    chk (isK T b_5 1) <|
    if (gI M b_5 2) ≤ x2 then (
      some ((0 : Int32), M)) else (
      some ((1 : Int32), M))) else (
  if x1 = 1 then (
    chk (isK T a0 6) <|
    rfm (R a0 0) fun b_10 =>
    chk (isK T b_10 5) <|
    cal (fn_X5_bandIce T R b_10 M) fun r_12 M_13 =>
    if r_12 = 0 then (
      some ((1 : Int32), M_13)) else (
      some ((0 : Int32), M_13))) else (
    chk (isK T a0 6) <|
    rfm (R a0 0) fun b_17 =>
    chk (isK T b_17 5) <|
    cal (fn_X5_standingStakes T R b_17 M) fun r_19 M_20 =>
    if r_19 = 0 then (
      some ((1 : Int32), M_20)) else (
      some ((0 : Int32), M_20))))
def fs_X6_yearsTo_38 (T : Ty) (R : Rm) (a0 : Nat) (x1 : Int32) (j38 : Int32 → Mm → Option (Int32 × Mm)) (x2 : Int32) (M : Mm) : Option (Int32 × Mm) :=
  if (300 : Int32) < x2 then (
    some ((-2000000004 : Int32), M)) else (
    chk (isK T a0 6) <|
    rfm (R a0 0) fun b_3 =>
    chk (isK T b_3 5) <|
    rfm (R b_3 3) fun b_5 =>
    chk (isK T b_5 1) <|
    bnd (gI M b_5 2) fun v_7 =>
    cal (fn_X5_letYearGoBy T R b_3 M) fun _ M_9 =>
    cal (fn_X6_isSoInTrial T R a0 x1 v_7 M_9) fun r_11 M_12 =>
    if r_11 = 0 then (
      bnd (x2 + (1 : Int32)) fun v_15 =>
      j38 v_15 M_12) else (
      some (x2, M_12)))
def fb_X6_yearsTo_38 (T : Ty) (R : Rm) (a0 : Nat) (x1 : Int32) : Nat → Int32 → Mm → Option (Int32 × Mm) :=
  lp (fun j38 => fs_X6_yearsTo_38 T R a0 x1 j38) (fun _ _ => none)
def fn_X6_yearsTo (T : Ty) (R : Rm) (a0 : Nat) (x1 : Int32) (M : Mm) : Option (Int32 × Mm) :=
  cal (fn_X6_isWithin T R x1 (0 : Int32) (2 : Int32) M) fun r_16 M_17 =>
  if r_16 = 0 then (
    some ((-2000000001 : Int32), M_17)) else (
    chk (isK T a0 6) <|
    rfm (R a0 3) fun b_21 =>
    chk (isK T b_21 5) <|
    if (gI M_17 b_21 4) = 0 then (
      some ((-2000000002 : Int32), M_17)) else (
      rfm (R a0 0) fun b_24 =>
      chk (isK T b_24 5) <|
      cal (fn_X5_copyFrom T R b_24 b_21 M_17) fun _ M_27 =>
      (fb_X6_yearsTo_38 T R a0 x1 FU) (1 : Int32) M_27))
def fs_X6_steadyMelt_73 (T : Ty) (R : Rm) (a0 : Nat) (j41 : Int32 → Int32 → Mm → Option (Int32 × Mm)) (x1 : Int32) (x2 : Int32) (M : Mm) : Option (Int32 × Mm) :=
  bnd (x2 / (2 : Int32)) fun v_1 =>
  j41 x1 v_1 M
def fs_X6_steadyMelt_41 (T : Ty) (R : Rm) (a0 : Nat) (j41 : Int32 → Int32 → Mm → Option (Int32 × Mm)) (x1 : Int32) (x2 : Int32) (M : Mm) : Option (Int32 × Mm) :=
  if x2 ≤ 0 then (
    some (x1, M)) else (
    chk (inb (2 : Int32) 7) <|
    if (fMost (2 : Int32).toNatClampNeg) < (x1 + x2) then (
      (fs_X6_steadyMelt_73 T R a0 j41) x1 x2 M) else (
      chk (isK T a0 6) <|
      rfm (R a0 3) fun b_7 =>
      chk (isK T b_7 5) <|
      cal (fn_X5_snowOutweighsMelt T R b_7 (x1 + x2) M) fun r_9 M_10 =>
      if r_9 = 0 then (
        (fs_X6_steadyMelt_73 T R a0 j41) x1 x2 M_10) else (
        bnd (x1 + x2) fun v_13 =>
        (fs_X6_steadyMelt_73 T R a0 j41) v_13 x2 M_10)))
def fb_X6_steadyMelt_41 (T : Ty) (R : Rm) (a0 : Nat) : Nat → Int32 → Int32 → Mm → Option (Int32 × Mm) :=
  lp (fun j41 => fs_X6_steadyMelt_41 T R a0 j41) (fun _ _ _ => none)
def fn_X6_steadyMelt (T : Ty) (R : Rm) (a0 : Nat) (M : Mm) : Option (Int32 × Mm) :=
  chk (isK T a0 6) <|
  rfm (R a0 3) fun b_15 =>
  chk (isK T b_15 5) <|
  if (gI M b_15 4) = 0 then (
    some ((-2000000002 : Int32), M)) else (
    chk (inb (2 : Int32) 7) <|
    cal (fn_X5_snowOutweighsMelt T R b_15 (fLeast (2 : Int32).toNatClampNeg) M) fun r_20 M_21 =>
    if r_20 = 0 then (
      some ((-2000000004 : Int32), M_21)) else (
      bnd (fLeast (2 : Int32).toNatClampNeg) fun v_25 =>
      (fb_X6_steadyMelt_41 T R a0 FU) v_25 (8192 : Int32) M_21))
def fn_X6_undo (T : Ty) (a0 : Nat) (M : Mm) (R : Rm) : Option (Int32 × Mm × Rm) :=
  chk (isK T a0 6) <|
  if (gI M a0 4) = 0 then (
    some ((-2000000002 : Int32), M, R)) else (
    bnd (sI M a0 4 ((gI M a0 4) - (1 : Int32))) fun M_3 =>
    rfm (R a0 1) fun b_4 =>
    chk (isK T b_4 13) <|
    chk (inb (gI M_3 a0 4) (lnT T b_4)) <|
    rfm (R b_4 (gI M_3 a0 4).toNatClampNeg) fun b_7 =>
    rfm (R a0 3) fun b_8 =>
    chk (isK T b_8 5) <|
    bnd (up2 R b_4 (gI M_3 a0 4).toNatClampNeg (some b_8)) fun R_10 =>
    bnd (up2 R_10 a0 3 (some b_7)) fun R_11 =>
    some ((gI M_3 a0 4), M_3, R_11))
def fn_X6_type (T : Ty) (R : Rm) (a0 : Nat) (x1 : Int32) (M : Mm) : Option (Int32 × Mm) :=
  cal (fn_X6_isWithin T R x1 (32 : Int32) (126 : Int32) M) fun r_1 M_2 =>
  if r_1 = 0 then (
    some ((-2000000001 : Int32), M_2)) else (
    chk (isK T a0 6) <|
    rfm (R a0 2) fun b_6 =>
    chk (isK T b_6 4) <|
    if (gI M_2 b_6 1) < (60 : Int32) then (
      cal (fn_X4_append T R b_6 ((x1.toUInt32 % 65536).toInt32) M_2) fun _ M_10 =>
      some ((gI M_10 b_6 1), M_10)) else (
      some ((-2000000003 : Int32), M_2)))
def fn_X6_clearText (T : Ty) (R : Rm) (a0 : Nat) (M : Mm) : Option (Int32 × Mm) :=
  chk (isK T a0 6) <|
  rfm (R a0 2) fun b_2 =>
  chk (isK T b_2 4) <|
  bnd (gI M b_2 1) fun v_4 =>
  bnd (sI M b_2 1 (0 : Int32)) fun M_5 =>
  some (v_4, M_5)
def fn_X6_reasonAt (T : Ty) (R : Rm) (a0 : Nat) (x1 : Int32) (x2 : Int32) (M : Mm) : Option (Int32 × Mm) :=
  chk (isK T a0 6) <|
  rfm (R a0 2) fun b_2 =>
  chk (isK T b_2 4) <|
  cal (fn_X4_endOfYear T R b_2 x1 M) fun r_4 M_5 =>
  if 0 ≤ r_4 then (
    cal (fn_X4_snowOfYear T R b_2 x1 M_5) fun r_8 M_9 =>
    chk (inb (0 : Int32) 7) <|
    chk (inb (0 : Int32) 7) <|
    cal (fn_X6_isWithin T R r_8 (fLeast (0 : Int32).toNatClampNeg) (fMost (0 : Int32).toNatClampNeg) M_9) fun r_15 M_16 =>
    if r_15 = 0 then (
      some ((2 : Int32), M_16)) else (
      cal (fn_X4_meltOfYear T R b_2 x1 M_16) fun r_19 M_20 =>
      chk (inb (2 : Int32) 7) <|
      chk (inb (2 : Int32) 7) <|
      cal (fn_X6_isWithin T R r_19 (fLeast (2 : Int32).toNatClampNeg) (fMost (2 : Int32).toNatClampNeg) M_20) fun r_26 M_27 =>
      if r_26 = 0 then (
        some ((2 : Int32), M_27)) else (
        rfm (R a0 3) fun b_30 =>
        chk (isK T b_30 5) <|
        if (((gI M_27 b_30 6) + x2) + (1 : Int32)) ≤ (500 : Int32) then (
          some ((0 : Int32), M_27)) else (
          some ((3 : Int32), M_27))))) else (
    some ((1 : Int32), M_5))
def fs_X6_possibleYears_4 (T : Ty) (R : Rm) (a0 : Nat) (j4 : Int32 → Int32 → Mm → Option (Int32 × Mm)) (x1 : Int32) (x2 : Int32) (M : Mm) : Option (Int32 × Mm) :=
  if (60 : Int32) ≤ x2 then (
    some ((60 : Int32), M)) else (
    chk (isK T a0 6) <|
    rfm (R a0 2) fun b_3 =>
    chk (isK T b_3 4) <|
    if (gI M b_3 1) ≤ x1 then (
      some (x2, M)) else (
      cal (fn_X6_reasonAt T R a0 x1 x2 M) fun r_6 M_7 =>
      if r_6 = 0 then (
        cal (fn_X4_endOfYear T R b_3 x1 M_7) fun r_10 M_11 =>
        bnd (x2 + (1 : Int32)) fun v_13 =>
        j4 r_10 v_13 M_11) else (
        some (x2, M_7))))
def fb_X6_possibleYears_4 (T : Ty) (R : Rm) (a0 : Nat) : Nat → Int32 → Int32 → Mm → Option (Int32 × Mm) :=
  lp (fun j4 => fs_X6_possibleYears_4 T R a0 j4) (fun _ _ _ => none)
def fn_X6_possibleYears (T : Ty) (R : Rm) (a0 : Nat) (M : Mm) : Option (Int32 × Mm) :=
  (fb_X6_possibleYears_4 T R a0 FU) (0 : Int32) (0 : Int32) M
def fn_X6_fault (T : Ty) (R : Rm) (a0 : Nat) (x1 : Int32) (M : Mm) : Option (Int32 × Mm) :=
  cal (fn_X6_isWithin T R x1 (0 : Int32) (1 : Int32) M) fun r_1 M_2 =>
  if r_1 = 0 then (
    some ((-2000000001 : Int32), M_2)) else (
    chk (isK T a0 6) <|
    cal (fn_X6_possibleYears T R a0 M_2) fun r_6 M_7 =>
    rfm (R a0 2) fun b_9 =>
    chk (isK T b_9 4) <|
    cal (fn_X4_startOfYear T R b_9 r_6 M_7) fun r_11 M_12 =>
    if r_11 < (gI M_12 b_9 1) then (
      if x1 = 0 then (
        some (r_11, M_12)) else (
        cal (fn_X6_reasonAt T R a0 r_11 r_6 M_12) fun r_16 M_17 =>
        some (r_16, M_17))) else (
      some ((-2000000004 : Int32), M_12)))
def fs_X6_live_44 (T : Ty) (a0 : Nat) (j44 : Int32 → Int32 → Int32 → Mm → Rm → Option (Int32 × Mm × Rm)) (x1 : Int32) (x2 : Int32) (x3 : Int32) (M : Mm) (R : Rm) : Option (Int32 × Mm × Rm) :=
  if x1 ≤ x3 then (
    some (x1, M, R)) else (
    chk (isK T a0 6) <|
    rfm (R a0 3) fun b_3 =>
    chk (isK T b_3 5) <|
    rfm (R b_3 0) fun b_5 =>
    rfm (R a0 2) fun b_6 =>
    chk (isK T b_6 4) <|
    cal (fn_X4_snowOfYear T R b_6 x2 M) fun r_8 M_9 =>
    chk (isK T b_5 9) <|
    chk (inb (0 : Int32) (lnT T b_5)) <|
    bnd (sI M_9 b_5 (0 : Int32).toNatClampNeg r_8) fun M_13 =>
    cal (fn_X4_meltOfYear T R b_6 x2 M_13) fun r_14 M_15 =>
    chk (inb (2 : Int32) (lnT T b_5)) <|
    bnd (sI M_15 b_5 (2 : Int32).toNatClampNeg r_14) fun M_18 =>
    cal (fn_X5_letYearGoBy T R b_3 M_18) fun _ M_20 =>
    cal (fn_X4_endOfYear T R b_6 x2 M_20) fun r_22 M_23 =>
    bnd (x3 + (1 : Int32)) fun v_25 =>
    j44 x1 r_22 v_25 M_23 R)
def fb_X6_live_44 (T : Ty) (a0 : Nat) : Nat → Int32 → Int32 → Int32 → Mm → Rm → Option (Int32 × Mm × Rm) :=
  lp (fun j44 => fs_X6_live_44 T a0 j44) (fun _ _ _ _ _ => none)
def fn_X6_live (T : Ty) (a0 : Nat) (M : Mm) (R : Rm) : Option (Int32 × Mm × Rm) :=
  chk (isK T a0 6) <|
  cal (fn_X6_possibleYears T R a0 M) fun r_27 M_28 =>
  rfm (R a0 2) fun b_30 =>
  chk (isK T b_30 4) <|
  cal (fn_X4_startOfYear T R b_30 r_27 M_28) fun r_32 M_33 =>
  if r_32 < (gI M_33 b_30 1) then (
    some ((-2000000002 : Int32), M_33, R)) else (
    rfm (R a0 3) fun b_36 =>
    chk (isK T b_36 5) <|
    if (gI M_33 b_36 4) = 0 then (
      some ((-2000000002 : Int32), M_33, R)) else (
      calR (fn_X6_recordState T a0 M_33 R) fun _ M_40 R_42 =>
      (fb_X6_live_44 T a0 FU) r_27 (0 : Int32) (0 : Int32) M_40 R_42))
def fn_X7_in (T : Ty) (R : Rm) (x0 : Int32) (x1 : Int32) (x2 : Int32) (M : Mm) : Option (Int32 × Mm) :=
  if x0 < x1 then (
    some ((0 : Int32), M)) else (
    if x2 < x0 then (
      some ((0 : Int32), M)) else (
      some ((1 : Int32), M)))
def fn_X7_floor (T : Ty) (R : Rm) (l0 : Int64) (x2 : Int32) (M : Mm) : Option (Int32 × Mm) :=
  if (lg_cmp l0 (0 : Int64)) < 0 then (
    chk (decide (¬ (x2.toInt64) = 0)) <|
    some (((-((((x2.toInt64) - (1 : Int64)) - l0) / (x2.toInt64))).toInt32), M)) else (
    chk (decide (¬ (x2.toInt64) = 0)) <|
    some (((l0 / (x2.toInt64)).toInt32), M))
def fn_X7_keptIce (T : Ty) (R : Rm) (a0 : Nat) (x1 : Int32) (x2 : Int32) (M : Mm) : Option (Int32 × Mm) :=
  if (2 : Int32) ≤ x1 then (
    chk (isK T a0 7) <|
    rfm (R a0 8) fun b_3 =>
    chk (isK T b_3 9) <|
    chk (inb (((5010 : Int32) * (x1 - (2 : Int32))) + x2) (lnT T b_3)) <|
    some ((gI M b_3 (((5010 : Int32) * (x1 - (2 : Int32))) + x2).toNatClampNeg), M)) else (
    chk (isK T a0 7) <|
    rfm (R a0 7) fun b_7 =>
    chk (isK T b_7 9) <|
    chk (inb (((5010 : Int32) * x1) + x2) (lnT T b_7)) <|
    some ((gI M b_7 (((5010 : Int32) * x1) + x2).toNatClampNeg), M))
def fn_X7_keepIce (T : Ty) (R : Rm) (a0 : Nat) (x1 : Int32) (x2 : Int32) (x3 : Int32) (M : Mm) : Option (Unit × Mm) :=
  if (2 : Int32) ≤ x1 then (
    chk (isK T a0 7) <|
    rfm (R a0 8) fun b_3 =>
    chk (isK T b_3 9) <|
    chk (inb (((5010 : Int32) * (x1 - (2 : Int32))) + x2) (lnT T b_3)) <|
    bnd (sI M b_3 (((5010 : Int32) * (x1 - (2 : Int32))) + x2).toNatClampNeg x3) fun M_6 =>
    some ((), M_6)) else (
    chk (isK T a0 7) <|
    rfm (R a0 7) fun b_8 =>
    chk (isK T b_8 9) <|
    chk (inb (((5010 : Int32) * x1) + x2) (lnT T b_8)) <|
    bnd (sI M b_8 (((5010 : Int32) * x1) + x2).toNatClampNeg x3) fun M_11 =>
    some ((), M_11))
def fs_X7_dropOldest_74 (T : Ty) (R : Rm) (a0 : Nat) (j74 : Int32 → Mm → Option (Unit × Mm)) (x1 : Int32) (M : Mm) : Option (Unit × Mm) :=
  if (12 : Int32) ≤ x1 then (
    chk (isK T a0 7) <|
    bnd (sI M a0 10 ((gI M a0 10) - (1 : Int32))) fun M_3 =>
    some ((), M_3)) else (
    chk (isK T a0 7) <|
    rfm (R a0 9) fun b_5 =>
    chk (isK T b_5 10) <|
    chk (inb (x1 + (4 : Int32)) (lnT T b_5)) <|
    chk (inb x1 (lnT T b_5)) <|
    bnd (sJ M b_5 x1.toNatClampNeg (gJ M b_5 (x1 + (4 : Int32)).toNatClampNeg)) fun M_9 =>
    bnd (x1 + (1 : Int32)) fun v_10 =>
    j74 v_10 M_9)
def fb_X7_dropOldest_74 (T : Ty) (R : Rm) (a0 : Nat) : Nat → Int32 → Mm → Option (Unit × Mm) :=
  lp (fun j74 => fs_X7_dropOldest_74 T R a0 j74) (fun _ _ => none)
def fs_X7_dropOldest_44 (T : Ty) (R : Rm) (a0 : Nat) (j44 : Int32 → Mm → Option (Unit × Mm)) (j74 : Int32 → Mm → Option (Unit × Mm)) (x1 : Int32) (M : Mm) : Option (Unit × Mm) :=
  if (330 : Int32) ≤ x1 then (
    j74 (0 : Int32) M) else (
    chk (isK T a0 7) <|
    rfm (R a0 6) fun b_13 =>
    chk (isK T b_13 9) <|
    chk (inb (x1 + (110 : Int32)) (lnT T b_13)) <|
    chk (inb x1 (lnT T b_13)) <|
    bnd (sI M b_13 x1.toNatClampNeg (gI M b_13 (x1 + (110 : Int32)).toNatClampNeg)) fun M_17 =>
    bnd (x1 + (1 : Int32)) fun v_18 =>
    j44 v_18 M_17)
def fb_X7_dropOldest_44 (T : Ty) (R : Rm) (a0 : Nat) (j74 : Int32 → Mm → Option (Unit × Mm)) : Nat → Int32 → Mm → Option (Unit × Mm) :=
  lp (fun j44 => fs_X7_dropOldest_44 T R a0 j44 j74) (fun _ _ => none)
def fs_X7_dropOldest_9 (T : Ty) (R : Rm) (a0 : Nat) (j9 : Int32 → Int32 → Mm → Option (Unit × Mm)) (j2 : Int32 → Mm → Option (Unit × Mm)) (x1 : Int32) (x2 : Int32) (M : Mm) : Option (Unit × Mm) :=
  if (5010 : Int32) ≤ x2 then (
    bnd (x1 + (1 : Int32)) fun v_20 =>
    j2 v_20 M) else (
    chk (isK T a0 7) <|
    cal (fn_X7_keptIce T R a0 (x1 + (1 : Int32)) x2 M) fun r_22 M_23 =>
    cal (fn_X7_keepIce T R a0 x1 x2 r_22 M_23) fun _ M_26 =>
    bnd (x2 + (1 : Int32)) fun v_28 =>
    j9 x1 v_28 M_26)
def fb_X7_dropOldest_9 (T : Ty) (R : Rm) (a0 : Nat) (j2 : Int32 → Mm → Option (Unit × Mm)) : Nat → Int32 → Int32 → Mm → Option (Unit × Mm) :=
  lp (fun j9 => fs_X7_dropOldest_9 T R a0 j9 j2) (fun _ _ _ => none)
def fs_X7_dropOldest_2 (T : Ty) (R : Rm) (a0 : Nat) (j2 : Int32 → Mm → Option (Unit × Mm)) (j44 : Int32 → Mm → Option (Unit × Mm)) (x1 : Int32) (M : Mm) : Option (Unit × Mm) :=
  if (3 : Int32) ≤ x1 then (
    j44 (0 : Int32) M) else (
    (fb_X7_dropOldest_9 T R a0 j2 FU) x1 (0 : Int32) M)
def fb_X7_dropOldest_2 (T : Ty) (R : Rm) (a0 : Nat) (j44 : Int32 → Mm → Option (Unit × Mm)) : Nat → Int32 → Mm → Option (Unit × Mm) :=
  lp (fun j2 => fs_X7_dropOldest_2 T R a0 j2 j44) (fun _ _ => none)
def fn_X7_dropOldest (T : Ty) (R : Rm) (a0 : Nat) (M : Mm) : Option (Unit × Mm) :=
  (fb_X7_dropOldest_2 T R a0 (fb_X7_dropOldest_44 T R a0 (fb_X7_dropOldest_74 T R a0 FU) FU) FU) (0 : Int32) M
def fs_X7_keep_92 (T : Ty) (R : Rm) (a0 : Nat) (j92 : Int32 → Mm → Option (Unit × Mm)) (x1 : Int32) (M : Mm) : Option (Unit × Mm) :=
  if (4 : Int32) ≤ x1 then (
    chk (isK T a0 7) <|
    bnd (sI M a0 10 ((gI M a0 10) + (1 : Int32))) fun M_3 =>
    some ((), M_3)) else (
    chk (isK T a0 7) <|
    rfm (R a0 9) fun b_5 =>
    rfm (R a0 2) fun b_6 =>
    chk (isK T b_6 10) <|
    chk (inb x1 (lnT T b_6)) <|
    chk (isK T b_5 10) <|
    chk (inb (((4 : Int32) * (gI M a0 10)) + x1) (lnT T b_5)) <|
    bnd (sJ M b_5 (((4 : Int32) * (gI M a0 10)) + x1).toNatClampNeg (gJ M b_6 x1.toNatClampNeg)) fun M_11 =>
    bnd (x1 + (1 : Int32)) fun v_12 =>
    j92 v_12 M_11)
def fb_X7_keep_92 (T : Ty) (R : Rm) (a0 : Nat) : Nat → Int32 → Mm → Option (Unit × Mm) :=
  lp (fun j92 => fs_X7_keep_92 T R a0 j92) (fun _ _ => none)
def fs_X7_keep_58 (T : Ty) (R : Rm) (a0 : Nat) (j58 : Int32 → Mm → Option (Unit × Mm)) (j92 : Int32 → Mm → Option (Unit × Mm)) (x1 : Int32) (M : Mm) : Option (Unit × Mm) :=
  if (110 : Int32) ≤ x1 then (
    j92 (0 : Int32) M) else (
    chk (isK T a0 7) <|
    rfm (R a0 6) fun b_15 =>
    rfm (R a0 0) fun b_16 =>
    chk (isK T b_16 9) <|
    chk (inb x1 (lnT T b_16)) <|
    chk (isK T b_15 9) <|
    chk (inb (((110 : Int32) * (gI M a0 10)) + x1) (lnT T b_15)) <|
    bnd (sI M b_15 (((110 : Int32) * (gI M a0 10)) + x1).toNatClampNeg (gI M b_16 x1.toNatClampNeg)) fun M_21 =>
    bnd (x1 + (1 : Int32)) fun v_22 =>
    j58 v_22 M_21)
def fb_X7_keep_58 (T : Ty) (R : Rm) (a0 : Nat) (j92 : Int32 → Mm → Option (Unit × Mm)) : Nat → Int32 → Mm → Option (Unit × Mm) :=
  lp (fun j58 => fs_X7_keep_58 T R a0 j58 j92) (fun _ _ => none)
def fs_X7_keep_14 (T : Ty) (R : Rm) (a0 : Nat) (j14 : Int32 → Mm → Option (Unit × Mm)) (j58 : Int32 → Mm → Option (Unit × Mm)) (x1 : Int32) (M : Mm) : Option (Unit × Mm) :=
  if (5010 : Int32) ≤ x1 then (
    j58 (0 : Int32) M) else (
    chk (isK T a0 7) <|
    rfm (R a0 1) fun b_25 =>
    chk (isK T b_25 9) <|
    chk (inb (((801 : Int32) * (x1 / (501 : Int32))) + (x1 - x1 / (501 : Int32) * (501 : Int32))) (lnT T b_25)) <|
    cal (fn_X7_keepIce T R a0 (gI M a0 10) x1 (gI M b_25 (((801 : Int32) * (x1 / (501 : Int32))) + (x1 - x1 / (501 : Int32) * (501 : Int32))).toNatClampNeg) M) fun _ M_29 =>
    bnd (x1 + (1 : Int32)) fun v_31 =>
    j14 v_31 M_29)
def fb_X7_keep_14 (T : Ty) (R : Rm) (a0 : Nat) (j58 : Int32 → Mm → Option (Unit × Mm)) : Nat → Int32 → Mm → Option (Unit × Mm) :=
  lp (fun j14 => fs_X7_keep_14 T R a0 j14 j58) (fun _ _ => none)
def fs_X7_keep_12 (T : Ty) (R : Rm) (a0 : Nat)  (M : Mm) : Option (Unit × Mm) :=
  (fb_X7_keep_14 T R a0 (fb_X7_keep_58 T R a0 (fb_X7_keep_92 T R a0 FU) FU) FU) (0 : Int32) M
def fn_X7_keep (T : Ty) (R : Rm) (a0 : Nat) (M : Mm) : Option (Unit × Mm) :=
  chk (isK T a0 7) <|
  if (gI M a0 10) = (4 : Int32) then (
    cal (fn_X7_dropOldest T R a0 M) fun _ M_35 =>
    (fs_X7_keep_12 T R a0) M_35) else (
    (fs_X7_keep_12 T R a0) M)
def fs_X7_undo_100 (T : Ty) (R : Rm) (a0 : Nat) (j100 : Int32 → Mm → Option (Int32 × Mm)) (x1 : Int32) (M : Mm) : Option (Int32 × Mm) :=
  if (4 : Int32) ≤ x1 then (
    chk (isK T a0 7) <|
    some ((gI M a0 10), M)) else (
    chk (isK T a0 7) <|
    rfm (R a0 2) fun b_4 =>
    rfm (R a0 9) fun b_5 =>
    chk (isK T b_5 10) <|
    chk (inb (((4 : Int32) * (gI M a0 10)) + x1) (lnT T b_5)) <|
    chk (isK T b_4 10) <|
    chk (inb x1 (lnT T b_4)) <|
    bnd (sJ M b_4 x1.toNatClampNeg (gJ M b_5 (((4 : Int32) * (gI M a0 10)) + x1).toNatClampNeg)) fun M_10 =>
    bnd (x1 + (1 : Int32)) fun v_11 =>
    j100 v_11 M_10)
def fb_X7_undo_100 (T : Ty) (R : Rm) (a0 : Nat) : Nat → Int32 → Mm → Option (Int32 × Mm) :=
  lp (fun j100 => fs_X7_undo_100 T R a0 j100) (fun _ _ => none)
def fs_X7_undo_66 (T : Ty) (R : Rm) (a0 : Nat) (j66 : Int32 → Mm → Option (Int32 × Mm)) (j100 : Int32 → Mm → Option (Int32 × Mm)) (x1 : Int32) (M : Mm) : Option (Int32 × Mm) :=
  if (110 : Int32) ≤ x1 then (
    j100 (0 : Int32) M) else (
    chk (isK T a0 7) <|
    rfm (R a0 0) fun b_14 =>
    rfm (R a0 6) fun b_15 =>
    chk (isK T b_15 9) <|
    chk (inb (((110 : Int32) * (gI M a0 10)) + x1) (lnT T b_15)) <|
    chk (isK T b_14 9) <|
    chk (inb x1 (lnT T b_14)) <|
    bnd (sI M b_14 x1.toNatClampNeg (gI M b_15 (((110 : Int32) * (gI M a0 10)) + x1).toNatClampNeg)) fun M_20 =>
    bnd (x1 + (1 : Int32)) fun v_21 =>
    j66 v_21 M_20)
def fb_X7_undo_66 (T : Ty) (R : Rm) (a0 : Nat) (j100 : Int32 → Mm → Option (Int32 × Mm)) : Nat → Int32 → Mm → Option (Int32 × Mm) :=
  lp (fun j66 => fs_X7_undo_66 T R a0 j66 j100) (fun _ _ => none)
def fs_X7_undo_22 (T : Ty) (R : Rm) (a0 : Nat) (j22 : Int32 → Mm → Option (Int32 × Mm)) (j66 : Int32 → Mm → Option (Int32 × Mm)) (x1 : Int32) (M : Mm) : Option (Int32 × Mm) :=
  if (5010 : Int32) ≤ x1 then (
    j66 (0 : Int32) M) else (
    chk (isK T a0 7) <|
    rfm (R a0 1) fun b_24 =>
    cal (fn_X7_keptIce T R a0 (gI M a0 10) x1 M) fun r_25 M_26 =>
    chk (isK T b_24 9) <|
    chk (inb (((801 : Int32) * (x1 / (501 : Int32))) + (x1 - x1 / (501 : Int32) * (501 : Int32))) (lnT T b_24)) <|
    bnd (sI M_26 b_24 (((801 : Int32) * (x1 / (501 : Int32))) + (x1 - x1 / (501 : Int32) * (501 : Int32))).toNatClampNeg r_25) fun M_30 =>
    bnd (x1 + (1 : Int32)) fun v_31 =>
    j22 v_31 M_30)
def fb_X7_undo_22 (T : Ty) (R : Rm) (a0 : Nat) (j66 : Int32 → Mm → Option (Int32 × Mm)) : Nat → Int32 → Mm → Option (Int32 × Mm) :=
  lp (fun j22 => fs_X7_undo_22 T R a0 j22 j66) (fun _ _ => none)
def fn_X7_undo (T : Ty) (R : Rm) (a0 : Nat) (M : Mm) : Option (Int32 × Mm) :=
  chk (isK T a0 7) <|
  if (gI M a0 10) = 0 then (
    some ((-2000000002 : Int32), M)) else (
    bnd (sI M a0 10 ((gI M a0 10) - (1 : Int32))) fun M_34 =>
    (fb_X7_undo_22 T R a0 (fb_X7_undo_66 T R a0 (fb_X7_undo_100 T R a0 FU) FU) FU) (0 : Int32) M_34)
def fs_X7_setAside_55 (T : Ty) (R : Rm) (a0 : Nat) (j55 : Int32 → Mm → Option (Unit × Mm)) (x1 : Int32) (M : Mm) : Option (Unit × Mm) :=
  if (4 : Int32) ≤ x1 then (
    some ((), M)) else (
    chk (isK T a0 7) <|
    rfm (R a0 5) fun b_3 =>
    rfm (R a0 2) fun b_4 =>
    chk (isK T b_4 10) <|
    chk (inb x1 (lnT T b_4)) <|
    chk (isK T b_3 10) <|
    chk (inb x1 (lnT T b_3)) <|
    bnd (sJ M b_3 x1.toNatClampNeg (gJ M b_4 x1.toNatClampNeg)) fun M_9 =>
    bnd (x1 + (1 : Int32)) fun v_10 =>
    j55 v_10 M_9)
def fb_X7_setAside_55 (T : Ty) (R : Rm) (a0 : Nat) : Nat → Int32 → Mm → Option (Unit × Mm) :=
  lp (fun j55 => fs_X7_setAside_55 T R a0 j55) (fun _ _ => none)
def fs_X7_setAside_29 (T : Ty) (R : Rm) (a0 : Nat) (j29 : Int32 → Mm → Option (Unit × Mm)) (j55 : Int32 → Mm → Option (Unit × Mm)) (x1 : Int32) (M : Mm) : Option (Unit × Mm) :=
  if (110 : Int32) ≤ x1 then (
    j55 (0 : Int32) M) else (
    chk (isK T a0 7) <|
    rfm (R a0 3) fun b_13 =>
    rfm (R a0 0) fun b_14 =>
    chk (isK T b_14 9) <|
    chk (inb x1 (lnT T b_14)) <|
    chk (isK T b_13 9) <|
    chk (inb x1 (lnT T b_13)) <|
    bnd (sI M b_13 x1.toNatClampNeg (gI M b_14 x1.toNatClampNeg)) fun M_19 =>
    bnd (x1 + (1 : Int32)) fun v_20 =>
    j29 v_20 M_19)
def fb_X7_setAside_29 (T : Ty) (R : Rm) (a0 : Nat) (j55 : Int32 → Mm → Option (Unit × Mm)) : Nat → Int32 → Mm → Option (Unit × Mm) :=
  lp (fun j29 => fs_X7_setAside_29 T R a0 j29 j55) (fun _ _ => none)
def fs_X7_setAside_2 (T : Ty) (R : Rm) (a0 : Nat) (j2 : Int32 → Mm → Option (Unit × Mm)) (j29 : Int32 → Mm → Option (Unit × Mm)) (x1 : Int32) (M : Mm) : Option (Unit × Mm) :=
  if (8010 : Int32) ≤ x1 then (
    j29 (0 : Int32) M) else (
    chk (isK T a0 7) <|
    rfm (R a0 4) fun b_23 =>
    rfm (R a0 1) fun b_24 =>
    chk (isK T b_24 9) <|
    chk (inb x1 (lnT T b_24)) <|
    chk (isK T b_23 9) <|
    chk (inb x1 (lnT T b_23)) <|
    bnd (sI M b_23 x1.toNatClampNeg (gI M b_24 x1.toNatClampNeg)) fun M_29 =>
    bnd (x1 + (1 : Int32)) fun v_30 =>
    j2 v_30 M_29)
def fb_X7_setAside_2 (T : Ty) (R : Rm) (a0 : Nat) (j29 : Int32 → Mm → Option (Unit × Mm)) : Nat → Int32 → Mm → Option (Unit × Mm) :=
  lp (fun j2 => fs_X7_setAside_2 T R a0 j2 j29) (fun _ _ => none)
def fn_X7_setAside (T : Ty) (R : Rm) (a0 : Nat) (M : Mm) : Option (Unit × Mm) :=
  (fb_X7_setAside_2 T R a0 (fb_X7_setAside_29 T R a0 (fb_X7_setAside_55 T R a0 FU) FU) FU) (0 : Int32) M
def fs_X7_bringBack_55 (T : Ty) (R : Rm) (a0 : Nat) (j55 : Int32 → Mm → Option (Unit × Mm)) (x1 : Int32) (M : Mm) : Option (Unit × Mm) :=
  if (4 : Int32) ≤ x1 then (
    some ((), M)) else (
    chk (isK T a0 7) <|
    rfm (R a0 2) fun b_3 =>
    rfm (R a0 5) fun b_4 =>
    chk (isK T b_4 10) <|
    chk (inb x1 (lnT T b_4)) <|
    chk (isK T b_3 10) <|
    chk (inb x1 (lnT T b_3)) <|
    bnd (sJ M b_3 x1.toNatClampNeg (gJ M b_4 x1.toNatClampNeg)) fun M_9 =>
    bnd (x1 + (1 : Int32)) fun v_10 =>
    j55 v_10 M_9)
def fb_X7_bringBack_55 (T : Ty) (R : Rm) (a0 : Nat) : Nat → Int32 → Mm → Option (Unit × Mm) :=
  lp (fun j55 => fs_X7_bringBack_55 T R a0 j55) (fun _ _ => none)
def fs_X7_bringBack_29 (T : Ty) (R : Rm) (a0 : Nat) (j29 : Int32 → Mm → Option (Unit × Mm)) (j55 : Int32 → Mm → Option (Unit × Mm)) (x1 : Int32) (M : Mm) : Option (Unit × Mm) :=
  if (110 : Int32) ≤ x1 then (
    j55 (0 : Int32) M) else (
    chk (isK T a0 7) <|
    rfm (R a0 0) fun b_13 =>
    rfm (R a0 3) fun b_14 =>
    chk (isK T b_14 9) <|
    chk (inb x1 (lnT T b_14)) <|
    chk (isK T b_13 9) <|
    chk (inb x1 (lnT T b_13)) <|
    bnd (sI M b_13 x1.toNatClampNeg (gI M b_14 x1.toNatClampNeg)) fun M_19 =>
    bnd (x1 + (1 : Int32)) fun v_20 =>
    j29 v_20 M_19)
def fb_X7_bringBack_29 (T : Ty) (R : Rm) (a0 : Nat) (j55 : Int32 → Mm → Option (Unit × Mm)) : Nat → Int32 → Mm → Option (Unit × Mm) :=
  lp (fun j29 => fs_X7_bringBack_29 T R a0 j29 j55) (fun _ _ => none)
def fs_X7_bringBack_2 (T : Ty) (R : Rm) (a0 : Nat) (j2 : Int32 → Mm → Option (Unit × Mm)) (j29 : Int32 → Mm → Option (Unit × Mm)) (x1 : Int32) (M : Mm) : Option (Unit × Mm) :=
  if (8010 : Int32) ≤ x1 then (
    j29 (0 : Int32) M) else (
    chk (isK T a0 7) <|
    rfm (R a0 1) fun b_23 =>
    rfm (R a0 4) fun b_24 =>
    chk (isK T b_24 9) <|
    chk (inb x1 (lnT T b_24)) <|
    chk (isK T b_23 9) <|
    chk (inb x1 (lnT T b_23)) <|
    bnd (sI M b_23 x1.toNatClampNeg (gI M b_24 x1.toNatClampNeg)) fun M_29 =>
    bnd (x1 + (1 : Int32)) fun v_30 =>
    j2 v_30 M_29)
def fb_X7_bringBack_2 (T : Ty) (R : Rm) (a0 : Nat) (j29 : Int32 → Mm → Option (Unit × Mm)) : Nat → Int32 → Mm → Option (Unit × Mm) :=
  lp (fun j2 => fs_X7_bringBack_2 T R a0 j2 j29) (fun _ _ => none)
def fn_X7_bringBack (T : Ty) (R : Rm) (a0 : Nat) (M : Mm) : Option (Unit × Mm) :=
  (fb_X7_bringBack_2 T R a0 (fb_X7_bringBack_29 T R a0 (fb_X7_bringBack_55 T R a0 FU) FU) FU) (0 : Int32) M
def fn_X7_of (T : Ty) (R : Rm) (a0 : Nat) (x1 : Int32) (x2 : Int32) (M : Mm) : Option (Int32 × Mm) :=
  chk (isK T a0 7) <|
  rfm (R a0 0) fun b_2 =>
  chk (isK T b_2 9) <|
  chk (inb (((14 : Int32) + ((6 : Int32) * x1)) + x2) (lnT T b_2)) <|
  some ((gI M b_2 (((14 : Int32) + ((6 : Int32) * x1)) + x2).toNatClampNeg), M)
def fn_X7_put (T : Ty) (R : Rm) (a0 : Nat) (x1 : Int32) (x2 : Int32) (x3 : Int32) (M : Mm) : Option (Unit × Mm) :=
  chk (isK T a0 7) <|
  rfm (R a0 0) fun b_2 =>
  chk (isK T b_2 9) <|
  chk (inb (((14 : Int32) + ((6 : Int32) * x1)) + x2) (lnT T b_2)) <|
  bnd (sI M b_2 (((14 : Int32) + ((6 : Int32) * x1)) + x2).toNatClampNeg x3) fun M_5 =>
  some ((), M_5)
def fn_X7_ofStake (T : Ty) (R : Rm) (a0 : Nat) (x1 : Int32) (x2 : Int32) (M : Mm) : Option (Int32 × Mm) :=
  chk (isK T a0 7) <|
  rfm (R a0 0) fun b_2 =>
  chk (isK T b_2 9) <|
  chk (inb (((74 : Int32) + ((6 : Int32) * x1)) + x2) (lnT T b_2)) <|
  some ((gI M b_2 (((74 : Int32) + ((6 : Int32) * x1)) + x2).toNatClampNeg), M)
def fn_X7_putStake (T : Ty) (R : Rm) (a0 : Nat) (x1 : Int32) (x2 : Int32) (x3 : Int32) (M : Mm) : Option (Unit × Mm) :=
  chk (isK T a0 7) <|
  rfm (R a0 0) fun b_2 =>
  chk (isK T b_2 9) <|
  chk (inb (((74 : Int32) + ((6 : Int32) * x1)) + x2) (lnT T b_2)) <|
  bnd (sI M b_2 (((74 : Int32) + ((6 : Int32) * x1)) + x2).toNatClampNeg x3) fun M_5 =>
  some ((), M_5)
def fn_X7_isBand (T : Ty) (R : Rm) (a0 : Nat) (x1 : Int32) (M : Mm) : Option (Int32 × Mm) :=
  chk (isK T a0 7) <|
  rfm (R a0 0) fun b_2 =>
  chk (isK T b_2 9) <|
  chk (inb (8 : Int32) (lnT T b_2)) <|
  cal (fn_X7_in T R x1 (0 : Int32) ((gI M b_2 (8 : Int32).toNatClampNeg) - (1 : Int32)) M) fun r_5 M_6 =>
  chk (isZ r_5) <|
  some (r_5, M_6)
def fn_X7_isStake (T : Ty) (R : Rm) (a0 : Nat) (x1 : Int32) (M : Mm) : Option (Int32 × Mm) :=
  chk (isK T a0 7) <|
  rfm (R a0 0) fun b_2 =>
  chk (isK T b_2 9) <|
  chk (inb (9 : Int32) (lnT T b_2)) <|
  cal (fn_X7_in T R x1 (0 : Int32) ((gI M b_2 (9 : Int32).toNatClampNeg) - (1 : Int32)) M) fun r_5 M_6 =>
  chk (isZ r_5) <|
  some (r_5, M_6)
def fs_X7_iceOf_4 (T : Ty) (R : Rm) (a0 : Nat) (x1 : Int32) (j4 : Int32 → Int32 → Mm → Option (Int32 × Mm)) (x2 : Int32) (x3 : Int32) (M : Mm) : Option (Int32 × Mm) :=
  chk (isK T a0 7) <|
  rfm (R a0 0) fun b_2 =>
  chk (isK T b_2 9) <|
  chk (inb (7 : Int32) (lnT T b_2)) <|
  if (gI M b_2 (7 : Int32).toNatClampNeg) < x3 then (
    some (x2, M)) else (
    rfm (R a0 1) fun b_6 =>
    chk (isK T b_6 9) <|
    chk (inb (((801 : Int32) * x1) + x3) (lnT T b_6)) <|
    bnd (x2 + (gI M b_6 (((801 : Int32) * x1) + x3).toNatClampNeg)) fun v_9 =>
    bnd (x3 + (1 : Int32)) fun v_10 =>
    j4 v_9 v_10 M)
def fb_X7_iceOf_4 (T : Ty) (R : Rm) (a0 : Nat) (x1 : Int32) : Nat → Int32 → Int32 → Mm → Option (Int32 × Mm) :=
  lp (fun j4 => fs_X7_iceOf_4 T R a0 x1 j4) (fun _ _ _ => none)
def fn_X7_iceOf (T : Ty) (R : Rm) (a0 : Nat) (x1 : Int32) (M : Mm) : Option (Int32 × Mm) :=
  (fb_X7_iceOf_4 T R a0 x1 FU) (0 : Int32) (0 : Int32) M
def fn_X7_isSetting (T : Ty) (R : Rm) (x0 : Int32) (x1 : Int32) (M : Mm) : Option (Int32 × Mm) :=
  if x0 = 0 then (
    cal (fn_X7_in T R x1 (0 : Int32) (5000 : Int32) M) fun r_2 M_3 =>
    chk (isZ r_2) <|
    some (r_2, M_3)) else (
  if x0 = 1 then (
    cal (fn_X7_in T R x1 (0 : Int32) (500 : Int32) M) fun r_7 M_8 =>
    chk (isZ r_7) <|
    some (r_7, M_8)) else (
  if x0 = 2 then (
    cal (fn_X7_in T R x1 (0 : Int32) (9000 : Int32) M) fun r_12 M_13 =>
    chk (isZ r_12) <|
    some (r_12, M_13)) else (
  if x0 = 3 then (
    cal (fn_X7_in T R x1 (0 : Int32) (500 : Int32) M) fun r_17 M_18 =>
    chk (isZ r_17) <|
    some (r_17, M_18)) else (
  if x0 = 4 then (
    cal (fn_X7_in T R x1 (0 : Int32) (5000 : Int32) M) fun r_22 M_23 =>
    chk (isZ r_22) <|
    some (r_22, M_23)) else (
  if x0 = 5 then (
    cal (fn_X7_in T R x1 (1 : Int32) (1000000 : Int32) M) fun r_27 M_28 =>
    chk (isZ r_27) <|
    some (r_27, M_28)) else (
    if x0 = (6 : Int32) then (
      cal (fn_X7_in T R x1 (0 : Int32) (50 : Int32) M) fun r_32 M_33 =>
      if r_32 = 0 then (
        some ((0 : Int32), M_33)) else (
        some ((1 : Int32), M_33))) else (
      some ((0 : Int32), M))))))))
def fn_X7_set (T : Ty) (R : Rm) (a0 : Nat) (x1 : Int32) (x2 : Int32) (M : Mm) : Option (Int32 × Mm) :=
  cal (fn_X7_isSetting T R x1 x2 M) fun r_1 M_2 =>
  if r_1 = 0 then (
    some ((-2000000001 : Int32), M_2)) else (
    chk (isK T a0 7) <|
    cal (fn_X7_keep T R a0 M_2) fun _ M_7 =>
    rfm (R a0 0) fun b_9 =>
    chk (isK T b_9 9) <|
    chk (inb x1 (lnT T b_9)) <|
    bnd (gI M_7 b_9 x1.toNatClampNeg) fun v_12 =>
    bnd (sI M_7 b_9 x1.toNatClampNeg x2) fun M_13 =>
    some (v_12, M_13))
def fs_X7_lay_2 (T : Ty) (R : Rm) (a0 : Nat) (x1 : Int32) (x2 : Int32) (j2 : Int32 → Mm → Option (Unit × Mm)) (x3 : Int32) (M : Mm) : Option (Unit × Mm) :=
  if (801 : Int32) ≤ x3 then (
    chk (isK T a0 7) <|
    rfm (R a0 1) fun b_3 =>
    rfm (R a0 0) fun b_4 =>
    chk (isK T b_4 9) <|
    chk (inb (7 : Int32) (lnT T b_4)) <|
    chk (isK T b_3 9) <|
    chk (inb (((801 : Int32) * x1) + (gI M b_4 (7 : Int32).toNatClampNeg)) (lnT T b_3)) <|
    bnd (sI M b_3 (((801 : Int32) * x1) + (gI M b_4 (7 : Int32).toNatClampNeg)).toNatClampNeg x2) fun M_9 =>
    rfm (R a0 2) fun b_10 =>
    chk (isK T b_10 10) <|
    chk (inb (0 : Int32) (lnT T b_10)) <|
    bnd (sJ M_9 b_10 (0 : Int32).toNatClampNeg ((gJ M_9 b_10 (0 : Int32).toNatClampNeg) + (x2.toInt64))) fun M_13 =>
    some ((), M_13)) else (
    chk (isK T a0 7) <|
    rfm (R a0 1) fun b_15 =>
    chk (isK T b_15 9) <|
    chk (inb (((801 : Int32) * x1) + x3) (lnT T b_15)) <|
    bnd (sI M b_15 (((801 : Int32) * x1) + x3).toNatClampNeg (0 : Int32)) fun M_18 =>
    bnd (x3 + (1 : Int32)) fun v_19 =>
    j2 v_19 M_18)
def fb_X7_lay_2 (T : Ty) (R : Rm) (a0 : Nat) (x1 : Int32) (x2 : Int32) : Nat → Int32 → Mm → Option (Unit × Mm) :=
  lp (fun j2 => fs_X7_lay_2 T R a0 x1 x2 j2) (fun _ _ => none)
def fn_X7_lay (T : Ty) (R : Rm) (a0 : Nat) (x1 : Int32) (x2 : Int32) (M : Mm) : Option (Unit × Mm) :=
  (fb_X7_lay_2 T R a0 x1 x2 FU) (0 : Int32) M
def fs_X7_band_78 (T : Ty) (R : Rm) (a0 : Nat) (x1 : Int32) (x2 : Int32) (x3 : Int32) (x4 : Int32) (x5 : Int32) (M : Mm) : Option (Int32 × Mm) :=
  if x5 = (10 : Int32) then (
    some ((-2000000003 : Int32), M)) else (
    chk (isK T a0 7) <|
    cal (fn_X7_keep T R a0 M) fun _ M_4 =>
    rfm (R a0 0) fun b_6 =>
    chk (isK T b_6 9) <|
    chk (inb (8 : Int32) (lnT T b_6)) <|
    bnd (sI M_4 b_6 (8 : Int32).toNatClampNeg ((gI M_4 b_6 (8 : Int32).toNatClampNeg) + (1 : Int32))) fun M_9 =>
    cal (fn_X7_put T R a0 x5 (0 : Int32) x1 M_9) fun _ M_11 =>
    cal (fn_X7_put T R a0 x5 (1 : Int32) x2 M_11) fun _ M_14 =>
    cal (fn_X7_put T R a0 x5 (2 : Int32) x3 M_14) fun _ M_17 =>
    cal (fn_X7_put T R a0 x5 (3 : Int32) (0 : Int32) M_17) fun _ M_20 =>
    cal (fn_X7_put T R a0 x5 (4 : Int32) (0 : Int32) M_20) fun _ M_23 =>
    cal (fn_X7_put T R a0 x5 (5 : Int32) (0 : Int32) M_23) fun _ M_26 =>
    cal (fn_X7_lay T R a0 x5 x4 M_26) fun _ M_29 =>
    some (x5, M_29))
def fn_X7_band (T : Ty) (R : Rm) (a0 : Nat) (x1 : Int32) (x2 : Int32) (x3 : Int32) (x4 : Int32) (M : Mm) : Option (Int32 × Mm) :=
  cal (fn_X7_in T R x1 (0 : Int32) (5000 : Int32) M) fun r_31 M_32 =>
  if r_31 = 0 then (
    some ((-2000000001 : Int32), M_32)) else (
    cal (fn_X7_in T R x2 (100 : Int32) (5000 : Int32) M_32) fun r_35 M_36 =>
    if r_35 = 0 then (
      some ((-2000000001 : Int32), M_36)) else (
      cal (fn_X7_in T R x3 (0 : Int32) (500 : Int32) M_36) fun r_39 M_40 =>
      if r_39 = 0 then (
        some ((-2000000001 : Int32), M_40)) else (
        cal (fn_X7_in T R x4 (0 : Int32) (1000000 : Int32) M_40) fun r_43 M_44 =>
        if r_43 = 0 then (
          some ((-2000000001 : Int32), M_44)) else (
          chk (isK T a0 7) <|
          rfm (R a0 0) fun b_48 =>
          chk (isK T b_48 9) <|
          chk (inb (8 : Int32) (lnT T b_48)) <|
          bnd (gI M_44 b_48 (8 : Int32).toNatClampNeg) fun v_51 =>
          if v_51 ≤ 0 then (
            (fs_X7_band_78 T R a0 x1 x2 x3 x4) v_51 M_44) else (
            cal (fn_X7_of T R a0 (v_51 - (1 : Int32)) (0 : Int32) M_44) fun r_53 M_54 =>
            if x1 < r_53 then (
              (fs_X7_band_78 T R a0 x1 x2 x3 x4) v_51 M_54) else (
              some ((-2000000002 : Int32), M_54)))))))
def fn_X7_creep (T : Ty) (R : Rm) (a0 : Nat) (x1 : Int32) (x2 : Int32) (M : Mm) : Option (Int32 × Mm) :=
  chk (isK T a0 7) <|
  cal (fn_X7_isBand T R a0 x1 M) fun r_2 M_3 =>
  if r_2 = 0 then (
    some ((-2000000001 : Int32), M_3)) else (
    cal (fn_X7_in T R x2 (0 : Int32) (500 : Int32) M_3) fun r_6 M_7 =>
    if r_6 = 0 then (
      some ((-2000000001 : Int32), M_7)) else (
      cal (fn_X7_keep T R a0 M_7) fun _ M_11 =>
      cal (fn_X7_of T R a0 x1 (2 : Int32) M_11) fun r_13 M_14 =>
      cal (fn_X7_put T R a0 x1 (2 : Int32) x2 M_14) fun _ M_17 =>
      some (r_13, M_17)))
def fn_X7_snowOf (T : Ty) (R : Rm) (a0 : Nat) (x1 : Int32) (M : Mm) : Option (Int32 × Mm) :=
  chk (isK T a0 7) <|
  rfm (R a0 0) fun b_2 =>
  chk (isK T b_2 9) <|
  chk (inb (0 : Int32) (lnT T b_2)) <|
  chk (inb (1 : Int32) (lnT T b_2)) <|
  cal (fn_X7_of T R a0 x1 (0 : Int32) M) fun r_6 M_7 =>
  chk (inb (4 : Int32) (lnT T b_2)) <|
  cal (fn_X7_floor T R (((gI M b_2 (1 : Int32).toNatClampNeg).toInt64) * ((r_6 - (gI M_7 b_2 (4 : Int32).toNatClampNeg)).toInt64)) (100 : Int32) M_7) fun r_10 M_11 =>
  bnd ((gI M b_2 (0 : Int32).toNatClampNeg) + r_10) fun v_13 =>
  if 0 ≤ v_13 then (
    some (v_13, M_11)) else (
    some ((0 : Int32), M_11))
def fn_X7_meltOf (T : Ty) (R : Rm) (a0 : Nat) (x1 : Int32) (M : Mm) : Option (Int32 × Mm) :=
  chk (isK T a0 7) <|
  rfm (R a0 0) fun b_2 =>
  chk (isK T b_2 9) <|
  chk (inb (2 : Int32) (lnT T b_2)) <|
  chk (inb (3 : Int32) (lnT T b_2)) <|
  cal (fn_X7_of T R a0 x1 (0 : Int32) M) fun r_6 M_7 =>
  chk (inb (4 : Int32) (lnT T b_2)) <|
  cal (fn_X7_floor T R (((gI M b_2 (3 : Int32).toNatClampNeg).toInt64) * ((r_6 - (gI M_7 b_2 (4 : Int32).toNatClampNeg)).toInt64)) (100 : Int32) M_7) fun r_10 M_11 =>
  bnd ((gI M b_2 (2 : Int32).toNatClampNeg) - r_10) fun v_13 =>
  if 0 ≤ v_13 then (
    some (v_13, M_11)) else (
    some ((0 : Int32), M_11))
def fs_X7_layersOf_36 (T : Ty) (R : Rm) (a0 : Nat) (x1 : Int32) (j4 : Int32 → Int32 → Mm → Option (Int32 × Mm)) (x3 : Int32) (s0 : Int32) (s1 : Int32) (M : Mm) : Option (Int32 × Mm) :=
  bnd (s0 + s1) fun v_1 =>
  bnd (x3 + (1 : Int32)) fun v_2 =>
  j4 v_1 v_2 M
def fs_X7_layersOf_4 (T : Ty) (R : Rm) (a0 : Nat) (x1 : Int32) (j4 : Int32 → Int32 → Mm → Option (Int32 × Mm)) (x2 : Int32) (x3 : Int32) (M : Mm) : Option (Int32 × Mm) :=
  chk (isK T a0 7) <|
  rfm (R a0 0) fun b_4 =>
  chk (isK T b_4 9) <|
  chk (inb (7 : Int32) (lnT T b_4)) <|
  if (gI M b_4 (7 : Int32).toNatClampNeg) < x3 then (
    some (x2, M)) else (
    rfm (R a0 1) fun b_8 =>
    chk (isK T b_8 9) <|
    chk (inb (((801 : Int32) * x1) + x3) (lnT T b_8)) <|
    if (gI M b_8 (((801 : Int32) * x1) + x3).toNatClampNeg) ≤ 0 then (
      (fs_X7_layersOf_36 T R a0 x1 j4) x3 x2 (0 : Int32) M) else (
      (fs_X7_layersOf_36 T R a0 x1 j4) x3 x2 (1 : Int32) M))
def fb_X7_layersOf_4 (T : Ty) (R : Rm) (a0 : Nat) (x1 : Int32) : Nat → Int32 → Int32 → Mm → Option (Int32 × Mm) :=
  lp (fun j4 => fs_X7_layersOf_4 T R a0 x1 j4) (fun _ _ _ => none)
def fn_X7_layersOf (T : Ty) (R : Rm) (a0 : Nat) (x1 : Int32) (M : Mm) : Option (Int32 × Mm) :=
  (fb_X7_layersOf_4 T R a0 x1 FU) (0 : Int32) (0 : Int32) M
def fs_X7_yearOf_43 (T : Ty) (R : Rm) (a0 : Nat) (x1 : Int32) (x2 : Int32) (j5 : Int32 → Int32 → Mm → Option (Int32 × Mm)) (x3 : Int32) (x4 : Int32) (M : Mm) : Option (Int32 × Mm) :=
  bnd (x4 + (1 : Int32)) fun v_1 =>
  j5 x3 v_1 M
def fs_X7_yearOf_5 (T : Ty) (R : Rm) (a0 : Nat) (x1 : Int32) (x2 : Int32) (j5 : Int32 → Int32 → Mm → Option (Int32 × Mm)) (x3 : Int32) (x4 : Int32) (M : Mm) : Option (Int32 × Mm) :=
  chk (isK T a0 7) <|
  rfm (R a0 0) fun b_3 =>
  chk (isK T b_3 9) <|
  chk (inb (7 : Int32) (lnT T b_3)) <|
  if (gI M b_3 (7 : Int32).toNatClampNeg) < x4 then (
    some ((-1 : Int32), M)) else (
    rfm (R a0 1) fun b_7 =>
    chk (isK T b_7 9) <|
    chk (inb (((801 : Int32) * x1) + x4) (lnT T b_7)) <|
    if (gI M b_7 (((801 : Int32) * x1) + x4).toNatClampNeg) ≤ 0 then (
      (fs_X7_yearOf_43 T R a0 x1 x2 j5) x3 x4 M) else (
      if x3 = 0 then (
        some (x4, M)) else (
        bnd (x3 + (-1 : Int32)) fun v_12 =>
        (fs_X7_yearOf_43 T R a0 x1 x2 j5) v_12 x4 M)))
def fb_X7_yearOf_5 (T : Ty) (R : Rm) (a0 : Nat) (x1 : Int32) (x2 : Int32) : Nat → Int32 → Int32 → Mm → Option (Int32 × Mm) :=
  lp (fun j5 => fs_X7_yearOf_5 T R a0 x1 x2 j5) (fun _ _ _ => none)
def fn_X7_yearOf (T : Ty) (R : Rm) (a0 : Nat) (x1 : Int32) (x2 : Int32) (M : Mm) : Option (Int32 × Mm) :=
  (fb_X7_yearOf_5 T R a0 x1 x2 FU) x2 (0 : Int32) M
def fn_X7_found (T : Ty) (R : Rm) (x0 : Int32) (M : Mm) : Option (Int32 × Mm) :=
  if x0 = (-1 : Int32) then (
    some ((-2000000004 : Int32), M)) else (
    some (x0, M))
def fn_X7_infoOf (T : Ty) (R : Rm) (a0 : Nat) (x1 : Int32) (x2 : Int32) (M : Mm) : Option (Int32 × Mm) :=
  if x2 = 3 then (
    chk (isK T a0 7) <|
    cal (fn_X7_iceOf T R a0 x1 M) fun r_3 M_4 =>
    some (r_3, M_4)) else (
  if x2 = 4 then (
    chk (isK T a0 7) <|
    cal (fn_X7_layersOf T R a0 x1 M) fun r_8 M_9 =>
    some (r_8, M_9)) else (
  if x2 = 5 then (
    chk (isK T a0 7) <|
    cal (fn_X7_yearOf T R a0 x1 (0 : Int32) M) fun r_13 M_14 =>
    cal (fn_X7_found T R r_13 M_14) fun r_16 M_17 =>
    some (r_16, M_17)) else (
  if x2 = 6 then (
    chk (isK T a0 7) <|
    cal (fn_X7_layersOf T R a0 x1 M) fun r_21 M_22 =>
    cal (fn_X7_yearOf T R a0 x1 (r_21 - (1 : Int32)) M_22) fun r_24 M_25 =>
    cal (fn_X7_found T R r_24 M_25) fun r_27 M_28 =>
    some (r_27, M_28)) else (
  if x2 = 7 then (
    chk (isK T a0 7) <|
    cal (fn_X7_snowOf T R a0 x1 M) fun r_32 M_33 =>
    some (r_32, M_33)) else (
  if x2 = 8 then (
    chk (isK T a0 7) <|
    cal (fn_X7_meltOf T R a0 x1 M) fun r_37 M_38 =>
    some (r_37, M_38)) else (
  if x2 = 9 then (
    chk (isK T a0 7) <|
    cal (fn_X7_of T R a0 x1 (((3 : Int32) + x2) - (9 : Int32)) M) fun r_42 M_43 =>
    some (r_42, M_43)) else (
  if x2 = 10 then (
    chk (isK T a0 7) <|
    cal (fn_X7_of T R a0 x1 (((3 : Int32) + x2) - (9 : Int32)) M) fun r_47 M_48 =>
    some (r_47, M_48)) else (
  if x2 = 11 then (
    chk (isK T a0 7) <|
    cal (fn_X7_of T R a0 x1 (((3 : Int32) + x2) - (9 : Int32)) M) fun r_52 M_53 =>
    some (r_52, M_53)) else (
    chk (isK T a0 7) <|
    cal (fn_X7_of T R a0 x1 x2 M) fun r_56 M_57 =>
    some (r_56, M_57))))))))))
def fn_X7_bandInfo (T : Ty) (R : Rm) (a0 : Nat) (x1 : Int32) (x2 : Int32) (M : Mm) : Option (Int32 × Mm) :=
  chk (isK T a0 7) <|
  cal (fn_X7_isBand T R a0 x1 M) fun r_2 M_3 =>
  if r_2 = 0 then (
    some ((-2000000001 : Int32), M_3)) else (
    cal (fn_X7_in T R x2 (0 : Int32) (11 : Int32) M_3) fun r_6 M_7 =>
    if r_6 = 0 then (
      some ((-2000000001 : Int32), M_7)) else (
      cal (fn_X7_infoOf T R a0 x1 x2 M_7) fun r_10 M_11 =>
      some (r_10, M_11)))
def fn_X7_layer (T : Ty) (R : Rm) (a0 : Nat) (x1 : Int32) (x2 : Int32) (x3 : Int32) (M : Mm) : Option (Int32 × Mm) :=
  chk (isK T a0 7) <|
  cal (fn_X7_isBand T R a0 x1 M) fun r_2 M_3 =>
  if r_2 = 0 then (
    some ((-2000000001 : Int32), M_3)) else (
    if x2 < 0 then (
      some ((-2000000001 : Int32), M_3)) else (
      cal (fn_X7_in T R x3 (0 : Int32) (1 : Int32) M_3) fun r_7 M_8 =>
      if r_7 = 0 then (
        some ((-2000000001 : Int32), M_8)) else (
        cal (fn_X7_yearOf T R a0 x1 x2 M_8) fun r_11 M_12 =>
        if r_11 = (-1 : Int32) then (
          some ((-2000000004 : Int32), M_12)) else (
          if x3 = 0 then (
            some (r_11, M_12)) else (
            rfm (R a0 1) fun b_16 =>
            chk (isK T b_16 9) <|
            chk (inb (((801 : Int32) * x1) + r_11) (lnT T b_16)) <|
            some ((gI M_12 b_16 (((801 : Int32) * x1) + r_11).toNatClampNeg), M_12))))))
def fs_X7_leftOf_4 (T : Ty) (R : Rm) (a0 : Nat) (x1 : Int32) (j4 : Int32 → Int32 → Mm → Option (Int32 × Mm)) (x2 : Int32) (x3 : Int32) (M : Mm) : Option (Int32 × Mm) :=
  chk (isK T a0 7) <|
  rfm (R a0 0) fun b_2 =>
  chk (isK T b_2 9) <|
  chk (inb (8 : Int32) (lnT T b_2)) <|
  if (gI M b_2 (8 : Int32).toNatClampNeg) ≤ x3 then (
    some (x2, M)) else (
    rfm (R a0 1) fun b_6 =>
    chk (isK T b_6 9) <|
    chk (inb (((801 : Int32) * x3) + x1) (lnT T b_6)) <|
    bnd (x2 + (gI M b_6 (((801 : Int32) * x3) + x1).toNatClampNeg)) fun v_9 =>
    bnd (x3 + (1 : Int32)) fun v_10 =>
    j4 v_9 v_10 M)
def fb_X7_leftOf_4 (T : Ty) (R : Rm) (a0 : Nat) (x1 : Int32) : Nat → Int32 → Int32 → Mm → Option (Int32 × Mm) :=
  lp (fun j4 => fs_X7_leftOf_4 T R a0 x1 j4) (fun _ _ _ => none)
def fn_X7_leftOf (T : Ty) (R : Rm) (a0 : Nat) (x1 : Int32) (M : Mm) : Option (Int32 × Mm) :=
  (fb_X7_leftOf_4 T R a0 x1 FU) (0 : Int32) (0 : Int32) M
def fn_X7_ofYear (T : Ty) (R : Rm) (a0 : Nat) (x1 : Int32) (M : Mm) : Option (Int32 × Mm) :=
  cal (fn_X7_in T R x1 (0 : Int32) (500 : Int32) M) fun r_1 M_2 =>
  if r_1 = 0 then (
    some ((-2000000001 : Int32), M_2)) else (
    chk (isK T a0 7) <|
    cal (fn_X7_leftOf T R a0 x1 M_2) fun r_6 M_7 =>
    some (r_6, M_7))
def fs_X7_line_10 (T : Ty) (R : Rm) (a0 : Nat) (j10 : Int32 → Mm → Option (Int32 × Mm)) (x1 : Int32) (M : Mm) : Option (Int32 × Mm) :=
  if x1 < 0 then (
    some ((-2000000004 : Int32), M)) else (
    chk (isK T a0 7) <|
    cal (fn_X7_snowOf T R a0 x1 M) fun r_3 M_4 =>
    cal (fn_X7_meltOf T R a0 x1 M_4) fun r_6 M_7 =>
    if r_3 < r_6 then (
      bnd (x1 + (-1 : Int32)) fun v_10 =>
      j10 v_10 M_7) else (
      some (x1, M_7)))
def fb_X7_line_10 (T : Ty) (R : Rm) (a0 : Nat) : Nat → Int32 → Mm → Option (Int32 × Mm) :=
  lp (fun j10 => fs_X7_line_10 T R a0 j10) (fun _ _ => none)
def fn_X7_line (T : Ty) (R : Rm) (a0 : Nat) (M : Mm) : Option (Int32 × Mm) :=
  chk (isK T a0 7) <|
  rfm (R a0 0) fun b_12 =>
  chk (isK T b_12 9) <|
  chk (inb (8 : Int32) (lnT T b_12)) <|
  bnd ((gI M b_12 (8 : Int32).toNatClampNeg) - (1 : Int32)) fun v_15 =>
  (fb_X7_line_10 T R a0 FU) v_15 M
def fn_X7_front (T : Ty) (R : Rm) (a0 : Nat) (x1 : Int32) (M : Mm) : Option (Int32 × Mm) :=
  cal (fn_X7_in T R x1 (0 : Int32) (3 : Int32) M) fun r_1 M_2 =>
  if r_1 = 0 then (
    some ((-2000000001 : Int32), M_2)) else (
    if x1 = (3 : Int32) then (
      chk (isK T a0 7) <|
      rfm (R a0 0) fun b_11 =>
      chk (isK T b_11 9) <|
      chk (inb (13 : Int32) (lnT T b_11)) <|
      cal (fn_X7_found T R (gI M_2 b_11 (13 : Int32).toNatClampNeg) M_2) fun r_14 M_15 =>
      some (r_14, M_15)) else (
      chk (isK T a0 7) <|
      rfm (R a0 0) fun b_7 =>
      chk (isK T b_7 9) <|
      chk (inb ((10 : Int32) + x1) (lnT T b_7)) <|
      some ((gI M_2 b_7 ((10 : Int32) + x1).toNatClampNeg), M_2)))
def fs_X7_allOfBands_4 (T : Ty) (R : Rm) (a0 : Nat) (j4 : Int32 → Int32 → Mm → Option (Int32 × Mm)) (x1 : Int32) (x2 : Int32) (M : Mm) : Option (Int32 × Mm) :=
  chk (isK T a0 7) <|
  rfm (R a0 0) fun b_2 =>
  chk (isK T b_2 9) <|
  chk (inb (8 : Int32) (lnT T b_2)) <|
  if (gI M b_2 (8 : Int32).toNatClampNeg) ≤ x2 then (
    some (x1, M)) else (
    cal (fn_X7_iceOf T R a0 x2 M) fun r_6 M_7 =>
    bnd (x1 + r_6) fun v_9 =>
    bnd (x2 + (1 : Int32)) fun v_10 =>
    j4 v_9 v_10 M_7)
def fb_X7_allOfBands_4 (T : Ty) (R : Rm) (a0 : Nat) : Nat → Int32 → Int32 → Mm → Option (Int32 × Mm) :=
  lp (fun j4 => fs_X7_allOfBands_4 T R a0 j4) (fun _ _ _ => none)
def fn_X7_allOfBands (T : Ty) (R : Rm) (a0 : Nat) (M : Mm) : Option (Int32 × Mm) :=
  (fb_X7_allOfBands_4 T R a0 FU) (0 : Int32) (0 : Int32) M
def fs_X7_allByYears_4 (T : Ty) (R : Rm) (a0 : Nat) (j4 : Int32 → Int32 → Mm → Option (Int32 × Mm)) (x1 : Int32) (x2 : Int32) (M : Mm) : Option (Int32 × Mm) :=
  chk (isK T a0 7) <|
  rfm (R a0 0) fun b_2 =>
  chk (isK T b_2 9) <|
  chk (inb (7 : Int32) (lnT T b_2)) <|
  if (gI M b_2 (7 : Int32).toNatClampNeg) < x2 then (
    some (x1, M)) else (
    cal (fn_X7_leftOf T R a0 x2 M) fun r_6 M_7 =>
    bnd (x1 + r_6) fun v_9 =>
    bnd (x2 + (1 : Int32)) fun v_10 =>
    j4 v_9 v_10 M_7)
def fb_X7_allByYears_4 (T : Ty) (R : Rm) (a0 : Nat) : Nat → Int32 → Int32 → Mm → Option (Int32 × Mm) :=
  lp (fun j4 => fs_X7_allByYears_4 T R a0 j4) (fun _ _ _ => none)
def fn_X7_allByYears (T : Ty) (R : Rm) (a0 : Nat) (M : Mm) : Option (Int32 × Mm) :=
  (fb_X7_allByYears_4 T R a0 FU) (0 : Int32) (0 : Int32) M
def fn_X7_account (T : Ty) (R : Rm) (a0 : Nat) (x1 : Int32) (M : Mm) : Option (Int64 × Mm) :=
  cal (fn_X7_in T R x1 (0 : Int32) (5 : Int32) M) fun r_1 M_2 =>
  if r_1 = 0 then (
    some ((-2000000001 : Int64), M_2)) else (
    if (4 : Int32) ≤ x1 then (
      chk (isK T a0 7) <|
      rfm (R a0 0) fun b_7 =>
      chk (isK T b_7 9) <|
      chk (inb (10 : Int32) (lnT T b_7)) <|
      if x1 = (4 : Int32) then (
        cal (fn_X7_allOfBands T R a0 M_2) fun r_14 M_15 =>
        some ((((gI M_2 b_7 (10 : Int32).toNatClampNeg) + r_14).toInt64), M_15)) else (
        cal (fn_X7_allByYears T R a0 M_2) fun r_11 M_12 =>
        some ((((gI M_2 b_7 (10 : Int32).toNatClampNeg) + r_11).toInt64), M_12))) else (
      chk (isK T a0 7) <|
      rfm (R a0 2) fun b_18 =>
      chk (isK T b_18 10) <|
      chk (inb x1 (lnT T b_18)) <|
      some ((gJ M_2 b_18 x1.toNatClampNeg), M_2)))
def fs_X7_standing_30 (T : Ty) (R : Rm) (a0 : Nat) (j4 : Int32 → Int32 → Mm → Option (Int32 × Mm)) (x2 : Int32) (s0 : Int32) (s1 : Int32) (M : Mm) : Option (Int32 × Mm) :=
  bnd (s0 + s1) fun v_1 =>
  bnd (x2 + (1 : Int32)) fun v_2 =>
  j4 v_1 v_2 M
def fs_X7_standing_4 (T : Ty) (R : Rm) (a0 : Nat) (j4 : Int32 → Int32 → Mm → Option (Int32 × Mm)) (x1 : Int32) (x2 : Int32) (M : Mm) : Option (Int32 × Mm) :=
  chk (isK T a0 7) <|
  rfm (R a0 0) fun b_4 =>
  chk (isK T b_4 9) <|
  chk (inb (9 : Int32) (lnT T b_4)) <|
  if (gI M b_4 (9 : Int32).toNatClampNeg) ≤ x2 then (
    some (x1, M)) else (
    cal (fn_X7_ofStake T R a0 x2 (4 : Int32) M) fun r_8 M_9 =>
    if r_8 = 0 then (
      (fs_X7_standing_30 T R a0 j4) x2 x1 (1 : Int32) M_9) else (
      (fs_X7_standing_30 T R a0 j4) x2 x1 (0 : Int32) M_9))
def fb_X7_standing_4 (T : Ty) (R : Rm) (a0 : Nat) : Nat → Int32 → Int32 → Mm → Option (Int32 × Mm) :=
  lp (fun j4 => fs_X7_standing_4 T R a0 j4) (fun _ _ _ => none)
def fn_X7_standing (T : Ty) (R : Rm) (a0 : Nat) (M : Mm) : Option (Int32 × Mm) :=
  (fb_X7_standing_4 T R a0 FU) (0 : Int32) (0 : Int32) M
def fs_X7_differentYears_29 (T : Ty) (R : Rm) (a0 : Nat) (j4 : Int32 → Int32 → Mm → Option (Int32 × Mm)) (x2 : Int32) (s0 : Int32) (s1 : Int32) (M : Mm) : Option (Int32 × Mm) :=
  bnd (s0 + s1) fun v_1 =>
  bnd (x2 + (1 : Int32)) fun v_2 =>
  j4 v_1 v_2 M
def fs_X7_differentYears_4 (T : Ty) (R : Rm) (a0 : Nat) (j4 : Int32 → Int32 → Mm → Option (Int32 × Mm)) (x1 : Int32) (x2 : Int32) (M : Mm) : Option (Int32 × Mm) :=
  chk (isK T a0 7) <|
  rfm (R a0 0) fun b_4 =>
  chk (isK T b_4 9) <|
  chk (inb (7 : Int32) (lnT T b_4)) <|
  if (gI M b_4 (7 : Int32).toNatClampNeg) < x2 then (
    some (x1, M)) else (
    cal (fn_X7_leftOf T R a0 x2 M) fun r_8 M_9 =>
    if r_8 ≤ 0 then (
      (fs_X7_differentYears_29 T R a0 j4) x2 x1 (0 : Int32) M_9) else (
      (fs_X7_differentYears_29 T R a0 j4) x2 x1 (1 : Int32) M_9))
def fb_X7_differentYears_4 (T : Ty) (R : Rm) (a0 : Nat) : Nat → Int32 → Int32 → Mm → Option (Int32 × Mm) :=
  lp (fun j4 => fs_X7_differentYears_4 T R a0 j4) (fun _ _ _ => none)
def fn_X7_differentYears (T : Ty) (R : Rm) (a0 : Nat) (M : Mm) : Option (Int32 × Mm) :=
  (fb_X7_differentYears_4 T R a0 FU) (0 : Int32) (0 : Int32) M
def fs_X7_allLayers_4 (T : Ty) (R : Rm) (a0 : Nat) (j4 : Int32 → Int32 → Mm → Option (Int32 × Mm)) (x1 : Int32) (x2 : Int32) (M : Mm) : Option (Int32 × Mm) :=
  chk (isK T a0 7) <|
  rfm (R a0 0) fun b_2 =>
  chk (isK T b_2 9) <|
  chk (inb (8 : Int32) (lnT T b_2)) <|
  if (gI M b_2 (8 : Int32).toNatClampNeg) ≤ x2 then (
    some (x1, M)) else (
    cal (fn_X7_layersOf T R a0 x2 M) fun r_6 M_7 =>
    bnd (x1 + r_6) fun v_9 =>
    bnd (x2 + (1 : Int32)) fun v_10 =>
    j4 v_9 v_10 M_7)
def fb_X7_allLayers_4 (T : Ty) (R : Rm) (a0 : Nat) : Nat → Int32 → Int32 → Mm → Option (Int32 × Mm) :=
  lp (fun j4 => fs_X7_allLayers_4 T R a0 j4) (fun _ _ _ => none)
def fn_X7_allLayers (T : Ty) (R : Rm) (a0 : Nat) (M : Mm) : Option (Int32 × Mm) :=
  (fb_X7_allLayers_4 T R a0 FU) (0 : Int32) (0 : Int32) M
def fn_X7_count (T : Ty) (R : Rm) (a0 : Nat) (x1 : Int32) (M : Mm) : Option (Int32 × Mm) :=
  if x1 = 0 then (
    chk (isK T a0 7) <|
    rfm (R a0 0) fun b_3 =>
    chk (isK T b_3 9) <|
    chk (inb (8 : Int32) (lnT T b_3)) <|
    some ((gI M b_3 (8 : Int32).toNatClampNeg), M)) else (
  if x1 = 1 then (
    chk (isK T a0 7) <|
    rfm (R a0 0) fun b_8 =>
    chk (isK T b_8 9) <|
    chk (inb (7 : Int32) (lnT T b_8)) <|
    some ((gI M b_8 (7 : Int32).toNatClampNeg), M)) else (
  if x1 = 2 then (
    chk (isK T a0 7) <|
    rfm (R a0 0) fun b_13 =>
    chk (isK T b_13 9) <|
    chk (inb (9 : Int32) (lnT T b_13)) <|
    some ((gI M b_13 (9 : Int32).toNatClampNeg), M)) else (
  if x1 = 3 then (
    chk (isK T a0 7) <|
    cal (fn_X7_standing T R a0 M) fun r_18 M_19 =>
    some (r_18, M_19)) else (
  if x1 = 4 then (
    chk (isK T a0 7) <|
    cal (fn_X7_allLayers T R a0 M) fun r_23 M_24 =>
    some (r_23, M_24)) else (
  if x1 = 5 then (
    chk (isK T a0 7) <|
    cal (fn_X7_differentYears T R a0 M) fun r_28 M_29 =>
    some (r_28, M_29)) else (
  if x1 = 6 then (
    cal (fn_X7_in T R x1 (6 : Int32) (12 : Int32) M) fun r_32 M_33 =>
    if r_32 = 0 then (
      some ((-2000000001 : Int32), M_33)) else (
      chk (isK T a0 7) <|
      rfm (R a0 0) fun b_37 =>
      chk (isK T b_37 9) <|
      chk (inb (x1 - (6 : Int32)) (lnT T b_37)) <|
      some ((gI M_33 b_37 (x1 - (6 : Int32)).toNatClampNeg), M_33))) else (
  if x1 = 7 then (
    cal (fn_X7_in T R x1 (6 : Int32) (12 : Int32) M) fun r_41 M_42 =>
    if r_41 = 0 then (
      some ((-2000000001 : Int32), M_42)) else (
      chk (isK T a0 7) <|
      rfm (R a0 0) fun b_46 =>
      chk (isK T b_46 9) <|
      chk (inb (x1 - (6 : Int32)) (lnT T b_46)) <|
      some ((gI M_42 b_46 (x1 - (6 : Int32)).toNatClampNeg), M_42))) else (
  if x1 = 8 then (
    cal (fn_X7_in T R x1 (6 : Int32) (12 : Int32) M) fun r_50 M_51 =>
    if r_50 = 0 then (
      some ((-2000000001 : Int32), M_51)) else (
      chk (isK T a0 7) <|
      rfm (R a0 0) fun b_55 =>
      chk (isK T b_55 9) <|
      chk (inb (x1 - (6 : Int32)) (lnT T b_55)) <|
      some ((gI M_51 b_55 (x1 - (6 : Int32)).toNatClampNeg), M_51))) else (
  if x1 = 9 then (
    cal (fn_X7_in T R x1 (6 : Int32) (12 : Int32) M) fun r_59 M_60 =>
    if r_59 = 0 then (
      some ((-2000000001 : Int32), M_60)) else (
      chk (isK T a0 7) <|
      rfm (R a0 0) fun b_64 =>
      chk (isK T b_64 9) <|
      chk (inb (x1 - (6 : Int32)) (lnT T b_64)) <|
      some ((gI M_60 b_64 (x1 - (6 : Int32)).toNatClampNeg), M_60))) else (
  if x1 = 10 then (
    cal (fn_X7_in T R x1 (6 : Int32) (12 : Int32) M) fun r_68 M_69 =>
    if r_68 = 0 then (
      some ((-2000000001 : Int32), M_69)) else (
      chk (isK T a0 7) <|
      rfm (R a0 0) fun b_73 =>
      chk (isK T b_73 9) <|
      chk (inb (x1 - (6 : Int32)) (lnT T b_73)) <|
      some ((gI M_69 b_73 (x1 - (6 : Int32)).toNatClampNeg), M_69))) else (
  if x1 = 11 then (
    cal (fn_X7_in T R x1 (6 : Int32) (12 : Int32) M) fun r_77 M_78 =>
    if r_77 = 0 then (
      some ((-2000000001 : Int32), M_78)) else (
      chk (isK T a0 7) <|
      rfm (R a0 0) fun b_82 =>
      chk (isK T b_82 9) <|
      chk (inb (x1 - (6 : Int32)) (lnT T b_82)) <|
      some ((gI M_78 b_82 (x1 - (6 : Int32)).toNatClampNeg), M_78))) else (
  if x1 = 12 then (
    cal (fn_X7_in T R x1 (6 : Int32) (12 : Int32) M) fun r_86 M_87 =>
    if r_86 = 0 then (
      some ((-2000000001 : Int32), M_87)) else (
      chk (isK T a0 7) <|
      rfm (R a0 0) fun b_91 =>
      chk (isK T b_91 9) <|
      chk (inb (x1 - (6 : Int32)) (lnT T b_91)) <|
      some ((gI M_87 b_91 (x1 - (6 : Int32)).toNatClampNeg), M_87))) else (
  if x1 = 13 then (
    chk (isK T a0 7) <|
    some ((gI M a0 10), M)) else (
  if x1 = 14 then (
    chk (isK T a0 7) <|
    some ((gI M a0 12), M)) else (
    cal (fn_X7_in T R x1 (6 : Int32) (12 : Int32) M) fun r_98 M_99 =>
    if r_98 = 0 then (
      some ((-2000000001 : Int32), M_99)) else (
      chk (isK T a0 7) <|
      rfm (R a0 0) fun b_103 =>
      chk (isK T b_103 9) <|
      chk (inb (x1 - (6 : Int32)) (lnT T b_103)) <|
      some ((gI M_99 b_103 (x1 - (6 : Int32)).toNatClampNeg), M_99)))))))))))))))))
def fs_X7_stake_88 (T : Ty) (R : Rm) (a0 : Nat) (x1 : Int32) (x2 : Int32) (x3 : Int32) (j41 : Int32 → Mm → Option (Int32 × Mm)) (x4 : Int32) (M : Mm) : Option (Int32 × Mm) :=
  bnd (x4 + (1 : Int32)) fun v_1 =>
  j41 v_1 M
def fs_X7_stake_41 (T : Ty) (R : Rm) (a0 : Nat) (x1 : Int32) (x2 : Int32) (x3 : Int32) (j41 : Int32 → Mm → Option (Int32 × Mm)) (x4 : Int32) (M : Mm) : Option (Int32 × Mm) :=
  chk (isK T a0 7) <|
  rfm (R a0 0) fun b_3 =>
  chk (isK T b_3 9) <|
  chk (inb (9 : Int32) (lnT T b_3)) <|
  if (gI M b_3 (9 : Int32).toNatClampNeg) ≤ x4 then (
    if (gI M b_3 (9 : Int32).toNatClampNeg) = (6 : Int32) then (
      some ((-2000000003 : Int32), M)) else (
      cal (fn_X7_keep T R a0 M) fun _ M_9 =>
      bnd (gI M_9 b_3 (9 : Int32).toNatClampNeg) fun v_11 =>
      bnd (sI M_9 b_3 (9 : Int32).toNatClampNeg ((gI M_9 b_3 (9 : Int32).toNatClampNeg) + (1 : Int32))) fun M_12 =>
      cal (fn_X7_putStake T R a0 v_11 (0 : Int32) x1 M_12) fun _ M_14 =>
      cal (fn_X7_putStake T R a0 v_11 (1 : Int32) x2 M_14) fun _ M_17 =>
      cal (fn_X7_putStake T R a0 v_11 (2 : Int32) x3 M_17) fun _ M_20 =>
      cal (fn_X7_putStake T R a0 v_11 (3 : Int32) (0 : Int32) M_20) fun _ M_23 =>
      cal (fn_X7_putStake T R a0 v_11 (4 : Int32) (0 : Int32) M_23) fun _ M_26 =>
      cal (fn_X7_putStake T R a0 v_11 (5 : Int32) (0 : Int32) M_26) fun _ M_29 =>
      some (v_11, M_29))) else (
    cal (fn_X7_ofStake T R a0 x4 (4 : Int32) M) fun r_31 M_32 =>
    if r_31 = 0 then (
      cal (fn_X7_ofStake T R a0 x4 (0 : Int32) M_32) fun r_35 M_36 =>
      if r_35 = x1 then (
        cal (fn_X7_ofStake T R a0 x4 (1 : Int32) M_36) fun r_39 M_40 =>
        if r_39 = x2 then (
          some ((-2000000002 : Int32), M_40)) else (
          (fs_X7_stake_88 T R a0 x1 x2 x3 j41) x4 M_40)) else (
        (fs_X7_stake_88 T R a0 x1 x2 x3 j41) x4 M_36)) else (
      (fs_X7_stake_88 T R a0 x1 x2 x3 j41) x4 M_32))
def fb_X7_stake_41 (T : Ty) (R : Rm) (a0 : Nat) (x1 : Int32) (x2 : Int32) (x3 : Int32) : Nat → Int32 → Mm → Option (Int32 × Mm) :=
  lp (fun j41 => fs_X7_stake_41 T R a0 x1 x2 x3 j41) (fun _ _ => none)
def fn_X7_stake (T : Ty) (R : Rm) (a0 : Nat) (x1 : Int32) (x2 : Int32) (x3 : Int32) (M : Mm) : Option (Int32 × Mm) :=
  chk (isK T a0 7) <|
  cal (fn_X7_isBand T R a0 x1 M) fun r_44 M_45 =>
  if r_44 = 0 then (
    some ((-2000000001 : Int32), M_45)) else (
    cal (fn_X7_of T R a0 x1 (1 : Int32) M_45) fun r_48 M_49 =>
    cal (fn_X7_in T R x2 (0 : Int32) (r_48 - (1 : Int32)) M_49) fun r_51 M_52 =>
    if r_51 = 0 then (
      some ((-2000000001 : Int32), M_52)) else (
      cal (fn_X7_in T R x3 (1 : Int32) (10000 : Int32) M_52) fun r_55 M_56 =>
      if r_55 = 0 then (
        some ((-2000000001 : Int32), M_56)) else (
        (fb_X7_stake_41 T R a0 x1 x2 x3 FU) (0 : Int32) M_56)))
def fs_X7_pull_41 (T : Ty) (R : Rm) (a0 : Nat) (x1 : Int32) (j41 : Int32 → Int32 → Mm → Option (Int32 × Mm)) (x2 : Int32) (x3 : Int32) (M : Mm) : Option (Int32 × Mm) :=
  chk (isK T a0 7) <|
  rfm (R a0 0) fun b_2 =>
  chk (isK T b_2 9) <|
  chk (inb (9 : Int32) (lnT T b_2)) <|
  if ((74 : Int32) + ((6 : Int32) * (gI M b_2 (9 : Int32).toNatClampNeg))) ≤ x3 then (
    some (x2, M)) else (
    chk (inb (x3 + (6 : Int32)) (lnT T b_2)) <|
    chk (inb x3 (lnT T b_2)) <|
    bnd (sI M b_2 x3.toNatClampNeg (gI M b_2 (x3 + (6 : Int32)).toNatClampNeg)) fun M_8 =>
    bnd (x3 + (1 : Int32)) fun v_9 =>
    j41 x2 v_9 M_8)
def fb_X7_pull_41 (T : Ty) (R : Rm) (a0 : Nat) (x1 : Int32) : Nat → Int32 → Int32 → Mm → Option (Int32 × Mm) :=
  lp (fun j41 => fs_X7_pull_41 T R a0 x1 j41) (fun _ _ _ => none)
def fn_X7_pull (T : Ty) (R : Rm) (a0 : Nat) (x1 : Int32) (M : Mm) : Option (Int32 × Mm) :=
  chk (isK T a0 7) <|
  cal (fn_X7_isStake T R a0 x1 M) fun r_11 M_12 =>
  if r_11 = 0 then (
    some ((-2000000001 : Int32), M_12)) else (
    cal (fn_X7_keep T R a0 M_12) fun _ M_16 =>
    cal (fn_X7_ofStake T R a0 x1 (3 : Int32) M_16) fun r_18 M_19 =>
    rfm (R a0 0) fun b_21 =>
    chk (isK T b_21 9) <|
    chk (inb (9 : Int32) (lnT T b_21)) <|
    bnd (sI M_19 b_21 (9 : Int32).toNatClampNeg ((gI M_19 b_21 (9 : Int32).toNatClampNeg) - (1 : Int32))) fun M_24 =>
    bnd ((74 : Int32) + ((6 : Int32) * x1)) fun v_25 =>
    (fb_X7_pull_41 T R a0 x1 FU) r_18 v_25 M_24)
def fn_X7_stakeInfo (T : Ty) (R : Rm) (a0 : Nat) (x1 : Int32) (x2 : Int32) (M : Mm) : Option (Int32 × Mm) :=
  chk (isK T a0 7) <|
  cal (fn_X7_isStake T R a0 x1 M) fun r_2 M_3 =>
  if r_2 = 0 then (
    some ((-2000000001 : Int32), M_3)) else (
    cal (fn_X7_in T R x2 (0 : Int32) (5 : Int32) M_3) fun r_6 M_7 =>
    if r_6 = 0 then (
      some ((-2000000001 : Int32), M_7)) else (
      cal (fn_X7_ofStake T R a0 x1 x2 M_7) fun r_10 M_11 =>
      some (r_10, M_11)))
def fs_X7_stakesIn_53 (T : Ty) (R : Rm) (a0 : Nat) (x1 : Int32) (j15 : Int32 → Int32 → Mm → Option (Int32 × Mm)) (x3 : Int32) (s0 : Int32) (s1 : Int32) (M : Mm) : Option (Int32 × Mm) :=
  bnd (s0 ||| s1) fun v_1 =>
  bnd (x3 + (1 : Int32)) fun v_2 =>
  j15 v_1 v_2 M
def fs_X7_stakesIn_52 (T : Ty) (R : Rm) (a0 : Nat) (x1 : Int32) (j15 : Int32 → Int32 → Mm → Option (Int32 × Mm)) (x3 : Int32) (s0 : Int32) (M : Mm) : Option (Int32 × Mm) :=
  (fs_X7_stakesIn_53 T R a0 x1 j15) x3 s0 (0 : Int32) M
def fs_X7_stakesIn_15 (T : Ty) (R : Rm) (a0 : Nat) (x1 : Int32) (j15 : Int32 → Int32 → Mm → Option (Int32 × Mm)) (x2 : Int32) (x3 : Int32) (M : Mm) : Option (Int32 × Mm) :=
  chk (isK T a0 7) <|
  rfm (R a0 0) fun b_4 =>
  chk (isK T b_4 9) <|
  chk (inb (9 : Int32) (lnT T b_4)) <|
  if (gI M b_4 (9 : Int32).toNatClampNeg) ≤ x3 then (
    some (x2, M)) else (
    cal (fn_X7_ofStake T R a0 x3 (4 : Int32) M) fun r_8 M_9 =>
    if r_8 = 0 then (
      cal (fn_X7_ofStake T R a0 x3 (0 : Int32) M_9) fun r_12 M_13 =>
      if r_12 = x1 then (
        (fs_X7_stakesIn_53 T R a0 x1 j15) x3 x2 ((1 : Int32) <<< (x3 &&& 31)) M_13) else (
        (fs_X7_stakesIn_52 T R a0 x1 j15) x3 x2 M_13)) else (
      (fs_X7_stakesIn_52 T R a0 x1 j15) x3 x2 M_9))
def fb_X7_stakesIn_15 (T : Ty) (R : Rm) (a0 : Nat) (x1 : Int32) : Nat → Int32 → Int32 → Mm → Option (Int32 × Mm) :=
  lp (fun j15 => fs_X7_stakesIn_15 T R a0 x1 j15) (fun _ _ _ => none)
def fn_X7_stakesIn (T : Ty) (R : Rm) (a0 : Nat) (x1 : Int32) (M : Mm) : Option (Int32 × Mm) :=
  chk (isK T a0 7) <|
  cal (fn_X7_isBand T R a0 x1 M) fun r_17 M_18 =>
  if r_17 = 0 then (
    some ((-2000000001 : Int32), M_18)) else (
    (fb_X7_stakesIn_15 T R a0 x1 FU) (0 : Int32) (0 : Int32) M_18)
def fs_X7_weather_131 (T : Ty) (R : Rm) (a0 : Nat) (x1 : Int32) (x4 : Int32) (M : Mm) : Option (Unit × Mm) :=
  chk (isK T a0 7) <|
  cal (fn_X7_put T R a0 x1 (3 : Int32) x4 M) fun _ M_3 =>
  rfm (R a0 2) fun b_5 =>
  chk (isK T b_5 10) <|
  chk (inb (2 : Int32) (lnT T b_5)) <|
  bnd (sJ M_3 b_5 (2 : Int32).toNatClampNeg ((gJ M_3 b_5 (2 : Int32).toNatClampNeg) + (x4.toInt64))) fun M_8 =>
  some ((), M_8)
def fs_X7_weather_93 (T : Ty) (R : Rm) (a0 : Nat) (x1 : Int32) (j57 : Int32 → Int32 → Int32 → Mm → Option (Unit × Mm)) (x3 : Int32) (x4 : Int32) (x5 : Int32) (s0 : Int32) (M : Mm) : Option (Unit × Mm) :=
  chk (isK T a0 7) <|
  rfm (R a0 1) fun b_10 =>
  chk (isK T b_10 9) <|
  chk (inb (((801 : Int32) * x1) + x5) (lnT T b_10)) <|
  bnd (sI M b_10 (((801 : Int32) * x1) + x5).toNatClampNeg ((gI M b_10 (((801 : Int32) * x1) + x5).toNatClampNeg) - s0)) fun M_13 =>
  bnd (x3 - s0) fun v_14 =>
  bnd (x4 + s0) fun v_15 =>
  bnd (x5 + (-1 : Int32)) fun v_16 =>
  j57 v_14 v_15 v_16 M_13
def fs_X7_weather_57 (T : Ty) (R : Rm) (a0 : Nat) (x1 : Int32) (j57 : Int32 → Int32 → Int32 → Mm → Option (Unit × Mm)) (j131 : Int32 → Mm → Option (Unit × Mm)) (x3 : Int32) (x4 : Int32) (x5 : Int32) (M : Mm) : Option (Unit × Mm) :=
  if x5 < 0 then (
    j131 x4 M) else (
    if x3 ≤ 0 then (
      j131 x4 M) else (
      chk (isK T a0 7) <|
      rfm (R a0 1) fun b_20 =>
      chk (isK T b_20 9) <|
      chk (inb (((801 : Int32) * x1) + x5) (lnT T b_20)) <|
      bnd (gI M b_20 (((801 : Int32) * x1) + x5).toNatClampNeg) fun v_23 =>
      if x3 ≤ v_23 then (
        (fs_X7_weather_93 T R a0 x1 j57) x3 x4 x5 x3 M) else (
        (fs_X7_weather_93 T R a0 x1 j57) x3 x4 x5 v_23 M)))
def fb_X7_weather_57 (T : Ty) (R : Rm) (a0 : Nat) (x1 : Int32) (j131 : Int32 → Mm → Option (Unit × Mm)) : Nat → Int32 → Int32 → Int32 → Mm → Option (Unit × Mm) :=
  lp (fun j57 => fs_X7_weather_57 T R a0 x1 j57 j131) (fun _ _ _ _ => none)
def fn_X7_weather (T : Ty) (R : Rm) (a0 : Nat) (x1 : Int32) (M : Mm) : Option (Unit × Mm) :=
  chk (isK T a0 7) <|
  cal (fn_X7_snowOf T R a0 x1 M) fun r_26 M_27 =>
  rfm (R a0 1) fun b_29 =>
  rfm (R a0 0) fun b_30 =>
  chk (isK T b_30 9) <|
  chk (inb (7 : Int32) (lnT T b_30)) <|
  chk (isK T b_29 9) <|
  chk (inb (((801 : Int32) * x1) + (gI M_27 b_30 (7 : Int32).toNatClampNeg)) (lnT T b_29)) <|
  bnd (sI M_27 b_29 (((801 : Int32) * x1) + (gI M_27 b_30 (7 : Int32).toNatClampNeg)).toNatClampNeg ((gI M_27 b_29 (((801 : Int32) * x1) + (gI M_27 b_30 (7 : Int32).toNatClampNeg)).toNatClampNeg) + r_26)) fun M_35 =>
  rfm (R a0 2) fun b_36 =>
  chk (isK T b_36 10) <|
  chk (inb (1 : Int32) (lnT T b_36)) <|
  bnd (sJ M_35 b_36 (1 : Int32).toNatClampNeg ((gJ M_35 b_36 (1 : Int32).toNatClampNeg) + (r_26.toInt64))) fun M_39 =>
  cal (fn_X7_meltOf T R a0 x1 M_39) fun r_40 M_41 =>
  bnd (gI M_41 b_30 (7 : Int32).toNatClampNeg) fun v_43 =>
  (fb_X7_weather_57 T R a0 x1 (fs_X7_weather_131 T R a0 x1) FU) r_40 (0 : Int32) v_43 M_41
def fs_X7_gives_173 (T : Ty) (R : Rm) (a0 : Nat) (x1 : Int32) (j81 : Int32 → Int32 → Int32 → Mm → Option (Unit × Mm)) (x2 : Int32) (x3 : Int32) (x4 : Int32) (M : Mm) : Option (Unit × Mm) :=
  bnd (x4 + (1 : Int32)) fun v_1 =>
  j81 x2 x3 v_1 M
def fs_X7_gives_124 (T : Ty) (R : Rm) (a0 : Nat) (x1 : Int32) (j81 : Int32 → Int32 → Int32 → Mm → Option (Unit × Mm)) (x2 : Int32) (x3 : Int32) (x4 : Int32) (s0 : Int32) (M : Mm) : Option (Unit × Mm) :=
  chk (isK T a0 7) <|
  rfm (R a0 1) fun b_3 =>
  chk (isK T b_3 9) <|
  chk (inb (((801 : Int32) * x1) + x4) (lnT T b_3)) <|
  bnd (sI M b_3 (((801 : Int32) * x1) + x4).toNatClampNeg ((gI M b_3 (((801 : Int32) * x1) + x4).toNatClampNeg) - s0)) fun M_6 =>
  bnd (x2 - s0) fun v_7 =>
  if x3 = 0 then (
    chk (inb (((801 : Int32) * (x1 + (1 : Int32))) + x4) (lnT T b_3)) <|
    bnd (sI M_6 b_3 (((801 : Int32) * (x1 + (1 : Int32))) + x4).toNatClampNeg ((gI M_6 b_3 (((801 : Int32) * (x1 + (1 : Int32))) + x4).toNatClampNeg) + s0)) fun M_10 =>
    (fs_X7_gives_173 T R a0 x1 j81) v_7 x3 x4 M_10) else (
    (fs_X7_gives_173 T R a0 x1 j81) v_7 x3 x4 M_6)
def fs_X7_gives_81 (T : Ty) (R : Rm) (a0 : Nat) (x1 : Int32) (j81 : Int32 → Int32 → Int32 → Mm → Option (Unit × Mm)) (x2 : Int32) (x3 : Int32) (x4 : Int32) (M : Mm) : Option (Unit × Mm) :=
  chk (isK T a0 7) <|
  rfm (R a0 0) fun b_12 =>
  chk (isK T b_12 9) <|
  chk (inb (7 : Int32) (lnT T b_12)) <|
  if (gI M b_12 (7 : Int32).toNatClampNeg) < x4 then (
    some ((), M)) else (
    if x2 ≤ 0 then (
      some ((), M)) else (
      rfm (R a0 1) fun b_17 =>
      chk (isK T b_17 9) <|
      chk (inb (((801 : Int32) * x1) + x4) (lnT T b_17)) <|
      bnd (gI M b_17 (((801 : Int32) * x1) + x4).toNatClampNeg) fun v_20 =>
      if x2 ≤ v_20 then (
        (fs_X7_gives_124 T R a0 x1 j81) x2 x3 x4 x2 M) else (
        (fs_X7_gives_124 T R a0 x1 j81) x2 x3 x4 v_20 M)))
def fb_X7_gives_81 (T : Ty) (R : Rm) (a0 : Nat) (x1 : Int32) : Nat → Int32 → Int32 → Int32 → Mm → Option (Unit × Mm) :=
  lp (fun j81 => fs_X7_gives_81 T R a0 x1 j81) (fun _ _ _ _ => none)
def fs_X7_gives_78 (T : Ty) (R : Rm) (a0 : Nat) (x1 : Int32) (x2 : Int32) (x3 : Int32) (M : Mm) : Option (Unit × Mm) :=
  (fb_X7_gives_81 T R a0 x1 FU) x2 x3 (0 : Int32) M
def fs_X7_gives_63 (T : Ty) (R : Rm) (a0 : Nat) (x1 : Int32) (x2 : Int32) (x3 : Int32) (s0 : Nat) (s1 : Int32) (s2 : Int32) (s3 : Int32) (M : Mm) : Option (Unit × Mm) :=
  chk (isK T s0 9) <|
  chk (inb s1 (lnT T s0)) <|
  bnd (sI M s0 s1.toNatClampNeg (s2 + s3)) fun M_24 =>
  if x3 = 0 then (
    chk (isK T a0 7) <|
    cal (fn_X7_put T R a0 (x1 + (1 : Int32)) (5 : Int32) x2 M_24) fun _ M_28 =>
    (fs_X7_gives_78 T R a0 x1) x2 x3 M_28) else (
    (fs_X7_gives_78 T R a0 x1) x2 x3 M_24)
def fs_X7_gives_45 (T : Ty) (R : Rm) (a0 : Nat) (x1 : Int32) (x2 : Int32) (s0 : Int32) (M : Mm) : Option (Unit × Mm) :=
  chk (isK T a0 7) <|
  rfm (R a0 0) fun b_31 =>
  chk (isK T b_31 9) <|
  chk (inb (10 : Int32) (lnT T b_31)) <|
  if s0 = 0 then (
    (fs_X7_gives_63 T R a0 x1) x2 s0 b_31 (10 : Int32) (gI M b_31 (10 : Int32).toNatClampNeg) (0 : Int32) M) else (
    (fs_X7_gives_63 T R a0 x1) x2 s0 b_31 (10 : Int32) (gI M b_31 (10 : Int32).toNatClampNeg) x2 M)
def fn_X7_gives (T : Ty) (R : Rm) (a0 : Nat) (x1 : Int32) (M : Mm) : Option (Unit × Mm) :=
  chk (isK T a0 7) <|
  cal (fn_X7_iceOf T R a0 x1 M) fun r_36 M_37 =>
  cal (fn_X7_of T R a0 x1 (2 : Int32) M_37) fun r_39 M_40 =>
  bnd ((((r_36.toInt64) * (r_39.toInt64)) / (1000 : Int64)).toInt32) fun v_42 =>
  cal (fn_X7_put T R a0 x1 (4 : Int32) v_42 M_40) fun _ M_44 =>
  rfm (R a0 0) fun b_46 =>
  chk (isK T b_46 9) <|
  chk (inb (8 : Int32) (lnT T b_46)) <|
  if x1 = ((gI M_44 b_46 (8 : Int32).toNatClampNeg) - (1 : Int32)) then (
    (fs_X7_gives_45 T R a0 x1) v_42 (1 : Int32) M_44) else (
    (fs_X7_gives_45 T R a0 x1) v_42 (0 : Int32) M_44)
def fn_X7_stepFront (T : Ty) (R : Rm) (a0 : Nat) (M : Mm) : Option (Unit × Mm) :=
  chk (isK T a0 7) <|
  rfm (R a0 0) fun b_2 =>
  chk (isK T b_2 9) <|
  chk (inb (11 : Int32) (lnT T b_2)) <|
  if (gI M b_2 (11 : Int32).toNatClampNeg) ≤ 0 then (
    chk (inb (10 : Int32) (lnT T b_2)) <|
    chk (inb (5 : Int32) (lnT T b_2)) <|
    if (gI M b_2 (10 : Int32).toNatClampNeg) < (gI M b_2 (5 : Int32).toNatClampNeg) then (
      some ((), M)) else (
      chk (decide (¬ (gI M b_2 (5 : Int32).toNatClampNeg) = 0)) <|
      bnd ((gI M b_2 (10 : Int32).toNatClampNeg) / (gI M b_2 (5 : Int32).toNatClampNeg)) fun v_10 =>
      bnd (sI M b_2 (10 : Int32).toNatClampNeg ((gI M b_2 (10 : Int32).toNatClampNeg) - (v_10 * (gI M b_2 (5 : Int32).toNatClampNeg)))) fun M_11 =>
      chk (inb (12 : Int32) (lnT T b_2)) <|
      bnd (sI M_11 b_2 (12 : Int32).toNatClampNeg ((gI M_11 b_2 (12 : Int32).toNatClampNeg) + v_10)) fun M_13 =>
      rfm (R a0 2) fun b_14 =>
      chk (isK T b_14 10) <|
      chk (inb (3 : Int32) (lnT T b_14)) <|
      bnd (sJ M_13 b_14 (3 : Int32).toNatClampNeg ((gJ M_13 b_14 (3 : Int32).toNatClampNeg) + ((v_10 * (gI M_13 b_2 (5 : Int32).toNatClampNeg)).toInt64))) fun M_17 =>
      chk (inb (7 : Int32) (lnT T b_2)) <|
      chk (inb (13 : Int32) (lnT T b_2)) <|
      bnd (sI M_17 b_2 (13 : Int32).toNatClampNeg (gI M_17 b_2 (7 : Int32).toNatClampNeg)) fun M_20 =>
      chk (inb (6 : Int32) (lnT T b_2)) <|
      bnd (sI M_20 b_2 (11 : Int32).toNatClampNeg (gI M_20 b_2 (6 : Int32).toNatClampNeg)) fun M_22 =>
      some ((), M_22))) else (
    bnd (sI M b_2 (11 : Int32).toNatClampNeg ((gI M b_2 (11 : Int32).toNatClampNeg) - (1 : Int32))) fun M_23 =>
    some ((), M_23))
def fs_X7_moves_68 (T : Ty) (R : Rm) (a0 : Nat) (x1 : Int32) (x2 : Int32) (x3 : Int32) (M : Mm) : Option (Unit × Mm) :=
  chk (isK T a0 7) <|
  rfm (R a0 0) fun b_2 =>
  chk (isK T b_2 9) <|
  chk (inb (8 : Int32) (lnT T b_2)) <|
  if x2 = (gI M b_2 (8 : Int32).toNatClampNeg) then (
    cal (fn_X7_putStake T R a0 x1 (4 : Int32) (2 : Int32) M) fun _ M_13 =>
    some ((), M_13)) else (
    cal (fn_X7_putStake T R a0 x1 (0 : Int32) x2 M) fun _ M_7 =>
    cal (fn_X7_putStake T R a0 x1 (1 : Int32) x3 M_7) fun _ M_10 =>
    some ((), M_10))
def fs_X7_moves_32 (T : Ty) (R : Rm) (a0 : Nat) (x1 : Int32) (j32 : Int32 → Int32 → Mm → Option (Unit × Mm)) (j68 : Int32 → Int32 → Mm → Option (Unit × Mm)) (x2 : Int32) (x3 : Int32) (M : Mm) : Option (Unit × Mm) :=
  chk (isK T a0 7) <|
  rfm (R a0 0) fun b_16 =>
  chk (isK T b_16 9) <|
  chk (inb (8 : Int32) (lnT T b_16)) <|
  if (gI M b_16 (8 : Int32).toNatClampNeg) ≤ x2 then (
    j68 x2 x3 M) else (
    cal (fn_X7_of T R a0 x2 (1 : Int32) M) fun r_20 M_21 =>
    if x3 < r_20 then (
      j68 x2 x3 M_21) else (
      cal (fn_X7_of T R a0 x2 (1 : Int32) M_21) fun r_24 M_25 =>
      bnd (x3 - r_24) fun v_27 =>
      bnd (x2 + (1 : Int32)) fun v_28 =>
      j32 v_28 v_27 M_25))
def fb_X7_moves_32 (T : Ty) (R : Rm) (a0 : Nat) (x1 : Int32) (j68 : Int32 → Int32 → Mm → Option (Unit × Mm)) : Nat → Int32 → Int32 → Mm → Option (Unit × Mm) :=
  lp (fun j32 => fs_X7_moves_32 T R a0 x1 j32 j68) (fun _ _ _ => none)
def fn_X7_moves (T : Ty) (R : Rm) (a0 : Nat) (x1 : Int32) (M : Mm) : Option (Unit × Mm) :=
  chk (isK T a0 7) <|
  cal (fn_X7_ofStake T R a0 x1 (0 : Int32) M) fun r_30 M_31 =>
  cal (fn_X7_ofStake T R a0 x1 (1 : Int32) M_31) fun r_33 M_34 =>
  cal (fn_X7_of T R a0 r_30 (1 : Int32) M_34) fun r_36 M_37 =>
  cal (fn_X7_of T R a0 r_30 (2 : Int32) M_37) fun r_39 M_40 =>
  bnd (r_33 + ((r_36 * r_39) / (1000 : Int32))) fun v_42 =>
  (fb_X7_moves_32 T R a0 x1 (fs_X7_moves_68 T R a0 x1) FU) r_30 v_42 M_40
def fn_X7_stepStake (T : Ty) (R : Rm) (a0 : Nat) (x1 : Int32) (M : Mm) : Option (Unit × Mm) :=
  chk (isK T a0 7) <|
  cal (fn_X7_ofStake T R a0 x1 (0 : Int32) M) fun r_2 M_3 =>
  cal (fn_X7_ofStake T R a0 x1 (5 : Int32) M_3) fun r_5 M_6 =>
  cal (fn_X7_putStake T R a0 x1 (5 : Int32) (r_5 + (1 : Int32)) M_6) fun _ M_9 =>
  cal (fn_X7_ofStake T R a0 x1 (3 : Int32) M_9) fun r_11 M_12 =>
  cal (fn_X7_snowOf T R a0 r_2 M_12) fun r_14 M_15 =>
  cal (fn_X7_of T R a0 r_2 (3 : Int32) M_15) fun r_17 M_18 =>
  cal (fn_X7_putStake T R a0 x1 (3 : Int32) ((r_11 + r_14) - r_17) M_18) fun _ M_21 =>
  cal (fn_X7_ofStake T R a0 x1 (3 : Int32) M_21) fun r_23 M_24 =>
  cal (fn_X7_ofStake T R a0 x1 (2 : Int32) M_24) fun r_26 M_27 =>
  if (-r_26) ≤ r_23 then (
    cal (fn_X7_moves T R a0 x1 M_27) fun _ M_31 =>
    some ((), M_31)) else (
    cal (fn_X7_putStake T R a0 x1 (4 : Int32) (1 : Int32) M_27) fun _ M_34 =>
    some ((), M_34))
def fs_X7_year_98 (T : Ty) (R : Rm) (a0 : Nat) (j73 : Int32 → Mm → Option (Unit × Mm)) (x1 : Int32) (M : Mm) : Option (Unit × Mm) :=
  bnd (x1 + (1 : Int32)) fun v_1 =>
  j73 v_1 M
def fs_X7_year_73 (T : Ty) (R : Rm) (a0 : Nat) (j73 : Int32 → Mm → Option (Unit × Mm)) (x1 : Int32) (M : Mm) : Option (Unit × Mm) :=
  chk (isK T a0 7) <|
  rfm (R a0 0) fun b_3 =>
  chk (isK T b_3 9) <|
  chk (inb (9 : Int32) (lnT T b_3)) <|
  if (gI M b_3 (9 : Int32).toNatClampNeg) ≤ x1 then (
    some ((), M)) else (
    cal (fn_X7_ofStake T R a0 x1 (4 : Int32) M) fun r_7 M_8 =>
    if r_7 = 0 then (
      cal (fn_X7_stepStake T R a0 x1 M_8) fun _ M_12 =>
      (fs_X7_year_98 T R a0 j73) x1 M_12) else (
      (fs_X7_year_98 T R a0 j73) x1 M_8))
def fb_X7_year_73 (T : Ty) (R : Rm) (a0 : Nat) : Nat → Int32 → Mm → Option (Unit × Mm) :=
  lp (fun j73 => fs_X7_year_73 T R a0 j73) (fun _ _ => none)
def fs_X7_year_52 (T : Ty) (R : Rm) (a0 : Nat) (j52 : Int32 → Mm → Option (Unit × Mm)) (j73 : Int32 → Mm → Option (Unit × Mm)) (x1 : Int32) (M : Mm) : Option (Unit × Mm) :=
  if x1 < 0 then (
    chk (isK T a0 7) <|
    cal (fn_X7_stepFront T R a0 M) fun _ M_17 =>
    j73 (0 : Int32) M_17) else (
    chk (isK T a0 7) <|
    cal (fn_X7_gives T R a0 x1 M) fun _ M_21 =>
    bnd (x1 + (-1 : Int32)) fun v_23 =>
    j52 v_23 M_21)
def fb_X7_year_52 (T : Ty) (R : Rm) (a0 : Nat) (j73 : Int32 → Mm → Option (Unit × Mm)) : Nat → Int32 → Mm → Option (Unit × Mm) :=
  lp (fun j52 => fs_X7_year_52 T R a0 j52 j73) (fun _ _ => none)
def fs_X7_year_13 (T : Ty) (R : Rm) (a0 : Nat) (j13 : Int32 → Mm → Option (Unit × Mm)) (j52 : Int32 → Mm → Option (Unit × Mm)) (x1 : Int32) (M : Mm) : Option (Unit × Mm) :=
  chk (isK T a0 7) <|
  rfm (R a0 0) fun b_25 =>
  chk (isK T b_25 9) <|
  chk (inb (8 : Int32) (lnT T b_25)) <|
  if (gI M b_25 (8 : Int32).toNatClampNeg) ≤ x1 then (
    bnd ((gI M b_25 (8 : Int32).toNatClampNeg) - (1 : Int32)) fun v_29 =>
    j52 v_29 M) else (
    cal (fn_X7_weather T R a0 x1 M) fun _ M_31 =>
    cal (fn_X7_put T R a0 x1 (5 : Int32) (0 : Int32) M_31) fun _ M_34 =>
    bnd (x1 + (1 : Int32)) fun v_36 =>
    j13 v_36 M_34)
def fb_X7_year_13 (T : Ty) (R : Rm) (a0 : Nat) (j52 : Int32 → Mm → Option (Unit × Mm)) : Nat → Int32 → Mm → Option (Unit × Mm) :=
  lp (fun j13 => fs_X7_year_13 T R a0 j13 j52) (fun _ _ => none)
def fn_X7_year (T : Ty) (R : Rm) (a0 : Nat) (M : Mm) : Option (Unit × Mm) :=
  chk (isK T a0 7) <|
  rfm (R a0 0) fun b_38 =>
  chk (isK T b_38 9) <|
  chk (inb (7 : Int32) (lnT T b_38)) <|
  bnd (sI M b_38 (7 : Int32).toNatClampNeg ((gI M b_38 (7 : Int32).toNatClampNeg) + (1 : Int32))) fun M_41 =>
  (fb_X7_year_13 T R a0 (fb_X7_year_52 T R a0 (fb_X7_year_73 T R a0 FU) FU) FU) (0 : Int32) M_41
def fs_X7_goOn_2 (T : Ty) (R : Rm) (a0 : Nat) (x1 : Int32) (j2 : Int32 → Mm → Option (Unit × Mm)) (x2 : Int32) (M : Mm) : Option (Unit × Mm) :=
  if x1 ≤ x2 then (
    some ((), M)) else (
    chk (isK T a0 7) <|
    cal (fn_X7_year T R a0 M) fun _ M_4 =>
    bnd (x2 + (1 : Int32)) fun v_6 =>
    j2 v_6 M_4)
def fb_X7_goOn_2 (T : Ty) (R : Rm) (a0 : Nat) (x1 : Int32) : Nat → Int32 → Mm → Option (Unit × Mm) :=
  lp (fun j2 => fs_X7_goOn_2 T R a0 x1 j2) (fun _ _ => none)
def fn_X7_goOn (T : Ty) (R : Rm) (a0 : Nat) (x1 : Int32) (M : Mm) : Option (Unit × Mm) :=
  (fb_X7_goOn_2 T R a0 x1 FU) (0 : Int32) M
def fn_X7_years (T : Ty) (R : Rm) (a0 : Nat) (x1 : Int32) (M : Mm) : Option (Int32 × Mm) :=
  cal (fn_X7_in T R x1 (1 : Int32) (100 : Int32) M) fun r_1 M_2 =>
  if r_1 = 0 then (
    some ((-2000000001 : Int32), M_2)) else (
    chk (isK T a0 7) <|
    rfm (R a0 0) fun b_6 =>
    chk (isK T b_6 9) <|
    chk (inb (8 : Int32) (lnT T b_6)) <|
    if (gI M_2 b_6 (8 : Int32).toNatClampNeg) = 0 then (
      some ((-2000000002 : Int32), M_2)) else (
      chk (inb (7 : Int32) (lnT T b_6)) <|
      if ((gI M_2 b_6 (7 : Int32).toNatClampNeg) + x1) ≤ (500 : Int32) then (
        cal (fn_X7_keep T R a0 M_2) fun _ M_13 =>
        chk (inb (12 : Int32) (lnT T b_6)) <|
        bnd (gI M_13 b_6 (12 : Int32).toNatClampNeg) fun v_16 =>
        cal (fn_X7_goOn T R a0 x1 M_13) fun _ M_18 =>
        some (((gI M_18 b_6 (12 : Int32).toNatClampNeg) - v_16), M_18)) else (
        some ((-2000000003 : Int32), M_2))))
def fs_X7_oldest_2 (T : Ty) (R : Rm) (a0 : Nat) (j2 : Int32 → Mm → Option (Int32 × Mm)) (x1 : Int32) (M : Mm) : Option (Int32 × Mm) :=
  chk (isK T a0 7) <|
  rfm (R a0 0) fun b_2 =>
  chk (isK T b_2 9) <|
  chk (inb (7 : Int32) (lnT T b_2)) <|
  if (gI M b_2 (7 : Int32).toNatClampNeg) < x1 then (
    some ((-2000000004 : Int32), M)) else (
    cal (fn_X7_leftOf T R a0 x1 M) fun r_6 M_7 =>
    if r_6 ≤ 0 then (
      bnd (x1 + (1 : Int32)) fun v_10 =>
      j2 v_10 M_7) else (
      some (x1, M_7)))
def fb_X7_oldest_2 (T : Ty) (R : Rm) (a0 : Nat) : Nat → Int32 → Mm → Option (Int32 × Mm) :=
  lp (fun j2 => fs_X7_oldest_2 T R a0 j2) (fun _ _ => none)
def fn_X7_oldest (T : Ty) (R : Rm) (a0 : Nat) (M : Mm) : Option (Int32 × Mm) :=
  (fb_X7_oldest_2 T R a0 FU) (0 : Int32) M
def fn_X7_brought (T : Ty) (R : Rm) (a0 : Nat) (x1 : Int32) (M : Mm) : Option (Int32 × Mm) :=
  if x1 = 0 then (
    chk (isK T a0 7) <|
    rfm (R a0 0) fun b_3 =>
    chk (isK T b_3 9) <|
    chk (inb (10 : Int32) (lnT T b_3)) <|
    cal (fn_X7_allOfBands T R a0 M) fun r_6 M_7 =>
    some (((gI M b_3 (10 : Int32).toNatClampNeg) + r_6), M_7)) else (
  if x1 = 1 then (
    chk (isK T a0 7) <|
    rfm (R a0 0) fun b_11 =>
    chk (isK T b_11 9) <|
    chk (inb (12 : Int32) (lnT T b_11)) <|
    rfm (R a0 3) fun b_14 =>
    chk (isK T b_14 9) <|
    chk (inb (12 : Int32) (lnT T b_14)) <|
    some (((gI M b_11 (12 : Int32).toNatClampNeg) - (gI M b_14 (12 : Int32).toNatClampNeg)), M)) else (
  if x1 = 2 then (
    chk (isK T a0 7) <|
    rfm (R a0 2) fun b_19 =>
    chk (isK T b_19 10) <|
    chk (inb (2 : Int32) (lnT T b_19)) <|
    rfm (R a0 5) fun b_22 =>
    chk (isK T b_22 10) <|
    chk (inb (2 : Int32) (lnT T b_22)) <|
    some ((((gJ M b_19 (2 : Int32).toNatClampNeg) - (gJ M b_22 (2 : Int32).toNatClampNeg)).toInt32), M)) else (
  if x1 = 3 then (
    chk (isK T a0 7) <|
    cal (fn_X7_standing T R a0 M) fun r_27 M_28 =>
    some (r_27, M_28)) else (
    chk (isK T a0 7) <|
    cal (fn_X7_oldest T R a0 M) fun r_31 M_32 =>
    some (r_31, M_32)))))
def fn_X7_ifYears (T : Ty) (R : Rm) (a0 : Nat) (x1 : Int32) (x2 : Int32) (M : Mm) : Option (Int32 × Mm) :=
  cal (fn_X7_in T R x1 (1 : Int32) (100 : Int32) M) fun r_1 M_2 =>
  if r_1 = 0 then (
    some ((-2000000001 : Int32), M_2)) else (
    cal (fn_X7_in T R x2 (0 : Int32) (4 : Int32) M_2) fun r_5 M_6 =>
    if r_5 = 0 then (
      some ((-2000000001 : Int32), M_6)) else (
      chk (isK T a0 7) <|
      rfm (R a0 0) fun b_10 =>
      chk (isK T b_10 9) <|
      chk (inb (8 : Int32) (lnT T b_10)) <|
      if (gI M_6 b_10 (8 : Int32).toNatClampNeg) = 0 then (
        some ((-2000000002 : Int32), M_6)) else (
        cal (fn_X7_setAside T R a0 M_6) fun _ M_15 =>
        cal (fn_X7_goOn T R a0 x1 M_15) fun _ M_18 =>
        cal (fn_X7_brought T R a0 x2 M_18) fun r_20 M_21 =>
        cal (fn_X7_bringBack T R a0 M_21) fun _ M_24 =>
        some (r_20, M_24))))
def fn_X7_isSo (T : Ty) (R : Rm) (a0 : Nat) (x1 : Int32) (x2 : Int32) (M : Mm) : Option (Int32 × Mm) :=
  if x1 = 0 then (
    chk (isK T a0 7) <|
    rfm (R a0 0) fun b_14 =>
    chk (isK T b_14 9) <|
    chk (inb (12 : Int32) (lnT T b_14)) <|
    if (gI M b_14 (12 : Int32).toNatClampNeg) ≤ x2 then (
      some ((0 : Int32), M)) else (
      some ((1 : Int32), M))) else (
    if x1 = (1 : Int32) then (
      chk (isK T a0 7) <|
      cal (fn_X7_allOfBands T R a0 M) fun r_9 M_10 =>
      if r_9 = 0 then (
        some ((1 : Int32), M_10)) else (
        some ((0 : Int32), M_10))) else (
      chk (isK T a0 7) <|
      cal (fn_X7_standing T R a0 M) fun r_4 M_5 =>
      if r_4 = 0 then (
        some ((1 : Int32), M_5)) else (
        some ((0 : Int32), M_5))))
def fs_X7_yearsTo_83 (T : Ty) (R : Rm) (a0 : Nat) (x1 : Int32) (x2 : Int32) (M : Mm) : Option (Int32 × Mm) :=
  chk (isK T a0 7) <|
  cal (fn_X7_bringBack T R a0 M) fun _ M_3 =>
  some (x2, M_3)
def fs_X7_yearsTo_76 (T : Ty) (R : Rm) (a0 : Nat) (x1 : Int32) (j34 : Int32 → Int32 → Mm → Option (Int32 × Mm)) (x3 : Int32) (s0 : Int32) (M : Mm) : Option (Int32 × Mm) :=
  bnd (x3 + (1 : Int32)) fun v_5 =>
  j34 s0 v_5 M
def fs_X7_yearsTo_34 (T : Ty) (R : Rm) (a0 : Nat) (x1 : Int32) (j34 : Int32 → Int32 → Mm → Option (Int32 × Mm)) (j83 : Int32 → Mm → Option (Int32 × Mm)) (x2 : Int32) (x3 : Int32) (M : Mm) : Option (Int32 × Mm) :=
  if (300 : Int32) < x3 then (
    j83 x2 M) else (
    if x2 = (-2000000004 : Int32) then (
      chk (isK T a0 7) <|
      rfm (R a0 0) fun b_9 =>
      chk (isK T b_9 9) <|
      chk (inb (12 : Int32) (lnT T b_9)) <|
      bnd (gI M b_9 (12 : Int32).toNatClampNeg) fun v_12 =>
      cal (fn_X7_year T R a0 M) fun _ M_14 =>
      cal (fn_X7_isSo T R a0 x1 v_12 M_14) fun r_16 M_17 =>
      if r_16 = 0 then (
        (fs_X7_yearsTo_76 T R a0 x1 j34) x3 (-2000000004 : Int32) M_17) else (
        (fs_X7_yearsTo_76 T R a0 x1 j34) x3 x3 M_17)) else (
      j83 x2 M))
def fb_X7_yearsTo_34 (T : Ty) (R : Rm) (a0 : Nat) (x1 : Int32) (j83 : Int32 → Mm → Option (Int32 × Mm)) : Nat → Int32 → Int32 → Mm → Option (Int32 × Mm) :=
  lp (fun j34 => fs_X7_yearsTo_34 T R a0 x1 j34 j83) (fun _ _ _ => none)
def fn_X7_yearsTo (T : Ty) (R : Rm) (a0 : Nat) (x1 : Int32) (M : Mm) : Option (Int32 × Mm) :=
  cal (fn_X7_in T R x1 (0 : Int32) (2 : Int32) M) fun r_20 M_21 =>
  if r_20 = 0 then (
    some ((-2000000001 : Int32), M_21)) else (
    chk (isK T a0 7) <|
    rfm (R a0 0) fun b_25 =>
    chk (isK T b_25 9) <|
    chk (inb (8 : Int32) (lnT T b_25)) <|
    if (gI M_21 b_25 (8 : Int32).toNatClampNeg) = 0 then (
      some ((-2000000002 : Int32), M_21)) else (
      cal (fn_X7_setAside T R a0 M_21) fun _ M_30 =>
      (fb_X7_yearsTo_34 T R a0 x1 (fs_X7_yearsTo_83 T R a0 x1) FU) (-2000000004 : Int32) (1 : Int32) M_30))
def fs_X7_isSteady_4 (T : Ty) (R : Rm) (a0 : Nat) (j4 : Int64 → Int32 → Mm → Option (Int32 × Mm)) (l1 : Int64) (x3 : Int32) (M : Mm) : Option (Int32 × Mm) :=
  chk (isK T a0 7) <|
  rfm (R a0 0) fun b_2 =>
  chk (isK T b_2 9) <|
  chk (inb (8 : Int32) (lnT T b_2)) <|
  if (gI M b_2 (8 : Int32).toNatClampNeg) ≤ x3 then (
    if (lg_cmp l1 (0 : Int64)) < 0 then (
      some ((0 : Int32), M)) else (
      some ((1 : Int32), M))) else (
    cal (fn_X7_snowOf T R a0 x3 M) fun r_7 M_8 =>
    cal (fn_X7_meltOf T R a0 x3 M_8) fun r_10 M_11 =>
    bnd (l1 + ((r_7 - r_10).toInt64)) fun v_13 =>
    bnd (x3 + (1 : Int32)) fun v_14 =>
    j4 v_13 v_14 M_11)
def fb_X7_isSteady_4 (T : Ty) (R : Rm) (a0 : Nat) : Nat → Int64 → Int32 → Mm → Option (Int32 × Mm) :=
  lp (fun j4 => fs_X7_isSteady_4 T R a0 j4) (fun _ _ _ => none)
def fn_X7_isSteady (T : Ty) (R : Rm) (a0 : Nat) (M : Mm) : Option (Int32 × Mm) :=
  (fb_X7_isSteady_4 T R a0 FU) (0 : Int64) (0 : Int32) M
def fs_X7_steadyMelt_58 (T : Ty) (R : Rm) (a0 : Nat) (x1 : Int32) (M : Mm) : Option (Int32 × Mm) :=
  chk (isK T a0 7) <|
  rfm (R a0 0) fun b_2 =>
  chk (isK T b_2 9) <|
  chk (inb (2 : Int32) (lnT T b_2)) <|
  bnd (gI M b_2 (2 : Int32).toNatClampNeg) fun v_5 =>
  bnd (sI M b_2 (2 : Int32).toNatClampNeg x1) fun M_6 =>
  if 0 ≤ v_5 then (
    some (v_5, M_6)) else (
    some ((-2000000004 : Int32), M_6))
def fs_X7_steadyMelt_29 (T : Ty) (R : Rm) (a0 : Nat) (j29 : Int32 → Mm → Option (Int32 × Mm)) (j58 : Int32 → Mm → Option (Int32 × Mm)) (x1 : Int32) (M : Mm) : Option (Int32 × Mm) :=
  chk (isK T a0 7) <|
  rfm (R a0 0) fun b_9 =>
  chk (isK T b_9 9) <|
  chk (inb (2 : Int32) (lnT T b_9)) <|
  if (gI M b_9 (2 : Int32).toNatClampNeg) < 0 then (
    j58 x1 M) else (
    cal (fn_X7_isSteady T R a0 M) fun r_13 M_14 =>
    if r_13 = 0 then (
      bnd (sI M_14 b_9 (2 : Int32).toNatClampNeg ((gI M_14 b_9 (2 : Int32).toNatClampNeg) - (1 : Int32))) fun M_17 =>
      j29 x1 M_17) else (
      j58 x1 M_14))
def fb_X7_steadyMelt_29 (T : Ty) (R : Rm) (a0 : Nat) (j58 : Int32 → Mm → Option (Int32 × Mm)) : Nat → Int32 → Mm → Option (Int32 × Mm) :=
  lp (fun j29 => fs_X7_steadyMelt_29 T R a0 j29 j58) (fun _ _ => none)
def fn_X7_steadyMelt (T : Ty) (R : Rm) (a0 : Nat) (M : Mm) : Option (Int32 × Mm) :=
  chk (isK T a0 7) <|
  rfm (R a0 0) fun b_19 =>
  chk (isK T b_19 9) <|
  chk (inb (8 : Int32) (lnT T b_19)) <|
  if (gI M b_19 (8 : Int32).toNatClampNeg) = 0 then (
    some ((-2000000002 : Int32), M)) else (
    chk (inb (2 : Int32) (lnT T b_19)) <|
    bnd (gI M b_19 (2 : Int32).toNatClampNeg) fun v_24 =>
    bnd (sI M b_19 (2 : Int32).toNatClampNeg (9000 : Int32)) fun M_25 =>
    (fb_X7_steadyMelt_29 T R a0 (fs_X7_steadyMelt_58 T R a0) FU) v_24 M_25)
def fn_X7_type (T : Ty) (R : Rm) (a0 : Nat) (x1 : Int32) (M : Mm) : Option (Int32 × Mm) :=
  cal (fn_X7_in T R x1 (32 : Int32) (126 : Int32) M) fun r_1 M_2 =>
  if r_1 = 0 then (
    some ((-2000000001 : Int32), M_2)) else (
    chk (isK T a0 7) <|
    if (gI M_2 a0 12) = (60 : Int32) then (
      some ((-2000000003 : Int32), M_2)) else (
      rfm (R a0 11) fun b_7 =>
      chk (isK T b_7 9) <|
      chk (inb (gI M_2 a0 12) (lnT T b_7)) <|
      bnd (sI M_2 b_7 (gI M_2 a0 12).toNatClampNeg x1) fun M_10 =>
      bnd (sI M_10 a0 12 ((gI M_10 a0 12) + (1 : Int32))) fun M_11 =>
      some ((gI M_11 a0 12), M_11)))
def fn_X7_clearText (T : Ty) (R : Rm) (a0 : Nat) (M : Mm) : Option (Int32 × Mm) :=
  chk (isK T a0 7) <|
  bnd (gI M a0 12) fun v_2 =>
  bnd (sI M a0 12 (0 : Int32)) fun M_3 =>
  some (v_2, M_3)
def fn_X7_here (T : Ty) (R : Rm) (a0 : Nat) (M : Mm) : Option (Int32 × Mm) :=
  chk (isK T a0 7) <|
  if (gI M a0 12) ≤ (gI M a0 13) then (
    some ((-1 : Int32), M)) else (
    rfm (R a0 11) fun b_3 =>
    chk (isK T b_3 9) <|
    chk (inb (gI M a0 13) (lnT T b_3)) <|
    some ((gI M b_3 (gI M a0 13).toNatClampNeg), M))
def fs_X7_readNumber_87 (T : Ty) (R : Rm) (a0 : Nat) (x1 : Int32)  (s0 : Int32) (M : Mm) : Option (Int32 × Mm) :=
  chk (isK T a0 7) <|
  bnd (sI M a0 13 ((gI M a0 13) + (1 : Int32))) fun M_2 =>
  chk (isZ s0) <|
  some (s0, M_2)
def fs_X7_readNumber_86 (T : Ty) (R : Rm) (a0 : Nat) (x1 : Int32)  (M : Mm) : Option (Int32 × Mm) :=
  (fs_X7_readNumber_87 T R a0 x1) (0 : Int32) M
def fs_X7_readNumber_66 (T : Ty) (R : Rm) (a0 : Nat) (x1 : Int32) (x2 : Int32) (M : Mm) : Option (Int32 × Mm) :=
  chk (isK T a0 7) <|
  if (gI M a0 13) ≤ x2 then (
    (fs_X7_readNumber_86 T R a0 x1) M) else (
    cal (fn_X7_here T R a0 M) fun r_6 M_7 =>
    if r_6 = x1 then (
      (fs_X7_readNumber_87 T R a0 x1) (1 : Int32) M_7) else (
      (fs_X7_readNumber_86 T R a0 x1) M_7))
def fs_X7_readNumber_10 (T : Ty) (R : Rm) (a0 : Nat) (x1 : Int32) (j10 : Int32 → Mm → Option (Int32 × Mm)) (j66 : Int32 → Mm → Option (Int32 × Mm)) (x2 : Int32) (M : Mm) : Option (Int32 × Mm) :=
  chk (isK T a0 7) <|
  if (x2 + (4 : Int32)) ≤ (gI M a0 13) then (
    j66 x2 M) else (
    cal (fn_X7_here T R a0 M) fun r_12 M_13 =>
    cal (fn_X7_in T R r_12 (48 : Int32) (57 : Int32) M_13) fun r_15 M_16 =>
    if r_15 = 0 then (
      j66 x2 M_16) else (
      cal (fn_X7_here T R a0 M_16) fun r_19 M_20 =>
      bnd (sI M_20 a0 15 ((((10 : Int32) * (gI M_16 a0 15)) + r_19) - (48 : Int32))) fun M_22 =>
      bnd (sI M_22 a0 13 ((gI M_22 a0 13) + (1 : Int32))) fun M_23 =>
      j10 x2 M_23))
def fb_X7_readNumber_10 (T : Ty) (R : Rm) (a0 : Nat) (x1 : Int32) (j66 : Int32 → Mm → Option (Int32 × Mm)) : Nat → Int32 → Mm → Option (Int32 × Mm) :=
  lp (fun j10 => fs_X7_readNumber_10 T R a0 x1 j10 j66) (fun _ _ => none)
def fn_X7_readNumber (T : Ty) (R : Rm) (a0 : Nat) (x1 : Int32) (M : Mm) : Option (Int32 × Mm) :=
  chk (isK T a0 7) <|
  bnd (gI M a0 13) fun v_25 =>
  bnd (sI M a0 15 (0 : Int32)) fun M_26 =>
  (fb_X7_readNumber_10 T R a0 x1 (fs_X7_readNumber_66 T R a0 x1) FU) v_25 M_26
def fn_X7_readYear (T : Ty) (R : Rm) (a0 : Nat) (M : Mm) : Option (Int32 × Mm) :=
  chk (isK T a0 7) <|
  cal (fn_X7_readNumber T R a0 (44 : Int32) M) fun r_2 M_3 =>
  if r_2 = 0 then (
    some ((0 : Int32), M_3)) else (
    bnd (sI M_3 a0 16 (gI M_3 a0 15)) fun M_6 =>
    cal (fn_X7_readNumber T R a0 (59 : Int32) M_6) fun r_7 M_8 =>
    chk (isZ r_7) <|
    some (r_7, M_8))
def fs_X7_reason_13 (T : Ty) (R : Rm) (a0 : Nat) (j13 : Int32 → Mm → Option (Int32 × Mm)) (x1 : Int32) (M : Mm) : Option (Int32 × Mm) :=
  chk (isK T a0 7) <|
  if (gI M a0 12) ≤ (gI M a0 13) then (
    some ((0 : Int32), M)) else (
    bnd (sI M a0 14 (gI M a0 13)) fun M_3 =>
    cal (fn_X7_readYear T R a0 M_3) fun r_4 M_5 =>
    if r_4 = 0 then (
      some ((1 : Int32), M_5)) else (
      if (5000 : Int32) < (gI M_5 a0 16) then (
        some ((2 : Int32), M_5)) else (
        if (gI M_5 a0 15) ≤ (9000 : Int32) then (
          if x1 = (500 : Int32) then (
            some ((3 : Int32), M_5)) else (
            bnd (x1 + (1 : Int32)) fun v_11 =>
            j13 v_11 M_5)) else (
          some ((2 : Int32), M_5)))))
def fb_X7_reason_13 (T : Ty) (R : Rm) (a0 : Nat) : Nat → Int32 → Mm → Option (Int32 × Mm) :=
  lp (fun j13 => fs_X7_reason_13 T R a0 j13) (fun _ _ => none)
def fn_X7_reason (T : Ty) (R : Rm) (a0 : Nat) (M : Mm) : Option (Int32 × Mm) :=
  chk (isK T a0 7) <|
  bnd (sI M a0 13 (0 : Int32)) fun M_13 =>
  rfm (R a0 0) fun b_14 =>
  chk (isK T b_14 9) <|
  chk (inb (7 : Int32) (lnT T b_14)) <|
  bnd (gI M_13 b_14 (7 : Int32).toNatClampNeg) fun v_17 =>
  (fb_X7_reason_13 T R a0 FU) v_17 M_13
def fn_X7_fault (T : Ty) (R : Rm) (a0 : Nat) (x1 : Int32) (M : Mm) : Option (Int32 × Mm) :=
  cal (fn_X7_in T R x1 (0 : Int32) (1 : Int32) M) fun r_1 M_2 =>
  if r_1 = 0 then (
    some ((-2000000001 : Int32), M_2)) else (
    chk (isK T a0 7) <|
    cal (fn_X7_reason T R a0 M_2) fun r_6 M_7 =>
    if r_6 = 0 then (
      some ((-2000000004 : Int32), M_7)) else (
      if x1 = 0 then (
        some ((gI M_7 a0 14), M_7)) else (
        some (r_6, M_7))))
def fs_X7_live_31 (T : Ty) (R : Rm) (a0 : Nat) (j31 : Int32 → Mm → Option (Int32 × Mm)) (x1 : Int32) (M : Mm) : Option (Int32 × Mm) :=
  chk (isK T a0 7) <|
  if (gI M a0 12) ≤ (gI M a0 13) then (
    some (x1, M)) else (
    cal (fn_X7_readYear T R a0 M) fun r_3 M_4 =>
    if r_3 = 0 then (
      some (x1, M_4)) else (
      rfm (R a0 0) fun b_7 =>
      chk (isK T b_7 9) <|
      chk (inb (0 : Int32) (lnT T b_7)) <|
      bnd (sI M_4 b_7 (0 : Int32).toNatClampNeg (gI M_4 a0 16)) fun M_10 =>
      chk (inb (2 : Int32) (lnT T b_7)) <|
      bnd (sI M_10 b_7 (2 : Int32).toNatClampNeg (gI M_10 a0 15)) fun M_12 =>
      cal (fn_X7_year T R a0 M_12) fun _ M_14 =>
      bnd (x1 + (1 : Int32)) fun v_16 =>
      j31 v_16 M_14))
def fb_X7_live_31 (T : Ty) (R : Rm) (a0 : Nat) : Nat → Int32 → Mm → Option (Int32 × Mm) :=
  lp (fun j31 => fs_X7_live_31 T R a0 j31) (fun _ _ => none)
def fn_X7_live (T : Ty) (R : Rm) (a0 : Nat) (M : Mm) : Option (Int32 × Mm) :=
  chk (isK T a0 7) <|
  cal (fn_X7_reason T R a0 M) fun r_18 M_19 =>
  if r_18 = 0 then (
    rfm (R a0 0) fun b_22 =>
    chk (isK T b_22 9) <|
    chk (inb (8 : Int32) (lnT T b_22)) <|
    if (gI M_19 b_22 (8 : Int32).toNatClampNeg) = 0 then (
      some ((-2000000002 : Int32), M_19)) else (
      cal (fn_X7_keep T R a0 M_19) fun _ M_27 =>
      bnd (sI M_27 a0 13 (0 : Int32)) fun M_29 =>
      (fb_X7_live_31 T R a0 FU) (0 : Int32) M_29)) else (
    some ((-2000000002 : Int32), M_19))
