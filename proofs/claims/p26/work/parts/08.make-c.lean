def fnN_X1_init (E0 : Ee) (i0 : Nat) : Option Ee :=
  chk (eK E0 i0 1) <|
  bnd (eSI E0 i0 0 (0 : Int32)) fun E_2 =>
  chk (eK E_2 i0 1) <|
  bnd (eSI E_2 i0 1 (0 : Int32)) fun E_4 =>
  chk (eK E_4 i0 1) <|
  bnd (eSI E_4 i0 2 (0 : Int32)) fun E_6 =>
  chk (eK E_6 i0 1) <|
  bnd (eSI E_6 i0 3 (0 : Int32)) fun E_8 =>
  some E_8
def fnN_X3_init (E0 : Ee) (i0 : Nat) : Option Ee :=
  chk (eK E0 i0 3) <|
  bnd (eSI E0 i0 0 (0 : Int32)) fun E_2 =>
  chk (eK E_2 i0 3) <|
  bnd (eSI E_2 i0 1 (0 : Int32)) fun E_4 =>
  chk (eK E_4 i0 3) <|
  bnd (eSI E_4 i0 2 (0 : Int32)) fun E_6 =>
  chk (eK E_6 i0 3) <|
  bnd (eSI E_6 i0 3 (0 : Int32)) fun E_8 =>
  chk (eK E_8 i0 3) <|
  bnd (eSI E_8 i0 4 (0 : Int32)) fun E_10 =>
  chk (eK E_10 i0 3) <|
  bnd (eSI E_10 i0 5 (0 : Int32)) fun E_12 =>
  some E_12
def fnN_X2_init (E0 : Ee) (i0 : Nat) : Option Ee :=
  chk (decide (eN E0 + 1 ≤ (eN E0 + 1) ∧ eL E0 + 801 ≤ (eL E0 + 801))) <|
  bnd (eNew E0 9 801 801 (fun _ => 0)) fun E_2 =>
  chk (eK E_2 i0 2) <|
  bnd (eSP E_2 i0 0 (eN E0)) fun E_6 =>
  chk (eK E_6 i0 2) <|
  bnd (eSI E_6 i0 1 (0 : Int32)) fun E_8 =>
  chk (eK E_8 i0 2) <|
  bnd (eSI E_8 i0 2 (801 : Int32)) fun E_10 =>
  chk (eK E_10 i0 2) <|
  bnd (eSI E_10 i0 3 (-1 : Int32)) fun E_12 =>
  some E_12
def fnN_X0_init (E0 : Ee) (i0 : Nat) : Option Ee :=
  chk (decide (eN E0 + 1 ≤ (eN E0 + 2) ∧ eL E0 + 4 ≤ (eL E0 + 805))) <|
  bnd (eNew E0 2 0 4 (fun _ => 0)) fun E_2 =>
  calN (fnN_X2_init E_2 (eN E0)) fun E_5 =>
  chk (decide (eN E_5 = eN E_2 + 1 ∧ eL E_5 = eL E_2 + 801 ∧ eN E_5 ≤ (eN E0 + 2) ∧ eL E_5 ≤ (eL E0 + 805))) <|
  chk (eK E_5 i0 0) <|
  bnd (eSP E_5 i0 0 (eN E0)) fun E_10 =>
  chk (eK E_10 i0 0) <|
  bnd (eSI E_10 i0 1 (0 : Int32)) fun E_12 =>
  chk (eK E_12 i0 0) <|
  bnd (eSI E_12 i0 2 (0 : Int32)) fun E_14 =>
  chk (eK E_14 i0 0) <|
  bnd (eSI E_14 i0 3 (0 : Int32)) fun E_16 =>
  chk (eK E_16 i0 0) <|
  bnd (eSI E_16 i0 4 (0 : Int32)) fun E_18 =>
  chk (eK E_18 i0 0) <|
  bnd (eSI E_18 i0 5 (0 : Int32)) fun E_20 =>
  chk (eK E_20 i0 0) <|
  bnd (eSI E_20 i0 6 (0 : Int32)) fun E_22 =>
  some E_22
def fsN_X5_init_113 (nm sm i0 : Nat) (j113 : Int32 → Ee → Option Ee) (x1 : Int32) (E : Ee) : Option Ee :=
  chk (eK E i0 5) <|
  rfm (eP E i0 2) fun b_2 =>
  chk (eK E b_2 12) <|
  if (Int32.ofNat (eLn E b_2)) ≤ x1 then (
    some E) else (
    rfm (eP E i0 2) fun b_6 =>
    chk (decide (eN E + 1 ≤ nm ∧ eL E + 6 ≤ sm)) <|
    bnd (eNew E 3 0 6 (fun _ => 0)) fun E_9 =>
    calN (fnN_X3_init E_9 (eN E)) fun E_12 =>
    chk (decide (eN E_12 = eN E_9 + 0 ∧ eL E_12 = eL E_9 + 0 ∧ eN E_12 ≤ nm ∧ eL E_12 ≤ sm)) <|
    chk (eK E_12 b_6 12) <|
    chk (inb x1 (eLn E_12 b_6)) <|
    chk (eK E_12 (eN E) 3) <|
    bnd (eSP E_12 b_6 x1.toNatClampNeg (eN E)) fun E_19 =>
    bnd (x1 + (1 : Int32)) fun v_20 =>
    j113 v_20 E_19)
def fbN_X5_init_113 (nm sm i0 : Nat) : Nat → Int32 → Ee → Option Ee :=
  lp (fun j113 => fsN_X5_init_113 nm sm i0 j113) (fun _ _ => none)
def fsN_X5_init_83 (nm sm i0 : Nat) (j83 : Int32 → Ee → Option Ee) (j113 : Int32 → Ee → Option Ee) (x1 : Int32) (E : Ee) : Option Ee :=
  chk (eK E i0 5) <|
  rfm (eP E i0 1) fun b_22 =>
  chk (eK E b_22 11) <|
  if (Int32.ofNat (eLn E b_22)) ≤ x1 then (
    j113 (0 : Int32) E) else (
    rfm (eP E i0 1) fun b_26 =>
    chk (decide (eN E + 1 ≤ nm ∧ eL E + 7 ≤ sm)) <|
    bnd (eNew E 0 0 7 (fun _ => 0)) fun E_29 =>
    calN (fnN_X0_init E_29 (eN E)) fun E_32 =>
    chk (decide (eN E_32 = eN E_29 + 2 ∧ eL E_32 = eL E_29 + 805 ∧ eN E_32 ≤ nm ∧ eL E_32 ≤ sm)) <|
    chk (eK E_32 b_26 11) <|
    chk (inb x1 (eLn E_32 b_26)) <|
    chk (eK E_32 (eN E) 0) <|
    bnd (eSP E_32 b_26 x1.toNatClampNeg (eN E)) fun E_39 =>
    bnd (x1 + (1 : Int32)) fun v_40 =>
    j83 v_40 E_39)
def fbN_X5_init_83 (nm sm i0 : Nat) (j113 : Int32 → Ee → Option Ee) : Nat → Int32 → Ee → Option Ee :=
  lp (fun j83 => fsN_X5_init_83 nm sm i0 j83 j113) (fun _ _ => none)
def fnN_X5_init (E0 : Ee) (i0 : Nat) : Option Ee :=
  chk (decide (eN E0 + 1 ≤ (eN E0 + 40) ∧ eL E0 + 7 ≤ (eL E0 + 8183))) <|
  bnd (eNew E0 9 7 7 fFirst) fun E_43 =>
  chk (eK E_43 (eN E0) 9) <|
  chk (eK E_43 i0 5) <|
  bnd (eSP E_43 i0 0 (eN E0)) fun E_48 =>
  chk (decide (eN E_48 + 1 ≤ (eN E0 + 40) ∧ eL E_48 + 10 ≤ (eL E0 + 8183))) <|
  bnd (eNew E_48 11 10 10 (fun _ => 0)) fun E_50 =>
  chk (eK E_50 i0 5) <|
  bnd (eSP E_50 i0 1 (eN E_48)) fun E_54 =>
  chk (decide (eN E_54 + 1 ≤ (eN E0 + 40) ∧ eL E_54 + 6 ≤ (eL E0 + 8183))) <|
  bnd (eNew E_54 12 6 6 (fun _ => 0)) fun E_56 =>
  chk (eK E_56 i0 5) <|
  bnd (eSP E_56 i0 2 (eN E_54)) fun E_60 =>
  chk (decide (eN E_60 + 1 ≤ (eN E0 + 40) ∧ eL E_60 + 4 ≤ (eL E0 + 8183))) <|
  bnd (eNew E_60 1 0 4 (fun _ => 0)) fun E_62 =>
  calN (fnN_X1_init E_62 (eN E_60)) fun E_65 =>
  chk (decide (eN E_65 = eN E_62 + 0 ∧ eL E_65 = eL E_62 + 0 ∧ eN E_65 ≤ (eN E0 + 40) ∧ eL E_65 ≤ (eL E0 + 8183))) <|
  chk (eK E_65 i0 5) <|
  bnd (eSP E_65 i0 3 (eN E_60)) fun E_70 =>
  chk (eK E_70 i0 5) <|
  bnd (eSI E_70 i0 4 (0 : Int32)) fun E_72 =>
  chk (eK E_72 i0 5) <|
  bnd (eSI E_72 i0 5 (0 : Int32)) fun E_74 =>
  chk (eK E_74 i0 5) <|
  bnd (eSI E_74 i0 6 (0 : Int32)) fun E_76 =>
  chk (eK E_76 i0 5) <|
  bnd (eSJ E_76 i0 7 (0 : Int64)) fun E_78 =>
  chk (eK E_78 i0 5) <|
  bnd (eSJ E_78 i0 8 (0 : Int64)) fun E_80 =>
  chk (eK E_80 i0 5) <|
  bnd (eSJ E_80 i0 9 (0 : Int64)) fun E_82 =>
  chk (eK E_82 i0 5) <|
  bnd (eSJ E_82 i0 10 (0 : Int64)) fun E_84 =>
  (fbN_X5_init_83 (eN E0 + 40) (eL E0 + 8183) i0 (fbN_X5_init_113 (eN E0 + 40) (eL E0 + 8183) i0 FU) FU) (0 : Int32) E_84
def fnN_X4_init (E0 : Ee) (i0 : Nat) : Option Ee :=
  chk (decide (eN E0 + 1 ≤ (eN E0 + 1) ∧ eL E0 + 60 ≤ (eL E0 + 60))) <|
  bnd (eNew E0 8 60 60 (fun _ => 0)) fun E_2 =>
  chk (eK E_2 i0 4) <|
  bnd (eSP E_2 i0 0 (eN E0)) fun E_6 =>
  chk (eK E_6 i0 4) <|
  bnd (eSI E_6 i0 1 (0 : Int32)) fun E_8 =>
  some E_8
def fsN_X6_init_25 (nm sm i0 : Nat) (j25 : Int32 → Ee → Option Ee) (x1 : Int32) (E : Ee) : Option Ee :=
  chk (eK E i0 6) <|
  rfm (eP E i0 1) fun b_2 =>
  chk (eK E b_2 13) <|
  if (Int32.ofNat (eLn E b_2)) ≤ x1 then (
    chk (decide (eN E + 1 ≤ nm ∧ eL E + 2 ≤ sm)) <|
    bnd (eNew E 4 0 2 (fun _ => 0)) fun E_7 =>
    calN (fnN_X4_init E_7 (eN E)) fun E_10 =>
    chk (decide (eN E_10 = eN E_7 + 1 ∧ eL E_10 = eL E_7 + 60 ∧ eN E_10 ≤ nm ∧ eL E_10 ≤ sm)) <|
    chk (eK E_10 i0 6) <|
    bnd (eSP E_10 i0 2 (eN E)) fun E_15 =>
    chk (decide (eN E_15 + 1 ≤ nm ∧ eL E_15 + 11 ≤ sm)) <|
    bnd (eNew E_15 5 0 11 (fun _ => 0)) fun E_17 =>
    calN (fnN_X5_init E_17 (eN E_15)) fun E_20 =>
    chk (decide (eN E_20 = eN E_17 + 40 ∧ eL E_20 = eL E_17 + 8183 ∧ eN E_20 ≤ nm ∧ eL E_20 ≤ sm)) <|
    chk (eK E_20 i0 6) <|
    bnd (eSP E_20 i0 3 (eN E_15)) fun E_25 =>
    chk (eK E_25 i0 6) <|
    bnd (eSI E_25 i0 4 (0 : Int32)) fun E_27 =>
    some E_27) else (
    rfm (eP E i0 1) fun b_28 =>
    chk (decide (eN E + 1 ≤ nm ∧ eL E + 11 ≤ sm)) <|
    bnd (eNew E 5 0 11 (fun _ => 0)) fun E_31 =>
    calN (fnN_X5_init E_31 (eN E)) fun E_34 =>
    chk (decide (eN E_34 = eN E_31 + 40 ∧ eL E_34 = eL E_31 + 8183 ∧ eN E_34 ≤ nm ∧ eL E_34 ≤ sm)) <|
    chk (eK E_34 b_28 13) <|
    chk (inb x1 (eLn E_34 b_28)) <|
    chk (eK E_34 (eN E) 5) <|
    bnd (eSP E_34 b_28 x1.toNatClampNeg (eN E)) fun E_41 =>
    bnd (x1 + (1 : Int32)) fun v_42 =>
    j25 v_42 E_41)
def fbN_X6_init_25 (nm sm i0 : Nat) : Nat → Int32 → Ee → Option Ee :=
  lp (fun j25 => fsN_X6_init_25 nm sm i0 j25) (fun _ _ => none)
def fnN_X6_init (E0 : Ee) (i0 : Nat) : Option Ee :=
  chk (decide (eN E0 + 1 ≤ (eN E0 + 249) ∧ eL E0 + 11 ≤ (eL E0 + 49230))) <|
  bnd (eNew E0 5 0 11 (fun _ => 0)) fun E_44 =>
  calN (fnN_X5_init E_44 (eN E0)) fun E_47 =>
  chk (decide (eN E_47 = eN E_44 + 40 ∧ eL E_47 = eL E_44 + 8183 ∧ eN E_47 ≤ (eN E0 + 249) ∧ eL E_47 ≤ (eL E0 + 49230))) <|
  chk (eK E_47 i0 6) <|
  bnd (eSP E_47 i0 0 (eN E0)) fun E_52 =>
  chk (decide (eN E_52 + 1 ≤ (eN E0 + 249) ∧ eL E_52 + 4 ≤ (eL E0 + 49230))) <|
  bnd (eNew E_52 13 4 4 (fun _ => 0)) fun E_54 =>
  chk (eK E_54 i0 6) <|
  bnd (eSP E_54 i0 1 (eN E_52)) fun E_58 =>
  (fbN_X6_init_25 (eN E0 + 249) (eL E0 + 49230) i0 FU) (0 : Int32) E_58
