def fn_Ar_fill_B5 (v0 : Option Nat) (v1 : Int32) (v3 : Int32) (k5 : (Int32) → ahM Unit) : (Int32) → ahM Unit
  | v2 =>
    if v3 ≤ v2 then (
      ah_ret ())
    else (
      ah_wr (ah_sI 0 v0 v2 v1) <|
      k5 (v2 + (1 : Int32)))
def fn_Ar_fill (v0 : Option Nat) (v1 : Int32) : ahM Unit :=
  ah_rd (ah_al 0 v0) fun x3 =>
  ah_lp (fn_Ar_fill_B5 v0 v1 x3) FU (0 : Int32)
def fn_Types_variableBit (v0 : Int32) : ahM Int32 :=
  ah_ret ((1 : Int32) <<< (v0 &&& 31))
def fn_Types_init_B105 (t : Nat) (k105 : (Int32) → ahM Unit) : (Int32) → ahM Unit
  | v1 =>
    if (24 : Int32) ≤ v1 then (
      ah_ret ())
    else (
      ah_rd (ah_gR 0 (some t) 1) fun x112 =>
      ah_wr (ah_sI 0 x112 v1 (-1 : Int32)) <|
      k105 (v1 + (1 : Int32)))
def fn_Types_init_B74 (t : Nat) (k74 : (Int32) → ahM Unit) : (Int32) → ahM Unit
  | v1 =>
    if (8 : Int32) ≤ v1 then (
      ah_lp (fn_Types_init_B105 t) FU (0 : Int32))
    else (
      ah_rd (ah_gR 0 (some t) 0) fun x81 =>
      ah_wr (ah_sI 0 x81 v1 (-1 : Int32)) <|
      ah_rd (ah_gR 0 (some t) 2) fun x88 =>
      ah_bnd (fn_Types_variableBit v1) fun x93 =>
      ah_wr (ah_sI 0 x88 v1 x93) <|
      k74 (v1 + (1 : Int32)))
def fn_Types_init (t : Nat) : ahM Unit :=
  ah_bnd (ah_na 0 (512 : Int32)) fun x8 =>
  ah_wr (ah_pR 0 (some t) 0 x8) <|
  ah_bnd (ah_na 0 (1536 : Int32)) fun x17 =>
  ah_wr (ah_pR 0 (some t) 1 x17) <|
  ah_bnd (ah_na 0 (512 : Int32)) fun x26 =>
  ah_wr (ah_pR 0 (some t) 2 x26) <|
  ah_bnd (ah_na 0 (512 : Int32)) fun x35 =>
  ah_wr (ah_pR 0 (some t) 3 x35) <|
  ah_bnd (ah_na 0 (512 : Int32)) fun x44 =>
  ah_wr (ah_pR 0 (some t) 4 x44) <|
  ah_bnd (ah_na 0 (1024 : Int32)) fun x53 =>
  ah_wr (ah_pR 0 (some t) 5 x53) <|
  ah_wr (ah_pI 0 (some t) 6 (8 : Int32)) <|
  ah_rd (ah_gR 0 (some t) 5) fun x65 =>
  ah_bnd (fn_Ar_fill x65 (-1 : Int32)) fun x69 =>
  ah_lp (fn_Types_init_B74 t) FU (0 : Int32)
def fn_Code_init (t : Nat) : ahM Unit :=
  ah_bnd (ah_na 0 (1120 : Int32)) fun x8 =>
  ah_wr (ah_pR 1 (some t) 0 x8) <|
  ah_bnd (ah_na 0 (1120 : Int32)) fun x17 =>
  ah_wr (ah_pR 1 (some t) 1 x17) <|
  ah_bnd (ah_na 0 (1120 : Int32)) fun x26 =>
  ah_wr (ah_pR 1 (some t) 2 x26) <|
  ah_bnd (ah_na 0 (1120 : Int32)) fun x35 =>
  ah_wr (ah_pR 1 (some t) 3 x35) <|
  ah_ret ()
def fn_Bounds_init (t : Nat) : ahM Unit :=
  ah_bnd (ah_na 0 (3 : Int32)) fun x6 =>
  ah_wr (ah_pR 2 (some t) 0 x6) <|
  ah_bnd (ah_na 0 (3 : Int32)) fun x13 =>
  ah_wr (ah_pR 2 (some t) 1 x13) <|
  ah_ret ()
def fn_ABC_init (t : Nat) : ahM Unit :=
  ah_ret ()
def fn_ABL_init (t : Nat) : ahM Unit :=
  ah_bnd (ah_cI (some t) (fun b => fn_ABC_init b)) fun x1 =>
  ah_wr (ah_pI 3 (some t) 2 (0 : Int32)) <|
  ah_ret ()
def fn_AL_init (t : Nat) : ahM Unit :=
  ah_bnd (ah_cI (some t) (fun b => fn_ABL_init b)) fun x1 =>
  ah_rd ah_gs fun x5 =>
  ah_wr (ah_pR 3 (some t) 0 x5) <|
  ah_ret ()
def fn_Entry_init (t : Nat) (v1 : Int32) (v2 : Option Nat) (v3 : Int32) (v4 : Int32) : ahM Unit :=
  ah_bnd (ah_new 3 3) fun x5 =>
  ah_bnd (ah_cI x5 (fun b => fn_AL_init b)) fun x9 =>
  ah_wr (ah_pR 4 (some t) 4 x5) <|
  ah_bnd (ah_na 2 (26 : Int32)) fun x18 =>
  ah_wr (ah_pR 4 (some t) 5 x18) <|
  ah_bnd (ah_na 0 (6 : Int32)) fun x27 =>
  ah_wr (ah_pR 4 (some t) 6 x27) <|
  ah_bnd (ah_na 0 (6 : Int32)) fun x35 =>
  ah_wr (ah_pR 4 (some t) 7 x35) <|
  ah_wr (ah_pI 4 (some t) 0 v1) <|
  ah_wr (ah_pR 4 (some t) 1 v2) <|
  ah_wr (ah_pI 4 (some t) 2 v3) <|
  ah_wr (ah_pI 4 (some t) 3 v4) <|
  ah_ret ()
def fn_Rules_init (t : Nat) (v1 : Option Nat) : ahM Unit :=
  ah_bnd (ah_na 3 (8 : Int32)) fun x7 =>
  ah_wr (ah_pR 5 (some t) 1 x7) <|
  ah_bnd (ah_na 0 (8 : Int32)) fun x16 =>
  ah_wr (ah_pR 5 (some t) 2 x16) <|
  ah_bnd (ah_na 0 (8 : Int32)) fun x24 =>
  ah_wr (ah_pR 5 (some t) 3 x24) <|
  ah_wr (ah_pR 5 (some t) 0 v1) <|
  ah_rd (ah_gR 5 (some t) 1) fun x35 =>
  ah_bnd (ah_new 4 10) fun x39 =>
  ah_bnd (ah_new 2 3) fun x44 =>
  ah_bnd (ah_cI x44 (fun b => fn_Bounds_init b)) fun x48 =>
  ah_bnd (ah_cI x39 (fun b => fn_Entry_init b (0 : Int32) x44 (-1 : Int32) (-1 : Int32))) fun x53 =>
  ah_wr (ah_sR 3 4 x35 (0 : Int32) x39) <|
  ah_rd (ah_gR 5 (some t) 2) fun x58 =>
  ah_bnd (fn_Ar_fill x58 (-1 : Int32)) fun x62 =>
  ah_ret ()
def fn_Reader_init (t : Nat) (v1 : Option Nat) (v2 : Option Nat) (v3 : Option Nat) : ahM Unit :=
  ah_bnd (ah_na 1 (141 : Int32)) fun x8 =>
  ah_wr (ah_pR 6 (some t) 3 x8) <|
  ah_bnd (ah_na 0 (141 : Int32)) fun x17 =>
  ah_wr (ah_pR 6 (some t) 4 x17) <|
  ah_bnd (ah_na 0 (140 : Int32)) fun x26 =>
  ah_wr (ah_pR 6 (some t) 7 x26) <|
  ah_wr (ah_pR 6 (some t) 0 v1) <|
  ah_wr (ah_pR 6 (some t) 1 v2) <|
  ah_wr (ah_pR 6 (some t) 2 v3) <|
  ah_ret ()
def fn_Expressions_init (t : Nat) (v1 : Option Nat) (v2 : Option Nat) (v3 : Option Nat) : ahM Unit :=
  ah_bnd (ah_na 0 (72 : Int32)) fun x7 =>
  ah_wr (ah_pR 7 (some t) 3 x7) <|
  ah_bnd (ah_na 0 (6 : Int32)) fun x15 =>
  ah_wr (ah_pR 7 (some t) 5 x15) <|
  ah_wr (ah_pR 7 (some t) 0 v1) <|
  ah_wr (ah_pR 7 (some t) 1 v2) <|
  ah_wr (ah_pR 7 (some t) 2 v3) <|
  ah_ret ()
def fn_Declarations_init (t : Nat) (v1 : Option Nat) (v2 : Option Nat) (v3 : Option Nat) : ahM Unit :=
  ah_wr (ah_pR 8 (some t) 0 v1) <|
  ah_wr (ah_pR 8 (some t) 1 v2) <|
  ah_wr (ah_pR 8 (some t) 2 v3) <|
  ah_ret ()
def fn_Machine_init (t : Nat) (v1 : Option Nat) (v2 : Option Nat) (v3 : Option Nat) : ahM Unit :=
  ah_bnd (ah_na 0 (2870 : Int32)) fun x8 =>
  ah_wr (ah_pR 9 (some t) 3 x8) <|
  ah_bnd (ah_na 0 (962 : Int32)) fun x17 =>
  ah_wr (ah_pR 9 (some t) 5 x17) <|
  ah_bnd (ah_na 0 (36 : Int32)) fun x25 =>
  ah_wr (ah_pR 9 (some t) 7 x25) <|
  ah_bnd (ah_na 1 (200 : Int32)) fun x34 =>
  ah_wr (ah_pR 9 (some t) 13 x34) <|
  ah_bnd (ah_na 0 (200 : Int32)) fun x43 =>
  ah_wr (ah_pR 9 (some t) 15 x43) <|
  ah_bnd (ah_na 0 (200 : Int32)) fun x52 =>
  ah_wr (ah_pR 9 (some t) 16 x52) <|
  ah_wr (ah_pR 9 (some t) 0 v1) <|
  ah_wr (ah_pR 9 (some t) 1 v2) <|
  ah_wr (ah_pR 9 (some t) 2 v3) <|
  ah_ret ()
def fn_BT_init (t : Nat) : ahM Unit :=
  ah_bnd (ah_na 1 (140 : Int32)) fun x8 =>
  ah_wr (ah_pR 10 (some t) 0 x8) <|
  ah_bnd (ah_new 0 7) fun x14 =>
  ah_bnd (ah_cI x14 (fun b => fn_Types_init b)) fun x18 =>
  ah_wr (ah_pR 10 (some t) 2 x14) <|
  ah_bnd (ah_new 1 5) fun x25 =>
  ah_bnd (ah_cI x25 (fun b => fn_Code_init b)) fun x29 =>
  ah_wr (ah_pR 10 (some t) 3 x25) <|
  ah_bnd (ah_new 5 4) fun x36 =>
  ah_rd (ah_gR 10 (some t) 2) fun x41 =>
  ah_bnd (ah_cI x36 (fun b => fn_Rules_init b x41)) fun x44 =>
  ah_wr (ah_pR 10 (some t) 4 x36) <|
  ah_bnd (ah_new 6 10) fun x51 =>
  ah_rd (ah_gR 10 (some t) 0) fun x56 =>
  ah_rd (ah_gR 10 (some t) 2) fun x60 =>
  ah_rd (ah_gR 10 (some t) 3) fun x64 =>
  ah_bnd (ah_cI x51 (fun b => fn_Reader_init b x56 x60 x64)) fun x67 =>
  ah_wr (ah_pR 10 (some t) 5 x51) <|
  ah_bnd (ah_new 7 8) fun x74 =>
  ah_rd (ah_gR 10 (some t) 2) fun x79 =>
  ah_rd (ah_gR 10 (some t) 3) fun x83 =>
  ah_rd (ah_gR 10 (some t) 4) fun x87 =>
  ah_bnd (ah_cI x74 (fun b => fn_Expressions_init b x79 x83 x87)) fun x90 =>
  ah_wr (ah_pR 10 (some t) 6 x74) <|
  ah_bnd (ah_new 8 3) fun x97 =>
  ah_rd (ah_gR 10 (some t) 2) fun x102 =>
  ah_rd (ah_gR 10 (some t) 4) fun x106 =>
  ah_rd (ah_gR 10 (some t) 6) fun x110 =>
  ah_bnd (ah_cI x97 (fun b => fn_Declarations_init b x102 x106 x110)) fun x113 =>
  ah_wr (ah_pR 10 (some t) 7 x97) <|
  ah_bnd (ah_new 9 17) fun x120 =>
  ah_rd (ah_gR 10 (some t) 2) fun x125 =>
  ah_rd (ah_gR 10 (some t) 3) fun x129 =>
  ah_rd (ah_gR 10 (some t) 4) fun x133 =>
  ah_bnd (ah_cI x120 (fun b => fn_Machine_init b x125 x129 x133)) fun x136 =>
  ah_wr (ah_pR 10 (some t) 8 x120) <|
  ah_ret ()
def fn_BT_byteOf (v0 : Int32) (v1 : Int32) : ahM Int32 :=
  ah_ret ((ah_ush v0 ((8 : Int32) * v1)) &&& (255 : Int32))
def fn_BT_areCharacters_B2 (v0 : Int32) (v1 : Int32) (k2 : (Int32) → ahM Int32) : (Int32) → ahM Int32
  | v2 =>
    if v1 ≤ v2 then (
      ah_retZ (1 : Int32))
    else (
      ah_bnd (fn_BT_byteOf v0 v2) fun x9 =>
      if x9 < (32 : Int32) then (
        ah_retZ (0 : Int32))
      else (
        if x9 ≤ (126 : Int32) then (
          k2 (v2 + (1 : Int32)))
        else (
          ah_retZ (0 : Int32))))
def fn_BT_areCharacters (v0 : Int32) (v1 : Int32) : ahM Int32 :=
  ah_lp (fn_BT_areCharacters_B2 v0 v1) FU (0 : Int32)
def fn_BT_type_B36 (t : Nat) (v1 : Int32) (k36 : (Int32) → ahM Int32) : (Int32) → ahM Int32
  | v3 =>
    if v3 < 0 then (
      ah_retZ (1 : Int32))
    else (
      ah_rd (ah_gR 10 (some t) 0) fun x41 =>
      ah_rd (ah_gI 10 (some t) 1) fun x45 =>
      ah_bnd (fn_BT_byteOf v1 v3) fun x50 =>
      ah_wr (ah_sI 1 x41 x45 (vp_nar .char (ah_chr x50))) <|
      ah_rd (ah_gI 10 (some t) 1) fun x57 =>
      ah_wr (ah_pI 10 (some t) 1 (x57 + (1 : Int32))) <|
      k36 (v3 + (-1 : Int32)))
def fn_BT_type (t : Nat) (v1 : Int32) (v2 : Int32) : ahM Int32 :=
  if v2 < (1 : Int32) then (
    ah_retZ (0 : Int32))
  else (
    if (4 : Int32) < v2 then (
      ah_retZ (0 : Int32))
    else (
      ah_rd (ah_gI 10 (some t) 1) fun x11 =>
      if (140 : Int32) < (x11 + v2) then (
        ah_retZ (0 : Int32))
      else (
        ah_bnd (fn_BT_areCharacters v1 v2) fun x24 =>
        if x24 = 0 then (
          ah_retZ (0 : Int32))
        else (
          ah_lp (fn_BT_type_B36 t v1) FU (v2 - (1 : Int32))))))
def fn_Types_makeRoom (t : Nat) : ahM Unit :=
  ah_rd (ah_gR 0 (some t) 0) fun x2 =>
  ah_rd (ah_al 0 x2) fun x5 =>
  ah_rd (ah_gR 0 (some t) 0) fun x9 =>
  ah_rd (ah_al 0 x9) fun x12 =>
  ah_rd (ah_gI 0 (some t) 6) fun x14 =>
  if (256 : Int32) ≤ (x12 - x14) then (
    ah_ret ())
  else (
    if ((2 : Int32) * x5) ≤ (32768 : Int32) then (
      ah_rd (ah_gR 0 (some t) 0) fun x33 =>
      ah_no)
    else (
      ah_ret ()))
def fn_Reader_start_J64 (t : Nat) (v1 : Int32) (v2 : Int32) : ahM Unit :=
  ah_rd (ah_gR 6 (some t) 3) fun x65 =>
  ah_wr (ah_sI 1 x65 v2 (vp_nar .char (0 : Int32))) <|
  ah_rd (ah_gR 6 (some t) 4) fun x72 =>
  ah_wr (ah_sI 0 x72 v2 v1) <|
  ah_wr (ah_pI 6 (some t) 5 (0 : Int32)) <|
  ah_wr (ah_pI 6 (some t) 6 (0 : Int32)) <|
  ah_wr (ah_pI 6 (some t) 8 (0 : Int32)) <|
  ah_wr (ah_pR 6 (some t) 9 none) <|
  ah_rd (ah_gR 6 (some t) 1) fun x99 =>
  ah_bnd (ah_cV 0 x99 (fun b => fn_Types_makeRoom b)) fun x102 =>
  ah_ret ()
def fn_Reader_start_J58 (t : Nat) (v1 : Int32) (v2 : Int32) (v3 : Int32) (k4 : (Int32 × Int32) → ahM Unit) : ahM Unit :=
  k4 (v2, (v3 + (1 : Int32)))
def fn_Reader_start_B4 (t : Nat) (v1 : Int32) (k4 : (Int32 × Int32) → ahM Unit) : (Int32 × Int32) → ahM Unit
  | (v2, v3) =>
    if v1 ≤ v3 then (
      fn_Reader_start_J64 t v1 v2)
    else (
      ah_rd (ah_gR 6 (some t) 0) fun x11 =>
      ah_rd (ah_al 1 x11) fun x14 =>
      if x14 ≤ v3 then (
        fn_Reader_start_J64 t v1 v2)
      else (
        if (140 : Int32) ≤ v3 then (
          fn_Reader_start_J64 t v1 v2)
        else (
          ah_rd (ah_gR 6 (some t) 0) fun x26 =>
          ah_rd (ah_aI 1 x26 v3) fun x30 =>
          if x30 = (32 : Int32) then (
            fn_Reader_start_J58 t v1 v2 v3 k4)
          else (
            ah_rd (ah_gR 6 (some t) 3) fun x37 =>
            ah_rd (ah_gR 6 (some t) 0) fun x42 =>
            ah_rd (ah_aI 1 x42 v3) fun x46 =>
            ah_wr (ah_sI 1 x37 v2 (vp_nar .char x46)) <|
            ah_rd (ah_gR 6 (some t) 4) fun x49 =>
            ah_wr (ah_sI 0 x49 v2 v3) <|
            fn_Reader_start_J58 t v1 (v2 + (1 : Int32)) v3 k4))))
def fn_Reader_start (t : Nat) (v1 : Int32) : ahM Unit :=
  ah_lp (fn_Reader_start_B4 t v1) FU ((0 : Int32), (0 : Int32))
def fn_Reader_takeLetter_J26 (t : Nat) : ahM Int32 :=
  ah_rd (ah_gR 6 (some t) 3) fun x27 =>
  ah_rd (ah_gI 6 (some t) 5) fun x31 =>
  ah_wr (ah_sI 1 x27 x31 (vp_nar .char (1 : Int32))) <|
  ah_ret (0 : Int32)
def fn_Reader_takeLetter (t : Nat) (v1 : Int32) (v2 : Int32) : ahM Int32 :=
  ah_rd (ah_gR 6 (some t) 3) fun x1 =>
  ah_rd (ah_gI 6 (some t) 5) fun x5 =>
  ah_rd (ah_aI 1 x1 x5) fun x8 =>
  if x8 < v1 then (
    fn_Reader_takeLetter_J26 t)
  else (
    ah_rd (ah_gR 6 (some t) 3) fun x14 =>
    ah_rd (ah_gI 6 (some t) 5) fun x18 =>
    ah_rd (ah_aI 1 x14 x18) fun x21 =>
    if x21 ≤ v2 then (
      ah_rd (ah_gI 6 (some t) 5) fun x40 =>
      ah_wr (ah_pI 6 (some t) 5 (x40 + (1 : Int32))) <|
      ah_rd (ah_gR 6 (some t) 3) fun x49 =>
      ah_rd (ah_gI 6 (some t) 5) fun x53 =>
      ah_rd (ah_aI 1 x49 (x53 - (1 : Int32))) fun x58 =>
      ah_ret (x58 - v1))
    else (
      fn_Reader_takeLetter_J26 t))
def fn_Reader_open_J45 (t : Nat) : ahM Unit :=
  ah_rd (ah_gR 6 (some t) 3) fun x46 =>
  ah_rd (ah_gI 6 (some t) 5) fun x50 =>
  ah_wr (ah_sI 1 x46 x50 (vp_nar .char (1 : Int32))) <|
  ah_ret ()
def fn_Reader_open (t : Nat) (v1 : Int32) : ahM Unit :=
  ah_rd (ah_gR 6 (some t) 3) fun x1 =>
  ah_rd (ah_gI 6 (some t) 5) fun x5 =>
  ah_rd (ah_aI 1 x1 x5) fun x8 =>
  if x8 = v1 then (
    ah_rd (ah_gI 6 (some t) 6) fun x14 =>
    if (8 : Int32) ≤ x14 then (
      fn_Reader_open_J45 t)
    else (
      ah_rd (ah_gI 6 (some t) 5) fun x24 =>
      ah_wr (ah_pI 6 (some t) 5 (x24 + (1 : Int32))) <|
      ah_rd (ah_gI 6 (some t) 6) fun x34 =>
      ah_wr (ah_pI 6 (some t) 6 (x34 + (1 : Int32))) <|
      ah_ret ()))
  else (
    fn_Reader_open_J45 t)
def fn_Reader_take (t : Nat) (v1 : Int32) : ahM Unit :=
  ah_rd (ah_gR 6 (some t) 3) fun x1 =>
  ah_rd (ah_gI 6 (some t) 5) fun x5 =>
  ah_rd (ah_aI 1 x1 x5) fun x8 =>
  if x8 = v1 then (
    ah_rd (ah_gI 6 (some t) 5) fun x15 =>
    ah_wr (ah_pI 6 (some t) 5 (x15 + (1 : Int32))) <|
    ah_ret ())
  else (
    ah_rd (ah_gR 6 (some t) 3) fun x27 =>
    ah_rd (ah_gI 6 (some t) 5) fun x31 =>
    ah_wr (ah_sI 1 x27 x31 (vp_nar .char (1 : Int32))) <|
    ah_ret ())
def fn_Types_classType_J276 (t : Nat) (v6 : Int32) (v7 : Int32) (v8 : Int32) (v9 : Int32) (w0 : Option Nat) (w1 : Int32) (w2 : Int32) (w3 : Int32) (k215 : Int32 → ahM Int32) : ahM Int32 :=
  ah_wr (ah_sI 0 w0 w1 (w2 ||| w3)) <|
  k215 (v9 + (1 : Int32))
def fn_Types_classType_J275 (t : Nat) (v6 : Int32) (v7 : Int32) (v8 : Int32) (v9 : Int32) (w0 : Option Nat) (w1 : Int32) (w2 : Int32) (k215 : Int32 → ahM Int32) : ahM Int32 :=
  fn_Types_classType_J276 t v6 v7 v8 v9 w0 w1 w2 (0 : Int32) k215
def fn_Types_classType_B215 (t : Nat) (v6 : Int32) (v7 : Int32) (v8 : Int32) (k215 : (Int32) → ahM Int32) : (Int32) → ahM Int32
  | v9 =>
    if (3 : Int32) ≤ v9 then (
      ah_rd (ah_gR 0 (some t) 3) fun x285 =>
      ah_wr (ah_sI 0 x285 v8 v6) <|
      ah_rd (ah_gR 0 (some t) 4) fun x294 =>
      ah_rd (ah_gR 0 (some t) 5) fun x300 =>
      ah_rd (ah_aI 0 x300 v6) fun x305 =>
      ah_wr (ah_sI 0 x294 v8 x305) <|
      ah_rd (ah_gR 0 (some t) 5) fun x308 =>
      ah_wr (ah_sI 0 x308 v6 v8) <|
      ah_rd (ah_gI 0 (some t) 6) fun x318 =>
      ah_wr (ah_pI 0 (some t) 6 (x318 + (1 : Int32))) <|
      ah_ret v8)
    else (
      ah_rd (ah_gR 0 (some t) 2) fun x222 =>
      ah_rd (ah_aI 0 x222 v8) fun x228 =>
      ah_rd (ah_gR 0 (some t) 1) fun x230 =>
      ah_rd (ah_aI 0 x230 (v7 + v9)) fun x238 =>
      if x238 < 0 then (
        fn_Types_classType_J275 t v6 v7 v8 v9 x222 v8 x228 k215)
      else (
        ah_rd (ah_gR 0 (some t) 1) fun x243 =>
        ah_rd (ah_aI 0 x243 (v7 + v9)) fun x251 =>
        if v8 ≤ x251 then (
          fn_Types_classType_J275 t v6 v7 v8 v9 x222 v8 x228 k215)
        else (
          ah_rd (ah_gR 0 (some t) 2) fun x258 =>
          ah_rd (ah_gR 0 (some t) 1) fun x262 =>
          ah_rd (ah_aI 0 x262 (v7 + v9)) fun x270 =>
          ah_rd (ah_aI 0 x258 x270) fun x271 =>
          fn_Types_classType_J276 t v6 v7 v8 v9 x222 v8 x228 x271 k215)))
def fn_Types_classType_J136 (t : Nat) (v1 : Int32) (v2 : Int32) (v3 : Int32) (v4 : Int32) (v6 : Int32) : ahM Int32 :=
  ah_rd (ah_gI 0 (some t) 6) fun x137 =>
  ah_rd (ah_gR 0 (some t) 0) fun x141 =>
  ah_rd (ah_al 0 x141) fun x144 =>
  if x137 < x144 then (
    ah_rd (ah_gI 0 (some t) 6) fun x151 =>
    ah_rd (ah_gR 0 (some t) 0) fun x163 =>
    ah_wr (ah_sI 0 x163 x151 v1) <|
    ah_rd (ah_gR 0 (some t) 1) fun x171 =>
    ah_wr (ah_sI 0 x171 ((3 : Int32) * x151) v2) <|
    ah_rd (ah_gR 0 (some t) 1) fun x179 =>
    ah_wr (ah_sI 0 x179 (((3 : Int32) * x151) + (1 : Int32)) v3) <|
    ah_rd (ah_gR 0 (some t) 1) fun x189 =>
    ah_wr (ah_sI 0 x189 (((3 : Int32) * x151) + (2 : Int32)) v4) <|
    ah_rd (ah_gR 0 (some t) 2) fun x200 =>
    ah_wr (ah_sI 0 x200 x151 ((1 : Int32) <<< (((8 : Int32) + v1) &&& 31))) <|
    ah_lp (fn_Types_classType_B215 t v6 ((3 : Int32) * x151) x151) FU (0 : Int32))
  else (
    ah_ret (-1 : Int32))
def fn_Types_classType_J121 (t : Nat) (v1 : Int32) (v2 : Int32) (v3 : Int32) (v4 : Int32) (v6 : Int32) (v8 : Int32) (v9 : Int32) (k48 : (Int32 × Int32) → ahM Int32) : ahM Int32 :=
  ah_rd (ah_gR 0 (some t) 4) fun x122 =>
  ah_rd (ah_aI 0 x122 v8) fun x127 =>
  k48 (x127, (v9 + (1 : Int32)))
def fn_Types_classType_B48 (t : Nat) (v1 : Int32) (v2 : Int32) (v3 : Int32) (v4 : Int32) (v6 : Int32) (k48 : (Int32 × Int32) → ahM Int32) : (Int32 × Int32) → ahM Int32
  | (v8, v9) =>
    ah_rd (ah_gI 0 (some t) 6) fun x51 =>
    if x51 ≤ v9 then (
      fn_Types_classType_J136 t v1 v2 v3 v4 v6)
    else (
      if v8 = (-1 : Int32) then (
        fn_Types_classType_J136 t v1 v2 v3 v4 v6)
      else (
        ah_rd (ah_gR 0 (some t) 0) fun x70 =>
        ah_rd (ah_aI 0 x70 v8) fun x75 =>
        if x75 = v1 then (
          ah_rd (ah_gR 0 (some t) 1) fun x81 =>
          ah_rd (ah_aI 0 x81 ((3 : Int32) * v8)) fun x86 =>
          if x86 = v2 then (
            ah_rd (ah_gR 0 (some t) 1) fun x92 =>
            ah_rd (ah_aI 0 x92 (((3 : Int32) * v8) + (1 : Int32))) fun x99 =>
            if x99 = v3 then (
              ah_rd (ah_gR 0 (some t) 1) fun x105 =>
              ah_rd (ah_aI 0 x105 (((3 : Int32) * v8) + (2 : Int32))) fun x112 =>
              if x112 = v4 then (
                ah_ret v8)
              else (
                fn_Types_classType_J121 t v1 v2 v3 v4 v6 v8 v9 k48))
            else (
              fn_Types_classType_J121 t v1 v2 v3 v4 v6 v8 v9 k48))
          else (
            fn_Types_classType_J121 t v1 v2 v3 v4 v6 v8 v9 k48))
        else (
          fn_Types_classType_J121 t v1 v2 v3 v4 v6 v8 v9 k48)))
def fn_Types_classType (t : Nat) (v1 : Int32) (v2 : Int32) (v3 : Int32) (v4 : Int32) : ahM Int32 :=
  ah_rd (ah_gR 0 (some t) 5) fun x37 =>
  ah_rd (ah_aI 0 x37 ((((((((v1 * (31 : Int32)) + v2) * (31 : Int32)) + v3) * (31 : Int32)) + v4) ^^^ (ah_ush ((((((v1 * (31 : Int32)) + v2) * (31 : Int32)) + v3) * (31 : Int32)) + v4) (10 : Int32))) &&& (1023 : Int32))) fun x42 =>
  ah_lp (fn_Types_classType_B48 t v1 v2 v3 v4 ((((((((v1 * (31 : Int32)) + v2) * (31 : Int32)) + v3) * (31 : Int32)) + v4) ^^^ (ah_ush ((((((v1 * (31 : Int32)) + v2) * (31 : Int32)) + v3) * (31 : Int32)) + v4) (10 : Int32))) &&& (1023 : Int32))) FU (x42, (0 : Int32))
def fn_Reader_readType_J57 (t : Nat) : ahM Int32 :=
  ah_bnd (ah_cV 6 (some t) (fun b => fn_Reader_takeLetter b (65 : Int32) (72 : Int32))) fun x62 =>
  ah_rd (ah_gR 6 (some t) 3) fun x67 =>
  ah_rd (ah_gI 6 (some t) 5) fun x71 =>
  ah_rd (ah_aI 1 x67 x71) fun x74 =>
  if x74 = (91 : Int32) then (
    ah_no)
  else (
    ah_rd (ah_gR 6 (some t) 1) fun x89 =>
    ah_bnd (ah_cV 0 x89 (fun b => fn_Types_classType b x62 (-1 : Int32) (-1 : Int32) (-1 : Int32))) fun x96 =>
    ah_ret x96)
def fn_Reader_readType (t : Nat) (v1 : Int32) : ahM Int32 :=
  if v1 = 0 then (
    fn_Reader_readType_J57 t)
  else (
    ah_rd (ah_gR 6 (some t) 3) fun x5 =>
    ah_rd (ah_gI 6 (some t) 5) fun x9 =>
    ah_rd (ah_aI 1 x5 x9) fun x12 =>
    if x12 < (83 : Int32) then (
      fn_Reader_readType_J57 t)
    else (
      ah_rd (ah_gR 6 (some t) 3) fun x19 =>
      ah_rd (ah_gI 6 (some t) 5) fun x23 =>
      ah_rd (ah_aI 1 x19 x23) fun x26 =>
      if (90 : Int32) < x26 then (
        fn_Reader_readType_J57 t)
      else (
        ah_rd (ah_gI 6 (some t) 5) fun x34 =>
        ah_wr (ah_pI 6 (some t) 5 (x34 + (1 : Int32))) <|
        ah_rd (ah_gR 6 (some t) 3) fun x43 =>
        ah_rd (ah_gI 6 (some t) 5) fun x47 =>
        ah_rd (ah_aI 1 x43 (x47 - (1 : Int32))) fun x52 =>
        ah_ret (x52 - (83 : Int32)))))
def fn_Reader_close (t : Nat) (v1 : Int32) : ahM Unit :=
  ah_rd (ah_gR 6 (some t) 3) fun x1 =>
  ah_rd (ah_gI 6 (some t) 5) fun x5 =>
  ah_rd (ah_aI 1 x1 x5) fun x8 =>
  if x8 = v1 then (
    ah_rd (ah_gI 6 (some t) 5) fun x15 =>
    ah_wr (ah_pI 6 (some t) 5 (x15 + (1 : Int32))) <|
    ah_rd (ah_gI 6 (some t) 6) fun x25 =>
    ah_wr (ah_pI 6 (some t) 6 (x25 - (1 : Int32))) <|
    ah_ret ())
  else (
    ah_rd (ah_gR 6 (some t) 3) fun x37 =>
    ah_rd (ah_gI 6 (some t) 5) fun x41 =>
    ah_wr (ah_sI 1 x37 x41 (vp_nar .char (1 : Int32))) <|
    ah_ret ())
def fn_Reader_readBounds_J84 (t : Nat) : ahM Unit :=
  ah_bnd (ah_cV 6 (some t) (fun b => fn_Reader_close b (93 : Int32))) fun x87 =>
  ah_ret ()
def fn_Reader_readBounds_J74 (t : Nat) (v1 : Option Nat) (v3 : Int32) (w0 : Option Nat) (w1 : Int32) (k25 : (Int32 × Int32) → ahM Unit) : ahM Unit :=
  ah_no
def fn_Reader_readBounds_B25 (t : Nat) (v1 : Option Nat) (k25 : (Int32 × Int32) → ahM Unit) : (Int32 × Int32) → ahM Unit
  | (v2, v3) =>
    if (3 : Int32) ≤ v3 then (
      fn_Reader_readBounds_J84 t)
    else (
      if v2 = 0 then (
        fn_Reader_readBounds_J84 t)
      else (
        ah_bnd (ah_cV 6 (some t) (fun b => fn_Reader_takeLetter b (83 : Int32) (90 : Int32))) fun x39 =>
        ah_bnd (ah_cV 6 (some t) (fun b => fn_Reader_take b (58 : Int32))) fun x47 =>
        ah_bnd (ah_cV 6 (some t) (fun b => fn_Reader_readType b (0 : Int32))) fun x55 =>
        ah_no))
def fn_Reader_readBounds (t : Nat) (v1 : Option Nat) : ahM Unit :=
  ah_rd (ah_gR 6 (some t) 3) fun x1 =>
  ah_rd (ah_gI 6 (some t) 5) fun x5 =>
  ah_rd (ah_aI 1 x1 x5) fun x8 =>
  if x8 = (91 : Int32) then (
    ah_bnd (ah_cV 6 (some t) (fun b => fn_Reader_open b (91 : Int32))) fun x18 =>
    ah_lp (fn_Reader_readBounds_B25 t v1) FU ((1 : Int32), (0 : Int32)))
  else (
    ah_ret ())
def fn_Types_classOf (t : Nat) (v1 : Int32) : ahM Int32 :=
  if v1 < 0 then (
    ah_ret (-1 : Int32))
  else (
    ah_rd (ah_gI 0 (some t) 6) fun x6 =>
    if x6 ≤ v1 then (
      ah_ret (-1 : Int32))
    else (
      ah_rd (ah_gR 0 (some t) 0) fun x13 =>
      ah_rd (ah_aI 0 x13 v1) fun x17 =>
      ah_ret x17))
def fn_Reader_takeEnd (t : Nat) : ahM Unit :=
  ah_rd (ah_gR 6 (some t) 3) fun x1 =>
  ah_rd (ah_gI 6 (some t) 5) fun x5 =>
  ah_rd (ah_aI 1 x1 x5) fun x8 =>
  if x8 = 0 then (
    ah_ret ())
  else (
    ah_rd (ah_gR 6 (some t) 3) fun x13 =>
    ah_rd (ah_gI 6 (some t) 5) fun x17 =>
    ah_wr (ah_sI 1 x13 x17 (vp_nar .char (1 : Int32))) <|
    ah_ret ())
def fn_Reader_readDeclaration_J125 (t : Nat) (v5 : Option Nat) : ahM (Option Nat) :=
  ah_bnd (ah_cV 6 (some t) (fun b => fn_Reader_close b (125 : Int32))) fun x128 =>
  ah_bnd (ah_cV 6 (some t) (fun b => fn_Reader_takeEnd b)) fun x132 =>
  ah_ret v5
def fn_Reader_readDeclaration_B71 (t : Nat) (v5 : Option Nat) (k71 : (Int32) → ahM (Option Nat)) : (Int32) → ahM (Option Nat)
  | v6 =>
    if (140 : Int32) ≤ v6 then (
      fn_Reader_readDeclaration_J125 t v5)
    else (
      ah_rd (ah_gR 6 (some t) 3) fun x80 =>
      ah_rd (ah_gI 6 (some t) 5) fun x84 =>
      ah_rd (ah_aI 1 x80 x84) fun x87 =>
      if x87 = (125 : Int32) then (
        fn_Reader_readDeclaration_J125 t v5)
      else (
        ah_rd (ah_gR 6 (some t) 3) fun x94 =>
        ah_rd (ah_gI 6 (some t) 5) fun x98 =>
        ah_rd (ah_aI 1 x94 x98) fun x101 =>
        if x101 = (1 : Int32) then (
          fn_Reader_readDeclaration_J125 t v5)
        else (
          ah_rd (ah_gR 4 v5 4) fun x108 =>
          ah_no)))
def fn_Reader_readDeclaration (t : Nat) (v1 : Int32) : ahM (Option Nat) :=
  ah_bnd (ah_cV 6 (some t) (fun b => fn_Reader_start b v1)) fun x2 =>
  ah_bnd (ah_cV 6 (some t) (fun b => fn_Reader_takeLetter b (65 : Int32) (72 : Int32))) fun x10 =>
  ah_bnd (ah_new 2 3) fun x14 =>
  ah_bnd (ah_cI x14 (fun b => fn_Bounds_init b)) fun x18 =>
  ah_bnd (ah_cV 6 (some t) (fun b => fn_Reader_readBounds b x14)) fun x24 =>
  ah_bnd (ah_cV 6 (some t) (fun b => fn_Reader_take b (58 : Int32))) fun x30 =>
  ah_bnd (ah_cV 6 (some t) (fun b => fn_Reader_readType b (0 : Int32))) fun x35 =>
  ah_bnd (ah_new 4 10) fun x40 =>
  ah_rd (ah_gR 6 (some t) 1) fun x49 =>
  ah_bnd (ah_cV 0 x49 (fun b => fn_Types_classOf b x35)) fun x54 =>
  ah_bnd (ah_cI x40 (fun b => fn_Entry_init b x10 x14 x35 x54)) fun x57 =>
  ah_bnd (ah_cV 6 (some t) (fun b => fn_Reader_open b (123 : Int32))) fun x65 =>
  ah_lp (fn_Reader_readDeclaration_B71 t x40) FU (0 : Int32)
def fn_Reader_answerIfFaulty (t : Nat) : ahM Int32 :=
  ah_rd (ah_gR 6 (some t) 3) fun x1 =>
  ah_rd (ah_gI 6 (some t) 5) fun x5 =>
  ah_rd (ah_aI 1 x1 x5) fun x8 =>
  if x8 = (1 : Int32) then (
    ah_rd (ah_gR 6 (some t) 4) fun x15 =>
    ah_rd (ah_gI 6 (some t) 5) fun x19 =>
    ah_rd (ah_aI 0 x15 x19) fun x22 =>
    ah_ret ((-1 : Int32) - x22))
  else (
    ah_ret (0 : Int32))
def fn_Rules_entryNamed (t : Nat) (v1 : Int32) : ahM (Option Nat) :=
  if v1 < 0 then (
    ah_ret none)
  else (
    if (8 : Int32) ≤ v1 then (
      ah_ret none)
    else (
      ah_rd (ah_gR 5 (some t) 1) fun x11 =>
      ah_rd (ah_aR 3 x11 v1) fun x15 =>
      ah_ret x15))
def fn_Rules_remove (t : Nat) (v1 : Option Nat) : ahM Unit :=
  ah_rd (ah_gI 4 v1 0) fun x2 =>
  ah_bnd (ah_cV 5 (some t) (fun b => fn_Rules_entryNamed b x2)) fun x5 =>
  if x5 = v1 then (
    ah_rd (ah_gR 5 (some t) 1) fun x13 =>
    ah_rd (ah_gI 4 v1 0) fun x17 =>
    ah_wr (ah_sR 3 4 x13 x17 none) <|
    ah_ret ())
  else (
    ah_ret ())
def fn_Types_forget_B14 (t : Nat) (v2 : Int32) (k14 : (Int32) → ahM Unit) : (Int32) → ahM Unit
  | v3 =>
    if v3 < v2 then (
      ah_rd (ah_gI 0 (some t) 6) fun x44 =>
      ah_wr (ah_pI 0 (some t) 6 (jd_min x44 v2)) <|
      ah_ret ())
    else (
      ah_rd (ah_gR 0 (some t) 5) fun x20 =>
      ah_rd (ah_gR 0 (some t) 3) fun x24 =>
      ah_rd (ah_aI 0 x24 v3) fun x28 =>
      ah_rd (ah_gR 0 (some t) 4) fun x30 =>
      ah_rd (ah_aI 0 x30 v3) fun x34 =>
      ah_wr (ah_sI 0 x20 x28 x34) <|
      k14 (v3 + (-1 : Int32)))
def fn_Types_forget (t : Nat) (v1 : Int32) : ahM Unit :=
  ah_rd (ah_gI 0 (some t) 6) fun x8 =>
  ah_lp (fn_Types_forget_B14 t (jd_max v1 (8 : Int32))) FU (x8 - (1 : Int32))
def fn_Code_forget (t : Nat) (v1 : Int32) : ahM Unit :=
  ah_rd (ah_gI 1 (some t) 4) fun x3 =>
  ah_wr (ah_pI 1 (some t) 4 (jd_max (0 : Int32) (jd_min x3 v1))) <|
  ah_ret ()
def fn_BT_declare_J108 (t : Nat) (v1 : Int32) (v2 : Int32) (v3 : Option Nat) (v4 : Int32) (v5 : Int32) : ahM Int32 :=
  if 0 ≤ v5 then (
    ah_rd (ah_gR 10 (some t) 2) fun x141 =>
    ah_bnd (ah_cV 0 x141 (fun b => fn_Types_forget b v4)) fun x146 =>
    ah_rd (ah_gR 10 (some t) 4) fun x150 =>
    ah_no)
  else (
    ah_rd (ah_gR 10 (some t) 4) fun x114 =>
    ah_bnd (ah_cV 5 x114 (fun b => fn_Rules_remove b v3)) fun x118 =>
    ah_rd (ah_gR 10 (some t) 2) fun x122 =>
    ah_bnd (ah_cV 0 x122 (fun b => fn_Types_forget b v1)) fun x126 =>
    ah_rd (ah_gR 10 (some t) 3) fun x130 =>
    ah_bnd (ah_cV 1 x130 (fun b => fn_Code_forget b v2)) fun x134 =>
    ah_ret v5)
def fn_BT_declare_J89 (t : Nat) (v1 : Int32) (v2 : Int32) (v3 : Option Nat) (v4 : Int32) (v5 : Int32) : ahM Int32 :=
  if v5 = 0 then (
    ah_rd (ah_gR 10 (some t) 7) fun x98 =>
    ah_no)
  else (
    fn_BT_declare_J108 t v1 v2 v3 v4 v5)
def fn_BT_declare_J70 (t : Nat) (v1 : Int32) (v2 : Int32) (v3 : Option Nat) (v4 : Int32) (v5 : Int32) : ahM Int32 :=
  if v5 = 0 then (
    ah_rd (ah_gR 10 (some t) 7) fun x79 =>
    ah_no)
  else (
    fn_BT_declare_J89 t v1 v2 v3 v4 v5)
def fn_BT_declare (t : Nat) : ahM Int32 :=
  ah_rd (ah_gR 10 (some t) 2) fun x1 =>
  ah_rd (ah_gI 0 x1 6) fun x4 =>
  ah_rd (ah_gR 10 (some t) 3) fun x9 =>
  ah_rd (ah_gI 1 x9 4) fun x12 =>
  ah_rd (ah_gR 10 (some t) 5) fun x17 =>
  ah_rd (ah_gI 10 (some t) 1) fun x21 =>
  ah_bnd (ah_cV 6 x17 (fun b => fn_Reader_readDeclaration b x21)) fun x24 =>
  ah_wr (ah_pI 10 (some t) 1 (0 : Int32)) <|
  ah_rd (ah_gR 10 (some t) 2) fun x34 =>
  ah_rd (ah_gI 0 x34 6) fun x37 =>
  ah_rd (ah_gR 10 (some t) 5) fun x43 =>
  ah_bnd (ah_cV 6 x43 (fun b => fn_Reader_answerIfFaulty b)) fun x46 =>
  if x46 = 0 then (
    ah_rd (ah_gR 10 (some t) 7) fun x60 =>
    ah_no)
  else (
    fn_BT_declare_J70 t x4 x12 x24 x37 x46)
def fn_Reader_isAtCast (t : Nat) : ahM Int32 :=
  ah_rd (ah_gR 6 (some t) 3) fun x1 =>
  ah_rd (ah_gI 6 (some t) 5) fun x5 =>
  ah_rd (ah_aI 1 x1 x5) fun x8 =>
  if x8 = (40 : Int32) then (
    ah_rd (ah_gR 6 (some t) 3) fun x15 =>
    ah_rd (ah_gI 6 (some t) 5) fun x19 =>
    ah_rd (ah_aI 1 x15 (x19 + (1 : Int32))) fun x24 =>
    if x24 < (65 : Int32) then (
      ah_retZ (0 : Int32))
    else (
      ah_rd (ah_gR 6 (some t) 3) fun x31 =>
      ah_rd (ah_gI 6 (some t) 5) fun x35 =>
      ah_rd (ah_aI 1 x31 (x35 + (1 : Int32))) fun x40 =>
      if (72 : Int32) < x40 then (
        ah_retZ (0 : Int32))
      else (
        ah_retZ (1 : Int32))))
  else (
    ah_retZ (0 : Int32))
def fn_Code_add (t : Nat) (v1 : Int32) (v2 : Int32) (v3 : Int32) (v4 : Int32) : ahM Int32 :=
  ah_rd (ah_gI 1 (some t) 4) fun x1 =>
  if x1 < (1120 : Int32) then (
    ah_rd (ah_gR 1 (some t) 0) fun x13 =>
    ah_rd (ah_gI 1 (some t) 4) fun x17 =>
    ah_wr (ah_sI 0 x13 x17 v1) <|
    ah_rd (ah_gR 1 (some t) 1) fun x23 =>
    ah_rd (ah_gI 1 (some t) 4) fun x27 =>
    ah_wr (ah_sI 0 x23 x27 v2) <|
    ah_rd (ah_gR 1 (some t) 2) fun x33 =>
    ah_rd (ah_gI 1 (some t) 4) fun x37 =>
    ah_wr (ah_sI 0 x33 x37 v3) <|
    ah_rd (ah_gR 1 (some t) 3) fun x43 =>
    ah_rd (ah_gI 1 (some t) 4) fun x47 =>
    ah_wr (ah_sI 0 x43 x47 v4) <|
    ah_rd (ah_gI 1 (some t) 4) fun x55 =>
    ah_wr (ah_pI 1 (some t) 4 (x55 + (1 : Int32))) <|
    ah_rd (ah_gI 1 (some t) 4) fun x64 =>
    ah_ret (x64 - (1 : Int32)))
  else (
    ah_ret (-1 : Int32))
def fn_Reader_slotOf (t : Nat) (v1 : Int32) : ahM Int32 :=
  ah_rd (ah_gR 6 (some t) 9) fun x1 =>
  if x1 = none then (
    ah_ret (-1 : Int32))
  else (
    ah_rd (ah_gR 6 (some t) 9) fun x10 =>
    ah_no)
def fn_Reader_base (t : Nat) : ahM Unit :=
  ah_rd (ah_gR 6 (some t) 3) fun x1 =>
  ah_rd (ah_gI 6 (some t) 5) fun x5 =>
  ah_rd (ah_aI 1 x1 x5) fun x8 =>
  if x8 = (40 : Int32) then (
    ah_bnd (ah_cV 6 (some t) (fun b => fn_Reader_open b (40 : Int32))) fun x17 =>
    ah_no)
  else (
    ah_rd (ah_gR 6 (some t) 3) fun x34 =>
    ah_rd (ah_gI 6 (some t) 5) fun x38 =>
    ah_rd (ah_aI 1 x34 x38) fun x41 =>
    if x41 = (42 : Int32) then (
      ah_rd (ah_gI 6 (some t) 5) fun x49 =>
      ah_wr (ah_pI 6 (some t) 5 (x49 + (1 : Int32))) <|
      ah_bnd (ah_cV 6 (some t) (fun b => fn_Reader_readType b (0 : Int32))) fun x59 =>
      ah_rd (ah_gR 6 (some t) 2) fun x64 =>
      ah_bnd (ah_cV 1 x64 (fun b => fn_Code_add b (4 : Int32) x59 (0 : Int32) (-1 : Int32))) fun x71 =>
      ah_no)
    else (
      ah_rd (ah_gR 6 (some t) 2) fun x112 =>
      ah_bnd (ah_cV 6 (some t) (fun b => fn_Reader_takeLetter b (97 : Int32) (122 : Int32))) fun x122 =>
      ah_bnd (ah_cV 6 (some t) (fun b => fn_Reader_slotOf b x122)) fun x125 =>
      ah_bnd (ah_cV 1 x112 (fun b => fn_Code_add b (0 : Int32) x125 (0 : Int32) (-1 : Int32))) fun x130 =>
      ah_ret ()))
def fn_Reader_expression_B117 (t : Nat) (v1 : Int32) (k117 : (Int32) → ahM Unit) : (Int32) → ahM Unit
  | v2 =>
    if v2 < v1 then (
      ah_wr (ah_pI 6 (some t) 8 v1) <|
      ah_ret ())
    else (
      ah_rd (ah_gR 6 (some t) 2) fun x123 =>
      ah_rd (ah_gR 6 (some t) 7) fun x129 =>
      ah_rd (ah_aI 0 x129 v2) fun x133 =>
      ah_bnd (ah_cV 1 x123 (fun b => fn_Code_add b (7 : Int32) x133 (0 : Int32) (-1 : Int32))) fun x136 =>
      k117 (v2 + (-1 : Int32)))
def fn_Reader_expression_J110 (t : Nat) (v1 : Int32) : ahM Unit :=
  ah_rd (ah_gI 6 (some t) 8) fun x111 =>
  ah_lp (fn_Reader_expression_B117 t v1) FU (x111 - (1 : Int32))
def fn_Reader_expression_B79 (t : Nat) (v1 : Int32) (k79 : (Int32) → ahM Unit) : (Int32) → ahM Unit
  | v2 =>
    if (140 : Int32) ≤ v2 then (
      fn_Reader_expression_J110 t v1)
    else (
      ah_rd (ah_gR 6 (some t) 3) fun x87 =>
      ah_rd (ah_gI 6 (some t) 5) fun x91 =>
      ah_rd (ah_aI 1 x87 x91) fun x94 =>
      if x94 = (46 : Int32) then (
        ah_no)
      else (
        fn_Reader_expression_J110 t v1))
def fn_Reader_expression_J73 (t : Nat) (v1 : Int32) : ahM Unit :=
  ah_bnd (ah_cV 6 (some t) (fun b => fn_Reader_base b)) fun x74 =>
  ah_lp (fn_Reader_expression_B79 t v1) FU (0 : Int32)
def fn_Reader_expression_B7 (t : Nat) (v1 : Int32) (k7 : (Int32) → ahM Unit) : (Int32) → ahM Unit
  | v2 =>
    if (140 : Int32) ≤ v2 then (
      fn_Reader_expression_J73 t v1)
    else (
      ah_bnd (ah_cV 6 (some t) (fun b => fn_Reader_isAtCast b)) fun x15 =>
      if x15 = 0 then (
        fn_Reader_expression_J73 t v1)
      else (
        ah_rd (ah_gI 6 (some t) 8) fun x22 =>
        if (140 : Int32) ≤ x22 then (
          fn_Reader_expression_J73 t v1)
        else (
          ah_no)))
def fn_Reader_expression (t : Nat) : ahM Unit :=
  ah_rd (ah_gI 6 (some t) 8) fun x1 =>
  ah_lp (fn_Reader_expression_B7 t x1) FU (0 : Int32)
def fn_Entry_methodNamed (t : Nat) (v1 : Int32) : ahM (Option Nat) :=
  if v1 < 0 then (
    ah_ret none)
  else (
    if (26 : Int32) ≤ v1 then (
      ah_ret none)
    else (
      ah_rd (ah_gR 4 (some t) 5) fun x11 =>
      ah_rd (ah_aR 2 x11 v1) fun x15 =>
      ah_ret x15))
def fn_Reader_readExpression (t : Nat) (v1 : Int32) : ahM Unit :=
  ah_bnd (ah_cV 6 (some t) (fun b => fn_Reader_start b v1)) fun x2 =>
  ah_bnd (ah_cV 6 (some t) (fun b => fn_Reader_expression b)) fun x6 =>
  ah_bnd (ah_cV 6 (some t) (fun b => fn_Reader_takeEnd b)) fun x10 =>
  ah_ret ()
def fn_Machine_dropValue (t : Nat) : ahM Unit :=
  ah_wr (ah_pI 9 (some t) 14 (0 : Int32)) <|
  ah_ret ()
def fn_BT_run_J126 (t : Nat) (v2 : Int32) (v3 : Int32) (v4 : Int32) : ahM Int32 :=
  ah_rd (ah_gR 10 (some t) 2) fun x127 =>
  ah_bnd (ah_cV 0 x127 (fun b => fn_Types_forget b v2)) fun x131 =>
  ah_rd (ah_gR 10 (some t) 3) fun x135 =>
  ah_bnd (ah_cV 1 x135 (fun b => fn_Code_forget b v3)) fun x139 =>
  ah_ret v4
def fn_BT_run_J103 (t : Nat) (v1 : Int32) (v2 : Int32) (v3 : Int32) (v4 : Int32) : ahM Int32 :=
  if v4 = 0 then (
    ah_rd (ah_gR 10 (some t) 8) fun x109 =>
    ah_rd (ah_gR 10 (some t) 3) fun x114 =>
    ah_rd (ah_gI 1 x114 4) fun x117 =>
    ah_no)
  else (
    fn_BT_run_J126 t v2 v3 v4)
def fn_BT_run (t : Nat) (v1 : Int32) : ahM Int32 :=
  if v1 < 0 then (
    ah_ret (-100000 : Int32))
  else (
    if v1 ≤ (40 : Int32) then (
      ah_rd (ah_gR 10 (some t) 2) fun x14 =>
      ah_rd (ah_gI 0 x14 6) fun x17 =>
      ah_rd (ah_gR 10 (some t) 3) fun x22 =>
      ah_rd (ah_gI 1 x22 4) fun x25 =>
      ah_rd (ah_gR 10 (some t) 5) fun x30 =>
      ah_rd (ah_gI 10 (some t) 1) fun x34 =>
      ah_bnd (ah_cV 6 x30 (fun b => fn_Reader_readExpression b x34)) fun x37 =>
      ah_wr (ah_pI 10 (some t) 1 (0 : Int32)) <|
      ah_rd (ah_gR 10 (some t) 8) fun x46 =>
      ah_bnd (ah_cV 9 x46 (fun b => fn_Machine_dropValue b)) fun x49 =>
      ah_rd (ah_gR 10 (some t) 5) fun x53 =>
      ah_bnd (ah_cV 6 x53 (fun b => fn_Reader_answerIfFaulty b)) fun x56 =>
      if x56 = 0 then (
        ah_rd (ah_gR 10 (some t) 4) fun x67 =>
        ah_no)
      else (
        fn_BT_run_J103 t v1 x17 x25 x56))
    else (
      ah_ret (-100000 : Int32)))
def fn_Rules_classWithMethod_J33 (t : Nat) (v3 : Int32) (v5 : Option Nat) : ahM Int32 :=
  if v5 = none then (
    ah_ret (-1 : Int32))
  else (
    ah_ret v3)
def fn_Rules_classWithMethod_B5 (t : Nat) (v2 : Int32) (k5 : (Int32 × Int32) → ahM Int32) : (Int32 × Int32) → ahM Int32
  | (v3, v4) =>
    if (8 : Int32) ≤ v4 then (
      ah_ret (-1 : Int32))
    else (
      ah_bnd (ah_cV 5 (some t) (fun b => fn_Rules_entryNamed b v3)) fun x14 =>
      if x14 = none then (
        fn_Rules_classWithMethod_J33 t v3 x14)
      else (
        ah_bnd (ah_cV 4 x14 (fun b => fn_Entry_methodNamed b v2)) fun x27 =>
        if x27 = none then (
          ah_rd (ah_gI 4 x14 3) fun x46 =>
          k5 (x46, (v4 + (1 : Int32))))
        else (
          fn_Rules_classWithMethod_J33 t v3 x14)))
def fn_Rules_classWithMethod (t : Nat) (v1 : Int32) (v2 : Int32) : ahM Int32 :=
  ah_lp (fn_Rules_classWithMethod_B5 t v2) FU (v1, (0 : Int32))
def fn_BT_length (t : Nat) : ahM Int32 :=
  ah_rd (ah_gR 10 (some t) 8) fun x1 =>
  ah_rd (ah_gI 9 x1 14) fun x4 =>
  ah_ret x4
def fn_BT_at_J15 (t : Nat) : ahM Int32 :=
  ah_ret (-1 : Int32)
def fn_BT_at (t : Nat) (v1 : Int32) : ahM Int32 :=
  if v1 < 0 then (
    fn_BT_at_J15 t)
  else (
    ah_rd (ah_gR 10 (some t) 8) fun x6 =>
    ah_rd (ah_gI 9 x6 14) fun x9 =>
    if v1 < x9 then (
      ah_rd (ah_gR 10 (some t) 8) fun x20 =>
      ah_rd (ah_gR 9 x20 13) fun x23 =>
      ah_rd (ah_aI 1 x23 v1) fun x27 =>
      ah_ret x27)
    else (
      fn_BT_at_J15 t))
def fn_BT_left (t : Nat) : ahM Int32 :=
  ah_rd (ah_gR 10 (some t) 8) fun x1 =>
  ah_rd (ah_gI 9 x1 12) fun x4 =>
  ah_ret x4
def fn_BT_fields (t : Nat) (v1 : Int32) : ahM Int32 :=
  ah_rd (ah_gR 10 (some t) 4) fun x1 =>
  ah_bnd (ah_cV 5 x1 (fun b => fn_Rules_entryNamed b v1)) fun x5 =>
  if x5 = none then (
    ah_ret (-1 : Int32))
  else (
    ah_rd (ah_gI 4 x5 9) fun x18 =>
    ah_ret x18)
def fn_BT_method (t : Nat) (v1 : Int32) (v2 : Int32) : ahM Int32 :=
  ah_rd (ah_gR 10 (some t) 4) fun x1 =>
  ah_bnd (ah_cV 5 x1 (fun b => fn_Rules_classWithMethod b v1 v2)) fun x6 =>
  ah_ret x6
def fn_Md_noScope_B2 (t : Nat) (k2 : (Int32) → ahM Unit) : (Int32) → ahM Unit
  | v1 =>
    if (8 : Int32) ≤ v1 then (
      ah_ret ())
    else (
      ah_rd (ah_gR 12 (some t) 14) fun x9 =>
      ah_wr (ah_sI 0 x9 v1 (-1 : Int32)) <|
      k2 (v1 + (1 : Int32)))
def fn_Md_noScope (t : Nat) : ahM Unit :=
  ah_lp (fn_Md_noScope_B2 t) FU (0 : Int32)
def fn_Md_init_B373 (t : Nat) (k373 : (Int32) → ahM Unit) : (Int32) → ahM Unit
  | v1 =>
    if (8 : Int32) ≤ v1 then (
      ah_wr (ah_pI 12 (some t) 7 (8 : Int32)) <|
      ah_rd (ah_gR 12 (some t) 15) fun x399 =>
      ah_wr (ah_sI 0 x399 (0 : Int32) (2 : Int32)) <|
      ah_rd (ah_gR 12 (some t) 19) fun x406 =>
      ah_wr (ah_sI 0 x406 (0 : Int32) (-1 : Int32)) <|
      ah_bnd (ah_cV 12 (some t) (fun b => fn_Md_noScope b)) fun x413 =>
      ah_ret ())
    else (
      ah_rd (ah_gR 12 (some t) 8) fun x380 =>
      ah_wr (ah_sI 0 x380 v1 v1) <|
      k373 (v1 + (1 : Int32)))
def fn_Md_init (t : Nat) : ahM Unit :=
  ah_bnd (ah_na 0 (140 : Int32)) fun x8 =>
  ah_wr (ah_pR 12 (some t) 0 x8) <|
  ah_bnd (ah_na 0 (3000 : Int32)) fun x17 =>
  ah_wr (ah_pR 12 (some t) 8 x17) <|
  ah_bnd (ah_na 0 (9000 : Int32)) fun x26 =>
  ah_wr (ah_pR 12 (some t) 9 x26) <|
  ah_bnd (ah_na 0 (3000 : Int32)) fun x35 =>
  ah_wr (ah_pR 12 (some t) 10 x35) <|
  ah_bnd (ah_na 0 (160 : Int32)) fun x44 =>
  ah_wr (ah_pR 12 (some t) 11 x44) <|
  ah_bnd (ah_na 0 (40 : Int32)) fun x52 =>
  ah_wr (ah_pR 12 (some t) 12 x52) <|
  ah_bnd (ah_na 0 (8 : Int32)) fun x60 =>
  ah_wr (ah_pR 12 (some t) 13 x60) <|
  ah_bnd (ah_na 0 (8 : Int32)) fun x68 =>
  ah_wr (ah_pR 12 (some t) 14 x68) <|
  ah_bnd (ah_na 0 (8 : Int32)) fun x76 =>
  ah_wr (ah_pR 12 (some t) 15 x76) <|
  ah_bnd (ah_na 0 (8 : Int32)) fun x84 =>
  ah_wr (ah_pR 12 (some t) 16 x84) <|
  ah_bnd (ah_na 0 (24 : Int32)) fun x92 =>
  ah_wr (ah_pR 12 (some t) 17 x92) <|
  ah_bnd (ah_na 0 (24 : Int32)) fun x100 =>
  ah_wr (ah_pR 12 (some t) 18 x100) <|
  ah_bnd (ah_na 0 (8 : Int32)) fun x108 =>
  ah_wr (ah_pR 12 (some t) 19 x108) <|
  ah_bnd (ah_na 0 (3 : Int32)) fun x115 =>
  ah_wr (ah_pR 12 (some t) 21 x115) <|
  ah_bnd (ah_na 0 (3 : Int32)) fun x122 =>
  ah_wr (ah_pR 12 (some t) 22 x122) <|
  ah_bnd (ah_na 0 (90 : Int32)) fun x130 =>
  ah_wr (ah_pR 12 (some t) 24 x130) <|
  ah_bnd (ah_na 0 (90 : Int32)) fun x138 =>
  ah_wr (ah_pR 12 (some t) 25 x138) <|
  ah_bnd (ah_na 0 (90 : Int32)) fun x146 =>
  ah_wr (ah_pR 12 (some t) 26 x146) <|
  ah_bnd (ah_na 0 (200 : Int32)) fun x155 =>
  ah_wr (ah_pR 12 (some t) 28 x155) <|
  ah_bnd (ah_na 0 (200 : Int32)) fun x164 =>
  ah_wr (ah_pR 12 (some t) 29 x164) <|
  ah_bnd (ah_na 0 (200 : Int32)) fun x173 =>
  ah_wr (ah_pR 12 (some t) 30 x173) <|
  ah_bnd (ah_na 0 (600 : Int32)) fun x182 =>
  ah_wr (ah_pR 12 (some t) 31 x182) <|
  ah_bnd (ah_na 0 (600 : Int32)) fun x191 =>
  ah_wr (ah_pR 12 (some t) 32 x191) <|
  ah_bnd (ah_na 0 (200 : Int32)) fun x200 =>
  ah_wr (ah_pR 12 (some t) 33 x200) <|
  ah_bnd (ah_na 0 (600 : Int32)) fun x209 =>
  ah_wr (ah_pR 12 (some t) 34 x209) <|
  ah_bnd (ah_na 0 (600 : Int32)) fun x218 =>
  ah_wr (ah_pR 12 (some t) 35 x218) <|
  ah_bnd (ah_na 0 (200 : Int32)) fun x227 =>
  ah_wr (ah_pR 12 (some t) 36 x227) <|
  ah_bnd (ah_na 0 (200 : Int32)) fun x236 =>
  ah_wr (ah_pR 12 (some t) 37 x236) <|
  ah_bnd (ah_na 0 (200 : Int32)) fun x245 =>
  ah_wr (ah_pR 12 (some t) 38 x245) <|
  ah_bnd (ah_nl 4 (1600 : Int32)) fun x254 =>
  ah_wr (ah_pR 12 (some t) 40 x254) <|
  ah_bnd (ah_na 0 (60 : Int32)) fun x262 =>
  ah_wr (ah_pR 12 (some t) 42 x262) <|
  ah_bnd (ah_na 0 (150 : Int32)) fun x271 =>
  ah_wr (ah_pR 12 (some t) 43 x271) <|
  ah_bnd (ah_na 0 (150 : Int32)) fun x280 =>
  ah_wr (ah_pR 12 (some t) 44 x280) <|
  ah_bnd (ah_na 0 (150 : Int32)) fun x289 =>
  ah_wr (ah_pR 12 (some t) 45 x289) <|
  ah_bnd (ah_na 0 (150 : Int32)) fun x298 =>
  ah_wr (ah_pR 12 (some t) 46 x298) <|
  ah_bnd (ah_na 0 (450 : Int32)) fun x307 =>
  ah_wr (ah_pR 12 (some t) 47 x307) <|
  ah_bnd (ah_na 0 (700 : Int32)) fun x316 =>
  ah_wr (ah_pR 12 (some t) 48 x316) <|
  ah_bnd (ah_na 0 (2800 : Int32)) fun x325 =>
  ah_wr (ah_pR 12 (some t) 50 x325) <|
  ah_bnd (ah_na 0 (14 : Int32)) fun x333 =>
  ah_wr (ah_pR 12 (some t) 51 x333) <|
  ah_bnd (ah_na 0 (14 : Int32)) fun x341 =>
  ah_wr (ah_pR 12 (some t) 52 x341) <|
  ah_bnd (ah_na 0 (14 : Int32)) fun x349 =>
  ah_wr (ah_pR 12 (some t) 53 x349) <|
  ah_bnd (ah_na 0 (42 : Int32)) fun x357 =>
  ah_wr (ah_pR 12 (some t) 54 x357) <|
  ah_bnd (ah_na 0 (200 : Int32)) fun x366 =>
  ah_wr (ah_pR 12 (some t) 55 x366) <|
  ah_lp (fn_Md_init_B373 t) FU (0 : Int32)
def fn_Md_in (v0 : Int32) (v1 : Int32) (v2 : Int32) : ahM Int32 :=
  if v0 < v1 then (
    ah_retZ (0 : Int32))
  else (
    if v2 < v0 then (
      ah_retZ (0 : Int32))
    else (
      ah_retZ (1 : Int32)))
def fn_Md_type_B70 (t : Nat) (v1 : Int32) (v3 : Int32) (k70 : (Int32) → ahM Int32) : (Int32) → ahM Int32
  | v4 =>
    if v4 < 0 then (
      ah_retZ v3)
    else (
      if v3 = 0 then (
        ah_retZ v3)
      else (
        ah_rd (ah_gR 12 (some t) 0) fun x80 =>
        ah_rd (ah_gI 12 (some t) 1) fun x84 =>
        ah_wr (ah_sI 0 x80 x84 ((v1 >>> (((8 : Int32) * v4) &&& 31)) &&& (255 : Int32))) <|
        ah_rd (ah_gI 12 (some t) 1) fun x101 =>
        ah_wr (ah_pI 12 (some t) 1 (x101 + (1 : Int32))) <|
        k70 (v4 + (-1 : Int32))))
def fn_Md_type_J65 (t : Nat) (v1 : Int32) (v2 : Int32) (v3 : Int32) : ahM Int32 :=
  ah_lp (fn_Md_type_B70 t v1 v3) FU (v2 - (1 : Int32))
def fn_Md_type_B30 (t : Nat) (v1 : Int32) (v2 : Int32) (k30 : (Int32 × Int32) → ahM Int32) : (Int32 × Int32) → ahM Int32
  | (v3, v4) =>
    if v2 ≤ v4 then (
      fn_Md_type_J65 t v1 v2 v3)
    else (
      if v3 = 0 then (
        fn_Md_type_J65 t v1 v2 v3)
      else (
        ah_bnd (fn_Md_in ((v1 >>> (((8 : Int32) * v4) &&& 31)) &&& (255 : Int32)) (32 : Int32) (126 : Int32)) fun x55 =>
        k30 (x55, (v4 + (1 : Int32)))))
def fn_Md_type_J26 (t : Nat) (v1 : Int32) (v2 : Int32) (w0 : Int32) : ahM Int32 :=
  ah_lp (fn_Md_type_B30 t v1 v2) FU (w0, (0 : Int32))
def fn_Md_type_J25 (t : Nat) (v1 : Int32) (v2 : Int32) : ahM Int32 :=
  fn_Md_type_J26 t v1 v2 (0 : Int32)
def fn_Md_type (t : Nat) (v1 : Int32) (v2 : Int32) : ahM Int32 :=
  ah_bnd (fn_Md_in v2 (1 : Int32) (4 : Int32)) fun x3 =>
  if x3 = 0 then (
    fn_Md_type_J25 t v1 v2)
  else (
    ah_rd (ah_gI 12 (some t) 1) fun x10 =>
    if (140 : Int32) < (x10 + v2) then (
      fn_Md_type_J25 t v1 v2)
    else (
      fn_Md_type_J26 t v1 v2 (1 : Int32)))
def fn_Md_begin (t : Nat) : ahM Unit :=
  ah_wr (ah_pI 12 (some t) 3 (0 : Int32)) <|
  ah_rd (ah_gI 12 (some t) 1) fun x7 =>
  ah_wr (ah_pI 12 (some t) 2 x7) <|
  ah_wr (ah_pI 12 (some t) 1 (0 : Int32)) <|
  ah_wr (ah_pI 12 (some t) 4 (0 : Int32)) <|
  ah_wr (ah_pI 12 (some t) 5 (-1 : Int32)) <|
  ah_wr (ah_pI 12 (some t) 20 (0 : Int32)) <|
  ah_ret ()
def fn_Md_look_J38 (t : Nat) : ahM Int32 :=
  ah_rd (ah_gI 12 (some t) 3) fun x39 =>
  ah_rd (ah_gI 12 (some t) 2) fun x43 =>
  if x43 ≤ x39 then (
    ah_ret (-1 : Int32))
  else (
    ah_rd (ah_gR 12 (some t) 0) fun x50 =>
    ah_rd (ah_gI 12 (some t) 3) fun x54 =>
    ah_rd (ah_aI 0 x50 x54) fun x57 =>
    ah_ret x57)
def fn_Md_look_B0 (t : Nat) (k0 : (Unit) → ahM Int32) : (Unit) → ahM Int32
  | _ =>
    ah_rd (ah_gI 12 (some t) 3) fun x1 =>
    ah_rd (ah_gI 12 (some t) 2) fun x5 =>
    if x5 ≤ x1 then (
      fn_Md_look_J38 t)
    else (
      ah_rd (ah_gR 12 (some t) 0) fun x12 =>
      ah_rd (ah_gI 12 (some t) 3) fun x16 =>
      ah_rd (ah_aI 0 x12 x16) fun x19 =>
      if x19 = (32 : Int32) then (
        ah_rd (ah_gI 12 (some t) 3) fun x27 =>
        ah_wr (ah_pI 12 (some t) 3 (x27 + (1 : Int32))) <|
        k0 ())
      else (
        fn_Md_look_J38 t))
def fn_Md_look (t : Nat) : ahM Int32 :=
  ah_rd (ah_gI 12 (some t) 3) fun x1 =>
  ah_rd (ah_gI 12 (some t) 2) fun x5 =>
  if x5 ≤ x1 then (
    fn_Md_look_J38 t)
  else (
    ah_rd (ah_gR 12 (some t) 0) fun x12 =>
    ah_rd (ah_gI 12 (some t) 3) fun x16 =>
    ah_rd (ah_aI 0 x12 x16) fun x19 =>
    if x19 = (32 : Int32) then (
      ah_rd (ah_gI 12 (some t) 3) fun x27 =>
      ah_wr (ah_pI 12 (some t) 3 (x27 + (1 : Int32))) <|
      ah_lp (fn_Md_look_B0 t) FU ())
    else (
      fn_Md_look_J38 t))
def fn_Md_fail_J24 (t : Nat) (w0 : Option Nat) (w1 : Int32) : ahM Unit :=
  ah_wr (ah_pI 12 w0 5 w1) <|
  ah_ret ()
def fn_Md_fail (t : Nat) : ahM Unit :=
  ah_bnd (ah_cV 12 (some t) (fun b => fn_Md_look b)) fun x1 =>
  ah_rd (ah_gI 12 (some t) 5) fun x7 =>
  if 0 ≤ x7 then (
    ah_rd (ah_gI 12 (some t) 5) fun x21 =>
    fn_Md_fail_J24 t (some t) x21)
  else (
    ah_rd (ah_gI 12 (some t) 3) fun x14 =>
    fn_Md_fail_J24 t (some t) x14)
def fn_Md_readLetter_J18 (t : Nat) (v1 : Int32) (v3 : Int32) : ahM Int32 :=
  ah_rd (ah_gI 12 (some t) 3) fun x20 =>
  ah_wr (ah_pI 12 (some t) 3 (x20 + (1 : Int32))) <|
  ah_rd (ah_gI 12 (some t) 5) fun x29 =>
  if 0 ≤ x29 then (
    ah_ret (0 : Int32))
  else (
    ah_ret (v3 - v1))
def fn_Md_readLetter (t : Nat) (v1 : Int32) (v2 : Int32) : ahM Int32 :=
  ah_bnd (ah_cV 12 (some t) (fun b => fn_Md_look b)) fun x1 =>
  ah_bnd (fn_Md_in x1 v1 v2) fun x8 =>
  if x8 = 0 then (
    ah_bnd (ah_cV 12 (some t) (fun b => fn_Md_fail b)) fun x15 =>
    fn_Md_readLetter_J18 t v1 x1)
  else (
    fn_Md_readLetter_J18 t v1 x1)
def fn_Md_open_J21 (t : Nat) : ahM Unit :=
  ah_rd (ah_gI 12 (some t) 3) fun x23 =>
  ah_wr (ah_pI 12 (some t) 3 (x23 + (1 : Int32))) <|
  ah_rd (ah_gI 12 (some t) 4) fun x33 =>
  ah_wr (ah_pI 12 (some t) 4 (x33 + (1 : Int32))) <|
  ah_ret ()
def fn_Md_open_J17 (t : Nat) : ahM Unit :=
  ah_bnd (ah_cV 12 (some t) (fun b => fn_Md_fail b)) fun x18 =>
  fn_Md_open_J21 t
def fn_Md_open (t : Nat) (v1 : Int32) : ahM Unit :=
  ah_bnd (ah_cV 12 (some t) (fun b => fn_Md_look b)) fun x1 =>
  if x1 = v1 then (
    ah_rd (ah_gI 12 (some t) 4) fun x9 =>
    if x9 = (8 : Int32) then (
      fn_Md_open_J17 t)
    else (
      fn_Md_open_J21 t))
  else (
    fn_Md_open_J17 t)
def fn_Md_expect_J12 (t : Nat) : ahM Unit :=
  ah_rd (ah_gI 12 (some t) 3) fun x14 =>
  ah_wr (ah_pI 12 (some t) 3 (x14 + (1 : Int32))) <|
  ah_ret ()
def fn_Md_expect (t : Nat) (v1 : Int32) : ahM Unit :=
  ah_bnd (ah_cV 12 (some t) (fun b => fn_Md_look b)) fun x1 =>
  if x1 = v1 then (
    fn_Md_expect_J12 t)
  else (
    ah_bnd (ah_cV 12 (some t) (fun b => fn_Md_fail b)) fun x9 =>
    fn_Md_expect_J12 t)
def fn_Md_close_J12 (t : Nat) : ahM Unit :=
  ah_rd (ah_gI 12 (some t) 3) fun x14 =>
  ah_wr (ah_pI 12 (some t) 3 (x14 + (1 : Int32))) <|
  ah_rd (ah_gI 12 (some t) 4) fun x24 =>
  ah_wr (ah_pI 12 (some t) 4 (x24 - (1 : Int32))) <|
  ah_ret ()
def fn_Md_close (t : Nat) (v1 : Int32) : ahM Unit :=
  ah_bnd (ah_cV 12 (some t) (fun b => fn_Md_look b)) fun x1 =>
  if x1 = v1 then (
    fn_Md_close_J12 t)
  else (
    ah_bnd (ah_cV 12 (some t) (fun b => fn_Md_fail b)) fun x9 =>
    fn_Md_close_J12 t)
def fn_Md_readType_J258 (t : Nat) (v1 : Int32) (v2 : Int32) (v3 : Int32) (w0 : Int32) (k7 : (Int32 × Int32 × Int32) → ahM Int32) : ahM Int32 :=
  k7 (v2, v3, w0)
def fn_Md_readType_J257 (t : Nat) (v1 : Int32) (v2 : Int32) (v3 : Int32) (k7 : (Int32 × Int32 × Int32) → ahM Int32) : ahM Int32 :=
  fn_Md_readType_J258 t v1 v2 v3 (0 : Int32) k7
def fn_Md_readType_J244 (t : Nat) (v1 : Int32) (v2 : Int32) (v3 : Int32) (v7 : Int32) (k7 : (Int32 × Int32 × Int32) → ahM Int32) : ahM Int32 :=
  if v7 = 0 then (
    if v2 = 0 then (
      fn_Md_readType_J258 t v1 v2 v3 (1 : Int32) k7)
    else (
      fn_Md_readType_J257 t v1 v2 v3 k7))
  else (
    fn_Md_readType_J257 t v1 v2 v3 k7)
def fn_Md_readType_J240 (t : Nat) (v1 : Int32) (v2 : Int32) (v7 : Int32) (w0 : Int32) (k7 : (Int32 × Int32 × Int32) → ahM Int32) (k148 : (Int32 × Int32 × Int32) → ahM Int32) : ahM Int32 :=
  k148 (v2, w0, v7)
def fn_Md_readType_J214 (t : Nat) (v1 : Int32) (v2 : Int32) (v7 : Int32) (k7 : (Int32 × Int32 × Int32) → ahM Int32) (k148 : (Int32 × Int32 × Int32) → ahM Int32) : ahM Int32 :=
  ah_bnd (ah_cV 12 (some t) (fun b => fn_Md_close b (93 : Int32))) fun x217 =>
  ah_rd (ah_gI 12 (some t) 5) fun x225 =>
  if 0 ≤ x225 then (
    fn_Md_readType_J240 t v1 (v2 - (1 : Int32)) v7 (0 : Int32) k7 k148)
  else (
    ah_no)
def fn_Md_readType_B148 (t : Nat) (v1 : Int32) (k7 : (Int32 × Int32 × Int32) → ahM Int32) (k148 : (Int32 × Int32 × Int32) → ahM Int32) : (Int32 × Int32 × Int32) → ahM Int32
  | (v2, v3, v7) =>
    ah_rd (ah_gI 12 (some t) 5) fun x149 =>
    if 0 ≤ x149 then (
      fn_Md_readType_J244 t v1 v2 v3 v7 k7)
    else (
      if v7 = 0 then (
        if v2 ≤ 0 then (
          fn_Md_readType_J244 t v1 v2 v3 v7 k7)
        else (
          ah_no))
      else (
        fn_Md_readType_J244 t v1 v2 v3 v7 k7))
def fn_Md_readType_J144 (t : Nat) (v1 : Int32) (v2 : Int32) (v3 : Int32) (v5 : Int32) (k7 : (Int32 × Int32 × Int32) → ahM Int32) : ahM Int32 :=
  ah_lp (fn_Md_readType_B148 t v1 k7) FU (v2, v3, v5)
def fn_Md_readType_J91 (t : Nat) (v1 : Int32) (v2 : Int32) (v3 : Int32) (v7 : Int32) (w0 : Int32) (k7 : (Int32 × Int32 × Int32) → ahM Int32) : ahM Int32 :=
  if w0 = 0 then (
    ah_rd (ah_gI 12 (some t) 5) fun x125 =>
    if 0 ≤ x125 then (
      fn_Md_readType_J144 t v1 v2 v3 w0 k7)
    else (
      ah_no))
  else (
    ah_bnd (ah_cV 12 (some t) (fun b => fn_Md_open b (91 : Int32))) fun x101 =>
    ah_rd (ah_gR 12 (some t) 12) fun x105 =>
    ah_wr (ah_sI 0 x105 ((4 : Int32) * v2) ((100 : Int32) * v7)) <|
    fn_Md_readType_J144 t v1 (v2 + (1 : Int32)) v3 w0 k7)
def fn_Md_readType_J90 (t : Nat) (v1 : Int32) (v2 : Int32) (v3 : Int32) (v7 : Int32) (k7 : (Int32 × Int32 × Int32) → ahM Int32) : ahM Int32 :=
  fn_Md_readType_J91 t v1 v2 v3 v7 (0 : Int32) k7
def fn_Md_readType_J60 (t : Nat) (v1 : Int32) (v2 : Int32) (v3 : Int32) (k7 : (Int32 × Int32 × Int32) → ahM Int32) : ahM Int32 :=
  ah_bnd (ah_cV 12 (some t) (fun b => fn_Md_readLetter b (65 : Int32) (72 : Int32))) fun x65 =>
  ah_rd (ah_gI 12 (some t) 5) fun x71 =>
  if 0 ≤ x71 then (
    fn_Md_readType_J90 t v1 v2 v3 x65 k7)
  else (
    ah_bnd (ah_cV 12 (some t) (fun b => fn_Md_look b)) fun x78 =>
    if x78 = (91 : Int32) then (
      fn_Md_readType_J91 t v1 v2 v3 x65 (1 : Int32) k7)
    else (
      fn_Md_readType_J90 t v1 v2 v3 x65 k7))
def fn_Md_readType_J48 (t : Nat) (v1 : Int32) (v2 : Int32) (v5 : Int32) (k7 : (Int32 × Int32 × Int32) → ahM Int32) : ahM Int32 :=
  ah_bnd (ah_cV 12 (some t) (fun b => fn_Md_readLetter b (83 : Int32) (90 : Int32))) fun x53 =>
  fn_Md_readType_J144 t v1 v2 x53 v5 k7
def fn_Md_readType_B7 (t : Nat) (v1 : Int32) (k7 : (Int32 × Int32 × Int32) → ahM Int32) : (Int32 × Int32 × Int32) → ahM Int32
  | (v2, v3, v4) =>
    ah_rd (ah_gI 12 (some t) 5) fun x8 =>
    if 0 ≤ x8 then (
      ah_ret v3)
    else (
      if v4 = 0 then (
        ah_bnd (ah_cV 12 (some t) (fun b => fn_Md_look b)) fun x23 =>
        ah_bnd (fn_Md_in x23 (83 : Int32) (90 : Int32)) fun x34 =>
        if x34 = 0 then (
          fn_Md_readType_J60 t v1 v2 v3 k7)
        else (
          if 0 < v2 then (
            fn_Md_readType_J48 t v1 v2 (0 : Int32) k7)
          else (
            if v1 = 0 then (
              fn_Md_readType_J48 t v1 v2 (0 : Int32) k7)
            else (
              fn_Md_readType_J60 t v1 v2 v3 k7))))
      else (
        ah_ret v3))
def fn_Md_readType (t : Nat) (v1 : Int32) : ahM Int32 :=
  ah_lp (fn_Md_readType_B7 t v1) FU ((0 : Int32), (0 : Int32), (0 : Int32))
def fn_Md_readBounds_J119 (t : Nat) (v4 : Int32) : ahM Int32 :=
  ah_bnd (ah_cV 12 (some t) (fun b => fn_Md_close b (93 : Int32))) fun x122 =>
  ah_ret v4
def fn_Md_readBounds_J113 (t : Nat) (v1 : Option Nat) (v2 : Option Nat) (v3 : Int32) (v4 : Int32) (v5 : Int32) (w0 : Option Nat) (w1 : Int32) (k23 : (Int32 × Int32) → ahM Int32) : ahM Int32 :=
  ah_wr (ah_pI 12 w0 3 w1) <|
  k23 (v4, v5)
def fn_Md_readBounds_J92 (t : Nat) (v1 : Option Nat) (v2 : Option Nat) (v3 : Int32) (v4 : Int32) (w0 : Int32) (k23 : (Int32 × Int32) → ahM Int32) : ahM Int32 :=
  if w0 = 0 then (
    ah_rd (ah_gI 12 (some t) 3) fun x110 =>
    fn_Md_readBounds_J113 t v1 v2 v3 v4 w0 (some t) x110 k23)
  else (
    ah_rd (ah_gI 12 (some t) 3) fun x101 =>
    fn_Md_readBounds_J113 t v1 v2 v3 v4 w0 (some t) (x101 + (1 : Int32)) k23)
def fn_Md_readBounds_J91 (t : Nat) (v1 : Option Nat) (v2 : Option Nat) (v3 : Int32) (v4 : Int32) (k23 : (Int32 × Int32) → ahM Int32) : ahM Int32 :=
  fn_Md_readBounds_J92 t v1 v2 v3 v4 (0 : Int32) k23
def fn_Md_readBounds_B23 (t : Nat) (v1 : Option Nat) (v2 : Option Nat) (v3 : Int32) (k23 : (Int32 × Int32) → ahM Int32) : (Int32 × Int32) → ahM Int32
  | (v4, v5) =>
    if v5 = 0 then (
      fn_Md_readBounds_J119 t v4)
    else (
      ah_rd (ah_gI 12 (some t) 5) fun x29 =>
      if 0 ≤ x29 then (
        fn_Md_readBounds_J119 t v4)
      else (
        ah_bnd (ah_cV 12 (some t) (fun b => fn_Md_readLetter b (83 : Int32) (90 : Int32))) fun x45 =>
        ah_wr (ah_sI 0 v1 (v3 + v4) x45) <|
        ah_bnd (ah_cV 12 (some t) (fun b => fn_Md_expect b (58 : Int32))) fun x52 =>
        ah_bnd (ah_cV 12 (some t) (fun b => fn_Md_readType b (1 : Int32))) fun x62 =>
        ah_wr (ah_sI 0 v2 (v3 + v4) x62) <|
        ah_bnd (ah_cV 12 (some t) (fun b => fn_Md_look b)) fun x73 =>
        if x73 = (44 : Int32) then (
          if (3 : Int32) ≤ (v4 + (1 : Int32)) then (
            fn_Md_readBounds_J91 t v1 v2 v3 (v4 + (1 : Int32)) k23)
          else (
            fn_Md_readBounds_J92 t v1 v2 v3 (v4 + (1 : Int32)) (1 : Int32) k23))
        else (
          fn_Md_readBounds_J91 t v1 v2 v3 (v4 + (1 : Int32)) k23)))
def fn_Md_readBounds (t : Nat) (v1 : Option Nat) (v2 : Option Nat) (v3 : Int32) : ahM Int32 :=
  ah_bnd (ah_cV 12 (some t) (fun b => fn_Md_look b)) fun x1 =>
  if x1 = (91 : Int32) then (
    ah_bnd (ah_cV 12 (some t) (fun b => fn_Md_open b (91 : Int32))) fun x14 =>
    ah_lp (fn_Md_readBounds_B23 t v1 v2 v3) FU ((0 : Int32), (1 : Int32)))
  else (
    ah_ret (0 : Int32))
def fn_Md_declare_J209 (t : Nat) (v1 : Int32) (v2 : Int32) (v3 : Int32) (v4 : Int32) (w0 : Option Nat) (w1 : Int32) (w2 : Int32) : ahM Int32 :=
  ah_wr (ah_sI 0 w0 w1 w2) <|
  ah_wr (ah_pI 12 (some t) 7 v1) <|
  ah_wr (ah_pI 12 (some t) 23 v2) <|
  ah_wr (ah_pI 12 (some t) 27 v3) <|
  ah_wr (ah_pI 12 (some t) 39 v4) <|
  ah_rd (ah_gI 12 (some t) 5) fun x232 =>
  if x232 < 0 then (
    ah_rd (ah_gI 12 (some t) 6) fun x251 =>
    ah_ret ((-1000 : Int32) * x251))
  else (
    ah_rd (ah_gI 12 (some t) 5) fun x240 =>
    ah_ret ((-1 : Int32) - x240))
def fn_Md_declare_J181 (t : Nat) (v1 : Int32) (v2 : Int32) (v3 : Int32) (v4 : Int32) (v5 : Int32) : ahM Int32 :=
  ah_rd (ah_gR 12 (some t) 15) fun x182 =>
  ah_rd (ah_gR 12 (some t) 15) fun x188 =>
  ah_rd (ah_aI 0 x188 v5) fun x193 =>
  if x193 = (1 : Int32) then (
    fn_Md_declare_J209 t v1 v2 v3 v4 x182 v5 (0 : Int32))
  else (
    ah_rd (ah_gR 12 (some t) 15) fun x203 =>
    ah_rd (ah_aI 0 x203 v5) fun x208 =>
    fn_Md_declare_J209 t v1 v2 v3 v4 x182 v5 x208)
def fn_Md_declare_J144 (t : Nat) (v1 : Int32) (v2 : Int32) (v3 : Int32) (v4 : Int32) (v5 : Int32) (v8 : Int32) : ahM Int32 :=
  ah_bnd (ah_cV 12 (some t) (fun b => fn_Md_noScope b)) fun x145 =>
  ah_rd (ah_gI 12 (some t) 5) fun x149 =>
  if 0 ≤ x149 then (
    fn_Md_declare_J181 t v1 v2 v3 v4 v5)
  else (
    ah_rd (ah_gI 12 (some t) 6) fun x156 =>
    if x156 = 0 then (
      ah_wr (ah_pI 12 (some t) 7 v8) <|
      ah_rd (ah_gR 12 (some t) 15) fun x169 =>
      ah_wr (ah_sI 0 x169 v5 (2 : Int32)) <|
      ah_no)
    else (
      fn_Md_declare_J181 t v1 v2 v3 v4 v5))
def fn_Md_declare_J116 (t : Nat) (v1 : Int32) (v2 : Int32) (v3 : Int32) (v4 : Int32) (v5 : Int32) (v6 : Int32) (v7 : Int32) : ahM Int32 :=
  ah_rd (ah_gI 12 (some t) 7) fun x117 =>
  ah_wr (ah_pI 12 (some t) 6 (0 : Int32)) <|
  ah_rd (ah_gI 12 (some t) 5) fun x128 =>
  if 0 ≤ x128 then (
    fn_Md_declare_J144 t v1 v2 v3 v4 v5 x117)
  else (
    ah_no)
def fn_Md_declare_J99 (t : Nat) (v1 : Int32) (v2 : Int32) (v3 : Int32) (v4 : Int32) (v5 : Int32) (v6 : Int32) (v7 : Int32) : ahM Int32 :=
  ah_bnd (ah_cV 12 (some t) (fun b => fn_Md_close b (125 : Int32))) fun x102 =>
  ah_bnd (ah_cV 12 (some t) (fun b => fn_Md_look b)) fun x106 =>
  if x106 < 0 then (
    fn_Md_declare_J116 t v1 v2 v3 v4 v5 v6 v7)
  else (
    ah_bnd (ah_cV 12 (some t) (fun b => fn_Md_fail b)) fun x113 =>
    fn_Md_declare_J116 t v1 v2 v3 v4 v5 v6 v7)
def fn_Md_declare_B74 (t : Nat) (v1 : Int32) (v2 : Int32) (v3 : Int32) (v4 : Int32) (v5 : Int32) (v6 : Int32) (v7 : Int32) (k74 : (Unit) → ahM Int32) : (Unit) → ahM Int32
  | _ =>
    ah_rd (ah_gI 12 (some t) 5) fun x75 =>
    if 0 ≤ x75 then (
      fn_Md_declare_J99 t v1 v2 v3 v4 v5 v6 v7)
    else (
      ah_bnd (ah_cV 12 (some t) (fun b => fn_Md_look b)) fun x82 =>
      if x82 = (125 : Int32) then (
        fn_Md_declare_J99 t v1 v2 v3 v4 v5 v6 v7)
      else (
        ah_no))
def fn_Md_declare (t : Nat) : ahM Int32 :=
  ah_rd (ah_gI 12 (some t) 7) fun x1 =>
  ah_rd (ah_gI 12 (some t) 23) fun x6 =>
  ah_rd (ah_gI 12 (some t) 27) fun x11 =>
  ah_rd (ah_gI 12 (some t) 39) fun x16 =>
  ah_bnd (ah_cV 12 (some t) (fun b => fn_Md_begin b)) fun x22 =>
  ah_bnd (ah_cV 12 (some t) (fun b => fn_Md_readLetter b (65 : Int32) (72 : Int32))) fun x30 =>
  ah_rd (ah_gR 12 (some t) 21) fun x37 =>
  ah_rd (ah_gR 12 (some t) 22) fun x41 =>
  ah_bnd (ah_cV 12 (some t) (fun b => fn_Md_readBounds b x37 x41 (0 : Int32))) fun x45 =>
  ah_bnd (ah_cV 12 (some t) (fun b => fn_Md_expect b (58 : Int32))) fun x53 =>
  ah_bnd (ah_cV 12 (some t) (fun b => fn_Md_readType b (1 : Int32))) fun x58 =>
  ah_bnd (ah_cV 12 (some t) (fun b => fn_Md_open b (123 : Int32))) fun x66 =>
  ah_wr (ah_pI 12 (some t) 41 (0 : Int32)) <|
  ah_lp (fn_Md_declare_B74 t x1 x6 x11 x16 x30 x45 x58) FU ()
def fn_Md_put (t : Nat) (v1 : Int32) (v2 : Int32) (v3 : Int32) : ahM Unit :=
  ah_rd (ah_gR 12 (some t) 40) fun x1 =>
  ah_rd (ah_gI 12 (some t) 39) fun x5 =>
  ah_rd (ah_sL 4 x1 x5) fun _ =>
  ah_rd (ah_gI 12 (some t) 39) fun x27 =>
  ah_wr (ah_pI 12 (some t) 39 (x27 + (1 : Int32))) <|
  ah_ret ()
def fn_Md_readBase (t : Nat) (v1 : Int32) : ahM Int32 :=
  ah_bnd (ah_cV 12 (some t) (fun b => fn_Md_look b)) fun x1 =>
  if x1 = (40 : Int32) then (
    ah_bnd (ah_cV 12 (some t) (fun b => fn_Md_open b (40 : Int32))) fun x14 =>
    ah_bnd (ah_cV 12 (some t) (fun b => fn_Md_look b)) fun x18 =>
    ah_bnd (fn_Md_in x18 (65 : Int32) (72 : Int32)) fun x25 =>
    if x25 = 0 then (
      ah_no)
    else (
      ah_bnd (ah_cV 12 (some t) (fun b => fn_Md_readType b (1 : Int32))) fun x45 =>
      ah_bnd (ah_cV 12 (some t) (fun b => fn_Md_close b (41 : Int32))) fun x52 =>
      ah_no))
  else (
    if x1 = (42 : Int32) then (
      ah_rd (ah_gI 12 (some t) 3) fun x75 =>
      ah_wr (ah_pI 12 (some t) 3 (x75 + (1 : Int32))) <|
      ah_bnd (ah_cV 12 (some t) (fun b => fn_Md_readType b (1 : Int32))) fun x85 =>
      ah_bnd (ah_cV 12 (some t) (fun b => fn_Md_put b (6 : Int32) (0 : Int32) (0 : Int32))) fun x94 =>
      ah_rd (ah_gR 12 (some t) 40) fun x98 =>
      ah_rd (ah_gI 12 (some t) 39) fun x102 =>
      ah_rd (ah_gR 12 (some t) 40) fun x108 =>
      ah_rd (ah_gI 12 (some t) 39) fun x112 =>
      ah_no)
    else (
      ah_bnd (ah_cV 12 (some t) (fun b => fn_Md_readLetter b (97 : Int32) (122 : Int32))) fun x146 =>
      ah_bnd (ah_cV 12 (some t) (fun b => fn_Md_put b (1 : Int32) x146 (0 : Int32))) fun x150 =>
      ah_ret v1))
def fn_Md_readExpression_J198 (t : Nat) (v1 : Int32) (v3 : Int32) (w0 : Int32) (k6 : (Int32 × Int32 × Int32) → ahM Unit) : ahM Unit :=
  if w0 = 0 then (
    ah_bnd (ah_cV 12 (some t) (fun b => fn_Md_close b (41 : Int32))) fun x219 =>
    ah_no)
  else (
    ah_rd (ah_gI 12 (some t) 3) fun x205 =>
    ah_wr (ah_pI 12 (some t) 3 (x205 + (1 : Int32))) <|
    k6 (v1, w0, v3))
def fn_Md_readExpression_J76 (t : Nat) (v1 : Int32) (v3 : Int32) (w0 : Int32) (k6 : (Int32 × Int32 × Int32) → ahM Unit) : ahM Unit :=
  k6 ((ah_rem v1 (1000 : Int32)), w0, v3)
def fn_Md_readExpression_J39 (t : Nat) (v1 : Int32) (v3 : Int32) (w0 : Int32) (k6 : (Int32 × Int32 × Int32) → ahM Unit) : ahM Unit :=
  k6 ((ah_rem v1 (1000 : Int32)), w0, v3)
def fn_Md_readExpression_B6 (t : Nat) (k6 : (Int32 × Int32 × Int32) → ahM Unit) : (Int32 × Int32 × Int32) → ahM Unit
  | (v1, v2, v3) =>
    ah_rd (ah_gI 12 (some t) 5) fun x7 =>
    if 0 ≤ x7 then (
      ah_ret ())
    else (
      if v3 = 0 then (
        if v2 = 0 then (
          ah_bnd (ah_cV 12 (some t) (fun b => fn_Md_look b)) fun x50 =>
          if x50 = (46 : Int32) then (
            ah_no)
          else (
            if v1 = 0 then (
              k6 (v1, v2, (1 : Int32)))
            else (
              ah_rd (ah_gR 12 (some t) 43) fun x96 =>
              ah_rd (ah_aI 0 x96 (v1 - (1 : Int32))) fun x102 =>
              if x102 = (1 : Int32) then (
                ah_rd (ah_gR 12 (some t) 44) fun x116 =>
                ah_rd (ah_aI 0 x116 (v1 - (1 : Int32))) fun x120 =>
                ah_bnd (ah_cV 12 (some t) (fun b => fn_Md_put b (8 : Int32) (0 : Int32) x120)) fun x121 =>
                k6 ((v1 - (1 : Int32)), v2, v3))
              else (
                ah_rd (ah_gR 12 (some t) 43) fun x128 =>
                ah_rd (ah_aI 0 x128 (v1 - (1 : Int32))) fun x134 =>
                if x134 = (2 : Int32) then (
                  ah_bnd (ah_cV 12 (some t) (fun b => fn_Md_close b (41 : Int32))) fun x142 =>
                  k6 ((v1 - (1 : Int32)), v2, v3))
                else (
                  ah_rd (ah_gR 12 (some t) 45) fun x155 =>
                  ah_rd (ah_aI 0 x155 (v1 - (1 : Int32))) fun x161 =>
                  ah_bnd (ah_cV 12 (some t) (fun b => fn_Md_put b (4 : Int32) x161 (0 : Int32))) fun x163 =>
                  ah_rd (ah_gR 12 (some t) 45) fun x167 =>
                  ah_rd (ah_gR 12 (some t) 45) fun x174 =>
                  ah_rd (ah_aI 0 x174 (v1 - (1 : Int32))) fun x180 =>
                  ah_wr (ah_sI 0 x167 (v1 - (1 : Int32)) (x180 + (1 : Int32))) <|
                  ah_bnd (ah_cV 12 (some t) (fun b => fn_Md_look b)) fun x185 =>
                  if x185 = (44 : Int32) then (
                    fn_Md_readExpression_J198 t v1 v3 (1 : Int32) k6)
                  else (
                    fn_Md_readExpression_J198 t v1 v3 (0 : Int32) k6))))))
        else (
          ah_bnd (ah_cV 12 (some t) (fun b => fn_Md_readBase b v1)) fun x23 =>
          if x23 < (1000 : Int32) then (
            fn_Md_readExpression_J39 t x23 v3 (0 : Int32) k6)
          else (
            fn_Md_readExpression_J39 t x23 v3 (1 : Int32) k6)))
      else (
        ah_ret ()))
def fn_Md_readExpression (t : Nat) : ahM Unit :=
  ah_lp (fn_Md_readExpression_B6 t) FU ((0 : Int32), (1 : Int32), (0 : Int32))
def fn_Md_classOf (t : Nat) (v1 : Int32) : ahM Int32 :=
  ah_rd (ah_gR 12 (some t) 8) fun x1 =>
  ah_rd (ah_aI 0 x1 v1) fun x5 =>
  ah_ret (x5 - (8 : Int32))
def fn_Md_upper (t : Nat) (v1 : Int32) : ahM Int32 :=
  ah_rd (ah_gR 12 (some t) 19) fun x1 =>
  ah_rd (ah_aI 0 x1 v1) fun x5 =>
  if 0 ≤ x5 then (
    ah_rd (ah_gR 12 (some t) 19) fun x15 =>
    ah_rd (ah_aI 0 x15 v1) fun x19 =>
    ah_bnd (ah_cV 12 (some t) (fun b => fn_Md_classOf b x19)) fun x20 =>
    ah_ret x20)
  else (
    ah_ret (-1 : Int32))
def fn_Md_fieldsOf_J38 (t : Nat) (v3 : Int32) (v4 : Int32) (w0 : Int32) (k4 : (Int32 × Int32) → ahM Int32) (k11 : (Int32 × Int32) → ahM Int32) : ahM Int32 :=
  k11 (w0, (v4 + (1 : Int32)))
def fn_Md_fieldsOf_B11 (t : Nat) (v3 : Int32) (k4 : (Int32 × Int32) → ahM Int32) (k11 : (Int32 × Int32) → ahM Int32) : (Int32 × Int32) → ahM Int32
  | (v2, v4) =>
    ah_rd (ah_gI 12 (some t) 23) fun x14 =>
    if x14 ≤ v4 then (
      ah_bnd (ah_cV 12 (some t) (fun b => fn_Md_upper b v3)) fun x47 =>
      k4 (v2, x47))
    else (
      ah_rd (ah_gR 12 (some t) 24) fun x21 =>
      ah_rd (ah_aI 0 x21 v4) fun x26 =>
      if x26 = v3 then (
        fn_Md_fieldsOf_J38 t v3 v4 (v2 + (1 : Int32)) k4 k11)
      else (
        fn_Md_fieldsOf_J38 t v3 v4 v2 k4 k11))
def fn_Md_fieldsOf_B4 (t : Nat) (k4 : (Int32 × Int32) → ahM Int32) : (Int32 × Int32) → ahM Int32
  | (v2, v3) =>
    if v3 < 0 then (
      ah_ret v2)
    else (
      ah_lp (fn_Md_fieldsOf_B11 t v3 k4) FU (v2, (0 : Int32)))
def fn_Md_fieldsOf (t : Nat) (v1 : Int32) : ahM Int32 :=
  ah_lp (fn_Md_fieldsOf_B4 t) FU ((0 : Int32), v1)
def fn_Md_run_J147 (t : Nat) (v2 : Int32) (v3 : Int32) (v4 : Int32) : ahM Int32 :=
  ah_wr (ah_pI 12 (some t) 7 v2) <|
  ah_wr (ah_pI 12 (some t) 39 v3) <|
  ah_ret v4
def fn_Md_run_J99 (t : Nat) (v1 : Int32) (v2 : Int32) (v3 : Int32) (w0 : Int32) : ahM Int32 :=
  ah_rd (ah_gI 12 (some t) 5) fun x102 =>
  if 0 ≤ x102 then (
    fn_Md_run_J147 t v2 v3 w0)
  else (
    ah_rd (ah_gI 12 (some t) 6) fun x109 =>
    if x109 = 0 then (
      ah_wr (ah_pI 12 (some t) 57 v1) <|
      ah_rd (ah_gI 12 (some t) 39) fun x123 =>
      ah_no)
    else (
      fn_Md_run_J147 t v2 v3 w0))
def fn_Md_run_J75 (t : Nat) (v1 : Int32) (v2 : Int32) (v3 : Int32) : ahM Int32 :=
  ah_rd (ah_gI 12 (some t) 5) fun x76 =>
  if x76 < 0 then (
    ah_rd (ah_gI 12 (some t) 6) fun x95 =>
    fn_Md_run_J99 t v1 v2 v3 ((-1000 : Int32) * x95))
  else (
    ah_rd (ah_gI 12 (some t) 5) fun x84 =>
    fn_Md_run_J99 t v1 v2 v3 ((-1 : Int32) - x84))
def fn_Md_run_J48 (t : Nat) (v1 : Int32) (v2 : Int32) (v3 : Int32) : ahM Int32 :=
  ah_wr (ah_pI 12 (some t) 6 (0 : Int32)) <|
  ah_bnd (ah_cV 12 (some t) (fun b => fn_Md_noScope b)) fun x54 =>
  ah_rd (ah_gI 12 (some t) 5) fun x58 =>
  if 0 ≤ x58 then (
    fn_Md_run_J75 t v1 v2 v3)
  else (
    ah_rd (ah_gI 12 (some t) 39) fun x67 =>
    ah_no)
def fn_Md_run (t : Nat) (v1 : Int32) : ahM Int32 :=
  ah_bnd (fn_Md_in v1 (0 : Int32) (40 : Int32)) fun x4 =>
  if x4 = 0 then (
    ah_ret (-100000 : Int32))
  else (
    ah_rd (ah_gI 12 (some t) 7) fun x15 =>
    ah_rd (ah_gI 12 (some t) 39) fun x20 =>
    ah_bnd (ah_cV 12 (some t) (fun b => fn_Md_begin b)) fun x25 =>
    ah_wr (ah_pI 12 (some t) 56 (0 : Int32)) <|
    ah_bnd (ah_cV 12 (some t) (fun b => fn_Md_readExpression b)) fun x34 =>
    ah_bnd (ah_cV 12 (some t) (fun b => fn_Md_look b)) fun x38 =>
    if x38 < 0 then (
      fn_Md_run_J48 t v1 x15 x20)
    else (
      ah_bnd (ah_cV 12 (some t) (fun b => fn_Md_fail b)) fun x45 =>
      fn_Md_run_J48 t v1 x15 x20))
def fn_Md_called_J43 (t : Nat) (v2 : Int32) (v3 : Int32) (v4 : Int32) (k2 : Int32 → ahM Int32) (k9 : Int32 → ahM Int32) : ahM Int32 :=
  k9 (v4 + (1 : Int32))
def fn_Md_called_B9 (t : Nat) (v2 : Int32) (v3 : Int32) (k2 : Int32 → ahM Int32) (k9 : (Int32) → ahM Int32) : (Int32) → ahM Int32
  | v4 =>
    ah_rd (ah_gI 12 (some t) 27) fun x12 =>
    if x12 ≤ v4 then (
      ah_bnd (ah_cV 12 (some t) (fun b => fn_Md_upper b v3)) fun x51 =>
      k2 x51)
    else (
      ah_rd (ah_gR 12 (some t) 28) fun x19 =>
      ah_rd (ah_aI 0 x19 v4) fun x24 =>
      if x24 = v3 then (
        ah_rd (ah_gR 12 (some t) 29) fun x30 =>
        ah_rd (ah_aI 0 x30 v4) fun x35 =>
        if x35 = v2 then (
          ah_ret v4)
        else (
          fn_Md_called_J43 t v2 v3 v4 k2 k9))
      else (
        fn_Md_called_J43 t v2 v3 v4 k2 k9))
def fn_Md_called_B2 (t : Nat) (v2 : Int32) (k2 : (Int32) → ahM Int32) : (Int32) → ahM Int32
  | v3 =>
    if v3 < 0 then (
      ah_ret (-1 : Int32))
    else (
      ah_lp (fn_Md_called_B9 t v2 v3 k2) FU (0 : Int32))
def fn_Md_called (t : Nat) (v1 : Int32) (v2 : Int32) : ahM Int32 :=
  ah_lp (fn_Md_called_B2 t v2) FU v1
def fn_Md_length (t : Nat) : ahM Int32 :=
  ah_rd (ah_gI 12 (some t) 56) fun x1 =>
  ah_ret x1
def fn_Md_at (t : Nat) (v1 : Int32) : ahM Int32 :=
  ah_rd (ah_gI 12 (some t) 56) fun x3 =>
  ah_bnd (fn_Md_in v1 (0 : Int32) (x3 - (1 : Int32))) fun x8 =>
  if x8 = 0 then (
    ah_ret (-1 : Int32))
  else (
    ah_rd (ah_gR 12 (some t) 55) fun x15 =>
    ah_rd (ah_aI 0 x15 v1) fun x19 =>
    ah_ret x19)
def fn_Md_left (t : Nat) : ahM Int32 :=
  ah_rd (ah_gI 12 (some t) 57) fun x1 =>
  ah_ret x1
def fn_Md_fields (t : Nat) (v1 : Int32) : ahM Int32 :=
  ah_bnd (fn_Md_in v1 (0 : Int32) (7 : Int32)) fun x4 =>
  if x4 = 0 then (
    ah_ret (-1 : Int32))
  else (
    ah_rd (ah_gR 12 (some t) 15) fun x11 =>
    ah_rd (ah_aI 0 x11 v1) fun x15 =>
    if x15 ≤ 0 then (
      ah_ret (-1 : Int32))
    else (
      ah_bnd (ah_cV 12 (some t) (fun b => fn_Md_fieldsOf b v1)) fun x21 =>
      ah_ret x21))
def fn_Md_method (t : Nat) (v1 : Int32) (v2 : Int32) : ahM Int32 :=
  ah_bnd (fn_Md_in v1 (0 : Int32) (7 : Int32)) fun x4 =>
  if x4 = 0 then (
    ah_ret (-1 : Int32))
  else (
    ah_rd (ah_gR 12 (some t) 15) fun x11 =>
    ah_rd (ah_aI 0 x11 v1) fun x15 =>
    if x15 = 0 then (
      ah_ret (-1 : Int32))
    else (
      ah_bnd (fn_Md_in v2 (0 : Int32) (25 : Int32)) fun x23 =>
      if x23 = 0 then (
        ah_ret (-1 : Int32))
      else (
        ah_bnd (ah_cV 12 (some t) (fun b => fn_Md_called b v1 v2)) fun x34 =>
        if 0 ≤ x34 then (
          ah_rd (ah_gR 12 (some t) 28) fun x47 =>
          ah_rd (ah_aI 0 x47 x34) fun x51 =>
          ah_ret x51)
        else (
          ah_ret (-1 : Int32)))))
def fn_Law_law_J254 (v0 : Option Nat) (v1 : Option Nat) (v2 : Option Nat) (v3 : Int32) (k18 : Int32 → ahM Int32) : ahM Int32 :=
  k18 (v3 + (3 : Int32))
def fn_Law_law_B18 (v0 : Option Nat) (v1 : Option Nat) (v2 : Option Nat) (k18 : (Int32) → ahM Int32) : (Int32) → ahM Int32
  | v3 =>
    ah_rd (ah_al 0 v0) fun x20 =>
    if (x20 - (3 : Int32)) < v3 then (
      ah_ret 1)
    else (
      ah_rd (ah_aI 0 v0 v3) fun x28 =>
      if (x28 &&& (7 : Int32)) = (0 : Int32) then (
        ah_rd (ah_aI 0 v0 (v3 + (1 : Int32))) fun x85 =>
        ah_rd (ah_aI 0 v0 (v3 + (2 : Int32))) fun x90 =>
        ah_bnd (ah_cV 10 v1 (fun b => fn_BT_type b x85 x90)) fun x91 =>
        ah_rd (ah_aI 0 v0 (v3 + (1 : Int32))) fun x99 =>
        ah_rd (ah_aI 0 v0 (v3 + (2 : Int32))) fun x104 =>
        ah_bnd (ah_cV 12 v2 (fun b => fn_Md_type b x99 x104)) fun x105 =>
        if x91 = x105 then (
          fn_Law_law_J254 v0 v1 v2 v3 k18)
        else (
          ah_no))
      else (
      if (x28 &&& (7 : Int32)) = (1 : Int32) then (
        ah_bnd (ah_cV 10 v1 (fun b => fn_BT_declare b)) fun x114 =>
        ah_bnd (ah_cV 12 v2 (fun b => fn_Md_declare b)) fun x118 =>
        if x114 = x118 then (
          fn_Law_law_J254 v0 v1 v2 v3 k18)
        else (
          ah_no))
      else (
      if (x28 &&& (7 : Int32)) = (2 : Int32) then (
        ah_rd (ah_aI 0 v0 (v3 + (1 : Int32))) fun x131 =>
        ah_bnd (ah_cV 10 v1 (fun b => fn_BT_run b x131)) fun x132 =>
        ah_rd (ah_aI 0 v0 (v3 + (1 : Int32))) fun x140 =>
        ah_bnd (ah_cV 12 v2 (fun b => fn_Md_run b x140)) fun x141 =>
        if x132 = x141 then (
          fn_Law_law_J254 v0 v1 v2 v3 k18)
        else (
          ah_no))
      else (
      if (x28 &&& (7 : Int32)) = (3 : Int32) then (
        ah_bnd (ah_cV 10 v1 (fun b => fn_BT_length b)) fun x150 =>
        ah_bnd (ah_cV 12 v2 (fun b => fn_Md_length b)) fun x154 =>
        if x150 = x154 then (
          fn_Law_law_J254 v0 v1 v2 v3 k18)
        else (
          ah_no))
      else (
      if (x28 &&& (7 : Int32)) = (4 : Int32) then (
        ah_rd (ah_aI 0 v0 (v3 + (1 : Int32))) fun x167 =>
        ah_bnd (ah_cV 10 v1 (fun b => fn_BT_at b x167)) fun x168 =>
        ah_rd (ah_aI 0 v0 (v3 + (1 : Int32))) fun x176 =>
        ah_bnd (ah_cV 12 v2 (fun b => fn_Md_at b x176)) fun x177 =>
        if x168 = x177 then (
          fn_Law_law_J254 v0 v1 v2 v3 k18)
        else (
          ah_no))
      else (
      if (x28 &&& (7 : Int32)) = (5 : Int32) then (
        ah_bnd (ah_cV 10 v1 (fun b => fn_BT_left b)) fun x186 =>
        ah_bnd (ah_cV 12 v2 (fun b => fn_Md_left b)) fun x190 =>
        if x186 = x190 then (
          fn_Law_law_J254 v0 v1 v2 v3 k18)
        else (
          ah_no))
      else (
      if (x28 &&& (7 : Int32)) = (6 : Int32) then (
        ah_rd (ah_aI 0 v0 (v3 + (1 : Int32))) fun x203 =>
        ah_bnd (ah_cV 10 v1 (fun b => fn_BT_fields b x203)) fun x204 =>
        ah_rd (ah_aI 0 v0 (v3 + (1 : Int32))) fun x212 =>
        ah_bnd (ah_cV 12 v2 (fun b => fn_Md_fields b x212)) fun x213 =>
        if x204 = x213 then (
          fn_Law_law_J254 v0 v1 v2 v3 k18)
        else (
          ah_no))
      else (
      if (x28 &&& (7 : Int32)) = (7 : Int32) then (
        ah_rd (ah_aI 0 v0 (v3 + (1 : Int32))) fun x226 =>
        ah_rd (ah_aI 0 v0 (v3 + (2 : Int32))) fun x231 =>
        ah_bnd (ah_cV 10 v1 (fun b => fn_BT_method b x226 x231)) fun x232 =>
        ah_rd (ah_aI 0 v0 (v3 + (1 : Int32))) fun x240 =>
        ah_rd (ah_aI 0 v0 (v3 + (2 : Int32))) fun x245 =>
        ah_bnd (ah_cV 12 v2 (fun b => fn_Md_method b x240 x245)) fun x246 =>
        if x232 = x246 then (
          fn_Law_law_J254 v0 v1 v2 v3 k18)
        else (
          ah_no))
      else (
        fn_Law_law_J254 v0 v1 v2 v3 k18)))))))))
def fn_Law_law (v0 : Option Nat) : ahM Int32 :=
  ah_bnd (ah_new 10 9) fun x0 =>
  ah_bnd (ah_cI x0 (fun b => fn_BT_init b)) fun x4 =>
  ah_bnd (ah_new 12 59) fun x8 =>
  ah_bnd (ah_cI x8 (fun b => fn_Md_init b)) fun x12 =>
  ah_lp (fn_Law_law_B18 v0 x0 x8) FU (0 : Int32)
