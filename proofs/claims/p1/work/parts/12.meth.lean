set_option maxRecDepth 100000 in
set_option maxHeartbeats 4000000 in
theorem ok_Ar_fill_B5 {E : ahE} {X : ahX} (C : ah_Cx E X prog_22_method_103_code 4 "java/util/Arrays" 0 0) (hr : (ax_M X).sig.returnType = none) (hlk : (ax_M X).locks = false) (v0 : Option Nat) (v1 : Int32) (v3 : Int32) : ∀ (n : Nat) (v2 : Int32), ah_S E X (ah_Q E X rv_V) 5 [some (va_rf v0), some (.int v1), some (.int v2), some (.int v3)] [] (ah_lp (fn_Ar_fill_B5 v0 v1 v3) n v2) := by
  intro n
  induction n with
  | zero => intro v2 h r n u c hs; cases hs
  | succ n hk5 =>
    intro v2
    show ah_S E X (ah_Q E X rv_V) 5 _ _ (fn_Ar_fill_B5 v0 v1 v3 (ah_lp (fn_Ar_fill_B5 v0 v1 v3) n) v2)
    generalize ah_lp (fn_Ar_fill_B5 v0 v1 v3) n = k5 at hk5 ⊢
    rw [fn_Ar_fill_B5]
    refine ah_iload_n C d_Ar_fill_5 rfl ?_
    refine ah_iload_n C d_Ar_fill_6 rfl ?_
    refine ah_icmp_ge (tgt := 20) C d_Ar_fill_7 rfl (fun _ => ?_) (fun _ => ?_)
    · exact ah_vret C hr hlk d_Ar_fill_20
    · refine ah_aload_n C d_Ar_fill_10 rfl ?_
      refine ah_iload_n C d_Ar_fill_11 rfl ?_
      refine ah_iload_n C d_Ar_fill_12 rfl ?_
      refine ah_iastore C rfl rfl d_Ar_fill_13 ?_
      refine ah_iinc (lv' := [some (va_rf v0), some (.int v1), some (.int (v2 + (1 : Int32))), some (.int v3)]) C d_Ar_fill_14 rfl rfl rfl ?_
      refine ah_goto (tgt := 5) C d_Ar_fill_17 rfl ?_
      refine ah_mask [true, true, true, true] (lv' := [some (va_rf v0), some (.int v1), some (.int (v2 + (1 : Int32))), some (.int v3)]) rfl ?_
      exact hk5 (v2 + (1 : Int32))
set_option maxRecDepth 100000 in
set_option maxHeartbeats 4000000 in
theorem ok_Ar_fill (E : ahE) (l : Launch) (v0 : Option Nat) (v1 : Int32) : ah_met E l y_Ar_fill prog_22_method_103_code 4 none 0 0 rv_V [va_rf v0, .int v1] (fn_Ar_fill v0 v1) := by
  refine ah_met_of (by decide +kernel) (ah_c1_all ⟨ah_rf_cat _, rfl, trivial⟩) (Nat.le_of_ble_eq_true rfl) (lv := [some (va_rf v0), some (.int v1), none, none]) rfl (fun X C hl hr hlk hnm => ?_)
  subst hl
  unfold fn_Ar_fill
  refine ah_iconst (v := 0) C d_Ar_fill_0 rfl ?_
  refine ah_istore_n (lv' := [some (va_rf v0), some (.int v1), some (.int (0 : Int32)), none]) C d_Ar_fill_1 (Nat.le_of_ble_eq_true rfl) rfl ?_
  refine ah_aload_n C d_Ar_fill_2 rfl ?_
  refine ah_alen (j := 0) C rfl d_Ar_fill_3 (fun x3 => ?_)
  refine ah_istore_n (lv' := [some (va_rf v0), some (.int v1), some (.int (0 : Int32)), some (.int x3)]) C d_Ar_fill_4 (Nat.le_of_ble_eq_true rfl) rfl ?_
  refine ah_mask [true, true, true, true] (lv' := [some (va_rf v0), some (.int v1), some (.int (0 : Int32)), some (.int x3)]) rfl ?_
  exact ok_Ar_fill_B5 C hr hlk v0 v1 x3 FU (0 : Int32)
set_option maxRecDepth 100000 in
set_option maxHeartbeats 4000000 in
theorem ok_Types_variableBit (E : ahE) (l : Launch) (v0 : Int32) : ah_met E l y_Types_variableBit prog_11_method_2_code 1 (some .int) 0 0 rv_I [.int v0] (fn_Types_variableBit v0) := by
  refine ah_met_of (by decide +kernel) (ah_c1_all ⟨rfl, trivial⟩) (Nat.le_of_ble_eq_true rfl) (lv := [some (.int v0)]) rfl (fun X C hl hr hlk hnm => ?_)
  subst hl
  unfold fn_Types_variableBit
  refine ah_iconst (v := 1) C d_Types_variableBit_0 rfl ?_
  refine ah_iload_n C d_Types_variableBit_1 rfl ?_
  refine ah_ishl C d_Types_variableBit_2 ?_
  exact ah_iret C hr hlk rfl d_Types_variableBit_3
set_option maxRecDepth 100000 in
set_option maxHeartbeats 4000000 in
theorem ok_Types_init_B105 {E : ahE} {X : ahX} (C : ah_Cx E X prog_11_method_1_code 2 "BoundedTypes$Types" 1 23) (hr : (ax_M X).sig.returnType = none) (hlk : (ax_M X).locks = false) (hnm : (ax_M X).name = "<init>") (t : Nat) : ∀ (n : Nat) (v1 : Int32), ah_S E X (ah_Q E X rv_V) 105 [some (va_rf (some t)), some (.int v1)] [] (ah_lp (fn_Types_init_B105 t) n v1) := by
  intro n
  induction n with
  | zero => intro v1 h r n u c hs; cases hs
  | succ n hk105 =>
    intro v1
    show ah_S E X (ah_Q E X rv_V) 105 _ _ (fn_Types_init_B105 t (ah_lp (fn_Types_init_B105 t) n) v1)
    generalize ah_lp (fn_Types_init_B105 t) n = k105 at hk105 ⊢
    rw [fn_Types_init_B105]
    refine ah_iload_n C d_Types_init_105 rfl ?_
    refine ah_bipush (v := 24) C d_Types_init_106 rfl ?_
    refine ah_icmp_ge (tgt := 124) C d_Types_init_108 rfl (fun _ => ?_) (fun _ => ?_)
    · exact ah_vret C hr hlk d_Types_init_124
    · refine ah_aload_n C d_Types_init_111 rfl ?_
      refine ah_getR (ci := 0) (k := 1) C rfl (by decide) rfl (Or.inl we2) d_Types_init_112 (fun x112 => ?_)
      refine ah_iload_n C d_Types_init_115 rfl ?_
      refine ah_iconst (v := -1) C d_Types_init_116 rfl ?_
      refine ah_iastore C rfl rfl d_Types_init_117 ?_
      refine ah_iinc (lv' := [some (va_rf (some t)), some (.int (v1 + (1 : Int32)))]) C d_Types_init_118 rfl rfl rfl ?_
      refine ah_goto (tgt := 105) C d_Types_init_121 rfl ?_
      refine ah_mask [true, true] (lv' := [some (va_rf (some t)), some (.int (v1 + (1 : Int32)))]) rfl ?_
      exact hk105 (v1 + (1 : Int32))
set_option maxRecDepth 100000 in
set_option maxHeartbeats 4000000 in
theorem ok_Types_init_B74 {E : ahE} {X : ahX} (C : ah_Cx E X prog_11_method_1_code 2 "BoundedTypes$Types" 1 23) (hr : (ax_M X).sig.returnType = none) (hlk : (ax_M X).locks = false) (hnm : (ax_M X).name = "<init>") (t : Nat) : ∀ (n : Nat) (v1 : Int32), ah_S E X (ah_Q E X rv_V) 74 [some (va_rf (some t)), some (.int v1)] [] (ah_lp (fn_Types_init_B74 t) n v1) := by
  intro n
  induction n with
  | zero => intro v1 h r n u c hs; cases hs
  | succ n hk74 =>
    intro v1
    show ah_S E X (ah_Q E X rv_V) 74 _ _ (fn_Types_init_B74 t (ah_lp (fn_Types_init_B74 t) n) v1)
    generalize ah_lp (fn_Types_init_B74 t) n = k74 at hk74 ⊢
    rw [fn_Types_init_B74]
    refine ah_iload_n C d_Types_init_74 rfl ?_
    refine ah_bipush (v := 8) C d_Types_init_75 rfl ?_
    refine ah_icmp_ge (tgt := 103) C d_Types_init_77 rfl (fun _ => ?_) (fun _ => ?_)
    · refine ah_iconst (v := 0) C d_Types_init_103 rfl ?_
      refine ah_istore_n (lv' := [some (va_rf (some t)), some (.int (0 : Int32))]) C d_Types_init_104 (Nat.le_of_ble_eq_true rfl) rfl ?_
      refine ah_mask [true, true] (lv' := [some (va_rf (some t)), some (.int (0 : Int32))]) rfl ?_
      exact ok_Types_init_B105 C hr hlk hnm t FU (0 : Int32)
    · refine ah_aload_n C d_Types_init_80 rfl ?_
      refine ah_getR (ci := 0) (k := 0) C rfl (by decide) rfl (Or.inl we3) d_Types_init_81 (fun x81 => ?_)
      refine ah_iload_n C d_Types_init_84 rfl ?_
      refine ah_iconst (v := -1) C d_Types_init_85 rfl ?_
      refine ah_iastore C rfl rfl d_Types_init_86 ?_
      refine ah_aload_n C d_Types_init_87 rfl ?_
      refine ah_getR (ci := 0) (k := 2) C rfl (by decide) rfl (Or.inl we4) d_Types_init_88 (fun x88 => ?_)
      refine ah_iload_n C d_Types_init_91 rfl ?_
      refine ah_iload_n C d_Types_init_92 rfl ?_
      refine ah_callSI (As := [.int v1]) (rest := [.int v1, va_rf x88]) C (ok_Types_variableBit E _ v1) (Or.inl we7) we8 we5 we6 hy_Types_variableBit (by omega) (by omega) rfl rfl (ah_rs ⟨rfl, (ah_rf_cat _), trivial⟩ (Nat.le_of_ble_eq_true rfl)) d_Types_init_93 (fun x93 => ?_)
      refine ah_iastore C rfl rfl d_Types_init_96 ?_
      refine ah_iinc (lv' := [some (va_rf (some t)), some (.int (v1 + (1 : Int32)))]) C d_Types_init_97 rfl rfl rfl ?_
      refine ah_goto (tgt := 74) C d_Types_init_100 rfl ?_
      refine ah_mask [true, true] (lv' := [some (va_rf (some t)), some (.int (v1 + (1 : Int32)))]) rfl ?_
      exact hk74 (v1 + (1 : Int32))
set_option maxRecDepth 100000 in
set_option maxHeartbeats 4000000 in
theorem ok_Types_init (E : ahE) (l : Launch) (t : Nat) : ah_met E l y_Types_init prog_11_method_1_code 2 none 1 23 rv_V [.ref t] (fn_Types_init t) := by
  refine ah_met_of (by decide +kernel) (ah_c1_all ⟨rfl, trivial⟩) (Nat.le_of_ble_eq_true rfl) (lv := [some (va_rf (some t)), none]) rfl (fun X C hl hr hlk hnm => ?_)
  subst hl
  unfold fn_Types_init
  refine ah_aload_n C d_Types_init_0 rfl ?_
  refine ah_objInit C we9 we0 we1 (by omega) (by omega) rfl (ah_rs trivial (Nat.le_of_ble_eq_true rfl)) d_Types_init_1 ?_
  refine ah_aload_n C d_Types_init_4 rfl ?_
  refine ah_sipush (v := 512) C d_Types_init_5 rfl ?_
  refine ah_newA (j := 0) (atype := .int) C rfl rfl we10 rfl (by decide) d_Types_init_8 (fun x8 => ?_)
  refine ah_putR (ci := 0) (k := 0) C rfl (by decide) rfl (Or.inl we3) (Or.inl rfl) (fun y => by cases y <;> rfl) (fun y => by cases y <;> rfl) d_Types_init_10 ?_
  refine ah_aload_n C d_Types_init_13 rfl ?_
  refine ah_sipush (v := 1536) C d_Types_init_14 rfl ?_
  refine ah_newA (j := 0) (atype := .int) C rfl rfl we10 rfl (by decide) d_Types_init_17 (fun x17 => ?_)
  refine ah_putR (ci := 0) (k := 1) C rfl (by decide) rfl (Or.inl we2) (Or.inl rfl) (fun y => by cases y <;> rfl) (fun y => by cases y <;> rfl) d_Types_init_19 ?_
  refine ah_aload_n C d_Types_init_22 rfl ?_
  refine ah_sipush (v := 512) C d_Types_init_23 rfl ?_
  refine ah_newA (j := 0) (atype := .int) C rfl rfl we10 rfl (by decide) d_Types_init_26 (fun x26 => ?_)
  refine ah_putR (ci := 0) (k := 2) C rfl (by decide) rfl (Or.inl we4) (Or.inl rfl) (fun y => by cases y <;> rfl) (fun y => by cases y <;> rfl) d_Types_init_28 ?_
  refine ah_aload_n C d_Types_init_31 rfl ?_
  refine ah_sipush (v := 512) C d_Types_init_32 rfl ?_
  refine ah_newA (j := 0) (atype := .int) C rfl rfl we10 rfl (by decide) d_Types_init_35 (fun x35 => ?_)
  refine ah_putR (ci := 0) (k := 3) C rfl (by decide) rfl (Or.inl we11) (Or.inl rfl) (fun y => by cases y <;> rfl) (fun y => by cases y <;> rfl) d_Types_init_37 ?_
  refine ah_aload_n C d_Types_init_40 rfl ?_
  refine ah_sipush (v := 512) C d_Types_init_41 rfl ?_
  refine ah_newA (j := 0) (atype := .int) C rfl rfl we10 rfl (by decide) d_Types_init_44 (fun x44 => ?_)
  refine ah_putR (ci := 0) (k := 4) C rfl (by decide) rfl (Or.inl we12) (Or.inl rfl) (fun y => by cases y <;> rfl) (fun y => by cases y <;> rfl) d_Types_init_46 ?_
  refine ah_aload_n C d_Types_init_49 rfl ?_
  refine ah_sipush (v := 1024) C d_Types_init_50 rfl ?_
  refine ah_newA (j := 0) (atype := .int) C rfl rfl we10 rfl (by decide) d_Types_init_53 (fun x53 => ?_)
  refine ah_putR (ci := 0) (k := 5) C rfl (by decide) rfl (Or.inl we13) (Or.inr ⟨rfl, hnm, rfl, we13⟩) (fun y => by cases y <;> rfl) (fun y => by cases y <;> rfl) d_Types_init_55 ?_
  refine ah_aload_n C d_Types_init_58 rfl ?_
  refine ah_bipush (v := 8) C d_Types_init_59 rfl ?_
  refine ah_putI (ci := 0) (k := 6) C rfl (by decide) rfl (Or.inl we14) (Or.inl rfl) rfl rfl d_Types_init_61 ?_
  refine ah_aload_n C d_Types_init_64 rfl ?_
  refine ah_getR (ci := 0) (k := 5) C rfl (by decide) rfl (Or.inl we13) d_Types_init_65 (fun x65 => ?_)
  refine ah_iconst (v := -1) C d_Types_init_68 rfl ?_
  refine ah_callSV (As := [va_rf x65, .int (-1 : Int32)]) (rest := []) C (ok_Ar_fill E _ x65 (-1 : Int32)) (Or.inl we17) we18 we15 we16 hy_Ar_fill (by omega) (by omega) rfl rfl (ah_rs trivial (Nat.le_of_ble_eq_true rfl)) d_Types_init_69 ?_
  refine ah_iconst (v := 0) C d_Types_init_72 rfl ?_
  refine ah_istore_n (lv' := [some (va_rf (some t)), some (.int (0 : Int32))]) C d_Types_init_73 (Nat.le_of_ble_eq_true rfl) rfl ?_
  refine ah_mask [true, true] (lv' := [some (va_rf (some t)), some (.int (0 : Int32))]) rfl ?_
  exact ok_Types_init_B74 C hr hlk hnm t FU (0 : Int32)
set_option maxRecDepth 100000 in
set_option maxHeartbeats 4000000 in
theorem ok_Code_init (E : ahE) (l : Launch) (t : Nat) : ah_met E l y_Code_init prog_3_method_1_code 1 none 1 20 rv_V [.ref t] (fn_Code_init t) := by
  refine ah_met_of (by decide +kernel) (ah_c1_all ⟨rfl, trivial⟩) (Nat.le_of_ble_eq_true rfl) (lv := [some (va_rf (some t))]) rfl (fun X C hl hr hlk hnm => ?_)
  subst hl
  unfold fn_Code_init
  refine ah_aload_n C d_Code_init_0 rfl ?_
  refine ah_objInit C we19 we0 we1 (by omega) (by omega) rfl (ah_rs trivial (Nat.le_of_ble_eq_true rfl)) d_Code_init_1 ?_
  refine ah_aload_n C d_Code_init_4 rfl ?_
  refine ah_sipush (v := 1120) C d_Code_init_5 rfl ?_
  refine ah_newA (j := 0) (atype := .int) C rfl rfl we10 rfl (by decide) d_Code_init_8 (fun x8 => ?_)
  refine ah_putR (ci := 1) (k := 0) C rfl (by decide) rfl (Or.inl we20) (Or.inr ⟨rfl, hnm, rfl, we20⟩) (fun y => by cases y <;> rfl) (fun y => by cases y <;> rfl) d_Code_init_10 ?_
  refine ah_aload_n C d_Code_init_13 rfl ?_
  refine ah_sipush (v := 1120) C d_Code_init_14 rfl ?_
  refine ah_newA (j := 0) (atype := .int) C rfl rfl we10 rfl (by decide) d_Code_init_17 (fun x17 => ?_)
  refine ah_putR (ci := 1) (k := 1) C rfl (by decide) rfl (Or.inl we21) (Or.inr ⟨rfl, hnm, rfl, we21⟩) (fun y => by cases y <;> rfl) (fun y => by cases y <;> rfl) d_Code_init_19 ?_
  refine ah_aload_n C d_Code_init_22 rfl ?_
  refine ah_sipush (v := 1120) C d_Code_init_23 rfl ?_
  refine ah_newA (j := 0) (atype := .int) C rfl rfl we10 rfl (by decide) d_Code_init_26 (fun x26 => ?_)
  refine ah_putR (ci := 1) (k := 2) C rfl (by decide) rfl (Or.inl we22) (Or.inr ⟨rfl, hnm, rfl, we22⟩) (fun y => by cases y <;> rfl) (fun y => by cases y <;> rfl) d_Code_init_28 ?_
  refine ah_aload_n C d_Code_init_31 rfl ?_
  refine ah_sipush (v := 1120) C d_Code_init_32 rfl ?_
  refine ah_newA (j := 0) (atype := .int) C rfl rfl we10 rfl (by decide) d_Code_init_35 (fun x35 => ?_)
  refine ah_putR (ci := 1) (k := 3) C rfl (by decide) rfl (Or.inl we23) (Or.inr ⟨rfl, hnm, rfl, we23⟩) (fun y => by cases y <;> rfl) (fun y => by cases y <;> rfl) d_Code_init_37 ?_
  exact ah_vret C hr hlk d_Code_init_40
set_option maxRecDepth 100000 in
set_option maxHeartbeats 4000000 in
theorem ok_Bounds_init (E : ahE) (l : Launch) (t : Nat) : ah_met E l y_Bounds_init prog_2_method_1_code 1 none 1 20 rv_V [.ref t] (fn_Bounds_init t) := by
  refine ah_met_of (by decide +kernel) (ah_c1_all ⟨rfl, trivial⟩) (Nat.le_of_ble_eq_true rfl) (lv := [some (va_rf (some t))]) rfl (fun X C hl hr hlk hnm => ?_)
  subst hl
  unfold fn_Bounds_init
  refine ah_aload_n C d_Bounds_init_0 rfl ?_
  refine ah_objInit C we24 we0 we1 (by omega) (by omega) rfl (ah_rs trivial (Nat.le_of_ble_eq_true rfl)) d_Bounds_init_1 ?_
  refine ah_aload_n C d_Bounds_init_4 rfl ?_
  refine ah_iconst (v := 3) C d_Bounds_init_5 rfl ?_
  refine ah_newA (j := 0) (atype := .int) C rfl rfl we10 rfl (by decide) d_Bounds_init_6 (fun x6 => ?_)
  refine ah_putR (ci := 2) (k := 0) C rfl (by decide) rfl (Or.inl we25) (Or.inr ⟨rfl, hnm, rfl, we25⟩) (fun y => by cases y <;> rfl) (fun y => by cases y <;> rfl) d_Bounds_init_8 ?_
  refine ah_aload_n C d_Bounds_init_11 rfl ?_
  refine ah_iconst (v := 3) C d_Bounds_init_12 rfl ?_
  refine ah_newA (j := 0) (atype := .int) C rfl rfl we10 rfl (by decide) d_Bounds_init_13 (fun x13 => ?_)
  refine ah_putR (ci := 2) (k := 1) C rfl (by decide) rfl (Or.inl we26) (Or.inr ⟨rfl, hnm, rfl, we26⟩) (fun y => by cases y <;> rfl) (fun y => by cases y <;> rfl) d_Bounds_init_15 ?_
  exact ah_vret C hr hlk d_Bounds_init_18
set_option maxRecDepth 100000 in
set_option maxHeartbeats 4000000 in
theorem ok_ABC_init (E : ahE) (l : Launch) (t : Nat) : ah_met E l y_ABC_init prog_19_method_1_code 1 none 1 20 rv_V [.ref t] (fn_ABC_init t) := by
  refine ah_met_of (by decide +kernel) (ah_c1_all ⟨rfl, trivial⟩) (Nat.le_of_ble_eq_true rfl) (lv := [some (va_rf (some t))]) rfl (fun X C hl hr hlk hnm => ?_)
  subst hl
  unfold fn_ABC_init
  refine ah_aload_n C d_ABC_init_0 rfl ?_
  refine ah_objInit C we27 we0 we1 (by omega) (by omega) rfl (ah_rs trivial (Nat.le_of_ble_eq_true rfl)) d_ABC_init_1 ?_
  exact ah_vret C hr hlk d_ABC_init_4
set_option maxRecDepth 100000 in
set_option maxHeartbeats 4000000 in
theorem ok_ABL_init (E : ahE) (l : Launch) (t : Nat) : ah_met E l y_ABL_init prog_20_method_1_code 1 none 2 40 rv_V [.ref t] (fn_ABL_init t) := by
  refine ah_met_of (by decide +kernel) (ah_c1_all ⟨rfl, trivial⟩) (Nat.le_of_ble_eq_true rfl) (lv := [some (va_rf (some t))]) rfl (fun X C hl hr hlk hnm => ?_)
  subst hl
  unfold fn_ABL_init
  refine ah_aload_n C d_ABL_init_0 rfl ?_
  refine ah_callI (As := []) (rest := []) C (fun b => ok_ABC_init E _ b) (Or.inl we30) rfl we31 we28 we29 hy_ABC_init (by omega) (by omega) rfl rfl (ah_rs trivial (Nat.le_of_ble_eq_true rfl)) d_ABL_init_1 ?_
  refine ah_aload_n C d_ABL_init_4 rfl ?_
  refine ah_iconst (v := 0) C d_ABL_init_5 rfl ?_
  refine ah_putI (ci := 3) (k := 2) C rfl (by decide) rfl (Or.inl we32) (Or.inl rfl) rfl rfl d_ABL_init_6 ?_
  exact ah_vret C hr hlk d_ABL_init_9
set_option maxRecDepth 100000 in
set_option maxHeartbeats 4000000 in
theorem ok_AL_init (E : ahE) (l : Launch) (t : Nat) : ah_met E l y_AL_init prog_21_method_2_code 1 none 3 60 rv_V [.ref t] (fn_AL_init t) := by
  refine ah_met_of (by decide +kernel) (ah_c1_all ⟨rfl, trivial⟩) (Nat.le_of_ble_eq_true rfl) (lv := [some (va_rf (some t))]) rfl (fun X C hl hr hlk hnm => ?_)
  subst hl
  unfold fn_AL_init
  refine ah_aload_n C d_AL_init_0 rfl ?_
  refine ah_callI (As := []) (rest := []) C (fun b => ok_ABL_init E _ b) (Or.inl we35) rfl we36 we33 we34 hy_ABL_init (by omega) (by omega) rfl rfl (ah_rs trivial (Nat.le_of_ble_eq_true rfl)) d_AL_init_1 ?_
  refine ah_aload_n C d_AL_init_4 rfl ?_
  refine ah_gets C we37 d_AL_init_5 (fun x5 => ?_)
  refine ah_putR (ci := 3) (k := 0) C rfl (by decide) rfl (Or.inl we38) (Or.inl rfl) (fun y => by cases y <;> rfl) (fun y => by cases y <;> rfl) d_AL_init_8 ?_
  exact ah_vret C hr hlk d_AL_init_11
set_option maxRecDepth 100000 in
set_option maxHeartbeats 4000000 in
theorem ok_Entry_init (E : ahE) (l : Launch) (t : Nat) (v1 : Int32) (v2 : Option Nat) (v3 : Int32) (v4 : Int32) : ah_met E l y_Entry_init prog_5_method_1_code 5 none 4 80 rv_V [.ref t, .int v1, va_rf v2, .int v3, .int v4] (fn_Entry_init t v1 v2 v3 v4) := by
  refine ah_met_of (by decide +kernel) (ah_c1_all ⟨rfl, rfl, ah_rf_cat _, rfl, rfl, trivial⟩) (Nat.le_of_ble_eq_true rfl) (lv := [some (va_rf (some t)), some (.int v1), some (va_rf v2), some (.int v3), some (.int v4)]) rfl (fun X C hl hr hlk hnm => ?_)
  subst hl
  unfold fn_Entry_init
  refine ah_aload_n C d_Entry_init_0 rfl ?_
  refine ah_objInit C we39 we0 we1 (by omega) (by omega) rfl (ah_rs trivial (Nat.le_of_ble_eq_true rfl)) d_Entry_init_1 ?_
  refine ah_aload_n C d_Entry_init_4 rfl ?_
  refine ah_newO (ci := 3) C rfl we40 we41 we42 d_Entry_init_5 (fun x5 => ?_)
  refine ah_dup C d_Entry_init_8 (ah_rf_cat _) ?_
  refine ah_callI (As := []) (rest := [va_rf x5, va_rf (some t)]) C (fun b => ok_AL_init E _ b) (Or.inl we44) rfl we45 we42 we43 hy_AL_init (by omega) (by omega) rfl rfl (ah_rs ⟨(ah_rf_cat _), (ah_rf_cat _), trivial⟩ (Nat.le_of_ble_eq_true rfl)) d_Entry_init_9 ?_
  refine ah_putR (ci := 4) (k := 4) C rfl (by decide) rfl (Or.inl we46) (Or.inr ⟨rfl, hnm, rfl, we46⟩) (fun y => by cases y <;> rfl) (fun y => by cases y <;> rfl) d_Entry_init_12 ?_
  refine ah_aload_n C d_Entry_init_15 rfl ?_
  refine ah_bipush (v := 26) C d_Entry_init_16 rfl ?_
  refine ah_newQ (j := 2) C rfl rfl we47 we48 d_Entry_init_18 (fun x18 => ?_)
  refine ah_putR (ci := 4) (k := 5) C rfl (by decide) rfl (Or.inl we49) (Or.inr ⟨rfl, hnm, rfl, we49⟩) (fun y => by cases y <;> rfl) (fun y => by cases y <;> rfl) d_Entry_init_21 ?_
  refine ah_aload_n C d_Entry_init_24 rfl ?_
  refine ah_bipush (v := 6) C d_Entry_init_25 rfl ?_
  refine ah_newA (j := 0) (atype := .int) C rfl rfl we10 rfl (by decide) d_Entry_init_27 (fun x27 => ?_)
  refine ah_putR (ci := 4) (k := 6) C rfl (by decide) rfl (Or.inl we50) (Or.inr ⟨rfl, hnm, rfl, we50⟩) (fun y => by cases y <;> rfl) (fun y => by cases y <;> rfl) d_Entry_init_29 ?_
  refine ah_aload_n C d_Entry_init_32 rfl ?_
  refine ah_bipush (v := 6) C d_Entry_init_33 rfl ?_
  refine ah_newA (j := 0) (atype := .int) C rfl rfl we10 rfl (by decide) d_Entry_init_35 (fun x35 => ?_)
  refine ah_putR (ci := 4) (k := 7) C rfl (by decide) rfl (Or.inl we51) (Or.inr ⟨rfl, hnm, rfl, we51⟩) (fun y => by cases y <;> rfl) (fun y => by cases y <;> rfl) d_Entry_init_37 ?_
  refine ah_aload_n C d_Entry_init_40 rfl ?_
  refine ah_iload_n C d_Entry_init_41 rfl ?_
  refine ah_putI (ci := 4) (k := 0) C rfl (by decide) rfl (Or.inl we52) (Or.inr ⟨rfl, hnm, rfl, we52⟩) rfl rfl d_Entry_init_42 ?_
  refine ah_aload_n C d_Entry_init_45 rfl ?_
  refine ah_aload_n C d_Entry_init_46 rfl ?_
  refine ah_putR (ci := 4) (k := 1) C rfl (by decide) rfl (Or.inl we53) (Or.inr ⟨rfl, hnm, rfl, we53⟩) (fun y => by cases y <;> rfl) (fun y => by cases y <;> rfl) d_Entry_init_47 ?_
  refine ah_aload_n C d_Entry_init_50 rfl ?_
  refine ah_iload_n C d_Entry_init_51 rfl ?_
  refine ah_putI (ci := 4) (k := 2) C rfl (by decide) rfl (Or.inl we54) (Or.inr ⟨rfl, hnm, rfl, we54⟩) rfl rfl d_Entry_init_52 ?_
  refine ah_aload_n C d_Entry_init_55 rfl ?_
  refine ah_iload C d_Entry_init_56 rfl ?_
  refine ah_putI (ci := 4) (k := 3) C rfl (by decide) rfl (Or.inl we55) (Or.inr ⟨rfl, hnm, rfl, we55⟩) rfl rfl d_Entry_init_58 ?_
  exact ah_vret C hr hlk d_Entry_init_61
set_option maxRecDepth 100000 in
set_option maxHeartbeats 4000000 in
theorem ok_Rules_init (E : ahE) (l : Launch) (t : Nat) (v1 : Option Nat) : ah_met E l y_Rules_init prog_10_method_1_code 2 none 5 104 rv_V [.ref t, va_rf v1] (fn_Rules_init t v1) := by
  refine ah_met_of (by decide +kernel) (ah_c1_all ⟨rfl, ah_rf_cat _, trivial⟩) (Nat.le_of_ble_eq_true rfl) (lv := [some (va_rf (some t)), some (va_rf v1)]) rfl (fun X C hl hr hlk hnm => ?_)
  subst hl
  unfold fn_Rules_init
  refine ah_aload_n C d_Rules_init_0 rfl ?_
  refine ah_objInit C we56 we0 we1 (by omega) (by omega) rfl (ah_rs trivial (Nat.le_of_ble_eq_true rfl)) d_Rules_init_1 ?_
  refine ah_aload_n C d_Rules_init_4 rfl ?_
  refine ah_bipush (v := 8) C d_Rules_init_5 rfl ?_
  refine ah_newQ (j := 3) C rfl rfl we57 we58 d_Rules_init_7 (fun x7 => ?_)
  refine ah_putR (ci := 5) (k := 1) C rfl (by decide) rfl (Or.inl we59) (Or.inr ⟨rfl, hnm, rfl, we59⟩) (fun y => by cases y <;> rfl) (fun y => by cases y <;> rfl) d_Rules_init_10 ?_
  refine ah_aload_n C d_Rules_init_13 rfl ?_
  refine ah_bipush (v := 8) C d_Rules_init_14 rfl ?_
  refine ah_newA (j := 0) (atype := .int) C rfl rfl we10 rfl (by decide) d_Rules_init_16 (fun x16 => ?_)
  refine ah_putR (ci := 5) (k := 2) C rfl (by decide) rfl (Or.inl we60) (Or.inr ⟨rfl, hnm, rfl, we60⟩) (fun y => by cases y <;> rfl) (fun y => by cases y <;> rfl) d_Rules_init_18 ?_
  refine ah_aload_n C d_Rules_init_21 rfl ?_
  refine ah_bipush (v := 8) C d_Rules_init_22 rfl ?_
  refine ah_newA (j := 0) (atype := .int) C rfl rfl we10 rfl (by decide) d_Rules_init_24 (fun x24 => ?_)
  refine ah_putR (ci := 5) (k := 3) C rfl (by decide) rfl (Or.inl we61) (Or.inr ⟨rfl, hnm, rfl, we61⟩) (fun y => by cases y <;> rfl) (fun y => by cases y <;> rfl) d_Rules_init_26 ?_
  refine ah_aload_n C d_Rules_init_29 rfl ?_
  refine ah_aload_n C d_Rules_init_30 rfl ?_
  refine ah_putR (ci := 5) (k := 0) C rfl (by decide) rfl (Or.inl we62) (Or.inr ⟨rfl, hnm, rfl, we62⟩) (fun y => by cases y <;> rfl) (fun y => by cases y <;> rfl) d_Rules_init_31 ?_
  refine ah_aload_n C d_Rules_init_34 rfl ?_
  refine ah_getR (ci := 5) (k := 1) C rfl (by decide) rfl (Or.inl we59) d_Rules_init_35 (fun x35 => ?_)
  refine ah_iconst (v := 0) C d_Rules_init_38 rfl ?_
  refine ah_newO (ci := 4) C rfl we57 we63 we64 d_Rules_init_39 (fun x39 => ?_)
  refine ah_dup C d_Rules_init_42 (ah_rf_cat _) ?_
  refine ah_iconst (v := 0) C d_Rules_init_43 rfl ?_
  refine ah_newO (ci := 2) C rfl we65 we66 we67 d_Rules_init_44 (fun x44 => ?_)
  refine ah_dup C d_Rules_init_47 (ah_rf_cat _) ?_
  refine ah_callI (As := []) (rest := [va_rf x44, .int (0 : Int32), va_rf x39, va_rf x39, .int (0 : Int32), va_rf x35]) C (fun b => ok_Bounds_init E _ b) (Or.inr ⟨_, we69⟩) rfl we70 we67 we68 hy_Bounds_init (by omega) (by omega) rfl rfl (ah_rs ⟨(ah_rf_cat _), rfl, (ah_rf_cat _), (ah_rf_cat _), rfl, (ah_rf_cat _), trivial⟩ (Nat.le_of_ble_eq_true rfl)) d_Rules_init_48 ?_
  refine ah_iconst (v := -1) C d_Rules_init_51 rfl ?_
  refine ah_iconst (v := -1) C d_Rules_init_52 rfl ?_
  refine ah_callI (As := [.int (0 : Int32), va_rf x44, .int (-1 : Int32), .int (-1 : Int32)]) (rest := [va_rf x39, .int (0 : Int32), va_rf x35]) C (fun b => ok_Entry_init E _ b (0 : Int32) x44 (-1 : Int32) (-1 : Int32)) (Or.inl we72) rfl we73 we64 we71 hy_Entry_init (by omega) (by omega) rfl rfl (ah_rs ⟨(ah_rf_cat _), rfl, (ah_rf_cat _), trivial⟩ (Nat.le_of_ble_eq_true rfl)) d_Rules_init_53 ?_
  refine ah_aastore (j := 3) (ci := 4) C rfl rfl rfl d_Rules_init_56 ?_
  refine ah_aload_n C d_Rules_init_57 rfl ?_
  refine ah_getR (ci := 5) (k := 2) C rfl (by decide) rfl (Or.inl we60) d_Rules_init_58 (fun x58 => ?_)
  refine ah_iconst (v := -1) C d_Rules_init_61 rfl ?_
  refine ah_callSV (As := [va_rf x58, .int (-1 : Int32)]) (rest := []) C (ok_Ar_fill E _ x58 (-1 : Int32)) (Or.inl we74) we18 we15 we16 hy_Ar_fill (by omega) (by omega) rfl rfl (ah_rs trivial (Nat.le_of_ble_eq_true rfl)) d_Rules_init_62 ?_
  exact ah_vret C hr hlk d_Rules_init_65
set_option maxRecDepth 100000 in
set_option maxHeartbeats 4000000 in
theorem ok_Reader_init (E : ahE) (l : Launch) (t : Nat) (v1 : Option Nat) (v2 : Option Nat) (v3 : Option Nat) : ah_met E l y_Reader_init prog_9_method_1_code 4 none 1 20 rv_V [.ref t, va_rf v1, va_rf v2, va_rf v3] (fn_Reader_init t v1 v2 v3) := by
  refine ah_met_of (by decide +kernel) (ah_c1_all ⟨rfl, ah_rf_cat _, ah_rf_cat _, ah_rf_cat _, trivial⟩) (Nat.le_of_ble_eq_true rfl) (lv := [some (va_rf (some t)), some (va_rf v1), some (va_rf v2), some (va_rf v3)]) rfl (fun X C hl hr hlk hnm => ?_)
  subst hl
  unfold fn_Reader_init
  refine ah_aload_n C d_Reader_init_0 rfl ?_
  refine ah_objInit C we75 we0 we1 (by omega) (by omega) rfl (ah_rs trivial (Nat.le_of_ble_eq_true rfl)) d_Reader_init_1 ?_
  refine ah_aload_n C d_Reader_init_4 rfl ?_
  refine ah_sipush (v := 141) C d_Reader_init_5 rfl ?_
  refine ah_newA (j := 1) (atype := .char) C rfl rfl we76 rfl (by decide) d_Reader_init_8 (fun x8 => ?_)
  refine ah_putR (ci := 6) (k := 3) C rfl (by decide) rfl (Or.inl we77) (Or.inr ⟨rfl, hnm, rfl, we77⟩) (fun y => by cases y <;> rfl) (fun y => by cases y <;> rfl) d_Reader_init_10 ?_
  refine ah_aload_n C d_Reader_init_13 rfl ?_
  refine ah_sipush (v := 141) C d_Reader_init_14 rfl ?_
  refine ah_newA (j := 0) (atype := .int) C rfl rfl we10 rfl (by decide) d_Reader_init_17 (fun x17 => ?_)
  refine ah_putR (ci := 6) (k := 4) C rfl (by decide) rfl (Or.inl we78) (Or.inr ⟨rfl, hnm, rfl, we78⟩) (fun y => by cases y <;> rfl) (fun y => by cases y <;> rfl) d_Reader_init_19 ?_
  refine ah_aload_n C d_Reader_init_22 rfl ?_
  refine ah_sipush (v := 140) C d_Reader_init_23 rfl ?_
  refine ah_newA (j := 0) (atype := .int) C rfl rfl we10 rfl (by decide) d_Reader_init_26 (fun x26 => ?_)
  refine ah_putR (ci := 6) (k := 7) C rfl (by decide) rfl (Or.inl we79) (Or.inr ⟨rfl, hnm, rfl, we79⟩) (fun y => by cases y <;> rfl) (fun y => by cases y <;> rfl) d_Reader_init_28 ?_
  refine ah_aload_n C d_Reader_init_31 rfl ?_
  refine ah_aload_n C d_Reader_init_32 rfl ?_
  refine ah_putR (ci := 6) (k := 0) C rfl (by decide) rfl (Or.inl we80) (Or.inr ⟨rfl, hnm, rfl, we80⟩) (fun y => by cases y <;> rfl) (fun y => by cases y <;> rfl) d_Reader_init_33 ?_
  refine ah_aload_n C d_Reader_init_36 rfl ?_
  refine ah_aload_n C d_Reader_init_37 rfl ?_
  refine ah_putR (ci := 6) (k := 1) C rfl (by decide) rfl (Or.inl we81) (Or.inr ⟨rfl, hnm, rfl, we81⟩) (fun y => by cases y <;> rfl) (fun y => by cases y <;> rfl) d_Reader_init_38 ?_
  refine ah_aload_n C d_Reader_init_41 rfl ?_
  refine ah_aload_n C d_Reader_init_42 rfl ?_
  refine ah_putR (ci := 6) (k := 2) C rfl (by decide) rfl (Or.inl we82) (Or.inr ⟨rfl, hnm, rfl, we82⟩) (fun y => by cases y <;> rfl) (fun y => by cases y <;> rfl) d_Reader_init_43 ?_
  exact ah_vret C hr hlk d_Reader_init_46
set_option maxRecDepth 100000 in
set_option maxHeartbeats 4000000 in
theorem ok_Expressions_init (E : ahE) (l : Launch) (t : Nat) (v1 : Option Nat) (v2 : Option Nat) (v3 : Option Nat) : ah_met E l y_Expressions_init prog_6_method_1_code 4 none 1 20 rv_V [.ref t, va_rf v1, va_rf v2, va_rf v3] (fn_Expressions_init t v1 v2 v3) := by
  refine ah_met_of (by decide +kernel) (ah_c1_all ⟨rfl, ah_rf_cat _, ah_rf_cat _, ah_rf_cat _, trivial⟩) (Nat.le_of_ble_eq_true rfl) (lv := [some (va_rf (some t)), some (va_rf v1), some (va_rf v2), some (va_rf v3)]) rfl (fun X C hl hr hlk hnm => ?_)
  subst hl
  unfold fn_Expressions_init
  refine ah_aload_n C d_Expressions_init_0 rfl ?_
  refine ah_objInit C we83 we0 we1 (by omega) (by omega) rfl (ah_rs trivial (Nat.le_of_ble_eq_true rfl)) d_Expressions_init_1 ?_
  refine ah_aload_n C d_Expressions_init_4 rfl ?_
  refine ah_bipush (v := 72) C d_Expressions_init_5 rfl ?_
  refine ah_newA (j := 0) (atype := .int) C rfl rfl we10 rfl (by decide) d_Expressions_init_7 (fun x7 => ?_)
  refine ah_putR (ci := 7) (k := 3) C rfl (by decide) rfl (Or.inl we84) (Or.inr ⟨rfl, hnm, rfl, we84⟩) (fun y => by cases y <;> rfl) (fun y => by cases y <;> rfl) d_Expressions_init_9 ?_
  refine ah_aload_n C d_Expressions_init_12 rfl ?_
  refine ah_bipush (v := 6) C d_Expressions_init_13 rfl ?_
  refine ah_newA (j := 0) (atype := .int) C rfl rfl we10 rfl (by decide) d_Expressions_init_15 (fun x15 => ?_)
  refine ah_putR (ci := 7) (k := 5) C rfl (by decide) rfl (Or.inl we85) (Or.inr ⟨rfl, hnm, rfl, we85⟩) (fun y => by cases y <;> rfl) (fun y => by cases y <;> rfl) d_Expressions_init_17 ?_
  refine ah_aload_n C d_Expressions_init_20 rfl ?_
  refine ah_aload_n C d_Expressions_init_21 rfl ?_
  refine ah_putR (ci := 7) (k := 0) C rfl (by decide) rfl (Or.inl we86) (Or.inr ⟨rfl, hnm, rfl, we86⟩) (fun y => by cases y <;> rfl) (fun y => by cases y <;> rfl) d_Expressions_init_22 ?_
  refine ah_aload_n C d_Expressions_init_25 rfl ?_
  refine ah_aload_n C d_Expressions_init_26 rfl ?_
  refine ah_putR (ci := 7) (k := 1) C rfl (by decide) rfl (Or.inl we87) (Or.inr ⟨rfl, hnm, rfl, we87⟩) (fun y => by cases y <;> rfl) (fun y => by cases y <;> rfl) d_Expressions_init_27 ?_
  refine ah_aload_n C d_Expressions_init_30 rfl ?_
  refine ah_aload_n C d_Expressions_init_31 rfl ?_
  refine ah_putR (ci := 7) (k := 2) C rfl (by decide) rfl (Or.inl we88) (Or.inr ⟨rfl, hnm, rfl, we88⟩) (fun y => by cases y <;> rfl) (fun y => by cases y <;> rfl) d_Expressions_init_32 ?_
  exact ah_vret C hr hlk d_Expressions_init_35
set_option maxRecDepth 100000 in
set_option maxHeartbeats 4000000 in
theorem ok_Declarations_init (E : ahE) (l : Launch) (t : Nat) (v1 : Option Nat) (v2 : Option Nat) (v3 : Option Nat) : ah_met E l y_Declarations_init prog_4_method_1_code 4 none 1 20 rv_V [.ref t, va_rf v1, va_rf v2, va_rf v3] (fn_Declarations_init t v1 v2 v3) := by
  refine ah_met_of (by decide +kernel) (ah_c1_all ⟨rfl, ah_rf_cat _, ah_rf_cat _, ah_rf_cat _, trivial⟩) (Nat.le_of_ble_eq_true rfl) (lv := [some (va_rf (some t)), some (va_rf v1), some (va_rf v2), some (va_rf v3)]) rfl (fun X C hl hr hlk hnm => ?_)
  subst hl
  unfold fn_Declarations_init
  refine ah_aload_n C d_Declarations_init_0 rfl ?_
  refine ah_objInit C we89 we0 we1 (by omega) (by omega) rfl (ah_rs trivial (Nat.le_of_ble_eq_true rfl)) d_Declarations_init_1 ?_
  refine ah_aload_n C d_Declarations_init_4 rfl ?_
  refine ah_aload_n C d_Declarations_init_5 rfl ?_
  refine ah_putR (ci := 8) (k := 0) C rfl (by decide) rfl (Or.inl we90) (Or.inr ⟨rfl, hnm, rfl, we90⟩) (fun y => by cases y <;> rfl) (fun y => by cases y <;> rfl) d_Declarations_init_6 ?_
  refine ah_aload_n C d_Declarations_init_9 rfl ?_
  refine ah_aload_n C d_Declarations_init_10 rfl ?_
  refine ah_putR (ci := 8) (k := 1) C rfl (by decide) rfl (Or.inl we91) (Or.inr ⟨rfl, hnm, rfl, we91⟩) (fun y => by cases y <;> rfl) (fun y => by cases y <;> rfl) d_Declarations_init_11 ?_
  refine ah_aload_n C d_Declarations_init_14 rfl ?_
  refine ah_aload_n C d_Declarations_init_15 rfl ?_
  refine ah_putR (ci := 8) (k := 2) C rfl (by decide) rfl (Or.inl we92) (Or.inr ⟨rfl, hnm, rfl, we92⟩) (fun y => by cases y <;> rfl) (fun y => by cases y <;> rfl) d_Declarations_init_16 ?_
  exact ah_vret C hr hlk d_Declarations_init_19
set_option maxRecDepth 100000 in
set_option maxHeartbeats 4000000 in
theorem ok_Machine_init (E : ahE) (l : Launch) (t : Nat) (v1 : Option Nat) (v2 : Option Nat) (v3 : Option Nat) : ah_met E l y_Machine_init prog_7_method_1_code 4 none 1 20 rv_V [.ref t, va_rf v1, va_rf v2, va_rf v3] (fn_Machine_init t v1 v2 v3) := by
  refine ah_met_of (by decide +kernel) (ah_c1_all ⟨rfl, ah_rf_cat _, ah_rf_cat _, ah_rf_cat _, trivial⟩) (Nat.le_of_ble_eq_true rfl) (lv := [some (va_rf (some t)), some (va_rf v1), some (va_rf v2), some (va_rf v3)]) rfl (fun X C hl hr hlk hnm => ?_)
  subst hl
  unfold fn_Machine_init
  refine ah_aload_n C d_Machine_init_0 rfl ?_
  refine ah_objInit C we93 we0 we1 (by omega) (by omega) rfl (ah_rs trivial (Nat.le_of_ble_eq_true rfl)) d_Machine_init_1 ?_
  refine ah_aload_n C d_Machine_init_4 rfl ?_
  refine ah_sipush (v := 2870) C d_Machine_init_5 rfl ?_
  refine ah_newA (j := 0) (atype := .int) C rfl rfl we10 rfl (by decide) d_Machine_init_8 (fun x8 => ?_)
  refine ah_putR (ci := 9) (k := 3) C rfl (by decide) rfl (Or.inl we94) (Or.inr ⟨rfl, hnm, rfl, we94⟩) (fun y => by cases y <;> rfl) (fun y => by cases y <;> rfl) d_Machine_init_10 ?_
  refine ah_aload_n C d_Machine_init_13 rfl ?_
  refine ah_sipush (v := 962) C d_Machine_init_14 rfl ?_
  refine ah_newA (j := 0) (atype := .int) C rfl rfl we10 rfl (by decide) d_Machine_init_17 (fun x17 => ?_)
  refine ah_putR (ci := 9) (k := 5) C rfl (by decide) rfl (Or.inl we95) (Or.inr ⟨rfl, hnm, rfl, we95⟩) (fun y => by cases y <;> rfl) (fun y => by cases y <;> rfl) d_Machine_init_19 ?_
  refine ah_aload_n C d_Machine_init_22 rfl ?_
  refine ah_bipush (v := 36) C d_Machine_init_23 rfl ?_
  refine ah_newA (j := 0) (atype := .int) C rfl rfl we10 rfl (by decide) d_Machine_init_25 (fun x25 => ?_)
  refine ah_putR (ci := 9) (k := 7) C rfl (by decide) rfl (Or.inl we96) (Or.inr ⟨rfl, hnm, rfl, we96⟩) (fun y => by cases y <;> rfl) (fun y => by cases y <;> rfl) d_Machine_init_27 ?_
  refine ah_aload_n C d_Machine_init_30 rfl ?_
  refine ah_sipush (v := 200) C d_Machine_init_31 rfl ?_
  refine ah_newA (j := 1) (atype := .char) C rfl rfl we76 rfl (by decide) d_Machine_init_34 (fun x34 => ?_)
  refine ah_putR (ci := 9) (k := 13) C rfl (by decide) rfl (Or.inl we97) (Or.inr ⟨rfl, hnm, rfl, we97⟩) (fun y => by cases y <;> rfl) (fun y => by cases y <;> rfl) d_Machine_init_36 ?_
  refine ah_aload_n C d_Machine_init_39 rfl ?_
  refine ah_sipush (v := 200) C d_Machine_init_40 rfl ?_
  refine ah_newA (j := 0) (atype := .int) C rfl rfl we10 rfl (by decide) d_Machine_init_43 (fun x43 => ?_)
  refine ah_putR (ci := 9) (k := 15) C rfl (by decide) rfl (Or.inl we98) (Or.inr ⟨rfl, hnm, rfl, we98⟩) (fun y => by cases y <;> rfl) (fun y => by cases y <;> rfl) d_Machine_init_45 ?_
  refine ah_aload_n C d_Machine_init_48 rfl ?_
  refine ah_sipush (v := 200) C d_Machine_init_49 rfl ?_
  refine ah_newA (j := 0) (atype := .int) C rfl rfl we10 rfl (by decide) d_Machine_init_52 (fun x52 => ?_)
  refine ah_putR (ci := 9) (k := 16) C rfl (by decide) rfl (Or.inl we99) (Or.inr ⟨rfl, hnm, rfl, we99⟩) (fun y => by cases y <;> rfl) (fun y => by cases y <;> rfl) d_Machine_init_54 ?_
  refine ah_aload_n C d_Machine_init_57 rfl ?_
  refine ah_aload_n C d_Machine_init_58 rfl ?_
  refine ah_putR (ci := 9) (k := 0) C rfl (by decide) rfl (Or.inl we100) (Or.inr ⟨rfl, hnm, rfl, we100⟩) (fun y => by cases y <;> rfl) (fun y => by cases y <;> rfl) d_Machine_init_59 ?_
  refine ah_aload_n C d_Machine_init_62 rfl ?_
  refine ah_aload_n C d_Machine_init_63 rfl ?_
  refine ah_putR (ci := 9) (k := 1) C rfl (by decide) rfl (Or.inl we101) (Or.inr ⟨rfl, hnm, rfl, we101⟩) (fun y => by cases y <;> rfl) (fun y => by cases y <;> rfl) d_Machine_init_64 ?_
  refine ah_aload_n C d_Machine_init_67 rfl ?_
  refine ah_aload_n C d_Machine_init_68 rfl ?_
  refine ah_putR (ci := 9) (k := 2) C rfl (by decide) rfl (Or.inl we102) (Or.inr ⟨rfl, hnm, rfl, we102⟩) (fun y => by cases y <;> rfl) (fun y => by cases y <;> rfl) d_Machine_init_69 ?_
  exact ah_vret C hr hlk d_Machine_init_72
set_option maxRecDepth 100000 in
set_option maxHeartbeats 4000000 in
theorem ok_BT_init (E : ahE) (l : Launch) (t : Nat) : ah_met E l y_BT_init prog_1_method_1_code 1 none 6 125 rv_V [.ref t] (fn_BT_init t) := by
  refine ah_met_of (by decide +kernel) (ah_c1_all ⟨rfl, trivial⟩) (Nat.le_of_ble_eq_true rfl) (lv := [some (va_rf (some t))]) rfl (fun X C hl hr hlk hnm => ?_)
  subst hl
  unfold fn_BT_init
  refine ah_aload_n C d_BT_init_0 rfl ?_
  refine ah_objInit C we103 we0 we1 (by omega) (by omega) rfl (ah_rs trivial (Nat.le_of_ble_eq_true rfl)) d_BT_init_1 ?_
  refine ah_aload_n C d_BT_init_4 rfl ?_
  refine ah_sipush (v := 140) C d_BT_init_5 rfl ?_
  refine ah_newA (j := 1) (atype := .char) C rfl rfl we76 rfl (by decide) d_BT_init_8 (fun x8 => ?_)
  refine ah_putR (ci := 10) (k := 0) C rfl (by decide) rfl (Or.inl we104) (Or.inr ⟨rfl, hnm, rfl, we104⟩) (fun y => by cases y <;> rfl) (fun y => by cases y <;> rfl) d_BT_init_10 ?_
  refine ah_aload_n C d_BT_init_13 rfl ?_
  refine ah_newO (ci := 0) C rfl we105 we106 we5 d_BT_init_14 (fun x14 => ?_)
  refine ah_dup C d_BT_init_17 (ah_rf_cat _) ?_
  refine ah_callI (As := []) (rest := [va_rf x14, va_rf (some t)]) C (fun b => ok_Types_init E _ b) (Or.inl we108) rfl we109 we5 we107 hy_Types_init (by omega) (by omega) rfl rfl (ah_rs ⟨(ah_rf_cat _), (ah_rf_cat _), trivial⟩ (Nat.le_of_ble_eq_true rfl)) d_BT_init_18 ?_
  refine ah_putR (ci := 10) (k := 2) C rfl (by decide) rfl (Or.inl we110) (Or.inr ⟨rfl, hnm, rfl, we110⟩) (fun y => by cases y <;> rfl) (fun y => by cases y <;> rfl) d_BT_init_21 ?_
  refine ah_aload_n C d_BT_init_24 rfl ?_
  refine ah_newO (ci := 1) C rfl we111 we112 we113 d_BT_init_25 (fun x25 => ?_)
  refine ah_dup C d_BT_init_28 (ah_rf_cat _) ?_
  refine ah_callI (As := []) (rest := [va_rf x25, va_rf (some t)]) C (fun b => ok_Code_init E _ b) (Or.inr ⟨_, we115⟩) rfl we116 we113 we114 hy_Code_init (by omega) (by omega) rfl rfl (ah_rs ⟨(ah_rf_cat _), (ah_rf_cat _), trivial⟩ (Nat.le_of_ble_eq_true rfl)) d_BT_init_29 ?_
  refine ah_putR (ci := 10) (k := 3) C rfl (by decide) rfl (Or.inl we117) (Or.inr ⟨rfl, hnm, rfl, we117⟩) (fun y => by cases y <;> rfl) (fun y => by cases y <;> rfl) d_BT_init_32 ?_
  refine ah_aload_n C d_BT_init_35 rfl ?_
  refine ah_newO (ci := 5) C rfl we118 we119 we120 d_BT_init_36 (fun x36 => ?_)
  refine ah_dup C d_BT_init_39 (ah_rf_cat _) ?_
  refine ah_aload_n C d_BT_init_40 rfl ?_
  refine ah_getR (ci := 10) (k := 2) C rfl (by decide) rfl (Or.inl we110) d_BT_init_41 (fun x41 => ?_)
  refine ah_callI (As := [va_rf x41]) (rest := [va_rf x36, va_rf (some t)]) C (fun b => ok_Rules_init E _ b x41) (Or.inl we122) rfl we123 we120 we121 hy_Rules_init (by omega) (by omega) rfl rfl (ah_rs ⟨(ah_rf_cat _), (ah_rf_cat _), trivial⟩ (Nat.le_of_ble_eq_true rfl)) d_BT_init_44 ?_
  refine ah_putR (ci := 10) (k := 4) C rfl (by decide) rfl (Or.inl we124) (Or.inr ⟨rfl, hnm, rfl, we124⟩) (fun y => by cases y <;> rfl) (fun y => by cases y <;> rfl) d_BT_init_47 ?_
  refine ah_aload_n C d_BT_init_50 rfl ?_
  refine ah_newO (ci := 6) C rfl we125 we126 we127 d_BT_init_51 (fun x51 => ?_)
  refine ah_dup C d_BT_init_54 (ah_rf_cat _) ?_
  refine ah_aload_n C d_BT_init_55 rfl ?_
  refine ah_getR (ci := 10) (k := 0) C rfl (by decide) rfl (Or.inl we104) d_BT_init_56 (fun x56 => ?_)
  refine ah_aload_n C d_BT_init_59 rfl ?_
  refine ah_getR (ci := 10) (k := 2) C rfl (by decide) rfl (Or.inl we110) d_BT_init_60 (fun x60 => ?_)
  refine ah_aload_n C d_BT_init_63 rfl ?_
  refine ah_getR (ci := 10) (k := 3) C rfl (by decide) rfl (Or.inl we117) d_BT_init_64 (fun x64 => ?_)
  refine ah_callI (As := [va_rf x56, va_rf x60, va_rf x64]) (rest := [va_rf x51, va_rf (some t)]) C (fun b => ok_Reader_init E _ b x56 x60 x64) (Or.inl we129) rfl we130 we127 we128 hy_Reader_init (by omega) (by omega) rfl rfl (ah_rs ⟨(ah_rf_cat _), (ah_rf_cat _), trivial⟩ (Nat.le_of_ble_eq_true rfl)) d_BT_init_67 ?_
  refine ah_putR (ci := 10) (k := 5) C rfl (by decide) rfl (Or.inl we131) (Or.inr ⟨rfl, hnm, rfl, we131⟩) (fun y => by cases y <;> rfl) (fun y => by cases y <;> rfl) d_BT_init_70 ?_
  refine ah_aload_n C d_BT_init_73 rfl ?_
  refine ah_newO (ci := 7) C rfl we132 we133 we134 d_BT_init_74 (fun x74 => ?_)
  refine ah_dup C d_BT_init_77 (ah_rf_cat _) ?_
  refine ah_aload_n C d_BT_init_78 rfl ?_
  refine ah_getR (ci := 10) (k := 2) C rfl (by decide) rfl (Or.inl we110) d_BT_init_79 (fun x79 => ?_)
  refine ah_aload_n C d_BT_init_82 rfl ?_
  refine ah_getR (ci := 10) (k := 3) C rfl (by decide) rfl (Or.inl we117) d_BT_init_83 (fun x83 => ?_)
  refine ah_aload_n C d_BT_init_86 rfl ?_
  refine ah_getR (ci := 10) (k := 4) C rfl (by decide) rfl (Or.inl we124) d_BT_init_87 (fun x87 => ?_)
  refine ah_callI (As := [va_rf x79, va_rf x83, va_rf x87]) (rest := [va_rf x74, va_rf (some t)]) C (fun b => ok_Expressions_init E _ b x79 x83 x87) (Or.inl we136) rfl we137 we134 we135 hy_Expressions_init (by omega) (by omega) rfl rfl (ah_rs ⟨(ah_rf_cat _), (ah_rf_cat _), trivial⟩ (Nat.le_of_ble_eq_true rfl)) d_BT_init_90 ?_
  refine ah_putR (ci := 10) (k := 6) C rfl (by decide) rfl (Or.inl we138) (Or.inr ⟨rfl, hnm, rfl, we138⟩) (fun y => by cases y <;> rfl) (fun y => by cases y <;> rfl) d_BT_init_93 ?_
  refine ah_aload_n C d_BT_init_96 rfl ?_
  refine ah_newO (ci := 8) C rfl we139 we140 we141 d_BT_init_97 (fun x97 => ?_)
  refine ah_dup C d_BT_init_100 (ah_rf_cat _) ?_
  refine ah_aload_n C d_BT_init_101 rfl ?_
  refine ah_getR (ci := 10) (k := 2) C rfl (by decide) rfl (Or.inl we110) d_BT_init_102 (fun x102 => ?_)
  refine ah_aload_n C d_BT_init_105 rfl ?_
  refine ah_getR (ci := 10) (k := 4) C rfl (by decide) rfl (Or.inl we124) d_BT_init_106 (fun x106 => ?_)
  refine ah_aload_n C d_BT_init_109 rfl ?_
  refine ah_getR (ci := 10) (k := 6) C rfl (by decide) rfl (Or.inl we138) d_BT_init_110 (fun x110 => ?_)
  refine ah_callI (As := [va_rf x102, va_rf x106, va_rf x110]) (rest := [va_rf x97, va_rf (some t)]) C (fun b => ok_Declarations_init E _ b x102 x106 x110) (Or.inl we143) rfl we144 we141 we142 hy_Declarations_init (by omega) (by omega) rfl rfl (ah_rs ⟨(ah_rf_cat _), (ah_rf_cat _), trivial⟩ (Nat.le_of_ble_eq_true rfl)) d_BT_init_113 ?_
  refine ah_putR (ci := 10) (k := 7) C rfl (by decide) rfl (Or.inl we145) (Or.inr ⟨rfl, hnm, rfl, we145⟩) (fun y => by cases y <;> rfl) (fun y => by cases y <;> rfl) d_BT_init_116 ?_
  refine ah_aload_n C d_BT_init_119 rfl ?_
  refine ah_newO (ci := 9) C rfl we146 we147 we148 d_BT_init_120 (fun x120 => ?_)
  refine ah_dup C d_BT_init_123 (ah_rf_cat _) ?_
  refine ah_aload_n C d_BT_init_124 rfl ?_
  refine ah_getR (ci := 10) (k := 2) C rfl (by decide) rfl (Or.inl we110) d_BT_init_125 (fun x125 => ?_)
  refine ah_aload_n C d_BT_init_128 rfl ?_
  refine ah_getR (ci := 10) (k := 3) C rfl (by decide) rfl (Or.inl we117) d_BT_init_129 (fun x129 => ?_)
  refine ah_aload_n C d_BT_init_132 rfl ?_
  refine ah_getR (ci := 10) (k := 4) C rfl (by decide) rfl (Or.inl we124) d_BT_init_133 (fun x133 => ?_)
  refine ah_callI (As := [va_rf x125, va_rf x129, va_rf x133]) (rest := [va_rf x120, va_rf (some t)]) C (fun b => ok_Machine_init E _ b x125 x129 x133) (Or.inl we150) rfl we151 we148 we149 hy_Machine_init (by omega) (by omega) rfl rfl (ah_rs ⟨(ah_rf_cat _), (ah_rf_cat _), trivial⟩ (Nat.le_of_ble_eq_true rfl)) d_BT_init_136 ?_
  refine ah_putR (ci := 10) (k := 8) C rfl (by decide) rfl (Or.inl we152) (Or.inr ⟨rfl, hnm, rfl, we152⟩) (fun y => by cases y <;> rfl) (fun y => by cases y <;> rfl) d_BT_init_139 ?_
  exact ah_vret C hr hlk d_BT_init_142
set_option maxRecDepth 100000 in
set_option maxHeartbeats 4000000 in
theorem ok_BT_byteOf (E : ahE) (l : Launch) (v0 : Int32) (v1 : Int32) : ah_met E l y_BT_byteOf prog_1_method_10_code 2 (some .int) 0 0 rv_I [.int v0, .int v1] (fn_BT_byteOf v0 v1) := by
  refine ah_met_of (by decide +kernel) (ah_c1_all ⟨rfl, rfl, trivial⟩) (Nat.le_of_ble_eq_true rfl) (lv := [some (.int v0), some (.int v1)]) rfl (fun X C hl hr hlk hnm => ?_)
  subst hl
  unfold fn_BT_byteOf
  refine ah_iload_n C d_BT_byteOf_0 rfl ?_
  refine ah_bipush (v := 8) C d_BT_byteOf_1 rfl ?_
  refine ah_iload_n C d_BT_byteOf_3 rfl ?_
  refine ah_imul C d_BT_byteOf_4 ?_
  refine ah_iushr C d_BT_byteOf_5 ?_
  refine ah_sipush (v := 255) C d_BT_byteOf_6 rfl ?_
  refine ah_iand C d_BT_byteOf_9 ?_
  exact ah_iret C hr hlk rfl d_BT_byteOf_10
set_option maxRecDepth 100000 in
set_option maxHeartbeats 4000000 in
theorem ok_BT_areCharacters_B2 {E : ahE} {X : ahX} (C : ah_Cx E X prog_1_method_11_code 4 "BoundedTypes" 1 21) (hr : (ax_M X).sig.returnType = some .boolean) (hlk : (ax_M X).locks = false) (v0 : Int32) (v1 : Int32) : ∀ (n : Nat) (v2 : Int32), ah_S E X (ah_Q E X rv_I) 2 [some (.int v0), some (.int v1), some (.int v2), none] [] (ah_lp (fn_BT_areCharacters_B2 v0 v1) n v2) := by
  intro n
  induction n with
  | zero => intro v2 h r n u c hs; cases hs
  | succ n hk2 =>
    intro v2
    show ah_S E X (ah_Q E X rv_I) 2 _ _ (fn_BT_areCharacters_B2 v0 v1 (ah_lp (fn_BT_areCharacters_B2 v0 v1) n) v2)
    generalize ah_lp (fn_BT_areCharacters_B2 v0 v1) n = k2 at hk2 ⊢
    rw [fn_BT_areCharacters_B2]
    refine ah_iload_n C d_BT_areCharacters_2 rfl ?_
    refine ah_iload_n C d_BT_areCharacters_3 rfl ?_
    refine ah_icmp_ge (tgt := 33) C d_BT_areCharacters_4 rfl (fun _ => ?_) (fun _ => ?_)
    · refine ah_iconst (v := 1) C d_BT_areCharacters_33 rfl ?_
      exact ah_zret C hr hlk d_BT_areCharacters_34
    · refine ah_iload_n C d_BT_areCharacters_7 rfl ?_
      refine ah_iload_n C d_BT_areCharacters_8 rfl ?_
      refine ah_callSI (As := [.int v0, .int v2]) (rest := []) C (ok_BT_byteOf E _ v0 v2) (Or.inl we155) we156 we153 we154 hy_BT_byteOf (by omega) (by omega) rfl rfl (ah_rs trivial (Nat.le_of_ble_eq_true rfl)) d_BT_areCharacters_9 (fun x9 => ?_)
      refine ah_istore_n (lv' := [some (.int v0), some (.int v1), some (.int v2), some (.int x9)]) C d_BT_areCharacters_12 (Nat.le_of_ble_eq_true rfl) rfl ?_
      refine ah_iload_n C d_BT_areCharacters_13 rfl ?_
      refine ah_bipush (v := 32) C d_BT_areCharacters_14 rfl ?_
      refine ah_icmp_lt (tgt := 25) C d_BT_areCharacters_16 rfl (fun _ => ?_) (fun _ => ?_)
      · refine ah_iconst (v := 0) C d_BT_areCharacters_25 rfl ?_
        exact ah_zret C hr hlk d_BT_areCharacters_26
      · refine ah_iload_n C d_BT_areCharacters_19 rfl ?_
        refine ah_bipush (v := 126) C d_BT_areCharacters_20 rfl ?_
        refine ah_icmp_le (tgt := 27) C d_BT_areCharacters_22 rfl (fun _ => ?_) (fun _ => ?_)
        · refine ah_iinc (lv' := [some (.int v0), some (.int v1), some (.int (v2 + (1 : Int32))), some (.int x9)]) C d_BT_areCharacters_27 rfl rfl rfl ?_
          refine ah_goto (tgt := 2) C d_BT_areCharacters_30 rfl ?_
          refine ah_mask [true, true, true, false] (lv' := [some (.int v0), some (.int v1), some (.int (v2 + (1 : Int32))), none]) rfl ?_
          exact hk2 (v2 + (1 : Int32))
        · refine ah_iconst (v := 0) C d_BT_areCharacters_25 rfl ?_
          exact ah_zret C hr hlk d_BT_areCharacters_26
set_option maxRecDepth 100000 in
set_option maxHeartbeats 4000000 in
theorem ok_BT_areCharacters (E : ahE) (l : Launch) (v0 : Int32) (v1 : Int32) : ah_met E l y_BT_areCharacters prog_1_method_11_code 4 (some .boolean) 1 21 rv_I [.int v0, .int v1] (fn_BT_areCharacters v0 v1) := by
  refine ah_met_of (by decide +kernel) (ah_c1_all ⟨rfl, rfl, trivial⟩) (Nat.le_of_ble_eq_true rfl) (lv := [some (.int v0), some (.int v1), none, none]) rfl (fun X C hl hr hlk hnm => ?_)
  subst hl
  unfold fn_BT_areCharacters
  refine ah_iconst (v := 0) C d_BT_areCharacters_0 rfl ?_
  refine ah_istore_n (lv' := [some (.int v0), some (.int v1), some (.int (0 : Int32)), none]) C d_BT_areCharacters_1 (Nat.le_of_ble_eq_true rfl) rfl ?_
  refine ah_mask [true, true, true, false] (lv' := [some (.int v0), some (.int v1), some (.int (0 : Int32)), none]) rfl ?_
  exact ok_BT_areCharacters_B2 C hr hlk v0 v1 FU (0 : Int32)
set_option maxRecDepth 100000 in
set_option maxHeartbeats 4000000 in
theorem ok_BT_type_B36 {E : ahE} {X : ahX} (C : ah_Cx E X prog_1_method_2_code 4 "BoundedTypes" 2 44) (hr : (ax_M X).sig.returnType = some .boolean) (hlk : (ax_M X).locks = false) (t : Nat) (v1 : Int32) : ∀ (n : Nat) (v3 : Int32), ah_S E X (ah_Q E X rv_I) 36 [some (va_rf (some t)), some (.int v1), none, some (.int v3)] [] (ah_lp (fn_BT_type_B36 t v1) n v3) := by
  intro n
  induction n with
  | zero => intro v3 h r n u c hs; cases hs
  | succ n hk36 =>
    intro v3
    show ah_S E X (ah_Q E X rv_I) 36 _ _ (fn_BT_type_B36 t v1 (ah_lp (fn_BT_type_B36 t v1) n) v3)
    generalize ah_lp (fn_BT_type_B36 t v1) n = k36 at hk36 ⊢
    rw [fn_BT_type_B36]
    refine ah_iload_n C d_BT_type_36 rfl ?_
    refine ah_if_lt (tgt := 71) C d_BT_type_37 rfl (fun _ => ?_) (fun _ => ?_)
    · refine ah_iconst (v := 1) C d_BT_type_71 rfl ?_
      exact ah_zret C hr hlk d_BT_type_72
    · refine ah_aload_n C d_BT_type_40 rfl ?_
      refine ah_getR (ci := 10) (k := 0) C rfl (by decide) rfl (Or.inl we104) d_BT_type_41 (fun x41 => ?_)
      refine ah_aload_n C d_BT_type_44 rfl ?_
      refine ah_getI (ci := 10) (k := 1) C rfl (by decide) rfl (Or.inl we157) d_BT_type_45 (fun x45 => ?_)
      refine ah_iload_n C d_BT_type_48 rfl ?_
      refine ah_iload_n C d_BT_type_49 rfl ?_
      refine ah_callSI (As := [.int v1, .int v3]) (rest := [.int x45, va_rf x41]) C (ok_BT_byteOf E _ v1 v3) (Or.inl we155) we156 we153 we154 hy_BT_byteOf (by omega) (by omega) rfl rfl (ah_rs ⟨rfl, (ah_rf_cat _), trivial⟩ (Nat.le_of_ble_eq_true rfl)) d_BT_type_50 (fun x50 => ?_)
      refine ah_i2c C d_BT_type_53 ?_
      refine ah_castore (j := 1) C rfl rfl d_BT_type_54 ?_
      refine ah_aload_n C d_BT_type_55 rfl ?_
      refine ah_dup C d_BT_type_56 (ah_rf_cat _) ?_
      refine ah_getI (ci := 10) (k := 1) C rfl (by decide) rfl (Or.inl we157) d_BT_type_57 (fun x57 => ?_)
      refine ah_iconst (v := 1) C d_BT_type_60 rfl ?_
      refine ah_iadd C d_BT_type_61 ?_
      refine ah_putI (ci := 10) (k := 1) C rfl (by decide) rfl (Or.inl we157) (Or.inl rfl) rfl rfl d_BT_type_62 ?_
      refine ah_iinc (lv' := [some (va_rf (some t)), some (.int v1), none, some (.int (v3 + (-1 : Int32)))]) C d_BT_type_65 rfl rfl rfl ?_
      refine ah_goto (tgt := 36) C d_BT_type_68 rfl ?_
      refine ah_mask [true, true, false, true] (lv' := [some (va_rf (some t)), some (.int v1), none, some (.int (v3 + (-1 : Int32)))]) rfl ?_
      exact hk36 (v3 + (-1 : Int32))
set_option maxRecDepth 100000 in
set_option maxHeartbeats 4000000 in
theorem ok_BT_type (E : ahE) (l : Launch) (t : Nat) (v1 : Int32) (v2 : Int32) : ah_met E l y_BT_type prog_1_method_2_code 4 (some .boolean) 2 44 rv_I [.ref t, .int v1, .int v2] (fn_BT_type t v1 v2) := by
  refine ah_met_of (by decide +kernel) (ah_c1_all ⟨rfl, rfl, rfl, trivial⟩) (Nat.le_of_ble_eq_true rfl) (lv := [some (va_rf (some t)), some (.int v1), some (.int v2), none]) rfl (fun X C hl hr hlk hnm => ?_)
  subst hl
  unfold fn_BT_type
  refine ah_iload_n C d_BT_type_0 rfl ?_
  refine ah_iconst (v := 1) C d_BT_type_1 rfl ?_
  refine ah_icmp_lt (tgt := 30) C d_BT_type_2 rfl (fun _ => ?_) (fun _ => ?_)
  · refine ah_iconst (v := 0) C d_BT_type_30 rfl ?_
    exact ah_zret C hr hlk d_BT_type_31
  · refine ah_iload_n C d_BT_type_5 rfl ?_
    refine ah_iconst (v := 4) C d_BT_type_6 rfl ?_
    refine ah_icmp_gt (tgt := 30) C d_BT_type_7 rfl (fun _ => ?_) (fun _ => ?_)
    · refine ah_iconst (v := 0) C d_BT_type_30 rfl ?_
      exact ah_zret C hr hlk d_BT_type_31
    · refine ah_aload_n C d_BT_type_10 rfl ?_
      refine ah_getI (ci := 10) (k := 1) C rfl (by decide) rfl (Or.inl we157) d_BT_type_11 (fun x11 => ?_)
      refine ah_iload_n C d_BT_type_14 rfl ?_
      refine ah_iadd C d_BT_type_15 ?_
      refine ah_sipush (v := 140) C d_BT_type_16 rfl ?_
      refine ah_icmp_gt (tgt := 30) C d_BT_type_19 rfl (fun _ => ?_) (fun _ => ?_)
      · refine ah_iconst (v := 0) C d_BT_type_30 rfl ?_
        exact ah_zret C hr hlk d_BT_type_31
      · refine ah_iload_n C d_BT_type_22 rfl ?_
        refine ah_iload_n C d_BT_type_23 rfl ?_
        refine ah_callSI (As := [.int v1, .int v2]) (rest := []) C (ok_BT_areCharacters E _ v1 v2) (Or.inl we159) we160 we153 we158 hy_BT_areCharacters (by omega) (by omega) rfl rfl (ah_rs trivial (Nat.le_of_ble_eq_true rfl)) d_BT_type_24 (fun x24 => ?_)
        refine ah_if_ne (tgt := 32) C d_BT_type_27 rfl (fun _ => ?_) (fun _ => ?_)
        · refine ah_iload_n C d_BT_type_32 rfl ?_
          refine ah_iconst (v := 1) C d_BT_type_33 rfl ?_
          refine ah_isub C d_BT_type_34 ?_
          refine ah_istore_n (lv' := [some (va_rf (some t)), some (.int v1), some (.int v2), some (.int (v2 - (1 : Int32)))]) C d_BT_type_35 (Nat.le_of_ble_eq_true rfl) rfl ?_
          refine ah_mask [true, true, false, true] (lv' := [some (va_rf (some t)), some (.int v1), none, some (.int (v2 - (1 : Int32)))]) rfl ?_
          exact ok_BT_type_B36 C hr hlk t v1 FU (v2 - (1 : Int32))
        · refine ah_iconst (v := 0) C d_BT_type_30 rfl ?_
          exact ah_zret C hr hlk d_BT_type_31
set_option maxRecDepth 100000 in
set_option maxHeartbeats 4000000 in
theorem ok_Types_makeRoom (E : ahE) (l : Launch) (t : Nat) : ah_met E l y_Types_makeRoom prog_11_method_12_code 2 none 0 0 rv_V [.ref t] (fn_Types_makeRoom t) := by
  refine ah_met_of (by decide +kernel) (ah_c1_all ⟨rfl, trivial⟩) (Nat.le_of_ble_eq_true rfl) (lv := [some (va_rf (some t)), none]) rfl (fun X C hl hr hlk hnm => ?_)
  subst hl
  unfold fn_Types_makeRoom
  refine ah_iconst (v := 2) C d_Types_makeRoom_0 rfl ?_
  refine ah_aload_n C d_Types_makeRoom_1 rfl ?_
  refine ah_getR (ci := 0) (k := 0) C rfl (by decide) rfl (Or.inl we3) d_Types_makeRoom_2 (fun x2 => ?_)
  refine ah_alen (j := 0) C rfl d_Types_makeRoom_5 (fun x5 => ?_)
  refine ah_imul C d_Types_makeRoom_6 ?_
  refine ah_istore_n (lv' := [some (va_rf (some t)), some (.int ((2 : Int32) * x5))]) C d_Types_makeRoom_7 (Nat.le_of_ble_eq_true rfl) rfl ?_
  refine ah_aload_n C d_Types_makeRoom_8 rfl ?_
  refine ah_getR (ci := 0) (k := 0) C rfl (by decide) rfl (Or.inl we3) d_Types_makeRoom_9 (fun x9 => ?_)
  refine ah_alen (j := 0) C rfl d_Types_makeRoom_12 (fun x12 => ?_)
  refine ah_aload_n C d_Types_makeRoom_13 rfl ?_
  refine ah_getI (ci := 0) (k := 6) C rfl (by decide) rfl (Or.inl we14) d_Types_makeRoom_14 (fun x14 => ?_)
  refine ah_isub C d_Types_makeRoom_17 ?_
  refine ah_sipush (v := 256) C d_Types_makeRoom_18 rfl ?_
  refine ah_icmp_ge (tgt := 30) C d_Types_makeRoom_21 rfl (fun _ => ?_) (fun _ => ?_)
  · exact ah_vret C hr hlk d_Types_makeRoom_30
  · refine ah_iload_n C d_Types_makeRoom_24 rfl ?_
    refine ah_ldc (v := 32768) C we161 d_Types_makeRoom_25 ?_
    refine ah_icmp_le (tgt := 31) C d_Types_makeRoom_27 rfl (fun _ => ?_) (fun _ => ?_)
    · refine ah_aload_n C d_Types_makeRoom_31 rfl ?_
      refine ah_aload_n C d_Types_makeRoom_32 rfl ?_
      refine ah_getR (ci := 0) (k := 0) C rfl (by decide) rfl (Or.inl we3) d_Types_makeRoom_33 (fun x33 => ?_)
      refine ah_iload_n C d_Types_makeRoom_36 rfl ?_
      exact ah_Sno
    · exact ah_vret C hr hlk d_Types_makeRoom_30
set_option maxRecDepth 100000 in
set_option maxHeartbeats 4000000 in
theorem ok_Reader_start_J64 {E : ahE} {X : ahX} (C : ah_Cx E X prog_9_method_5_code 4 "BoundedTypes$Reader" 1 21) (hr : (ax_M X).sig.returnType = none) (hlk : (ax_M X).locks = false) (t : Nat) (v1 : Int32) (v2 : Int32) : ah_S E X (ah_Q E X rv_V) 64 [some (va_rf (some t)), some (.int v1), some (.int v2), none] [] (fn_Reader_start_J64 t v1 v2) := by
  unfold fn_Reader_start_J64
  refine ah_aload_n C d_Reader_start_64 rfl ?_
  refine ah_getR (ci := 6) (k := 3) C rfl (by decide) rfl (Or.inl we77) d_Reader_start_65 (fun x65 => ?_)
  refine ah_iload_n C d_Reader_start_68 rfl ?_
  refine ah_iconst (v := 0) C d_Reader_start_69 rfl ?_
  refine ah_castore (j := 1) C rfl rfl d_Reader_start_70 ?_
  refine ah_aload_n C d_Reader_start_71 rfl ?_
  refine ah_getR (ci := 6) (k := 4) C rfl (by decide) rfl (Or.inl we78) d_Reader_start_72 (fun x72 => ?_)
  refine ah_iload_n C d_Reader_start_75 rfl ?_
  refine ah_iload_n C d_Reader_start_76 rfl ?_
  refine ah_iastore C rfl rfl d_Reader_start_77 ?_
  refine ah_aload_n C d_Reader_start_78 rfl ?_
  refine ah_iconst (v := 0) C d_Reader_start_79 rfl ?_
  refine ah_putI (ci := 6) (k := 5) C rfl (by decide) rfl (Or.inl we162) (Or.inl rfl) rfl rfl d_Reader_start_80 ?_
  refine ah_aload_n C d_Reader_start_83 rfl ?_
  refine ah_iconst (v := 0) C d_Reader_start_84 rfl ?_
  refine ah_putI (ci := 6) (k := 6) C rfl (by decide) rfl (Or.inl we163) (Or.inl rfl) rfl rfl d_Reader_start_85 ?_
  refine ah_aload_n C d_Reader_start_88 rfl ?_
  refine ah_iconst (v := 0) C d_Reader_start_89 rfl ?_
  refine ah_putI (ci := 6) (k := 8) C rfl (by decide) rfl (Or.inl we164) (Or.inl rfl) rfl rfl d_Reader_start_90 ?_
  refine ah_aload_n C d_Reader_start_93 rfl ?_
  refine ah_null C d_Reader_start_94 ?_
  refine ah_putR (ci := 6) (k := 9) C rfl (by decide) rfl (Or.inl we165) (Or.inl rfl) (fun y => by cases y <;> rfl) (fun y => by cases y <;> rfl) d_Reader_start_95 ?_
  refine ah_aload_n C d_Reader_start_98 rfl ?_
  refine ah_getR (ci := 6) (k := 1) C rfl (by decide) rfl (Or.inl we81) d_Reader_start_99 (fun x99 => ?_)
  refine ah_callVV (ci := 0) (As := []) (rest := []) C (fun b => ok_Types_makeRoom E _ b) rfl (Or.inl we167) we168 we169 we5 we166 hy_Types_makeRoom (by omega) (by omega) rfl rfl (ah_rs trivial (Nat.le_of_ble_eq_true rfl)) d_Reader_start_102 ?_
  exact ah_vret C hr hlk d_Reader_start_105
set_option maxRecDepth 100000 in
set_option maxHeartbeats 4000000 in
theorem ok_Reader_start_J58 {E : ahE} {X : ahX} (C : ah_Cx E X prog_9_method_5_code 4 "BoundedTypes$Reader" 1 21) (hr : (ax_M X).sig.returnType = none) (hlk : (ax_M X).locks = false) (t : Nat) (v1 : Int32) (v2 : Int32) (v3 : Int32) (k4 : (Int32 × Int32) → ahM Unit) (hk4 : ∀ (z2 : Int32) (z3 : Int32), ah_S E X (ah_Q E X rv_V) 4 [some (va_rf (some t)), some (.int v1), some (.int z2), some (.int z3)] [] (k4 (z2, z3))) : ah_S E X (ah_Q E X rv_V) 58 [some (va_rf (some t)), some (.int v1), some (.int v2), some (.int v3)] [] (fn_Reader_start_J58 t v1 v2 v3 k4) := by
  unfold fn_Reader_start_J58
  refine ah_iinc (lv' := [some (va_rf (some t)), some (.int v1), some (.int v2), some (.int (v3 + (1 : Int32)))]) C d_Reader_start_58 rfl rfl rfl ?_
  refine ah_goto (tgt := 4) C d_Reader_start_61 rfl ?_
  refine ah_mask [true, true, true, true] (lv' := [some (va_rf (some t)), some (.int v1), some (.int v2), some (.int (v3 + (1 : Int32)))]) rfl ?_
  exact hk4 v2 (v3 + (1 : Int32))
set_option maxRecDepth 100000 in
set_option maxHeartbeats 4000000 in
theorem ok_Reader_start_B4 {E : ahE} {X : ahX} (C : ah_Cx E X prog_9_method_5_code 4 "BoundedTypes$Reader" 1 21) (hr : (ax_M X).sig.returnType = none) (hlk : (ax_M X).locks = false) (t : Nat) (v1 : Int32) : ∀ (n : Nat) (v2 : Int32) (v3 : Int32), ah_S E X (ah_Q E X rv_V) 4 [some (va_rf (some t)), some (.int v1), some (.int v2), some (.int v3)] [] (ah_lp (fn_Reader_start_B4 t v1) n (v2, v3)) := by
  intro n
  induction n with
  | zero => intro v2 v3 h r n u c hs; cases hs
  | succ n hk4 =>
    intro v2 v3
    show ah_S E X (ah_Q E X rv_V) 4 _ _ (fn_Reader_start_B4 t v1 (ah_lp (fn_Reader_start_B4 t v1) n) (v2, v3))
    generalize ah_lp (fn_Reader_start_B4 t v1) n = k4 at hk4 ⊢
    rw [fn_Reader_start_B4]
    refine ah_iload_n C d_Reader_start_4 rfl ?_
    refine ah_iload_n C d_Reader_start_5 rfl ?_
    refine ah_icmp_ge (tgt := 64) C d_Reader_start_6 rfl (fun _ => ?_) (fun _ => ?_)
    · refine ah_mask [true, true, true, false] (lv' := [some (va_rf (some t)), some (.int v1), some (.int v2), none]) rfl ?_
      exact ok_Reader_start_J64 C hr hlk t v1 v2
    · refine ah_iload_n C d_Reader_start_9 rfl ?_
      refine ah_aload_n C d_Reader_start_10 rfl ?_
      refine ah_getR (ci := 6) (k := 0) C rfl (by decide) rfl (Or.inl we80) d_Reader_start_11 (fun x11 => ?_)
      refine ah_alen (j := 1) C rfl d_Reader_start_14 (fun x14 => ?_)
      refine ah_icmp_ge (tgt := 64) C d_Reader_start_15 rfl (fun _ => ?_) (fun _ => ?_)
      · refine ah_mask [true, true, true, false] (lv' := [some (va_rf (some t)), some (.int v1), some (.int v2), none]) rfl ?_
        exact ok_Reader_start_J64 C hr hlk t v1 v2
      · refine ah_iload_n C d_Reader_start_18 rfl ?_
        refine ah_sipush (v := 140) C d_Reader_start_19 rfl ?_
        refine ah_icmp_ge (tgt := 64) C d_Reader_start_22 rfl (fun _ => ?_) (fun _ => ?_)
        · refine ah_mask [true, true, true, false] (lv' := [some (va_rf (some t)), some (.int v1), some (.int v2), none]) rfl ?_
          exact ok_Reader_start_J64 C hr hlk t v1 v2
        · refine ah_aload_n C d_Reader_start_25 rfl ?_
          refine ah_getR (ci := 6) (k := 0) C rfl (by decide) rfl (Or.inl we80) d_Reader_start_26 (fun x26 => ?_)
          refine ah_iload_n C d_Reader_start_29 rfl ?_
          refine ah_caload (j := 1) C (by decide) rfl rfl d_Reader_start_30 (fun x30 => ?_)
          refine ah_bipush (v := 32) C d_Reader_start_31 rfl ?_
          refine ah_icmp_eq (tgt := 58) C d_Reader_start_33 rfl (fun _ => ?_) (fun _ => ?_)
          · refine ah_mask [true, true, true, true] (lv' := [some (va_rf (some t)), some (.int v1), some (.int v2), some (.int v3)]) rfl ?_
            exact ok_Reader_start_J58 C hr hlk t v1 v2 v3 k4 hk4
          · refine ah_aload_n C d_Reader_start_36 rfl ?_
            refine ah_getR (ci := 6) (k := 3) C rfl (by decide) rfl (Or.inl we77) d_Reader_start_37 (fun x37 => ?_)
            refine ah_iload_n C d_Reader_start_40 rfl ?_
            refine ah_aload_n C d_Reader_start_41 rfl ?_
            refine ah_getR (ci := 6) (k := 0) C rfl (by decide) rfl (Or.inl we80) d_Reader_start_42 (fun x42 => ?_)
            refine ah_iload_n C d_Reader_start_45 rfl ?_
            refine ah_caload (j := 1) C (by decide) rfl rfl d_Reader_start_46 (fun x46 => ?_)
            refine ah_castore (j := 1) C rfl rfl d_Reader_start_47 ?_
            refine ah_aload_n C d_Reader_start_48 rfl ?_
            refine ah_getR (ci := 6) (k := 4) C rfl (by decide) rfl (Or.inl we78) d_Reader_start_49 (fun x49 => ?_)
            refine ah_iload_n C d_Reader_start_52 rfl ?_
            refine ah_iload_n C d_Reader_start_53 rfl ?_
            refine ah_iastore C rfl rfl d_Reader_start_54 ?_
            refine ah_iinc (lv' := [some (va_rf (some t)), some (.int v1), some (.int (v2 + (1 : Int32))), some (.int v3)]) C d_Reader_start_55 rfl rfl rfl ?_
            refine ah_mask [true, true, true, true] (lv' := [some (va_rf (some t)), some (.int v1), some (.int (v2 + (1 : Int32))), some (.int v3)]) rfl ?_
            exact ok_Reader_start_J58 C hr hlk t v1 (v2 + (1 : Int32)) v3 k4 hk4
set_option maxRecDepth 100000 in
set_option maxHeartbeats 4000000 in
theorem ok_Reader_start (E : ahE) (l : Launch) (t : Nat) (v1 : Int32) : ah_met E l y_Reader_start prog_9_method_5_code 4 none 1 21 rv_V [.ref t, .int v1] (fn_Reader_start t v1) := by
  refine ah_met_of (by decide +kernel) (ah_c1_all ⟨rfl, rfl, trivial⟩) (Nat.le_of_ble_eq_true rfl) (lv := [some (va_rf (some t)), some (.int v1), none, none]) rfl (fun X C hl hr hlk hnm => ?_)
  subst hl
  unfold fn_Reader_start
  refine ah_iconst (v := 0) C d_Reader_start_0 rfl ?_
  refine ah_istore_n (lv' := [some (va_rf (some t)), some (.int v1), some (.int (0 : Int32)), none]) C d_Reader_start_1 (Nat.le_of_ble_eq_true rfl) rfl ?_
  refine ah_iconst (v := 0) C d_Reader_start_2 rfl ?_
  refine ah_istore_n (lv' := [some (va_rf (some t)), some (.int v1), some (.int (0 : Int32)), some (.int (0 : Int32))]) C d_Reader_start_3 (Nat.le_of_ble_eq_true rfl) rfl ?_
  refine ah_mask [true, true, true, true] (lv' := [some (va_rf (some t)), some (.int v1), some (.int (0 : Int32)), some (.int (0 : Int32))]) rfl ?_
  exact ok_Reader_start_B4 C hr hlk t v1 FU (0 : Int32) (0 : Int32)
set_option maxRecDepth 100000 in
set_option maxHeartbeats 4000000 in
theorem ok_Reader_takeLetter_J26 {E : ahE} {X : ahX} (C : ah_Cx E X prog_9_method_8_code 3 "BoundedTypes$Reader" 0 0) (hr : (ax_M X).sig.returnType = some .int) (hlk : (ax_M X).locks = false) (t : Nat) : ah_S E X (ah_Q E X rv_I) 26 [some (va_rf (some t)), none, none] [] (fn_Reader_takeLetter_J26 t) := by
  unfold fn_Reader_takeLetter_J26
  refine ah_aload_n C d_Reader_takeLetter_26 rfl ?_
  refine ah_getR (ci := 6) (k := 3) C rfl (by decide) rfl (Or.inl we77) d_Reader_takeLetter_27 (fun x27 => ?_)
  refine ah_aload_n C d_Reader_takeLetter_30 rfl ?_
  refine ah_getI (ci := 6) (k := 5) C rfl (by decide) rfl (Or.inl we162) d_Reader_takeLetter_31 (fun x31 => ?_)
  refine ah_iconst (v := 1) C d_Reader_takeLetter_34 rfl ?_
  refine ah_castore (j := 1) C rfl rfl d_Reader_takeLetter_35 ?_
  refine ah_iconst (v := 0) C d_Reader_takeLetter_36 rfl ?_
  exact ah_iret C hr hlk rfl d_Reader_takeLetter_37
set_option maxRecDepth 100000 in
set_option maxHeartbeats 4000000 in
theorem ok_Reader_takeLetter (E : ahE) (l : Launch) (t : Nat) (v1 : Int32) (v2 : Int32) : ah_met E l y_Reader_takeLetter prog_9_method_8_code 3 (some .int) 0 0 rv_I [.ref t, .int v1, .int v2] (fn_Reader_takeLetter t v1 v2) := by
  refine ah_met_of (by decide +kernel) (ah_c1_all ⟨rfl, rfl, rfl, trivial⟩) (Nat.le_of_ble_eq_true rfl) (lv := [some (va_rf (some t)), some (.int v1), some (.int v2)]) rfl (fun X C hl hr hlk hnm => ?_)
  subst hl
  unfold fn_Reader_takeLetter
  refine ah_aload_n C d_Reader_takeLetter_0 rfl ?_
  refine ah_getR (ci := 6) (k := 3) C rfl (by decide) rfl (Or.inl we77) d_Reader_takeLetter_1 (fun x1 => ?_)
  refine ah_aload_n C d_Reader_takeLetter_4 rfl ?_
  refine ah_getI (ci := 6) (k := 5) C rfl (by decide) rfl (Or.inl we162) d_Reader_takeLetter_5 (fun x5 => ?_)
  refine ah_caload (j := 1) C (by decide) rfl rfl d_Reader_takeLetter_8 (fun x8 => ?_)
  refine ah_iload_n C d_Reader_takeLetter_9 rfl ?_
  refine ah_icmp_lt (tgt := 26) C d_Reader_takeLetter_10 rfl (fun _ => ?_) (fun _ => ?_)
  · refine ah_mask [true, false, false] (lv' := [some (va_rf (some t)), none, none]) rfl ?_
    exact ok_Reader_takeLetter_J26 C hr hlk t
  · refine ah_aload_n C d_Reader_takeLetter_13 rfl ?_
    refine ah_getR (ci := 6) (k := 3) C rfl (by decide) rfl (Or.inl we77) d_Reader_takeLetter_14 (fun x14 => ?_)
    refine ah_aload_n C d_Reader_takeLetter_17 rfl ?_
    refine ah_getI (ci := 6) (k := 5) C rfl (by decide) rfl (Or.inl we162) d_Reader_takeLetter_18 (fun x18 => ?_)
    refine ah_caload (j := 1) C (by decide) rfl rfl d_Reader_takeLetter_21 (fun x21 => ?_)
    refine ah_iload_n C d_Reader_takeLetter_22 rfl ?_
    refine ah_icmp_le (tgt := 38) C d_Reader_takeLetter_23 rfl (fun _ => ?_) (fun _ => ?_)
    · refine ah_aload_n C d_Reader_takeLetter_38 rfl ?_
      refine ah_dup C d_Reader_takeLetter_39 (ah_rf_cat _) ?_
      refine ah_getI (ci := 6) (k := 5) C rfl (by decide) rfl (Or.inl we162) d_Reader_takeLetter_40 (fun x40 => ?_)
      refine ah_iconst (v := 1) C d_Reader_takeLetter_43 rfl ?_
      refine ah_iadd C d_Reader_takeLetter_44 ?_
      refine ah_putI (ci := 6) (k := 5) C rfl (by decide) rfl (Or.inl we162) (Or.inl rfl) rfl rfl d_Reader_takeLetter_45 ?_
      refine ah_aload_n C d_Reader_takeLetter_48 rfl ?_
      refine ah_getR (ci := 6) (k := 3) C rfl (by decide) rfl (Or.inl we77) d_Reader_takeLetter_49 (fun x49 => ?_)
      refine ah_aload_n C d_Reader_takeLetter_52 rfl ?_
      refine ah_getI (ci := 6) (k := 5) C rfl (by decide) rfl (Or.inl we162) d_Reader_takeLetter_53 (fun x53 => ?_)
      refine ah_iconst (v := 1) C d_Reader_takeLetter_56 rfl ?_
      refine ah_isub C d_Reader_takeLetter_57 ?_
      refine ah_caload (j := 1) C (by decide) rfl rfl d_Reader_takeLetter_58 (fun x58 => ?_)
      refine ah_iload_n C d_Reader_takeLetter_59 rfl ?_
      refine ah_isub C d_Reader_takeLetter_60 ?_
      exact ah_iret C hr hlk rfl d_Reader_takeLetter_61
    · refine ah_mask [true, false, false] (lv' := [some (va_rf (some t)), none, none]) rfl ?_
      exact ok_Reader_takeLetter_J26 C hr hlk t
set_option maxRecDepth 100000 in
set_option maxHeartbeats 4000000 in
theorem ok_Reader_open_J45 {E : ahE} {X : ahX} (C : ah_Cx E X prog_9_method_9_code 2 "BoundedTypes$Reader" 0 0) (hr : (ax_M X).sig.returnType = none) (hlk : (ax_M X).locks = false) (t : Nat) : ah_S E X (ah_Q E X rv_V) 45 [some (va_rf (some t)), none] [] (fn_Reader_open_J45 t) := by
  unfold fn_Reader_open_J45
  refine ah_aload_n C d_Reader_open_45 rfl ?_
  refine ah_getR (ci := 6) (k := 3) C rfl (by decide) rfl (Or.inl we77) d_Reader_open_46 (fun x46 => ?_)
  refine ah_aload_n C d_Reader_open_49 rfl ?_
  refine ah_getI (ci := 6) (k := 5) C rfl (by decide) rfl (Or.inl we162) d_Reader_open_50 (fun x50 => ?_)
  refine ah_iconst (v := 1) C d_Reader_open_53 rfl ?_
  refine ah_castore (j := 1) C rfl rfl d_Reader_open_54 ?_
  exact ah_vret C hr hlk d_Reader_open_55
set_option maxRecDepth 100000 in
set_option maxHeartbeats 4000000 in
theorem ok_Reader_open (E : ahE) (l : Launch) (t : Nat) (v1 : Int32) : ah_met E l y_Reader_open prog_9_method_9_code 2 none 0 0 rv_V [.ref t, .int v1] (fn_Reader_open t v1) := by
  refine ah_met_of (by decide +kernel) (ah_c1_all ⟨rfl, rfl, trivial⟩) (Nat.le_of_ble_eq_true rfl) (lv := [some (va_rf (some t)), some (.int v1)]) rfl (fun X C hl hr hlk hnm => ?_)
  subst hl
  unfold fn_Reader_open
  refine ah_aload_n C d_Reader_open_0 rfl ?_
  refine ah_getR (ci := 6) (k := 3) C rfl (by decide) rfl (Or.inl we77) d_Reader_open_1 (fun x1 => ?_)
  refine ah_aload_n C d_Reader_open_4 rfl ?_
  refine ah_getI (ci := 6) (k := 5) C rfl (by decide) rfl (Or.inl we162) d_Reader_open_5 (fun x5 => ?_)
  refine ah_caload (j := 1) C (by decide) rfl rfl d_Reader_open_8 (fun x8 => ?_)
  refine ah_iload_n C d_Reader_open_9 rfl ?_
  refine ah_icmp_ne (tgt := 45) C d_Reader_open_10 rfl (fun _ => ?_) (fun _ => ?_)
  · refine ah_mask [true, false] (lv' := [some (va_rf (some t)), none]) rfl ?_
    exact ok_Reader_open_J45 C hr hlk t
  · refine ah_aload_n C d_Reader_open_13 rfl ?_
    refine ah_getI (ci := 6) (k := 6) C rfl (by decide) rfl (Or.inl we163) d_Reader_open_14 (fun x14 => ?_)
    refine ah_bipush (v := 8) C d_Reader_open_17 rfl ?_
    refine ah_icmp_ge (tgt := 45) C d_Reader_open_19 rfl (fun _ => ?_) (fun _ => ?_)
    · refine ah_mask [true, false] (lv' := [some (va_rf (some t)), none]) rfl ?_
      exact ok_Reader_open_J45 C hr hlk t
    · refine ah_aload_n C d_Reader_open_22 rfl ?_
      refine ah_dup C d_Reader_open_23 (ah_rf_cat _) ?_
      refine ah_getI (ci := 6) (k := 5) C rfl (by decide) rfl (Or.inl we162) d_Reader_open_24 (fun x24 => ?_)
      refine ah_iconst (v := 1) C d_Reader_open_27 rfl ?_
      refine ah_iadd C d_Reader_open_28 ?_
      refine ah_putI (ci := 6) (k := 5) C rfl (by decide) rfl (Or.inl we162) (Or.inl rfl) rfl rfl d_Reader_open_29 ?_
      refine ah_aload_n C d_Reader_open_32 rfl ?_
      refine ah_dup C d_Reader_open_33 (ah_rf_cat _) ?_
      refine ah_getI (ci := 6) (k := 6) C rfl (by decide) rfl (Or.inl we163) d_Reader_open_34 (fun x34 => ?_)
      refine ah_iconst (v := 1) C d_Reader_open_37 rfl ?_
      refine ah_iadd C d_Reader_open_38 ?_
      refine ah_putI (ci := 6) (k := 6) C rfl (by decide) rfl (Or.inl we163) (Or.inl rfl) rfl rfl d_Reader_open_39 ?_
      refine ah_goto (tgt := 55) C d_Reader_open_42 rfl ?_
      exact ah_vret C hr hlk d_Reader_open_55
set_option maxRecDepth 100000 in
set_option maxHeartbeats 4000000 in
theorem ok_Reader_take (E : ahE) (l : Launch) (t : Nat) (v1 : Int32) : ah_met E l y_Reader_take prog_9_method_6_code 2 none 0 0 rv_V [.ref t, .int v1] (fn_Reader_take t v1) := by
  refine ah_met_of (by decide +kernel) (ah_c1_all ⟨rfl, rfl, trivial⟩) (Nat.le_of_ble_eq_true rfl) (lv := [some (va_rf (some t)), some (.int v1)]) rfl (fun X C hl hr hlk hnm => ?_)
  subst hl
  unfold fn_Reader_take
  refine ah_aload_n C d_Reader_take_0 rfl ?_
  refine ah_getR (ci := 6) (k := 3) C rfl (by decide) rfl (Or.inl we77) d_Reader_take_1 (fun x1 => ?_)
  refine ah_aload_n C d_Reader_take_4 rfl ?_
  refine ah_getI (ci := 6) (k := 5) C rfl (by decide) rfl (Or.inl we162) d_Reader_take_5 (fun x5 => ?_)
  refine ah_caload (j := 1) C (by decide) rfl rfl d_Reader_take_8 (fun x8 => ?_)
  refine ah_iload_n C d_Reader_take_9 rfl ?_
  refine ah_icmp_ne (tgt := 26) C d_Reader_take_10 rfl (fun _ => ?_) (fun _ => ?_)
  · refine ah_aload_n C d_Reader_take_26 rfl ?_
    refine ah_getR (ci := 6) (k := 3) C rfl (by decide) rfl (Or.inl we77) d_Reader_take_27 (fun x27 => ?_)
    refine ah_aload_n C d_Reader_take_30 rfl ?_
    refine ah_getI (ci := 6) (k := 5) C rfl (by decide) rfl (Or.inl we162) d_Reader_take_31 (fun x31 => ?_)
    refine ah_iconst (v := 1) C d_Reader_take_34 rfl ?_
    refine ah_castore (j := 1) C rfl rfl d_Reader_take_35 ?_
    exact ah_vret C hr hlk d_Reader_take_36
  · refine ah_aload_n C d_Reader_take_13 rfl ?_
    refine ah_dup C d_Reader_take_14 (ah_rf_cat _) ?_
    refine ah_getI (ci := 6) (k := 5) C rfl (by decide) rfl (Or.inl we162) d_Reader_take_15 (fun x15 => ?_)
    refine ah_iconst (v := 1) C d_Reader_take_18 rfl ?_
    refine ah_iadd C d_Reader_take_19 ?_
    refine ah_putI (ci := 6) (k := 5) C rfl (by decide) rfl (Or.inl we162) (Or.inl rfl) rfl rfl d_Reader_take_20 ?_
    refine ah_goto (tgt := 36) C d_Reader_take_23 rfl ?_
    exact ah_vret C hr hlk d_Reader_take_36
set_option maxRecDepth 100000 in
set_option maxHeartbeats 4000000 in
theorem ok_Types_classType_J276 {E : ahE} {X : ahX} (C : ah_Cx E X prog_11_method_10_code 10 "BoundedTypes$Types" 0 0) (hr : (ax_M X).sig.returnType = some .int) (hlk : (ax_M X).locks = false) (t : Nat) (v6 : Int32) (v7 : Int32) (v8 : Int32) (v9 : Int32) (w0 : Option Nat) (w1 : Int32) (w2 : Int32) (w3 : Int32) (k215 : Int32 → ahM Int32) (hk215 : ∀ (z9 : Int32), ah_S E X (ah_Q E X rv_I) 215 [some (va_rf (some t)), none, none, none, none, none, some (.int v6), some (.int v7), some (.int v8), some (.int z9)] [] (k215 z9)) : ah_S E X (ah_Q E X rv_I) 276 [some (va_rf (some t)), none, none, none, none, none, some (.int v6), some (.int v7), some (.int v8), some (.int v9)] [.int w3, .int w2, .int w1, va_rf w0] (fn_Types_classType_J276 t v6 v7 v8 v9 w0 w1 w2 w3 k215) := by
  unfold fn_Types_classType_J276
  refine ah_ior C d_Types_classType_276 ?_
  refine ah_iastore C rfl rfl d_Types_classType_277 ?_
  refine ah_iinc (lv' := [some (va_rf (some t)), none, none, none, none, none, some (.int v6), some (.int v7), some (.int v8), some (.int (v9 + (1 : Int32)))]) C d_Types_classType_278 rfl rfl rfl ?_
  refine ah_goto (tgt := 215) C d_Types_classType_281 rfl ?_
  refine ah_mask [true, false, false, false, false, false, true, true, true, true] (lv' := [some (va_rf (some t)), none, none, none, none, none, some (.int v6), some (.int v7), some (.int v8), some (.int (v9 + (1 : Int32)))]) rfl ?_
  exact hk215 (v9 + (1 : Int32))
set_option maxRecDepth 100000 in
set_option maxHeartbeats 4000000 in
theorem ok_Types_classType_J275 {E : ahE} {X : ahX} (C : ah_Cx E X prog_11_method_10_code 10 "BoundedTypes$Types" 0 0) (hr : (ax_M X).sig.returnType = some .int) (hlk : (ax_M X).locks = false) (t : Nat) (v6 : Int32) (v7 : Int32) (v8 : Int32) (v9 : Int32) (w0 : Option Nat) (w1 : Int32) (w2 : Int32) (k215 : Int32 → ahM Int32) (hk215 : ∀ (z9 : Int32), ah_S E X (ah_Q E X rv_I) 215 [some (va_rf (some t)), none, none, none, none, none, some (.int v6), some (.int v7), some (.int v8), some (.int z9)] [] (k215 z9)) : ah_S E X (ah_Q E X rv_I) 275 [some (va_rf (some t)), none, none, none, none, none, some (.int v6), some (.int v7), some (.int v8), some (.int v9)] [.int w2, .int w1, va_rf w0] (fn_Types_classType_J275 t v6 v7 v8 v9 w0 w1 w2 k215) := by
  unfold fn_Types_classType_J275
  refine ah_iconst (v := 0) C d_Types_classType_275 rfl ?_
  refine ah_mask [true, false, false, false, false, false, true, true, true, true] (lv' := [some (va_rf (some t)), none, none, none, none, none, some (.int v6), some (.int v7), some (.int v8), some (.int v9)]) rfl ?_
  exact ok_Types_classType_J276 C hr hlk t v6 v7 v8 v9 w0 w1 w2 (0 : Int32) k215 hk215
set_option maxRecDepth 100000 in
set_option maxHeartbeats 4000000 in
theorem ok_Types_classType_B215 {E : ahE} {X : ahX} (C : ah_Cx E X prog_11_method_10_code 10 "BoundedTypes$Types" 0 0) (hr : (ax_M X).sig.returnType = some .int) (hlk : (ax_M X).locks = false) (t : Nat) (v6 : Int32) (v7 : Int32) (v8 : Int32) : ∀ (n : Nat) (v9 : Int32), ah_S E X (ah_Q E X rv_I) 215 [some (va_rf (some t)), none, none, none, none, none, some (.int v6), some (.int v7), some (.int v8), some (.int v9)] [] (ah_lp (fn_Types_classType_B215 t v6 v7 v8) n v9) := by
  intro n
  induction n with
  | zero => intro v9 h r n u c hs; cases hs
  | succ n hk215 =>
    intro v9
    show ah_S E X (ah_Q E X rv_I) 215 _ _ (fn_Types_classType_B215 t v6 v7 v8 (ah_lp (fn_Types_classType_B215 t v6 v7 v8) n) v9)
    generalize ah_lp (fn_Types_classType_B215 t v6 v7 v8) n = k215 at hk215 ⊢
    rw [fn_Types_classType_B215]
    refine ah_iload C d_Types_classType_215 rfl ?_
    refine ah_iconst (v := 3) C d_Types_classType_217 rfl ?_
    refine ah_icmp_ge (tgt := 284) C d_Types_classType_218 rfl (fun _ => ?_) (fun _ => ?_)
    · refine ah_aload_n C d_Types_classType_284 rfl ?_
      refine ah_getR (ci := 0) (k := 3) C rfl (by decide) rfl (Or.inl we11) d_Types_classType_285 (fun x285 => ?_)
      refine ah_iload C d_Types_classType_288 rfl ?_
      refine ah_iload C d_Types_classType_290 rfl ?_
      refine ah_iastore C rfl rfl d_Types_classType_292 ?_
      refine ah_aload_n C d_Types_classType_293 rfl ?_
      refine ah_getR (ci := 0) (k := 4) C rfl (by decide) rfl (Or.inl we12) d_Types_classType_294 (fun x294 => ?_)
      refine ah_iload C d_Types_classType_297 rfl ?_
      refine ah_aload_n C d_Types_classType_299 rfl ?_
      refine ah_getR (ci := 0) (k := 5) C rfl (by decide) rfl (Or.inl we13) d_Types_classType_300 (fun x300 => ?_)
      refine ah_iload C d_Types_classType_303 rfl ?_
      refine ah_iaload C rfl rfl d_Types_classType_305 (fun x305 => ?_)
      refine ah_iastore C rfl rfl d_Types_classType_306 ?_
      refine ah_aload_n C d_Types_classType_307 rfl ?_
      refine ah_getR (ci := 0) (k := 5) C rfl (by decide) rfl (Or.inl we13) d_Types_classType_308 (fun x308 => ?_)
      refine ah_iload C d_Types_classType_311 rfl ?_
      refine ah_iload C d_Types_classType_313 rfl ?_
      refine ah_iastore C rfl rfl d_Types_classType_315 ?_
      refine ah_aload_n C d_Types_classType_316 rfl ?_
      refine ah_dup C d_Types_classType_317 (ah_rf_cat _) ?_
      refine ah_getI (ci := 0) (k := 6) C rfl (by decide) rfl (Or.inl we14) d_Types_classType_318 (fun x318 => ?_)
      refine ah_iconst (v := 1) C d_Types_classType_321 rfl ?_
      refine ah_iadd C d_Types_classType_322 ?_
      refine ah_putI (ci := 0) (k := 6) C rfl (by decide) rfl (Or.inl we14) (Or.inl rfl) rfl rfl d_Types_classType_323 ?_
      refine ah_iload C d_Types_classType_326 rfl ?_
      exact ah_iret C hr hlk rfl d_Types_classType_328
    · refine ah_aload_n C d_Types_classType_221 rfl ?_
      refine ah_getR (ci := 0) (k := 2) C rfl (by decide) rfl (Or.inl we4) d_Types_classType_222 (fun x222 => ?_)
      refine ah_iload C d_Types_classType_225 rfl ?_
      refine ah_dup2 C d_Types_classType_227 rfl (ah_rf_cat _) ?_
      refine ah_iaload C rfl rfl d_Types_classType_228 (fun x228 => ?_)
      refine ah_aload_n C d_Types_classType_229 rfl ?_
      refine ah_getR (ci := 0) (k := 1) C rfl (by decide) rfl (Or.inl we2) d_Types_classType_230 (fun x230 => ?_)
      refine ah_iload C d_Types_classType_233 rfl ?_
      refine ah_iload C d_Types_classType_235 rfl ?_
      refine ah_iadd C d_Types_classType_237 ?_
      refine ah_iaload C rfl rfl d_Types_classType_238 (fun x238 => ?_)
      refine ah_if_lt (tgt := 275) C d_Types_classType_239 rfl (fun _ => ?_) (fun _ => ?_)
      · refine ah_mask [true, false, false, false, false, false, true, true, true, true] (lv' := [some (va_rf (some t)), none, none, none, none, none, some (.int v6), some (.int v7), some (.int v8), some (.int v9)]) rfl ?_
        exact ok_Types_classType_J275 C hr hlk t v6 v7 v8 v9 x222 v8 x228 k215 hk215
      · refine ah_aload_n C d_Types_classType_242 rfl ?_
        refine ah_getR (ci := 0) (k := 1) C rfl (by decide) rfl (Or.inl we2) d_Types_classType_243 (fun x243 => ?_)
        refine ah_iload C d_Types_classType_246 rfl ?_
        refine ah_iload C d_Types_classType_248 rfl ?_
        refine ah_iadd C d_Types_classType_250 ?_
        refine ah_iaload C rfl rfl d_Types_classType_251 (fun x251 => ?_)
        refine ah_iload C d_Types_classType_252 rfl ?_
        refine ah_icmp_ge (tgt := 275) C d_Types_classType_254 rfl (fun _ => ?_) (fun _ => ?_)
        · refine ah_mask [true, false, false, false, false, false, true, true, true, true] (lv' := [some (va_rf (some t)), none, none, none, none, none, some (.int v6), some (.int v7), some (.int v8), some (.int v9)]) rfl ?_
          exact ok_Types_classType_J275 C hr hlk t v6 v7 v8 v9 x222 v8 x228 k215 hk215
        · refine ah_aload_n C d_Types_classType_257 rfl ?_
          refine ah_getR (ci := 0) (k := 2) C rfl (by decide) rfl (Or.inl we4) d_Types_classType_258 (fun x258 => ?_)
          refine ah_aload_n C d_Types_classType_261 rfl ?_
          refine ah_getR (ci := 0) (k := 1) C rfl (by decide) rfl (Or.inl we2) d_Types_classType_262 (fun x262 => ?_)
          refine ah_iload C d_Types_classType_265 rfl ?_
          refine ah_iload C d_Types_classType_267 rfl ?_
          refine ah_iadd C d_Types_classType_269 ?_
          refine ah_iaload C rfl rfl d_Types_classType_270 (fun x270 => ?_)
          refine ah_iaload C rfl rfl d_Types_classType_271 (fun x271 => ?_)
          refine ah_goto (tgt := 276) C d_Types_classType_272 rfl ?_
          refine ah_mask [true, false, false, false, false, false, true, true, true, true] (lv' := [some (va_rf (some t)), none, none, none, none, none, some (.int v6), some (.int v7), some (.int v8), some (.int v9)]) rfl ?_
          exact ok_Types_classType_J276 C hr hlk t v6 v7 v8 v9 x222 v8 x228 x271 k215 hk215
set_option maxRecDepth 100000 in
set_option maxHeartbeats 4000000 in
theorem ok_Types_classType_J136 {E : ahE} {X : ahX} (C : ah_Cx E X prog_11_method_10_code 10 "BoundedTypes$Types" 0 0) (hr : (ax_M X).sig.returnType = some .int) (hlk : (ax_M X).locks = false) (t : Nat) (v1 : Int32) (v2 : Int32) (v3 : Int32) (v4 : Int32) (v6 : Int32) : ah_S E X (ah_Q E X rv_I) 136 [some (va_rf (some t)), some (.int v1), some (.int v2), some (.int v3), some (.int v4), none, some (.int v6), none, none, none] [] (fn_Types_classType_J136 t v1 v2 v3 v4 v6) := by
  unfold fn_Types_classType_J136
  refine ah_aload_n C d_Types_classType_136 rfl ?_
  refine ah_getI (ci := 0) (k := 6) C rfl (by decide) rfl (Or.inl we14) d_Types_classType_137 (fun x137 => ?_)
  refine ah_aload_n C d_Types_classType_140 rfl ?_
  refine ah_getR (ci := 0) (k := 0) C rfl (by decide) rfl (Or.inl we3) d_Types_classType_141 (fun x141 => ?_)
  refine ah_alen (j := 0) C rfl d_Types_classType_144 (fun x144 => ?_)
  refine ah_icmp_lt (tgt := 150) C d_Types_classType_145 rfl (fun _ => ?_) (fun _ => ?_)
  · refine ah_aload_n C d_Types_classType_150 rfl ?_
    refine ah_getI (ci := 0) (k := 6) C rfl (by decide) rfl (Or.inl we14) d_Types_classType_151 (fun x151 => ?_)
    refine ah_istore (lv' := [some (va_rf (some t)), some (.int v1), some (.int v2), some (.int v3), some (.int v4), none, some (.int v6), none, some (.int x151), none]) C d_Types_classType_154 (Nat.le_of_ble_eq_true rfl) rfl ?_
    refine ah_iconst (v := 3) C d_Types_classType_156 rfl ?_
    refine ah_iload C d_Types_classType_157 rfl ?_
    refine ah_imul C d_Types_classType_159 ?_
    refine ah_istore (lv' := [some (va_rf (some t)), some (.int v1), some (.int v2), some (.int v3), some (.int v4), none, some (.int v6), some (.int ((3 : Int32) * x151)), some (.int x151), none]) C d_Types_classType_160 (Nat.le_of_ble_eq_true rfl) rfl ?_
    refine ah_aload_n C d_Types_classType_162 rfl ?_
    refine ah_getR (ci := 0) (k := 0) C rfl (by decide) rfl (Or.inl we3) d_Types_classType_163 (fun x163 => ?_)
    refine ah_iload C d_Types_classType_166 rfl ?_
    refine ah_iload_n C d_Types_classType_168 rfl ?_
    refine ah_iastore C rfl rfl d_Types_classType_169 ?_
    refine ah_aload_n C d_Types_classType_170 rfl ?_
    refine ah_getR (ci := 0) (k := 1) C rfl (by decide) rfl (Or.inl we2) d_Types_classType_171 (fun x171 => ?_)
    refine ah_iload C d_Types_classType_174 rfl ?_
    refine ah_iload_n C d_Types_classType_176 rfl ?_
    refine ah_iastore C rfl rfl d_Types_classType_177 ?_
    refine ah_aload_n C d_Types_classType_178 rfl ?_
    refine ah_getR (ci := 0) (k := 1) C rfl (by decide) rfl (Or.inl we2) d_Types_classType_179 (fun x179 => ?_)
    refine ah_iload C d_Types_classType_182 rfl ?_
    refine ah_iconst (v := 1) C d_Types_classType_184 rfl ?_
    refine ah_iadd C d_Types_classType_185 ?_
    refine ah_iload_n C d_Types_classType_186 rfl ?_
    refine ah_iastore C rfl rfl d_Types_classType_187 ?_
    refine ah_aload_n C d_Types_classType_188 rfl ?_
    refine ah_getR (ci := 0) (k := 1) C rfl (by decide) rfl (Or.inl we2) d_Types_classType_189 (fun x189 => ?_)
    refine ah_iload C d_Types_classType_192 rfl ?_
    refine ah_iconst (v := 2) C d_Types_classType_194 rfl ?_
    refine ah_iadd C d_Types_classType_195 ?_
    refine ah_iload C d_Types_classType_196 rfl ?_
    refine ah_iastore C rfl rfl d_Types_classType_198 ?_
    refine ah_aload_n C d_Types_classType_199 rfl ?_
    refine ah_getR (ci := 0) (k := 2) C rfl (by decide) rfl (Or.inl we4) d_Types_classType_200 (fun x200 => ?_)
    refine ah_iload C d_Types_classType_203 rfl ?_
    refine ah_iconst (v := 1) C d_Types_classType_205 rfl ?_
    refine ah_bipush (v := 8) C d_Types_classType_206 rfl ?_
    refine ah_iload_n C d_Types_classType_208 rfl ?_
    refine ah_iadd C d_Types_classType_209 ?_
    refine ah_ishl C d_Types_classType_210 ?_
    refine ah_iastore C rfl rfl d_Types_classType_211 ?_
    refine ah_iconst (v := 0) C d_Types_classType_212 rfl ?_
    refine ah_istore (lv' := [some (va_rf (some t)), some (.int v1), some (.int v2), some (.int v3), some (.int v4), none, some (.int v6), some (.int ((3 : Int32) * x151)), some (.int x151), some (.int (0 : Int32))]) C d_Types_classType_213 (Nat.le_of_ble_eq_true rfl) rfl ?_
    refine ah_mask [true, false, false, false, false, false, true, true, true, true] (lv' := [some (va_rf (some t)), none, none, none, none, none, some (.int v6), some (.int ((3 : Int32) * x151)), some (.int x151), some (.int (0 : Int32))]) rfl ?_
    exact ok_Types_classType_B215 C hr hlk t v6 ((3 : Int32) * x151) x151 FU (0 : Int32)
  · refine ah_iconst (v := -1) C d_Types_classType_148 rfl ?_
    exact ah_iret C hr hlk rfl d_Types_classType_149
set_option maxRecDepth 100000 in
set_option maxHeartbeats 4000000 in
theorem ok_Types_classType_J121 {E : ahE} {X : ahX} (C : ah_Cx E X prog_11_method_10_code 10 "BoundedTypes$Types" 0 0) (hr : (ax_M X).sig.returnType = some .int) (hlk : (ax_M X).locks = false) (t : Nat) (v1 : Int32) (v2 : Int32) (v3 : Int32) (v4 : Int32) (v6 : Int32) (v8 : Int32) (v9 : Int32) (k48 : (Int32 × Int32) → ahM Int32) (hk48 : ∀ (z8 : Int32) (z9 : Int32), ah_S E X (ah_Q E X rv_I) 48 [some (va_rf (some t)), some (.int v1), some (.int v2), some (.int v3), some (.int v4), none, some (.int v6), none, some (.int z8), some (.int z9)] [] (k48 (z8, z9))) : ah_S E X (ah_Q E X rv_I) 121 [some (va_rf (some t)), some (.int v1), some (.int v2), some (.int v3), some (.int v4), none, some (.int v6), none, some (.int v8), some (.int v9)] [] (fn_Types_classType_J121 t v1 v2 v3 v4 v6 v8 v9 k48) := by
  unfold fn_Types_classType_J121
  refine ah_aload_n C d_Types_classType_121 rfl ?_
  refine ah_getR (ci := 0) (k := 4) C rfl (by decide) rfl (Or.inl we12) d_Types_classType_122 (fun x122 => ?_)
  refine ah_iload C d_Types_classType_125 rfl ?_
  refine ah_iaload C rfl rfl d_Types_classType_127 (fun x127 => ?_)
  refine ah_istore (lv' := [some (va_rf (some t)), some (.int v1), some (.int v2), some (.int v3), some (.int v4), none, some (.int v6), none, some (.int x127), some (.int v9)]) C d_Types_classType_128 (Nat.le_of_ble_eq_true rfl) rfl ?_
  refine ah_iinc (lv' := [some (va_rf (some t)), some (.int v1), some (.int v2), some (.int v3), some (.int v4), none, some (.int v6), none, some (.int x127), some (.int (v9 + (1 : Int32)))]) C d_Types_classType_130 rfl rfl rfl ?_
  refine ah_goto (tgt := 48) C d_Types_classType_133 rfl ?_
  refine ah_mask [true, true, true, true, true, false, true, false, true, true] (lv' := [some (va_rf (some t)), some (.int v1), some (.int v2), some (.int v3), some (.int v4), none, some (.int v6), none, some (.int x127), some (.int (v9 + (1 : Int32)))]) rfl ?_
  exact hk48 x127 (v9 + (1 : Int32))
set_option maxRecDepth 100000 in
set_option maxHeartbeats 4000000 in
theorem ok_Types_classType_B48 {E : ahE} {X : ahX} (C : ah_Cx E X prog_11_method_10_code 10 "BoundedTypes$Types" 0 0) (hr : (ax_M X).sig.returnType = some .int) (hlk : (ax_M X).locks = false) (t : Nat) (v1 : Int32) (v2 : Int32) (v3 : Int32) (v4 : Int32) (v6 : Int32) : ∀ (n : Nat) (v8 : Int32) (v9 : Int32), ah_S E X (ah_Q E X rv_I) 48 [some (va_rf (some t)), some (.int v1), some (.int v2), some (.int v3), some (.int v4), none, some (.int v6), none, some (.int v8), some (.int v9)] [] (ah_lp (fn_Types_classType_B48 t v1 v2 v3 v4 v6) n (v8, v9)) := by
  intro n
  induction n with
  | zero => intro v8 v9 h r n u c hs; cases hs
  | succ n hk48 =>
    intro v8 v9
    show ah_S E X (ah_Q E X rv_I) 48 _ _ (fn_Types_classType_B48 t v1 v2 v3 v4 v6 (ah_lp (fn_Types_classType_B48 t v1 v2 v3 v4 v6) n) (v8, v9))
    generalize ah_lp (fn_Types_classType_B48 t v1 v2 v3 v4 v6) n = k48 at hk48 ⊢
    rw [fn_Types_classType_B48]
    refine ah_iload C d_Types_classType_48 rfl ?_
    refine ah_aload_n C d_Types_classType_50 rfl ?_
    refine ah_getI (ci := 0) (k := 6) C rfl (by decide) rfl (Or.inl we14) d_Types_classType_51 (fun x51 => ?_)
    refine ah_icmp_ge (tgt := 136) C d_Types_classType_54 rfl (fun _ => ?_) (fun _ => ?_)
    · refine ah_mask [true, true, true, true, true, false, true, false, false, false] (lv' := [some (va_rf (some t)), some (.int v1), some (.int v2), some (.int v3), some (.int v4), none, some (.int v6), none, none, none]) rfl ?_
      exact ok_Types_classType_J136 C hr hlk t v1 v2 v3 v4 v6
    · refine ah_iload C d_Types_classType_57 rfl ?_
      refine ah_iconst (v := -1) C d_Types_classType_59 rfl ?_
      refine ah_icmp_eq (tgt := 136) C d_Types_classType_60 rfl (fun _ => ?_) (fun _ => ?_)
      · refine ah_mask [true, true, true, true, true, false, true, false, false, false] (lv' := [some (va_rf (some t)), some (.int v1), some (.int v2), some (.int v3), some (.int v4), none, some (.int v6), none, none, none]) rfl ?_
        exact ok_Types_classType_J136 C hr hlk t v1 v2 v3 v4 v6
      · refine ah_iconst (v := 3) C d_Types_classType_63 rfl ?_
        refine ah_iload C d_Types_classType_64 rfl ?_
        refine ah_imul C d_Types_classType_66 ?_
        refine ah_istore (lv' := [some (va_rf (some t)), some (.int v1), some (.int v2), some (.int v3), some (.int v4), none, some (.int v6), some (.int ((3 : Int32) * v8)), some (.int v8), some (.int v9)]) C d_Types_classType_67 (Nat.le_of_ble_eq_true rfl) rfl ?_
        refine ah_aload_n C d_Types_classType_69 rfl ?_
        refine ah_getR (ci := 0) (k := 0) C rfl (by decide) rfl (Or.inl we3) d_Types_classType_70 (fun x70 => ?_)
        refine ah_iload C d_Types_classType_73 rfl ?_
        refine ah_iaload C rfl rfl d_Types_classType_75 (fun x75 => ?_)
        refine ah_iload_n C d_Types_classType_76 rfl ?_
        refine ah_icmp_ne (tgt := 121) C d_Types_classType_77 rfl (fun _ => ?_) (fun _ => ?_)
        · refine ah_mask [true, true, true, true, true, false, true, false, true, true] (lv' := [some (va_rf (some t)), some (.int v1), some (.int v2), some (.int v3), some (.int v4), none, some (.int v6), none, some (.int v8), some (.int v9)]) rfl ?_
          exact ok_Types_classType_J121 C hr hlk t v1 v2 v3 v4 v6 v8 v9 k48 hk48
        · refine ah_aload_n C d_Types_classType_80 rfl ?_
          refine ah_getR (ci := 0) (k := 1) C rfl (by decide) rfl (Or.inl we2) d_Types_classType_81 (fun x81 => ?_)
          refine ah_iload C d_Types_classType_84 rfl ?_
          refine ah_iaload C rfl rfl d_Types_classType_86 (fun x86 => ?_)
          refine ah_iload_n C d_Types_classType_87 rfl ?_
          refine ah_icmp_ne (tgt := 121) C d_Types_classType_88 rfl (fun _ => ?_) (fun _ => ?_)
          · refine ah_mask [true, true, true, true, true, false, true, false, true, true] (lv' := [some (va_rf (some t)), some (.int v1), some (.int v2), some (.int v3), some (.int v4), none, some (.int v6), none, some (.int v8), some (.int v9)]) rfl ?_
            exact ok_Types_classType_J121 C hr hlk t v1 v2 v3 v4 v6 v8 v9 k48 hk48
          · refine ah_aload_n C d_Types_classType_91 rfl ?_
            refine ah_getR (ci := 0) (k := 1) C rfl (by decide) rfl (Or.inl we2) d_Types_classType_92 (fun x92 => ?_)
            refine ah_iload C d_Types_classType_95 rfl ?_
            refine ah_iconst (v := 1) C d_Types_classType_97 rfl ?_
            refine ah_iadd C d_Types_classType_98 ?_
            refine ah_iaload C rfl rfl d_Types_classType_99 (fun x99 => ?_)
            refine ah_iload_n C d_Types_classType_100 rfl ?_
            refine ah_icmp_ne (tgt := 121) C d_Types_classType_101 rfl (fun _ => ?_) (fun _ => ?_)
            · refine ah_mask [true, true, true, true, true, false, true, false, true, true] (lv' := [some (va_rf (some t)), some (.int v1), some (.int v2), some (.int v3), some (.int v4), none, some (.int v6), none, some (.int v8), some (.int v9)]) rfl ?_
              exact ok_Types_classType_J121 C hr hlk t v1 v2 v3 v4 v6 v8 v9 k48 hk48
            · refine ah_aload_n C d_Types_classType_104 rfl ?_
              refine ah_getR (ci := 0) (k := 1) C rfl (by decide) rfl (Or.inl we2) d_Types_classType_105 (fun x105 => ?_)
              refine ah_iload C d_Types_classType_108 rfl ?_
              refine ah_iconst (v := 2) C d_Types_classType_110 rfl ?_
              refine ah_iadd C d_Types_classType_111 ?_
              refine ah_iaload C rfl rfl d_Types_classType_112 (fun x112 => ?_)
              refine ah_iload C d_Types_classType_113 rfl ?_
              refine ah_icmp_ne (tgt := 121) C d_Types_classType_115 rfl (fun _ => ?_) (fun _ => ?_)
              · refine ah_mask [true, true, true, true, true, false, true, false, true, true] (lv' := [some (va_rf (some t)), some (.int v1), some (.int v2), some (.int v3), some (.int v4), none, some (.int v6), none, some (.int v8), some (.int v9)]) rfl ?_
                exact ok_Types_classType_J121 C hr hlk t v1 v2 v3 v4 v6 v8 v9 k48 hk48
              · refine ah_iload C d_Types_classType_118 rfl ?_
                exact ah_iret C hr hlk rfl d_Types_classType_120
set_option maxRecDepth 100000 in
set_option maxHeartbeats 4000000 in
theorem ok_Types_classType (E : ahE) (l : Launch) (t : Nat) (v1 : Int32) (v2 : Int32) (v3 : Int32) (v4 : Int32) : ah_met E l y_Types_classType prog_11_method_10_code 10 (some .int) 0 0 rv_I [.ref t, .int v1, .int v2, .int v3, .int v4] (fn_Types_classType t v1 v2 v3 v4) := by
  refine ah_met_of (by decide +kernel) (ah_c1_all ⟨rfl, rfl, rfl, rfl, rfl, trivial⟩) (Nat.le_of_ble_eq_true rfl) (lv := [some (va_rf (some t)), some (.int v1), some (.int v2), some (.int v3), some (.int v4), none, none, none, none, none]) rfl (fun X C hl hr hlk hnm => ?_)
  subst hl
  unfold fn_Types_classType
  refine ah_iload_n C d_Types_classType_0 rfl ?_
  refine ah_bipush (v := 31) C d_Types_classType_1 rfl ?_
  refine ah_imul C d_Types_classType_3 ?_
  refine ah_iload_n C d_Types_classType_4 rfl ?_
  refine ah_iadd C d_Types_classType_5 ?_
  refine ah_bipush (v := 31) C d_Types_classType_6 rfl ?_
  refine ah_imul C d_Types_classType_8 ?_
  refine ah_iload_n C d_Types_classType_9 rfl ?_
  refine ah_iadd C d_Types_classType_10 ?_
  refine ah_bipush (v := 31) C d_Types_classType_11 rfl ?_
  refine ah_imul C d_Types_classType_13 ?_
  refine ah_iload C d_Types_classType_14 rfl ?_
  refine ah_iadd C d_Types_classType_16 ?_
  refine ah_istore (lv' := [some (va_rf (some t)), some (.int v1), some (.int v2), some (.int v3), some (.int v4), some (.int ((((((v1 * (31 : Int32)) + v2) * (31 : Int32)) + v3) * (31 : Int32)) + v4)), none, none, none, none]) C d_Types_classType_17 (Nat.le_of_ble_eq_true rfl) rfl ?_
  refine ah_iload C d_Types_classType_19 rfl ?_
  refine ah_iload C d_Types_classType_21 rfl ?_
  refine ah_bipush (v := 10) C d_Types_classType_23 rfl ?_
  refine ah_iushr C d_Types_classType_25 ?_
  refine ah_ixor C d_Types_classType_26 ?_
  refine ah_sipush (v := 1023) C d_Types_classType_27 rfl ?_
  refine ah_iand C d_Types_classType_30 ?_
  refine ah_istore (lv' := [some (va_rf (some t)), some (.int v1), some (.int v2), some (.int v3), some (.int v4), some (.int ((((((v1 * (31 : Int32)) + v2) * (31 : Int32)) + v3) * (31 : Int32)) + v4)), some (.int ((((((((v1 * (31 : Int32)) + v2) * (31 : Int32)) + v3) * (31 : Int32)) + v4) ^^^ (ah_ush ((((((v1 * (31 : Int32)) + v2) * (31 : Int32)) + v3) * (31 : Int32)) + v4) (10 : Int32))) &&& (1023 : Int32))), none, none, none]) C d_Types_classType_31 (Nat.le_of_ble_eq_true rfl) rfl ?_
  refine ah_iconst (v := 0) C d_Types_classType_33 rfl ?_
  refine ah_istore (lv' := [some (va_rf (some t)), some (.int v1), some (.int v2), some (.int v3), some (.int v4), some (.int ((((((v1 * (31 : Int32)) + v2) * (31 : Int32)) + v3) * (31 : Int32)) + v4)), some (.int ((((((((v1 * (31 : Int32)) + v2) * (31 : Int32)) + v3) * (31 : Int32)) + v4) ^^^ (ah_ush ((((((v1 * (31 : Int32)) + v2) * (31 : Int32)) + v3) * (31 : Int32)) + v4) (10 : Int32))) &&& (1023 : Int32))), some (.int (0 : Int32)), none, none]) C d_Types_classType_34 (Nat.le_of_ble_eq_true rfl) rfl ?_
  refine ah_aload_n C d_Types_classType_36 rfl ?_
  refine ah_getR (ci := 0) (k := 5) C rfl (by decide) rfl (Or.inl we13) d_Types_classType_37 (fun x37 => ?_)
  refine ah_iload C d_Types_classType_40 rfl ?_
  refine ah_iaload C rfl rfl d_Types_classType_42 (fun x42 => ?_)
  refine ah_istore (lv' := [some (va_rf (some t)), some (.int v1), some (.int v2), some (.int v3), some (.int v4), some (.int ((((((v1 * (31 : Int32)) + v2) * (31 : Int32)) + v3) * (31 : Int32)) + v4)), some (.int ((((((((v1 * (31 : Int32)) + v2) * (31 : Int32)) + v3) * (31 : Int32)) + v4) ^^^ (ah_ush ((((((v1 * (31 : Int32)) + v2) * (31 : Int32)) + v3) * (31 : Int32)) + v4) (10 : Int32))) &&& (1023 : Int32))), some (.int (0 : Int32)), some (.int x42), none]) C d_Types_classType_43 (Nat.le_of_ble_eq_true rfl) rfl ?_
  refine ah_iconst (v := 0) C d_Types_classType_45 rfl ?_
  refine ah_istore (lv' := [some (va_rf (some t)), some (.int v1), some (.int v2), some (.int v3), some (.int v4), some (.int ((((((v1 * (31 : Int32)) + v2) * (31 : Int32)) + v3) * (31 : Int32)) + v4)), some (.int ((((((((v1 * (31 : Int32)) + v2) * (31 : Int32)) + v3) * (31 : Int32)) + v4) ^^^ (ah_ush ((((((v1 * (31 : Int32)) + v2) * (31 : Int32)) + v3) * (31 : Int32)) + v4) (10 : Int32))) &&& (1023 : Int32))), some (.int (0 : Int32)), some (.int x42), some (.int (0 : Int32))]) C d_Types_classType_46 (Nat.le_of_ble_eq_true rfl) rfl ?_
  refine ah_mask [true, true, true, true, true, false, true, false, true, true] (lv' := [some (va_rf (some t)), some (.int v1), some (.int v2), some (.int v3), some (.int v4), none, some (.int ((((((((v1 * (31 : Int32)) + v2) * (31 : Int32)) + v3) * (31 : Int32)) + v4) ^^^ (ah_ush ((((((v1 * (31 : Int32)) + v2) * (31 : Int32)) + v3) * (31 : Int32)) + v4) (10 : Int32))) &&& (1023 : Int32))), none, some (.int x42), some (.int (0 : Int32))]) rfl ?_
  exact ok_Types_classType_B48 C hr hlk t v1 v2 v3 v4 ((((((((v1 * (31 : Int32)) + v2) * (31 : Int32)) + v3) * (31 : Int32)) + v4) ^^^ (ah_ush ((((((v1 * (31 : Int32)) + v2) * (31 : Int32)) + v3) * (31 : Int32)) + v4) (10 : Int32))) &&& (1023 : Int32)) FU x42 (0 : Int32)
set_option maxRecDepth 100000 in
set_option maxHeartbeats 4000000 in
theorem ok_Reader_readType_J57 {E : ahE} {X : ahX} (C : ah_Cx E X prog_9_method_11_code 3 "BoundedTypes$Reader" 1 29) (hr : (ax_M X).sig.returnType = some .int) (hlk : (ax_M X).locks = false) (t : Nat) : ah_S E X (ah_Q E X rv_I) 57 [some (va_rf (some t)), none, none] [] (fn_Reader_readType_J57 t) := by
  unfold fn_Reader_readType_J57
  refine ah_aload_n C d_Reader_readType_57 rfl ?_
  refine ah_bipush (v := 65) C d_Reader_readType_58 rfl ?_
  refine ah_bipush (v := 72) C d_Reader_readType_60 rfl ?_
  refine ah_callVI (ci := 6) (As := [.int (65 : Int32), .int (72 : Int32)]) (rest := []) C (fun b => ok_Reader_takeLetter E _ b (65 : Int32) (72 : Int32)) rfl (Or.inl we171) we172 we173 we127 we170 hy_Reader_takeLetter (by omega) (by omega) rfl rfl (ah_rs trivial (Nat.le_of_ble_eq_true rfl)) d_Reader_readType_62 (fun x62 => ?_)
  refine ah_istore_n (lv' := [some (va_rf (some t)), none, some (.int x62)]) C d_Reader_readType_65 (Nat.le_of_ble_eq_true rfl) rfl ?_
  refine ah_aload_n C d_Reader_readType_66 rfl ?_
  refine ah_getR (ci := 6) (k := 3) C rfl (by decide) rfl (Or.inl we77) d_Reader_readType_67 (fun x67 => ?_)
  refine ah_aload_n C d_Reader_readType_70 rfl ?_
  refine ah_getI (ci := 6) (k := 5) C rfl (by decide) rfl (Or.inl we162) d_Reader_readType_71 (fun x71 => ?_)
  refine ah_caload (j := 1) C (by decide) rfl rfl d_Reader_readType_74 (fun x74 => ?_)
  refine ah_bipush (v := 91) C d_Reader_readType_75 rfl ?_
  refine ah_icmp_ne (tgt := 88) C d_Reader_readType_77 rfl (fun _ => ?_) (fun _ => ?_)
  · refine ah_aload_n C d_Reader_readType_88 rfl ?_
    refine ah_getR (ci := 6) (k := 1) C rfl (by decide) rfl (Or.inl we81) d_Reader_readType_89 (fun x89 => ?_)
    refine ah_iload_n C d_Reader_readType_92 rfl ?_
    refine ah_iconst (v := -1) C d_Reader_readType_93 rfl ?_
    refine ah_iconst (v := -1) C d_Reader_readType_94 rfl ?_
    refine ah_iconst (v := -1) C d_Reader_readType_95 rfl ?_
    refine ah_callVI (ci := 0) (As := [.int x62, .int (-1 : Int32), .int (-1 : Int32), .int (-1 : Int32)]) (rest := []) C (fun b => ok_Types_classType E _ b x62 (-1 : Int32) (-1 : Int32) (-1 : Int32)) rfl (Or.inl we175) we176 we177 we5 we174 hy_Types_classType (by omega) (by omega) rfl rfl (ah_rs trivial (Nat.le_of_ble_eq_true rfl)) d_Reader_readType_96 (fun x96 => ?_)
    exact ah_iret C hr hlk rfl d_Reader_readType_99
  · refine ah_aload_n C d_Reader_readType_80 rfl ?_
    refine ah_iload_n C d_Reader_readType_81 rfl ?_
    exact ah_Sno
set_option maxRecDepth 100000 in
set_option maxHeartbeats 4000000 in
theorem ok_Reader_readType (E : ahE) (l : Launch) (t : Nat) (v1 : Int32) : ah_met E l y_Reader_readType prog_9_method_11_code 3 (some .int) 1 29 rv_I [.ref t, .int v1] (fn_Reader_readType t v1) := by
  refine ah_met_of (by decide +kernel) (ah_c1_all ⟨rfl, rfl, trivial⟩) (Nat.le_of_ble_eq_true rfl) (lv := [some (va_rf (some t)), some (.int v1), none]) rfl (fun X C hl hr hlk hnm => ?_)
  subst hl
  unfold fn_Reader_readType
  refine ah_iload_n C d_Reader_readType_0 rfl ?_
  refine ah_if_eq (tgt := 57) C d_Reader_readType_1 rfl (fun _ => ?_) (fun _ => ?_)
  · refine ah_mask [true, false, false] (lv' := [some (va_rf (some t)), none, none]) rfl ?_
    exact ok_Reader_readType_J57 C hr hlk t
  · refine ah_aload_n C d_Reader_readType_4 rfl ?_
    refine ah_getR (ci := 6) (k := 3) C rfl (by decide) rfl (Or.inl we77) d_Reader_readType_5 (fun x5 => ?_)
    refine ah_aload_n C d_Reader_readType_8 rfl ?_
    refine ah_getI (ci := 6) (k := 5) C rfl (by decide) rfl (Or.inl we162) d_Reader_readType_9 (fun x9 => ?_)
    refine ah_caload (j := 1) C (by decide) rfl rfl d_Reader_readType_12 (fun x12 => ?_)
    refine ah_bipush (v := 83) C d_Reader_readType_13 rfl ?_
    refine ah_icmp_lt (tgt := 57) C d_Reader_readType_15 rfl (fun _ => ?_) (fun _ => ?_)
    · refine ah_mask [true, false, false] (lv' := [some (va_rf (some t)), none, none]) rfl ?_
      exact ok_Reader_readType_J57 C hr hlk t
    · refine ah_aload_n C d_Reader_readType_18 rfl ?_
      refine ah_getR (ci := 6) (k := 3) C rfl (by decide) rfl (Or.inl we77) d_Reader_readType_19 (fun x19 => ?_)
      refine ah_aload_n C d_Reader_readType_22 rfl ?_
      refine ah_getI (ci := 6) (k := 5) C rfl (by decide) rfl (Or.inl we162) d_Reader_readType_23 (fun x23 => ?_)
      refine ah_caload (j := 1) C (by decide) rfl rfl d_Reader_readType_26 (fun x26 => ?_)
      refine ah_bipush (v := 90) C d_Reader_readType_27 rfl ?_
      refine ah_icmp_gt (tgt := 57) C d_Reader_readType_29 rfl (fun _ => ?_) (fun _ => ?_)
      · refine ah_mask [true, false, false] (lv' := [some (va_rf (some t)), none, none]) rfl ?_
        exact ok_Reader_readType_J57 C hr hlk t
      · refine ah_aload_n C d_Reader_readType_32 rfl ?_
        refine ah_dup C d_Reader_readType_33 (ah_rf_cat _) ?_
        refine ah_getI (ci := 6) (k := 5) C rfl (by decide) rfl (Or.inl we162) d_Reader_readType_34 (fun x34 => ?_)
        refine ah_iconst (v := 1) C d_Reader_readType_37 rfl ?_
        refine ah_iadd C d_Reader_readType_38 ?_
        refine ah_putI (ci := 6) (k := 5) C rfl (by decide) rfl (Or.inl we162) (Or.inl rfl) rfl rfl d_Reader_readType_39 ?_
        refine ah_aload_n C d_Reader_readType_42 rfl ?_
        refine ah_getR (ci := 6) (k := 3) C rfl (by decide) rfl (Or.inl we77) d_Reader_readType_43 (fun x43 => ?_)
        refine ah_aload_n C d_Reader_readType_46 rfl ?_
        refine ah_getI (ci := 6) (k := 5) C rfl (by decide) rfl (Or.inl we162) d_Reader_readType_47 (fun x47 => ?_)
        refine ah_iconst (v := 1) C d_Reader_readType_50 rfl ?_
        refine ah_isub C d_Reader_readType_51 ?_
        refine ah_caload (j := 1) C (by decide) rfl rfl d_Reader_readType_52 (fun x52 => ?_)
        refine ah_bipush (v := 83) C d_Reader_readType_53 rfl ?_
        refine ah_isub C d_Reader_readType_55 ?_
        exact ah_iret C hr hlk rfl d_Reader_readType_56
set_option maxRecDepth 100000 in
set_option maxHeartbeats 4000000 in
theorem ok_Reader_close (E : ahE) (l : Launch) (t : Nat) (v1 : Int32) : ah_met E l y_Reader_close prog_9_method_10_code 2 none 0 0 rv_V [.ref t, .int v1] (fn_Reader_close t v1) := by
  refine ah_met_of (by decide +kernel) (ah_c1_all ⟨rfl, rfl, trivial⟩) (Nat.le_of_ble_eq_true rfl) (lv := [some (va_rf (some t)), some (.int v1)]) rfl (fun X C hl hr hlk hnm => ?_)
  subst hl
  unfold fn_Reader_close
  refine ah_aload_n C d_Reader_close_0 rfl ?_
  refine ah_getR (ci := 6) (k := 3) C rfl (by decide) rfl (Or.inl we77) d_Reader_close_1 (fun x1 => ?_)
  refine ah_aload_n C d_Reader_close_4 rfl ?_
  refine ah_getI (ci := 6) (k := 5) C rfl (by decide) rfl (Or.inl we162) d_Reader_close_5 (fun x5 => ?_)
  refine ah_caload (j := 1) C (by decide) rfl rfl d_Reader_close_8 (fun x8 => ?_)
  refine ah_iload_n C d_Reader_close_9 rfl ?_
  refine ah_icmp_ne (tgt := 36) C d_Reader_close_10 rfl (fun _ => ?_) (fun _ => ?_)
  · refine ah_aload_n C d_Reader_close_36 rfl ?_
    refine ah_getR (ci := 6) (k := 3) C rfl (by decide) rfl (Or.inl we77) d_Reader_close_37 (fun x37 => ?_)
    refine ah_aload_n C d_Reader_close_40 rfl ?_
    refine ah_getI (ci := 6) (k := 5) C rfl (by decide) rfl (Or.inl we162) d_Reader_close_41 (fun x41 => ?_)
    refine ah_iconst (v := 1) C d_Reader_close_44 rfl ?_
    refine ah_castore (j := 1) C rfl rfl d_Reader_close_45 ?_
    exact ah_vret C hr hlk d_Reader_close_46
  · refine ah_aload_n C d_Reader_close_13 rfl ?_
    refine ah_dup C d_Reader_close_14 (ah_rf_cat _) ?_
    refine ah_getI (ci := 6) (k := 5) C rfl (by decide) rfl (Or.inl we162) d_Reader_close_15 (fun x15 => ?_)
    refine ah_iconst (v := 1) C d_Reader_close_18 rfl ?_
    refine ah_iadd C d_Reader_close_19 ?_
    refine ah_putI (ci := 6) (k := 5) C rfl (by decide) rfl (Or.inl we162) (Or.inl rfl) rfl rfl d_Reader_close_20 ?_
    refine ah_aload_n C d_Reader_close_23 rfl ?_
    refine ah_dup C d_Reader_close_24 (ah_rf_cat _) ?_
    refine ah_getI (ci := 6) (k := 6) C rfl (by decide) rfl (Or.inl we163) d_Reader_close_25 (fun x25 => ?_)
    refine ah_iconst (v := 1) C d_Reader_close_28 rfl ?_
    refine ah_isub C d_Reader_close_29 ?_
    refine ah_putI (ci := 6) (k := 6) C rfl (by decide) rfl (Or.inl we163) (Or.inl rfl) rfl rfl d_Reader_close_30 ?_
    refine ah_goto (tgt := 46) C d_Reader_close_33 rfl ?_
    exact ah_vret C hr hlk d_Reader_close_46
set_option maxRecDepth 100000 in
set_option maxHeartbeats 4000000 in
theorem ok_Reader_readBounds_J84 {E : ahE} {X : ahX} (C : ah_Cx E X prog_9_method_13_code 5 "BoundedTypes$Reader" 2 51) (hr : (ax_M X).sig.returnType = none) (hlk : (ax_M X).locks = false) (t : Nat) : ah_S E X (ah_Q E X rv_V) 84 [some (va_rf (some t)), none, none, none, none] [] (fn_Reader_readBounds_J84 t) := by
  unfold fn_Reader_readBounds_J84
  refine ah_aload_n C d_Reader_readBounds_84 rfl ?_
  refine ah_bipush (v := 93) C d_Reader_readBounds_85 rfl ?_
  refine ah_callVV (ci := 6) (As := [.int (93 : Int32)]) (rest := []) C (fun b => ok_Reader_close E _ b (93 : Int32)) rfl (Or.inl we179) we180 we181 we127 we178 hy_Reader_close (by omega) (by omega) rfl rfl (ah_rs trivial (Nat.le_of_ble_eq_true rfl)) d_Reader_readBounds_87 ?_
  exact ah_vret C hr hlk d_Reader_readBounds_90
set_option maxRecDepth 100000 in
set_option maxHeartbeats 4000000 in
theorem ok_Reader_readBounds_J74 {E : ahE} {X : ahX} (C : ah_Cx E X prog_9_method_13_code 5 "BoundedTypes$Reader" 2 51) (hr : (ax_M X).sig.returnType = none) (hlk : (ax_M X).locks = false) (t : Nat) (v1 : Option Nat) (v3 : Int32) (w0 : Option Nat) (w1 : Int32) (k25 : (Int32 × Int32) → ahM Unit) (hk25 : ∀ (z2 : Int32) (z3 : Int32), ah_S E X (ah_Q E X rv_V) 25 [some (va_rf (some t)), some (va_rf v1), some (.int z2), some (.int z3), none] [] (k25 (z2, z3))) : ah_S E X (ah_Q E X rv_V) 74 [some (va_rf (some t)), some (va_rf v1), none, some (.int v3), none] [.int w1, va_rf w0] (fn_Reader_readBounds_J74 t v1 v3 w0 w1 k25) := by
  unfold fn_Reader_readBounds_J74
  exact ah_Sno
set_option maxRecDepth 100000 in
set_option maxHeartbeats 4000000 in
theorem ok_Reader_readBounds_B25 {E : ahE} {X : ahX} (C : ah_Cx E X prog_9_method_13_code 5 "BoundedTypes$Reader" 2 51) (hr : (ax_M X).sig.returnType = none) (hlk : (ax_M X).locks = false) (t : Nat) (v1 : Option Nat) : ∀ (n : Nat) (v2 : Int32) (v3 : Int32), ah_S E X (ah_Q E X rv_V) 25 [some (va_rf (some t)), some (va_rf v1), some (.int v2), some (.int v3), none] [] (ah_lp (fn_Reader_readBounds_B25 t v1) n (v2, v3)) := by
  intro n
  induction n with
  | zero => intro v2 v3 h r n u c hs; cases hs
  | succ n hk25 =>
    intro v2 v3
    show ah_S E X (ah_Q E X rv_V) 25 _ _ (fn_Reader_readBounds_B25 t v1 (ah_lp (fn_Reader_readBounds_B25 t v1) n) (v2, v3))
    generalize ah_lp (fn_Reader_readBounds_B25 t v1) n = k25 at hk25 ⊢
    rw [fn_Reader_readBounds_B25]
    refine ah_iload_n C d_Reader_readBounds_25 rfl ?_
    refine ah_iconst (v := 3) C d_Reader_readBounds_26 rfl ?_
    refine ah_icmp_ge (tgt := 84) C d_Reader_readBounds_27 rfl (fun _ => ?_) (fun _ => ?_)
    · refine ah_mask [true, false, false, false, false] (lv' := [some (va_rf (some t)), none, none, none, none]) rfl ?_
      exact ok_Reader_readBounds_J84 C hr hlk t
    · refine ah_iload_n C d_Reader_readBounds_30 rfl ?_
      refine ah_if_eq (tgt := 84) C d_Reader_readBounds_31 rfl (fun _ => ?_) (fun _ => ?_)
      · refine ah_mask [true, false, false, false, false] (lv' := [some (va_rf (some t)), none, none, none, none]) rfl ?_
        exact ok_Reader_readBounds_J84 C hr hlk t
      · refine ah_aload_n C d_Reader_readBounds_34 rfl ?_
        refine ah_bipush (v := 83) C d_Reader_readBounds_35 rfl ?_
        refine ah_bipush (v := 90) C d_Reader_readBounds_37 rfl ?_
        refine ah_callVI (ci := 6) (As := [.int (83 : Int32), .int (90 : Int32)]) (rest := []) C (fun b => ok_Reader_takeLetter E _ b (83 : Int32) (90 : Int32)) rfl (Or.inl we171) we172 we173 we127 we170 hy_Reader_takeLetter (by omega) (by omega) rfl rfl (ah_rs trivial (Nat.le_of_ble_eq_true rfl)) d_Reader_readBounds_39 (fun x39 => ?_)
        refine ah_istore (lv' := [some (va_rf (some t)), some (va_rf v1), some (.int v2), some (.int v3), some (.int x39)]) C d_Reader_readBounds_42 (Nat.le_of_ble_eq_true rfl) rfl ?_
        refine ah_aload_n C d_Reader_readBounds_44 rfl ?_
        refine ah_bipush (v := 58) C d_Reader_readBounds_45 rfl ?_
        refine ah_callVV (ci := 6) (As := [.int (58 : Int32)]) (rest := []) C (fun b => ok_Reader_take E _ b (58 : Int32)) rfl (Or.inl we183) we184 we185 we127 we182 hy_Reader_take (by omega) (by omega) rfl rfl (ah_rs trivial (Nat.le_of_ble_eq_true rfl)) d_Reader_readBounds_47 ?_
        refine ah_aload_n C d_Reader_readBounds_50 rfl ?_
        refine ah_iload C d_Reader_readBounds_51 rfl ?_
        refine ah_aload_n C d_Reader_readBounds_53 rfl ?_
        refine ah_iconst (v := 0) C d_Reader_readBounds_54 rfl ?_
        refine ah_callVI (ci := 6) (As := [.int (0 : Int32)]) (rest := [.int x39, va_rf v1]) C (fun b => ok_Reader_readType E _ b (0 : Int32)) rfl (Or.inl we187) we188 we189 we127 we186 hy_Reader_readType (by omega) (by omega) rfl rfl (ah_rs ⟨rfl, (ah_rf_cat _), trivial⟩ (Nat.le_of_ble_eq_true rfl)) d_Reader_readBounds_55 (fun x55 => ?_)
        exact ah_Sno
set_option maxRecDepth 100000 in
set_option maxHeartbeats 4000000 in
theorem ok_Reader_readBounds (E : ahE) (l : Launch) (t : Nat) (v1 : Option Nat) : ah_met E l y_Reader_readBounds prog_9_method_13_code 5 none 2 51 rv_V [.ref t, va_rf v1] (fn_Reader_readBounds t v1) := by
  refine ah_met_of (by decide +kernel) (ah_c1_all ⟨rfl, ah_rf_cat _, trivial⟩) (Nat.le_of_ble_eq_true rfl) (lv := [some (va_rf (some t)), some (va_rf v1), none, none, none]) rfl (fun X C hl hr hlk hnm => ?_)
  subst hl
  unfold fn_Reader_readBounds
  refine ah_aload_n C d_Reader_readBounds_0 rfl ?_
  refine ah_getR (ci := 6) (k := 3) C rfl (by decide) rfl (Or.inl we77) d_Reader_readBounds_1 (fun x1 => ?_)
  refine ah_aload_n C d_Reader_readBounds_4 rfl ?_
  refine ah_getI (ci := 6) (k := 5) C rfl (by decide) rfl (Or.inl we162) d_Reader_readBounds_5 (fun x5 => ?_)
  refine ah_caload (j := 1) C (by decide) rfl rfl d_Reader_readBounds_8 (fun x8 => ?_)
  refine ah_bipush (v := 91) C d_Reader_readBounds_9 rfl ?_
  refine ah_icmp_eq (tgt := 15) C d_Reader_readBounds_11 rfl (fun _ => ?_) (fun _ => ?_)
  · refine ah_aload_n C d_Reader_readBounds_15 rfl ?_
    refine ah_bipush (v := 91) C d_Reader_readBounds_16 rfl ?_
    refine ah_callVV (ci := 6) (As := [.int (91 : Int32)]) (rest := []) C (fun b => ok_Reader_open E _ b (91 : Int32)) rfl (Or.inl we191) we192 we193 we127 we190 hy_Reader_open (by omega) (by omega) rfl rfl (ah_rs trivial (Nat.le_of_ble_eq_true rfl)) d_Reader_readBounds_18 ?_
    refine ah_iconst (v := 1) C d_Reader_readBounds_21 rfl ?_
    refine ah_istore_n (lv' := [some (va_rf (some t)), some (va_rf v1), some (.int (1 : Int32)), none, none]) C d_Reader_readBounds_22 (Nat.le_of_ble_eq_true rfl) rfl ?_
    refine ah_iconst (v := 0) C d_Reader_readBounds_23 rfl ?_
    refine ah_istore_n (lv' := [some (va_rf (some t)), some (va_rf v1), some (.int (1 : Int32)), some (.int (0 : Int32)), none]) C d_Reader_readBounds_24 (Nat.le_of_ble_eq_true rfl) rfl ?_
    refine ah_mask [true, true, true, true, false] (lv' := [some (va_rf (some t)), some (va_rf v1), some (.int (1 : Int32)), some (.int (0 : Int32)), none]) rfl ?_
    exact ok_Reader_readBounds_B25 C hr hlk t v1 FU (1 : Int32) (0 : Int32)
  · exact ah_vret C hr hlk d_Reader_readBounds_14
set_option maxRecDepth 100000 in
set_option maxHeartbeats 4000000 in
theorem ok_Types_classOf (E : ahE) (l : Launch) (t : Nat) (v1 : Int32) : ah_met E l y_Types_classOf prog_11_method_5_code 2 (some .int) 0 0 rv_I [.ref t, .int v1] (fn_Types_classOf t v1) := by
  refine ah_met_of (by decide +kernel) (ah_c1_all ⟨rfl, rfl, trivial⟩) (Nat.le_of_ble_eq_true rfl) (lv := [some (va_rf (some t)), some (.int v1)]) rfl (fun X C hl hr hlk hnm => ?_)
  subst hl
  unfold fn_Types_classOf
  refine ah_iload_n C d_Types_classOf_0 rfl ?_
  refine ah_if_lt (tgt := 21) C d_Types_classOf_1 rfl (fun _ => ?_) (fun _ => ?_)
  · refine ah_iconst (v := -1) C d_Types_classOf_21 rfl ?_
    exact ah_iret C hr hlk rfl d_Types_classOf_22
  · refine ah_iload_n C d_Types_classOf_4 rfl ?_
    refine ah_aload_n C d_Types_classOf_5 rfl ?_
    refine ah_getI (ci := 0) (k := 6) C rfl (by decide) rfl (Or.inl we14) d_Types_classOf_6 (fun x6 => ?_)
    refine ah_icmp_ge (tgt := 21) C d_Types_classOf_9 rfl (fun _ => ?_) (fun _ => ?_)
    · refine ah_iconst (v := -1) C d_Types_classOf_21 rfl ?_
      exact ah_iret C hr hlk rfl d_Types_classOf_22
    · refine ah_aload_n C d_Types_classOf_12 rfl ?_
      refine ah_getR (ci := 0) (k := 0) C rfl (by decide) rfl (Or.inl we3) d_Types_classOf_13 (fun x13 => ?_)
      refine ah_iload_n C d_Types_classOf_16 rfl ?_
      refine ah_iaload C rfl rfl d_Types_classOf_17 (fun x17 => ?_)
      refine ah_goto (tgt := 22) C d_Types_classOf_18 rfl ?_
      exact ah_iret C hr hlk rfl d_Types_classOf_22
set_option maxRecDepth 100000 in
set_option maxHeartbeats 4000000 in
theorem ok_Reader_takeEnd (E : ahE) (l : Launch) (t : Nat) : ah_met E l y_Reader_takeEnd prog_9_method_7_code 1 none 0 0 rv_V [.ref t] (fn_Reader_takeEnd t) := by
  refine ah_met_of (by decide +kernel) (ah_c1_all ⟨rfl, trivial⟩) (Nat.le_of_ble_eq_true rfl) (lv := [some (va_rf (some t))]) rfl (fun X C hl hr hlk hnm => ?_)
  subst hl
  unfold fn_Reader_takeEnd
  refine ah_aload_n C d_Reader_takeEnd_0 rfl ?_
  refine ah_getR (ci := 6) (k := 3) C rfl (by decide) rfl (Or.inl we77) d_Reader_takeEnd_1 (fun x1 => ?_)
  refine ah_aload_n C d_Reader_takeEnd_4 rfl ?_
  refine ah_getI (ci := 6) (k := 5) C rfl (by decide) rfl (Or.inl we162) d_Reader_takeEnd_5 (fun x5 => ?_)
  refine ah_caload (j := 1) C (by decide) rfl rfl d_Reader_takeEnd_8 (fun x8 => ?_)
  refine ah_if_eq (tgt := 22) C d_Reader_takeEnd_9 rfl (fun _ => ?_) (fun _ => ?_)
  · exact ah_vret C hr hlk d_Reader_takeEnd_22
  · refine ah_aload_n C d_Reader_takeEnd_12 rfl ?_
    refine ah_getR (ci := 6) (k := 3) C rfl (by decide) rfl (Or.inl we77) d_Reader_takeEnd_13 (fun x13 => ?_)
    refine ah_aload_n C d_Reader_takeEnd_16 rfl ?_
    refine ah_getI (ci := 6) (k := 5) C rfl (by decide) rfl (Or.inl we162) d_Reader_takeEnd_17 (fun x17 => ?_)
    refine ah_iconst (v := 1) C d_Reader_takeEnd_20 rfl ?_
    refine ah_castore (j := 1) C rfl rfl d_Reader_takeEnd_21 ?_
    exact ah_vret C hr hlk d_Reader_takeEnd_22
set_option maxRecDepth 100000 in
set_option maxHeartbeats 4000000 in
theorem ok_Reader_readDeclaration_J125 {E : ahE} {X : ahX} (C : ah_Cx E X prog_9_method_2_code 7 "BoundedTypes$Reader" 5 104) (hr : (ax_M X).sig.returnType = some (.object "BoundedTypes$Entry")) (hlk : (ax_M X).locks = false) (t : Nat) (v5 : Option Nat) : ah_S E X (ah_Q E X rv_R) 125 [some (va_rf (some t)), none, none, none, none, some (va_rf v5), none] [] (fn_Reader_readDeclaration_J125 t v5) := by
  unfold fn_Reader_readDeclaration_J125
  refine ah_aload_n C d_Reader_readDeclaration_125 rfl ?_
  refine ah_bipush (v := 125) C d_Reader_readDeclaration_126 rfl ?_
  refine ah_callVV (ci := 6) (As := [.int (125 : Int32)]) (rest := []) C (fun b => ok_Reader_close E _ b (125 : Int32)) rfl (Or.inl we179) we180 we181 we127 we178 hy_Reader_close (by omega) (by omega) rfl rfl (ah_rs trivial (Nat.le_of_ble_eq_true rfl)) d_Reader_readDeclaration_128 ?_
  refine ah_aload_n C d_Reader_readDeclaration_131 rfl ?_
  refine ah_callVV (ci := 6) (As := []) (rest := []) C (fun b => ok_Reader_takeEnd E _ b) rfl (Or.inl we195) we196 we197 we127 we194 hy_Reader_takeEnd (by omega) (by omega) rfl rfl (ah_rs trivial (Nat.le_of_ble_eq_true rfl)) d_Reader_readDeclaration_132 ?_
  refine ah_aload C d_Reader_readDeclaration_135 rfl ?_
  exact ah_aret C hr hlk (Or.inl ⟨_, rfl⟩) d_Reader_readDeclaration_137
set_option maxRecDepth 100000 in
set_option maxHeartbeats 4000000 in
theorem ok_Reader_readDeclaration_B71 {E : ahE} {X : ahX} (C : ah_Cx E X prog_9_method_2_code 7 "BoundedTypes$Reader" 5 104) (hr : (ax_M X).sig.returnType = some (.object "BoundedTypes$Entry")) (hlk : (ax_M X).locks = false) (t : Nat) (v5 : Option Nat) : ∀ (n : Nat) (v6 : Int32), ah_S E X (ah_Q E X rv_R) 71 [some (va_rf (some t)), none, none, none, none, some (va_rf v5), some (.int v6)] [] (ah_lp (fn_Reader_readDeclaration_B71 t v5) n v6) := by
  intro n
  induction n with
  | zero => intro v6 h r n u c hs; cases hs
  | succ n hk71 =>
    intro v6
    show ah_S E X (ah_Q E X rv_R) 71 _ _ (fn_Reader_readDeclaration_B71 t v5 (ah_lp (fn_Reader_readDeclaration_B71 t v5) n) v6)
    generalize ah_lp (fn_Reader_readDeclaration_B71 t v5) n = k71 at hk71 ⊢
    rw [fn_Reader_readDeclaration_B71]
    refine ah_iload C d_Reader_readDeclaration_71 rfl ?_
    refine ah_sipush (v := 140) C d_Reader_readDeclaration_73 rfl ?_
    refine ah_icmp_ge (tgt := 125) C d_Reader_readDeclaration_76 rfl (fun _ => ?_) (fun _ => ?_)
    · refine ah_mask [true, false, false, false, false, true, false] (lv' := [some (va_rf (some t)), none, none, none, none, some (va_rf v5), none]) rfl ?_
      exact ok_Reader_readDeclaration_J125 C hr hlk t v5
    · refine ah_aload_n C d_Reader_readDeclaration_79 rfl ?_
      refine ah_getR (ci := 6) (k := 3) C rfl (by decide) rfl (Or.inl we77) d_Reader_readDeclaration_80 (fun x80 => ?_)
      refine ah_aload_n C d_Reader_readDeclaration_83 rfl ?_
      refine ah_getI (ci := 6) (k := 5) C rfl (by decide) rfl (Or.inl we162) d_Reader_readDeclaration_84 (fun x84 => ?_)
      refine ah_caload (j := 1) C (by decide) rfl rfl d_Reader_readDeclaration_87 (fun x87 => ?_)
      refine ah_bipush (v := 125) C d_Reader_readDeclaration_88 rfl ?_
      refine ah_icmp_eq (tgt := 125) C d_Reader_readDeclaration_90 rfl (fun _ => ?_) (fun _ => ?_)
      · refine ah_mask [true, false, false, false, false, true, false] (lv' := [some (va_rf (some t)), none, none, none, none, some (va_rf v5), none]) rfl ?_
        exact ok_Reader_readDeclaration_J125 C hr hlk t v5
      · refine ah_aload_n C d_Reader_readDeclaration_93 rfl ?_
        refine ah_getR (ci := 6) (k := 3) C rfl (by decide) rfl (Or.inl we77) d_Reader_readDeclaration_94 (fun x94 => ?_)
        refine ah_aload_n C d_Reader_readDeclaration_97 rfl ?_
        refine ah_getI (ci := 6) (k := 5) C rfl (by decide) rfl (Or.inl we162) d_Reader_readDeclaration_98 (fun x98 => ?_)
        refine ah_caload (j := 1) C (by decide) rfl rfl d_Reader_readDeclaration_101 (fun x101 => ?_)
        refine ah_iconst (v := 1) C d_Reader_readDeclaration_102 rfl ?_
        refine ah_icmp_eq (tgt := 125) C d_Reader_readDeclaration_103 rfl (fun _ => ?_) (fun _ => ?_)
        · refine ah_mask [true, false, false, false, false, true, false] (lv' := [some (va_rf (some t)), none, none, none, none, some (va_rf v5), none]) rfl ?_
          exact ok_Reader_readDeclaration_J125 C hr hlk t v5
        · refine ah_aload C d_Reader_readDeclaration_106 rfl ?_
          refine ah_getR (ci := 4) (k := 4) C rfl (by decide) rfl (Or.inr ⟨_, we198⟩) d_Reader_readDeclaration_108 (fun x108 => ?_)
          refine ah_aload_n C d_Reader_readDeclaration_111 rfl ?_
          exact ah_Sno
set_option maxRecDepth 100000 in
set_option maxHeartbeats 4000000 in
theorem ok_Reader_readDeclaration (E : ahE) (l : Launch) (t : Nat) (v1 : Int32) : ah_met E l y_Reader_readDeclaration prog_9_method_2_code 7 (some (.object "BoundedTypes$Entry")) 5 104 rv_R [.ref t, .int v1] (fn_Reader_readDeclaration t v1) := by
  refine ah_met_of (by decide +kernel) (ah_c1_all ⟨rfl, rfl, trivial⟩) (Nat.le_of_ble_eq_true rfl) (lv := [some (va_rf (some t)), some (.int v1), none, none, none, none, none]) rfl (fun X C hl hr hlk hnm => ?_)
  subst hl
  unfold fn_Reader_readDeclaration
  refine ah_aload_n C d_Reader_readDeclaration_0 rfl ?_
  refine ah_iload_n C d_Reader_readDeclaration_1 rfl ?_
  refine ah_callVV (ci := 6) (As := [.int v1]) (rest := []) C (fun b => ok_Reader_start E _ b v1) rfl (Or.inl we200) we201 we202 we127 we199 hy_Reader_start (by omega) (by omega) rfl rfl (ah_rs trivial (Nat.le_of_ble_eq_true rfl)) d_Reader_readDeclaration_2 ?_
  refine ah_aload_n C d_Reader_readDeclaration_5 rfl ?_
  refine ah_bipush (v := 65) C d_Reader_readDeclaration_6 rfl ?_
  refine ah_bipush (v := 72) C d_Reader_readDeclaration_8 rfl ?_
  refine ah_callVI (ci := 6) (As := [.int (65 : Int32), .int (72 : Int32)]) (rest := []) C (fun b => ok_Reader_takeLetter E _ b (65 : Int32) (72 : Int32)) rfl (Or.inl we171) we172 we173 we127 we170 hy_Reader_takeLetter (by omega) (by omega) rfl rfl (ah_rs trivial (Nat.le_of_ble_eq_true rfl)) d_Reader_readDeclaration_10 (fun x10 => ?_)
  refine ah_istore_n (lv' := [some (va_rf (some t)), some (.int v1), some (.int x10), none, none, none, none]) C d_Reader_readDeclaration_13 (Nat.le_of_ble_eq_true rfl) rfl ?_
  refine ah_newO (ci := 2) C rfl we203 we66 we67 d_Reader_readDeclaration_14 (fun x14 => ?_)
  refine ah_dup C d_Reader_readDeclaration_17 (ah_rf_cat _) ?_
  refine ah_callI (As := []) (rest := [va_rf x14]) C (fun b => ok_Bounds_init E _ b) (Or.inr ⟨_, we204⟩) rfl we70 we67 we68 hy_Bounds_init (by omega) (by omega) rfl rfl (ah_rs ⟨(ah_rf_cat _), trivial⟩ (Nat.le_of_ble_eq_true rfl)) d_Reader_readDeclaration_18 ?_
  refine ah_astore_n (lv' := [some (va_rf (some t)), some (.int v1), some (.int x10), some (va_rf x14), none, none, none]) C d_Reader_readDeclaration_21 (Nat.le_of_ble_eq_true rfl) rfl ?_
  refine ah_aload_n C d_Reader_readDeclaration_22 rfl ?_
  refine ah_aload_n C d_Reader_readDeclaration_23 rfl ?_
  refine ah_callVV (ci := 6) (As := [va_rf x14]) (rest := []) C (fun b => ok_Reader_readBounds E _ b x14) rfl (Or.inl we206) we207 we208 we127 we205 hy_Reader_readBounds (by omega) (by omega) rfl rfl (ah_rs trivial (Nat.le_of_ble_eq_true rfl)) d_Reader_readDeclaration_24 ?_
  refine ah_aload_n C d_Reader_readDeclaration_27 rfl ?_
  refine ah_bipush (v := 58) C d_Reader_readDeclaration_28 rfl ?_
  refine ah_callVV (ci := 6) (As := [.int (58 : Int32)]) (rest := []) C (fun b => ok_Reader_take E _ b (58 : Int32)) rfl (Or.inl we183) we184 we185 we127 we182 hy_Reader_take (by omega) (by omega) rfl rfl (ah_rs trivial (Nat.le_of_ble_eq_true rfl)) d_Reader_readDeclaration_30 ?_
  refine ah_aload_n C d_Reader_readDeclaration_33 rfl ?_
  refine ah_iconst (v := 0) C d_Reader_readDeclaration_34 rfl ?_
  refine ah_callVI (ci := 6) (As := [.int (0 : Int32)]) (rest := []) C (fun b => ok_Reader_readType E _ b (0 : Int32)) rfl (Or.inl we187) we188 we189 we127 we186 hy_Reader_readType (by omega) (by omega) rfl rfl (ah_rs trivial (Nat.le_of_ble_eq_true rfl)) d_Reader_readDeclaration_35 (fun x35 => ?_)
  refine ah_istore (lv' := [some (va_rf (some t)), some (.int v1), some (.int x10), some (va_rf x14), some (.int x35), none, none]) C d_Reader_readDeclaration_38 (Nat.le_of_ble_eq_true rfl) rfl ?_
  refine ah_newO (ci := 4) C rfl we209 we63 we64 d_Reader_readDeclaration_40 (fun x40 => ?_)
  refine ah_dup C d_Reader_readDeclaration_43 (ah_rf_cat _) ?_
  refine ah_iload_n C d_Reader_readDeclaration_44 rfl ?_
  refine ah_aload_n C d_Reader_readDeclaration_45 rfl ?_
  refine ah_iload C d_Reader_readDeclaration_46 rfl ?_
  refine ah_aload_n C d_Reader_readDeclaration_48 rfl ?_
  refine ah_getR (ci := 6) (k := 1) C rfl (by decide) rfl (Or.inl we81) d_Reader_readDeclaration_49 (fun x49 => ?_)
  refine ah_iload C d_Reader_readDeclaration_52 rfl ?_
  refine ah_callVI (ci := 0) (As := [.int x35]) (rest := [.int x35, va_rf x14, .int x10, va_rf x40, va_rf x40]) C (fun b => ok_Types_classOf E _ b x35) rfl (Or.inl we211) we212 we213 we5 we210 hy_Types_classOf (by omega) (by omega) rfl rfl (ah_rs ⟨rfl, (ah_rf_cat _), rfl, (ah_rf_cat _), (ah_rf_cat _), trivial⟩ (Nat.le_of_ble_eq_true rfl)) d_Reader_readDeclaration_54 (fun x54 => ?_)
  refine ah_callI (As := [.int x10, va_rf x14, .int x35, .int x54]) (rest := [va_rf x40]) C (fun b => ok_Entry_init E _ b x10 x14 x35 x54) (Or.inl we214) rfl we73 we64 we71 hy_Entry_init (by omega) (by omega) rfl rfl (ah_rs ⟨(ah_rf_cat _), trivial⟩ (Nat.le_of_ble_eq_true rfl)) d_Reader_readDeclaration_57 ?_
  refine ah_astore (lv' := [some (va_rf (some t)), some (.int v1), some (.int x10), some (va_rf x14), some (.int x35), some (va_rf x40), none]) C d_Reader_readDeclaration_60 (Nat.le_of_ble_eq_true rfl) rfl ?_
  refine ah_aload_n C d_Reader_readDeclaration_62 rfl ?_
  refine ah_bipush (v := 123) C d_Reader_readDeclaration_63 rfl ?_
  refine ah_callVV (ci := 6) (As := [.int (123 : Int32)]) (rest := []) C (fun b => ok_Reader_open E _ b (123 : Int32)) rfl (Or.inl we191) we192 we193 we127 we190 hy_Reader_open (by omega) (by omega) rfl rfl (ah_rs trivial (Nat.le_of_ble_eq_true rfl)) d_Reader_readDeclaration_65 ?_
  refine ah_iconst (v := 0) C d_Reader_readDeclaration_68 rfl ?_
  refine ah_istore (lv' := [some (va_rf (some t)), some (.int v1), some (.int x10), some (va_rf x14), some (.int x35), some (va_rf x40), some (.int (0 : Int32))]) C d_Reader_readDeclaration_69 (Nat.le_of_ble_eq_true rfl) rfl ?_
  refine ah_mask [true, false, false, false, false, true, true] (lv' := [some (va_rf (some t)), none, none, none, none, some (va_rf x40), some (.int (0 : Int32))]) rfl ?_
  exact ok_Reader_readDeclaration_B71 C hr hlk t x40 FU (0 : Int32)
set_option maxRecDepth 100000 in
set_option maxHeartbeats 4000000 in
theorem ok_Reader_answerIfFaulty (E : ahE) (l : Launch) (t : Nat) : ah_met E l y_Reader_answerIfFaulty prog_9_method_4_code 1 (some .int) 0 0 rv_I [.ref t] (fn_Reader_answerIfFaulty t) := by
  refine ah_met_of (by decide +kernel) (ah_c1_all ⟨rfl, trivial⟩) (Nat.le_of_ble_eq_true rfl) (lv := [some (va_rf (some t))]) rfl (fun X C hl hr hlk hnm => ?_)
  subst hl
  unfold fn_Reader_answerIfFaulty
  refine ah_aload_n C d_Reader_answerIfFaulty_0 rfl ?_
  refine ah_getR (ci := 6) (k := 3) C rfl (by decide) rfl (Or.inl we77) d_Reader_answerIfFaulty_1 (fun x1 => ?_)
  refine ah_aload_n C d_Reader_answerIfFaulty_4 rfl ?_
  refine ah_getI (ci := 6) (k := 5) C rfl (by decide) rfl (Or.inl we162) d_Reader_answerIfFaulty_5 (fun x5 => ?_)
  refine ah_caload (j := 1) C (by decide) rfl rfl d_Reader_answerIfFaulty_8 (fun x8 => ?_)
  refine ah_iconst (v := 1) C d_Reader_answerIfFaulty_9 rfl ?_
  refine ah_icmp_ne (tgt := 27) C d_Reader_answerIfFaulty_10 rfl (fun _ => ?_) (fun _ => ?_)
  · refine ah_iconst (v := 0) C d_Reader_answerIfFaulty_27 rfl ?_
    exact ah_iret C hr hlk rfl d_Reader_answerIfFaulty_28
  · refine ah_iconst (v := -1) C d_Reader_answerIfFaulty_13 rfl ?_
    refine ah_aload_n C d_Reader_answerIfFaulty_14 rfl ?_
    refine ah_getR (ci := 6) (k := 4) C rfl (by decide) rfl (Or.inl we78) d_Reader_answerIfFaulty_15 (fun x15 => ?_)
    refine ah_aload_n C d_Reader_answerIfFaulty_18 rfl ?_
    refine ah_getI (ci := 6) (k := 5) C rfl (by decide) rfl (Or.inl we162) d_Reader_answerIfFaulty_19 (fun x19 => ?_)
    refine ah_iaload C rfl rfl d_Reader_answerIfFaulty_22 (fun x22 => ?_)
    refine ah_isub C d_Reader_answerIfFaulty_23 ?_
    refine ah_goto (tgt := 28) C d_Reader_answerIfFaulty_24 rfl ?_
    exact ah_iret C hr hlk rfl d_Reader_answerIfFaulty_28
set_option maxRecDepth 100000 in
set_option maxHeartbeats 4000000 in
theorem ok_Rules_entryNamed (E : ahE) (l : Launch) (t : Nat) (v1 : Int32) : ah_met E l y_Rules_entryNamed prog_10_method_2_code 2 (some (.object "BoundedTypes$Entry")) 0 0 rv_R [.ref t, .int v1] (fn_Rules_entryNamed t v1) := by
  refine ah_met_of (by decide +kernel) (ah_c1_all ⟨rfl, rfl, trivial⟩) (Nat.le_of_ble_eq_true rfl) (lv := [some (va_rf (some t)), some (.int v1)]) rfl (fun X C hl hr hlk hnm => ?_)
  subst hl
  unfold fn_Rules_entryNamed
  refine ah_iload_n C d_Rules_entryNamed_0 rfl ?_
  refine ah_if_lt (tgt := 19) C d_Rules_entryNamed_1 rfl (fun _ => ?_) (fun _ => ?_)
  · refine ah_null C d_Rules_entryNamed_19 ?_
    exact ah_aret C hr hlk (Or.inl ⟨_, rfl⟩) d_Rules_entryNamed_20
  · refine ah_iload_n C d_Rules_entryNamed_4 rfl ?_
    refine ah_bipush (v := 8) C d_Rules_entryNamed_5 rfl ?_
    refine ah_icmp_ge (tgt := 19) C d_Rules_entryNamed_7 rfl (fun _ => ?_) (fun _ => ?_)
    · refine ah_null C d_Rules_entryNamed_19 ?_
      exact ah_aret C hr hlk (Or.inl ⟨_, rfl⟩) d_Rules_entryNamed_20
    · refine ah_aload_n C d_Rules_entryNamed_10 rfl ?_
      refine ah_getR (ci := 5) (k := 1) C rfl (by decide) rfl (Or.inl we59) d_Rules_entryNamed_11 (fun x11 => ?_)
      refine ah_iload_n C d_Rules_entryNamed_14 rfl ?_
      refine ah_aaload (j := 3) C rfl rfl rfl d_Rules_entryNamed_15 (fun x15 => ?_)
      refine ah_goto (tgt := 20) C d_Rules_entryNamed_16 rfl ?_
      exact ah_aret C hr hlk (Or.inl ⟨_, rfl⟩) d_Rules_entryNamed_20
set_option maxRecDepth 100000 in
set_option maxHeartbeats 4000000 in
theorem ok_Rules_remove (E : ahE) (l : Launch) (t : Nat) (v1 : Option Nat) : ah_met E l y_Rules_remove prog_10_method_5_code 2 none 1 21 rv_V [.ref t, va_rf v1] (fn_Rules_remove t v1) := by
  refine ah_met_of (by decide +kernel) (ah_c1_all ⟨rfl, ah_rf_cat _, trivial⟩) (Nat.le_of_ble_eq_true rfl) (lv := [some (va_rf (some t)), some (va_rf v1)]) rfl (fun X C hl hr hlk hnm => ?_)
  subst hl
  unfold fn_Rules_remove
  refine ah_aload_n C d_Rules_remove_0 rfl ?_
  refine ah_aload_n C d_Rules_remove_1 rfl ?_
  refine ah_getI (ci := 4) (k := 0) C rfl (by decide) rfl (Or.inr ⟨_, we215⟩) d_Rules_remove_2 (fun x2 => ?_)
  refine ah_callVR (ci := 5) (As := [.int x2]) (rest := []) C (fun b => ok_Rules_entryNamed E _ b x2) rfl (Or.inl we217) we218 we219 we120 we216 hy_Rules_entryNamed (by omega) (by omega) rfl rfl (ah_rs trivial (Nat.le_of_ble_eq_true rfl)) d_Rules_remove_5 (fun x5 => ?_)
  refine ah_aload_n C d_Rules_remove_8 rfl ?_
  refine ah_acmp_ne (tgt := 22) C d_Rules_remove_9 rfl (fun _ => ?_) (fun _ => ?_)
  · exact ah_vret C hr hlk d_Rules_remove_22
  · refine ah_aload_n C d_Rules_remove_12 rfl ?_
    refine ah_getR (ci := 5) (k := 1) C rfl (by decide) rfl (Or.inl we59) d_Rules_remove_13 (fun x13 => ?_)
    refine ah_aload_n C d_Rules_remove_16 rfl ?_
    refine ah_getI (ci := 4) (k := 0) C rfl (by decide) rfl (Or.inr ⟨_, we215⟩) d_Rules_remove_17 (fun x17 => ?_)
    refine ah_null C d_Rules_remove_20 ?_
    refine ah_aastore (j := 3) (ci := 4) C rfl rfl rfl d_Rules_remove_21 ?_
    exact ah_vret C hr hlk d_Rules_remove_22
set_option maxRecDepth 100000 in
set_option maxHeartbeats 4000000 in
theorem ok_Types_forget_B14 {E : ahE} {X : ahX} (C : ah_Cx E X prog_11_method_11_code 4 "BoundedTypes$Types" 1 21) (hr : (ax_M X).sig.returnType = none) (hlk : (ax_M X).locks = false) (t : Nat) (v2 : Int32) : ∀ (n : Nat) (v3 : Int32), ah_S E X (ah_Q E X rv_V) 14 [some (va_rf (some t)), none, some (.int v2), some (.int v3)] [] (ah_lp (fn_Types_forget_B14 t v2) n v3) := by
  intro n
  induction n with
  | zero => intro v3 h r n u c hs; cases hs
  | succ n hk14 =>
    intro v3
    show ah_S E X (ah_Q E X rv_V) 14 _ _ (fn_Types_forget_B14 t v2 (ah_lp (fn_Types_forget_B14 t v2) n) v3)
    generalize ah_lp (fn_Types_forget_B14 t v2) n = k14 at hk14 ⊢
    rw [fn_Types_forget_B14]
    refine ah_iload_n C d_Types_forget_14 rfl ?_
    refine ah_iload_n C d_Types_forget_15 rfl ?_
    refine ah_icmp_lt (tgt := 42) C d_Types_forget_16 rfl (fun _ => ?_) (fun _ => ?_)
    · refine ah_aload_n C d_Types_forget_42 rfl ?_
      refine ah_aload_n C d_Types_forget_43 rfl ?_
      refine ah_getI (ci := 0) (k := 6) C rfl (by decide) rfl (Or.inl we14) d_Types_forget_44 (fun x44 => ?_)
      refine ah_iload_n C d_Types_forget_47 rfl ?_
      refine ah_mmin C we221 we222 we220 we223 (by omega) (by omega) rfl (ah_rs ⟨(ah_rf_cat _), trivial⟩ (Nat.le_of_ble_eq_true rfl)) d_Types_forget_48 ?_
      refine ah_putI (ci := 0) (k := 6) C rfl (by decide) rfl (Or.inl we14) (Or.inl rfl) rfl rfl d_Types_forget_51 ?_
      exact ah_vret C hr hlk d_Types_forget_54
    · refine ah_aload_n C d_Types_forget_19 rfl ?_
      refine ah_getR (ci := 0) (k := 5) C rfl (by decide) rfl (Or.inl we13) d_Types_forget_20 (fun x20 => ?_)
      refine ah_aload_n C d_Types_forget_23 rfl ?_
      refine ah_getR (ci := 0) (k := 3) C rfl (by decide) rfl (Or.inl we11) d_Types_forget_24 (fun x24 => ?_)
      refine ah_iload_n C d_Types_forget_27 rfl ?_
      refine ah_iaload C rfl rfl d_Types_forget_28 (fun x28 => ?_)
      refine ah_aload_n C d_Types_forget_29 rfl ?_
      refine ah_getR (ci := 0) (k := 4) C rfl (by decide) rfl (Or.inl we12) d_Types_forget_30 (fun x30 => ?_)
      refine ah_iload_n C d_Types_forget_33 rfl ?_
      refine ah_iaload C rfl rfl d_Types_forget_34 (fun x34 => ?_)
      refine ah_iastore C rfl rfl d_Types_forget_35 ?_
      refine ah_iinc (lv' := [some (va_rf (some t)), none, some (.int v2), some (.int (v3 + (-1 : Int32)))]) C d_Types_forget_36 rfl rfl rfl ?_
      refine ah_goto (tgt := 14) C d_Types_forget_39 rfl ?_
      refine ah_mask [true, false, true, true] (lv' := [some (va_rf (some t)), none, some (.int v2), some (.int (v3 + (-1 : Int32)))]) rfl ?_
      exact hk14 (v3 + (-1 : Int32))
set_option maxRecDepth 100000 in
set_option maxHeartbeats 4000000 in
theorem ok_Types_forget (E : ahE) (l : Launch) (t : Nat) (v1 : Int32) : ah_met E l y_Types_forget prog_11_method_11_code 4 none 1 21 rv_V [.ref t, .int v1] (fn_Types_forget t v1) := by
  refine ah_met_of (by decide +kernel) (ah_c1_all ⟨rfl, rfl, trivial⟩) (Nat.le_of_ble_eq_true rfl) (lv := [some (va_rf (some t)), some (.int v1), none, none]) rfl (fun X C hl hr hlk hnm => ?_)
  subst hl
  unfold fn_Types_forget
  refine ah_iload_n C d_Types_forget_0 rfl ?_
  refine ah_bipush (v := 8) C d_Types_forget_1 rfl ?_
  refine ah_mmax C we224 we225 we220 we226 (by omega) (by omega) rfl (ah_rs trivial (Nat.le_of_ble_eq_true rfl)) d_Types_forget_3 ?_
  refine ah_istore_n (lv' := [some (va_rf (some t)), some (.int v1), some (.int (jd_max v1 (8 : Int32))), none]) C d_Types_forget_6 (Nat.le_of_ble_eq_true rfl) rfl ?_
  refine ah_aload_n C d_Types_forget_7 rfl ?_
  refine ah_getI (ci := 0) (k := 6) C rfl (by decide) rfl (Or.inl we14) d_Types_forget_8 (fun x8 => ?_)
  refine ah_iconst (v := 1) C d_Types_forget_11 rfl ?_
  refine ah_isub C d_Types_forget_12 ?_
  refine ah_istore_n (lv' := [some (va_rf (some t)), some (.int v1), some (.int (jd_max v1 (8 : Int32))), some (.int (x8 - (1 : Int32)))]) C d_Types_forget_13 (Nat.le_of_ble_eq_true rfl) rfl ?_
  refine ah_mask [true, false, true, true] (lv' := [some (va_rf (some t)), none, some (.int (jd_max v1 (8 : Int32))), some (.int (x8 - (1 : Int32)))]) rfl ?_
  exact ok_Types_forget_B14 C hr hlk t (jd_max v1 (8 : Int32)) FU (x8 - (1 : Int32))
set_option maxRecDepth 100000 in
set_option maxHeartbeats 4000000 in
theorem ok_Code_forget (E : ahE) (l : Launch) (t : Nat) (v1 : Int32) : ah_met E l y_Code_forget prog_3_method_4_code 2 none 1 21 rv_V [.ref t, .int v1] (fn_Code_forget t v1) := by
  refine ah_met_of (by decide +kernel) (ah_c1_all ⟨rfl, rfl, trivial⟩) (Nat.le_of_ble_eq_true rfl) (lv := [some (va_rf (some t)), some (.int v1)]) rfl (fun X C hl hr hlk hnm => ?_)
  subst hl
  unfold fn_Code_forget
  refine ah_aload_n C d_Code_forget_0 rfl ?_
  refine ah_iconst (v := 0) C d_Code_forget_1 rfl ?_
  refine ah_aload_n C d_Code_forget_2 rfl ?_
  refine ah_getI (ci := 1) (k := 4) C rfl (by decide) rfl (Or.inl we227) d_Code_forget_3 (fun x3 => ?_)
  refine ah_iload_n C d_Code_forget_6 rfl ?_
  refine ah_mmin C we228 we222 we220 we223 (by omega) (by omega) rfl (ah_rs ⟨rfl, (ah_rf_cat _), trivial⟩ (Nat.le_of_ble_eq_true rfl)) d_Code_forget_7 ?_
  refine ah_mmax C we229 we225 we220 we226 (by omega) (by omega) rfl (ah_rs ⟨(ah_rf_cat _), trivial⟩ (Nat.le_of_ble_eq_true rfl)) d_Code_forget_10 ?_
  refine ah_putI (ci := 1) (k := 4) C rfl (by decide) rfl (Or.inl we227) (Or.inl rfl) rfl rfl d_Code_forget_13 ?_
  exact ah_vret C hr hlk d_Code_forget_16
set_option maxRecDepth 100000 in
set_option maxHeartbeats 4000000 in
theorem ok_BT_declare_J108 {E : ahE} {X : ahX} (C : ah_Cx E X prog_1_method_3_code 6 "BoundedTypes" 6 130) (hr : (ax_M X).sig.returnType = some .int) (hlk : (ax_M X).locks = false) (t : Nat) (v1 : Int32) (v2 : Int32) (v3 : Option Nat) (v4 : Int32) (v5 : Int32) : ah_S E X (ah_Q E X rv_I) 108 [some (va_rf (some t)), some (.int v1), some (.int v2), some (va_rf v3), some (.int v4), some (.int v5)] [] (fn_BT_declare_J108 t v1 v2 v3 v4 v5) := by
  unfold fn_BT_declare_J108
  refine ah_iload C d_BT_declare_108 rfl ?_
  refine ah_if_ge (tgt := 140) C d_BT_declare_110 rfl (fun _ => ?_) (fun _ => ?_)
  · refine ah_aload_n C d_BT_declare_140 rfl ?_
    refine ah_getR (ci := 10) (k := 2) C rfl (by decide) rfl (Or.inl we110) d_BT_declare_141 (fun x141 => ?_)
    refine ah_iload C d_BT_declare_144 rfl ?_
    refine ah_callVV (ci := 0) (As := [.int v4]) (rest := []) C (fun b => ok_Types_forget E _ b v4) rfl (Or.inl we231) we232 we233 we5 we230 hy_Types_forget (by omega) (by omega) rfl rfl (ah_rs trivial (Nat.le_of_ble_eq_true rfl)) d_BT_declare_146 ?_
    refine ah_aload_n C d_BT_declare_149 rfl ?_
    refine ah_getR (ci := 10) (k := 4) C rfl (by decide) rfl (Or.inl we124) d_BT_declare_150 (fun x150 => ?_)
    exact ah_Sno
  · refine ah_aload_n C d_BT_declare_113 rfl ?_
    refine ah_getR (ci := 10) (k := 4) C rfl (by decide) rfl (Or.inl we124) d_BT_declare_114 (fun x114 => ?_)
    refine ah_aload_n C d_BT_declare_117 rfl ?_
    refine ah_callVV (ci := 5) (As := [va_rf v3]) (rest := []) C (fun b => ok_Rules_remove E _ b v3) rfl (Or.inl we235) we236 we237 we120 we234 hy_Rules_remove (by omega) (by omega) rfl rfl (ah_rs trivial (Nat.le_of_ble_eq_true rfl)) d_BT_declare_118 ?_
    refine ah_aload_n C d_BT_declare_121 rfl ?_
    refine ah_getR (ci := 10) (k := 2) C rfl (by decide) rfl (Or.inl we110) d_BT_declare_122 (fun x122 => ?_)
    refine ah_iload_n C d_BT_declare_125 rfl ?_
    refine ah_callVV (ci := 0) (As := [.int v1]) (rest := []) C (fun b => ok_Types_forget E _ b v1) rfl (Or.inl we231) we232 we233 we5 we230 hy_Types_forget (by omega) (by omega) rfl rfl (ah_rs trivial (Nat.le_of_ble_eq_true rfl)) d_BT_declare_126 ?_
    refine ah_aload_n C d_BT_declare_129 rfl ?_
    refine ah_getR (ci := 10) (k := 3) C rfl (by decide) rfl (Or.inl we117) d_BT_declare_130 (fun x130 => ?_)
    refine ah_iload_n C d_BT_declare_133 rfl ?_
    refine ah_callVV (ci := 1) (As := [.int v2]) (rest := []) C (fun b => ok_Code_forget E _ b v2) rfl (Or.inl we239) we240 we241 we113 we238 hy_Code_forget (by omega) (by omega) rfl rfl (ah_rs trivial (Nat.le_of_ble_eq_true rfl)) d_BT_declare_134 ?_
    refine ah_iload C d_BT_declare_137 rfl ?_
    exact ah_iret C hr hlk rfl d_BT_declare_139
set_option maxRecDepth 100000 in
set_option maxHeartbeats 4000000 in
theorem ok_BT_declare_J89 {E : ahE} {X : ahX} (C : ah_Cx E X prog_1_method_3_code 6 "BoundedTypes" 6 130) (hr : (ax_M X).sig.returnType = some .int) (hlk : (ax_M X).locks = false) (t : Nat) (v1 : Int32) (v2 : Int32) (v3 : Option Nat) (v4 : Int32) (v5 : Int32) : ah_S E X (ah_Q E X rv_I) 89 [some (va_rf (some t)), some (.int v1), some (.int v2), some (va_rf v3), some (.int v4), some (.int v5)] [] (fn_BT_declare_J89 t v1 v2 v3 v4 v5) := by
  unfold fn_BT_declare_J89
  refine ah_iload C d_BT_declare_89 rfl ?_
  refine ah_if_ne (tgt := 108) C d_BT_declare_91 rfl (fun _ => ?_) (fun _ => ?_)
  · refine ah_mask [true, true, true, true, true, true] (lv' := [some (va_rf (some t)), some (.int v1), some (.int v2), some (va_rf v3), some (.int v4), some (.int v5)]) rfl ?_
    exact ok_BT_declare_J108 C hr hlk t v1 v2 v3 v4 v5
  · refine ah_sipush (v := -1000) C d_BT_declare_94 rfl ?_
    refine ah_aload_n C d_BT_declare_97 rfl ?_
    refine ah_getR (ci := 10) (k := 7) C rfl (by decide) rfl (Or.inl we145) d_BT_declare_98 (fun x98 => ?_)
    refine ah_aload_n C d_BT_declare_101 rfl ?_
    exact ah_Sno
set_option maxRecDepth 100000 in
set_option maxHeartbeats 4000000 in
theorem ok_BT_declare_J70 {E : ahE} {X : ahX} (C : ah_Cx E X prog_1_method_3_code 6 "BoundedTypes" 6 130) (hr : (ax_M X).sig.returnType = some .int) (hlk : (ax_M X).locks = false) (t : Nat) (v1 : Int32) (v2 : Int32) (v3 : Option Nat) (v4 : Int32) (v5 : Int32) : ah_S E X (ah_Q E X rv_I) 70 [some (va_rf (some t)), some (.int v1), some (.int v2), some (va_rf v3), some (.int v4), some (.int v5)] [] (fn_BT_declare_J70 t v1 v2 v3 v4 v5) := by
  unfold fn_BT_declare_J70
  refine ah_iload C d_BT_declare_70 rfl ?_
  refine ah_if_ne (tgt := 89) C d_BT_declare_72 rfl (fun _ => ?_) (fun _ => ?_)
  · refine ah_mask [true, true, true, true, true, true] (lv' := [some (va_rf (some t)), some (.int v1), some (.int v2), some (va_rf v3), some (.int v4), some (.int v5)]) rfl ?_
    exact ok_BT_declare_J89 C hr hlk t v1 v2 v3 v4 v5
  · refine ah_sipush (v := -1000) C d_BT_declare_75 rfl ?_
    refine ah_aload_n C d_BT_declare_78 rfl ?_
    refine ah_getR (ci := 10) (k := 7) C rfl (by decide) rfl (Or.inl we145) d_BT_declare_79 (fun x79 => ?_)
    refine ah_aload_n C d_BT_declare_82 rfl ?_
    exact ah_Sno
set_option maxRecDepth 100000 in
set_option maxHeartbeats 4000000 in
theorem ok_BT_declare (E : ahE) (l : Launch) (t : Nat) : ah_met E l y_BT_declare prog_1_method_3_code 6 (some .int) 6 130 rv_I [.ref t] (fn_BT_declare t) := by
  refine ah_met_of (by decide +kernel) (ah_c1_all ⟨rfl, trivial⟩) (Nat.le_of_ble_eq_true rfl) (lv := [some (va_rf (some t)), none, none, none, none, none]) rfl (fun X C hl hr hlk hnm => ?_)
  subst hl
  unfold fn_BT_declare
  refine ah_aload_n C d_BT_declare_0 rfl ?_
  refine ah_getR (ci := 10) (k := 2) C rfl (by decide) rfl (Or.inl we110) d_BT_declare_1 (fun x1 => ?_)
  refine ah_getI (ci := 0) (k := 6) C rfl (by decide) rfl (Or.inr ⟨_, we242⟩) d_BT_declare_4 (fun x4 => ?_)
  refine ah_istore_n (lv' := [some (va_rf (some t)), some (.int x4), none, none, none, none]) C d_BT_declare_7 (Nat.le_of_ble_eq_true rfl) rfl ?_
  refine ah_aload_n C d_BT_declare_8 rfl ?_
  refine ah_getR (ci := 10) (k := 3) C rfl (by decide) rfl (Or.inl we117) d_BT_declare_9 (fun x9 => ?_)
  refine ah_getI (ci := 1) (k := 4) C rfl (by decide) rfl (Or.inr ⟨_, we243⟩) d_BT_declare_12 (fun x12 => ?_)
  refine ah_istore_n (lv' := [some (va_rf (some t)), some (.int x4), some (.int x12), none, none, none]) C d_BT_declare_15 (Nat.le_of_ble_eq_true rfl) rfl ?_
  refine ah_aload_n C d_BT_declare_16 rfl ?_
  refine ah_getR (ci := 10) (k := 5) C rfl (by decide) rfl (Or.inl we131) d_BT_declare_17 (fun x17 => ?_)
  refine ah_aload_n C d_BT_declare_20 rfl ?_
  refine ah_getI (ci := 10) (k := 1) C rfl (by decide) rfl (Or.inl we157) d_BT_declare_21 (fun x21 => ?_)
  refine ah_callVR (ci := 6) (As := [.int x21]) (rest := []) C (fun b => ok_Reader_readDeclaration E _ b x21) rfl (Or.inl we245) we246 we247 we127 we244 hy_Reader_readDeclaration (by omega) (by omega) rfl rfl (ah_rs trivial (Nat.le_of_ble_eq_true rfl)) d_BT_declare_24 (fun x24 => ?_)
  refine ah_astore_n (lv' := [some (va_rf (some t)), some (.int x4), some (.int x12), some (va_rf x24), none, none]) C d_BT_declare_27 (Nat.le_of_ble_eq_true rfl) rfl ?_
  refine ah_aload_n C d_BT_declare_28 rfl ?_
  refine ah_iconst (v := 0) C d_BT_declare_29 rfl ?_
  refine ah_putI (ci := 10) (k := 1) C rfl (by decide) rfl (Or.inl we157) (Or.inl rfl) rfl rfl d_BT_declare_30 ?_
  refine ah_aload_n C d_BT_declare_33 rfl ?_
  refine ah_getR (ci := 10) (k := 2) C rfl (by decide) rfl (Or.inl we110) d_BT_declare_34 (fun x34 => ?_)
  refine ah_getI (ci := 0) (k := 6) C rfl (by decide) rfl (Or.inr ⟨_, we242⟩) d_BT_declare_37 (fun x37 => ?_)
  refine ah_istore (lv' := [some (va_rf (some t)), some (.int x4), some (.int x12), some (va_rf x24), some (.int x37), none]) C d_BT_declare_40 (Nat.le_of_ble_eq_true rfl) rfl ?_
  refine ah_aload_n C d_BT_declare_42 rfl ?_
  refine ah_getR (ci := 10) (k := 5) C rfl (by decide) rfl (Or.inl we131) d_BT_declare_43 (fun x43 => ?_)
  refine ah_callVI (ci := 6) (As := []) (rest := []) C (fun b => ok_Reader_answerIfFaulty E _ b) rfl (Or.inl we249) we250 we251 we127 we248 hy_Reader_answerIfFaulty (by omega) (by omega) rfl rfl (ah_rs trivial (Nat.le_of_ble_eq_true rfl)) d_BT_declare_46 (fun x46 => ?_)
  refine ah_istore (lv' := [some (va_rf (some t)), some (.int x4), some (.int x12), some (va_rf x24), some (.int x37), some (.int x46)]) C d_BT_declare_49 (Nat.le_of_ble_eq_true rfl) rfl ?_
  refine ah_iload C d_BT_declare_51 rfl ?_
  refine ah_if_ne (tgt := 70) C d_BT_declare_53 rfl (fun _ => ?_) (fun _ => ?_)
  · refine ah_mask [true, true, true, true, true, true] (lv' := [some (va_rf (some t)), some (.int x4), some (.int x12), some (va_rf x24), some (.int x37), some (.int x46)]) rfl ?_
    exact ok_BT_declare_J70 C hr hlk t x4 x12 x24 x37 x46
  · refine ah_sipush (v := -1000) C d_BT_declare_56 rfl ?_
    refine ah_aload_n C d_BT_declare_59 rfl ?_
    refine ah_getR (ci := 10) (k := 7) C rfl (by decide) rfl (Or.inl we145) d_BT_declare_60 (fun x60 => ?_)
    refine ah_aload_n C d_BT_declare_63 rfl ?_
    exact ah_Sno
set_option maxRecDepth 100000 in
set_option maxHeartbeats 4000000 in
theorem ok_Reader_isAtCast (E : ahE) (l : Launch) (t : Nat) : ah_met E l y_Reader_isAtCast prog_9_method_18_code 1 (some .boolean) 0 0 rv_I [.ref t] (fn_Reader_isAtCast t) := by
  refine ah_met_of (by decide +kernel) (ah_c1_all ⟨rfl, trivial⟩) (Nat.le_of_ble_eq_true rfl) (lv := [some (va_rf (some t))]) rfl (fun X C hl hr hlk hnm => ?_)
  subst hl
  unfold fn_Reader_isAtCast
  refine ah_aload_n C d_Reader_isAtCast_0 rfl ?_
  refine ah_getR (ci := 6) (k := 3) C rfl (by decide) rfl (Or.inl we77) d_Reader_isAtCast_1 (fun x1 => ?_)
  refine ah_aload_n C d_Reader_isAtCast_4 rfl ?_
  refine ah_getI (ci := 6) (k := 5) C rfl (by decide) rfl (Or.inl we162) d_Reader_isAtCast_5 (fun x5 => ?_)
  refine ah_caload (j := 1) C (by decide) rfl rfl d_Reader_isAtCast_8 (fun x8 => ?_)
  refine ah_bipush (v := 40) C d_Reader_isAtCast_9 rfl ?_
  refine ah_icmp_ne (tgt := 50) C d_Reader_isAtCast_11 rfl (fun _ => ?_) (fun _ => ?_)
  · refine ah_iconst (v := 0) C d_Reader_isAtCast_50 rfl ?_
    exact ah_zret C hr hlk d_Reader_isAtCast_51
  · refine ah_aload_n C d_Reader_isAtCast_14 rfl ?_
    refine ah_getR (ci := 6) (k := 3) C rfl (by decide) rfl (Or.inl we77) d_Reader_isAtCast_15 (fun x15 => ?_)
    refine ah_aload_n C d_Reader_isAtCast_18 rfl ?_
    refine ah_getI (ci := 6) (k := 5) C rfl (by decide) rfl (Or.inl we162) d_Reader_isAtCast_19 (fun x19 => ?_)
    refine ah_iconst (v := 1) C d_Reader_isAtCast_22 rfl ?_
    refine ah_iadd C d_Reader_isAtCast_23 ?_
    refine ah_caload (j := 1) C (by decide) rfl rfl d_Reader_isAtCast_24 (fun x24 => ?_)
    refine ah_bipush (v := 65) C d_Reader_isAtCast_25 rfl ?_
    refine ah_icmp_lt (tgt := 50) C d_Reader_isAtCast_27 rfl (fun _ => ?_) (fun _ => ?_)
    · refine ah_iconst (v := 0) C d_Reader_isAtCast_50 rfl ?_
      exact ah_zret C hr hlk d_Reader_isAtCast_51
    · refine ah_aload_n C d_Reader_isAtCast_30 rfl ?_
      refine ah_getR (ci := 6) (k := 3) C rfl (by decide) rfl (Or.inl we77) d_Reader_isAtCast_31 (fun x31 => ?_)
      refine ah_aload_n C d_Reader_isAtCast_34 rfl ?_
      refine ah_getI (ci := 6) (k := 5) C rfl (by decide) rfl (Or.inl we162) d_Reader_isAtCast_35 (fun x35 => ?_)
      refine ah_iconst (v := 1) C d_Reader_isAtCast_38 rfl ?_
      refine ah_iadd C d_Reader_isAtCast_39 ?_
      refine ah_caload (j := 1) C (by decide) rfl rfl d_Reader_isAtCast_40 (fun x40 => ?_)
      refine ah_bipush (v := 72) C d_Reader_isAtCast_41 rfl ?_
      refine ah_icmp_gt (tgt := 50) C d_Reader_isAtCast_43 rfl (fun _ => ?_) (fun _ => ?_)
      · refine ah_iconst (v := 0) C d_Reader_isAtCast_50 rfl ?_
        exact ah_zret C hr hlk d_Reader_isAtCast_51
      · refine ah_iconst (v := 1) C d_Reader_isAtCast_46 rfl ?_
        refine ah_goto (tgt := 51) C d_Reader_isAtCast_47 rfl ?_
        exact ah_zret C hr hlk d_Reader_isAtCast_51
set_option maxRecDepth 100000 in
set_option maxHeartbeats 4000000 in
theorem ok_Code_add (E : ahE) (l : Launch) (t : Nat) (v1 : Int32) (v2 : Int32) (v3 : Int32) (v4 : Int32) : ah_met E l y_Code_add prog_3_method_2_code 5 (some .int) 0 0 rv_I [.ref t, .int v1, .int v2, .int v3, .int v4] (fn_Code_add t v1 v2 v3 v4) := by
  refine ah_met_of (by decide +kernel) (ah_c1_all ⟨rfl, rfl, rfl, rfl, rfl, trivial⟩) (Nat.le_of_ble_eq_true rfl) (lv := [some (va_rf (some t)), some (.int v1), some (.int v2), some (.int v3), some (.int v4)]) rfl (fun X C hl hr hlk hnm => ?_)
  subst hl
  unfold fn_Code_add
  refine ah_aload_n C d_Code_add_0 rfl ?_
  refine ah_getI (ci := 1) (k := 4) C rfl (by decide) rfl (Or.inl we227) d_Code_add_1 (fun x1 => ?_)
  refine ah_sipush (v := 1120) C d_Code_add_4 rfl ?_
  refine ah_icmp_lt (tgt := 12) C d_Code_add_7 rfl (fun _ => ?_) (fun _ => ?_)
  · refine ah_aload_n C d_Code_add_12 rfl ?_
    refine ah_getR (ci := 1) (k := 0) C rfl (by decide) rfl (Or.inl we20) d_Code_add_13 (fun x13 => ?_)
    refine ah_aload_n C d_Code_add_16 rfl ?_
    refine ah_getI (ci := 1) (k := 4) C rfl (by decide) rfl (Or.inl we227) d_Code_add_17 (fun x17 => ?_)
    refine ah_iload_n C d_Code_add_20 rfl ?_
    refine ah_iastore C rfl rfl d_Code_add_21 ?_
    refine ah_aload_n C d_Code_add_22 rfl ?_
    refine ah_getR (ci := 1) (k := 1) C rfl (by decide) rfl (Or.inl we21) d_Code_add_23 (fun x23 => ?_)
    refine ah_aload_n C d_Code_add_26 rfl ?_
    refine ah_getI (ci := 1) (k := 4) C rfl (by decide) rfl (Or.inl we227) d_Code_add_27 (fun x27 => ?_)
    refine ah_iload_n C d_Code_add_30 rfl ?_
    refine ah_iastore C rfl rfl d_Code_add_31 ?_
    refine ah_aload_n C d_Code_add_32 rfl ?_
    refine ah_getR (ci := 1) (k := 2) C rfl (by decide) rfl (Or.inl we22) d_Code_add_33 (fun x33 => ?_)
    refine ah_aload_n C d_Code_add_36 rfl ?_
    refine ah_getI (ci := 1) (k := 4) C rfl (by decide) rfl (Or.inl we227) d_Code_add_37 (fun x37 => ?_)
    refine ah_iload_n C d_Code_add_40 rfl ?_
    refine ah_iastore C rfl rfl d_Code_add_41 ?_
    refine ah_aload_n C d_Code_add_42 rfl ?_
    refine ah_getR (ci := 1) (k := 3) C rfl (by decide) rfl (Or.inl we23) d_Code_add_43 (fun x43 => ?_)
    refine ah_aload_n C d_Code_add_46 rfl ?_
    refine ah_getI (ci := 1) (k := 4) C rfl (by decide) rfl (Or.inl we227) d_Code_add_47 (fun x47 => ?_)
    refine ah_iload C d_Code_add_50 rfl ?_
    refine ah_iastore C rfl rfl d_Code_add_52 ?_
    refine ah_aload_n C d_Code_add_53 rfl ?_
    refine ah_dup C d_Code_add_54 (ah_rf_cat _) ?_
    refine ah_getI (ci := 1) (k := 4) C rfl (by decide) rfl (Or.inl we227) d_Code_add_55 (fun x55 => ?_)
    refine ah_iconst (v := 1) C d_Code_add_58 rfl ?_
    refine ah_iadd C d_Code_add_59 ?_
    refine ah_putI (ci := 1) (k := 4) C rfl (by decide) rfl (Or.inl we227) (Or.inl rfl) rfl rfl d_Code_add_60 ?_
    refine ah_aload_n C d_Code_add_63 rfl ?_
    refine ah_getI (ci := 1) (k := 4) C rfl (by decide) rfl (Or.inl we227) d_Code_add_64 (fun x64 => ?_)
    refine ah_iconst (v := 1) C d_Code_add_67 rfl ?_
    refine ah_isub C d_Code_add_68 ?_
    exact ah_iret C hr hlk rfl d_Code_add_69
  · refine ah_iconst (v := -1) C d_Code_add_10 rfl ?_
    exact ah_iret C hr hlk rfl d_Code_add_11
set_option maxRecDepth 100000 in
set_option maxHeartbeats 4000000 in
theorem ok_Reader_slotOf (E : ahE) (l : Launch) (t : Nat) (v1 : Int32) : ah_met E l y_Reader_slotOf prog_9_method_22_code 3 (some .int) 0 0 rv_I [.ref t, .int v1] (fn_Reader_slotOf t v1) := by
  refine ah_met_of (by decide +kernel) (ah_c1_all ⟨rfl, rfl, trivial⟩) (Nat.le_of_ble_eq_true rfl) (lv := [some (va_rf (some t)), some (.int v1), none]) rfl (fun X C hl hr hlk hnm => ?_)
  subst hl
  unfold fn_Reader_slotOf
  refine ah_aload_n C d_Reader_slotOf_0 rfl ?_
  refine ah_getR (ci := 6) (k := 9) C rfl (by decide) rfl (Or.inl we165) d_Reader_slotOf_1 (fun x1 => ?_)
  refine ah_ifnonnull (tgt := 9) C d_Reader_slotOf_4 rfl (fun _ => ?_) (fun _ => ?_)
  · refine ah_aload_n C d_Reader_slotOf_9 rfl ?_
    refine ah_getR (ci := 6) (k := 9) C rfl (by decide) rfl (Or.inl we165) d_Reader_slotOf_10 (fun x10 => ?_)
    refine ah_iload_n C d_Reader_slotOf_13 rfl ?_
    exact ah_Sno
  · refine ah_iconst (v := -1) C d_Reader_slotOf_7 rfl ?_
    exact ah_iret C hr hlk rfl d_Reader_slotOf_8
set_option maxRecDepth 100000 in
set_option maxHeartbeats 4000000 in
theorem ok_Reader_base (E : ahE) (l : Launch) (t : Nat) : ah_met E l y_Reader_base prog_9_method_19_code 4 none 2 51 rv_V [.ref t] (fn_Reader_base t) := by
  refine ah_met_of (by decide +kernel) (ah_c1_all ⟨rfl, trivial⟩) (Nat.le_of_ble_eq_true rfl) (lv := [some (va_rf (some t)), none, none, none]) rfl (fun X C hl hr hlk hnm => ?_)
  subst hl
  unfold fn_Reader_base
  refine ah_aload_n C d_Reader_base_0 rfl ?_
  refine ah_getR (ci := 6) (k := 3) C rfl (by decide) rfl (Or.inl we77) d_Reader_base_1 (fun x1 => ?_)
  refine ah_aload_n C d_Reader_base_4 rfl ?_
  refine ah_getI (ci := 6) (k := 5) C rfl (by decide) rfl (Or.inl we162) d_Reader_base_5 (fun x5 => ?_)
  refine ah_caload (j := 1) C (by decide) rfl rfl d_Reader_base_8 (fun x8 => ?_)
  refine ah_bipush (v := 40) C d_Reader_base_9 rfl ?_
  refine ah_icmp_ne (tgt := 33) C d_Reader_base_11 rfl (fun _ => ?_) (fun _ => ?_)
  · refine ah_aload_n C d_Reader_base_33 rfl ?_
    refine ah_getR (ci := 6) (k := 3) C rfl (by decide) rfl (Or.inl we77) d_Reader_base_34 (fun x34 => ?_)
    refine ah_aload_n C d_Reader_base_37 rfl ?_
    refine ah_getI (ci := 6) (k := 5) C rfl (by decide) rfl (Or.inl we162) d_Reader_base_38 (fun x38 => ?_)
    refine ah_caload (j := 1) C (by decide) rfl rfl d_Reader_base_41 (fun x41 => ?_)
    refine ah_bipush (v := 42) C d_Reader_base_42 rfl ?_
    refine ah_icmp_ne (tgt := 111) C d_Reader_base_44 rfl (fun _ => ?_) (fun _ => ?_)
    · refine ah_aload_n C d_Reader_base_111 rfl ?_
      refine ah_getR (ci := 6) (k := 2) C rfl (by decide) rfl (Or.inl we82) d_Reader_base_112 (fun x112 => ?_)
      refine ah_iconst (v := 0) C d_Reader_base_115 rfl ?_
      refine ah_aload_n C d_Reader_base_116 rfl ?_
      refine ah_aload_n C d_Reader_base_117 rfl ?_
      refine ah_bipush (v := 97) C d_Reader_base_118 rfl ?_
      refine ah_bipush (v := 122) C d_Reader_base_120 rfl ?_
      refine ah_callVI (ci := 6) (As := [.int (97 : Int32), .int (122 : Int32)]) (rest := [va_rf (some t), .int (0 : Int32), va_rf x112]) C (fun b => ok_Reader_takeLetter E _ b (97 : Int32) (122 : Int32)) rfl (Or.inl we171) we172 we173 we127 we170 hy_Reader_takeLetter (by omega) (by omega) rfl rfl (ah_rs ⟨(ah_rf_cat _), rfl, (ah_rf_cat _), trivial⟩ (Nat.le_of_ble_eq_true rfl)) d_Reader_base_122 (fun x122 => ?_)
      refine ah_callVI (ci := 6) (As := [.int x122]) (rest := [.int (0 : Int32), va_rf x112]) C (fun b => ok_Reader_slotOf E _ b x122) rfl (Or.inl we253) we254 we255 we127 we252 hy_Reader_slotOf (by omega) (by omega) rfl rfl (ah_rs ⟨rfl, (ah_rf_cat _), trivial⟩ (Nat.le_of_ble_eq_true rfl)) d_Reader_base_125 (fun x125 => ?_)
      refine ah_iconst (v := 0) C d_Reader_base_128 rfl ?_
      refine ah_iconst (v := -1) C d_Reader_base_129 rfl ?_
      refine ah_callVI (ci := 1) (As := [.int (0 : Int32), .int x125, .int (0 : Int32), .int (-1 : Int32)]) (rest := []) C (fun b => ok_Code_add E _ b (0 : Int32) x125 (0 : Int32) (-1 : Int32)) rfl (Or.inl we257) we258 we259 we113 we256 hy_Code_add (by omega) (by omega) rfl rfl (ah_rs trivial (Nat.le_of_ble_eq_true rfl)) d_Reader_base_130 (fun x130 => ?_)
      refine ah_pop C d_Reader_base_133 rfl ?_
      exact ah_vret C hr hlk d_Reader_base_134
    · refine ah_aload_n C d_Reader_base_47 rfl ?_
      refine ah_dup C d_Reader_base_48 (ah_rf_cat _) ?_
      refine ah_getI (ci := 6) (k := 5) C rfl (by decide) rfl (Or.inl we162) d_Reader_base_49 (fun x49 => ?_)
      refine ah_iconst (v := 1) C d_Reader_base_52 rfl ?_
      refine ah_iadd C d_Reader_base_53 ?_
      refine ah_putI (ci := 6) (k := 5) C rfl (by decide) rfl (Or.inl we162) (Or.inl rfl) rfl rfl d_Reader_base_54 ?_
      refine ah_aload_n C d_Reader_base_57 rfl ?_
      refine ah_iconst (v := 0) C d_Reader_base_58 rfl ?_
      refine ah_callVI (ci := 6) (As := [.int (0 : Int32)]) (rest := []) C (fun b => ok_Reader_readType E _ b (0 : Int32)) rfl (Or.inl we187) we188 we189 we127 we186 hy_Reader_readType (by omega) (by omega) rfl rfl (ah_rs trivial (Nat.le_of_ble_eq_true rfl)) d_Reader_base_59 (fun x59 => ?_)
      refine ah_istore_n (lv' := [some (va_rf (some t)), some (.int x59), none, none]) C d_Reader_base_62 (Nat.le_of_ble_eq_true rfl) rfl ?_
      refine ah_aload_n C d_Reader_base_63 rfl ?_
      refine ah_getR (ci := 6) (k := 2) C rfl (by decide) rfl (Or.inl we82) d_Reader_base_64 (fun x64 => ?_)
      refine ah_iconst (v := 4) C d_Reader_base_67 rfl ?_
      refine ah_iload_n C d_Reader_base_68 rfl ?_
      refine ah_iconst (v := 0) C d_Reader_base_69 rfl ?_
      refine ah_iconst (v := -1) C d_Reader_base_70 rfl ?_
      refine ah_callVI (ci := 1) (As := [.int (4 : Int32), .int x59, .int (0 : Int32), .int (-1 : Int32)]) (rest := []) C (fun b => ok_Code_add E _ b (4 : Int32) x59 (0 : Int32) (-1 : Int32)) rfl (Or.inl we257) we258 we259 we113 we256 hy_Code_add (by omega) (by omega) rfl rfl (ah_rs trivial (Nat.le_of_ble_eq_true rfl)) d_Reader_base_71 (fun x71 => ?_)
      refine ah_istore_n (lv' := [some (va_rf (some t)), some (.int x59), some (.int x71), none]) C d_Reader_base_74 (Nat.le_of_ble_eq_true rfl) rfl ?_
      refine ah_aload_n C d_Reader_base_75 rfl ?_
      exact ah_Sno
  · refine ah_aload_n C d_Reader_base_14 rfl ?_
    refine ah_bipush (v := 40) C d_Reader_base_15 rfl ?_
    refine ah_callVV (ci := 6) (As := [.int (40 : Int32)]) (rest := []) C (fun b => ok_Reader_open E _ b (40 : Int32)) rfl (Or.inl we191) we192 we193 we127 we190 hy_Reader_open (by omega) (by omega) rfl rfl (ah_rs trivial (Nat.le_of_ble_eq_true rfl)) d_Reader_base_17 ?_
    refine ah_aload_n C d_Reader_base_20 rfl ?_
    exact ah_Sno
set_option maxRecDepth 100000 in
set_option maxHeartbeats 4000000 in
theorem ok_Reader_expression_B117 {E : ahE} {X : ahX} (C : ah_Cx E X prog_9_method_17_code 3 "BoundedTypes$Reader" 3 74) (hr : (ax_M X).sig.returnType = none) (hlk : (ax_M X).locks = false) (t : Nat) (v1 : Int32) : ∀ (n : Nat) (v2 : Int32), ah_S E X (ah_Q E X rv_V) 117 [some (va_rf (some t)), some (.int v1), some (.int v2)] [] (ah_lp (fn_Reader_expression_B117 t v1) n v2) := by
  intro n
  induction n with
  | zero => intro v2 h r n u c hs; cases hs
  | succ n hk117 =>
    intro v2
    show ah_S E X (ah_Q E X rv_V) 117 _ _ (fn_Reader_expression_B117 t v1 (ah_lp (fn_Reader_expression_B117 t v1) n) v2)
    generalize ah_lp (fn_Reader_expression_B117 t v1) n = k117 at hk117 ⊢
    rw [fn_Reader_expression_B117]
    refine ah_iload_n C d_Reader_expression_117 rfl ?_
    refine ah_iload_n C d_Reader_expression_118 rfl ?_
    refine ah_icmp_lt (tgt := 146) C d_Reader_expression_119 rfl (fun _ => ?_) (fun _ => ?_)
    · refine ah_aload_n C d_Reader_expression_146 rfl ?_
      refine ah_iload_n C d_Reader_expression_147 rfl ?_
      refine ah_putI (ci := 6) (k := 8) C rfl (by decide) rfl (Or.inl we164) (Or.inl rfl) rfl rfl d_Reader_expression_148 ?_
      exact ah_vret C hr hlk d_Reader_expression_151
    · refine ah_aload_n C d_Reader_expression_122 rfl ?_
      refine ah_getR (ci := 6) (k := 2) C rfl (by decide) rfl (Or.inl we82) d_Reader_expression_123 (fun x123 => ?_)
      refine ah_bipush (v := 7) C d_Reader_expression_126 rfl ?_
      refine ah_aload_n C d_Reader_expression_128 rfl ?_
      refine ah_getR (ci := 6) (k := 7) C rfl (by decide) rfl (Or.inl we79) d_Reader_expression_129 (fun x129 => ?_)
      refine ah_iload_n C d_Reader_expression_132 rfl ?_
      refine ah_iaload C rfl rfl d_Reader_expression_133 (fun x133 => ?_)
      refine ah_iconst (v := 0) C d_Reader_expression_134 rfl ?_
      refine ah_iconst (v := -1) C d_Reader_expression_135 rfl ?_
      refine ah_callVI (ci := 1) (As := [.int (7 : Int32), .int x133, .int (0 : Int32), .int (-1 : Int32)]) (rest := []) C (fun b => ok_Code_add E _ b (7 : Int32) x133 (0 : Int32) (-1 : Int32)) rfl (Or.inl we257) we258 we259 we113 we256 hy_Code_add (by omega) (by omega) rfl rfl (ah_rs trivial (Nat.le_of_ble_eq_true rfl)) d_Reader_expression_136 (fun x136 => ?_)
      refine ah_pop C d_Reader_expression_139 rfl ?_
      refine ah_iinc (lv' := [some (va_rf (some t)), some (.int v1), some (.int (v2 + (-1 : Int32)))]) C d_Reader_expression_140 rfl rfl rfl ?_
      refine ah_goto (tgt := 117) C d_Reader_expression_143 rfl ?_
      refine ah_mask [true, true, true] (lv' := [some (va_rf (some t)), some (.int v1), some (.int (v2 + (-1 : Int32)))]) rfl ?_
      exact hk117 (v2 + (-1 : Int32))
set_option maxRecDepth 100000 in
set_option maxHeartbeats 4000000 in
theorem ok_Reader_expression_J110 {E : ahE} {X : ahX} (C : ah_Cx E X prog_9_method_17_code 3 "BoundedTypes$Reader" 3 74) (hr : (ax_M X).sig.returnType = none) (hlk : (ax_M X).locks = false) (t : Nat) (v1 : Int32) : ah_S E X (ah_Q E X rv_V) 110 [some (va_rf (some t)), some (.int v1), none] [] (fn_Reader_expression_J110 t v1) := by
  unfold fn_Reader_expression_J110
  refine ah_aload_n C d_Reader_expression_110 rfl ?_
  refine ah_getI (ci := 6) (k := 8) C rfl (by decide) rfl (Or.inl we164) d_Reader_expression_111 (fun x111 => ?_)
  refine ah_iconst (v := 1) C d_Reader_expression_114 rfl ?_
  refine ah_isub C d_Reader_expression_115 ?_
  refine ah_istore_n (lv' := [some (va_rf (some t)), some (.int v1), some (.int (x111 - (1 : Int32)))]) C d_Reader_expression_116 (Nat.le_of_ble_eq_true rfl) rfl ?_
  refine ah_mask [true, true, true] (lv' := [some (va_rf (some t)), some (.int v1), some (.int (x111 - (1 : Int32)))]) rfl ?_
  exact ok_Reader_expression_B117 C hr hlk t v1 FU (x111 - (1 : Int32))
set_option maxRecDepth 100000 in
set_option maxHeartbeats 4000000 in
theorem ok_Reader_expression_B79 {E : ahE} {X : ahX} (C : ah_Cx E X prog_9_method_17_code 3 "BoundedTypes$Reader" 3 74) (hr : (ax_M X).sig.returnType = none) (hlk : (ax_M X).locks = false) (t : Nat) (v1 : Int32) : ∀ (n : Nat) (v2 : Int32), ah_S E X (ah_Q E X rv_V) 79 [some (va_rf (some t)), some (.int v1), some (.int v2)] [] (ah_lp (fn_Reader_expression_B79 t v1) n v2) := by
  intro n
  induction n with
  | zero => intro v2 h r n u c hs; cases hs
  | succ n hk79 =>
    intro v2
    show ah_S E X (ah_Q E X rv_V) 79 _ _ (fn_Reader_expression_B79 t v1 (ah_lp (fn_Reader_expression_B79 t v1) n) v2)
    generalize ah_lp (fn_Reader_expression_B79 t v1) n = k79 at hk79 ⊢
    rw [fn_Reader_expression_B79]
    refine ah_iload_n C d_Reader_expression_79 rfl ?_
    refine ah_sipush (v := 140) C d_Reader_expression_80 rfl ?_
    refine ah_icmp_ge (tgt := 110) C d_Reader_expression_83 rfl (fun _ => ?_) (fun _ => ?_)
    · refine ah_mask [true, true, false] (lv' := [some (va_rf (some t)), some (.int v1), none]) rfl ?_
      exact ok_Reader_expression_J110 C hr hlk t v1
    · refine ah_aload_n C d_Reader_expression_86 rfl ?_
      refine ah_getR (ci := 6) (k := 3) C rfl (by decide) rfl (Or.inl we77) d_Reader_expression_87 (fun x87 => ?_)
      refine ah_aload_n C d_Reader_expression_90 rfl ?_
      refine ah_getI (ci := 6) (k := 5) C rfl (by decide) rfl (Or.inl we162) d_Reader_expression_91 (fun x91 => ?_)
      refine ah_caload (j := 1) C (by decide) rfl rfl d_Reader_expression_94 (fun x94 => ?_)
      refine ah_bipush (v := 46) C d_Reader_expression_95 rfl ?_
      refine ah_icmp_ne (tgt := 110) C d_Reader_expression_97 rfl (fun _ => ?_) (fun _ => ?_)
      · refine ah_mask [true, true, false] (lv' := [some (va_rf (some t)), some (.int v1), none]) rfl ?_
        exact ok_Reader_expression_J110 C hr hlk t v1
      · refine ah_aload_n C d_Reader_expression_100 rfl ?_
        exact ah_Sno
set_option maxRecDepth 100000 in
set_option maxHeartbeats 4000000 in
theorem ok_Reader_expression_J73 {E : ahE} {X : ahX} (C : ah_Cx E X prog_9_method_17_code 3 "BoundedTypes$Reader" 3 74) (hr : (ax_M X).sig.returnType = none) (hlk : (ax_M X).locks = false) (t : Nat) (v1 : Int32) : ah_S E X (ah_Q E X rv_V) 73 [some (va_rf (some t)), some (.int v1), none] [] (fn_Reader_expression_J73 t v1) := by
  unfold fn_Reader_expression_J73
  refine ah_aload_n C d_Reader_expression_73 rfl ?_
  refine ah_callVV (ci := 6) (As := []) (rest := []) C (fun b => ok_Reader_base E _ b) rfl (Or.inl we261) we262 we263 we127 we260 hy_Reader_base (by omega) (by omega) rfl rfl (ah_rs trivial (Nat.le_of_ble_eq_true rfl)) d_Reader_expression_74 ?_
  refine ah_iconst (v := 0) C d_Reader_expression_77 rfl ?_
  refine ah_istore_n (lv' := [some (va_rf (some t)), some (.int v1), some (.int (0 : Int32))]) C d_Reader_expression_78 (Nat.le_of_ble_eq_true rfl) rfl ?_
  refine ah_mask [true, true, true] (lv' := [some (va_rf (some t)), some (.int v1), some (.int (0 : Int32))]) rfl ?_
  exact ok_Reader_expression_B79 C hr hlk t v1 FU (0 : Int32)
set_option maxRecDepth 100000 in
set_option maxHeartbeats 4000000 in
theorem ok_Reader_expression_B7 {E : ahE} {X : ahX} (C : ah_Cx E X prog_9_method_17_code 3 "BoundedTypes$Reader" 3 74) (hr : (ax_M X).sig.returnType = none) (hlk : (ax_M X).locks = false) (t : Nat) (v1 : Int32) : ∀ (n : Nat) (v2 : Int32), ah_S E X (ah_Q E X rv_V) 7 [some (va_rf (some t)), some (.int v1), some (.int v2)] [] (ah_lp (fn_Reader_expression_B7 t v1) n v2) := by
  intro n
  induction n with
  | zero => intro v2 h r n u c hs; cases hs
  | succ n hk7 =>
    intro v2
    show ah_S E X (ah_Q E X rv_V) 7 _ _ (fn_Reader_expression_B7 t v1 (ah_lp (fn_Reader_expression_B7 t v1) n) v2)
    generalize ah_lp (fn_Reader_expression_B7 t v1) n = k7 at hk7 ⊢
    rw [fn_Reader_expression_B7]
    refine ah_iload_n C d_Reader_expression_7 rfl ?_
    refine ah_sipush (v := 140) C d_Reader_expression_8 rfl ?_
    refine ah_icmp_ge (tgt := 73) C d_Reader_expression_11 rfl (fun _ => ?_) (fun _ => ?_)
    · refine ah_mask [true, true, false] (lv' := [some (va_rf (some t)), some (.int v1), none]) rfl ?_
      exact ok_Reader_expression_J73 C hr hlk t v1
    · refine ah_aload_n C d_Reader_expression_14 rfl ?_
      refine ah_callVI (ci := 6) (As := []) (rest := []) C (fun b => ok_Reader_isAtCast E _ b) rfl (Or.inl we265) we266 we267 we127 we264 hy_Reader_isAtCast (by omega) (by omega) rfl rfl (ah_rs trivial (Nat.le_of_ble_eq_true rfl)) d_Reader_expression_15 (fun x15 => ?_)
      refine ah_if_eq (tgt := 73) C d_Reader_expression_18 rfl (fun _ => ?_) (fun _ => ?_)
      · refine ah_mask [true, true, false] (lv' := [some (va_rf (some t)), some (.int v1), none]) rfl ?_
        exact ok_Reader_expression_J73 C hr hlk t v1
      · refine ah_aload_n C d_Reader_expression_21 rfl ?_
        refine ah_getI (ci := 6) (k := 8) C rfl (by decide) rfl (Or.inl we164) d_Reader_expression_22 (fun x22 => ?_)
        refine ah_sipush (v := 140) C d_Reader_expression_25 rfl ?_
        refine ah_icmp_ge (tgt := 73) C d_Reader_expression_28 rfl (fun _ => ?_) (fun _ => ?_)
        · refine ah_mask [true, true, false] (lv' := [some (va_rf (some t)), some (.int v1), none]) rfl ?_
          exact ok_Reader_expression_J73 C hr hlk t v1
        · refine ah_aload_n C d_Reader_expression_31 rfl ?_
          refine ah_bipush (v := 40) C d_Reader_expression_32 rfl ?_
          exact ah_Sno
set_option maxRecDepth 100000 in
set_option maxHeartbeats 4000000 in
theorem ok_Reader_expression (E : ahE) (l : Launch) (t : Nat) : ah_met E l y_Reader_expression prog_9_method_17_code 3 none 3 74 rv_V [.ref t] (fn_Reader_expression t) := by
  refine ah_met_of (by decide +kernel) (ah_c1_all ⟨rfl, trivial⟩) (Nat.le_of_ble_eq_true rfl) (lv := [some (va_rf (some t)), none, none]) rfl (fun X C hl hr hlk hnm => ?_)
  subst hl
  unfold fn_Reader_expression
  refine ah_aload_n C d_Reader_expression_0 rfl ?_
  refine ah_getI (ci := 6) (k := 8) C rfl (by decide) rfl (Or.inl we164) d_Reader_expression_1 (fun x1 => ?_)
  refine ah_istore_n (lv' := [some (va_rf (some t)), some (.int x1), none]) C d_Reader_expression_4 (Nat.le_of_ble_eq_true rfl) rfl ?_
  refine ah_iconst (v := 0) C d_Reader_expression_5 rfl ?_
  refine ah_istore_n (lv' := [some (va_rf (some t)), some (.int x1), some (.int (0 : Int32))]) C d_Reader_expression_6 (Nat.le_of_ble_eq_true rfl) rfl ?_
  refine ah_mask [true, true, true] (lv' := [some (va_rf (some t)), some (.int x1), some (.int (0 : Int32))]) rfl ?_
  exact ok_Reader_expression_B7 C hr hlk t x1 FU (0 : Int32)
set_option maxRecDepth 100000 in
set_option maxHeartbeats 4000000 in
theorem ok_Entry_methodNamed (E : ahE) (l : Launch) (t : Nat) (v1 : Int32) : ah_met E l y_Entry_methodNamed prog_5_method_5_code 2 (some (.object "BoundedTypes$Member")) 0 0 rv_R [.ref t, .int v1] (fn_Entry_methodNamed t v1) := by
  refine ah_met_of (by decide +kernel) (ah_c1_all ⟨rfl, rfl, trivial⟩) (Nat.le_of_ble_eq_true rfl) (lv := [some (va_rf (some t)), some (.int v1)]) rfl (fun X C hl hr hlk hnm => ?_)
  subst hl
  unfold fn_Entry_methodNamed
  refine ah_iload_n C d_Entry_methodNamed_0 rfl ?_
  refine ah_if_lt (tgt := 19) C d_Entry_methodNamed_1 rfl (fun _ => ?_) (fun _ => ?_)
  · refine ah_null C d_Entry_methodNamed_19 ?_
    exact ah_aret C hr hlk (Or.inl ⟨_, rfl⟩) d_Entry_methodNamed_20
  · refine ah_iload_n C d_Entry_methodNamed_4 rfl ?_
    refine ah_bipush (v := 26) C d_Entry_methodNamed_5 rfl ?_
    refine ah_icmp_ge (tgt := 19) C d_Entry_methodNamed_7 rfl (fun _ => ?_) (fun _ => ?_)
    · refine ah_null C d_Entry_methodNamed_19 ?_
      exact ah_aret C hr hlk (Or.inl ⟨_, rfl⟩) d_Entry_methodNamed_20
    · refine ah_aload_n C d_Entry_methodNamed_10 rfl ?_
      refine ah_getR (ci := 4) (k := 5) C rfl (by decide) rfl (Or.inl we49) d_Entry_methodNamed_11 (fun x11 => ?_)
      refine ah_iload_n C d_Entry_methodNamed_14 rfl ?_
      refine ah_aaload (j := 2) C rfl rfl rfl d_Entry_methodNamed_15 (fun x15 => ?_)
      refine ah_goto (tgt := 20) C d_Entry_methodNamed_16 rfl ?_
      exact ah_aret C hr hlk (Or.inl ⟨_, rfl⟩) d_Entry_methodNamed_20
set_option maxRecDepth 100000 in
set_option maxHeartbeats 4000000 in
theorem ok_Reader_readExpression (E : ahE) (l : Launch) (t : Nat) (v1 : Int32) : ah_met E l y_Reader_readExpression prog_9_method_3_code 2 none 4 96 rv_V [.ref t, .int v1] (fn_Reader_readExpression t v1) := by
  refine ah_met_of (by decide +kernel) (ah_c1_all ⟨rfl, rfl, trivial⟩) (Nat.le_of_ble_eq_true rfl) (lv := [some (va_rf (some t)), some (.int v1)]) rfl (fun X C hl hr hlk hnm => ?_)
  subst hl
  unfold fn_Reader_readExpression
  refine ah_aload_n C d_Reader_readExpression_0 rfl ?_
  refine ah_iload_n C d_Reader_readExpression_1 rfl ?_
  refine ah_callVV (ci := 6) (As := [.int v1]) (rest := []) C (fun b => ok_Reader_start E _ b v1) rfl (Or.inl we200) we201 we202 we127 we199 hy_Reader_start (by omega) (by omega) rfl rfl (ah_rs trivial (Nat.le_of_ble_eq_true rfl)) d_Reader_readExpression_2 ?_
  refine ah_aload_n C d_Reader_readExpression_5 rfl ?_
  refine ah_callVV (ci := 6) (As := []) (rest := []) C (fun b => ok_Reader_expression E _ b) rfl (Or.inl we269) we270 we271 we127 we268 hy_Reader_expression (by omega) (by omega) rfl rfl (ah_rs trivial (Nat.le_of_ble_eq_true rfl)) d_Reader_readExpression_6 ?_
  refine ah_aload_n C d_Reader_readExpression_9 rfl ?_
  refine ah_callVV (ci := 6) (As := []) (rest := []) C (fun b => ok_Reader_takeEnd E _ b) rfl (Or.inl we195) we196 we197 we127 we194 hy_Reader_takeEnd (by omega) (by omega) rfl rfl (ah_rs trivial (Nat.le_of_ble_eq_true rfl)) d_Reader_readExpression_10 ?_
  exact ah_vret C hr hlk d_Reader_readExpression_13
set_option maxRecDepth 100000 in
set_option maxHeartbeats 4000000 in
theorem ok_Machine_dropValue (E : ahE) (l : Launch) (t : Nat) : ah_met E l y_Machine_dropValue prog_7_method_2_code 1 none 0 0 rv_V [.ref t] (fn_Machine_dropValue t) := by
  refine ah_met_of (by decide +kernel) (ah_c1_all ⟨rfl, trivial⟩) (Nat.le_of_ble_eq_true rfl) (lv := [some (va_rf (some t))]) rfl (fun X C hl hr hlk hnm => ?_)
  subst hl
  unfold fn_Machine_dropValue
  refine ah_aload_n C d_Machine_dropValue_0 rfl ?_
  refine ah_iconst (v := 0) C d_Machine_dropValue_1 rfl ?_
  refine ah_putI (ci := 9) (k := 14) C rfl (by decide) rfl (Or.inl we272) (Or.inl rfl) rfl rfl d_Machine_dropValue_2 ?_
  exact ah_vret C hr hlk d_Machine_dropValue_5
set_option maxRecDepth 100000 in
set_option maxHeartbeats 4000000 in
theorem ok_BT_run_J126 {E : ahE} {X : ahX} (C : ah_Cx E X prog_1_method_4_code 5 "BoundedTypes" 5 117) (hr : (ax_M X).sig.returnType = some .int) (hlk : (ax_M X).locks = false) (t : Nat) (v2 : Int32) (v3 : Int32) (v4 : Int32) : ah_S E X (ah_Q E X rv_I) 126 [some (va_rf (some t)), none, some (.int v2), some (.int v3), some (.int v4)] [] (fn_BT_run_J126 t v2 v3 v4) := by
  unfold fn_BT_run_J126
  refine ah_aload_n C d_BT_run_126 rfl ?_
  refine ah_getR (ci := 10) (k := 2) C rfl (by decide) rfl (Or.inl we110) d_BT_run_127 (fun x127 => ?_)
  refine ah_iload_n C d_BT_run_130 rfl ?_
  refine ah_callVV (ci := 0) (As := [.int v2]) (rest := []) C (fun b => ok_Types_forget E _ b v2) rfl (Or.inl we231) we232 we233 we5 we230 hy_Types_forget (by omega) (by omega) rfl rfl (ah_rs trivial (Nat.le_of_ble_eq_true rfl)) d_BT_run_131 ?_
  refine ah_aload_n C d_BT_run_134 rfl ?_
  refine ah_getR (ci := 10) (k := 3) C rfl (by decide) rfl (Or.inl we117) d_BT_run_135 (fun x135 => ?_)
  refine ah_iload_n C d_BT_run_138 rfl ?_
  refine ah_callVV (ci := 1) (As := [.int v3]) (rest := []) C (fun b => ok_Code_forget E _ b v3) rfl (Or.inl we239) we240 we241 we113 we238 hy_Code_forget (by omega) (by omega) rfl rfl (ah_rs trivial (Nat.le_of_ble_eq_true rfl)) d_BT_run_139 ?_
  refine ah_iload C d_BT_run_142 rfl ?_
  exact ah_iret C hr hlk rfl d_BT_run_144
set_option maxRecDepth 100000 in
set_option maxHeartbeats 4000000 in
theorem ok_BT_run_J103 {E : ahE} {X : ahX} (C : ah_Cx E X prog_1_method_4_code 5 "BoundedTypes" 5 117) (hr : (ax_M X).sig.returnType = some .int) (hlk : (ax_M X).locks = false) (t : Nat) (v1 : Int32) (v2 : Int32) (v3 : Int32) (v4 : Int32) : ah_S E X (ah_Q E X rv_I) 103 [some (va_rf (some t)), some (.int v1), some (.int v2), some (.int v3), some (.int v4)] [] (fn_BT_run_J103 t v1 v2 v3 v4) := by
  unfold fn_BT_run_J103
  refine ah_iload C d_BT_run_103 rfl ?_
  refine ah_if_ne (tgt := 126) C d_BT_run_105 rfl (fun _ => ?_) (fun _ => ?_)
  · refine ah_mask [true, false, true, true, true] (lv' := [some (va_rf (some t)), none, some (.int v2), some (.int v3), some (.int v4)]) rfl ?_
    exact ok_BT_run_J126 C hr hlk t v2 v3 v4
  · refine ah_aload_n C d_BT_run_108 rfl ?_
    refine ah_getR (ci := 10) (k := 8) C rfl (by decide) rfl (Or.inl we152) d_BT_run_109 (fun x109 => ?_)
    refine ah_iload_n C d_BT_run_112 rfl ?_
    refine ah_aload_n C d_BT_run_113 rfl ?_
    refine ah_getR (ci := 10) (k := 3) C rfl (by decide) rfl (Or.inl we117) d_BT_run_114 (fun x114 => ?_)
    refine ah_getI (ci := 1) (k := 4) C rfl (by decide) rfl (Or.inr ⟨_, we243⟩) d_BT_run_117 (fun x117 => ?_)
    refine ah_iload_n C d_BT_run_120 rfl ?_
    exact ah_Sno
set_option maxRecDepth 100000 in
set_option maxHeartbeats 4000000 in
theorem ok_BT_run (E : ahE) (l : Launch) (t : Nat) (v1 : Int32) : ah_met E l y_BT_run prog_1_method_4_code 5 (some .int) 5 117 rv_I [.ref t, .int v1] (fn_BT_run t v1) := by
  refine ah_met_of (by decide +kernel) (ah_c1_all ⟨rfl, rfl, trivial⟩) (Nat.le_of_ble_eq_true rfl) (lv := [some (va_rf (some t)), some (.int v1), none, none, none]) rfl (fun X C hl hr hlk hnm => ?_)
  subst hl
  unfold fn_BT_run
  refine ah_iload_n C d_BT_run_0 rfl ?_
  refine ah_if_lt (tgt := 10) C d_BT_run_1 rfl (fun _ => ?_) (fun _ => ?_)
  · refine ah_ldc (v := -100000) C we273 d_BT_run_10 ?_
    exact ah_iret C hr hlk rfl d_BT_run_12
  · refine ah_iload_n C d_BT_run_4 rfl ?_
    refine ah_bipush (v := 40) C d_BT_run_5 rfl ?_
    refine ah_icmp_le (tgt := 13) C d_BT_run_7 rfl (fun _ => ?_) (fun _ => ?_)
    · refine ah_aload_n C d_BT_run_13 rfl ?_
      refine ah_getR (ci := 10) (k := 2) C rfl (by decide) rfl (Or.inl we110) d_BT_run_14 (fun x14 => ?_)
      refine ah_getI (ci := 0) (k := 6) C rfl (by decide) rfl (Or.inr ⟨_, we242⟩) d_BT_run_17 (fun x17 => ?_)
      refine ah_istore_n (lv' := [some (va_rf (some t)), some (.int v1), some (.int x17), none, none]) C d_BT_run_20 (Nat.le_of_ble_eq_true rfl) rfl ?_
      refine ah_aload_n C d_BT_run_21 rfl ?_
      refine ah_getR (ci := 10) (k := 3) C rfl (by decide) rfl (Or.inl we117) d_BT_run_22 (fun x22 => ?_)
      refine ah_getI (ci := 1) (k := 4) C rfl (by decide) rfl (Or.inr ⟨_, we243⟩) d_BT_run_25 (fun x25 => ?_)
      refine ah_istore_n (lv' := [some (va_rf (some t)), some (.int v1), some (.int x17), some (.int x25), none]) C d_BT_run_28 (Nat.le_of_ble_eq_true rfl) rfl ?_
      refine ah_aload_n C d_BT_run_29 rfl ?_
      refine ah_getR (ci := 10) (k := 5) C rfl (by decide) rfl (Or.inl we131) d_BT_run_30 (fun x30 => ?_)
      refine ah_aload_n C d_BT_run_33 rfl ?_
      refine ah_getI (ci := 10) (k := 1) C rfl (by decide) rfl (Or.inl we157) d_BT_run_34 (fun x34 => ?_)
      refine ah_callVV (ci := 6) (As := [.int x34]) (rest := []) C (fun b => ok_Reader_readExpression E _ b x34) rfl (Or.inl we275) we276 we277 we127 we274 hy_Reader_readExpression (by omega) (by omega) rfl rfl (ah_rs trivial (Nat.le_of_ble_eq_true rfl)) d_BT_run_37 ?_
      refine ah_aload_n C d_BT_run_40 rfl ?_
      refine ah_iconst (v := 0) C d_BT_run_41 rfl ?_
      refine ah_putI (ci := 10) (k := 1) C rfl (by decide) rfl (Or.inl we157) (Or.inl rfl) rfl rfl d_BT_run_42 ?_
      refine ah_aload_n C d_BT_run_45 rfl ?_
      refine ah_getR (ci := 10) (k := 8) C rfl (by decide) rfl (Or.inl we152) d_BT_run_46 (fun x46 => ?_)
      refine ah_callVV (ci := 9) (As := []) (rest := []) C (fun b => ok_Machine_dropValue E _ b) rfl (Or.inl we279) we280 we281 we148 we278 hy_Machine_dropValue (by omega) (by omega) rfl rfl (ah_rs trivial (Nat.le_of_ble_eq_true rfl)) d_BT_run_49 ?_
      refine ah_aload_n C d_BT_run_52 rfl ?_
      refine ah_getR (ci := 10) (k := 5) C rfl (by decide) rfl (Or.inl we131) d_BT_run_53 (fun x53 => ?_)
      refine ah_callVI (ci := 6) (As := []) (rest := []) C (fun b => ok_Reader_answerIfFaulty E _ b) rfl (Or.inl we249) we250 we251 we127 we248 hy_Reader_answerIfFaulty (by omega) (by omega) rfl rfl (ah_rs trivial (Nat.le_of_ble_eq_true rfl)) d_BT_run_56 (fun x56 => ?_)
      refine ah_istore (lv' := [some (va_rf (some t)), some (.int v1), some (.int x17), some (.int x25), some (.int x56)]) C d_BT_run_59 (Nat.le_of_ble_eq_true rfl) rfl ?_
      refine ah_iload C d_BT_run_61 rfl ?_
      refine ah_if_ne (tgt := 103) C d_BT_run_63 rfl (fun _ => ?_) (fun _ => ?_)
      · refine ah_mask [true, true, true, true, true] (lv' := [some (va_rf (some t)), some (.int v1), some (.int x17), some (.int x25), some (.int x56)]) rfl ?_
        exact ok_BT_run_J103 C hr hlk t v1 x17 x25 x56
      · refine ah_aload_n C d_BT_run_66 rfl ?_
        refine ah_getR (ci := 10) (k := 4) C rfl (by decide) rfl (Or.inl we124) d_BT_run_67 (fun x67 => ?_)
        exact ah_Sno
    · refine ah_ldc (v := -100000) C we273 d_BT_run_10 ?_
      exact ah_iret C hr hlk rfl d_BT_run_12
set_option maxRecDepth 100000 in
set_option maxHeartbeats 4000000 in
theorem ok_Rules_classWithMethod_J33 {E : ahE} {X : ahX} (C : ah_Cx E X prog_10_method_7_code 6 "BoundedTypes$Rules" 1 21) (hr : (ax_M X).sig.returnType = some .int) (hlk : (ax_M X).locks = false) (t : Nat) (v3 : Int32) (v5 : Option Nat) : ah_S E X (ah_Q E X rv_I) 33 [some (va_rf (some t)), none, none, some (.int v3), none, some (va_rf v5)] [] (fn_Rules_classWithMethod_J33 t v3 v5) := by
  unfold fn_Rules_classWithMethod_J33
  refine ah_aload C d_Rules_classWithMethod_33 rfl ?_
  refine ah_ifnonnull (tgt := 42) C d_Rules_classWithMethod_35 rfl (fun _ => ?_) (fun _ => ?_)
  · refine ah_iload_n C d_Rules_classWithMethod_42 rfl ?_
    exact ah_iret C hr hlk rfl d_Rules_classWithMethod_43
  · refine ah_iconst (v := -1) C d_Rules_classWithMethod_38 rfl ?_
    refine ah_goto (tgt := 43) C d_Rules_classWithMethod_39 rfl ?_
    exact ah_iret C hr hlk rfl d_Rules_classWithMethod_43
set_option maxRecDepth 100000 in
set_option maxHeartbeats 4000000 in
theorem ok_Rules_classWithMethod_B5 {E : ahE} {X : ahX} (C : ah_Cx E X prog_10_method_7_code 6 "BoundedTypes$Rules" 1 21) (hr : (ax_M X).sig.returnType = some .int) (hlk : (ax_M X).locks = false) (t : Nat) (v2 : Int32) : ∀ (n : Nat) (v3 : Int32) (v4 : Int32), ah_S E X (ah_Q E X rv_I) 5 [some (va_rf (some t)), none, some (.int v2), some (.int v3), some (.int v4), none] [] (ah_lp (fn_Rules_classWithMethod_B5 t v2) n (v3, v4)) := by
  intro n
  induction n with
  | zero => intro v3 v4 h r n u c hs; cases hs
  | succ n hk5 =>
    intro v3 v4
    show ah_S E X (ah_Q E X rv_I) 5 _ _ (fn_Rules_classWithMethod_B5 t v2 (ah_lp (fn_Rules_classWithMethod_B5 t v2) n) (v3, v4))
    generalize ah_lp (fn_Rules_classWithMethod_B5 t v2) n = k5 at hk5 ⊢
    rw [fn_Rules_classWithMethod_B5]
    refine ah_iload C d_Rules_classWithMethod_5 rfl ?_
    refine ah_bipush (v := 8) C d_Rules_classWithMethod_7 rfl ?_
    refine ah_icmp_ge (tgt := 56) C d_Rules_classWithMethod_9 rfl (fun _ => ?_) (fun _ => ?_)
    · refine ah_iconst (v := -1) C d_Rules_classWithMethod_56 rfl ?_
      exact ah_iret C hr hlk rfl d_Rules_classWithMethod_57
    · refine ah_aload_n C d_Rules_classWithMethod_12 rfl ?_
      refine ah_iload_n C d_Rules_classWithMethod_13 rfl ?_
      refine ah_callVR (ci := 5) (As := [.int v3]) (rest := []) C (fun b => ok_Rules_entryNamed E _ b v3) rfl (Or.inl we217) we218 we219 we120 we216 hy_Rules_entryNamed (by omega) (by omega) rfl rfl (ah_rs trivial (Nat.le_of_ble_eq_true rfl)) d_Rules_classWithMethod_14 (fun x14 => ?_)
      refine ah_astore (lv' := [some (va_rf (some t)), none, some (.int v2), some (.int v3), some (.int v4), some (va_rf x14)]) C d_Rules_classWithMethod_17 (Nat.le_of_ble_eq_true rfl) rfl ?_
      refine ah_aload C d_Rules_classWithMethod_19 rfl ?_
      refine ah_ifnull (tgt := 33) C d_Rules_classWithMethod_21 rfl (fun _ => ?_) (fun _ => ?_)
      · refine ah_mask [true, false, false, true, false, true] (lv' := [some (va_rf (some t)), none, none, some (.int v3), none, some (va_rf x14)]) rfl ?_
        exact ok_Rules_classWithMethod_J33 C hr hlk t v3 x14
      · refine ah_aload C d_Rules_classWithMethod_24 rfl ?_
        refine ah_iload_n C d_Rules_classWithMethod_26 rfl ?_
        refine ah_callVR (ci := 4) (As := [.int v2]) (rest := []) C (fun b => ok_Entry_methodNamed E _ b v2) rfl (Or.inl we283) we284 we285 we64 we282 hy_Entry_methodNamed (by omega) (by omega) rfl rfl (ah_rs trivial (Nat.le_of_ble_eq_true rfl)) d_Rules_classWithMethod_27 (fun x27 => ?_)
        refine ah_ifnull (tgt := 44) C d_Rules_classWithMethod_30 rfl (fun _ => ?_) (fun _ => ?_)
        · refine ah_aload C d_Rules_classWithMethod_44 rfl ?_
          refine ah_getI (ci := 4) (k := 3) C rfl (by decide) rfl (Or.inr ⟨_, we286⟩) d_Rules_classWithMethod_46 (fun x46 => ?_)
          refine ah_istore_n (lv' := [some (va_rf (some t)), none, some (.int v2), some (.int x46), some (.int v4), some (va_rf x14)]) C d_Rules_classWithMethod_49 (Nat.le_of_ble_eq_true rfl) rfl ?_
          refine ah_iinc (lv' := [some (va_rf (some t)), none, some (.int v2), some (.int x46), some (.int (v4 + (1 : Int32))), some (va_rf x14)]) C d_Rules_classWithMethod_50 rfl rfl rfl ?_
          refine ah_goto (tgt := 5) C d_Rules_classWithMethod_53 rfl ?_
          refine ah_mask [true, false, true, true, true, false] (lv' := [some (va_rf (some t)), none, some (.int v2), some (.int x46), some (.int (v4 + (1 : Int32))), none]) rfl ?_
          exact hk5 x46 (v4 + (1 : Int32))
        · refine ah_mask [true, false, false, true, false, true] (lv' := [some (va_rf (some t)), none, none, some (.int v3), none, some (va_rf x14)]) rfl ?_
          exact ok_Rules_classWithMethod_J33 C hr hlk t v3 x14
set_option maxRecDepth 100000 in
set_option maxHeartbeats 4000000 in
theorem ok_Rules_classWithMethod (E : ahE) (l : Launch) (t : Nat) (v1 : Int32) (v2 : Int32) : ah_met E l y_Rules_classWithMethod prog_10_method_7_code 6 (some .int) 1 21 rv_I [.ref t, .int v1, .int v2] (fn_Rules_classWithMethod t v1 v2) := by
  refine ah_met_of (by decide +kernel) (ah_c1_all ⟨rfl, rfl, rfl, trivial⟩) (Nat.le_of_ble_eq_true rfl) (lv := [some (va_rf (some t)), some (.int v1), some (.int v2), none, none, none]) rfl (fun X C hl hr hlk hnm => ?_)
  subst hl
  unfold fn_Rules_classWithMethod
  refine ah_iload_n C d_Rules_classWithMethod_0 rfl ?_
  refine ah_istore_n (lv' := [some (va_rf (some t)), some (.int v1), some (.int v2), some (.int v1), none, none]) C d_Rules_classWithMethod_1 (Nat.le_of_ble_eq_true rfl) rfl ?_
  refine ah_iconst (v := 0) C d_Rules_classWithMethod_2 rfl ?_
  refine ah_istore (lv' := [some (va_rf (some t)), some (.int v1), some (.int v2), some (.int v1), some (.int (0 : Int32)), none]) C d_Rules_classWithMethod_3 (Nat.le_of_ble_eq_true rfl) rfl ?_
  refine ah_mask [true, false, true, true, true, false] (lv' := [some (va_rf (some t)), none, some (.int v2), some (.int v1), some (.int (0 : Int32)), none]) rfl ?_
  exact ok_Rules_classWithMethod_B5 C hr hlk t v2 FU v1 (0 : Int32)
set_option maxRecDepth 100000 in
set_option maxHeartbeats 4000000 in
theorem ok_BT_length (E : ahE) (l : Launch) (t : Nat) : ah_met E l y_BT_length prog_1_method_5_code 1 (some .int) 0 0 rv_I [.ref t] (fn_BT_length t) := by
  refine ah_met_of (by decide +kernel) (ah_c1_all ⟨rfl, trivial⟩) (Nat.le_of_ble_eq_true rfl) (lv := [some (va_rf (some t))]) rfl (fun X C hl hr hlk hnm => ?_)
  subst hl
  unfold fn_BT_length
  refine ah_aload_n C d_BT_length_0 rfl ?_
  refine ah_getR (ci := 10) (k := 8) C rfl (by decide) rfl (Or.inl we152) d_BT_length_1 (fun x1 => ?_)
  refine ah_getI (ci := 9) (k := 14) C rfl (by decide) rfl (Or.inr ⟨_, we287⟩) d_BT_length_4 (fun x4 => ?_)
  exact ah_iret C hr hlk rfl d_BT_length_7
set_option maxRecDepth 100000 in
set_option maxHeartbeats 4000000 in
theorem ok_BT_at_J15 {E : ahE} {X : ahX} (C : ah_Cx E X prog_1_method_6_code 2 "BoundedTypes" 0 0) (hr : (ax_M X).sig.returnType = some .int) (hlk : (ax_M X).locks = false) (t : Nat) : ah_S E X (ah_Q E X rv_I) 15 [some (va_rf (some t)), none] [] (fn_BT_at_J15 t) := by
  unfold fn_BT_at_J15
  refine ah_iconst (v := -1) C d_BT_at_15 rfl ?_
  refine ah_goto (tgt := 28) C d_BT_at_16 rfl ?_
  exact ah_iret C hr hlk rfl d_BT_at_28
set_option maxRecDepth 100000 in
set_option maxHeartbeats 4000000 in
theorem ok_BT_at (E : ahE) (l : Launch) (t : Nat) (v1 : Int32) : ah_met E l y_BT_at prog_1_method_6_code 2 (some .int) 0 0 rv_I [.ref t, .int v1] (fn_BT_at t v1) := by
  refine ah_met_of (by decide +kernel) (ah_c1_all ⟨rfl, rfl, trivial⟩) (Nat.le_of_ble_eq_true rfl) (lv := [some (va_rf (some t)), some (.int v1)]) rfl (fun X C hl hr hlk hnm => ?_)
  subst hl
  unfold fn_BT_at
  refine ah_iload_n C d_BT_at_0 rfl ?_
  refine ah_if_lt (tgt := 15) C d_BT_at_1 rfl (fun _ => ?_) (fun _ => ?_)
  · refine ah_mask [true, false] (lv' := [some (va_rf (some t)), none]) rfl ?_
    exact ok_BT_at_J15 C hr hlk t
  · refine ah_iload_n C d_BT_at_4 rfl ?_
    refine ah_aload_n C d_BT_at_5 rfl ?_
    refine ah_getR (ci := 10) (k := 8) C rfl (by decide) rfl (Or.inl we152) d_BT_at_6 (fun x6 => ?_)
    refine ah_getI (ci := 9) (k := 14) C rfl (by decide) rfl (Or.inr ⟨_, we287⟩) d_BT_at_9 (fun x9 => ?_)
    refine ah_icmp_lt (tgt := 19) C d_BT_at_12 rfl (fun _ => ?_) (fun _ => ?_)
    · refine ah_aload_n C d_BT_at_19 rfl ?_
      refine ah_getR (ci := 10) (k := 8) C rfl (by decide) rfl (Or.inl we152) d_BT_at_20 (fun x20 => ?_)
      refine ah_getR (ci := 9) (k := 13) C rfl (by decide) rfl (Or.inr ⟨_, we288⟩) d_BT_at_23 (fun x23 => ?_)
      refine ah_iload_n C d_BT_at_26 rfl ?_
      refine ah_caload (j := 1) C (by decide) rfl rfl d_BT_at_27 (fun x27 => ?_)
      exact ah_iret C hr hlk rfl d_BT_at_28
    · refine ah_mask [true, false] (lv' := [some (va_rf (some t)), none]) rfl ?_
      exact ok_BT_at_J15 C hr hlk t
set_option maxRecDepth 100000 in
set_option maxHeartbeats 4000000 in
theorem ok_BT_left (E : ahE) (l : Launch) (t : Nat) : ah_met E l y_BT_left prog_1_method_7_code 1 (some .int) 0 0 rv_I [.ref t] (fn_BT_left t) := by
  refine ah_met_of (by decide +kernel) (ah_c1_all ⟨rfl, trivial⟩) (Nat.le_of_ble_eq_true rfl) (lv := [some (va_rf (some t))]) rfl (fun X C hl hr hlk hnm => ?_)
  subst hl
  unfold fn_BT_left
  refine ah_aload_n C d_BT_left_0 rfl ?_
  refine ah_getR (ci := 10) (k := 8) C rfl (by decide) rfl (Or.inl we152) d_BT_left_1 (fun x1 => ?_)
  refine ah_getI (ci := 9) (k := 12) C rfl (by decide) rfl (Or.inr ⟨_, we289⟩) d_BT_left_4 (fun x4 => ?_)
  exact ah_iret C hr hlk rfl d_BT_left_7
set_option maxRecDepth 100000 in
set_option maxHeartbeats 4000000 in
theorem ok_BT_fields (E : ahE) (l : Launch) (t : Nat) (v1 : Int32) : ah_met E l y_BT_fields prog_1_method_8_code 3 (some .int) 1 21 rv_I [.ref t, .int v1] (fn_BT_fields t v1) := by
  refine ah_met_of (by decide +kernel) (ah_c1_all ⟨rfl, rfl, trivial⟩) (Nat.le_of_ble_eq_true rfl) (lv := [some (va_rf (some t)), some (.int v1), none]) rfl (fun X C hl hr hlk hnm => ?_)
  subst hl
  unfold fn_BT_fields
  refine ah_aload_n C d_BT_fields_0 rfl ?_
  refine ah_getR (ci := 10) (k := 4) C rfl (by decide) rfl (Or.inl we124) d_BT_fields_1 (fun x1 => ?_)
  refine ah_iload_n C d_BT_fields_4 rfl ?_
  refine ah_callVR (ci := 5) (As := [.int v1]) (rest := []) C (fun b => ok_Rules_entryNamed E _ b v1) rfl (Or.inl we290) we218 we219 we120 we216 hy_Rules_entryNamed (by omega) (by omega) rfl rfl (ah_rs trivial (Nat.le_of_ble_eq_true rfl)) d_BT_fields_5 (fun x5 => ?_)
  refine ah_astore_n (lv' := [some (va_rf (some t)), some (.int v1), some (va_rf x5)]) C d_BT_fields_8 (Nat.le_of_ble_eq_true rfl) rfl ?_
  refine ah_aload_n C d_BT_fields_9 rfl ?_
  refine ah_ifnonnull (tgt := 17) C d_BT_fields_10 rfl (fun _ => ?_) (fun _ => ?_)
  · refine ah_aload_n C d_BT_fields_17 rfl ?_
    refine ah_getI (ci := 4) (k := 9) C rfl (by decide) rfl (Or.inr ⟨_, we291⟩) d_BT_fields_18 (fun x18 => ?_)
    exact ah_iret C hr hlk rfl d_BT_fields_21
  · refine ah_iconst (v := -1) C d_BT_fields_13 rfl ?_
    refine ah_goto (tgt := 21) C d_BT_fields_14 rfl ?_
    exact ah_iret C hr hlk rfl d_BT_fields_21
set_option maxRecDepth 100000 in
set_option maxHeartbeats 4000000 in
theorem ok_BT_method (E : ahE) (l : Launch) (t : Nat) (v1 : Int32) (v2 : Int32) : ah_met E l y_BT_method prog_1_method_9_code 3 (some .int) 2 46 rv_I [.ref t, .int v1, .int v2] (fn_BT_method t v1 v2) := by
  refine ah_met_of (by decide +kernel) (ah_c1_all ⟨rfl, rfl, rfl, trivial⟩) (Nat.le_of_ble_eq_true rfl) (lv := [some (va_rf (some t)), some (.int v1), some (.int v2)]) rfl (fun X C hl hr hlk hnm => ?_)
  subst hl
  unfold fn_BT_method
  refine ah_aload_n C d_BT_method_0 rfl ?_
  refine ah_getR (ci := 10) (k := 4) C rfl (by decide) rfl (Or.inl we124) d_BT_method_1 (fun x1 => ?_)
  refine ah_iload_n C d_BT_method_4 rfl ?_
  refine ah_iload_n C d_BT_method_5 rfl ?_
  refine ah_callVI (ci := 5) (As := [.int v1, .int v2]) (rest := []) C (fun b => ok_Rules_classWithMethod E _ b v1 v2) rfl (Or.inl we293) we294 we295 we120 we292 hy_Rules_classWithMethod (by omega) (by omega) rfl rfl (ah_rs trivial (Nat.le_of_ble_eq_true rfl)) d_BT_method_6 (fun x6 => ?_)
  exact ah_iret C hr hlk rfl d_BT_method_9
set_option maxRecDepth 100000 in
set_option maxHeartbeats 4000000 in
theorem ok_Md_noScope_B2 {E : ahE} {X : ahX} (C : ah_Cx E X prog_13_method_8_code 2 "BoundedTypesModel" 0 0) (hr : (ax_M X).sig.returnType = none) (hlk : (ax_M X).locks = false) (t : Nat) : ∀ (n : Nat) (v1 : Int32), ah_S E X (ah_Q E X rv_V) 2 [some (va_rf (some t)), some (.int v1)] [] (ah_lp (fn_Md_noScope_B2 t) n v1) := by
  intro n
  induction n with
  | zero => intro v1 h r n u c hs; cases hs
  | succ n hk2 =>
    intro v1
    show ah_S E X (ah_Q E X rv_V) 2 _ _ (fn_Md_noScope_B2 t (ah_lp (fn_Md_noScope_B2 t) n) v1)
    generalize ah_lp (fn_Md_noScope_B2 t) n = k2 at hk2 ⊢
    rw [fn_Md_noScope_B2]
    refine ah_iload_n C d_Md_noScope_2 rfl ?_
    refine ah_bipush (v := 8) C d_Md_noScope_3 rfl ?_
    refine ah_icmp_ge (tgt := 21) C d_Md_noScope_5 rfl (fun _ => ?_) (fun _ => ?_)
    · exact ah_vret C hr hlk d_Md_noScope_21
    · refine ah_aload_n C d_Md_noScope_8 rfl ?_
      refine ah_getR (ci := 12) (k := 14) C rfl (by decide) rfl (Or.inl we296) d_Md_noScope_9 (fun x9 => ?_)
      refine ah_iload_n C d_Md_noScope_12 rfl ?_
      refine ah_iconst (v := -1) C d_Md_noScope_13 rfl ?_
      refine ah_iastore C rfl rfl d_Md_noScope_14 ?_
      refine ah_iinc (lv' := [some (va_rf (some t)), some (.int (v1 + (1 : Int32)))]) C d_Md_noScope_15 rfl rfl rfl ?_
      refine ah_goto (tgt := 2) C d_Md_noScope_18 rfl ?_
      refine ah_mask [true, true] (lv' := [some (va_rf (some t)), some (.int (v1 + (1 : Int32)))]) rfl ?_
      exact hk2 (v1 + (1 : Int32))
set_option maxRecDepth 100000 in
set_option maxHeartbeats 4000000 in
theorem ok_Md_noScope (E : ahE) (l : Launch) (t : Nat) : ah_met E l y_Md_noScope prog_13_method_8_code 2 none 0 0 rv_V [.ref t] (fn_Md_noScope t) := by
  refine ah_met_of (by decide +kernel) (ah_c1_all ⟨rfl, trivial⟩) (Nat.le_of_ble_eq_true rfl) (lv := [some (va_rf (some t)), none]) rfl (fun X C hl hr hlk hnm => ?_)
  subst hl
  unfold fn_Md_noScope
  refine ah_iconst (v := 0) C d_Md_noScope_0 rfl ?_
  refine ah_istore_n (lv' := [some (va_rf (some t)), some (.int (0 : Int32))]) C d_Md_noScope_1 (Nat.le_of_ble_eq_true rfl) rfl ?_
  refine ah_mask [true, true] (lv' := [some (va_rf (some t)), some (.int (0 : Int32))]) rfl ?_
  exact ok_Md_noScope_B2 C hr hlk t FU (0 : Int32)
set_option maxRecDepth 100000 in
set_option maxHeartbeats 4000000 in
theorem ok_Md_init_B373 {E : ahE} {X : ahX} (C : ah_Cx E X prog_13_method_1_code 2 "BoundedTypesModel" 1 21) (hr : (ax_M X).sig.returnType = none) (hlk : (ax_M X).locks = false) (hnm : (ax_M X).name = "<init>") (t : Nat) : ∀ (n : Nat) (v1 : Int32), ah_S E X (ah_Q E X rv_V) 373 [some (va_rf (some t)), some (.int v1)] [] (ah_lp (fn_Md_init_B373 t) n v1) := by
  intro n
  induction n with
  | zero => intro v1 h r n u c hs; cases hs
  | succ n hk373 =>
    intro v1
    show ah_S E X (ah_Q E X rv_V) 373 _ _ (fn_Md_init_B373 t (ah_lp (fn_Md_init_B373 t) n) v1)
    generalize ah_lp (fn_Md_init_B373 t) n = k373 at hk373 ⊢
    rw [fn_Md_init_B373]
    refine ah_iload_n C d_Md_init_373 rfl ?_
    refine ah_bipush (v := 8) C d_Md_init_374 rfl ?_
    refine ah_icmp_ge (tgt := 392) C d_Md_init_376 rfl (fun _ => ?_) (fun _ => ?_)
    · refine ah_aload_n C d_Md_init_392 rfl ?_
      refine ah_bipush (v := 8) C d_Md_init_393 rfl ?_
      refine ah_putI (ci := 12) (k := 7) C rfl (by decide) rfl (Or.inl we297) (Or.inl rfl) rfl rfl d_Md_init_395 ?_
      refine ah_aload_n C d_Md_init_398 rfl ?_
      refine ah_getR (ci := 12) (k := 15) C rfl (by decide) rfl (Or.inl we298) d_Md_init_399 (fun x399 => ?_)
      refine ah_iconst (v := 0) C d_Md_init_402 rfl ?_
      refine ah_iconst (v := 2) C d_Md_init_403 rfl ?_
      refine ah_iastore C rfl rfl d_Md_init_404 ?_
      refine ah_aload_n C d_Md_init_405 rfl ?_
      refine ah_getR (ci := 12) (k := 19) C rfl (by decide) rfl (Or.inl we299) d_Md_init_406 (fun x406 => ?_)
      refine ah_iconst (v := 0) C d_Md_init_409 rfl ?_
      refine ah_iconst (v := -1) C d_Md_init_410 rfl ?_
      refine ah_iastore C rfl rfl d_Md_init_411 ?_
      refine ah_aload_n C d_Md_init_412 rfl ?_
      refine ah_callVV (ci := 12) (As := []) (rest := []) C (fun b => ok_Md_noScope E _ b) rfl (Or.inl we302) we303 we304 we300 we301 hy_Md_noScope (by omega) (by omega) rfl rfl (ah_rs trivial (Nat.le_of_ble_eq_true rfl)) d_Md_init_413 ?_
      exact ah_vret C hr hlk d_Md_init_416
    · refine ah_aload_n C d_Md_init_379 rfl ?_
      refine ah_getR (ci := 12) (k := 8) C rfl (by decide) rfl (Or.inl we305) d_Md_init_380 (fun x380 => ?_)
      refine ah_iload_n C d_Md_init_383 rfl ?_
      refine ah_iload_n C d_Md_init_384 rfl ?_
      refine ah_iastore C rfl rfl d_Md_init_385 ?_
      refine ah_iinc (lv' := [some (va_rf (some t)), some (.int (v1 + (1 : Int32)))]) C d_Md_init_386 rfl rfl rfl ?_
      refine ah_goto (tgt := 373) C d_Md_init_389 rfl ?_
      refine ah_mask [true, true] (lv' := [some (va_rf (some t)), some (.int (v1 + (1 : Int32)))]) rfl ?_
      exact hk373 (v1 + (1 : Int32))
set_option maxRecDepth 100000 in
set_option maxHeartbeats 4000000 in
theorem ok_Md_init (E : ahE) (l : Launch) (t : Nat) : ah_met E l y_Md_init prog_13_method_1_code 2 none 1 21 rv_V [.ref t] (fn_Md_init t) := by
  refine ah_met_of (by decide +kernel) (ah_c1_all ⟨rfl, trivial⟩) (Nat.le_of_ble_eq_true rfl) (lv := [some (va_rf (some t)), none]) rfl (fun X C hl hr hlk hnm => ?_)
  subst hl
  unfold fn_Md_init
  refine ah_aload_n C d_Md_init_0 rfl ?_
  refine ah_objInit C we306 we0 we1 (by omega) (by omega) rfl (ah_rs trivial (Nat.le_of_ble_eq_true rfl)) d_Md_init_1 ?_
  refine ah_aload_n C d_Md_init_4 rfl ?_
  refine ah_sipush (v := 140) C d_Md_init_5 rfl ?_
  refine ah_newA (j := 0) (atype := .int) C rfl rfl we10 rfl (by decide) d_Md_init_8 (fun x8 => ?_)
  refine ah_putR (ci := 12) (k := 0) C rfl (by decide) rfl (Or.inl we307) (Or.inr ⟨rfl, hnm, rfl, we307⟩) (fun y => by cases y <;> rfl) (fun y => by cases y <;> rfl) d_Md_init_10 ?_
  refine ah_aload_n C d_Md_init_13 rfl ?_
  refine ah_sipush (v := 3000) C d_Md_init_14 rfl ?_
  refine ah_newA (j := 0) (atype := .int) C rfl rfl we10 rfl (by decide) d_Md_init_17 (fun x17 => ?_)
  refine ah_putR (ci := 12) (k := 8) C rfl (by decide) rfl (Or.inl we305) (Or.inr ⟨rfl, hnm, rfl, we305⟩) (fun y => by cases y <;> rfl) (fun y => by cases y <;> rfl) d_Md_init_19 ?_
  refine ah_aload_n C d_Md_init_22 rfl ?_
  refine ah_sipush (v := 9000) C d_Md_init_23 rfl ?_
  refine ah_newA (j := 0) (atype := .int) C rfl rfl we10 rfl (by decide) d_Md_init_26 (fun x26 => ?_)
  refine ah_putR (ci := 12) (k := 9) C rfl (by decide) rfl (Or.inl we308) (Or.inr ⟨rfl, hnm, rfl, we308⟩) (fun y => by cases y <;> rfl) (fun y => by cases y <;> rfl) d_Md_init_28 ?_
  refine ah_aload_n C d_Md_init_31 rfl ?_
  refine ah_sipush (v := 3000) C d_Md_init_32 rfl ?_
  refine ah_newA (j := 0) (atype := .int) C rfl rfl we10 rfl (by decide) d_Md_init_35 (fun x35 => ?_)
  refine ah_putR (ci := 12) (k := 10) C rfl (by decide) rfl (Or.inl we309) (Or.inr ⟨rfl, hnm, rfl, we309⟩) (fun y => by cases y <;> rfl) (fun y => by cases y <;> rfl) d_Md_init_37 ?_
  refine ah_aload_n C d_Md_init_40 rfl ?_
  refine ah_sipush (v := 160) C d_Md_init_41 rfl ?_
  refine ah_newA (j := 0) (atype := .int) C rfl rfl we10 rfl (by decide) d_Md_init_44 (fun x44 => ?_)
  refine ah_putR (ci := 12) (k := 11) C rfl (by decide) rfl (Or.inl we310) (Or.inr ⟨rfl, hnm, rfl, we310⟩) (fun y => by cases y <;> rfl) (fun y => by cases y <;> rfl) d_Md_init_46 ?_
  refine ah_aload_n C d_Md_init_49 rfl ?_
  refine ah_bipush (v := 40) C d_Md_init_50 rfl ?_
  refine ah_newA (j := 0) (atype := .int) C rfl rfl we10 rfl (by decide) d_Md_init_52 (fun x52 => ?_)
  refine ah_putR (ci := 12) (k := 12) C rfl (by decide) rfl (Or.inl we311) (Or.inr ⟨rfl, hnm, rfl, we311⟩) (fun y => by cases y <;> rfl) (fun y => by cases y <;> rfl) d_Md_init_54 ?_
  refine ah_aload_n C d_Md_init_57 rfl ?_
  refine ah_bipush (v := 8) C d_Md_init_58 rfl ?_
  refine ah_newA (j := 0) (atype := .int) C rfl rfl we10 rfl (by decide) d_Md_init_60 (fun x60 => ?_)
  refine ah_putR (ci := 12) (k := 13) C rfl (by decide) rfl (Or.inl we312) (Or.inr ⟨rfl, hnm, rfl, we312⟩) (fun y => by cases y <;> rfl) (fun y => by cases y <;> rfl) d_Md_init_62 ?_
  refine ah_aload_n C d_Md_init_65 rfl ?_
  refine ah_bipush (v := 8) C d_Md_init_66 rfl ?_
  refine ah_newA (j := 0) (atype := .int) C rfl rfl we10 rfl (by decide) d_Md_init_68 (fun x68 => ?_)
  refine ah_putR (ci := 12) (k := 14) C rfl (by decide) rfl (Or.inl we296) (Or.inr ⟨rfl, hnm, rfl, we296⟩) (fun y => by cases y <;> rfl) (fun y => by cases y <;> rfl) d_Md_init_70 ?_
  refine ah_aload_n C d_Md_init_73 rfl ?_
  refine ah_bipush (v := 8) C d_Md_init_74 rfl ?_
  refine ah_newA (j := 0) (atype := .int) C rfl rfl we10 rfl (by decide) d_Md_init_76 (fun x76 => ?_)
  refine ah_putR (ci := 12) (k := 15) C rfl (by decide) rfl (Or.inl we298) (Or.inr ⟨rfl, hnm, rfl, we298⟩) (fun y => by cases y <;> rfl) (fun y => by cases y <;> rfl) d_Md_init_78 ?_
  refine ah_aload_n C d_Md_init_81 rfl ?_
  refine ah_bipush (v := 8) C d_Md_init_82 rfl ?_
  refine ah_newA (j := 0) (atype := .int) C rfl rfl we10 rfl (by decide) d_Md_init_84 (fun x84 => ?_)
  refine ah_putR (ci := 12) (k := 16) C rfl (by decide) rfl (Or.inl we313) (Or.inr ⟨rfl, hnm, rfl, we313⟩) (fun y => by cases y <;> rfl) (fun y => by cases y <;> rfl) d_Md_init_86 ?_
  refine ah_aload_n C d_Md_init_89 rfl ?_
  refine ah_bipush (v := 24) C d_Md_init_90 rfl ?_
  refine ah_newA (j := 0) (atype := .int) C rfl rfl we10 rfl (by decide) d_Md_init_92 (fun x92 => ?_)
  refine ah_putR (ci := 12) (k := 17) C rfl (by decide) rfl (Or.inl we314) (Or.inr ⟨rfl, hnm, rfl, we314⟩) (fun y => by cases y <;> rfl) (fun y => by cases y <;> rfl) d_Md_init_94 ?_
  refine ah_aload_n C d_Md_init_97 rfl ?_
  refine ah_bipush (v := 24) C d_Md_init_98 rfl ?_
  refine ah_newA (j := 0) (atype := .int) C rfl rfl we10 rfl (by decide) d_Md_init_100 (fun x100 => ?_)
  refine ah_putR (ci := 12) (k := 18) C rfl (by decide) rfl (Or.inl we315) (Or.inr ⟨rfl, hnm, rfl, we315⟩) (fun y => by cases y <;> rfl) (fun y => by cases y <;> rfl) d_Md_init_102 ?_
  refine ah_aload_n C d_Md_init_105 rfl ?_
  refine ah_bipush (v := 8) C d_Md_init_106 rfl ?_
  refine ah_newA (j := 0) (atype := .int) C rfl rfl we10 rfl (by decide) d_Md_init_108 (fun x108 => ?_)
  refine ah_putR (ci := 12) (k := 19) C rfl (by decide) rfl (Or.inl we299) (Or.inr ⟨rfl, hnm, rfl, we299⟩) (fun y => by cases y <;> rfl) (fun y => by cases y <;> rfl) d_Md_init_110 ?_
  refine ah_aload_n C d_Md_init_113 rfl ?_
  refine ah_iconst (v := 3) C d_Md_init_114 rfl ?_
  refine ah_newA (j := 0) (atype := .int) C rfl rfl we10 rfl (by decide) d_Md_init_115 (fun x115 => ?_)
  refine ah_putR (ci := 12) (k := 21) C rfl (by decide) rfl (Or.inl we316) (Or.inr ⟨rfl, hnm, rfl, we316⟩) (fun y => by cases y <;> rfl) (fun y => by cases y <;> rfl) d_Md_init_117 ?_
  refine ah_aload_n C d_Md_init_120 rfl ?_
  refine ah_iconst (v := 3) C d_Md_init_121 rfl ?_
  refine ah_newA (j := 0) (atype := .int) C rfl rfl we10 rfl (by decide) d_Md_init_122 (fun x122 => ?_)
  refine ah_putR (ci := 12) (k := 22) C rfl (by decide) rfl (Or.inl we317) (Or.inr ⟨rfl, hnm, rfl, we317⟩) (fun y => by cases y <;> rfl) (fun y => by cases y <;> rfl) d_Md_init_124 ?_
  refine ah_aload_n C d_Md_init_127 rfl ?_
  refine ah_bipush (v := 90) C d_Md_init_128 rfl ?_
  refine ah_newA (j := 0) (atype := .int) C rfl rfl we10 rfl (by decide) d_Md_init_130 (fun x130 => ?_)
  refine ah_putR (ci := 12) (k := 24) C rfl (by decide) rfl (Or.inl we318) (Or.inr ⟨rfl, hnm, rfl, we318⟩) (fun y => by cases y <;> rfl) (fun y => by cases y <;> rfl) d_Md_init_132 ?_
  refine ah_aload_n C d_Md_init_135 rfl ?_
  refine ah_bipush (v := 90) C d_Md_init_136 rfl ?_
  refine ah_newA (j := 0) (atype := .int) C rfl rfl we10 rfl (by decide) d_Md_init_138 (fun x138 => ?_)
  refine ah_putR (ci := 12) (k := 25) C rfl (by decide) rfl (Or.inl we319) (Or.inr ⟨rfl, hnm, rfl, we319⟩) (fun y => by cases y <;> rfl) (fun y => by cases y <;> rfl) d_Md_init_140 ?_
  refine ah_aload_n C d_Md_init_143 rfl ?_
  refine ah_bipush (v := 90) C d_Md_init_144 rfl ?_
  refine ah_newA (j := 0) (atype := .int) C rfl rfl we10 rfl (by decide) d_Md_init_146 (fun x146 => ?_)
  refine ah_putR (ci := 12) (k := 26) C rfl (by decide) rfl (Or.inl we320) (Or.inr ⟨rfl, hnm, rfl, we320⟩) (fun y => by cases y <;> rfl) (fun y => by cases y <;> rfl) d_Md_init_148 ?_
  refine ah_aload_n C d_Md_init_151 rfl ?_
  refine ah_sipush (v := 200) C d_Md_init_152 rfl ?_
  refine ah_newA (j := 0) (atype := .int) C rfl rfl we10 rfl (by decide) d_Md_init_155 (fun x155 => ?_)
  refine ah_putR (ci := 12) (k := 28) C rfl (by decide) rfl (Or.inl we321) (Or.inr ⟨rfl, hnm, rfl, we321⟩) (fun y => by cases y <;> rfl) (fun y => by cases y <;> rfl) d_Md_init_157 ?_
  refine ah_aload_n C d_Md_init_160 rfl ?_
  refine ah_sipush (v := 200) C d_Md_init_161 rfl ?_
  refine ah_newA (j := 0) (atype := .int) C rfl rfl we10 rfl (by decide) d_Md_init_164 (fun x164 => ?_)
  refine ah_putR (ci := 12) (k := 29) C rfl (by decide) rfl (Or.inl we322) (Or.inr ⟨rfl, hnm, rfl, we322⟩) (fun y => by cases y <;> rfl) (fun y => by cases y <;> rfl) d_Md_init_166 ?_
  refine ah_aload_n C d_Md_init_169 rfl ?_
  refine ah_sipush (v := 200) C d_Md_init_170 rfl ?_
  refine ah_newA (j := 0) (atype := .int) C rfl rfl we10 rfl (by decide) d_Md_init_173 (fun x173 => ?_)
  refine ah_putR (ci := 12) (k := 30) C rfl (by decide) rfl (Or.inl we323) (Or.inr ⟨rfl, hnm, rfl, we323⟩) (fun y => by cases y <;> rfl) (fun y => by cases y <;> rfl) d_Md_init_175 ?_
  refine ah_aload_n C d_Md_init_178 rfl ?_
  refine ah_sipush (v := 600) C d_Md_init_179 rfl ?_
  refine ah_newA (j := 0) (atype := .int) C rfl rfl we10 rfl (by decide) d_Md_init_182 (fun x182 => ?_)
  refine ah_putR (ci := 12) (k := 31) C rfl (by decide) rfl (Or.inl we324) (Or.inr ⟨rfl, hnm, rfl, we324⟩) (fun y => by cases y <;> rfl) (fun y => by cases y <;> rfl) d_Md_init_184 ?_
  refine ah_aload_n C d_Md_init_187 rfl ?_
  refine ah_sipush (v := 600) C d_Md_init_188 rfl ?_
  refine ah_newA (j := 0) (atype := .int) C rfl rfl we10 rfl (by decide) d_Md_init_191 (fun x191 => ?_)
  refine ah_putR (ci := 12) (k := 32) C rfl (by decide) rfl (Or.inl we325) (Or.inr ⟨rfl, hnm, rfl, we325⟩) (fun y => by cases y <;> rfl) (fun y => by cases y <;> rfl) d_Md_init_193 ?_
  refine ah_aload_n C d_Md_init_196 rfl ?_
  refine ah_sipush (v := 200) C d_Md_init_197 rfl ?_
  refine ah_newA (j := 0) (atype := .int) C rfl rfl we10 rfl (by decide) d_Md_init_200 (fun x200 => ?_)
  refine ah_putR (ci := 12) (k := 33) C rfl (by decide) rfl (Or.inl we326) (Or.inr ⟨rfl, hnm, rfl, we326⟩) (fun y => by cases y <;> rfl) (fun y => by cases y <;> rfl) d_Md_init_202 ?_
  refine ah_aload_n C d_Md_init_205 rfl ?_
  refine ah_sipush (v := 600) C d_Md_init_206 rfl ?_
  refine ah_newA (j := 0) (atype := .int) C rfl rfl we10 rfl (by decide) d_Md_init_209 (fun x209 => ?_)
  refine ah_putR (ci := 12) (k := 34) C rfl (by decide) rfl (Or.inl we327) (Or.inr ⟨rfl, hnm, rfl, we327⟩) (fun y => by cases y <;> rfl) (fun y => by cases y <;> rfl) d_Md_init_211 ?_
  refine ah_aload_n C d_Md_init_214 rfl ?_
  refine ah_sipush (v := 600) C d_Md_init_215 rfl ?_
  refine ah_newA (j := 0) (atype := .int) C rfl rfl we10 rfl (by decide) d_Md_init_218 (fun x218 => ?_)
  refine ah_putR (ci := 12) (k := 35) C rfl (by decide) rfl (Or.inl we328) (Or.inr ⟨rfl, hnm, rfl, we328⟩) (fun y => by cases y <;> rfl) (fun y => by cases y <;> rfl) d_Md_init_220 ?_
  refine ah_aload_n C d_Md_init_223 rfl ?_
  refine ah_sipush (v := 200) C d_Md_init_224 rfl ?_
  refine ah_newA (j := 0) (atype := .int) C rfl rfl we10 rfl (by decide) d_Md_init_227 (fun x227 => ?_)
  refine ah_putR (ci := 12) (k := 36) C rfl (by decide) rfl (Or.inl we329) (Or.inr ⟨rfl, hnm, rfl, we329⟩) (fun y => by cases y <;> rfl) (fun y => by cases y <;> rfl) d_Md_init_229 ?_
  refine ah_aload_n C d_Md_init_232 rfl ?_
  refine ah_sipush (v := 200) C d_Md_init_233 rfl ?_
  refine ah_newA (j := 0) (atype := .int) C rfl rfl we10 rfl (by decide) d_Md_init_236 (fun x236 => ?_)
  refine ah_putR (ci := 12) (k := 37) C rfl (by decide) rfl (Or.inl we330) (Or.inr ⟨rfl, hnm, rfl, we330⟩) (fun y => by cases y <;> rfl) (fun y => by cases y <;> rfl) d_Md_init_238 ?_
  refine ah_aload_n C d_Md_init_241 rfl ?_
  refine ah_sipush (v := 200) C d_Md_init_242 rfl ?_
  refine ah_newA (j := 0) (atype := .int) C rfl rfl we10 rfl (by decide) d_Md_init_245 (fun x245 => ?_)
  refine ah_putR (ci := 12) (k := 38) C rfl (by decide) rfl (Or.inl we331) (Or.inr ⟨rfl, hnm, rfl, we331⟩) (fun y => by cases y <;> rfl) (fun y => by cases y <;> rfl) d_Md_init_247 ?_
  refine ah_aload_n C d_Md_init_250 rfl ?_
  refine ah_sipush (v := 1600) C d_Md_init_251 rfl ?_
  refine ah_newL (j := 4) C rfl we332 d_Md_init_254 (fun x254 => ?_)
  refine ah_putR (ci := 12) (k := 40) C rfl (by decide) rfl (Or.inl we333) (Or.inr ⟨rfl, hnm, rfl, we333⟩) (fun y => by cases y <;> rfl) (fun y => by cases y <;> rfl) d_Md_init_256 ?_
  refine ah_aload_n C d_Md_init_259 rfl ?_
  refine ah_bipush (v := 60) C d_Md_init_260 rfl ?_
  refine ah_newA (j := 0) (atype := .int) C rfl rfl we10 rfl (by decide) d_Md_init_262 (fun x262 => ?_)
  refine ah_putR (ci := 12) (k := 42) C rfl (by decide) rfl (Or.inl we334) (Or.inr ⟨rfl, hnm, rfl, we334⟩) (fun y => by cases y <;> rfl) (fun y => by cases y <;> rfl) d_Md_init_264 ?_
  refine ah_aload_n C d_Md_init_267 rfl ?_
  refine ah_sipush (v := 150) C d_Md_init_268 rfl ?_
  refine ah_newA (j := 0) (atype := .int) C rfl rfl we10 rfl (by decide) d_Md_init_271 (fun x271 => ?_)
  refine ah_putR (ci := 12) (k := 43) C rfl (by decide) rfl (Or.inl we335) (Or.inr ⟨rfl, hnm, rfl, we335⟩) (fun y => by cases y <;> rfl) (fun y => by cases y <;> rfl) d_Md_init_273 ?_
  refine ah_aload_n C d_Md_init_276 rfl ?_
  refine ah_sipush (v := 150) C d_Md_init_277 rfl ?_
  refine ah_newA (j := 0) (atype := .int) C rfl rfl we10 rfl (by decide) d_Md_init_280 (fun x280 => ?_)
  refine ah_putR (ci := 12) (k := 44) C rfl (by decide) rfl (Or.inl we336) (Or.inr ⟨rfl, hnm, rfl, we336⟩) (fun y => by cases y <;> rfl) (fun y => by cases y <;> rfl) d_Md_init_282 ?_
  refine ah_aload_n C d_Md_init_285 rfl ?_
  refine ah_sipush (v := 150) C d_Md_init_286 rfl ?_
  refine ah_newA (j := 0) (atype := .int) C rfl rfl we10 rfl (by decide) d_Md_init_289 (fun x289 => ?_)
  refine ah_putR (ci := 12) (k := 45) C rfl (by decide) rfl (Or.inl we337) (Or.inr ⟨rfl, hnm, rfl, we337⟩) (fun y => by cases y <;> rfl) (fun y => by cases y <;> rfl) d_Md_init_291 ?_
  refine ah_aload_n C d_Md_init_294 rfl ?_
  refine ah_sipush (v := 150) C d_Md_init_295 rfl ?_
  refine ah_newA (j := 0) (atype := .int) C rfl rfl we10 rfl (by decide) d_Md_init_298 (fun x298 => ?_)
  refine ah_putR (ci := 12) (k := 46) C rfl (by decide) rfl (Or.inl we338) (Or.inr ⟨rfl, hnm, rfl, we338⟩) (fun y => by cases y <;> rfl) (fun y => by cases y <;> rfl) d_Md_init_300 ?_
  refine ah_aload_n C d_Md_init_303 rfl ?_
  refine ah_sipush (v := 450) C d_Md_init_304 rfl ?_
  refine ah_newA (j := 0) (atype := .int) C rfl rfl we10 rfl (by decide) d_Md_init_307 (fun x307 => ?_)
  refine ah_putR (ci := 12) (k := 47) C rfl (by decide) rfl (Or.inl we339) (Or.inr ⟨rfl, hnm, rfl, we339⟩) (fun y => by cases y <;> rfl) (fun y => by cases y <;> rfl) d_Md_init_309 ?_
  refine ah_aload_n C d_Md_init_312 rfl ?_
  refine ah_sipush (v := 700) C d_Md_init_313 rfl ?_
  refine ah_newA (j := 0) (atype := .int) C rfl rfl we10 rfl (by decide) d_Md_init_316 (fun x316 => ?_)
  refine ah_putR (ci := 12) (k := 48) C rfl (by decide) rfl (Or.inl we340) (Or.inr ⟨rfl, hnm, rfl, we340⟩) (fun y => by cases y <;> rfl) (fun y => by cases y <;> rfl) d_Md_init_318 ?_
  refine ah_aload_n C d_Md_init_321 rfl ?_
  refine ah_sipush (v := 2800) C d_Md_init_322 rfl ?_
  refine ah_newA (j := 0) (atype := .int) C rfl rfl we10 rfl (by decide) d_Md_init_325 (fun x325 => ?_)
  refine ah_putR (ci := 12) (k := 50) C rfl (by decide) rfl (Or.inl we341) (Or.inr ⟨rfl, hnm, rfl, we341⟩) (fun y => by cases y <;> rfl) (fun y => by cases y <;> rfl) d_Md_init_327 ?_
  refine ah_aload_n C d_Md_init_330 rfl ?_
  refine ah_bipush (v := 14) C d_Md_init_331 rfl ?_
  refine ah_newA (j := 0) (atype := .int) C rfl rfl we10 rfl (by decide) d_Md_init_333 (fun x333 => ?_)
  refine ah_putR (ci := 12) (k := 51) C rfl (by decide) rfl (Or.inl we342) (Or.inr ⟨rfl, hnm, rfl, we342⟩) (fun y => by cases y <;> rfl) (fun y => by cases y <;> rfl) d_Md_init_335 ?_
  refine ah_aload_n C d_Md_init_338 rfl ?_
  refine ah_bipush (v := 14) C d_Md_init_339 rfl ?_
  refine ah_newA (j := 0) (atype := .int) C rfl rfl we10 rfl (by decide) d_Md_init_341 (fun x341 => ?_)
  refine ah_putR (ci := 12) (k := 52) C rfl (by decide) rfl (Or.inl we343) (Or.inr ⟨rfl, hnm, rfl, we343⟩) (fun y => by cases y <;> rfl) (fun y => by cases y <;> rfl) d_Md_init_343 ?_
  refine ah_aload_n C d_Md_init_346 rfl ?_
  refine ah_bipush (v := 14) C d_Md_init_347 rfl ?_
  refine ah_newA (j := 0) (atype := .int) C rfl rfl we10 rfl (by decide) d_Md_init_349 (fun x349 => ?_)
  refine ah_putR (ci := 12) (k := 53) C rfl (by decide) rfl (Or.inl we344) (Or.inr ⟨rfl, hnm, rfl, we344⟩) (fun y => by cases y <;> rfl) (fun y => by cases y <;> rfl) d_Md_init_351 ?_
  refine ah_aload_n C d_Md_init_354 rfl ?_
  refine ah_bipush (v := 42) C d_Md_init_355 rfl ?_
  refine ah_newA (j := 0) (atype := .int) C rfl rfl we10 rfl (by decide) d_Md_init_357 (fun x357 => ?_)
  refine ah_putR (ci := 12) (k := 54) C rfl (by decide) rfl (Or.inl we345) (Or.inr ⟨rfl, hnm, rfl, we345⟩) (fun y => by cases y <;> rfl) (fun y => by cases y <;> rfl) d_Md_init_359 ?_
  refine ah_aload_n C d_Md_init_362 rfl ?_
  refine ah_sipush (v := 200) C d_Md_init_363 rfl ?_
  refine ah_newA (j := 0) (atype := .int) C rfl rfl we10 rfl (by decide) d_Md_init_366 (fun x366 => ?_)
  refine ah_putR (ci := 12) (k := 55) C rfl (by decide) rfl (Or.inl we346) (Or.inr ⟨rfl, hnm, rfl, we346⟩) (fun y => by cases y <;> rfl) (fun y => by cases y <;> rfl) d_Md_init_368 ?_
  refine ah_iconst (v := 0) C d_Md_init_371 rfl ?_
  refine ah_istore_n (lv' := [some (va_rf (some t)), some (.int (0 : Int32))]) C d_Md_init_372 (Nat.le_of_ble_eq_true rfl) rfl ?_
  refine ah_mask [true, true] (lv' := [some (va_rf (some t)), some (.int (0 : Int32))]) rfl ?_
  exact ok_Md_init_B373 C hr hlk hnm t FU (0 : Int32)
set_option maxRecDepth 100000 in
set_option maxHeartbeats 4000000 in
theorem ok_Md_in (E : ahE) (l : Launch) (v0 : Int32) (v1 : Int32) (v2 : Int32) : ah_met E l y_Md_in prog_13_method_2_code 3 (some .boolean) 0 0 rv_I [.int v0, .int v1, .int v2] (fn_Md_in v0 v1 v2) := by
  refine ah_met_of (by decide +kernel) (ah_c1_all ⟨rfl, rfl, rfl, trivial⟩) (Nat.le_of_ble_eq_true rfl) (lv := [some (.int v0), some (.int v1), some (.int v2)]) rfl (fun X C hl hr hlk hnm => ?_)
  subst hl
  unfold fn_Md_in
  refine ah_iload_n C d_Md_in_0 rfl ?_
  refine ah_iload_n C d_Md_in_1 rfl ?_
  refine ah_icmp_lt (tgt := 14) C d_Md_in_2 rfl (fun _ => ?_) (fun _ => ?_)
  · refine ah_iconst (v := 0) C d_Md_in_14 rfl ?_
    exact ah_zret C hr hlk d_Md_in_15
  · refine ah_iload_n C d_Md_in_5 rfl ?_
    refine ah_iload_n C d_Md_in_6 rfl ?_
    refine ah_icmp_gt (tgt := 14) C d_Md_in_7 rfl (fun _ => ?_) (fun _ => ?_)
    · refine ah_iconst (v := 0) C d_Md_in_14 rfl ?_
      exact ah_zret C hr hlk d_Md_in_15
    · refine ah_iconst (v := 1) C d_Md_in_10 rfl ?_
      refine ah_goto (tgt := 15) C d_Md_in_11 rfl ?_
      exact ah_zret C hr hlk d_Md_in_15
set_option maxRecDepth 100000 in
set_option maxHeartbeats 4000000 in
theorem ok_Md_type_B70 {E : ahE} {X : ahX} (C : ah_Cx E X prog_13_method_3_code 5 "BoundedTypesModel" 1 22) (hr : (ax_M X).sig.returnType = some .boolean) (hlk : (ax_M X).locks = false) (t : Nat) (v1 : Int32) (v3 : Int32) : ∀ (n : Nat) (v4 : Int32), ah_S E X (ah_Q E X rv_I) 70 [some (va_rf (some t)), some (.int v1), none, some (.int v3), some (.int v4)] [] (ah_lp (fn_Md_type_B70 t v1 v3) n v4) := by
  intro n
  induction n with
  | zero => intro v4 h r n u c hs; cases hs
  | succ n hk70 =>
    intro v4
    show ah_S E X (ah_Q E X rv_I) 70 _ _ (fn_Md_type_B70 t v1 v3 (ah_lp (fn_Md_type_B70 t v1 v3) n) v4)
    generalize ah_lp (fn_Md_type_B70 t v1 v3) n = k70 at hk70 ⊢
    rw [fn_Md_type_B70]
    refine ah_iload C d_Md_type_70 rfl ?_
    refine ah_if_lt (tgt := 115) C d_Md_type_72 rfl (fun _ => ?_) (fun _ => ?_)
    · refine ah_iload_n C d_Md_type_115 rfl ?_
      exact ah_zret C hr hlk d_Md_type_116
    · refine ah_iload_n C d_Md_type_75 rfl ?_
      refine ah_if_eq (tgt := 115) C d_Md_type_76 rfl (fun _ => ?_) (fun _ => ?_)
      · refine ah_iload_n C d_Md_type_115 rfl ?_
        exact ah_zret C hr hlk d_Md_type_116
      · refine ah_aload_n C d_Md_type_79 rfl ?_
        refine ah_getR (ci := 12) (k := 0) C rfl (by decide) rfl (Or.inl we307) d_Md_type_80 (fun x80 => ?_)
        refine ah_aload_n C d_Md_type_83 rfl ?_
        refine ah_getI (ci := 12) (k := 1) C rfl (by decide) rfl (Or.inl we347) d_Md_type_84 (fun x84 => ?_)
        refine ah_iload_n C d_Md_type_87 rfl ?_
        refine ah_bipush (v := 8) C d_Md_type_88 rfl ?_
        refine ah_iload C d_Md_type_90 rfl ?_
        refine ah_imul C d_Md_type_92 ?_
        refine ah_ishr C d_Md_type_93 ?_
        refine ah_sipush (v := 255) C d_Md_type_94 rfl ?_
        refine ah_iand C d_Md_type_97 ?_
        refine ah_iastore C rfl rfl d_Md_type_98 ?_
        refine ah_aload_n C d_Md_type_99 rfl ?_
        refine ah_aload_n C d_Md_type_100 rfl ?_
        refine ah_getI (ci := 12) (k := 1) C rfl (by decide) rfl (Or.inl we347) d_Md_type_101 (fun x101 => ?_)
        refine ah_iconst (v := 1) C d_Md_type_104 rfl ?_
        refine ah_iadd C d_Md_type_105 ?_
        refine ah_putI (ci := 12) (k := 1) C rfl (by decide) rfl (Or.inl we347) (Or.inl rfl) rfl rfl d_Md_type_106 ?_
        refine ah_iinc (lv' := [some (va_rf (some t)), some (.int v1), none, some (.int v3), some (.int (v4 + (-1 : Int32)))]) C d_Md_type_109 rfl rfl rfl ?_
        refine ah_goto (tgt := 70) C d_Md_type_112 rfl ?_
        refine ah_mask [true, true, false, true, true] (lv' := [some (va_rf (some t)), some (.int v1), none, some (.int v3), some (.int (v4 + (-1 : Int32)))]) rfl ?_
        exact hk70 (v4 + (-1 : Int32))
set_option maxRecDepth 100000 in
set_option maxHeartbeats 4000000 in
theorem ok_Md_type_J65 {E : ahE} {X : ahX} (C : ah_Cx E X prog_13_method_3_code 5 "BoundedTypesModel" 1 22) (hr : (ax_M X).sig.returnType = some .boolean) (hlk : (ax_M X).locks = false) (t : Nat) (v1 : Int32) (v2 : Int32) (v3 : Int32) : ah_S E X (ah_Q E X rv_I) 65 [some (va_rf (some t)), some (.int v1), some (.int v2), some (.int v3), none] [] (fn_Md_type_J65 t v1 v2 v3) := by
  unfold fn_Md_type_J65
  refine ah_iload_n C d_Md_type_65 rfl ?_
  refine ah_iconst (v := 1) C d_Md_type_66 rfl ?_
  refine ah_isub C d_Md_type_67 ?_
  refine ah_istore (lv' := [some (va_rf (some t)), some (.int v1), some (.int v2), some (.int v3), some (.int (v2 - (1 : Int32)))]) C d_Md_type_68 (Nat.le_of_ble_eq_true rfl) rfl ?_
  refine ah_mask [true, true, false, true, true] (lv' := [some (va_rf (some t)), some (.int v1), none, some (.int v3), some (.int (v2 - (1 : Int32)))]) rfl ?_
  exact ok_Md_type_B70 C hr hlk t v1 v3 FU (v2 - (1 : Int32))
set_option maxRecDepth 100000 in
set_option maxHeartbeats 4000000 in
theorem ok_Md_type_B30 {E : ahE} {X : ahX} (C : ah_Cx E X prog_13_method_3_code 5 "BoundedTypesModel" 1 22) (hr : (ax_M X).sig.returnType = some .boolean) (hlk : (ax_M X).locks = false) (t : Nat) (v1 : Int32) (v2 : Int32) : ∀ (n : Nat) (v3 : Int32) (v4 : Int32), ah_S E X (ah_Q E X rv_I) 30 [some (va_rf (some t)), some (.int v1), some (.int v2), some (.int v3), some (.int v4)] [] (ah_lp (fn_Md_type_B30 t v1 v2) n (v3, v4)) := by
  intro n
  induction n with
  | zero => intro v3 v4 h r n u c hs; cases hs
  | succ n hk30 =>
    intro v3 v4
    show ah_S E X (ah_Q E X rv_I) 30 _ _ (fn_Md_type_B30 t v1 v2 (ah_lp (fn_Md_type_B30 t v1 v2) n) (v3, v4))
    generalize ah_lp (fn_Md_type_B30 t v1 v2) n = k30 at hk30 ⊢
    rw [fn_Md_type_B30]
    refine ah_iload C d_Md_type_30 rfl ?_
    refine ah_iload_n C d_Md_type_32 rfl ?_
    refine ah_icmp_ge (tgt := 65) C d_Md_type_33 rfl (fun _ => ?_) (fun _ => ?_)
    · refine ah_mask [true, true, true, true, false] (lv' := [some (va_rf (some t)), some (.int v1), some (.int v2), some (.int v3), none]) rfl ?_
      exact ok_Md_type_J65 C hr hlk t v1 v2 v3
    · refine ah_iload_n C d_Md_type_36 rfl ?_
      refine ah_if_eq (tgt := 65) C d_Md_type_37 rfl (fun _ => ?_) (fun _ => ?_)
      · refine ah_mask [true, true, true, true, false] (lv' := [some (va_rf (some t)), some (.int v1), some (.int v2), some (.int v3), none]) rfl ?_
        exact ok_Md_type_J65 C hr hlk t v1 v2 v3
      · refine ah_iload_n C d_Md_type_40 rfl ?_
        refine ah_bipush (v := 8) C d_Md_type_41 rfl ?_
        refine ah_iload C d_Md_type_43 rfl ?_
        refine ah_imul C d_Md_type_45 ?_
        refine ah_ishr C d_Md_type_46 ?_
        refine ah_sipush (v := 255) C d_Md_type_47 rfl ?_
        refine ah_iand C d_Md_type_50 ?_
        refine ah_bipush (v := 32) C d_Md_type_51 rfl ?_
        refine ah_bipush (v := 126) C d_Md_type_53 rfl ?_
        refine ah_callSI (As := [.int ((v1 >>> (((8 : Int32) * v4) &&& 31)) &&& (255 : Int32)), .int (32 : Int32), .int (126 : Int32)]) (rest := []) C (ok_Md_in E _ ((v1 >>> (((8 : Int32) * v4) &&& 31)) &&& (255 : Int32)) (32 : Int32) (126 : Int32)) (Or.inl we349) we350 we300 we348 hy_Md_in (by omega) (by omega) rfl rfl (ah_rs trivial (Nat.le_of_ble_eq_true rfl)) d_Md_type_55 (fun x55 => ?_)
        refine ah_istore_n (lv' := [some (va_rf (some t)), some (.int v1), some (.int v2), some (.int x55), some (.int v4)]) C d_Md_type_58 (Nat.le_of_ble_eq_true rfl) rfl ?_
        refine ah_iinc (lv' := [some (va_rf (some t)), some (.int v1), some (.int v2), some (.int x55), some (.int (v4 + (1 : Int32)))]) C d_Md_type_59 rfl rfl rfl ?_
        refine ah_goto (tgt := 30) C d_Md_type_62 rfl ?_
        refine ah_mask [true, true, true, true, true] (lv' := [some (va_rf (some t)), some (.int v1), some (.int v2), some (.int x55), some (.int (v4 + (1 : Int32)))]) rfl ?_
        exact hk30 x55 (v4 + (1 : Int32))
set_option maxRecDepth 100000 in
set_option maxHeartbeats 4000000 in
theorem ok_Md_type_J26 {E : ahE} {X : ahX} (C : ah_Cx E X prog_13_method_3_code 5 "BoundedTypesModel" 1 22) (hr : (ax_M X).sig.returnType = some .boolean) (hlk : (ax_M X).locks = false) (t : Nat) (v1 : Int32) (v2 : Int32) (w0 : Int32) : ah_S E X (ah_Q E X rv_I) 26 [some (va_rf (some t)), some (.int v1), some (.int v2), none, none] [.int w0] (fn_Md_type_J26 t v1 v2 w0) := by
  unfold fn_Md_type_J26
  refine ah_istore_n (lv' := [some (va_rf (some t)), some (.int v1), some (.int v2), some (.int w0), none]) C d_Md_type_26 (Nat.le_of_ble_eq_true rfl) rfl ?_
  refine ah_iconst (v := 0) C d_Md_type_27 rfl ?_
  refine ah_istore (lv' := [some (va_rf (some t)), some (.int v1), some (.int v2), some (.int w0), some (.int (0 : Int32))]) C d_Md_type_28 (Nat.le_of_ble_eq_true rfl) rfl ?_
  refine ah_mask [true, true, true, true, true] (lv' := [some (va_rf (some t)), some (.int v1), some (.int v2), some (.int w0), some (.int (0 : Int32))]) rfl ?_
  exact ok_Md_type_B30 C hr hlk t v1 v2 FU w0 (0 : Int32)
set_option maxRecDepth 100000 in
set_option maxHeartbeats 4000000 in
theorem ok_Md_type_J25 {E : ahE} {X : ahX} (C : ah_Cx E X prog_13_method_3_code 5 "BoundedTypesModel" 1 22) (hr : (ax_M X).sig.returnType = some .boolean) (hlk : (ax_M X).locks = false) (t : Nat) (v1 : Int32) (v2 : Int32) : ah_S E X (ah_Q E X rv_I) 25 [some (va_rf (some t)), some (.int v1), some (.int v2), none, none] [] (fn_Md_type_J25 t v1 v2) := by
  unfold fn_Md_type_J25
  refine ah_iconst (v := 0) C d_Md_type_25 rfl ?_
  refine ah_mask [true, true, true, false, false] (lv' := [some (va_rf (some t)), some (.int v1), some (.int v2), none, none]) rfl ?_
  exact ok_Md_type_J26 C hr hlk t v1 v2 (0 : Int32)
set_option maxRecDepth 100000 in
set_option maxHeartbeats 4000000 in
theorem ok_Md_type (E : ahE) (l : Launch) (t : Nat) (v1 : Int32) (v2 : Int32) : ah_met E l y_Md_type prog_13_method_3_code 5 (some .boolean) 1 22 rv_I [.ref t, .int v1, .int v2] (fn_Md_type t v1 v2) := by
  refine ah_met_of (by decide +kernel) (ah_c1_all ⟨rfl, rfl, rfl, trivial⟩) (Nat.le_of_ble_eq_true rfl) (lv := [some (va_rf (some t)), some (.int v1), some (.int v2), none, none]) rfl (fun X C hl hr hlk hnm => ?_)
  subst hl
  unfold fn_Md_type
  refine ah_iload_n C d_Md_type_0 rfl ?_
  refine ah_iconst (v := 1) C d_Md_type_1 rfl ?_
  refine ah_iconst (v := 4) C d_Md_type_2 rfl ?_
  refine ah_callSI (As := [.int v2, .int (1 : Int32), .int (4 : Int32)]) (rest := []) C (ok_Md_in E _ v2 (1 : Int32) (4 : Int32)) (Or.inl we349) we350 we300 we348 hy_Md_in (by omega) (by omega) rfl rfl (ah_rs trivial (Nat.le_of_ble_eq_true rfl)) d_Md_type_3 (fun x3 => ?_)
  refine ah_if_eq (tgt := 25) C d_Md_type_6 rfl (fun _ => ?_) (fun _ => ?_)
  · refine ah_mask [true, true, true, false, false] (lv' := [some (va_rf (some t)), some (.int v1), some (.int v2), none, none]) rfl ?_
    exact ok_Md_type_J25 C hr hlk t v1 v2
  · refine ah_aload_n C d_Md_type_9 rfl ?_
    refine ah_getI (ci := 12) (k := 1) C rfl (by decide) rfl (Or.inl we347) d_Md_type_10 (fun x10 => ?_)
    refine ah_iload_n C d_Md_type_13 rfl ?_
    refine ah_iadd C d_Md_type_14 ?_
    refine ah_sipush (v := 140) C d_Md_type_15 rfl ?_
    refine ah_icmp_gt (tgt := 25) C d_Md_type_18 rfl (fun _ => ?_) (fun _ => ?_)
    · refine ah_mask [true, true, true, false, false] (lv' := [some (va_rf (some t)), some (.int v1), some (.int v2), none, none]) rfl ?_
      exact ok_Md_type_J25 C hr hlk t v1 v2
    · refine ah_iconst (v := 1) C d_Md_type_21 rfl ?_
      refine ah_goto (tgt := 26) C d_Md_type_22 rfl ?_
      refine ah_mask [true, true, true, false, false] (lv' := [some (va_rf (some t)), some (.int v1), some (.int v2), none, none]) rfl ?_
      exact ok_Md_type_J26 C hr hlk t v1 v2 (1 : Int32)
set_option maxRecDepth 100000 in
set_option maxHeartbeats 4000000 in
theorem ok_Md_begin (E : ahE) (l : Launch) (t : Nat) : ah_met E l y_Md_begin prog_13_method_41_code 1 none 0 0 rv_V [.ref t] (fn_Md_begin t) := by
  refine ah_met_of (by decide +kernel) (ah_c1_all ⟨rfl, trivial⟩) (Nat.le_of_ble_eq_true rfl) (lv := [some (va_rf (some t))]) rfl (fun X C hl hr hlk hnm => ?_)
  subst hl
  unfold fn_Md_begin
  refine ah_aload_n C d_Md_begin_0 rfl ?_
  refine ah_iconst (v := 0) C d_Md_begin_1 rfl ?_
  refine ah_putI (ci := 12) (k := 3) C rfl (by decide) rfl (Or.inl we351) (Or.inl rfl) rfl rfl d_Md_begin_2 ?_
  refine ah_aload_n C d_Md_begin_5 rfl ?_
  refine ah_aload_n C d_Md_begin_6 rfl ?_
  refine ah_getI (ci := 12) (k := 1) C rfl (by decide) rfl (Or.inl we347) d_Md_begin_7 (fun x7 => ?_)
  refine ah_putI (ci := 12) (k := 2) C rfl (by decide) rfl (Or.inl we352) (Or.inl rfl) rfl rfl d_Md_begin_10 ?_
  refine ah_aload_n C d_Md_begin_13 rfl ?_
  refine ah_iconst (v := 0) C d_Md_begin_14 rfl ?_
  refine ah_putI (ci := 12) (k := 1) C rfl (by decide) rfl (Or.inl we347) (Or.inl rfl) rfl rfl d_Md_begin_15 ?_
  refine ah_aload_n C d_Md_begin_18 rfl ?_
  refine ah_iconst (v := 0) C d_Md_begin_19 rfl ?_
  refine ah_putI (ci := 12) (k := 4) C rfl (by decide) rfl (Or.inl we353) (Or.inl rfl) rfl rfl d_Md_begin_20 ?_
  refine ah_aload_n C d_Md_begin_23 rfl ?_
  refine ah_iconst (v := -1) C d_Md_begin_24 rfl ?_
  refine ah_putI (ci := 12) (k := 5) C rfl (by decide) rfl (Or.inl we354) (Or.inl rfl) rfl rfl d_Md_begin_25 ?_
  refine ah_aload_n C d_Md_begin_28 rfl ?_
  refine ah_iconst (v := 0) C d_Md_begin_29 rfl ?_
  refine ah_putI (ci := 12) (k := 20) C rfl (by decide) rfl (Or.inl we355) (Or.inl rfl) rfl rfl d_Md_begin_30 ?_
  exact ah_vret C hr hlk d_Md_begin_33
set_option maxRecDepth 100000 in
set_option maxHeartbeats 4000000 in
theorem ok_Md_look_J38 {E : ahE} {X : ahX} (C : ah_Cx E X prog_13_method_20_code 1 "BoundedTypesModel" 0 0) (hr : (ax_M X).sig.returnType = some .int) (hlk : (ax_M X).locks = false) (t : Nat) : ah_S E X (ah_Q E X rv_I) 38 [some (va_rf (some t))] [] (fn_Md_look_J38 t) := by
  unfold fn_Md_look_J38
  refine ah_aload_n C d_Md_look_38 rfl ?_
  refine ah_getI (ci := 12) (k := 3) C rfl (by decide) rfl (Or.inl we351) d_Md_look_39 (fun x39 => ?_)
  refine ah_aload_n C d_Md_look_42 rfl ?_
  refine ah_getI (ci := 12) (k := 2) C rfl (by decide) rfl (Or.inl we352) d_Md_look_43 (fun x43 => ?_)
  refine ah_icmp_ge (tgt := 61) C d_Md_look_46 rfl (fun _ => ?_) (fun _ => ?_)
  · refine ah_iconst (v := -1) C d_Md_look_61 rfl ?_
    exact ah_iret C hr hlk rfl d_Md_look_62
  · refine ah_aload_n C d_Md_look_49 rfl ?_
    refine ah_getR (ci := 12) (k := 0) C rfl (by decide) rfl (Or.inl we307) d_Md_look_50 (fun x50 => ?_)
    refine ah_aload_n C d_Md_look_53 rfl ?_
    refine ah_getI (ci := 12) (k := 3) C rfl (by decide) rfl (Or.inl we351) d_Md_look_54 (fun x54 => ?_)
    refine ah_iaload C rfl rfl d_Md_look_57 (fun x57 => ?_)
    refine ah_goto (tgt := 62) C d_Md_look_58 rfl ?_
    exact ah_iret C hr hlk rfl d_Md_look_62
set_option maxRecDepth 100000 in
set_option maxHeartbeats 4000000 in
theorem ok_Md_look_B0 {E : ahE} {X : ahX} (C : ah_Cx E X prog_13_method_20_code 1 "BoundedTypesModel" 0 0) (hr : (ax_M X).sig.returnType = some .int) (hlk : (ax_M X).locks = false) (t : Nat) : ∀ (n : Nat), ah_S E X (ah_Q E X rv_I) 0 [some (va_rf (some t))] [] (ah_lp (fn_Md_look_B0 t) n ()) := by
  intro n
  induction n with
  | zero => intro h r n u c hs; cases hs
  | succ n hk0 =>
    show ah_S E X (ah_Q E X rv_I) 0 _ _ (fn_Md_look_B0 t (ah_lp (fn_Md_look_B0 t) n) ())
    generalize ah_lp (fn_Md_look_B0 t) n = k0 at hk0 ⊢
    rw [fn_Md_look_B0]
    refine ah_aload_n C d_Md_look_0 rfl ?_
    refine ah_getI (ci := 12) (k := 3) C rfl (by decide) rfl (Or.inl we351) d_Md_look_1 (fun x1 => ?_)
    refine ah_aload_n C d_Md_look_4 rfl ?_
    refine ah_getI (ci := 12) (k := 2) C rfl (by decide) rfl (Or.inl we352) d_Md_look_5 (fun x5 => ?_)
    refine ah_icmp_ge (tgt := 38) C d_Md_look_8 rfl (fun _ => ?_) (fun _ => ?_)
    · refine ah_mask [true] (lv' := [some (va_rf (some t))]) rfl ?_
      exact ok_Md_look_J38 C hr hlk t
    · refine ah_aload_n C d_Md_look_11 rfl ?_
      refine ah_getR (ci := 12) (k := 0) C rfl (by decide) rfl (Or.inl we307) d_Md_look_12 (fun x12 => ?_)
      refine ah_aload_n C d_Md_look_15 rfl ?_
      refine ah_getI (ci := 12) (k := 3) C rfl (by decide) rfl (Or.inl we351) d_Md_look_16 (fun x16 => ?_)
      refine ah_iaload C rfl rfl d_Md_look_19 (fun x19 => ?_)
      refine ah_bipush (v := 32) C d_Md_look_20 rfl ?_
      refine ah_icmp_ne (tgt := 38) C d_Md_look_22 rfl (fun _ => ?_) (fun _ => ?_)
      · refine ah_mask [true] (lv' := [some (va_rf (some t))]) rfl ?_
        exact ok_Md_look_J38 C hr hlk t
      · refine ah_aload_n C d_Md_look_25 rfl ?_
        refine ah_aload_n C d_Md_look_26 rfl ?_
        refine ah_getI (ci := 12) (k := 3) C rfl (by decide) rfl (Or.inl we351) d_Md_look_27 (fun x27 => ?_)
        refine ah_iconst (v := 1) C d_Md_look_30 rfl ?_
        refine ah_iadd C d_Md_look_31 ?_
        refine ah_putI (ci := 12) (k := 3) C rfl (by decide) rfl (Or.inl we351) (Or.inl rfl) rfl rfl d_Md_look_32 ?_
        refine ah_goto (tgt := 0) C d_Md_look_35 rfl ?_
        refine ah_mask [true] (lv' := [some (va_rf (some t))]) rfl ?_
        exact hk0
set_option maxRecDepth 100000 in
set_option maxHeartbeats 4000000 in
theorem ok_Md_look (E : ahE) (l : Launch) (t : Nat) : ah_met E l y_Md_look prog_13_method_20_code 1 (some .int) 0 0 rv_I [.ref t] (fn_Md_look t) := by
  refine ah_met_of (by decide +kernel) (ah_c1_all ⟨rfl, trivial⟩) (Nat.le_of_ble_eq_true rfl) (lv := [some (va_rf (some t))]) rfl (fun X C hl hr hlk hnm => ?_)
  subst hl
  unfold fn_Md_look
  refine ah_aload_n C d_Md_look_0 rfl ?_
  refine ah_getI (ci := 12) (k := 3) C rfl (by decide) rfl (Or.inl we351) d_Md_look_1 (fun x1 => ?_)
  refine ah_aload_n C d_Md_look_4 rfl ?_
  refine ah_getI (ci := 12) (k := 2) C rfl (by decide) rfl (Or.inl we352) d_Md_look_5 (fun x5 => ?_)
  refine ah_icmp_ge (tgt := 38) C d_Md_look_8 rfl (fun _ => ?_) (fun _ => ?_)
  · refine ah_mask [true] (lv' := [some (va_rf (some t))]) rfl ?_
    exact ok_Md_look_J38 C hr hlk t
  · refine ah_aload_n C d_Md_look_11 rfl ?_
    refine ah_getR (ci := 12) (k := 0) C rfl (by decide) rfl (Or.inl we307) d_Md_look_12 (fun x12 => ?_)
    refine ah_aload_n C d_Md_look_15 rfl ?_
    refine ah_getI (ci := 12) (k := 3) C rfl (by decide) rfl (Or.inl we351) d_Md_look_16 (fun x16 => ?_)
    refine ah_iaload C rfl rfl d_Md_look_19 (fun x19 => ?_)
    refine ah_bipush (v := 32) C d_Md_look_20 rfl ?_
    refine ah_icmp_ne (tgt := 38) C d_Md_look_22 rfl (fun _ => ?_) (fun _ => ?_)
    · refine ah_mask [true] (lv' := [some (va_rf (some t))]) rfl ?_
      exact ok_Md_look_J38 C hr hlk t
    · refine ah_aload_n C d_Md_look_25 rfl ?_
      refine ah_aload_n C d_Md_look_26 rfl ?_
      refine ah_getI (ci := 12) (k := 3) C rfl (by decide) rfl (Or.inl we351) d_Md_look_27 (fun x27 => ?_)
      refine ah_iconst (v := 1) C d_Md_look_30 rfl ?_
      refine ah_iadd C d_Md_look_31 ?_
      refine ah_putI (ci := 12) (k := 3) C rfl (by decide) rfl (Or.inl we351) (Or.inl rfl) rfl rfl d_Md_look_32 ?_
      refine ah_goto (tgt := 0) C d_Md_look_35 rfl ?_
      refine ah_mask [true] (lv' := [some (va_rf (some t))]) rfl ?_
      exact ok_Md_look_B0 C hr hlk t FU
set_option maxRecDepth 100000 in
set_option maxHeartbeats 4000000 in
theorem ok_Md_fail_J24 {E : ahE} {X : ahX} (C : ah_Cx E X prog_13_method_21_code 1 "BoundedTypesModel" 1 20) (hr : (ax_M X).sig.returnType = none) (hlk : (ax_M X).locks = false) (t : Nat) (w0 : Option Nat) (w1 : Int32) : ah_S E X (ah_Q E X rv_V) 24 [some (va_rf (some t))] [.int w1, va_rf w0] (fn_Md_fail_J24 t w0 w1) := by
  unfold fn_Md_fail_J24
  refine ah_putI (ci := 12) (k := 5) C rfl (by decide) rfl (Or.inl we354) (Or.inl rfl) rfl rfl d_Md_fail_24 ?_
  exact ah_vret C hr hlk d_Md_fail_27
set_option maxRecDepth 100000 in
set_option maxHeartbeats 4000000 in
theorem ok_Md_fail (E : ahE) (l : Launch) (t : Nat) : ah_met E l y_Md_fail prog_13_method_21_code 1 none 1 20 rv_V [.ref t] (fn_Md_fail t) := by
  refine ah_met_of (by decide +kernel) (ah_c1_all ⟨rfl, trivial⟩) (Nat.le_of_ble_eq_true rfl) (lv := [some (va_rf (some t))]) rfl (fun X C hl hr hlk hnm => ?_)
  subst hl
  unfold fn_Md_fail
  refine ah_aload_n C d_Md_fail_0 rfl ?_
  refine ah_callVI (ci := 12) (As := []) (rest := []) C (fun b => ok_Md_look E _ b) rfl (Or.inl we357) we358 we359 we300 we356 hy_Md_look (by omega) (by omega) rfl rfl (ah_rs trivial (Nat.le_of_ble_eq_true rfl)) d_Md_fail_1 (fun x1 => ?_)
  refine ah_pop C d_Md_fail_4 rfl ?_
  refine ah_aload_n C d_Md_fail_5 rfl ?_
  refine ah_aload_n C d_Md_fail_6 rfl ?_
  refine ah_getI (ci := 12) (k := 5) C rfl (by decide) rfl (Or.inl we354) d_Md_fail_7 (fun x7 => ?_)
  refine ah_if_ge (tgt := 20) C d_Md_fail_10 rfl (fun _ => ?_) (fun _ => ?_)
  · refine ah_aload_n C d_Md_fail_20 rfl ?_
    refine ah_getI (ci := 12) (k := 5) C rfl (by decide) rfl (Or.inl we354) d_Md_fail_21 (fun x21 => ?_)
    refine ah_mask [true] (lv' := [some (va_rf (some t))]) rfl ?_
    exact ok_Md_fail_J24 C hr hlk t (some t) x21
  · refine ah_aload_n C d_Md_fail_13 rfl ?_
    refine ah_getI (ci := 12) (k := 3) C rfl (by decide) rfl (Or.inl we351) d_Md_fail_14 (fun x14 => ?_)
    refine ah_goto (tgt := 24) C d_Md_fail_17 rfl ?_
    refine ah_mask [true] (lv' := [some (va_rf (some t))]) rfl ?_
    exact ok_Md_fail_J24 C hr hlk t (some t) x14
set_option maxRecDepth 100000 in
set_option maxHeartbeats 4000000 in
theorem ok_Md_readLetter_J18 {E : ahE} {X : ahX} (C : ah_Cx E X prog_13_method_25_code 4 "BoundedTypesModel" 2 40) (hr : (ax_M X).sig.returnType = some .int) (hlk : (ax_M X).locks = false) (t : Nat) (v1 : Int32) (v3 : Int32) : ah_S E X (ah_Q E X rv_I) 18 [some (va_rf (some t)), some (.int v1), none, some (.int v3)] [] (fn_Md_readLetter_J18 t v1 v3) := by
  unfold fn_Md_readLetter_J18
  refine ah_aload_n C d_Md_readLetter_18 rfl ?_
  refine ah_aload_n C d_Md_readLetter_19 rfl ?_
  refine ah_getI (ci := 12) (k := 3) C rfl (by decide) rfl (Or.inl we351) d_Md_readLetter_20 (fun x20 => ?_)
  refine ah_iconst (v := 1) C d_Md_readLetter_23 rfl ?_
  refine ah_iadd C d_Md_readLetter_24 ?_
  refine ah_putI (ci := 12) (k := 3) C rfl (by decide) rfl (Or.inl we351) (Or.inl rfl) rfl rfl d_Md_readLetter_25 ?_
  refine ah_aload_n C d_Md_readLetter_28 rfl ?_
  refine ah_getI (ci := 12) (k := 5) C rfl (by decide) rfl (Or.inl we354) d_Md_readLetter_29 (fun x29 => ?_)
  refine ah_if_ge (tgt := 41) C d_Md_readLetter_32 rfl (fun _ => ?_) (fun _ => ?_)
  · refine ah_iconst (v := 0) C d_Md_readLetter_41 rfl ?_
    exact ah_iret C hr hlk rfl d_Md_readLetter_42
  · refine ah_iload_n C d_Md_readLetter_35 rfl ?_
    refine ah_iload_n C d_Md_readLetter_36 rfl ?_
    refine ah_isub C d_Md_readLetter_37 ?_
    refine ah_goto (tgt := 42) C d_Md_readLetter_38 rfl ?_
    exact ah_iret C hr hlk rfl d_Md_readLetter_42
set_option maxRecDepth 100000 in
set_option maxHeartbeats 4000000 in
theorem ok_Md_readLetter (E : ahE) (l : Launch) (t : Nat) (v1 : Int32) (v2 : Int32) : ah_met E l y_Md_readLetter prog_13_method_25_code 4 (some .int) 2 40 rv_I [.ref t, .int v1, .int v2] (fn_Md_readLetter t v1 v2) := by
  refine ah_met_of (by decide +kernel) (ah_c1_all ⟨rfl, rfl, rfl, trivial⟩) (Nat.le_of_ble_eq_true rfl) (lv := [some (va_rf (some t)), some (.int v1), some (.int v2), none]) rfl (fun X C hl hr hlk hnm => ?_)
  subst hl
  unfold fn_Md_readLetter
  refine ah_aload_n C d_Md_readLetter_0 rfl ?_
  refine ah_callVI (ci := 12) (As := []) (rest := []) C (fun b => ok_Md_look E _ b) rfl (Or.inl we357) we358 we359 we300 we356 hy_Md_look (by omega) (by omega) rfl rfl (ah_rs trivial (Nat.le_of_ble_eq_true rfl)) d_Md_readLetter_1 (fun x1 => ?_)
  refine ah_istore_n (lv' := [some (va_rf (some t)), some (.int v1), some (.int v2), some (.int x1)]) C d_Md_readLetter_4 (Nat.le_of_ble_eq_true rfl) rfl ?_
  refine ah_iload_n C d_Md_readLetter_5 rfl ?_
  refine ah_iload_n C d_Md_readLetter_6 rfl ?_
  refine ah_iload_n C d_Md_readLetter_7 rfl ?_
  refine ah_callSI (As := [.int x1, .int v1, .int v2]) (rest := []) C (ok_Md_in E _ x1 v1 v2) (Or.inl we349) we350 we300 we348 hy_Md_in (by omega) (by omega) rfl rfl (ah_rs trivial (Nat.le_of_ble_eq_true rfl)) d_Md_readLetter_8 (fun x8 => ?_)
  refine ah_if_ne (tgt := 18) C d_Md_readLetter_11 rfl (fun _ => ?_) (fun _ => ?_)
  · refine ah_mask [true, true, false, true] (lv' := [some (va_rf (some t)), some (.int v1), none, some (.int x1)]) rfl ?_
    exact ok_Md_readLetter_J18 C hr hlk t v1 x1
  · refine ah_aload_n C d_Md_readLetter_14 rfl ?_
    refine ah_callVV (ci := 12) (As := []) (rest := []) C (fun b => ok_Md_fail E _ b) rfl (Or.inl we361) we362 we363 we300 we360 hy_Md_fail (by omega) (by omega) rfl rfl (ah_rs trivial (Nat.le_of_ble_eq_true rfl)) d_Md_readLetter_15 ?_
    refine ah_mask [true, true, false, true] (lv' := [some (va_rf (some t)), some (.int v1), none, some (.int x1)]) rfl ?_
    exact ok_Md_readLetter_J18 C hr hlk t v1 x1
set_option maxRecDepth 100000 in
set_option maxHeartbeats 4000000 in
theorem ok_Md_open_J21 {E : ahE} {X : ahX} (C : ah_Cx E X prog_13_method_23_code 2 "BoundedTypesModel" 2 40) (hr : (ax_M X).sig.returnType = none) (hlk : (ax_M X).locks = false) (t : Nat) : ah_S E X (ah_Q E X rv_V) 21 [some (va_rf (some t)), none] [] (fn_Md_open_J21 t) := by
  unfold fn_Md_open_J21
  refine ah_aload_n C d_Md_open_21 rfl ?_
  refine ah_aload_n C d_Md_open_22 rfl ?_
  refine ah_getI (ci := 12) (k := 3) C rfl (by decide) rfl (Or.inl we351) d_Md_open_23 (fun x23 => ?_)
  refine ah_iconst (v := 1) C d_Md_open_26 rfl ?_
  refine ah_iadd C d_Md_open_27 ?_
  refine ah_putI (ci := 12) (k := 3) C rfl (by decide) rfl (Or.inl we351) (Or.inl rfl) rfl rfl d_Md_open_28 ?_
  refine ah_aload_n C d_Md_open_31 rfl ?_
  refine ah_aload_n C d_Md_open_32 rfl ?_
  refine ah_getI (ci := 12) (k := 4) C rfl (by decide) rfl (Or.inl we353) d_Md_open_33 (fun x33 => ?_)
  refine ah_iconst (v := 1) C d_Md_open_36 rfl ?_
  refine ah_iadd C d_Md_open_37 ?_
  refine ah_putI (ci := 12) (k := 4) C rfl (by decide) rfl (Or.inl we353) (Or.inl rfl) rfl rfl d_Md_open_38 ?_
  exact ah_vret C hr hlk d_Md_open_41
set_option maxRecDepth 100000 in
set_option maxHeartbeats 4000000 in
theorem ok_Md_open_J17 {E : ahE} {X : ahX} (C : ah_Cx E X prog_13_method_23_code 2 "BoundedTypesModel" 2 40) (hr : (ax_M X).sig.returnType = none) (hlk : (ax_M X).locks = false) (t : Nat) : ah_S E X (ah_Q E X rv_V) 17 [some (va_rf (some t)), none] [] (fn_Md_open_J17 t) := by
  unfold fn_Md_open_J17
  refine ah_aload_n C d_Md_open_17 rfl ?_
  refine ah_callVV (ci := 12) (As := []) (rest := []) C (fun b => ok_Md_fail E _ b) rfl (Or.inl we361) we362 we363 we300 we360 hy_Md_fail (by omega) (by omega) rfl rfl (ah_rs trivial (Nat.le_of_ble_eq_true rfl)) d_Md_open_18 ?_
  refine ah_mask [true, false] (lv' := [some (va_rf (some t)), none]) rfl ?_
  exact ok_Md_open_J21 C hr hlk t
set_option maxRecDepth 100000 in
set_option maxHeartbeats 4000000 in
theorem ok_Md_open (E : ahE) (l : Launch) (t : Nat) (v1 : Int32) : ah_met E l y_Md_open prog_13_method_23_code 2 none 2 40 rv_V [.ref t, .int v1] (fn_Md_open t v1) := by
  refine ah_met_of (by decide +kernel) (ah_c1_all ⟨rfl, rfl, trivial⟩) (Nat.le_of_ble_eq_true rfl) (lv := [some (va_rf (some t)), some (.int v1)]) rfl (fun X C hl hr hlk hnm => ?_)
  subst hl
  unfold fn_Md_open
  refine ah_aload_n C d_Md_open_0 rfl ?_
  refine ah_callVI (ci := 12) (As := []) (rest := []) C (fun b => ok_Md_look E _ b) rfl (Or.inl we357) we358 we359 we300 we356 hy_Md_look (by omega) (by omega) rfl rfl (ah_rs trivial (Nat.le_of_ble_eq_true rfl)) d_Md_open_1 (fun x1 => ?_)
  refine ah_iload_n C d_Md_open_4 rfl ?_
  refine ah_icmp_ne (tgt := 17) C d_Md_open_5 rfl (fun _ => ?_) (fun _ => ?_)
  · refine ah_mask [true, false] (lv' := [some (va_rf (some t)), none]) rfl ?_
    exact ok_Md_open_J17 C hr hlk t
  · refine ah_aload_n C d_Md_open_8 rfl ?_
    refine ah_getI (ci := 12) (k := 4) C rfl (by decide) rfl (Or.inl we353) d_Md_open_9 (fun x9 => ?_)
    refine ah_bipush (v := 8) C d_Md_open_12 rfl ?_
    refine ah_icmp_ne (tgt := 21) C d_Md_open_14 rfl (fun _ => ?_) (fun _ => ?_)
    · refine ah_mask [true, false] (lv' := [some (va_rf (some t)), none]) rfl ?_
      exact ok_Md_open_J21 C hr hlk t
    · refine ah_mask [true, false] (lv' := [some (va_rf (some t)), none]) rfl ?_
      exact ok_Md_open_J17 C hr hlk t
set_option maxRecDepth 100000 in
set_option maxHeartbeats 4000000 in
theorem ok_Md_expect_J12 {E : ahE} {X : ahX} (C : ah_Cx E X prog_13_method_22_code 2 "BoundedTypesModel" 2 40) (hr : (ax_M X).sig.returnType = none) (hlk : (ax_M X).locks = false) (t : Nat) : ah_S E X (ah_Q E X rv_V) 12 [some (va_rf (some t)), none] [] (fn_Md_expect_J12 t) := by
  unfold fn_Md_expect_J12
  refine ah_aload_n C d_Md_expect_12 rfl ?_
  refine ah_aload_n C d_Md_expect_13 rfl ?_
  refine ah_getI (ci := 12) (k := 3) C rfl (by decide) rfl (Or.inl we351) d_Md_expect_14 (fun x14 => ?_)
  refine ah_iconst (v := 1) C d_Md_expect_17 rfl ?_
  refine ah_iadd C d_Md_expect_18 ?_
  refine ah_putI (ci := 12) (k := 3) C rfl (by decide) rfl (Or.inl we351) (Or.inl rfl) rfl rfl d_Md_expect_19 ?_
  exact ah_vret C hr hlk d_Md_expect_22
set_option maxRecDepth 100000 in
set_option maxHeartbeats 4000000 in
theorem ok_Md_expect (E : ahE) (l : Launch) (t : Nat) (v1 : Int32) : ah_met E l y_Md_expect prog_13_method_22_code 2 none 2 40 rv_V [.ref t, .int v1] (fn_Md_expect t v1) := by
  refine ah_met_of (by decide +kernel) (ah_c1_all ⟨rfl, rfl, trivial⟩) (Nat.le_of_ble_eq_true rfl) (lv := [some (va_rf (some t)), some (.int v1)]) rfl (fun X C hl hr hlk hnm => ?_)
  subst hl
  unfold fn_Md_expect
  refine ah_aload_n C d_Md_expect_0 rfl ?_
  refine ah_callVI (ci := 12) (As := []) (rest := []) C (fun b => ok_Md_look E _ b) rfl (Or.inl we357) we358 we359 we300 we356 hy_Md_look (by omega) (by omega) rfl rfl (ah_rs trivial (Nat.le_of_ble_eq_true rfl)) d_Md_expect_1 (fun x1 => ?_)
  refine ah_iload_n C d_Md_expect_4 rfl ?_
  refine ah_icmp_eq (tgt := 12) C d_Md_expect_5 rfl (fun _ => ?_) (fun _ => ?_)
  · refine ah_mask [true, false] (lv' := [some (va_rf (some t)), none]) rfl ?_
    exact ok_Md_expect_J12 C hr hlk t
  · refine ah_aload_n C d_Md_expect_8 rfl ?_
    refine ah_callVV (ci := 12) (As := []) (rest := []) C (fun b => ok_Md_fail E _ b) rfl (Or.inl we361) we362 we363 we300 we360 hy_Md_fail (by omega) (by omega) rfl rfl (ah_rs trivial (Nat.le_of_ble_eq_true rfl)) d_Md_expect_9 ?_
    refine ah_mask [true, false] (lv' := [some (va_rf (some t)), none]) rfl ?_
    exact ok_Md_expect_J12 C hr hlk t
set_option maxRecDepth 100000 in
set_option maxHeartbeats 4000000 in
theorem ok_Md_close_J12 {E : ahE} {X : ahX} (C : ah_Cx E X prog_13_method_24_code 2 "BoundedTypesModel" 2 40) (hr : (ax_M X).sig.returnType = none) (hlk : (ax_M X).locks = false) (t : Nat) : ah_S E X (ah_Q E X rv_V) 12 [some (va_rf (some t)), none] [] (fn_Md_close_J12 t) := by
  unfold fn_Md_close_J12
  refine ah_aload_n C d_Md_close_12 rfl ?_
  refine ah_aload_n C d_Md_close_13 rfl ?_
  refine ah_getI (ci := 12) (k := 3) C rfl (by decide) rfl (Or.inl we351) d_Md_close_14 (fun x14 => ?_)
  refine ah_iconst (v := 1) C d_Md_close_17 rfl ?_
  refine ah_iadd C d_Md_close_18 ?_
  refine ah_putI (ci := 12) (k := 3) C rfl (by decide) rfl (Or.inl we351) (Or.inl rfl) rfl rfl d_Md_close_19 ?_
  refine ah_aload_n C d_Md_close_22 rfl ?_
  refine ah_aload_n C d_Md_close_23 rfl ?_
  refine ah_getI (ci := 12) (k := 4) C rfl (by decide) rfl (Or.inl we353) d_Md_close_24 (fun x24 => ?_)
  refine ah_iconst (v := 1) C d_Md_close_27 rfl ?_
  refine ah_isub C d_Md_close_28 ?_
  refine ah_putI (ci := 12) (k := 4) C rfl (by decide) rfl (Or.inl we353) (Or.inl rfl) rfl rfl d_Md_close_29 ?_
  exact ah_vret C hr hlk d_Md_close_32
set_option maxRecDepth 100000 in
set_option maxHeartbeats 4000000 in
theorem ok_Md_close (E : ahE) (l : Launch) (t : Nat) (v1 : Int32) : ah_met E l y_Md_close prog_13_method_24_code 2 none 2 40 rv_V [.ref t, .int v1] (fn_Md_close t v1) := by
  refine ah_met_of (by decide +kernel) (ah_c1_all ⟨rfl, rfl, trivial⟩) (Nat.le_of_ble_eq_true rfl) (lv := [some (va_rf (some t)), some (.int v1)]) rfl (fun X C hl hr hlk hnm => ?_)
  subst hl
  unfold fn_Md_close
  refine ah_aload_n C d_Md_close_0 rfl ?_
  refine ah_callVI (ci := 12) (As := []) (rest := []) C (fun b => ok_Md_look E _ b) rfl (Or.inl we357) we358 we359 we300 we356 hy_Md_look (by omega) (by omega) rfl rfl (ah_rs trivial (Nat.le_of_ble_eq_true rfl)) d_Md_close_1 (fun x1 => ?_)
  refine ah_iload_n C d_Md_close_4 rfl ?_
  refine ah_icmp_eq (tgt := 12) C d_Md_close_5 rfl (fun _ => ?_) (fun _ => ?_)
  · refine ah_mask [true, false] (lv' := [some (va_rf (some t)), none]) rfl ?_
    exact ok_Md_close_J12 C hr hlk t
  · refine ah_aload_n C d_Md_close_8 rfl ?_
    refine ah_callVV (ci := 12) (As := []) (rest := []) C (fun b => ok_Md_fail E _ b) rfl (Or.inl we361) we362 we363 we300 we360 hy_Md_fail (by omega) (by omega) rfl rfl (ah_rs trivial (Nat.le_of_ble_eq_true rfl)) d_Md_close_9 ?_
    refine ah_mask [true, false] (lv' := [some (va_rf (some t)), none]) rfl ?_
    exact ok_Md_close_J12 C hr hlk t
set_option maxRecDepth 100000 in
set_option maxHeartbeats 4000000 in
theorem ok_Md_readType_J258 {E : ahE} {X : ahX} (C : ah_Cx E X prog_13_method_26_code 8 "BoundedTypesModel" 3 63) (hr : (ax_M X).sig.returnType = some .int) (hlk : (ax_M X).locks = false) (t : Nat) (v1 : Int32) (v2 : Int32) (v3 : Int32) (w0 : Int32) (k7 : (Int32 × Int32 × Int32) → ahM Int32) (hk7 : ∀ (z2 : Int32) (z3 : Int32) (z4 : Int32), ah_S E X (ah_Q E X rv_I) 7 [some (va_rf (some t)), some (.int v1), some (.int z2), some (.int z3), some (.int z4), none, none, none] [] (k7 (z2, z3, z4))) : ah_S E X (ah_Q E X rv_I) 258 [some (va_rf (some t)), some (.int v1), some (.int v2), some (.int v3), none, none, none, none] [.int w0] (fn_Md_readType_J258 t v1 v2 v3 w0 k7) := by
  unfold fn_Md_readType_J258
  refine ah_istore (lv' := [some (va_rf (some t)), some (.int v1), some (.int v2), some (.int v3), some (.int w0), none, none, none]) C d_Md_readType_258 (Nat.le_of_ble_eq_true rfl) rfl ?_
  refine ah_goto (tgt := 7) C d_Md_readType_260 rfl ?_
  refine ah_mask [true, true, true, true, true, false, false, false] (lv' := [some (va_rf (some t)), some (.int v1), some (.int v2), some (.int v3), some (.int w0), none, none, none]) rfl ?_
  exact hk7 v2 v3 w0
set_option maxRecDepth 100000 in
set_option maxHeartbeats 4000000 in
theorem ok_Md_readType_J257 {E : ahE} {X : ahX} (C : ah_Cx E X prog_13_method_26_code 8 "BoundedTypesModel" 3 63) (hr : (ax_M X).sig.returnType = some .int) (hlk : (ax_M X).locks = false) (t : Nat) (v1 : Int32) (v2 : Int32) (v3 : Int32) (k7 : (Int32 × Int32 × Int32) → ahM Int32) (hk7 : ∀ (z2 : Int32) (z3 : Int32) (z4 : Int32), ah_S E X (ah_Q E X rv_I) 7 [some (va_rf (some t)), some (.int v1), some (.int z2), some (.int z3), some (.int z4), none, none, none] [] (k7 (z2, z3, z4))) : ah_S E X (ah_Q E X rv_I) 257 [some (va_rf (some t)), some (.int v1), some (.int v2), some (.int v3), none, none, none, none] [] (fn_Md_readType_J257 t v1 v2 v3 k7) := by
  unfold fn_Md_readType_J257
  refine ah_iconst (v := 0) C d_Md_readType_257 rfl ?_
  refine ah_mask [true, true, true, true, false, false, false, false] (lv' := [some (va_rf (some t)), some (.int v1), some (.int v2), some (.int v3), none, none, none, none]) rfl ?_
  exact ok_Md_readType_J258 C hr hlk t v1 v2 v3 (0 : Int32) k7 hk7
set_option maxRecDepth 100000 in
set_option maxHeartbeats 4000000 in
theorem ok_Md_readType_J244 {E : ahE} {X : ahX} (C : ah_Cx E X prog_13_method_26_code 8 "BoundedTypesModel" 3 63) (hr : (ax_M X).sig.returnType = some .int) (hlk : (ax_M X).locks = false) (t : Nat) (v1 : Int32) (v2 : Int32) (v3 : Int32) (v7 : Int32) (k7 : (Int32 × Int32 × Int32) → ahM Int32) (hk7 : ∀ (z2 : Int32) (z3 : Int32) (z4 : Int32), ah_S E X (ah_Q E X rv_I) 7 [some (va_rf (some t)), some (.int v1), some (.int z2), some (.int z3), some (.int z4), none, none, none] [] (k7 (z2, z3, z4))) : ah_S E X (ah_Q E X rv_I) 244 [some (va_rf (some t)), some (.int v1), some (.int v2), some (.int v3), none, none, none, some (.int v7)] [] (fn_Md_readType_J244 t v1 v2 v3 v7 k7) := by
  unfold fn_Md_readType_J244
  refine ah_iload C d_Md_readType_244 rfl ?_
  refine ah_if_ne (tgt := 257) C d_Md_readType_246 rfl (fun _ => ?_) (fun _ => ?_)
  · refine ah_mask [true, true, true, true, false, false, false, false] (lv' := [some (va_rf (some t)), some (.int v1), some (.int v2), some (.int v3), none, none, none, none]) rfl ?_
    exact ok_Md_readType_J257 C hr hlk t v1 v2 v3 k7 hk7
  · refine ah_iload_n C d_Md_readType_249 rfl ?_
    refine ah_if_ne (tgt := 257) C d_Md_readType_250 rfl (fun _ => ?_) (fun _ => ?_)
    · refine ah_mask [true, true, true, true, false, false, false, false] (lv' := [some (va_rf (some t)), some (.int v1), some (.int v2), some (.int v3), none, none, none, none]) rfl ?_
      exact ok_Md_readType_J257 C hr hlk t v1 v2 v3 k7 hk7
    · refine ah_iconst (v := 1) C d_Md_readType_253 rfl ?_
      refine ah_goto (tgt := 258) C d_Md_readType_254 rfl ?_
      refine ah_mask [true, true, true, true, false, false, false, false] (lv' := [some (va_rf (some t)), some (.int v1), some (.int v2), some (.int v3), none, none, none, none]) rfl ?_
      exact ok_Md_readType_J258 C hr hlk t v1 v2 v3 (1 : Int32) k7 hk7
set_option maxRecDepth 100000 in
set_option maxHeartbeats 4000000 in
theorem ok_Md_readType_J240 {E : ahE} {X : ahX} (C : ah_Cx E X prog_13_method_26_code 8 "BoundedTypesModel" 3 63) (hr : (ax_M X).sig.returnType = some .int) (hlk : (ax_M X).locks = false) (t : Nat) (v1 : Int32) (v2 : Int32) (v7 : Int32) (w0 : Int32) (k7 : (Int32 × Int32 × Int32) → ahM Int32) (k148 : (Int32 × Int32 × Int32) → ahM Int32) (hk7 : ∀ (z2 : Int32) (z3 : Int32) (z4 : Int32), ah_S E X (ah_Q E X rv_I) 7 [some (va_rf (some t)), some (.int v1), some (.int z2), some (.int z3), some (.int z4), none, none, none] [] (k7 (z2, z3, z4))) (hk148 : ∀ (z2 : Int32) (z3 : Int32) (z7 : Int32), ah_S E X (ah_Q E X rv_I) 148 [some (va_rf (some t)), some (.int v1), some (.int z2), some (.int z3), none, none, none, some (.int z7)] [] (k148 (z2, z3, z7))) : ah_S E X (ah_Q E X rv_I) 240 [some (va_rf (some t)), some (.int v1), some (.int v2), none, none, none, none, some (.int v7)] [.int w0] (fn_Md_readType_J240 t v1 v2 v7 w0 k7 k148) := by
  unfold fn_Md_readType_J240
  refine ah_istore_n (lv' := [some (va_rf (some t)), some (.int v1), some (.int v2), some (.int w0), none, none, none, some (.int v7)]) C d_Md_readType_240 (Nat.le_of_ble_eq_true rfl) rfl ?_
  refine ah_goto (tgt := 148) C d_Md_readType_241 rfl ?_
  refine ah_mask [true, true, true, true, false, false, false, true] (lv' := [some (va_rf (some t)), some (.int v1), some (.int v2), some (.int w0), none, none, none, some (.int v7)]) rfl ?_
  exact hk148 v2 w0 v7
set_option maxRecDepth 100000 in
set_option maxHeartbeats 4000000 in
theorem ok_Md_readType_J214 {E : ahE} {X : ahX} (C : ah_Cx E X prog_13_method_26_code 8 "BoundedTypesModel" 3 63) (hr : (ax_M X).sig.returnType = some .int) (hlk : (ax_M X).locks = false) (t : Nat) (v1 : Int32) (v2 : Int32) (v7 : Int32) (k7 : (Int32 × Int32 × Int32) → ahM Int32) (k148 : (Int32 × Int32 × Int32) → ahM Int32) (hk7 : ∀ (z2 : Int32) (z3 : Int32) (z4 : Int32), ah_S E X (ah_Q E X rv_I) 7 [some (va_rf (some t)), some (.int v1), some (.int z2), some (.int z3), some (.int z4), none, none, none] [] (k7 (z2, z3, z4))) (hk148 : ∀ (z2 : Int32) (z3 : Int32) (z7 : Int32), ah_S E X (ah_Q E X rv_I) 148 [some (va_rf (some t)), some (.int v1), some (.int z2), some (.int z3), none, none, none, some (.int z7)] [] (k148 (z2, z3, z7))) : ah_S E X (ah_Q E X rv_I) 214 [some (va_rf (some t)), some (.int v1), some (.int v2), none, none, none, none, some (.int v7)] [] (fn_Md_readType_J214 t v1 v2 v7 k7 k148) := by
  unfold fn_Md_readType_J214
  refine ah_aload_n C d_Md_readType_214 rfl ?_
  refine ah_bipush (v := 93) C d_Md_readType_215 rfl ?_
  refine ah_callVV (ci := 12) (As := [.int (93 : Int32)]) (rest := []) C (fun b => ok_Md_close E _ b (93 : Int32)) rfl (Or.inl we365) we366 we367 we300 we364 hy_Md_close (by omega) (by omega) rfl rfl (ah_rs trivial (Nat.le_of_ble_eq_true rfl)) d_Md_readType_217 ?_
  refine ah_iload_n C d_Md_readType_220 rfl ?_
  refine ah_iconst (v := 1) C d_Md_readType_221 rfl ?_
  refine ah_isub C d_Md_readType_222 ?_
  refine ah_istore_n (lv' := [some (va_rf (some t)), some (.int v1), some (.int (v2 - (1 : Int32))), none, none, none, none, some (.int v7)]) C d_Md_readType_223 (Nat.le_of_ble_eq_true rfl) rfl ?_
  refine ah_aload_n C d_Md_readType_224 rfl ?_
  refine ah_getI (ci := 12) (k := 5) C rfl (by decide) rfl (Or.inl we354) d_Md_readType_225 (fun x225 => ?_)
  refine ah_if_ge (tgt := 239) C d_Md_readType_228 rfl (fun _ => ?_) (fun _ => ?_)
  · refine ah_iconst (v := 0) C d_Md_readType_239 rfl ?_
    refine ah_mask [true, true, true, false, false, false, false, true] (lv' := [some (va_rf (some t)), some (.int v1), some (.int (v2 - (1 : Int32))), none, none, none, none, some (.int v7)]) rfl ?_
    exact ok_Md_readType_J240 C hr hlk t v1 (v2 - (1 : Int32)) v7 (0 : Int32) k7 k148 hk7 hk148
  · refine ah_aload_n C d_Md_readType_231 rfl ?_
    refine ah_iload_n C d_Md_readType_232 rfl ?_
    exact ah_Sno
set_option maxRecDepth 100000 in
set_option maxHeartbeats 4000000 in
theorem ok_Md_readType_B148 {E : ahE} {X : ahX} (C : ah_Cx E X prog_13_method_26_code 8 "BoundedTypesModel" 3 63) (hr : (ax_M X).sig.returnType = some .int) (hlk : (ax_M X).locks = false) (t : Nat) (v1 : Int32) (k7 : (Int32 × Int32 × Int32) → ahM Int32) (hk7 : ∀ (z2 : Int32) (z3 : Int32) (z4 : Int32), ah_S E X (ah_Q E X rv_I) 7 [some (va_rf (some t)), some (.int v1), some (.int z2), some (.int z3), some (.int z4), none, none, none] [] (k7 (z2, z3, z4))) : ∀ (n : Nat) (v2 : Int32) (v3 : Int32) (v7 : Int32), ah_S E X (ah_Q E X rv_I) 148 [some (va_rf (some t)), some (.int v1), some (.int v2), some (.int v3), none, none, none, some (.int v7)] [] (ah_lp (fn_Md_readType_B148 t v1 k7) n (v2, v3, v7)) := by
  intro n
  induction n with
  | zero => intro v2 v3 v7 h r n u c hs; cases hs
  | succ n hk148 =>
    intro v2 v3 v7
    show ah_S E X (ah_Q E X rv_I) 148 _ _ (fn_Md_readType_B148 t v1 k7 (ah_lp (fn_Md_readType_B148 t v1 k7) n) (v2, v3, v7))
    generalize ah_lp (fn_Md_readType_B148 t v1 k7) n = k148 at hk148 ⊢
    rw [fn_Md_readType_B148]
    refine ah_aload_n C d_Md_readType_148 rfl ?_
    refine ah_getI (ci := 12) (k := 5) C rfl (by decide) rfl (Or.inl we354) d_Md_readType_149 (fun x149 => ?_)
    refine ah_if_ge (tgt := 244) C d_Md_readType_152 rfl (fun _ => ?_) (fun _ => ?_)
    · refine ah_mask [true, true, true, true, false, false, false, true] (lv' := [some (va_rf (some t)), some (.int v1), some (.int v2), some (.int v3), none, none, none, some (.int v7)]) rfl ?_
      exact ok_Md_readType_J244 C hr hlk t v1 v2 v3 v7 k7 hk7
    · refine ah_iload C d_Md_readType_155 rfl ?_
      refine ah_if_ne (tgt := 244) C d_Md_readType_157 rfl (fun _ => ?_) (fun _ => ?_)
      · refine ah_mask [true, true, true, true, false, false, false, true] (lv' := [some (va_rf (some t)), some (.int v1), some (.int v2), some (.int v3), none, none, none, some (.int v7)]) rfl ?_
        exact ok_Md_readType_J244 C hr hlk t v1 v2 v3 v7 k7 hk7
      · refine ah_iload_n C d_Md_readType_160 rfl ?_
        refine ah_if_le (tgt := 244) C d_Md_readType_161 rfl (fun _ => ?_) (fun _ => ?_)
        · refine ah_mask [true, true, true, true, false, false, false, true] (lv' := [some (va_rf (some t)), some (.int v1), some (.int v2), some (.int v3), none, none, none, some (.int v7)]) rfl ?_
          exact ok_Md_readType_J244 C hr hlk t v1 v2 v3 v7 k7 hk7
        · refine ah_aload_n C d_Md_readType_164 rfl ?_
          refine ah_iload_n C d_Md_readType_165 rfl ?_
          refine ah_iconst (v := 1) C d_Md_readType_166 rfl ?_
          refine ah_isub C d_Md_readType_167 ?_
          refine ah_iload_n C d_Md_readType_168 rfl ?_
          exact ah_Sno
set_option maxRecDepth 100000 in
set_option maxHeartbeats 4000000 in
theorem ok_Md_readType_J144 {E : ahE} {X : ahX} (C : ah_Cx E X prog_13_method_26_code 8 "BoundedTypesModel" 3 63) (hr : (ax_M X).sig.returnType = some .int) (hlk : (ax_M X).locks = false) (t : Nat) (v1 : Int32) (v2 : Int32) (v3 : Int32) (v5 : Int32) (k7 : (Int32 × Int32 × Int32) → ahM Int32) (hk7 : ∀ (z2 : Int32) (z3 : Int32) (z4 : Int32), ah_S E X (ah_Q E X rv_I) 7 [some (va_rf (some t)), some (.int v1), some (.int z2), some (.int z3), some (.int z4), none, none, none] [] (k7 (z2, z3, z4))) : ah_S E X (ah_Q E X rv_I) 144 [some (va_rf (some t)), some (.int v1), some (.int v2), some (.int v3), none, some (.int v5), none, none] [] (fn_Md_readType_J144 t v1 v2 v3 v5 k7) := by
  unfold fn_Md_readType_J144
  refine ah_iload C d_Md_readType_144 rfl ?_
  refine ah_istore (lv' := [some (va_rf (some t)), some (.int v1), some (.int v2), some (.int v3), none, some (.int v5), none, some (.int v5)]) C d_Md_readType_146 (Nat.le_of_ble_eq_true rfl) rfl ?_
  refine ah_mask [true, true, true, true, false, false, false, true] (lv' := [some (va_rf (some t)), some (.int v1), some (.int v2), some (.int v3), none, none, none, some (.int v5)]) rfl ?_
  exact ok_Md_readType_B148 C hr hlk t v1 k7 hk7 FU v2 v3 v5
set_option maxRecDepth 100000 in
set_option maxHeartbeats 4000000 in
theorem ok_Md_readType_J91 {E : ahE} {X : ahX} (C : ah_Cx E X prog_13_method_26_code 8 "BoundedTypesModel" 3 63) (hr : (ax_M X).sig.returnType = some .int) (hlk : (ax_M X).locks = false) (t : Nat) (v1 : Int32) (v2 : Int32) (v3 : Int32) (v7 : Int32) (w0 : Int32) (k7 : (Int32 × Int32 × Int32) → ahM Int32) (hk7 : ∀ (z2 : Int32) (z3 : Int32) (z4 : Int32), ah_S E X (ah_Q E X rv_I) 7 [some (va_rf (some t)), some (.int v1), some (.int z2), some (.int z3), some (.int z4), none, none, none] [] (k7 (z2, z3, z4))) : ah_S E X (ah_Q E X rv_I) 91 [some (va_rf (some t)), some (.int v1), some (.int v2), some (.int v3), none, none, none, some (.int v7)] [.int w0] (fn_Md_readType_J91 t v1 v2 v3 v7 w0 k7) := by
  unfold fn_Md_readType_J91
  refine ah_istore (lv' := [some (va_rf (some t)), some (.int v1), some (.int v2), some (.int v3), none, some (.int w0), none, some (.int v7)]) C d_Md_readType_91 (Nat.le_of_ble_eq_true rfl) rfl ?_
  refine ah_iload C d_Md_readType_93 rfl ?_
  refine ah_if_eq (tgt := 124) C d_Md_readType_95 rfl (fun _ => ?_) (fun _ => ?_)
  · refine ah_aload_n C d_Md_readType_124 rfl ?_
    refine ah_getI (ci := 12) (k := 5) C rfl (by decide) rfl (Or.inl we354) d_Md_readType_125 (fun x125 => ?_)
    refine ah_if_ge (tgt := 144) C d_Md_readType_128 rfl (fun _ => ?_) (fun _ => ?_)
    · refine ah_mask [true, true, true, true, false, true, false, false] (lv' := [some (va_rf (some t)), some (.int v1), some (.int v2), some (.int v3), none, some (.int w0), none, none]) rfl ?_
      exact ok_Md_readType_J144 C hr hlk t v1 v2 v3 w0 k7 hk7
    · refine ah_aload_n C d_Md_readType_131 rfl ?_
      refine ah_bipush (v := 8) C d_Md_readType_132 rfl ?_
      refine ah_iload C d_Md_readType_134 rfl ?_
      refine ah_iadd C d_Md_readType_136 ?_
      refine ah_iconst (v := -1) C d_Md_readType_137 rfl ?_
      refine ah_iconst (v := -1) C d_Md_readType_138 rfl ?_
      refine ah_iconst (v := -1) C d_Md_readType_139 rfl ?_
      exact ah_Sno
  · refine ah_aload_n C d_Md_readType_98 rfl ?_
    refine ah_bipush (v := 91) C d_Md_readType_99 rfl ?_
    refine ah_callVV (ci := 12) (As := [.int (91 : Int32)]) (rest := []) C (fun b => ok_Md_open E _ b (91 : Int32)) rfl (Or.inl we369) we370 we371 we300 we368 hy_Md_open (by omega) (by omega) rfl rfl (ah_rs trivial (Nat.le_of_ble_eq_true rfl)) d_Md_readType_101 ?_
    refine ah_aload_n C d_Md_readType_104 rfl ?_
    refine ah_getR (ci := 12) (k := 12) C rfl (by decide) rfl (Or.inl we311) d_Md_readType_105 (fun x105 => ?_)
    refine ah_iconst (v := 4) C d_Md_readType_108 rfl ?_
    refine ah_iload_n C d_Md_readType_109 rfl ?_
    refine ah_imul C d_Md_readType_110 ?_
    refine ah_bipush (v := 100) C d_Md_readType_111 rfl ?_
    refine ah_iload C d_Md_readType_113 rfl ?_
    refine ah_imul C d_Md_readType_115 ?_
    refine ah_iastore C rfl rfl d_Md_readType_116 ?_
    refine ah_iload_n C d_Md_readType_117 rfl ?_
    refine ah_iconst (v := 1) C d_Md_readType_118 rfl ?_
    refine ah_iadd C d_Md_readType_119 ?_
    refine ah_istore_n (lv' := [some (va_rf (some t)), some (.int v1), some (.int (v2 + (1 : Int32))), some (.int v3), none, some (.int w0), none, some (.int v7)]) C d_Md_readType_120 (Nat.le_of_ble_eq_true rfl) rfl ?_
    refine ah_goto (tgt := 144) C d_Md_readType_121 rfl ?_
    refine ah_mask [true, true, true, true, false, true, false, false] (lv' := [some (va_rf (some t)), some (.int v1), some (.int (v2 + (1 : Int32))), some (.int v3), none, some (.int w0), none, none]) rfl ?_
    exact ok_Md_readType_J144 C hr hlk t v1 (v2 + (1 : Int32)) v3 w0 k7 hk7
set_option maxRecDepth 100000 in
set_option maxHeartbeats 4000000 in
theorem ok_Md_readType_J90 {E : ahE} {X : ahX} (C : ah_Cx E X prog_13_method_26_code 8 "BoundedTypesModel" 3 63) (hr : (ax_M X).sig.returnType = some .int) (hlk : (ax_M X).locks = false) (t : Nat) (v1 : Int32) (v2 : Int32) (v3 : Int32) (v7 : Int32) (k7 : (Int32 × Int32 × Int32) → ahM Int32) (hk7 : ∀ (z2 : Int32) (z3 : Int32) (z4 : Int32), ah_S E X (ah_Q E X rv_I) 7 [some (va_rf (some t)), some (.int v1), some (.int z2), some (.int z3), some (.int z4), none, none, none] [] (k7 (z2, z3, z4))) : ah_S E X (ah_Q E X rv_I) 90 [some (va_rf (some t)), some (.int v1), some (.int v2), some (.int v3), none, none, none, some (.int v7)] [] (fn_Md_readType_J90 t v1 v2 v3 v7 k7) := by
  unfold fn_Md_readType_J90
  refine ah_iconst (v := 0) C d_Md_readType_90 rfl ?_
  refine ah_mask [true, true, true, true, false, false, false, true] (lv' := [some (va_rf (some t)), some (.int v1), some (.int v2), some (.int v3), none, none, none, some (.int v7)]) rfl ?_
  exact ok_Md_readType_J91 C hr hlk t v1 v2 v3 v7 (0 : Int32) k7 hk7
set_option maxRecDepth 100000 in
set_option maxHeartbeats 4000000 in
theorem ok_Md_readType_J60 {E : ahE} {X : ahX} (C : ah_Cx E X prog_13_method_26_code 8 "BoundedTypesModel" 3 63) (hr : (ax_M X).sig.returnType = some .int) (hlk : (ax_M X).locks = false) (t : Nat) (v1 : Int32) (v2 : Int32) (v3 : Int32) (k7 : (Int32 × Int32 × Int32) → ahM Int32) (hk7 : ∀ (z2 : Int32) (z3 : Int32) (z4 : Int32), ah_S E X (ah_Q E X rv_I) 7 [some (va_rf (some t)), some (.int v1), some (.int z2), some (.int z3), some (.int z4), none, none, none] [] (k7 (z2, z3, z4))) : ah_S E X (ah_Q E X rv_I) 60 [some (va_rf (some t)), some (.int v1), some (.int v2), some (.int v3), none, none, none, none] [] (fn_Md_readType_J60 t v1 v2 v3 k7) := by
  unfold fn_Md_readType_J60
  refine ah_aload_n C d_Md_readType_60 rfl ?_
  refine ah_bipush (v := 65) C d_Md_readType_61 rfl ?_
  refine ah_bipush (v := 72) C d_Md_readType_63 rfl ?_
  refine ah_callVI (ci := 12) (As := [.int (65 : Int32), .int (72 : Int32)]) (rest := []) C (fun b => ok_Md_readLetter E _ b (65 : Int32) (72 : Int32)) rfl (Or.inl we373) we374 we375 we300 we372 hy_Md_readLetter (by omega) (by omega) rfl rfl (ah_rs trivial (Nat.le_of_ble_eq_true rfl)) d_Md_readType_65 (fun x65 => ?_)
  refine ah_istore (lv' := [some (va_rf (some t)), some (.int v1), some (.int v2), some (.int v3), none, none, none, some (.int x65)]) C d_Md_readType_68 (Nat.le_of_ble_eq_true rfl) rfl ?_
  refine ah_aload_n C d_Md_readType_70 rfl ?_
  refine ah_getI (ci := 12) (k := 5) C rfl (by decide) rfl (Or.inl we354) d_Md_readType_71 (fun x71 => ?_)
  refine ah_if_ge (tgt := 90) C d_Md_readType_74 rfl (fun _ => ?_) (fun _ => ?_)
  · refine ah_mask [true, true, true, true, false, false, false, true] (lv' := [some (va_rf (some t)), some (.int v1), some (.int v2), some (.int v3), none, none, none, some (.int x65)]) rfl ?_
    exact ok_Md_readType_J90 C hr hlk t v1 v2 v3 x65 k7 hk7
  · refine ah_aload_n C d_Md_readType_77 rfl ?_
    refine ah_callVI (ci := 12) (As := []) (rest := []) C (fun b => ok_Md_look E _ b) rfl (Or.inl we357) we358 we359 we300 we356 hy_Md_look (by omega) (by omega) rfl rfl (ah_rs trivial (Nat.le_of_ble_eq_true rfl)) d_Md_readType_78 (fun x78 => ?_)
    refine ah_bipush (v := 91) C d_Md_readType_81 rfl ?_
    refine ah_icmp_ne (tgt := 90) C d_Md_readType_83 rfl (fun _ => ?_) (fun _ => ?_)
    · refine ah_mask [true, true, true, true, false, false, false, true] (lv' := [some (va_rf (some t)), some (.int v1), some (.int v2), some (.int v3), none, none, none, some (.int x65)]) rfl ?_
      exact ok_Md_readType_J90 C hr hlk t v1 v2 v3 x65 k7 hk7
    · refine ah_iconst (v := 1) C d_Md_readType_86 rfl ?_
      refine ah_goto (tgt := 91) C d_Md_readType_87 rfl ?_
      refine ah_mask [true, true, true, true, false, false, false, true] (lv' := [some (va_rf (some t)), some (.int v1), some (.int v2), some (.int v3), none, none, none, some (.int x65)]) rfl ?_
      exact ok_Md_readType_J91 C hr hlk t v1 v2 v3 x65 (1 : Int32) k7 hk7
set_option maxRecDepth 100000 in
set_option maxHeartbeats 4000000 in
theorem ok_Md_readType_J48 {E : ahE} {X : ahX} (C : ah_Cx E X prog_13_method_26_code 8 "BoundedTypesModel" 3 63) (hr : (ax_M X).sig.returnType = some .int) (hlk : (ax_M X).locks = false) (t : Nat) (v1 : Int32) (v2 : Int32) (v5 : Int32) (k7 : (Int32 × Int32 × Int32) → ahM Int32) (hk7 : ∀ (z2 : Int32) (z3 : Int32) (z4 : Int32), ah_S E X (ah_Q E X rv_I) 7 [some (va_rf (some t)), some (.int v1), some (.int z2), some (.int z3), some (.int z4), none, none, none] [] (k7 (z2, z3, z4))) : ah_S E X (ah_Q E X rv_I) 48 [some (va_rf (some t)), some (.int v1), some (.int v2), none, none, some (.int v5), none, none] [] (fn_Md_readType_J48 t v1 v2 v5 k7) := by
  unfold fn_Md_readType_J48
  refine ah_aload_n C d_Md_readType_48 rfl ?_
  refine ah_bipush (v := 83) C d_Md_readType_49 rfl ?_
  refine ah_bipush (v := 90) C d_Md_readType_51 rfl ?_
  refine ah_callVI (ci := 12) (As := [.int (83 : Int32), .int (90 : Int32)]) (rest := []) C (fun b => ok_Md_readLetter E _ b (83 : Int32) (90 : Int32)) rfl (Or.inl we373) we374 we375 we300 we372 hy_Md_readLetter (by omega) (by omega) rfl rfl (ah_rs trivial (Nat.le_of_ble_eq_true rfl)) d_Md_readType_53 (fun x53 => ?_)
  refine ah_istore_n (lv' := [some (va_rf (some t)), some (.int v1), some (.int v2), some (.int x53), none, some (.int v5), none, none]) C d_Md_readType_56 (Nat.le_of_ble_eq_true rfl) rfl ?_
  refine ah_goto (tgt := 144) C d_Md_readType_57 rfl ?_
  refine ah_mask [true, true, true, true, false, true, false, false] (lv' := [some (va_rf (some t)), some (.int v1), some (.int v2), some (.int x53), none, some (.int v5), none, none]) rfl ?_
  exact ok_Md_readType_J144 C hr hlk t v1 v2 x53 v5 k7 hk7
set_option maxRecDepth 100000 in
set_option maxHeartbeats 4000000 in
theorem ok_Md_readType_B7 {E : ahE} {X : ahX} (C : ah_Cx E X prog_13_method_26_code 8 "BoundedTypesModel" 3 63) (hr : (ax_M X).sig.returnType = some .int) (hlk : (ax_M X).locks = false) (t : Nat) (v1 : Int32) : ∀ (n : Nat) (v2 : Int32) (v3 : Int32) (v4 : Int32), ah_S E X (ah_Q E X rv_I) 7 [some (va_rf (some t)), some (.int v1), some (.int v2), some (.int v3), some (.int v4), none, none, none] [] (ah_lp (fn_Md_readType_B7 t v1) n (v2, v3, v4)) := by
  intro n
  induction n with
  | zero => intro v2 v3 v4 h r n u c hs; cases hs
  | succ n hk7 =>
    intro v2 v3 v4
    show ah_S E X (ah_Q E X rv_I) 7 _ _ (fn_Md_readType_B7 t v1 (ah_lp (fn_Md_readType_B7 t v1) n) (v2, v3, v4))
    generalize ah_lp (fn_Md_readType_B7 t v1) n = k7 at hk7 ⊢
    rw [fn_Md_readType_B7]
    refine ah_aload_n C d_Md_readType_7 rfl ?_
    refine ah_getI (ci := 12) (k := 5) C rfl (by decide) rfl (Or.inl we354) d_Md_readType_8 (fun x8 => ?_)
    refine ah_if_ge (tgt := 263) C d_Md_readType_11 rfl (fun _ => ?_) (fun _ => ?_)
    · refine ah_iload_n C d_Md_readType_263 rfl ?_
      exact ah_iret C hr hlk rfl d_Md_readType_264
    · refine ah_iload C d_Md_readType_14 rfl ?_
      refine ah_if_ne (tgt := 263) C d_Md_readType_16 rfl (fun _ => ?_) (fun _ => ?_)
      · refine ah_iload_n C d_Md_readType_263 rfl ?_
        exact ah_iret C hr hlk rfl d_Md_readType_264
      · refine ah_iconst (v := 0) C d_Md_readType_19 rfl ?_
        refine ah_istore (lv' := [some (va_rf (some t)), some (.int v1), some (.int v2), some (.int v3), some (.int v4), some (.int (0 : Int32)), none, none]) C d_Md_readType_20 (Nat.le_of_ble_eq_true rfl) rfl ?_
        refine ah_aload_n C d_Md_readType_22 rfl ?_
        refine ah_callVI (ci := 12) (As := []) (rest := []) C (fun b => ok_Md_look E _ b) rfl (Or.inl we357) we358 we359 we300 we356 hy_Md_look (by omega) (by omega) rfl rfl (ah_rs trivial (Nat.le_of_ble_eq_true rfl)) d_Md_readType_23 (fun x23 => ?_)
        refine ah_istore (lv' := [some (va_rf (some t)), some (.int v1), some (.int v2), some (.int v3), some (.int v4), some (.int (0 : Int32)), some (.int x23), none]) C d_Md_readType_26 (Nat.le_of_ble_eq_true rfl) rfl ?_
        refine ah_iload C d_Md_readType_28 rfl ?_
        refine ah_bipush (v := 83) C d_Md_readType_30 rfl ?_
        refine ah_bipush (v := 90) C d_Md_readType_32 rfl ?_
        refine ah_callSI (As := [.int x23, .int (83 : Int32), .int (90 : Int32)]) (rest := []) C (ok_Md_in E _ x23 (83 : Int32) (90 : Int32)) (Or.inl we349) we350 we300 we348 hy_Md_in (by omega) (by omega) rfl rfl (ah_rs trivial (Nat.le_of_ble_eq_true rfl)) d_Md_readType_34 (fun x34 => ?_)
        refine ah_if_eq (tgt := 60) C d_Md_readType_37 rfl (fun _ => ?_) (fun _ => ?_)
        · refine ah_mask [true, true, true, true, false, false, false, false] (lv' := [some (va_rf (some t)), some (.int v1), some (.int v2), some (.int v3), none, none, none, none]) rfl ?_
          exact ok_Md_readType_J60 C hr hlk t v1 v2 v3 k7 hk7
        · refine ah_iload_n C d_Md_readType_40 rfl ?_
          refine ah_if_gt (tgt := 48) C d_Md_readType_41 rfl (fun _ => ?_) (fun _ => ?_)
          · refine ah_mask [true, true, true, false, false, true, false, false] (lv' := [some (va_rf (some t)), some (.int v1), some (.int v2), none, none, some (.int (0 : Int32)), none, none]) rfl ?_
            exact ok_Md_readType_J48 C hr hlk t v1 v2 (0 : Int32) k7 hk7
          · refine ah_iload_n C d_Md_readType_44 rfl ?_
            refine ah_if_ne (tgt := 60) C d_Md_readType_45 rfl (fun _ => ?_) (fun _ => ?_)
            · refine ah_mask [true, true, true, true, false, false, false, false] (lv' := [some (va_rf (some t)), some (.int v1), some (.int v2), some (.int v3), none, none, none, none]) rfl ?_
              exact ok_Md_readType_J60 C hr hlk t v1 v2 v3 k7 hk7
            · refine ah_mask [true, true, true, false, false, true, false, false] (lv' := [some (va_rf (some t)), some (.int v1), some (.int v2), none, none, some (.int (0 : Int32)), none, none]) rfl ?_
              exact ok_Md_readType_J48 C hr hlk t v1 v2 (0 : Int32) k7 hk7
set_option maxRecDepth 100000 in
set_option maxHeartbeats 4000000 in
theorem ok_Md_readType (E : ahE) (l : Launch) (t : Nat) (v1 : Int32) : ah_met E l y_Md_readType prog_13_method_26_code 8 (some .int) 3 63 rv_I [.ref t, .int v1] (fn_Md_readType t v1) := by
  refine ah_met_of (by decide +kernel) (ah_c1_all ⟨rfl, rfl, trivial⟩) (Nat.le_of_ble_eq_true rfl) (lv := [some (va_rf (some t)), some (.int v1), none, none, none, none, none, none]) rfl (fun X C hl hr hlk hnm => ?_)
  subst hl
  unfold fn_Md_readType
  refine ah_iconst (v := 0) C d_Md_readType_0 rfl ?_
  refine ah_istore_n (lv' := [some (va_rf (some t)), some (.int v1), some (.int (0 : Int32)), none, none, none, none, none]) C d_Md_readType_1 (Nat.le_of_ble_eq_true rfl) rfl ?_
  refine ah_iconst (v := 0) C d_Md_readType_2 rfl ?_
  refine ah_istore_n (lv' := [some (va_rf (some t)), some (.int v1), some (.int (0 : Int32)), some (.int (0 : Int32)), none, none, none, none]) C d_Md_readType_3 (Nat.le_of_ble_eq_true rfl) rfl ?_
  refine ah_iconst (v := 0) C d_Md_readType_4 rfl ?_
  refine ah_istore (lv' := [some (va_rf (some t)), some (.int v1), some (.int (0 : Int32)), some (.int (0 : Int32)), some (.int (0 : Int32)), none, none, none]) C d_Md_readType_5 (Nat.le_of_ble_eq_true rfl) rfl ?_
  refine ah_mask [true, true, true, true, true, false, false, false] (lv' := [some (va_rf (some t)), some (.int v1), some (.int (0 : Int32)), some (.int (0 : Int32)), some (.int (0 : Int32)), none, none, none]) rfl ?_
  exact ok_Md_readType_B7 C hr hlk t v1 FU (0 : Int32) (0 : Int32) (0 : Int32)
set_option maxRecDepth 100000 in
set_option maxHeartbeats 4000000 in
theorem ok_Md_readBounds_J119 {E : ahE} {X : ahX} (C : ah_Cx E X prog_13_method_29_code 6 "BoundedTypesModel" 4 90) (hr : (ax_M X).sig.returnType = some .int) (hlk : (ax_M X).locks = false) (t : Nat) (v4 : Int32) : ah_S E X (ah_Q E X rv_I) 119 [some (va_rf (some t)), none, none, none, some (.int v4), none] [] (fn_Md_readBounds_J119 t v4) := by
  unfold fn_Md_readBounds_J119
  refine ah_aload_n C d_Md_readBounds_119 rfl ?_
  refine ah_bipush (v := 93) C d_Md_readBounds_120 rfl ?_
  refine ah_callVV (ci := 12) (As := [.int (93 : Int32)]) (rest := []) C (fun b => ok_Md_close E _ b (93 : Int32)) rfl (Or.inl we365) we366 we367 we300 we364 hy_Md_close (by omega) (by omega) rfl rfl (ah_rs trivial (Nat.le_of_ble_eq_true rfl)) d_Md_readBounds_122 ?_
  refine ah_iload C d_Md_readBounds_125 rfl ?_
  exact ah_iret C hr hlk rfl d_Md_readBounds_127
set_option maxRecDepth 100000 in
set_option maxHeartbeats 4000000 in
theorem ok_Md_readBounds_J113 {E : ahE} {X : ahX} (C : ah_Cx E X prog_13_method_29_code 6 "BoundedTypesModel" 4 90) (hr : (ax_M X).sig.returnType = some .int) (hlk : (ax_M X).locks = false) (t : Nat) (v1 : Option Nat) (v2 : Option Nat) (v3 : Int32) (v4 : Int32) (v5 : Int32) (w0 : Option Nat) (w1 : Int32) (k23 : (Int32 × Int32) → ahM Int32) (hk23 : ∀ (z4 : Int32) (z5 : Int32), ah_S E X (ah_Q E X rv_I) 23 [some (va_rf (some t)), some (va_rf v1), some (va_rf v2), some (.int v3), some (.int z4), some (.int z5)] [] (k23 (z4, z5))) : ah_S E X (ah_Q E X rv_I) 113 [some (va_rf (some t)), some (va_rf v1), some (va_rf v2), some (.int v3), some (.int v4), some (.int v5)] [.int w1, va_rf w0] (fn_Md_readBounds_J113 t v1 v2 v3 v4 v5 w0 w1 k23) := by
  unfold fn_Md_readBounds_J113
  refine ah_putI (ci := 12) (k := 3) C rfl (by decide) rfl (Or.inl we351) (Or.inl rfl) rfl rfl d_Md_readBounds_113 ?_
  refine ah_goto (tgt := 23) C d_Md_readBounds_116 rfl ?_
  refine ah_mask [true, true, true, true, true, true] (lv' := [some (va_rf (some t)), some (va_rf v1), some (va_rf v2), some (.int v3), some (.int v4), some (.int v5)]) rfl ?_
  exact hk23 v4 v5
set_option maxRecDepth 100000 in
set_option maxHeartbeats 4000000 in
theorem ok_Md_readBounds_J92 {E : ahE} {X : ahX} (C : ah_Cx E X prog_13_method_29_code 6 "BoundedTypesModel" 4 90) (hr : (ax_M X).sig.returnType = some .int) (hlk : (ax_M X).locks = false) (t : Nat) (v1 : Option Nat) (v2 : Option Nat) (v3 : Int32) (v4 : Int32) (w0 : Int32) (k23 : (Int32 × Int32) → ahM Int32) (hk23 : ∀ (z4 : Int32) (z5 : Int32), ah_S E X (ah_Q E X rv_I) 23 [some (va_rf (some t)), some (va_rf v1), some (va_rf v2), some (.int v3), some (.int z4), some (.int z5)] [] (k23 (z4, z5))) : ah_S E X (ah_Q E X rv_I) 92 [some (va_rf (some t)), some (va_rf v1), some (va_rf v2), some (.int v3), some (.int v4), none] [.int w0] (fn_Md_readBounds_J92 t v1 v2 v3 v4 w0 k23) := by
  unfold fn_Md_readBounds_J92
  refine ah_istore (lv' := [some (va_rf (some t)), some (va_rf v1), some (va_rf v2), some (.int v3), some (.int v4), some (.int w0)]) C d_Md_readBounds_92 (Nat.le_of_ble_eq_true rfl) rfl ?_
  refine ah_aload_n C d_Md_readBounds_94 rfl ?_
  refine ah_iload C d_Md_readBounds_95 rfl ?_
  refine ah_if_eq (tgt := 109) C d_Md_readBounds_97 rfl (fun _ => ?_) (fun _ => ?_)
  · refine ah_aload_n C d_Md_readBounds_109 rfl ?_
    refine ah_getI (ci := 12) (k := 3) C rfl (by decide) rfl (Or.inl we351) d_Md_readBounds_110 (fun x110 => ?_)
    refine ah_mask [true, true, true, true, true, true] (lv' := [some (va_rf (some t)), some (va_rf v1), some (va_rf v2), some (.int v3), some (.int v4), some (.int w0)]) rfl ?_
    exact ok_Md_readBounds_J113 C hr hlk t v1 v2 v3 v4 w0 (some t) x110 k23 hk23
  · refine ah_aload_n C d_Md_readBounds_100 rfl ?_
    refine ah_getI (ci := 12) (k := 3) C rfl (by decide) rfl (Or.inl we351) d_Md_readBounds_101 (fun x101 => ?_)
    refine ah_iconst (v := 1) C d_Md_readBounds_104 rfl ?_
    refine ah_iadd C d_Md_readBounds_105 ?_
    refine ah_goto (tgt := 113) C d_Md_readBounds_106 rfl ?_
    refine ah_mask [true, true, true, true, true, true] (lv' := [some (va_rf (some t)), some (va_rf v1), some (va_rf v2), some (.int v3), some (.int v4), some (.int w0)]) rfl ?_
    exact ok_Md_readBounds_J113 C hr hlk t v1 v2 v3 v4 w0 (some t) (x101 + (1 : Int32)) k23 hk23
set_option maxRecDepth 100000 in
set_option maxHeartbeats 4000000 in
theorem ok_Md_readBounds_J91 {E : ahE} {X : ahX} (C : ah_Cx E X prog_13_method_29_code 6 "BoundedTypesModel" 4 90) (hr : (ax_M X).sig.returnType = some .int) (hlk : (ax_M X).locks = false) (t : Nat) (v1 : Option Nat) (v2 : Option Nat) (v3 : Int32) (v4 : Int32) (k23 : (Int32 × Int32) → ahM Int32) (hk23 : ∀ (z4 : Int32) (z5 : Int32), ah_S E X (ah_Q E X rv_I) 23 [some (va_rf (some t)), some (va_rf v1), some (va_rf v2), some (.int v3), some (.int z4), some (.int z5)] [] (k23 (z4, z5))) : ah_S E X (ah_Q E X rv_I) 91 [some (va_rf (some t)), some (va_rf v1), some (va_rf v2), some (.int v3), some (.int v4), none] [] (fn_Md_readBounds_J91 t v1 v2 v3 v4 k23) := by
  unfold fn_Md_readBounds_J91
  refine ah_iconst (v := 0) C d_Md_readBounds_91 rfl ?_
  refine ah_mask [true, true, true, true, true, false] (lv' := [some (va_rf (some t)), some (va_rf v1), some (va_rf v2), some (.int v3), some (.int v4), none]) rfl ?_
  exact ok_Md_readBounds_J92 C hr hlk t v1 v2 v3 v4 (0 : Int32) k23 hk23
set_option maxRecDepth 100000 in
set_option maxHeartbeats 4000000 in
theorem ok_Md_readBounds_B23 {E : ahE} {X : ahX} (C : ah_Cx E X prog_13_method_29_code 6 "BoundedTypesModel" 4 90) (hr : (ax_M X).sig.returnType = some .int) (hlk : (ax_M X).locks = false) (t : Nat) (v1 : Option Nat) (v2 : Option Nat) (v3 : Int32) : ∀ (n : Nat) (v4 : Int32) (v5 : Int32), ah_S E X (ah_Q E X rv_I) 23 [some (va_rf (some t)), some (va_rf v1), some (va_rf v2), some (.int v3), some (.int v4), some (.int v5)] [] (ah_lp (fn_Md_readBounds_B23 t v1 v2 v3) n (v4, v5)) := by
  intro n
  induction n with
  | zero => intro v4 v5 h r n u c hs; cases hs
  | succ n hk23 =>
    intro v4 v5
    show ah_S E X (ah_Q E X rv_I) 23 _ _ (fn_Md_readBounds_B23 t v1 v2 v3 (ah_lp (fn_Md_readBounds_B23 t v1 v2 v3) n) (v4, v5))
    generalize ah_lp (fn_Md_readBounds_B23 t v1 v2 v3) n = k23 at hk23 ⊢
    rw [fn_Md_readBounds_B23]
    refine ah_iload C d_Md_readBounds_23 rfl ?_
    refine ah_if_eq (tgt := 119) C d_Md_readBounds_25 rfl (fun _ => ?_) (fun _ => ?_)
    · refine ah_mask [true, false, false, false, true, false] (lv' := [some (va_rf (some t)), none, none, none, some (.int v4), none]) rfl ?_
      exact ok_Md_readBounds_J119 C hr hlk t v4
    · refine ah_aload_n C d_Md_readBounds_28 rfl ?_
      refine ah_getI (ci := 12) (k := 5) C rfl (by decide) rfl (Or.inl we354) d_Md_readBounds_29 (fun x29 => ?_)
      refine ah_if_ge (tgt := 119) C d_Md_readBounds_32 rfl (fun _ => ?_) (fun _ => ?_)
      · refine ah_mask [true, false, false, false, true, false] (lv' := [some (va_rf (some t)), none, none, none, some (.int v4), none]) rfl ?_
        exact ok_Md_readBounds_J119 C hr hlk t v4
      · refine ah_aload_n C d_Md_readBounds_35 rfl ?_
        refine ah_iload_n C d_Md_readBounds_36 rfl ?_
        refine ah_iload C d_Md_readBounds_37 rfl ?_
        refine ah_iadd C d_Md_readBounds_39 ?_
        refine ah_aload_n C d_Md_readBounds_40 rfl ?_
        refine ah_bipush (v := 83) C d_Md_readBounds_41 rfl ?_
        refine ah_bipush (v := 90) C d_Md_readBounds_43 rfl ?_
        refine ah_callVI (ci := 12) (As := [.int (83 : Int32), .int (90 : Int32)]) (rest := [.int (v3 + v4), va_rf v1]) C (fun b => ok_Md_readLetter E _ b (83 : Int32) (90 : Int32)) rfl (Or.inl we373) we374 we375 we300 we372 hy_Md_readLetter (by omega) (by omega) rfl rfl (ah_rs ⟨rfl, (ah_rf_cat _), trivial⟩ (Nat.le_of_ble_eq_true rfl)) d_Md_readBounds_45 (fun x45 => ?_)
        refine ah_iastore C rfl rfl d_Md_readBounds_48 ?_
        refine ah_aload_n C d_Md_readBounds_49 rfl ?_
        refine ah_bipush (v := 58) C d_Md_readBounds_50 rfl ?_
        refine ah_callVV (ci := 12) (As := [.int (58 : Int32)]) (rest := []) C (fun b => ok_Md_expect E _ b (58 : Int32)) rfl (Or.inl we377) we378 we379 we300 we376 hy_Md_expect (by omega) (by omega) rfl rfl (ah_rs trivial (Nat.le_of_ble_eq_true rfl)) d_Md_readBounds_52 ?_
        refine ah_aload_n C d_Md_readBounds_55 rfl ?_
        refine ah_iload_n C d_Md_readBounds_56 rfl ?_
        refine ah_iload C d_Md_readBounds_57 rfl ?_
        refine ah_iadd C d_Md_readBounds_59 ?_
        refine ah_aload_n C d_Md_readBounds_60 rfl ?_
        refine ah_iconst (v := 1) C d_Md_readBounds_61 rfl ?_
        refine ah_callVI (ci := 12) (As := [.int (1 : Int32)]) (rest := [.int (v3 + v4), va_rf v2]) C (fun b => ok_Md_readType E _ b (1 : Int32)) rfl (Or.inl we381) we382 we383 we300 we380 hy_Md_readType (by omega) (by omega) rfl rfl (ah_rs ⟨rfl, (ah_rf_cat _), trivial⟩ (Nat.le_of_ble_eq_true rfl)) d_Md_readBounds_62 (fun x62 => ?_)
        refine ah_iastore C rfl rfl d_Md_readBounds_65 ?_
        refine ah_iload C d_Md_readBounds_66 rfl ?_
        refine ah_iconst (v := 1) C d_Md_readBounds_68 rfl ?_
        refine ah_iadd C d_Md_readBounds_69 ?_
        refine ah_istore (lv' := [some (va_rf (some t)), some (va_rf v1), some (va_rf v2), some (.int v3), some (.int (v4 + (1 : Int32))), some (.int v5)]) C d_Md_readBounds_70 (Nat.le_of_ble_eq_true rfl) rfl ?_
        refine ah_aload_n C d_Md_readBounds_72 rfl ?_
        refine ah_callVI (ci := 12) (As := []) (rest := []) C (fun b => ok_Md_look E _ b) rfl (Or.inl we357) we358 we359 we300 we356 hy_Md_look (by omega) (by omega) rfl rfl (ah_rs trivial (Nat.le_of_ble_eq_true rfl)) d_Md_readBounds_73 (fun x73 => ?_)
        refine ah_bipush (v := 44) C d_Md_readBounds_76 rfl ?_
        refine ah_icmp_ne (tgt := 91) C d_Md_readBounds_78 rfl (fun _ => ?_) (fun _ => ?_)
        · refine ah_mask [true, true, true, true, true, false] (lv' := [some (va_rf (some t)), some (va_rf v1), some (va_rf v2), some (.int v3), some (.int (v4 + (1 : Int32))), none]) rfl ?_
          exact ok_Md_readBounds_J91 C hr hlk t v1 v2 v3 (v4 + (1 : Int32)) k23 hk23
        · refine ah_iload C d_Md_readBounds_81 rfl ?_
          refine ah_iconst (v := 3) C d_Md_readBounds_83 rfl ?_
          refine ah_icmp_ge (tgt := 91) C d_Md_readBounds_84 rfl (fun _ => ?_) (fun _ => ?_)
          · refine ah_mask [true, true, true, true, true, false] (lv' := [some (va_rf (some t)), some (va_rf v1), some (va_rf v2), some (.int v3), some (.int (v4 + (1 : Int32))), none]) rfl ?_
            exact ok_Md_readBounds_J91 C hr hlk t v1 v2 v3 (v4 + (1 : Int32)) k23 hk23
          · refine ah_iconst (v := 1) C d_Md_readBounds_87 rfl ?_
            refine ah_goto (tgt := 92) C d_Md_readBounds_88 rfl ?_
            refine ah_mask [true, true, true, true, true, false] (lv' := [some (va_rf (some t)), some (va_rf v1), some (va_rf v2), some (.int v3), some (.int (v4 + (1 : Int32))), none]) rfl ?_
            exact ok_Md_readBounds_J92 C hr hlk t v1 v2 v3 (v4 + (1 : Int32)) (1 : Int32) k23 hk23
set_option maxRecDepth 100000 in
set_option maxHeartbeats 4000000 in
theorem ok_Md_readBounds (E : ahE) (l : Launch) (t : Nat) (v1 : Option Nat) (v2 : Option Nat) (v3 : Int32) : ah_met E l y_Md_readBounds prog_13_method_29_code 6 (some .int) 4 90 rv_I [.ref t, va_rf v1, va_rf v2, .int v3] (fn_Md_readBounds t v1 v2 v3) := by
  refine ah_met_of (by decide +kernel) (ah_c1_all ⟨rfl, ah_rf_cat _, ah_rf_cat _, rfl, trivial⟩) (Nat.le_of_ble_eq_true rfl) (lv := [some (va_rf (some t)), some (va_rf v1), some (va_rf v2), some (.int v3), none, none]) rfl (fun X C hl hr hlk hnm => ?_)
  subst hl
  unfold fn_Md_readBounds
  refine ah_aload_n C d_Md_readBounds_0 rfl ?_
  refine ah_callVI (ci := 12) (As := []) (rest := []) C (fun b => ok_Md_look E _ b) rfl (Or.inl we357) we358 we359 we300 we356 hy_Md_look (by omega) (by omega) rfl rfl (ah_rs trivial (Nat.le_of_ble_eq_true rfl)) d_Md_readBounds_1 (fun x1 => ?_)
  refine ah_bipush (v := 91) C d_Md_readBounds_4 rfl ?_
  refine ah_icmp_eq (tgt := 11) C d_Md_readBounds_6 rfl (fun _ => ?_) (fun _ => ?_)
  · refine ah_aload_n C d_Md_readBounds_11 rfl ?_
    refine ah_bipush (v := 91) C d_Md_readBounds_12 rfl ?_
    refine ah_callVV (ci := 12) (As := [.int (91 : Int32)]) (rest := []) C (fun b => ok_Md_open E _ b (91 : Int32)) rfl (Or.inl we369) we370 we371 we300 we368 hy_Md_open (by omega) (by omega) rfl rfl (ah_rs trivial (Nat.le_of_ble_eq_true rfl)) d_Md_readBounds_14 ?_
    refine ah_iconst (v := 0) C d_Md_readBounds_17 rfl ?_
    refine ah_istore (lv' := [some (va_rf (some t)), some (va_rf v1), some (va_rf v2), some (.int v3), some (.int (0 : Int32)), none]) C d_Md_readBounds_18 (Nat.le_of_ble_eq_true rfl) rfl ?_
    refine ah_iconst (v := 1) C d_Md_readBounds_20 rfl ?_
    refine ah_istore (lv' := [some (va_rf (some t)), some (va_rf v1), some (va_rf v2), some (.int v3), some (.int (0 : Int32)), some (.int (1 : Int32))]) C d_Md_readBounds_21 (Nat.le_of_ble_eq_true rfl) rfl ?_
    refine ah_mask [true, true, true, true, true, true] (lv' := [some (va_rf (some t)), some (va_rf v1), some (va_rf v2), some (.int v3), some (.int (0 : Int32)), some (.int (1 : Int32))]) rfl ?_
    exact ok_Md_readBounds_B23 C hr hlk t v1 v2 v3 FU (0 : Int32) (1 : Int32)
  · refine ah_iconst (v := 0) C d_Md_readBounds_9 rfl ?_
    exact ah_iret C hr hlk rfl d_Md_readBounds_10
set_option maxRecDepth 100000 in
set_option maxHeartbeats 4000000 in
theorem ok_Md_declare_J209 {E : ahE} {X : ahX} (C : ah_Cx E X prog_13_method_43_code 9 "BoundedTypesModel" 5 115) (hr : (ax_M X).sig.returnType = some .int) (hlk : (ax_M X).locks = false) (t : Nat) (v1 : Int32) (v2 : Int32) (v3 : Int32) (v4 : Int32) (w0 : Option Nat) (w1 : Int32) (w2 : Int32) : ah_S E X (ah_Q E X rv_I) 209 [some (va_rf (some t)), some (.int v1), some (.int v2), some (.int v3), some (.int v4), none, none, none, none] [.int w2, .int w1, va_rf w0] (fn_Md_declare_J209 t v1 v2 v3 v4 w0 w1 w2) := by
  unfold fn_Md_declare_J209
  refine ah_iastore C rfl rfl d_Md_declare_209 ?_
  refine ah_aload_n C d_Md_declare_210 rfl ?_
  refine ah_iload_n C d_Md_declare_211 rfl ?_
  refine ah_putI (ci := 12) (k := 7) C rfl (by decide) rfl (Or.inl we297) (Or.inl rfl) rfl rfl d_Md_declare_212 ?_
  refine ah_aload_n C d_Md_declare_215 rfl ?_
  refine ah_iload_n C d_Md_declare_216 rfl ?_
  refine ah_putI (ci := 12) (k := 23) C rfl (by decide) rfl (Or.inl we384) (Or.inl rfl) rfl rfl d_Md_declare_217 ?_
  refine ah_aload_n C d_Md_declare_220 rfl ?_
  refine ah_iload_n C d_Md_declare_221 rfl ?_
  refine ah_putI (ci := 12) (k := 27) C rfl (by decide) rfl (Or.inl we385) (Or.inl rfl) rfl rfl d_Md_declare_222 ?_
  refine ah_aload_n C d_Md_declare_225 rfl ?_
  refine ah_iload C d_Md_declare_226 rfl ?_
  refine ah_putI (ci := 12) (k := 39) C rfl (by decide) rfl (Or.inl we386) (Or.inl rfl) rfl rfl d_Md_declare_228 ?_
  refine ah_aload_n C d_Md_declare_231 rfl ?_
  refine ah_getI (ci := 12) (k := 5) C rfl (by decide) rfl (Or.inl we354) d_Md_declare_232 (fun x232 => ?_)
  refine ah_if_lt (tgt := 247) C d_Md_declare_235 rfl (fun _ => ?_) (fun _ => ?_)
  · refine ah_sipush (v := -1000) C d_Md_declare_247 rfl ?_
    refine ah_aload_n C d_Md_declare_250 rfl ?_
    refine ah_getI (ci := 12) (k := 6) C rfl (by decide) rfl (Or.inl we387) d_Md_declare_251 (fun x251 => ?_)
    refine ah_imul C d_Md_declare_254 ?_
    exact ah_iret C hr hlk rfl d_Md_declare_255
  · refine ah_iconst (v := -1) C d_Md_declare_238 rfl ?_
    refine ah_aload_n C d_Md_declare_239 rfl ?_
    refine ah_getI (ci := 12) (k := 5) C rfl (by decide) rfl (Or.inl we354) d_Md_declare_240 (fun x240 => ?_)
    refine ah_isub C d_Md_declare_243 ?_
    refine ah_goto (tgt := 255) C d_Md_declare_244 rfl ?_
    exact ah_iret C hr hlk rfl d_Md_declare_255
set_option maxRecDepth 100000 in
set_option maxHeartbeats 4000000 in
theorem ok_Md_declare_J181 {E : ahE} {X : ahX} (C : ah_Cx E X prog_13_method_43_code 9 "BoundedTypesModel" 5 115) (hr : (ax_M X).sig.returnType = some .int) (hlk : (ax_M X).locks = false) (t : Nat) (v1 : Int32) (v2 : Int32) (v3 : Int32) (v4 : Int32) (v5 : Int32) : ah_S E X (ah_Q E X rv_I) 181 [some (va_rf (some t)), some (.int v1), some (.int v2), some (.int v3), some (.int v4), some (.int v5), none, none, none] [] (fn_Md_declare_J181 t v1 v2 v3 v4 v5) := by
  unfold fn_Md_declare_J181
  refine ah_aload_n C d_Md_declare_181 rfl ?_
  refine ah_getR (ci := 12) (k := 15) C rfl (by decide) rfl (Or.inl we298) d_Md_declare_182 (fun x182 => ?_)
  refine ah_iload C d_Md_declare_185 rfl ?_
  refine ah_aload_n C d_Md_declare_187 rfl ?_
  refine ah_getR (ci := 12) (k := 15) C rfl (by decide) rfl (Or.inl we298) d_Md_declare_188 (fun x188 => ?_)
  refine ah_iload C d_Md_declare_191 rfl ?_
  refine ah_iaload C rfl rfl d_Md_declare_193 (fun x193 => ?_)
  refine ah_iconst (v := 1) C d_Md_declare_194 rfl ?_
  refine ah_icmp_ne (tgt := 202) C d_Md_declare_195 rfl (fun _ => ?_) (fun _ => ?_)
  · refine ah_aload_n C d_Md_declare_202 rfl ?_
    refine ah_getR (ci := 12) (k := 15) C rfl (by decide) rfl (Or.inl we298) d_Md_declare_203 (fun x203 => ?_)
    refine ah_iload C d_Md_declare_206 rfl ?_
    refine ah_iaload C rfl rfl d_Md_declare_208 (fun x208 => ?_)
    refine ah_mask [true, true, true, true, true, false, false, false, false] (lv' := [some (va_rf (some t)), some (.int v1), some (.int v2), some (.int v3), some (.int v4), none, none, none, none]) rfl ?_
    exact ok_Md_declare_J209 C hr hlk t v1 v2 v3 v4 x182 v5 x208
  · refine ah_iconst (v := 0) C d_Md_declare_198 rfl ?_
    refine ah_goto (tgt := 209) C d_Md_declare_199 rfl ?_
    refine ah_mask [true, true, true, true, true, false, false, false, false] (lv' := [some (va_rf (some t)), some (.int v1), some (.int v2), some (.int v3), some (.int v4), none, none, none, none]) rfl ?_
    exact ok_Md_declare_J209 C hr hlk t v1 v2 v3 v4 x182 v5 (0 : Int32)
set_option maxRecDepth 100000 in
set_option maxHeartbeats 4000000 in
theorem ok_Md_declare_J144 {E : ahE} {X : ahX} (C : ah_Cx E X prog_13_method_43_code 9 "BoundedTypesModel" 5 115) (hr : (ax_M X).sig.returnType = some .int) (hlk : (ax_M X).locks = false) (t : Nat) (v1 : Int32) (v2 : Int32) (v3 : Int32) (v4 : Int32) (v5 : Int32) (v8 : Int32) : ah_S E X (ah_Q E X rv_I) 144 [some (va_rf (some t)), some (.int v1), some (.int v2), some (.int v3), some (.int v4), some (.int v5), none, none, some (.int v8)] [] (fn_Md_declare_J144 t v1 v2 v3 v4 v5 v8) := by
  unfold fn_Md_declare_J144
  refine ah_aload_n C d_Md_declare_144 rfl ?_
  refine ah_callVV (ci := 12) (As := []) (rest := []) C (fun b => ok_Md_noScope E _ b) rfl (Or.inl we302) we303 we304 we300 we301 hy_Md_noScope (by omega) (by omega) rfl rfl (ah_rs trivial (Nat.le_of_ble_eq_true rfl)) d_Md_declare_145 ?_
  refine ah_aload_n C d_Md_declare_148 rfl ?_
  refine ah_getI (ci := 12) (k := 5) C rfl (by decide) rfl (Or.inl we354) d_Md_declare_149 (fun x149 => ?_)
  refine ah_if_ge (tgt := 181) C d_Md_declare_152 rfl (fun _ => ?_) (fun _ => ?_)
  · refine ah_mask [true, true, true, true, true, true, false, false, false] (lv' := [some (va_rf (some t)), some (.int v1), some (.int v2), some (.int v3), some (.int v4), some (.int v5), none, none, none]) rfl ?_
    exact ok_Md_declare_J181 C hr hlk t v1 v2 v3 v4 v5
  · refine ah_aload_n C d_Md_declare_155 rfl ?_
    refine ah_getI (ci := 12) (k := 6) C rfl (by decide) rfl (Or.inl we387) d_Md_declare_156 (fun x156 => ?_)
    refine ah_if_ne (tgt := 181) C d_Md_declare_159 rfl (fun _ => ?_) (fun _ => ?_)
    · refine ah_mask [true, true, true, true, true, true, false, false, false] (lv' := [some (va_rf (some t)), some (.int v1), some (.int v2), some (.int v3), some (.int v4), some (.int v5), none, none, none]) rfl ?_
      exact ok_Md_declare_J181 C hr hlk t v1 v2 v3 v4 v5
    · refine ah_aload_n C d_Md_declare_162 rfl ?_
      refine ah_iload C d_Md_declare_163 rfl ?_
      refine ah_putI (ci := 12) (k := 7) C rfl (by decide) rfl (Or.inl we297) (Or.inl rfl) rfl rfl d_Md_declare_165 ?_
      refine ah_aload_n C d_Md_declare_168 rfl ?_
      refine ah_getR (ci := 12) (k := 15) C rfl (by decide) rfl (Or.inl we298) d_Md_declare_169 (fun x169 => ?_)
      refine ah_iload C d_Md_declare_172 rfl ?_
      refine ah_iconst (v := 2) C d_Md_declare_174 rfl ?_
      refine ah_iastore C rfl rfl d_Md_declare_175 ?_
      refine ah_aload_n C d_Md_declare_176 rfl ?_
      exact ah_Sno
set_option maxRecDepth 100000 in
set_option maxHeartbeats 4000000 in
theorem ok_Md_declare_J116 {E : ahE} {X : ahX} (C : ah_Cx E X prog_13_method_43_code 9 "BoundedTypesModel" 5 115) (hr : (ax_M X).sig.returnType = some .int) (hlk : (ax_M X).locks = false) (t : Nat) (v1 : Int32) (v2 : Int32) (v3 : Int32) (v4 : Int32) (v5 : Int32) (v6 : Int32) (v7 : Int32) : ah_S E X (ah_Q E X rv_I) 116 [some (va_rf (some t)), some (.int v1), some (.int v2), some (.int v3), some (.int v4), some (.int v5), some (.int v6), some (.int v7), none] [] (fn_Md_declare_J116 t v1 v2 v3 v4 v5 v6 v7) := by
  unfold fn_Md_declare_J116
  refine ah_aload_n C d_Md_declare_116 rfl ?_
  refine ah_getI (ci := 12) (k := 7) C rfl (by decide) rfl (Or.inl we297) d_Md_declare_117 (fun x117 => ?_)
  refine ah_istore (lv' := [some (va_rf (some t)), some (.int v1), some (.int v2), some (.int v3), some (.int v4), some (.int v5), some (.int v6), some (.int v7), some (.int x117)]) C d_Md_declare_120 (Nat.le_of_ble_eq_true rfl) rfl ?_
  refine ah_aload_n C d_Md_declare_122 rfl ?_
  refine ah_iconst (v := 0) C d_Md_declare_123 rfl ?_
  refine ah_putI (ci := 12) (k := 6) C rfl (by decide) rfl (Or.inl we387) (Or.inl rfl) rfl rfl d_Md_declare_124 ?_
  refine ah_aload_n C d_Md_declare_127 rfl ?_
  refine ah_getI (ci := 12) (k := 5) C rfl (by decide) rfl (Or.inl we354) d_Md_declare_128 (fun x128 => ?_)
  refine ah_if_ge (tgt := 144) C d_Md_declare_131 rfl (fun _ => ?_) (fun _ => ?_)
  · refine ah_mask [true, true, true, true, true, true, false, false, true] (lv' := [some (va_rf (some t)), some (.int v1), some (.int v2), some (.int v3), some (.int v4), some (.int v5), none, none, some (.int x117)]) rfl ?_
    exact ok_Md_declare_J144 C hr hlk t v1 v2 v3 v4 v5 x117
  · refine ah_aload_n C d_Md_declare_134 rfl ?_
    refine ah_iload C d_Md_declare_135 rfl ?_
    refine ah_iload C d_Md_declare_137 rfl ?_
    refine ah_iload C d_Md_declare_139 rfl ?_
    exact ah_Sno
set_option maxRecDepth 100000 in
set_option maxHeartbeats 4000000 in
theorem ok_Md_declare_J99 {E : ahE} {X : ahX} (C : ah_Cx E X prog_13_method_43_code 9 "BoundedTypesModel" 5 115) (hr : (ax_M X).sig.returnType = some .int) (hlk : (ax_M X).locks = false) (t : Nat) (v1 : Int32) (v2 : Int32) (v3 : Int32) (v4 : Int32) (v5 : Int32) (v6 : Int32) (v7 : Int32) : ah_S E X (ah_Q E X rv_I) 99 [some (va_rf (some t)), some (.int v1), some (.int v2), some (.int v3), some (.int v4), some (.int v5), some (.int v6), some (.int v7), none] [] (fn_Md_declare_J99 t v1 v2 v3 v4 v5 v6 v7) := by
  unfold fn_Md_declare_J99
  refine ah_aload_n C d_Md_declare_99 rfl ?_
  refine ah_bipush (v := 125) C d_Md_declare_100 rfl ?_
  refine ah_callVV (ci := 12) (As := [.int (125 : Int32)]) (rest := []) C (fun b => ok_Md_close E _ b (125 : Int32)) rfl (Or.inl we365) we366 we367 we300 we364 hy_Md_close (by omega) (by omega) rfl rfl (ah_rs trivial (Nat.le_of_ble_eq_true rfl)) d_Md_declare_102 ?_
  refine ah_aload_n C d_Md_declare_105 rfl ?_
  refine ah_callVI (ci := 12) (As := []) (rest := []) C (fun b => ok_Md_look E _ b) rfl (Or.inl we357) we358 we359 we300 we356 hy_Md_look (by omega) (by omega) rfl rfl (ah_rs trivial (Nat.le_of_ble_eq_true rfl)) d_Md_declare_106 (fun x106 => ?_)
  refine ah_if_lt (tgt := 116) C d_Md_declare_109 rfl (fun _ => ?_) (fun _ => ?_)
  · refine ah_mask [true, true, true, true, true, true, true, true, false] (lv' := [some (va_rf (some t)), some (.int v1), some (.int v2), some (.int v3), some (.int v4), some (.int v5), some (.int v6), some (.int v7), none]) rfl ?_
    exact ok_Md_declare_J116 C hr hlk t v1 v2 v3 v4 v5 v6 v7
  · refine ah_aload_n C d_Md_declare_112 rfl ?_
    refine ah_callVV (ci := 12) (As := []) (rest := []) C (fun b => ok_Md_fail E _ b) rfl (Or.inl we361) we362 we363 we300 we360 hy_Md_fail (by omega) (by omega) rfl rfl (ah_rs trivial (Nat.le_of_ble_eq_true rfl)) d_Md_declare_113 ?_
    refine ah_mask [true, true, true, true, true, true, true, true, false] (lv' := [some (va_rf (some t)), some (.int v1), some (.int v2), some (.int v3), some (.int v4), some (.int v5), some (.int v6), some (.int v7), none]) rfl ?_
    exact ok_Md_declare_J116 C hr hlk t v1 v2 v3 v4 v5 v6 v7
set_option maxRecDepth 100000 in
set_option maxHeartbeats 4000000 in
theorem ok_Md_declare_B74 {E : ahE} {X : ahX} (C : ah_Cx E X prog_13_method_43_code 9 "BoundedTypesModel" 5 115) (hr : (ax_M X).sig.returnType = some .int) (hlk : (ax_M X).locks = false) (t : Nat) (v1 : Int32) (v2 : Int32) (v3 : Int32) (v4 : Int32) (v5 : Int32) (v6 : Int32) (v7 : Int32) : ∀ (n : Nat), ah_S E X (ah_Q E X rv_I) 74 [some (va_rf (some t)), some (.int v1), some (.int v2), some (.int v3), some (.int v4), some (.int v5), some (.int v6), some (.int v7), none] [] (ah_lp (fn_Md_declare_B74 t v1 v2 v3 v4 v5 v6 v7) n ()) := by
  intro n
  induction n with
  | zero => intro h r n u c hs; cases hs
  | succ n hk74 =>
    show ah_S E X (ah_Q E X rv_I) 74 _ _ (fn_Md_declare_B74 t v1 v2 v3 v4 v5 v6 v7 (ah_lp (fn_Md_declare_B74 t v1 v2 v3 v4 v5 v6 v7) n) ())
    generalize ah_lp (fn_Md_declare_B74 t v1 v2 v3 v4 v5 v6 v7) n = k74 at hk74 ⊢
    rw [fn_Md_declare_B74]
    refine ah_aload_n C d_Md_declare_74 rfl ?_
    refine ah_getI (ci := 12) (k := 5) C rfl (by decide) rfl (Or.inl we354) d_Md_declare_75 (fun x75 => ?_)
    refine ah_if_ge (tgt := 99) C d_Md_declare_78 rfl (fun _ => ?_) (fun _ => ?_)
    · refine ah_mask [true, true, true, true, true, true, true, true, false] (lv' := [some (va_rf (some t)), some (.int v1), some (.int v2), some (.int v3), some (.int v4), some (.int v5), some (.int v6), some (.int v7), none]) rfl ?_
      exact ok_Md_declare_J99 C hr hlk t v1 v2 v3 v4 v5 v6 v7
    · refine ah_aload_n C d_Md_declare_81 rfl ?_
      refine ah_callVI (ci := 12) (As := []) (rest := []) C (fun b => ok_Md_look E _ b) rfl (Or.inl we357) we358 we359 we300 we356 hy_Md_look (by omega) (by omega) rfl rfl (ah_rs trivial (Nat.le_of_ble_eq_true rfl)) d_Md_declare_82 (fun x82 => ?_)
      refine ah_bipush (v := 125) C d_Md_declare_85 rfl ?_
      refine ah_icmp_eq (tgt := 99) C d_Md_declare_87 rfl (fun _ => ?_) (fun _ => ?_)
      · refine ah_mask [true, true, true, true, true, true, true, true, false] (lv' := [some (va_rf (some t)), some (.int v1), some (.int v2), some (.int v3), some (.int v4), some (.int v5), some (.int v6), some (.int v7), none]) rfl ?_
        exact ok_Md_declare_J99 C hr hlk t v1 v2 v3 v4 v5 v6 v7
      · refine ah_aload_n C d_Md_declare_90 rfl ?_
        refine ah_iload C d_Md_declare_91 rfl ?_
        exact ah_Sno
set_option maxRecDepth 100000 in
set_option maxHeartbeats 4000000 in
theorem ok_Md_declare (E : ahE) (l : Launch) (t : Nat) : ah_met E l y_Md_declare prog_13_method_43_code 9 (some .int) 5 115 rv_I [.ref t] (fn_Md_declare t) := by
  refine ah_met_of (by decide +kernel) (ah_c1_all ⟨rfl, trivial⟩) (Nat.le_of_ble_eq_true rfl) (lv := [some (va_rf (some t)), none, none, none, none, none, none, none, none]) rfl (fun X C hl hr hlk hnm => ?_)
  subst hl
  unfold fn_Md_declare
  refine ah_aload_n C d_Md_declare_0 rfl ?_
  refine ah_getI (ci := 12) (k := 7) C rfl (by decide) rfl (Or.inl we297) d_Md_declare_1 (fun x1 => ?_)
  refine ah_istore_n (lv' := [some (va_rf (some t)), some (.int x1), none, none, none, none, none, none, none]) C d_Md_declare_4 (Nat.le_of_ble_eq_true rfl) rfl ?_
  refine ah_aload_n C d_Md_declare_5 rfl ?_
  refine ah_getI (ci := 12) (k := 23) C rfl (by decide) rfl (Or.inl we384) d_Md_declare_6 (fun x6 => ?_)
  refine ah_istore_n (lv' := [some (va_rf (some t)), some (.int x1), some (.int x6), none, none, none, none, none, none]) C d_Md_declare_9 (Nat.le_of_ble_eq_true rfl) rfl ?_
  refine ah_aload_n C d_Md_declare_10 rfl ?_
  refine ah_getI (ci := 12) (k := 27) C rfl (by decide) rfl (Or.inl we385) d_Md_declare_11 (fun x11 => ?_)
  refine ah_istore_n (lv' := [some (va_rf (some t)), some (.int x1), some (.int x6), some (.int x11), none, none, none, none, none]) C d_Md_declare_14 (Nat.le_of_ble_eq_true rfl) rfl ?_
  refine ah_aload_n C d_Md_declare_15 rfl ?_
  refine ah_getI (ci := 12) (k := 39) C rfl (by decide) rfl (Or.inl we386) d_Md_declare_16 (fun x16 => ?_)
  refine ah_istore (lv' := [some (va_rf (some t)), some (.int x1), some (.int x6), some (.int x11), some (.int x16), none, none, none, none]) C d_Md_declare_19 (Nat.le_of_ble_eq_true rfl) rfl ?_
  refine ah_aload_n C d_Md_declare_21 rfl ?_
  refine ah_callVV (ci := 12) (As := []) (rest := []) C (fun b => ok_Md_begin E _ b) rfl (Or.inl we389) we390 we391 we300 we388 hy_Md_begin (by omega) (by omega) rfl rfl (ah_rs trivial (Nat.le_of_ble_eq_true rfl)) d_Md_declare_22 ?_
  refine ah_aload_n C d_Md_declare_25 rfl ?_
  refine ah_bipush (v := 65) C d_Md_declare_26 rfl ?_
  refine ah_bipush (v := 72) C d_Md_declare_28 rfl ?_
  refine ah_callVI (ci := 12) (As := [.int (65 : Int32), .int (72 : Int32)]) (rest := []) C (fun b => ok_Md_readLetter E _ b (65 : Int32) (72 : Int32)) rfl (Or.inl we373) we374 we375 we300 we372 hy_Md_readLetter (by omega) (by omega) rfl rfl (ah_rs trivial (Nat.le_of_ble_eq_true rfl)) d_Md_declare_30 (fun x30 => ?_)
  refine ah_istore (lv' := [some (va_rf (some t)), some (.int x1), some (.int x6), some (.int x11), some (.int x16), some (.int x30), none, none, none]) C d_Md_declare_33 (Nat.le_of_ble_eq_true rfl) rfl ?_
  refine ah_aload_n C d_Md_declare_35 rfl ?_
  refine ah_aload_n C d_Md_declare_36 rfl ?_
  refine ah_getR (ci := 12) (k := 21) C rfl (by decide) rfl (Or.inl we316) d_Md_declare_37 (fun x37 => ?_)
  refine ah_aload_n C d_Md_declare_40 rfl ?_
  refine ah_getR (ci := 12) (k := 22) C rfl (by decide) rfl (Or.inl we317) d_Md_declare_41 (fun x41 => ?_)
  refine ah_iconst (v := 0) C d_Md_declare_44 rfl ?_
  refine ah_callVI (ci := 12) (As := [va_rf x37, va_rf x41, .int (0 : Int32)]) (rest := []) C (fun b => ok_Md_readBounds E _ b x37 x41 (0 : Int32)) rfl (Or.inl we393) we394 we395 we300 we392 hy_Md_readBounds (by omega) (by omega) rfl rfl (ah_rs trivial (Nat.le_of_ble_eq_true rfl)) d_Md_declare_45 (fun x45 => ?_)
  refine ah_istore (lv' := [some (va_rf (some t)), some (.int x1), some (.int x6), some (.int x11), some (.int x16), some (.int x30), some (.int x45), none, none]) C d_Md_declare_48 (Nat.le_of_ble_eq_true rfl) rfl ?_
  refine ah_aload_n C d_Md_declare_50 rfl ?_
  refine ah_bipush (v := 58) C d_Md_declare_51 rfl ?_
  refine ah_callVV (ci := 12) (As := [.int (58 : Int32)]) (rest := []) C (fun b => ok_Md_expect E _ b (58 : Int32)) rfl (Or.inl we377) we378 we379 we300 we376 hy_Md_expect (by omega) (by omega) rfl rfl (ah_rs trivial (Nat.le_of_ble_eq_true rfl)) d_Md_declare_53 ?_
  refine ah_aload_n C d_Md_declare_56 rfl ?_
  refine ah_iconst (v := 1) C d_Md_declare_57 rfl ?_
  refine ah_callVI (ci := 12) (As := [.int (1 : Int32)]) (rest := []) C (fun b => ok_Md_readType E _ b (1 : Int32)) rfl (Or.inl we381) we382 we383 we300 we380 hy_Md_readType (by omega) (by omega) rfl rfl (ah_rs trivial (Nat.le_of_ble_eq_true rfl)) d_Md_declare_58 (fun x58 => ?_)
  refine ah_istore (lv' := [some (va_rf (some t)), some (.int x1), some (.int x6), some (.int x11), some (.int x16), some (.int x30), some (.int x45), some (.int x58), none]) C d_Md_declare_61 (Nat.le_of_ble_eq_true rfl) rfl ?_
  refine ah_aload_n C d_Md_declare_63 rfl ?_
  refine ah_bipush (v := 123) C d_Md_declare_64 rfl ?_
  refine ah_callVV (ci := 12) (As := [.int (123 : Int32)]) (rest := []) C (fun b => ok_Md_open E _ b (123 : Int32)) rfl (Or.inl we369) we370 we371 we300 we368 hy_Md_open (by omega) (by omega) rfl rfl (ah_rs trivial (Nat.le_of_ble_eq_true rfl)) d_Md_declare_66 ?_
  refine ah_aload_n C d_Md_declare_69 rfl ?_
  refine ah_iconst (v := 0) C d_Md_declare_70 rfl ?_
  refine ah_putI (ci := 12) (k := 41) C rfl (by decide) rfl (Or.inl we396) (Or.inl rfl) rfl rfl d_Md_declare_71 ?_
  refine ah_mask [true, true, true, true, true, true, true, true, false] (lv' := [some (va_rf (some t)), some (.int x1), some (.int x6), some (.int x11), some (.int x16), some (.int x30), some (.int x45), some (.int x58), none]) rfl ?_
  exact ok_Md_declare_B74 C hr hlk t x1 x6 x11 x16 x30 x45 x58 FU
set_option maxRecDepth 100000 in
set_option maxHeartbeats 4000000 in
theorem ok_Md_put (E : ahE) (l : Launch) (t : Nat) (v1 : Int32) (v2 : Int32) (v3 : Int32) : ah_met E l y_Md_put prog_13_method_30_code 4 none 0 0 rv_V [.ref t, .int v1, .int v2, .int v3] (fn_Md_put t v1 v2 v3) := by
  refine ah_met_of (by decide +kernel) (ah_c1_all ⟨rfl, rfl, rfl, rfl, trivial⟩) (Nat.le_of_ble_eq_true rfl) (lv := [some (va_rf (some t)), some (.int v1), some (.int v2), some (.int v3)]) rfl (fun X C hl hr hlk hnm => ?_)
  subst hl
  unfold fn_Md_put
  refine ah_aload_n C d_Md_put_0 rfl ?_
  refine ah_getR (ci := 12) (k := 40) C rfl (by decide) rfl (Or.inl we333) d_Md_put_1 (fun x1 => ?_)
  refine ah_aload_n C d_Md_put_4 rfl ?_
  refine ah_getI (ci := 12) (k := 39) C rfl (by decide) rfl (Or.inl we386) d_Md_put_5 (fun x5 => ?_)
  refine ah_iload_n C d_Md_put_8 rfl ?_
  refine ah_i2l C d_Md_put_9 ?_
  refine ah_ldc2 (v := 16) C we397 d_Md_put_10 ?_
  refine ah_iload_n C d_Md_put_13 rfl ?_
  refine ah_i2l C d_Md_put_14 ?_
  refine ah_lmul C d_Md_put_15 ?_
  refine ah_ladd C d_Md_put_16 ?_
  refine ah_ldc2 (v := 8192) C we398 d_Md_put_17 ?_
  refine ah_iload_n C d_Md_put_20 rfl ?_
  refine ah_i2l C d_Md_put_21 ?_
  refine ah_lmul C d_Md_put_22 ?_
  refine ah_ladd C d_Md_put_23 ?_
  refine ah_lastore (j := 4) (f := fun _ => _) C rfl d_Md_put_24 ?_
  refine ah_aload_n C d_Md_put_25 rfl ?_
  refine ah_aload_n C d_Md_put_26 rfl ?_
  refine ah_getI (ci := 12) (k := 39) C rfl (by decide) rfl (Or.inl we386) d_Md_put_27 (fun x27 => ?_)
  refine ah_iconst (v := 1) C d_Md_put_30 rfl ?_
  refine ah_iadd C d_Md_put_31 ?_
  refine ah_putI (ci := 12) (k := 39) C rfl (by decide) rfl (Or.inl we386) (Or.inl rfl) rfl rfl d_Md_put_32 ?_
  exact ah_vret C hr hlk d_Md_put_35
set_option maxRecDepth 100000 in
set_option maxHeartbeats 4000000 in
theorem ok_Md_readBase (E : ahE) (l : Launch) (t : Nat) (v1 : Int32) : ah_met E l y_Md_readBase prog_13_method_39_code 4 (some .int) 4 90 rv_I [.ref t, .int v1] (fn_Md_readBase t v1) := by
  refine ah_met_of (by decide +kernel) (ah_c1_all ⟨rfl, rfl, trivial⟩) (Nat.le_of_ble_eq_true rfl) (lv := [some (va_rf (some t)), some (.int v1), none, none]) rfl (fun X C hl hr hlk hnm => ?_)
  subst hl
  unfold fn_Md_readBase
  refine ah_aload_n C d_Md_readBase_0 rfl ?_
  refine ah_callVI (ci := 12) (As := []) (rest := []) C (fun b => ok_Md_look E _ b) rfl (Or.inl we357) we358 we359 we300 we356 hy_Md_look (by omega) (by omega) rfl rfl (ah_rs trivial (Nat.le_of_ble_eq_true rfl)) d_Md_readBase_1 (fun x1 => ?_)
  refine ah_istore_n (lv' := [some (va_rf (some t)), some (.int v1), some (.int x1), none]) C d_Md_readBase_4 (Nat.le_of_ble_eq_true rfl) rfl ?_
  refine ah_iload_n C d_Md_readBase_5 rfl ?_
  refine ah_bipush (v := 40) C d_Md_readBase_6 rfl ?_
  refine ah_icmp_ne (tgt := 67) C d_Md_readBase_8 rfl (fun _ => ?_) (fun _ => ?_)
  · refine ah_iload_n C d_Md_readBase_67 rfl ?_
    refine ah_bipush (v := 42) C d_Md_readBase_68 rfl ?_
    refine ah_icmp_ne (tgt := 139) C d_Md_readBase_70 rfl (fun _ => ?_) (fun _ => ?_)
    · refine ah_aload_n C d_Md_readBase_139 rfl ?_
      refine ah_iconst (v := 1) C d_Md_readBase_140 rfl ?_
      refine ah_aload_n C d_Md_readBase_141 rfl ?_
      refine ah_bipush (v := 97) C d_Md_readBase_142 rfl ?_
      refine ah_bipush (v := 122) C d_Md_readBase_144 rfl ?_
      refine ah_callVI (ci := 12) (As := [.int (97 : Int32), .int (122 : Int32)]) (rest := [.int (1 : Int32), va_rf (some t)]) C (fun b => ok_Md_readLetter E _ b (97 : Int32) (122 : Int32)) rfl (Or.inl we373) we374 we375 we300 we372 hy_Md_readLetter (by omega) (by omega) rfl rfl (ah_rs ⟨rfl, (ah_rf_cat _), trivial⟩ (Nat.le_of_ble_eq_true rfl)) d_Md_readBase_146 (fun x146 => ?_)
      refine ah_iconst (v := 0) C d_Md_readBase_149 rfl ?_
      refine ah_callVV (ci := 12) (As := [.int (1 : Int32), .int x146, .int (0 : Int32)]) (rest := []) C (fun b => ok_Md_put E _ b (1 : Int32) x146 (0 : Int32)) rfl (Or.inl we400) we401 we402 we300 we399 hy_Md_put (by omega) (by omega) rfl rfl (ah_rs trivial (Nat.le_of_ble_eq_true rfl)) d_Md_readBase_150 ?_
      refine ah_iload_n C d_Md_readBase_153 rfl ?_
      exact ah_iret C hr hlk rfl d_Md_readBase_154
    · refine ah_aload_n C d_Md_readBase_73 rfl ?_
      refine ah_aload_n C d_Md_readBase_74 rfl ?_
      refine ah_getI (ci := 12) (k := 3) C rfl (by decide) rfl (Or.inl we351) d_Md_readBase_75 (fun x75 => ?_)
      refine ah_iconst (v := 1) C d_Md_readBase_78 rfl ?_
      refine ah_iadd C d_Md_readBase_79 ?_
      refine ah_putI (ci := 12) (k := 3) C rfl (by decide) rfl (Or.inl we351) (Or.inl rfl) rfl rfl d_Md_readBase_80 ?_
      refine ah_aload_n C d_Md_readBase_83 rfl ?_
      refine ah_iconst (v := 1) C d_Md_readBase_84 rfl ?_
      refine ah_callVI (ci := 12) (As := [.int (1 : Int32)]) (rest := []) C (fun b => ok_Md_readType E _ b (1 : Int32)) rfl (Or.inl we381) we382 we383 we300 we380 hy_Md_readType (by omega) (by omega) rfl rfl (ah_rs trivial (Nat.le_of_ble_eq_true rfl)) d_Md_readBase_85 (fun x85 => ?_)
      refine ah_istore_n (lv' := [some (va_rf (some t)), some (.int v1), some (.int x1), some (.int x85)]) C d_Md_readBase_88 (Nat.le_of_ble_eq_true rfl) rfl ?_
      refine ah_aload_n C d_Md_readBase_89 rfl ?_
      refine ah_bipush (v := 6) C d_Md_readBase_90 rfl ?_
      refine ah_iconst (v := 0) C d_Md_readBase_92 rfl ?_
      refine ah_iconst (v := 0) C d_Md_readBase_93 rfl ?_
      refine ah_callVV (ci := 12) (As := [.int (6 : Int32), .int (0 : Int32), .int (0 : Int32)]) (rest := []) C (fun b => ok_Md_put E _ b (6 : Int32) (0 : Int32) (0 : Int32)) rfl (Or.inl we400) we401 we402 we300 we399 hy_Md_put (by omega) (by omega) rfl rfl (ah_rs trivial (Nat.le_of_ble_eq_true rfl)) d_Md_readBase_94 ?_
      refine ah_aload_n C d_Md_readBase_97 rfl ?_
      refine ah_getR (ci := 12) (k := 40) C rfl (by decide) rfl (Or.inl we333) d_Md_readBase_98 (fun x98 => ?_)
      refine ah_aload_n C d_Md_readBase_101 rfl ?_
      refine ah_getI (ci := 12) (k := 39) C rfl (by decide) rfl (Or.inl we386) d_Md_readBase_102 (fun x102 => ?_)
      refine ah_iconst (v := 1) C d_Md_readBase_105 rfl ?_
      refine ah_isub C d_Md_readBase_106 ?_
      refine ah_aload_n C d_Md_readBase_107 rfl ?_
      refine ah_getR (ci := 12) (k := 40) C rfl (by decide) rfl (Or.inl we333) d_Md_readBase_108 (fun x108 => ?_)
      refine ah_aload_n C d_Md_readBase_111 rfl ?_
      refine ah_getI (ci := 12) (k := 39) C rfl (by decide) rfl (Or.inl we386) d_Md_readBase_112 (fun x112 => ?_)
      refine ah_iconst (v := 1) C d_Md_readBase_115 rfl ?_
      refine ah_isub C d_Md_readBase_116 ?_
      exact ah_Sno
  · refine ah_aload_n C d_Md_readBase_11 rfl ?_
    refine ah_bipush (v := 40) C d_Md_readBase_12 rfl ?_
    refine ah_callVV (ci := 12) (As := [.int (40 : Int32)]) (rest := []) C (fun b => ok_Md_open E _ b (40 : Int32)) rfl (Or.inl we369) we370 we371 we300 we368 hy_Md_open (by omega) (by omega) rfl rfl (ah_rs trivial (Nat.le_of_ble_eq_true rfl)) d_Md_readBase_14 ?_
    refine ah_aload_n C d_Md_readBase_17 rfl ?_
    refine ah_callVI (ci := 12) (As := []) (rest := []) C (fun b => ok_Md_look E _ b) rfl (Or.inl we357) we358 we359 we300 we356 hy_Md_look (by omega) (by omega) rfl rfl (ah_rs trivial (Nat.le_of_ble_eq_true rfl)) d_Md_readBase_18 (fun x18 => ?_)
    refine ah_bipush (v := 65) C d_Md_readBase_21 rfl ?_
    refine ah_bipush (v := 72) C d_Md_readBase_23 rfl ?_
    refine ah_callSI (As := [.int x18, .int (65 : Int32), .int (72 : Int32)]) (rest := []) C (ok_Md_in E _ x18 (65 : Int32) (72 : Int32)) (Or.inl we349) we350 we300 we348 hy_Md_in (by omega) (by omega) rfl rfl (ah_rs trivial (Nat.le_of_ble_eq_true rfl)) d_Md_readBase_25 (fun x25 => ?_)
    refine ah_if_ne (tgt := 43) C d_Md_readBase_28 rfl (fun _ => ?_) (fun _ => ?_)
    · refine ah_aload_n C d_Md_readBase_43 rfl ?_
      refine ah_iconst (v := 1) C d_Md_readBase_44 rfl ?_
      refine ah_callVI (ci := 12) (As := [.int (1 : Int32)]) (rest := []) C (fun b => ok_Md_readType E _ b (1 : Int32)) rfl (Or.inl we381) we382 we383 we300 we380 hy_Md_readType (by omega) (by omega) rfl rfl (ah_rs trivial (Nat.le_of_ble_eq_true rfl)) d_Md_readBase_45 (fun x45 => ?_)
      refine ah_istore_n (lv' := [some (va_rf (some t)), some (.int v1), some (.int x1), some (.int x45)]) C d_Md_readBase_48 (Nat.le_of_ble_eq_true rfl) rfl ?_
      refine ah_aload_n C d_Md_readBase_49 rfl ?_
      refine ah_bipush (v := 41) C d_Md_readBase_50 rfl ?_
      refine ah_callVV (ci := 12) (As := [.int (41 : Int32)]) (rest := []) C (fun b => ok_Md_close E _ b (41 : Int32)) rfl (Or.inl we365) we366 we367 we300 we364 hy_Md_close (by omega) (by omega) rfl rfl (ah_rs trivial (Nat.le_of_ble_eq_true rfl)) d_Md_readBase_52 ?_
      refine ah_sipush (v := 1000) C d_Md_readBase_55 rfl ?_
      refine ah_aload_n C d_Md_readBase_58 rfl ?_
      refine ah_iload_n C d_Md_readBase_59 rfl ?_
      refine ah_iconst (v := 1) C d_Md_readBase_60 rfl ?_
      refine ah_iload_n C d_Md_readBase_61 rfl ?_
      exact ah_Sno
    · refine ah_sipush (v := 1000) C d_Md_readBase_31 rfl ?_
      refine ah_aload_n C d_Md_readBase_34 rfl ?_
      refine ah_iload_n C d_Md_readBase_35 rfl ?_
      refine ah_iconst (v := 2) C d_Md_readBase_36 rfl ?_
      refine ah_iconst (v := 0) C d_Md_readBase_37 rfl ?_
      exact ah_Sno
set_option maxRecDepth 100000 in
set_option maxHeartbeats 4000000 in
theorem ok_Md_readExpression_J198 {E : ahE} {X : ahX} (C : ah_Cx E X prog_13_method_36_code 4 "BoundedTypesModel" 5 113) (hr : (ax_M X).sig.returnType = none) (hlk : (ax_M X).locks = false) (t : Nat) (v1 : Int32) (v3 : Int32) (w0 : Int32) (k6 : (Int32 × Int32 × Int32) → ahM Unit) (hk6 : ∀ (z1 : Int32) (z2 : Int32) (z3 : Int32), ah_S E X (ah_Q E X rv_V) 6 [some (va_rf (some t)), some (.int z1), some (.int z2), some (.int z3)] [] (k6 (z1, z2, z3))) : ah_S E X (ah_Q E X rv_V) 198 [some (va_rf (some t)), some (.int v1), none, some (.int v3)] [.int w0] (fn_Md_readExpression_J198 t v1 v3 w0 k6) := by
  unfold fn_Md_readExpression_J198
  refine ah_istore_n (lv' := [some (va_rf (some t)), some (.int v1), some (.int w0), some (.int v3)]) C d_Md_readExpression_198 (Nat.le_of_ble_eq_true rfl) rfl ?_
  refine ah_iload_n C d_Md_readExpression_199 rfl ?_
  refine ah_if_eq (tgt := 216) C d_Md_readExpression_200 rfl (fun _ => ?_) (fun _ => ?_)
  · refine ah_aload_n C d_Md_readExpression_216 rfl ?_
    refine ah_bipush (v := 41) C d_Md_readExpression_217 rfl ?_
    refine ah_callVV (ci := 12) (As := [.int (41 : Int32)]) (rest := []) C (fun b => ok_Md_close E _ b (41 : Int32)) rfl (Or.inl we365) we366 we367 we300 we364 hy_Md_close (by omega) (by omega) rfl rfl (ah_rs trivial (Nat.le_of_ble_eq_true rfl)) d_Md_readExpression_219 ?_
    refine ah_iload_n C d_Md_readExpression_222 rfl ?_
    refine ah_iconst (v := 1) C d_Md_readExpression_223 rfl ?_
    refine ah_isub C d_Md_readExpression_224 ?_
    refine ah_istore_n (lv' := [some (va_rf (some t)), some (.int (v1 - (1 : Int32))), some (.int w0), some (.int v3)]) C d_Md_readExpression_225 (Nat.le_of_ble_eq_true rfl) rfl ?_
    refine ah_aload_n C d_Md_readExpression_226 rfl ?_
    refine ah_iload_n C d_Md_readExpression_227 rfl ?_
    exact ah_Sno
  · refine ah_aload_n C d_Md_readExpression_203 rfl ?_
    refine ah_aload_n C d_Md_readExpression_204 rfl ?_
    refine ah_getI (ci := 12) (k := 3) C rfl (by decide) rfl (Or.inl we351) d_Md_readExpression_205 (fun x205 => ?_)
    refine ah_iconst (v := 1) C d_Md_readExpression_208 rfl ?_
    refine ah_iadd C d_Md_readExpression_209 ?_
    refine ah_putI (ci := 12) (k := 3) C rfl (by decide) rfl (Or.inl we351) (Or.inl rfl) rfl rfl d_Md_readExpression_210 ?_
    refine ah_goto (tgt := 6) C d_Md_readExpression_213 rfl ?_
    refine ah_mask [true, true, true, true] (lv' := [some (va_rf (some t)), some (.int v1), some (.int w0), some (.int v3)]) rfl ?_
    exact hk6 v1 w0 v3
set_option maxRecDepth 100000 in
set_option maxHeartbeats 4000000 in
theorem ok_Md_readExpression_J76 {E : ahE} {X : ahX} (C : ah_Cx E X prog_13_method_36_code 4 "BoundedTypesModel" 5 113) (hr : (ax_M X).sig.returnType = none) (hlk : (ax_M X).locks = false) (t : Nat) (v1 : Int32) (v3 : Int32) (w0 : Int32) (k6 : (Int32 × Int32 × Int32) → ahM Unit) (hk6 : ∀ (z1 : Int32) (z2 : Int32) (z3 : Int32), ah_S E X (ah_Q E X rv_V) 6 [some (va_rf (some t)), some (.int z1), some (.int z2), some (.int z3)] [] (k6 (z1, z2, z3))) : ah_S E X (ah_Q E X rv_V) 76 [some (va_rf (some t)), some (.int v1), none, some (.int v3)] [.int w0] (fn_Md_readExpression_J76 t v1 v3 w0 k6) := by
  unfold fn_Md_readExpression_J76
  refine ah_istore_n (lv' := [some (va_rf (some t)), some (.int v1), some (.int w0), some (.int v3)]) C d_Md_readExpression_76 (Nat.le_of_ble_eq_true rfl) rfl ?_
  refine ah_iload_n C d_Md_readExpression_77 rfl ?_
  refine ah_sipush (v := 1000) C d_Md_readExpression_78 rfl ?_
  refine ah_irem C (by decide) d_Md_readExpression_81 ?_
  refine ah_istore_n (lv' := [some (va_rf (some t)), some (.int (ah_rem v1 (1000 : Int32))), some (.int w0), some (.int v3)]) C d_Md_readExpression_82 (Nat.le_of_ble_eq_true rfl) rfl ?_
  refine ah_goto (tgt := 6) C d_Md_readExpression_83 rfl ?_
  refine ah_mask [true, true, true, true] (lv' := [some (va_rf (some t)), some (.int (ah_rem v1 (1000 : Int32))), some (.int w0), some (.int v3)]) rfl ?_
  exact hk6 (ah_rem v1 (1000 : Int32)) w0 v3
set_option maxRecDepth 100000 in
set_option maxHeartbeats 4000000 in
theorem ok_Md_readExpression_J39 {E : ahE} {X : ahX} (C : ah_Cx E X prog_13_method_36_code 4 "BoundedTypesModel" 5 113) (hr : (ax_M X).sig.returnType = none) (hlk : (ax_M X).locks = false) (t : Nat) (v1 : Int32) (v3 : Int32) (w0 : Int32) (k6 : (Int32 × Int32 × Int32) → ahM Unit) (hk6 : ∀ (z1 : Int32) (z2 : Int32) (z3 : Int32), ah_S E X (ah_Q E X rv_V) 6 [some (va_rf (some t)), some (.int z1), some (.int z2), some (.int z3)] [] (k6 (z1, z2, z3))) : ah_S E X (ah_Q E X rv_V) 39 [some (va_rf (some t)), some (.int v1), none, some (.int v3)] [.int w0] (fn_Md_readExpression_J39 t v1 v3 w0 k6) := by
  unfold fn_Md_readExpression_J39
  refine ah_istore_n (lv' := [some (va_rf (some t)), some (.int v1), some (.int w0), some (.int v3)]) C d_Md_readExpression_39 (Nat.le_of_ble_eq_true rfl) rfl ?_
  refine ah_iload_n C d_Md_readExpression_40 rfl ?_
  refine ah_sipush (v := 1000) C d_Md_readExpression_41 rfl ?_
  refine ah_irem C (by decide) d_Md_readExpression_44 ?_
  refine ah_istore_n (lv' := [some (va_rf (some t)), some (.int (ah_rem v1 (1000 : Int32))), some (.int w0), some (.int v3)]) C d_Md_readExpression_45 (Nat.le_of_ble_eq_true rfl) rfl ?_
  refine ah_goto (tgt := 6) C d_Md_readExpression_46 rfl ?_
  refine ah_mask [true, true, true, true] (lv' := [some (va_rf (some t)), some (.int (ah_rem v1 (1000 : Int32))), some (.int w0), some (.int v3)]) rfl ?_
  exact hk6 (ah_rem v1 (1000 : Int32)) w0 v3
set_option maxRecDepth 100000 in
set_option maxHeartbeats 4000000 in
theorem ok_Md_readExpression_B6 {E : ahE} {X : ahX} (C : ah_Cx E X prog_13_method_36_code 4 "BoundedTypesModel" 5 113) (hr : (ax_M X).sig.returnType = none) (hlk : (ax_M X).locks = false) (t : Nat) : ∀ (n : Nat) (v1 : Int32) (v2 : Int32) (v3 : Int32), ah_S E X (ah_Q E X rv_V) 6 [some (va_rf (some t)), some (.int v1), some (.int v2), some (.int v3)] [] (ah_lp (fn_Md_readExpression_B6 t) n (v1, v2, v3)) := by
  intro n
  induction n with
  | zero => intro v1 v2 v3 h r n u c hs; cases hs
  | succ n hk6 =>
    intro v1 v2 v3
    show ah_S E X (ah_Q E X rv_V) 6 _ _ (fn_Md_readExpression_B6 t (ah_lp (fn_Md_readExpression_B6 t) n) (v1, v2, v3))
    generalize ah_lp (fn_Md_readExpression_B6 t) n = k6 at hk6 ⊢
    rw [fn_Md_readExpression_B6]
    refine ah_aload_n C d_Md_readExpression_6 rfl ?_
    refine ah_getI (ci := 12) (k := 5) C rfl (by decide) rfl (Or.inl we354) d_Md_readExpression_7 (fun x7 => ?_)
    refine ah_if_ge (tgt := 234) C d_Md_readExpression_10 rfl (fun _ => ?_) (fun _ => ?_)
    · exact ah_vret C hr hlk d_Md_readExpression_234
    · refine ah_iload_n C d_Md_readExpression_13 rfl ?_
      refine ah_if_ne (tgt := 234) C d_Md_readExpression_14 rfl (fun _ => ?_) (fun _ => ?_)
      · exact ah_vret C hr hlk d_Md_readExpression_234
      · refine ah_iload_n C d_Md_readExpression_17 rfl ?_
        refine ah_if_eq (tgt := 49) C d_Md_readExpression_18 rfl (fun _ => ?_) (fun _ => ?_)
        · refine ah_aload_n C d_Md_readExpression_49 rfl ?_
          refine ah_callVI (ci := 12) (As := []) (rest := []) C (fun b => ok_Md_look E _ b) rfl (Or.inl we357) we358 we359 we300 we356 hy_Md_look (by omega) (by omega) rfl rfl (ah_rs trivial (Nat.le_of_ble_eq_true rfl)) d_Md_readExpression_50 (fun x50 => ?_)
          refine ah_bipush (v := 46) C d_Md_readExpression_53 rfl ?_
          refine ah_icmp_ne (tgt := 86) C d_Md_readExpression_55 rfl (fun _ => ?_) (fun _ => ?_)
          · refine ah_iload_n C d_Md_readExpression_86 rfl ?_
            refine ah_if_ne (tgt := 95) C d_Md_readExpression_87 rfl (fun _ => ?_) (fun _ => ?_)
            · refine ah_aload_n C d_Md_readExpression_95 rfl ?_
              refine ah_getR (ci := 12) (k := 43) C rfl (by decide) rfl (Or.inl we335) d_Md_readExpression_96 (fun x96 => ?_)
              refine ah_iload_n C d_Md_readExpression_99 rfl ?_
              refine ah_iconst (v := 1) C d_Md_readExpression_100 rfl ?_
              refine ah_isub C d_Md_readExpression_101 ?_
              refine ah_iaload C rfl rfl d_Md_readExpression_102 (fun x102 => ?_)
              refine ah_iconst (v := 1) C d_Md_readExpression_103 rfl ?_
              refine ah_icmp_ne (tgt := 127) C d_Md_readExpression_104 rfl (fun _ => ?_) (fun _ => ?_)
              · refine ah_aload_n C d_Md_readExpression_127 rfl ?_
                refine ah_getR (ci := 12) (k := 43) C rfl (by decide) rfl (Or.inl we335) d_Md_readExpression_128 (fun x128 => ?_)
                refine ah_iload_n C d_Md_readExpression_131 rfl ?_
                refine ah_iconst (v := 1) C d_Md_readExpression_132 rfl ?_
                refine ah_isub C d_Md_readExpression_133 ?_
                refine ah_iaload C rfl rfl d_Md_readExpression_134 (fun x134 => ?_)
                refine ah_iconst (v := 2) C d_Md_readExpression_135 rfl ?_
                refine ah_icmp_ne (tgt := 152) C d_Md_readExpression_136 rfl (fun _ => ?_) (fun _ => ?_)
                · refine ah_aload_n C d_Md_readExpression_152 rfl ?_
                  refine ah_iconst (v := 4) C d_Md_readExpression_153 rfl ?_
                  refine ah_aload_n C d_Md_readExpression_154 rfl ?_
                  refine ah_getR (ci := 12) (k := 45) C rfl (by decide) rfl (Or.inl we337) d_Md_readExpression_155 (fun x155 => ?_)
                  refine ah_iload_n C d_Md_readExpression_158 rfl ?_
                  refine ah_iconst (v := 1) C d_Md_readExpression_159 rfl ?_
                  refine ah_isub C d_Md_readExpression_160 ?_
                  refine ah_iaload C rfl rfl d_Md_readExpression_161 (fun x161 => ?_)
                  refine ah_iconst (v := 0) C d_Md_readExpression_162 rfl ?_
                  refine ah_callVV (ci := 12) (As := [.int (4 : Int32), .int x161, .int (0 : Int32)]) (rest := []) C (fun b => ok_Md_put E _ b (4 : Int32) x161 (0 : Int32)) rfl (Or.inl we400) we401 we402 we300 we399 hy_Md_put (by omega) (by omega) rfl rfl (ah_rs trivial (Nat.le_of_ble_eq_true rfl)) d_Md_readExpression_163 ?_
                  refine ah_aload_n C d_Md_readExpression_166 rfl ?_
                  refine ah_getR (ci := 12) (k := 45) C rfl (by decide) rfl (Or.inl we337) d_Md_readExpression_167 (fun x167 => ?_)
                  refine ah_iload_n C d_Md_readExpression_170 rfl ?_
                  refine ah_iconst (v := 1) C d_Md_readExpression_171 rfl ?_
                  refine ah_isub C d_Md_readExpression_172 ?_
                  refine ah_aload_n C d_Md_readExpression_173 rfl ?_
                  refine ah_getR (ci := 12) (k := 45) C rfl (by decide) rfl (Or.inl we337) d_Md_readExpression_174 (fun x174 => ?_)
                  refine ah_iload_n C d_Md_readExpression_177 rfl ?_
                  refine ah_iconst (v := 1) C d_Md_readExpression_178 rfl ?_
                  refine ah_isub C d_Md_readExpression_179 ?_
                  refine ah_iaload C rfl rfl d_Md_readExpression_180 (fun x180 => ?_)
                  refine ah_iconst (v := 1) C d_Md_readExpression_181 rfl ?_
                  refine ah_iadd C d_Md_readExpression_182 ?_
                  refine ah_iastore C rfl rfl d_Md_readExpression_183 ?_
                  refine ah_aload_n C d_Md_readExpression_184 rfl ?_
                  refine ah_callVI (ci := 12) (As := []) (rest := []) C (fun b => ok_Md_look E _ b) rfl (Or.inl we357) we358 we359 we300 we356 hy_Md_look (by omega) (by omega) rfl rfl (ah_rs trivial (Nat.le_of_ble_eq_true rfl)) d_Md_readExpression_185 (fun x185 => ?_)
                  refine ah_bipush (v := 44) C d_Md_readExpression_188 rfl ?_
                  refine ah_icmp_ne (tgt := 197) C d_Md_readExpression_190 rfl (fun _ => ?_) (fun _ => ?_)
                  · refine ah_iconst (v := 0) C d_Md_readExpression_197 rfl ?_
                    refine ah_mask [true, true, false, true] (lv' := [some (va_rf (some t)), some (.int v1), none, some (.int v3)]) rfl ?_
                    exact ok_Md_readExpression_J198 C hr hlk t v1 v3 (0 : Int32) k6 hk6
                  · refine ah_iconst (v := 1) C d_Md_readExpression_193 rfl ?_
                    refine ah_goto (tgt := 198) C d_Md_readExpression_194 rfl ?_
                    refine ah_mask [true, true, false, true] (lv' := [some (va_rf (some t)), some (.int v1), none, some (.int v3)]) rfl ?_
                    exact ok_Md_readExpression_J198 C hr hlk t v1 v3 (1 : Int32) k6 hk6
                · refine ah_aload_n C d_Md_readExpression_139 rfl ?_
                  refine ah_bipush (v := 41) C d_Md_readExpression_140 rfl ?_
                  refine ah_callVV (ci := 12) (As := [.int (41 : Int32)]) (rest := []) C (fun b => ok_Md_close E _ b (41 : Int32)) rfl (Or.inl we365) we366 we367 we300 we364 hy_Md_close (by omega) (by omega) rfl rfl (ah_rs trivial (Nat.le_of_ble_eq_true rfl)) d_Md_readExpression_142 ?_
                  refine ah_iload_n C d_Md_readExpression_145 rfl ?_
                  refine ah_iconst (v := 1) C d_Md_readExpression_146 rfl ?_
                  refine ah_isub C d_Md_readExpression_147 ?_
                  refine ah_istore_n (lv' := [some (va_rf (some t)), some (.int (v1 - (1 : Int32))), some (.int v2), some (.int v3)]) C d_Md_readExpression_148 (Nat.le_of_ble_eq_true rfl) rfl ?_
                  refine ah_goto (tgt := 6) C d_Md_readExpression_149 rfl ?_
                  refine ah_mask [true, true, true, true] (lv' := [some (va_rf (some t)), some (.int (v1 - (1 : Int32))), some (.int v2), some (.int v3)]) rfl ?_
                  exact hk6 (v1 - (1 : Int32)) v2 v3
              · refine ah_iload_n C d_Md_readExpression_107 rfl ?_
                refine ah_iconst (v := 1) C d_Md_readExpression_108 rfl ?_
                refine ah_isub C d_Md_readExpression_109 ?_
                refine ah_istore_n (lv' := [some (va_rf (some t)), some (.int (v1 - (1 : Int32))), some (.int v2), some (.int v3)]) C d_Md_readExpression_110 (Nat.le_of_ble_eq_true rfl) rfl ?_
                refine ah_aload_n C d_Md_readExpression_111 rfl ?_
                refine ah_bipush (v := 8) C d_Md_readExpression_112 rfl ?_
                refine ah_iconst (v := 0) C d_Md_readExpression_114 rfl ?_
                refine ah_aload_n C d_Md_readExpression_115 rfl ?_
                refine ah_getR (ci := 12) (k := 44) C rfl (by decide) rfl (Or.inl we336) d_Md_readExpression_116 (fun x116 => ?_)
                refine ah_iload_n C d_Md_readExpression_119 rfl ?_
                refine ah_iaload C rfl rfl d_Md_readExpression_120 (fun x120 => ?_)
                refine ah_callVV (ci := 12) (As := [.int (8 : Int32), .int (0 : Int32), .int x120]) (rest := []) C (fun b => ok_Md_put E _ b (8 : Int32) (0 : Int32) x120) rfl (Or.inl we400) we401 we402 we300 we399 hy_Md_put (by omega) (by omega) rfl rfl (ah_rs trivial (Nat.le_of_ble_eq_true rfl)) d_Md_readExpression_121 ?_
                refine ah_goto (tgt := 6) C d_Md_readExpression_124 rfl ?_
                refine ah_mask [true, true, true, true] (lv' := [some (va_rf (some t)), some (.int (v1 - (1 : Int32))), some (.int v2), some (.int v3)]) rfl ?_
                exact hk6 (v1 - (1 : Int32)) v2 v3
            · refine ah_iconst (v := 1) C d_Md_readExpression_90 rfl ?_
              refine ah_istore_n (lv' := [some (va_rf (some t)), some (.int v1), some (.int v2), some (.int (1 : Int32))]) C d_Md_readExpression_91 (Nat.le_of_ble_eq_true rfl) rfl ?_
              refine ah_goto (tgt := 6) C d_Md_readExpression_92 rfl ?_
              refine ah_mask [true, true, true, true] (lv' := [some (va_rf (some t)), some (.int v1), some (.int v2), some (.int (1 : Int32))]) rfl ?_
              exact hk6 v1 v2 (1 : Int32)
          · refine ah_aload_n C d_Md_readExpression_58 rfl ?_
            refine ah_iload_n C d_Md_readExpression_59 rfl ?_
            exact ah_Sno
        · refine ah_aload_n C d_Md_readExpression_21 rfl ?_
          refine ah_iload_n C d_Md_readExpression_22 rfl ?_
          refine ah_callVI (ci := 12) (As := [.int v1]) (rest := []) C (fun b => ok_Md_readBase E _ b v1) rfl (Or.inl we404) we405 we406 we300 we403 hy_Md_readBase (by omega) (by omega) rfl rfl (ah_rs trivial (Nat.le_of_ble_eq_true rfl)) d_Md_readExpression_23 (fun x23 => ?_)
          refine ah_istore_n (lv' := [some (va_rf (some t)), some (.int x23), some (.int v2), some (.int v3)]) C d_Md_readExpression_26 (Nat.le_of_ble_eq_true rfl) rfl ?_
          refine ah_iload_n C d_Md_readExpression_27 rfl ?_
          refine ah_sipush (v := 1000) C d_Md_readExpression_28 rfl ?_
          refine ah_icmp_lt (tgt := 38) C d_Md_readExpression_31 rfl (fun _ => ?_) (fun _ => ?_)
          · refine ah_iconst (v := 0) C d_Md_readExpression_38 rfl ?_
            refine ah_mask [true, true, false, true] (lv' := [some (va_rf (some t)), some (.int x23), none, some (.int v3)]) rfl ?_
            exact ok_Md_readExpression_J39 C hr hlk t x23 v3 (0 : Int32) k6 hk6
          · refine ah_iconst (v := 1) C d_Md_readExpression_34 rfl ?_
            refine ah_goto (tgt := 39) C d_Md_readExpression_35 rfl ?_
            refine ah_mask [true, true, false, true] (lv' := [some (va_rf (some t)), some (.int x23), none, some (.int v3)]) rfl ?_
            exact ok_Md_readExpression_J39 C hr hlk t x23 v3 (1 : Int32) k6 hk6
set_option maxRecDepth 100000 in
set_option maxHeartbeats 4000000 in
theorem ok_Md_readExpression (E : ahE) (l : Launch) (t : Nat) : ah_met E l y_Md_readExpression prog_13_method_36_code 4 none 5 113 rv_V [.ref t] (fn_Md_readExpression t) := by
  refine ah_met_of (by decide +kernel) (ah_c1_all ⟨rfl, trivial⟩) (Nat.le_of_ble_eq_true rfl) (lv := [some (va_rf (some t)), none, none, none]) rfl (fun X C hl hr hlk hnm => ?_)
  subst hl
  unfold fn_Md_readExpression
  refine ah_iconst (v := 0) C d_Md_readExpression_0 rfl ?_
  refine ah_istore_n (lv' := [some (va_rf (some t)), some (.int (0 : Int32)), none, none]) C d_Md_readExpression_1 (Nat.le_of_ble_eq_true rfl) rfl ?_
  refine ah_iconst (v := 1) C d_Md_readExpression_2 rfl ?_
  refine ah_istore_n (lv' := [some (va_rf (some t)), some (.int (0 : Int32)), some (.int (1 : Int32)), none]) C d_Md_readExpression_3 (Nat.le_of_ble_eq_true rfl) rfl ?_
  refine ah_iconst (v := 0) C d_Md_readExpression_4 rfl ?_
  refine ah_istore_n (lv' := [some (va_rf (some t)), some (.int (0 : Int32)), some (.int (1 : Int32)), some (.int (0 : Int32))]) C d_Md_readExpression_5 (Nat.le_of_ble_eq_true rfl) rfl ?_
  refine ah_mask [true, true, true, true] (lv' := [some (va_rf (some t)), some (.int (0 : Int32)), some (.int (1 : Int32)), some (.int (0 : Int32))]) rfl ?_
  exact ok_Md_readExpression_B6 C hr hlk t FU (0 : Int32) (1 : Int32) (0 : Int32)
set_option maxRecDepth 100000 in
set_option maxHeartbeats 4000000 in
theorem ok_Md_classOf (E : ahE) (l : Launch) (t : Nat) (v1 : Int32) : ah_met E l y_Md_classOf prog_13_method_6_code 2 (some .int) 0 0 rv_I [.ref t, .int v1] (fn_Md_classOf t v1) := by
  refine ah_met_of (by decide +kernel) (ah_c1_all ⟨rfl, rfl, trivial⟩) (Nat.le_of_ble_eq_true rfl) (lv := [some (va_rf (some t)), some (.int v1)]) rfl (fun X C hl hr hlk hnm => ?_)
  subst hl
  unfold fn_Md_classOf
  refine ah_aload_n C d_Md_classOf_0 rfl ?_
  refine ah_getR (ci := 12) (k := 8) C rfl (by decide) rfl (Or.inl we305) d_Md_classOf_1 (fun x1 => ?_)
  refine ah_iload_n C d_Md_classOf_4 rfl ?_
  refine ah_iaload C rfl rfl d_Md_classOf_5 (fun x5 => ?_)
  refine ah_bipush (v := 8) C d_Md_classOf_6 rfl ?_
  refine ah_isub C d_Md_classOf_8 ?_
  exact ah_iret C hr hlk rfl d_Md_classOf_9
set_option maxRecDepth 100000 in
set_option maxHeartbeats 4000000 in
theorem ok_Md_upper (E : ahE) (l : Launch) (t : Nat) (v1 : Int32) : ah_met E l y_Md_upper prog_13_method_49_code 2 (some .int) 1 21 rv_I [.ref t, .int v1] (fn_Md_upper t v1) := by
  refine ah_met_of (by decide +kernel) (ah_c1_all ⟨rfl, rfl, trivial⟩) (Nat.le_of_ble_eq_true rfl) (lv := [some (va_rf (some t)), some (.int v1)]) rfl (fun X C hl hr hlk hnm => ?_)
  subst hl
  unfold fn_Md_upper
  refine ah_aload_n C d_Md_upper_0 rfl ?_
  refine ah_getR (ci := 12) (k := 19) C rfl (by decide) rfl (Or.inl we299) d_Md_upper_1 (fun x1 => ?_)
  refine ah_iload_n C d_Md_upper_4 rfl ?_
  refine ah_iaload C rfl rfl d_Md_upper_5 (fun x5 => ?_)
  refine ah_if_ge (tgt := 13) C d_Md_upper_6 rfl (fun _ => ?_) (fun _ => ?_)
  · refine ah_aload_n C d_Md_upper_13 rfl ?_
    refine ah_aload_n C d_Md_upper_14 rfl ?_
    refine ah_getR (ci := 12) (k := 19) C rfl (by decide) rfl (Or.inl we299) d_Md_upper_15 (fun x15 => ?_)
    refine ah_iload_n C d_Md_upper_18 rfl ?_
    refine ah_iaload C rfl rfl d_Md_upper_19 (fun x19 => ?_)
    refine ah_callVI (ci := 12) (As := [.int x19]) (rest := []) C (fun b => ok_Md_classOf E _ b x19) rfl (Or.inl we408) we409 we410 we300 we407 hy_Md_classOf (by omega) (by omega) rfl rfl (ah_rs trivial (Nat.le_of_ble_eq_true rfl)) d_Md_upper_20 (fun x20 => ?_)
    exact ah_iret C hr hlk rfl d_Md_upper_23
  · refine ah_iconst (v := -1) C d_Md_upper_9 rfl ?_
    refine ah_goto (tgt := 23) C d_Md_upper_10 rfl ?_
    exact ah_iret C hr hlk rfl d_Md_upper_23
set_option maxRecDepth 100000 in
set_option maxHeartbeats 4000000 in
theorem ok_Md_fieldsOf_J38 {E : ahE} {X : ahX} (C : ah_Cx E X prog_13_method_50_code 5 "BoundedTypesModel" 2 42) (hr : (ax_M X).sig.returnType = some .int) (hlk : (ax_M X).locks = false) (t : Nat) (v3 : Int32) (v4 : Int32) (w0 : Int32) (k4 : (Int32 × Int32) → ahM Int32) (k11 : (Int32 × Int32) → ahM Int32) (hk4 : ∀ (z2 : Int32) (z3 : Int32), ah_S E X (ah_Q E X rv_I) 4 [some (va_rf (some t)), none, some (.int z2), some (.int z3), none] [] (k4 (z2, z3))) (hk11 : ∀ (z2 : Int32) (z4 : Int32), ah_S E X (ah_Q E X rv_I) 11 [some (va_rf (some t)), none, some (.int z2), some (.int v3), some (.int z4)] [] (k11 (z2, z4))) : ah_S E X (ah_Q E X rv_I) 38 [some (va_rf (some t)), none, none, some (.int v3), some (.int v4)] [.int w0] (fn_Md_fieldsOf_J38 t v3 v4 w0 k4 k11) := by
  unfold fn_Md_fieldsOf_J38
  refine ah_istore_n (lv' := [some (va_rf (some t)), none, some (.int w0), some (.int v3), some (.int v4)]) C d_Md_fieldsOf_38 (Nat.le_of_ble_eq_true rfl) rfl ?_
  refine ah_iinc (lv' := [some (va_rf (some t)), none, some (.int w0), some (.int v3), some (.int (v4 + (1 : Int32)))]) C d_Md_fieldsOf_39 rfl rfl rfl ?_
  refine ah_goto (tgt := 11) C d_Md_fieldsOf_42 rfl ?_
  refine ah_mask [true, false, true, true, true] (lv' := [some (va_rf (some t)), none, some (.int w0), some (.int v3), some (.int (v4 + (1 : Int32)))]) rfl ?_
  exact hk11 w0 (v4 + (1 : Int32))
set_option maxRecDepth 100000 in
set_option maxHeartbeats 4000000 in
theorem ok_Md_fieldsOf_B11 {E : ahE} {X : ahX} (C : ah_Cx E X prog_13_method_50_code 5 "BoundedTypesModel" 2 42) (hr : (ax_M X).sig.returnType = some .int) (hlk : (ax_M X).locks = false) (t : Nat) (v3 : Int32) (k4 : (Int32 × Int32) → ahM Int32) (hk4 : ∀ (z2 : Int32) (z3 : Int32), ah_S E X (ah_Q E X rv_I) 4 [some (va_rf (some t)), none, some (.int z2), some (.int z3), none] [] (k4 (z2, z3))) : ∀ (n : Nat) (v2 : Int32) (v4 : Int32), ah_S E X (ah_Q E X rv_I) 11 [some (va_rf (some t)), none, some (.int v2), some (.int v3), some (.int v4)] [] (ah_lp (fn_Md_fieldsOf_B11 t v3 k4) n (v2, v4)) := by
  intro n
  induction n with
  | zero => intro v2 v4 h r n u c hs; cases hs
  | succ n hk11 =>
    intro v2 v4
    show ah_S E X (ah_Q E X rv_I) 11 _ _ (fn_Md_fieldsOf_B11 t v3 k4 (ah_lp (fn_Md_fieldsOf_B11 t v3 k4) n) (v2, v4))
    generalize ah_lp (fn_Md_fieldsOf_B11 t v3 k4) n = k11 at hk11 ⊢
    rw [fn_Md_fieldsOf_B11]
    refine ah_iload C d_Md_fieldsOf_11 rfl ?_
    refine ah_aload_n C d_Md_fieldsOf_13 rfl ?_
    refine ah_getI (ci := 12) (k := 23) C rfl (by decide) rfl (Or.inl we384) d_Md_fieldsOf_14 (fun x14 => ?_)
    refine ah_icmp_ge (tgt := 45) C d_Md_fieldsOf_17 rfl (fun _ => ?_) (fun _ => ?_)
    · refine ah_aload_n C d_Md_fieldsOf_45 rfl ?_
      refine ah_iload_n C d_Md_fieldsOf_46 rfl ?_
      refine ah_callVI (ci := 12) (As := [.int v3]) (rest := []) C (fun b => ok_Md_upper E _ b v3) rfl (Or.inl we412) we413 we414 we300 we411 hy_Md_upper (by omega) (by omega) rfl rfl (ah_rs trivial (Nat.le_of_ble_eq_true rfl)) d_Md_fieldsOf_47 (fun x47 => ?_)
      refine ah_istore_n (lv' := [some (va_rf (some t)), none, some (.int v2), some (.int x47), some (.int v4)]) C d_Md_fieldsOf_50 (Nat.le_of_ble_eq_true rfl) rfl ?_
      refine ah_goto (tgt := 4) C d_Md_fieldsOf_51 rfl ?_
      refine ah_mask [true, false, true, true, false] (lv' := [some (va_rf (some t)), none, some (.int v2), some (.int x47), none]) rfl ?_
      exact hk4 v2 x47
    · refine ah_aload_n C d_Md_fieldsOf_20 rfl ?_
      refine ah_getR (ci := 12) (k := 24) C rfl (by decide) rfl (Or.inl we318) d_Md_fieldsOf_21 (fun x21 => ?_)
      refine ah_iload C d_Md_fieldsOf_24 rfl ?_
      refine ah_iaload C rfl rfl d_Md_fieldsOf_26 (fun x26 => ?_)
      refine ah_iload_n C d_Md_fieldsOf_27 rfl ?_
      refine ah_icmp_ne (tgt := 37) C d_Md_fieldsOf_28 rfl (fun _ => ?_) (fun _ => ?_)
      · refine ah_iload_n C d_Md_fieldsOf_37 rfl ?_
        refine ah_mask [true, false, false, true, true] (lv' := [some (va_rf (some t)), none, none, some (.int v3), some (.int v4)]) rfl ?_
        exact ok_Md_fieldsOf_J38 C hr hlk t v3 v4 v2 k4 k11 hk4 hk11
      · refine ah_iload_n C d_Md_fieldsOf_31 rfl ?_
        refine ah_iconst (v := 1) C d_Md_fieldsOf_32 rfl ?_
        refine ah_iadd C d_Md_fieldsOf_33 ?_
        refine ah_goto (tgt := 38) C d_Md_fieldsOf_34 rfl ?_
        refine ah_mask [true, false, false, true, true] (lv' := [some (va_rf (some t)), none, none, some (.int v3), some (.int v4)]) rfl ?_
        exact ok_Md_fieldsOf_J38 C hr hlk t v3 v4 (v2 + (1 : Int32)) k4 k11 hk4 hk11
set_option maxRecDepth 100000 in
set_option maxHeartbeats 4000000 in
theorem ok_Md_fieldsOf_B4 {E : ahE} {X : ahX} (C : ah_Cx E X prog_13_method_50_code 5 "BoundedTypesModel" 2 42) (hr : (ax_M X).sig.returnType = some .int) (hlk : (ax_M X).locks = false) (t : Nat) : ∀ (n : Nat) (v2 : Int32) (v3 : Int32), ah_S E X (ah_Q E X rv_I) 4 [some (va_rf (some t)), none, some (.int v2), some (.int v3), none] [] (ah_lp (fn_Md_fieldsOf_B4 t) n (v2, v3)) := by
  intro n
  induction n with
  | zero => intro v2 v3 h r n u c hs; cases hs
  | succ n hk4 =>
    intro v2 v3
    show ah_S E X (ah_Q E X rv_I) 4 _ _ (fn_Md_fieldsOf_B4 t (ah_lp (fn_Md_fieldsOf_B4 t) n) (v2, v3))
    generalize ah_lp (fn_Md_fieldsOf_B4 t) n = k4 at hk4 ⊢
    rw [fn_Md_fieldsOf_B4]
    refine ah_iload_n C d_Md_fieldsOf_4 rfl ?_
    refine ah_if_lt (tgt := 54) C d_Md_fieldsOf_5 rfl (fun _ => ?_) (fun _ => ?_)
    · refine ah_iload_n C d_Md_fieldsOf_54 rfl ?_
      exact ah_iret C hr hlk rfl d_Md_fieldsOf_55
    · refine ah_iconst (v := 0) C d_Md_fieldsOf_8 rfl ?_
      refine ah_istore (lv' := [some (va_rf (some t)), none, some (.int v2), some (.int v3), some (.int (0 : Int32))]) C d_Md_fieldsOf_9 (Nat.le_of_ble_eq_true rfl) rfl ?_
      refine ah_mask [true, false, true, true, true] (lv' := [some (va_rf (some t)), none, some (.int v2), some (.int v3), some (.int (0 : Int32))]) rfl ?_
      exact ok_Md_fieldsOf_B11 C hr hlk t v3 k4 hk4 FU v2 (0 : Int32)
set_option maxRecDepth 100000 in
set_option maxHeartbeats 4000000 in
theorem ok_Md_fieldsOf (E : ahE) (l : Launch) (t : Nat) (v1 : Int32) : ah_met E l y_Md_fieldsOf prog_13_method_50_code 5 (some .int) 2 42 rv_I [.ref t, .int v1] (fn_Md_fieldsOf t v1) := by
  refine ah_met_of (by decide +kernel) (ah_c1_all ⟨rfl, rfl, trivial⟩) (Nat.le_of_ble_eq_true rfl) (lv := [some (va_rf (some t)), some (.int v1), none, none, none]) rfl (fun X C hl hr hlk hnm => ?_)
  subst hl
  unfold fn_Md_fieldsOf
  refine ah_iconst (v := 0) C d_Md_fieldsOf_0 rfl ?_
  refine ah_istore_n (lv' := [some (va_rf (some t)), some (.int v1), some (.int (0 : Int32)), none, none]) C d_Md_fieldsOf_1 (Nat.le_of_ble_eq_true rfl) rfl ?_
  refine ah_iload_n C d_Md_fieldsOf_2 rfl ?_
  refine ah_istore_n (lv' := [some (va_rf (some t)), some (.int v1), some (.int (0 : Int32)), some (.int v1), none]) C d_Md_fieldsOf_3 (Nat.le_of_ble_eq_true rfl) rfl ?_
  refine ah_mask [true, false, true, true, false] (lv' := [some (va_rf (some t)), none, some (.int (0 : Int32)), some (.int v1), none]) rfl ?_
  exact ok_Md_fieldsOf_B4 C hr hlk t FU (0 : Int32) v1
set_option maxRecDepth 100000 in
set_option maxHeartbeats 4000000 in
theorem ok_Md_run_J147 {E : ahE} {X : ahX} (C : ah_Cx E X prog_13_method_74_code 5 "BoundedTypesModel" 6 136) (hr : (ax_M X).sig.returnType = some .int) (hlk : (ax_M X).locks = false) (t : Nat) (v2 : Int32) (v3 : Int32) (v4 : Int32) : ah_S E X (ah_Q E X rv_I) 147 [some (va_rf (some t)), none, some (.int v2), some (.int v3), some (.int v4)] [] (fn_Md_run_J147 t v2 v3 v4) := by
  unfold fn_Md_run_J147
  refine ah_aload_n C d_Md_run_147 rfl ?_
  refine ah_iload_n C d_Md_run_148 rfl ?_
  refine ah_putI (ci := 12) (k := 7) C rfl (by decide) rfl (Or.inl we297) (Or.inl rfl) rfl rfl d_Md_run_149 ?_
  refine ah_aload_n C d_Md_run_152 rfl ?_
  refine ah_iload_n C d_Md_run_153 rfl ?_
  refine ah_putI (ci := 12) (k := 39) C rfl (by decide) rfl (Or.inl we386) (Or.inl rfl) rfl rfl d_Md_run_154 ?_
  refine ah_iload C d_Md_run_157 rfl ?_
  exact ah_iret C hr hlk rfl d_Md_run_159
set_option maxRecDepth 100000 in
set_option maxHeartbeats 4000000 in
theorem ok_Md_run_J99 {E : ahE} {X : ahX} (C : ah_Cx E X prog_13_method_74_code 5 "BoundedTypesModel" 6 136) (hr : (ax_M X).sig.returnType = some .int) (hlk : (ax_M X).locks = false) (t : Nat) (v1 : Int32) (v2 : Int32) (v3 : Int32) (w0 : Int32) : ah_S E X (ah_Q E X rv_I) 99 [some (va_rf (some t)), some (.int v1), some (.int v2), some (.int v3), none] [.int w0] (fn_Md_run_J99 t v1 v2 v3 w0) := by
  unfold fn_Md_run_J99
  refine ah_istore (lv' := [some (va_rf (some t)), some (.int v1), some (.int v2), some (.int v3), some (.int w0)]) C d_Md_run_99 (Nat.le_of_ble_eq_true rfl) rfl ?_
  refine ah_aload_n C d_Md_run_101 rfl ?_
  refine ah_getI (ci := 12) (k := 5) C rfl (by decide) rfl (Or.inl we354) d_Md_run_102 (fun x102 => ?_)
  refine ah_if_ge (tgt := 147) C d_Md_run_105 rfl (fun _ => ?_) (fun _ => ?_)
  · refine ah_mask [true, false, true, true, true] (lv' := [some (va_rf (some t)), none, some (.int v2), some (.int v3), some (.int w0)]) rfl ?_
    exact ok_Md_run_J147 C hr hlk t v2 v3 w0
  · refine ah_aload_n C d_Md_run_108 rfl ?_
    refine ah_getI (ci := 12) (k := 6) C rfl (by decide) rfl (Or.inl we387) d_Md_run_109 (fun x109 => ?_)
    refine ah_if_ne (tgt := 147) C d_Md_run_112 rfl (fun _ => ?_) (fun _ => ?_)
    · refine ah_mask [true, false, true, true, true] (lv' := [some (va_rf (some t)), none, some (.int v2), some (.int v3), some (.int w0)]) rfl ?_
      exact ok_Md_run_J147 C hr hlk t v2 v3 w0
    · refine ah_aload_n C d_Md_run_115 rfl ?_
      refine ah_iload_n C d_Md_run_116 rfl ?_
      refine ah_putI (ci := 12) (k := 57) C rfl (by decide) rfl (Or.inl we415) (Or.inl rfl) rfl rfl d_Md_run_117 ?_
      refine ah_aload_n C d_Md_run_120 rfl ?_
      refine ah_iload_n C d_Md_run_121 rfl ?_
      refine ah_aload_n C d_Md_run_122 rfl ?_
      refine ah_getI (ci := 12) (k := 39) C rfl (by decide) rfl (Or.inl we386) d_Md_run_123 (fun x123 => ?_)
      exact ah_Sno
set_option maxRecDepth 100000 in
set_option maxHeartbeats 4000000 in
theorem ok_Md_run_J75 {E : ahE} {X : ahX} (C : ah_Cx E X prog_13_method_74_code 5 "BoundedTypesModel" 6 136) (hr : (ax_M X).sig.returnType = some .int) (hlk : (ax_M X).locks = false) (t : Nat) (v1 : Int32) (v2 : Int32) (v3 : Int32) : ah_S E X (ah_Q E X rv_I) 75 [some (va_rf (some t)), some (.int v1), some (.int v2), some (.int v3), none] [] (fn_Md_run_J75 t v1 v2 v3) := by
  unfold fn_Md_run_J75
  refine ah_aload_n C d_Md_run_75 rfl ?_
  refine ah_getI (ci := 12) (k := 5) C rfl (by decide) rfl (Or.inl we354) d_Md_run_76 (fun x76 => ?_)
  refine ah_if_lt (tgt := 91) C d_Md_run_79 rfl (fun _ => ?_) (fun _ => ?_)
  · refine ah_sipush (v := -1000) C d_Md_run_91 rfl ?_
    refine ah_aload_n C d_Md_run_94 rfl ?_
    refine ah_getI (ci := 12) (k := 6) C rfl (by decide) rfl (Or.inl we387) d_Md_run_95 (fun x95 => ?_)
    refine ah_imul C d_Md_run_98 ?_
    refine ah_mask [true, true, true, true, false] (lv' := [some (va_rf (some t)), some (.int v1), some (.int v2), some (.int v3), none]) rfl ?_
    exact ok_Md_run_J99 C hr hlk t v1 v2 v3 ((-1000 : Int32) * x95)
  · refine ah_iconst (v := -1) C d_Md_run_82 rfl ?_
    refine ah_aload_n C d_Md_run_83 rfl ?_
    refine ah_getI (ci := 12) (k := 5) C rfl (by decide) rfl (Or.inl we354) d_Md_run_84 (fun x84 => ?_)
    refine ah_isub C d_Md_run_87 ?_
    refine ah_goto (tgt := 99) C d_Md_run_88 rfl ?_
    refine ah_mask [true, true, true, true, false] (lv' := [some (va_rf (some t)), some (.int v1), some (.int v2), some (.int v3), none]) rfl ?_
    exact ok_Md_run_J99 C hr hlk t v1 v2 v3 ((-1 : Int32) - x84)
set_option maxRecDepth 100000 in
set_option maxHeartbeats 4000000 in
theorem ok_Md_run_J48 {E : ahE} {X : ahX} (C : ah_Cx E X prog_13_method_74_code 5 "BoundedTypesModel" 6 136) (hr : (ax_M X).sig.returnType = some .int) (hlk : (ax_M X).locks = false) (t : Nat) (v1 : Int32) (v2 : Int32) (v3 : Int32) : ah_S E X (ah_Q E X rv_I) 48 [some (va_rf (some t)), some (.int v1), some (.int v2), some (.int v3), none] [] (fn_Md_run_J48 t v1 v2 v3) := by
  unfold fn_Md_run_J48
  refine ah_aload_n C d_Md_run_48 rfl ?_
  refine ah_iconst (v := 0) C d_Md_run_49 rfl ?_
  refine ah_putI (ci := 12) (k := 6) C rfl (by decide) rfl (Or.inl we387) (Or.inl rfl) rfl rfl d_Md_run_50 ?_
  refine ah_aload_n C d_Md_run_53 rfl ?_
  refine ah_callVV (ci := 12) (As := []) (rest := []) C (fun b => ok_Md_noScope E _ b) rfl (Or.inl we302) we303 we304 we300 we301 hy_Md_noScope (by omega) (by omega) rfl rfl (ah_rs trivial (Nat.le_of_ble_eq_true rfl)) d_Md_run_54 ?_
  refine ah_aload_n C d_Md_run_57 rfl ?_
  refine ah_getI (ci := 12) (k := 5) C rfl (by decide) rfl (Or.inl we354) d_Md_run_58 (fun x58 => ?_)
  refine ah_if_ge (tgt := 75) C d_Md_run_61 rfl (fun _ => ?_) (fun _ => ?_)
  · refine ah_mask [true, true, true, true, false] (lv' := [some (va_rf (some t)), some (.int v1), some (.int v2), some (.int v3), none]) rfl ?_
    exact ok_Md_run_J75 C hr hlk t v1 v2 v3
  · refine ah_aload_n C d_Md_run_64 rfl ?_
    refine ah_iload_n C d_Md_run_65 rfl ?_
    refine ah_aload_n C d_Md_run_66 rfl ?_
    refine ah_getI (ci := 12) (k := 39) C rfl (by decide) rfl (Or.inl we386) d_Md_run_67 (fun x67 => ?_)
    refine ah_iconst (v := -1) C d_Md_run_70 rfl ?_
    exact ah_Sno
set_option maxRecDepth 100000 in
set_option maxHeartbeats 4000000 in
theorem ok_Md_run (E : ahE) (l : Launch) (t : Nat) (v1 : Int32) : ah_met E l y_Md_run prog_13_method_74_code 5 (some .int) 6 136 rv_I [.ref t, .int v1] (fn_Md_run t v1) := by
  refine ah_met_of (by decide +kernel) (ah_c1_all ⟨rfl, rfl, trivial⟩) (Nat.le_of_ble_eq_true rfl) (lv := [some (va_rf (some t)), some (.int v1), none, none, none]) rfl (fun X C hl hr hlk hnm => ?_)
  subst hl
  unfold fn_Md_run
  refine ah_iload_n C d_Md_run_0 rfl ?_
  refine ah_iconst (v := 0) C d_Md_run_1 rfl ?_
  refine ah_bipush (v := 40) C d_Md_run_2 rfl ?_
  refine ah_callSI (As := [.int v1, .int (0 : Int32), .int (40 : Int32)]) (rest := []) C (ok_Md_in E _ v1 (0 : Int32) (40 : Int32)) (Or.inl we349) we350 we300 we348 hy_Md_in (by omega) (by omega) rfl rfl (ah_rs trivial (Nat.le_of_ble_eq_true rfl)) d_Md_run_4 (fun x4 => ?_)
  refine ah_if_ne (tgt := 14) C d_Md_run_7 rfl (fun _ => ?_) (fun _ => ?_)
  · refine ah_aload_n C d_Md_run_14 rfl ?_
    refine ah_getI (ci := 12) (k := 7) C rfl (by decide) rfl (Or.inl we297) d_Md_run_15 (fun x15 => ?_)
    refine ah_istore_n (lv' := [some (va_rf (some t)), some (.int v1), some (.int x15), none, none]) C d_Md_run_18 (Nat.le_of_ble_eq_true rfl) rfl ?_
    refine ah_aload_n C d_Md_run_19 rfl ?_
    refine ah_getI (ci := 12) (k := 39) C rfl (by decide) rfl (Or.inl we386) d_Md_run_20 (fun x20 => ?_)
    refine ah_istore_n (lv' := [some (va_rf (some t)), some (.int v1), some (.int x15), some (.int x20), none]) C d_Md_run_23 (Nat.le_of_ble_eq_true rfl) rfl ?_
    refine ah_aload_n C d_Md_run_24 rfl ?_
    refine ah_callVV (ci := 12) (As := []) (rest := []) C (fun b => ok_Md_begin E _ b) rfl (Or.inl we389) we390 we391 we300 we388 hy_Md_begin (by omega) (by omega) rfl rfl (ah_rs trivial (Nat.le_of_ble_eq_true rfl)) d_Md_run_25 ?_
    refine ah_aload_n C d_Md_run_28 rfl ?_
    refine ah_iconst (v := 0) C d_Md_run_29 rfl ?_
    refine ah_putI (ci := 12) (k := 56) C rfl (by decide) rfl (Or.inl we416) (Or.inl rfl) rfl rfl d_Md_run_30 ?_
    refine ah_aload_n C d_Md_run_33 rfl ?_
    refine ah_callVV (ci := 12) (As := []) (rest := []) C (fun b => ok_Md_readExpression E _ b) rfl (Or.inl we418) we419 we420 we300 we417 hy_Md_readExpression (by omega) (by omega) rfl rfl (ah_rs trivial (Nat.le_of_ble_eq_true rfl)) d_Md_run_34 ?_
    refine ah_aload_n C d_Md_run_37 rfl ?_
    refine ah_callVI (ci := 12) (As := []) (rest := []) C (fun b => ok_Md_look E _ b) rfl (Or.inl we357) we358 we359 we300 we356 hy_Md_look (by omega) (by omega) rfl rfl (ah_rs trivial (Nat.le_of_ble_eq_true rfl)) d_Md_run_38 (fun x38 => ?_)
    refine ah_if_lt (tgt := 48) C d_Md_run_41 rfl (fun _ => ?_) (fun _ => ?_)
    · refine ah_mask [true, true, true, true, false] (lv' := [some (va_rf (some t)), some (.int v1), some (.int x15), some (.int x20), none]) rfl ?_
      exact ok_Md_run_J48 C hr hlk t v1 x15 x20
    · refine ah_aload_n C d_Md_run_44 rfl ?_
      refine ah_callVV (ci := 12) (As := []) (rest := []) C (fun b => ok_Md_fail E _ b) rfl (Or.inl we361) we362 we363 we300 we360 hy_Md_fail (by omega) (by omega) rfl rfl (ah_rs trivial (Nat.le_of_ble_eq_true rfl)) d_Md_run_45 ?_
      refine ah_mask [true, true, true, true, false] (lv' := [some (va_rf (some t)), some (.int v1), some (.int x15), some (.int x20), none]) rfl ?_
      exact ok_Md_run_J48 C hr hlk t v1 x15 x20
  · refine ah_ldcw (v := -100000) C we421 d_Md_run_10 ?_
    exact ah_iret C hr hlk rfl d_Md_run_13
set_option maxRecDepth 100000 in
set_option maxHeartbeats 4000000 in
theorem ok_Md_called_J43 {E : ahE} {X : ahX} (C : ah_Cx E X prog_13_method_67_code 5 "BoundedTypesModel" 2 42) (hr : (ax_M X).sig.returnType = some .int) (hlk : (ax_M X).locks = false) (t : Nat) (v2 : Int32) (v3 : Int32) (v4 : Int32) (k2 : Int32 → ahM Int32) (k9 : Int32 → ahM Int32) (hk2 : ∀ (z3 : Int32), ah_S E X (ah_Q E X rv_I) 2 [some (va_rf (some t)), none, some (.int v2), some (.int z3), none] [] (k2 z3)) (hk9 : ∀ (z4 : Int32), ah_S E X (ah_Q E X rv_I) 9 [some (va_rf (some t)), none, some (.int v2), some (.int v3), some (.int z4)] [] (k9 z4)) : ah_S E X (ah_Q E X rv_I) 43 [some (va_rf (some t)), none, some (.int v2), some (.int v3), some (.int v4)] [] (fn_Md_called_J43 t v2 v3 v4 k2 k9) := by
  unfold fn_Md_called_J43
  refine ah_iinc (lv' := [some (va_rf (some t)), none, some (.int v2), some (.int v3), some (.int (v4 + (1 : Int32)))]) C d_Md_called_43 rfl rfl rfl ?_
  refine ah_goto (tgt := 9) C d_Md_called_46 rfl ?_
  refine ah_mask [true, false, true, true, true] (lv' := [some (va_rf (some t)), none, some (.int v2), some (.int v3), some (.int (v4 + (1 : Int32)))]) rfl ?_
  exact hk9 (v4 + (1 : Int32))
set_option maxRecDepth 100000 in
set_option maxHeartbeats 4000000 in
theorem ok_Md_called_B9 {E : ahE} {X : ahX} (C : ah_Cx E X prog_13_method_67_code 5 "BoundedTypesModel" 2 42) (hr : (ax_M X).sig.returnType = some .int) (hlk : (ax_M X).locks = false) (t : Nat) (v2 : Int32) (v3 : Int32) (k2 : Int32 → ahM Int32) (hk2 : ∀ (z3 : Int32), ah_S E X (ah_Q E X rv_I) 2 [some (va_rf (some t)), none, some (.int v2), some (.int z3), none] [] (k2 z3)) : ∀ (n : Nat) (v4 : Int32), ah_S E X (ah_Q E X rv_I) 9 [some (va_rf (some t)), none, some (.int v2), some (.int v3), some (.int v4)] [] (ah_lp (fn_Md_called_B9 t v2 v3 k2) n v4) := by
  intro n
  induction n with
  | zero => intro v4 h r n u c hs; cases hs
  | succ n hk9 =>
    intro v4
    show ah_S E X (ah_Q E X rv_I) 9 _ _ (fn_Md_called_B9 t v2 v3 k2 (ah_lp (fn_Md_called_B9 t v2 v3 k2) n) v4)
    generalize ah_lp (fn_Md_called_B9 t v2 v3 k2) n = k9 at hk9 ⊢
    rw [fn_Md_called_B9]
    refine ah_iload C d_Md_called_9 rfl ?_
    refine ah_aload_n C d_Md_called_11 rfl ?_
    refine ah_getI (ci := 12) (k := 27) C rfl (by decide) rfl (Or.inl we385) d_Md_called_12 (fun x12 => ?_)
    refine ah_icmp_ge (tgt := 49) C d_Md_called_15 rfl (fun _ => ?_) (fun _ => ?_)
    · refine ah_aload_n C d_Md_called_49 rfl ?_
      refine ah_iload_n C d_Md_called_50 rfl ?_
      refine ah_callVI (ci := 12) (As := [.int v3]) (rest := []) C (fun b => ok_Md_upper E _ b v3) rfl (Or.inl we412) we413 we414 we300 we411 hy_Md_upper (by omega) (by omega) rfl rfl (ah_rs trivial (Nat.le_of_ble_eq_true rfl)) d_Md_called_51 (fun x51 => ?_)
      refine ah_istore_n (lv' := [some (va_rf (some t)), none, some (.int v2), some (.int x51), some (.int v4)]) C d_Md_called_54 (Nat.le_of_ble_eq_true rfl) rfl ?_
      refine ah_goto (tgt := 2) C d_Md_called_55 rfl ?_
      refine ah_mask [true, false, true, true, false] (lv' := [some (va_rf (some t)), none, some (.int v2), some (.int x51), none]) rfl ?_
      exact hk2 x51
    · refine ah_aload_n C d_Md_called_18 rfl ?_
      refine ah_getR (ci := 12) (k := 28) C rfl (by decide) rfl (Or.inl we321) d_Md_called_19 (fun x19 => ?_)
      refine ah_iload C d_Md_called_22 rfl ?_
      refine ah_iaload C rfl rfl d_Md_called_24 (fun x24 => ?_)
      refine ah_iload_n C d_Md_called_25 rfl ?_
      refine ah_icmp_ne (tgt := 43) C d_Md_called_26 rfl (fun _ => ?_) (fun _ => ?_)
      · refine ah_mask [true, false, true, true, true] (lv' := [some (va_rf (some t)), none, some (.int v2), some (.int v3), some (.int v4)]) rfl ?_
        exact ok_Md_called_J43 C hr hlk t v2 v3 v4 k2 k9 hk2 hk9
      · refine ah_aload_n C d_Md_called_29 rfl ?_
        refine ah_getR (ci := 12) (k := 29) C rfl (by decide) rfl (Or.inl we322) d_Md_called_30 (fun x30 => ?_)
        refine ah_iload C d_Md_called_33 rfl ?_
        refine ah_iaload C rfl rfl d_Md_called_35 (fun x35 => ?_)
        refine ah_iload_n C d_Md_called_36 rfl ?_
        refine ah_icmp_ne (tgt := 43) C d_Md_called_37 rfl (fun _ => ?_) (fun _ => ?_)
        · refine ah_mask [true, false, true, true, true] (lv' := [some (va_rf (some t)), none, some (.int v2), some (.int v3), some (.int v4)]) rfl ?_
          exact ok_Md_called_J43 C hr hlk t v2 v3 v4 k2 k9 hk2 hk9
        · refine ah_iload C d_Md_called_40 rfl ?_
          exact ah_iret C hr hlk rfl d_Md_called_42
set_option maxRecDepth 100000 in
set_option maxHeartbeats 4000000 in
theorem ok_Md_called_B2 {E : ahE} {X : ahX} (C : ah_Cx E X prog_13_method_67_code 5 "BoundedTypesModel" 2 42) (hr : (ax_M X).sig.returnType = some .int) (hlk : (ax_M X).locks = false) (t : Nat) (v2 : Int32) : ∀ (n : Nat) (v3 : Int32), ah_S E X (ah_Q E X rv_I) 2 [some (va_rf (some t)), none, some (.int v2), some (.int v3), none] [] (ah_lp (fn_Md_called_B2 t v2) n v3) := by
  intro n
  induction n with
  | zero => intro v3 h r n u c hs; cases hs
  | succ n hk2 =>
    intro v3
    show ah_S E X (ah_Q E X rv_I) 2 _ _ (fn_Md_called_B2 t v2 (ah_lp (fn_Md_called_B2 t v2) n) v3)
    generalize ah_lp (fn_Md_called_B2 t v2) n = k2 at hk2 ⊢
    rw [fn_Md_called_B2]
    refine ah_iload_n C d_Md_called_2 rfl ?_
    refine ah_if_lt (tgt := 58) C d_Md_called_3 rfl (fun _ => ?_) (fun _ => ?_)
    · refine ah_iconst (v := -1) C d_Md_called_58 rfl ?_
      exact ah_iret C hr hlk rfl d_Md_called_59
    · refine ah_iconst (v := 0) C d_Md_called_6 rfl ?_
      refine ah_istore (lv' := [some (va_rf (some t)), none, some (.int v2), some (.int v3), some (.int (0 : Int32))]) C d_Md_called_7 (Nat.le_of_ble_eq_true rfl) rfl ?_
      refine ah_mask [true, false, true, true, true] (lv' := [some (va_rf (some t)), none, some (.int v2), some (.int v3), some (.int (0 : Int32))]) rfl ?_
      exact ok_Md_called_B9 C hr hlk t v2 v3 k2 hk2 FU (0 : Int32)
set_option maxRecDepth 100000 in
set_option maxHeartbeats 4000000 in
theorem ok_Md_called (E : ahE) (l : Launch) (t : Nat) (v1 : Int32) (v2 : Int32) : ah_met E l y_Md_called prog_13_method_67_code 5 (some .int) 2 42 rv_I [.ref t, .int v1, .int v2] (fn_Md_called t v1 v2) := by
  refine ah_met_of (by decide +kernel) (ah_c1_all ⟨rfl, rfl, rfl, trivial⟩) (Nat.le_of_ble_eq_true rfl) (lv := [some (va_rf (some t)), some (.int v1), some (.int v2), none, none]) rfl (fun X C hl hr hlk hnm => ?_)
  subst hl
  unfold fn_Md_called
  refine ah_iload_n C d_Md_called_0 rfl ?_
  refine ah_istore_n (lv' := [some (va_rf (some t)), some (.int v1), some (.int v2), some (.int v1), none]) C d_Md_called_1 (Nat.le_of_ble_eq_true rfl) rfl ?_
  refine ah_mask [true, false, true, true, false] (lv' := [some (va_rf (some t)), none, some (.int v2), some (.int v1), none]) rfl ?_
  exact ok_Md_called_B2 C hr hlk t v2 FU v1
set_option maxRecDepth 100000 in
set_option maxHeartbeats 4000000 in
theorem ok_Md_length (E : ahE) (l : Launch) (t : Nat) : ah_met E l y_Md_length prog_13_method_75_code 1 (some .int) 0 0 rv_I [.ref t] (fn_Md_length t) := by
  refine ah_met_of (by decide +kernel) (ah_c1_all ⟨rfl, trivial⟩) (Nat.le_of_ble_eq_true rfl) (lv := [some (va_rf (some t))]) rfl (fun X C hl hr hlk hnm => ?_)
  subst hl
  unfold fn_Md_length
  refine ah_aload_n C d_Md_length_0 rfl ?_
  refine ah_getI (ci := 12) (k := 56) C rfl (by decide) rfl (Or.inl we416) d_Md_length_1 (fun x1 => ?_)
  exact ah_iret C hr hlk rfl d_Md_length_4
set_option maxRecDepth 100000 in
set_option maxHeartbeats 4000000 in
theorem ok_Md_at (E : ahE) (l : Launch) (t : Nat) (v1 : Int32) : ah_met E l y_Md_at prog_13_method_76_code 2 (some .int) 1 22 rv_I [.ref t, .int v1] (fn_Md_at t v1) := by
  refine ah_met_of (by decide +kernel) (ah_c1_all ⟨rfl, rfl, trivial⟩) (Nat.le_of_ble_eq_true rfl) (lv := [some (va_rf (some t)), some (.int v1)]) rfl (fun X C hl hr hlk hnm => ?_)
  subst hl
  unfold fn_Md_at
  refine ah_iload_n C d_Md_at_0 rfl ?_
  refine ah_iconst (v := 0) C d_Md_at_1 rfl ?_
  refine ah_aload_n C d_Md_at_2 rfl ?_
  refine ah_getI (ci := 12) (k := 56) C rfl (by decide) rfl (Or.inl we416) d_Md_at_3 (fun x3 => ?_)
  refine ah_iconst (v := 1) C d_Md_at_6 rfl ?_
  refine ah_isub C d_Md_at_7 ?_
  refine ah_callSI (As := [.int v1, .int (0 : Int32), .int (x3 - (1 : Int32))]) (rest := []) C (ok_Md_in E _ v1 (0 : Int32) (x3 - (1 : Int32))) (Or.inl we349) we350 we300 we348 hy_Md_in (by omega) (by omega) rfl rfl (ah_rs trivial (Nat.le_of_ble_eq_true rfl)) d_Md_at_8 (fun x8 => ?_)
  refine ah_if_eq (tgt := 23) C d_Md_at_11 rfl (fun _ => ?_) (fun _ => ?_)
  · refine ah_iconst (v := -1) C d_Md_at_23 rfl ?_
    exact ah_iret C hr hlk rfl d_Md_at_24
  · refine ah_aload_n C d_Md_at_14 rfl ?_
    refine ah_getR (ci := 12) (k := 55) C rfl (by decide) rfl (Or.inl we346) d_Md_at_15 (fun x15 => ?_)
    refine ah_iload_n C d_Md_at_18 rfl ?_
    refine ah_iaload C rfl rfl d_Md_at_19 (fun x19 => ?_)
    refine ah_goto (tgt := 24) C d_Md_at_20 rfl ?_
    exact ah_iret C hr hlk rfl d_Md_at_24
set_option maxRecDepth 100000 in
set_option maxHeartbeats 4000000 in
theorem ok_Md_left (E : ahE) (l : Launch) (t : Nat) : ah_met E l y_Md_left prog_13_method_77_code 1 (some .int) 0 0 rv_I [.ref t] (fn_Md_left t) := by
  refine ah_met_of (by decide +kernel) (ah_c1_all ⟨rfl, trivial⟩) (Nat.le_of_ble_eq_true rfl) (lv := [some (va_rf (some t))]) rfl (fun X C hl hr hlk hnm => ?_)
  subst hl
  unfold fn_Md_left
  refine ah_aload_n C d_Md_left_0 rfl ?_
  refine ah_getI (ci := 12) (k := 57) C rfl (by decide) rfl (Or.inl we415) d_Md_left_1 (fun x1 => ?_)
  exact ah_iret C hr hlk rfl d_Md_left_4
set_option maxRecDepth 100000 in
set_option maxHeartbeats 4000000 in
theorem ok_Md_fields (E : ahE) (l : Launch) (t : Nat) (v1 : Int32) : ah_met E l y_Md_fields prog_13_method_78_code 2 (some .int) 3 66 rv_I [.ref t, .int v1] (fn_Md_fields t v1) := by
  refine ah_met_of (by decide +kernel) (ah_c1_all ⟨rfl, rfl, trivial⟩) (Nat.le_of_ble_eq_true rfl) (lv := [some (va_rf (some t)), some (.int v1)]) rfl (fun X C hl hr hlk hnm => ?_)
  subst hl
  unfold fn_Md_fields
  refine ah_iload_n C d_Md_fields_0 rfl ?_
  refine ah_iconst (v := 0) C d_Md_fields_1 rfl ?_
  refine ah_bipush (v := 7) C d_Md_fields_2 rfl ?_
  refine ah_callSI (As := [.int v1, .int (0 : Int32), .int (7 : Int32)]) (rest := []) C (ok_Md_in E _ v1 (0 : Int32) (7 : Int32)) (Or.inl we349) we350 we300 we348 hy_Md_in (by omega) (by omega) rfl rfl (ah_rs trivial (Nat.le_of_ble_eq_true rfl)) d_Md_fields_4 (fun x4 => ?_)
  refine ah_if_eq (tgt := 27) C d_Md_fields_7 rfl (fun _ => ?_) (fun _ => ?_)
  · refine ah_iconst (v := -1) C d_Md_fields_27 rfl ?_
    exact ah_iret C hr hlk rfl d_Md_fields_28
  · refine ah_aload_n C d_Md_fields_10 rfl ?_
    refine ah_getR (ci := 12) (k := 15) C rfl (by decide) rfl (Or.inl we298) d_Md_fields_11 (fun x11 => ?_)
    refine ah_iload_n C d_Md_fields_14 rfl ?_
    refine ah_iaload C rfl rfl d_Md_fields_15 (fun x15 => ?_)
    refine ah_if_le (tgt := 27) C d_Md_fields_16 rfl (fun _ => ?_) (fun _ => ?_)
    · refine ah_iconst (v := -1) C d_Md_fields_27 rfl ?_
      exact ah_iret C hr hlk rfl d_Md_fields_28
    · refine ah_aload_n C d_Md_fields_19 rfl ?_
      refine ah_iload_n C d_Md_fields_20 rfl ?_
      refine ah_callVI (ci := 12) (As := [.int v1]) (rest := []) C (fun b => ok_Md_fieldsOf E _ b v1) rfl (Or.inl we423) we424 we425 we300 we422 hy_Md_fieldsOf (by omega) (by omega) rfl rfl (ah_rs trivial (Nat.le_of_ble_eq_true rfl)) d_Md_fields_21 (fun x21 => ?_)
      refine ah_goto (tgt := 28) C d_Md_fields_24 rfl ?_
      exact ah_iret C hr hlk rfl d_Md_fields_28
set_option maxRecDepth 100000 in
set_option maxHeartbeats 4000000 in
theorem ok_Md_method (E : ahE) (l : Launch) (t : Nat) (v1 : Int32) (v2 : Int32) : ah_met E l y_Md_method prog_13_method_79_code 4 (some .int) 3 66 rv_I [.ref t, .int v1, .int v2] (fn_Md_method t v1 v2) := by
  refine ah_met_of (by decide +kernel) (ah_c1_all ⟨rfl, rfl, rfl, trivial⟩) (Nat.le_of_ble_eq_true rfl) (lv := [some (va_rf (some t)), some (.int v1), some (.int v2), none]) rfl (fun X C hl hr hlk hnm => ?_)
  subst hl
  unfold fn_Md_method
  refine ah_iload_n C d_Md_method_0 rfl ?_
  refine ah_iconst (v := 0) C d_Md_method_1 rfl ?_
  refine ah_bipush (v := 7) C d_Md_method_2 rfl ?_
  refine ah_callSI (As := [.int v1, .int (0 : Int32), .int (7 : Int32)]) (rest := []) C (ok_Md_in E _ v1 (0 : Int32) (7 : Int32)) (Or.inl we349) we350 we300 we348 hy_Md_in (by omega) (by omega) rfl rfl (ah_rs trivial (Nat.le_of_ble_eq_true rfl)) d_Md_method_4 (fun x4 => ?_)
  refine ah_if_eq (tgt := 29) C d_Md_method_7 rfl (fun _ => ?_) (fun _ => ?_)
  · refine ah_iconst (v := -1) C d_Md_method_29 rfl ?_
    exact ah_iret C hr hlk rfl d_Md_method_30
  · refine ah_aload_n C d_Md_method_10 rfl ?_
    refine ah_getR (ci := 12) (k := 15) C rfl (by decide) rfl (Or.inl we298) d_Md_method_11 (fun x11 => ?_)
    refine ah_iload_n C d_Md_method_14 rfl ?_
    refine ah_iaload C rfl rfl d_Md_method_15 (fun x15 => ?_)
    refine ah_if_eq (tgt := 29) C d_Md_method_16 rfl (fun _ => ?_) (fun _ => ?_)
    · refine ah_iconst (v := -1) C d_Md_method_29 rfl ?_
      exact ah_iret C hr hlk rfl d_Md_method_30
    · refine ah_iload_n C d_Md_method_19 rfl ?_
      refine ah_iconst (v := 0) C d_Md_method_20 rfl ?_
      refine ah_bipush (v := 25) C d_Md_method_21 rfl ?_
      refine ah_callSI (As := [.int v2, .int (0 : Int32), .int (25 : Int32)]) (rest := []) C (ok_Md_in E _ v2 (0 : Int32) (25 : Int32)) (Or.inl we349) we350 we300 we348 hy_Md_in (by omega) (by omega) rfl rfl (ah_rs trivial (Nat.le_of_ble_eq_true rfl)) d_Md_method_23 (fun x23 => ?_)
      refine ah_if_ne (tgt := 31) C d_Md_method_26 rfl (fun _ => ?_) (fun _ => ?_)
      · refine ah_aload_n C d_Md_method_31 rfl ?_
        refine ah_iload_n C d_Md_method_32 rfl ?_
        refine ah_iload_n C d_Md_method_33 rfl ?_
        refine ah_callVI (ci := 12) (As := [.int v1, .int v2]) (rest := []) C (fun b => ok_Md_called E _ b v1 v2) rfl (Or.inl we427) we428 we429 we300 we426 hy_Md_called (by omega) (by omega) rfl rfl (ah_rs trivial (Nat.le_of_ble_eq_true rfl)) d_Md_method_34 (fun x34 => ?_)
        refine ah_istore_n (lv' := [some (va_rf (some t)), some (.int v1), some (.int v2), some (.int x34)]) C d_Md_method_37 (Nat.le_of_ble_eq_true rfl) rfl ?_
        refine ah_iload_n C d_Md_method_38 rfl ?_
        refine ah_if_ge (tgt := 46) C d_Md_method_39 rfl (fun _ => ?_) (fun _ => ?_)
        · refine ah_aload_n C d_Md_method_46 rfl ?_
          refine ah_getR (ci := 12) (k := 28) C rfl (by decide) rfl (Or.inl we321) d_Md_method_47 (fun x47 => ?_)
          refine ah_iload_n C d_Md_method_50 rfl ?_
          refine ah_iaload C rfl rfl d_Md_method_51 (fun x51 => ?_)
          exact ah_iret C hr hlk rfl d_Md_method_52
        · refine ah_iconst (v := -1) C d_Md_method_42 rfl ?_
          refine ah_goto (tgt := 52) C d_Md_method_43 rfl ?_
          exact ah_iret C hr hlk rfl d_Md_method_52
      · refine ah_iconst (v := -1) C d_Md_method_29 rfl ?_
        exact ah_iret C hr hlk rfl d_Md_method_30
