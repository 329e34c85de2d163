set_option maxRecDepth 100000 in
set_option maxHeartbeats 4000000 in
theorem ok_Law_law_J254 {E : ahE} {X : ahX} {Qf : Int32 → ahH → State → Prop} (C : ah_Cx E X code 4 "BoundedTypesLaw" 7 160) (hret : ∀ (pc : Nat) (lv : List (Option Value)), decode code pc = .ok (.ireturn, 1) → ah_S E X Qf pc lv [.int 1] (ah_ret 1)) (v0 : Option Nat) (v1 : Option Nat) (v2 : Option Nat) (v3 : Int32) (k18 : Int32 → ahM Int32) (hk18 : ∀ (z3 : Int32), ah_S E X Qf 18 [some (va_rf v0), some (va_rf v1), some (va_rf v2), some (.int z3)] [] (k18 z3)) : ah_S E X Qf 254 [some (va_rf v0), some (va_rf v1), some (va_rf v2), some (.int v3)] [] (fn_Law_law_J254 v0 v1 v2 v3 k18) := by
  unfold fn_Law_law_J254
  refine ah_iinc (lv' := [some (va_rf v0), some (va_rf v1), some (va_rf v2), some (.int (v3 + (3 : Int32)))]) C d_Law_law_254 rfl rfl rfl ?_
  refine ah_goto (tgt := 18) C d_Law_law_257 rfl ?_
  refine ah_mask [true, true, true, true] (lv' := [some (va_rf v0), some (va_rf v1), some (va_rf v2), some (.int (v3 + (3 : Int32)))]) rfl ?_
  exact hk18 (v3 + (3 : Int32))
set_option maxRecDepth 100000 in
set_option maxHeartbeats 4000000 in
theorem ok_Law_law_B18 {E : ahE} {X : ahX} {Qf : Int32 → ahH → State → Prop} (C : ah_Cx E X code 4 "BoundedTypesLaw" 7 160) (hret : ∀ (pc : Nat) (lv : List (Option Value)), decode code pc = .ok (.ireturn, 1) → ah_S E X Qf pc lv [.int 1] (ah_ret 1)) (v0 : Option Nat) (v1 : Option Nat) (v2 : Option Nat) : ∀ (n : Nat) (v3 : Int32), ah_S E X Qf 18 [some (va_rf v0), some (va_rf v1), some (va_rf v2), some (.int v3)] [] (ah_lp (fn_Law_law_B18 v0 v1 v2) n v3) := by
  intro n
  induction n with
  | zero => intro v3 h r n u c hs; cases hs
  | succ n hk18 =>
    intro v3
    show ah_S E X Qf 18 _ _ (fn_Law_law_B18 v0 v1 v2 (ah_lp (fn_Law_law_B18 v0 v1 v2) n) v3)
    generalize ah_lp (fn_Law_law_B18 v0 v1 v2) n = k18 at hk18 ⊢
    rw [fn_Law_law_B18]
    refine ah_iload_n C d_Law_law_18 rfl ?_
    refine ah_aload_n C d_Law_law_19 rfl ?_
    refine ah_alen (j := 0) C rfl d_Law_law_20 (fun x20 => ?_)
    refine ah_iconst (v := 3) C d_Law_law_21 rfl ?_
    refine ah_isub C d_Law_law_22 ?_
    refine ah_icmp_gt (tgt := 260) C d_Law_law_23 rfl (fun _ => ?_) (fun _ => ?_)
    · refine ah_iconst (v := 1) C d_Law_law_260 rfl ?_
      exact hret _ _ d_Law_law_261
    · refine ah_aload_n C d_Law_law_26 rfl ?_
      refine ah_iload_n C d_Law_law_27 rfl ?_
      refine ah_iaload C rfl rfl d_Law_law_28 (fun x28 => ?_)
      refine ah_bipush (v := 7) C d_Law_law_29 rfl ?_
      refine ah_iand C d_Law_law_31 ?_
      refine ah_byc (fun hc0 => ?_) (fun hc0 => ?_)
      · refine ah_tin (tgt := 80) C d_Law_law_32 hc0 (by decide) (by decide) rfl rfl ?_
        refine ah_aload_n C d_Law_law_80 rfl ?_
        refine ah_aload_n C d_Law_law_81 rfl ?_
        refine ah_iload_n C d_Law_law_82 rfl ?_
        refine ah_iconst (v := 1) C d_Law_law_83 rfl ?_
        refine ah_iadd C d_Law_law_84 ?_
        refine ah_iaload C rfl rfl d_Law_law_85 (fun x85 => ?_)
        refine ah_aload_n C d_Law_law_86 rfl ?_
        refine ah_iload_n C d_Law_law_87 rfl ?_
        refine ah_iconst (v := 2) C d_Law_law_88 rfl ?_
        refine ah_iadd C d_Law_law_89 ?_
        refine ah_iaload C rfl rfl d_Law_law_90 (fun x90 => ?_)
        refine ah_callVI (ci := 10) (As := [.int x85, .int x90]) (rest := []) C (fun b => ok_BT_type E _ b x85 x90) rfl (Or.inl we431) we432 we433 we153 we430 hy_BT_type (by omega) (by omega) rfl rfl (ah_rs trivial (Nat.le_of_ble_eq_true rfl)) d_Law_law_91 (fun x91 => ?_)
        refine ah_aload_n C d_Law_law_94 rfl ?_
        refine ah_aload_n C d_Law_law_95 rfl ?_
        refine ah_iload_n C d_Law_law_96 rfl ?_
        refine ah_iconst (v := 1) C d_Law_law_97 rfl ?_
        refine ah_iadd C d_Law_law_98 ?_
        refine ah_iaload C rfl rfl d_Law_law_99 (fun x99 => ?_)
        refine ah_aload_n C d_Law_law_100 rfl ?_
        refine ah_iload_n C d_Law_law_101 rfl ?_
        refine ah_iconst (v := 2) C d_Law_law_102 rfl ?_
        refine ah_iadd C d_Law_law_103 ?_
        refine ah_iaload C rfl rfl d_Law_law_104 (fun x104 => ?_)
        refine ah_callVI (ci := 12) (As := [.int x99, .int x104]) (rest := [.int x91]) C (fun b => ok_Md_type E _ b x99 x104) rfl (Or.inl we435) we436 we437 we300 we434 hy_Md_type (by omega) (by omega) rfl rfl (ah_rs ⟨rfl, trivial⟩ (Nat.le_of_ble_eq_true rfl)) d_Law_law_105 (fun x105 => ?_)
        refine ah_icmp_eq (tgt := 254) C d_Law_law_108 rfl (fun _ => ?_) (fun _ => ?_)
        · refine ah_mask [true, true, true, true] (lv' := [some (va_rf v0), some (va_rf v1), some (va_rf v2), some (.int v3)]) rfl ?_
          exact ok_Law_law_J254 C hret v0 v1 v2 v3 k18 hk18
        · refine ah_iconst (v := 0) C d_Law_law_111 rfl ?_
          exact ah_Sno
      refine ah_byc (fun hc1 => ?_) (fun hc1 => ?_)
      · refine ah_tin (tgt := 113) C d_Law_law_32 hc1 (by decide) (by decide) rfl rfl ?_
        refine ah_aload_n C d_Law_law_113 rfl ?_
        refine ah_callVI (ci := 10) (As := []) (rest := []) C (fun b => ok_BT_declare E _ b) rfl (Or.inl we439) we440 we441 we153 we438 hy_BT_declare (by omega) (by omega) rfl rfl (ah_rs trivial (Nat.le_of_ble_eq_true rfl)) d_Law_law_114 (fun x114 => ?_)
        refine ah_aload_n C d_Law_law_117 rfl ?_
        refine ah_callVI (ci := 12) (As := []) (rest := [.int x114]) C (fun b => ok_Md_declare E _ b) rfl (Or.inl we443) we444 we445 we300 we442 hy_Md_declare (by omega) (by omega) rfl rfl (ah_rs ⟨rfl, trivial⟩ (Nat.le_of_ble_eq_true rfl)) d_Law_law_118 (fun x118 => ?_)
        refine ah_icmp_eq (tgt := 254) C d_Law_law_121 rfl (fun _ => ?_) (fun _ => ?_)
        · refine ah_mask [true, true, true, true] (lv' := [some (va_rf v0), some (va_rf v1), some (va_rf v2), some (.int v3)]) rfl ?_
          exact ok_Law_law_J254 C hret v0 v1 v2 v3 k18 hk18
        · refine ah_iconst (v := 0) C d_Law_law_124 rfl ?_
          exact ah_Sno
      refine ah_byc (fun hc2 => ?_) (fun hc2 => ?_)
      · refine ah_tin (tgt := 126) C d_Law_law_32 hc2 (by decide) (by decide) rfl rfl ?_
        refine ah_aload_n C d_Law_law_126 rfl ?_
        refine ah_aload_n C d_Law_law_127 rfl ?_
        refine ah_iload_n C d_Law_law_128 rfl ?_
        refine ah_iconst (v := 1) C d_Law_law_129 rfl ?_
        refine ah_iadd C d_Law_law_130 ?_
        refine ah_iaload C rfl rfl d_Law_law_131 (fun x131 => ?_)
        refine ah_callVI (ci := 10) (As := [.int x131]) (rest := []) C (fun b => ok_BT_run E _ b x131) rfl (Or.inl we447) we448 we449 we153 we446 hy_BT_run (by omega) (by omega) rfl rfl (ah_rs trivial (Nat.le_of_ble_eq_true rfl)) d_Law_law_132 (fun x132 => ?_)
        refine ah_aload_n C d_Law_law_135 rfl ?_
        refine ah_aload_n C d_Law_law_136 rfl ?_
        refine ah_iload_n C d_Law_law_137 rfl ?_
        refine ah_iconst (v := 1) C d_Law_law_138 rfl ?_
        refine ah_iadd C d_Law_law_139 ?_
        refine ah_iaload C rfl rfl d_Law_law_140 (fun x140 => ?_)
        refine ah_callVI (ci := 12) (As := [.int x140]) (rest := [.int x132]) C (fun b => ok_Md_run E _ b x140) rfl (Or.inl we451) we452 we453 we300 we450 hy_Md_run (by omega) (by omega) rfl rfl (ah_rs ⟨rfl, trivial⟩ (Nat.le_of_ble_eq_true rfl)) d_Law_law_141 (fun x141 => ?_)
        refine ah_icmp_eq (tgt := 254) C d_Law_law_144 rfl (fun _ => ?_) (fun _ => ?_)
        · refine ah_mask [true, true, true, true] (lv' := [some (va_rf v0), some (va_rf v1), some (va_rf v2), some (.int v3)]) rfl ?_
          exact ok_Law_law_J254 C hret v0 v1 v2 v3 k18 hk18
        · refine ah_iconst (v := 0) C d_Law_law_147 rfl ?_
          exact ah_Sno
      refine ah_byc (fun hc3 => ?_) (fun hc3 => ?_)
      · refine ah_tin (tgt := 149) C d_Law_law_32 hc3 (by decide) (by decide) rfl rfl ?_
        refine ah_aload_n C d_Law_law_149 rfl ?_
        refine ah_callVI (ci := 10) (As := []) (rest := []) C (fun b => ok_BT_length E _ b) rfl (Or.inl we455) we456 we457 we153 we454 hy_BT_length (by omega) (by omega) rfl rfl (ah_rs trivial (Nat.le_of_ble_eq_true rfl)) d_Law_law_150 (fun x150 => ?_)
        refine ah_aload_n C d_Law_law_153 rfl ?_
        refine ah_callVI (ci := 12) (As := []) (rest := [.int x150]) C (fun b => ok_Md_length E _ b) rfl (Or.inl we459) we460 we461 we300 we458 hy_Md_length (by omega) (by omega) rfl rfl (ah_rs ⟨rfl, trivial⟩ (Nat.le_of_ble_eq_true rfl)) d_Law_law_154 (fun x154 => ?_)
        refine ah_icmp_eq (tgt := 254) C d_Law_law_157 rfl (fun _ => ?_) (fun _ => ?_)
        · refine ah_mask [true, true, true, true] (lv' := [some (va_rf v0), some (va_rf v1), some (va_rf v2), some (.int v3)]) rfl ?_
          exact ok_Law_law_J254 C hret v0 v1 v2 v3 k18 hk18
        · refine ah_iconst (v := 0) C d_Law_law_160 rfl ?_
          exact ah_Sno
      refine ah_byc (fun hc4 => ?_) (fun hc4 => ?_)
      · refine ah_tin (tgt := 162) C d_Law_law_32 hc4 (by decide) (by decide) rfl rfl ?_
        refine ah_aload_n C d_Law_law_162 rfl ?_
        refine ah_aload_n C d_Law_law_163 rfl ?_
        refine ah_iload_n C d_Law_law_164 rfl ?_
        refine ah_iconst (v := 1) C d_Law_law_165 rfl ?_
        refine ah_iadd C d_Law_law_166 ?_
        refine ah_iaload C rfl rfl d_Law_law_167 (fun x167 => ?_)
        refine ah_callVI (ci := 10) (As := [.int x167]) (rest := []) C (fun b => ok_BT_at E _ b x167) rfl (Or.inl we463) we464 we465 we153 we462 hy_BT_at (by omega) (by omega) rfl rfl (ah_rs trivial (Nat.le_of_ble_eq_true rfl)) d_Law_law_168 (fun x168 => ?_)
        refine ah_aload_n C d_Law_law_171 rfl ?_
        refine ah_aload_n C d_Law_law_172 rfl ?_
        refine ah_iload_n C d_Law_law_173 rfl ?_
        refine ah_iconst (v := 1) C d_Law_law_174 rfl ?_
        refine ah_iadd C d_Law_law_175 ?_
        refine ah_iaload C rfl rfl d_Law_law_176 (fun x176 => ?_)
        refine ah_callVI (ci := 12) (As := [.int x176]) (rest := [.int x168]) C (fun b => ok_Md_at E _ b x176) rfl (Or.inl we467) we468 we469 we300 we466 hy_Md_at (by omega) (by omega) rfl rfl (ah_rs ⟨rfl, trivial⟩ (Nat.le_of_ble_eq_true rfl)) d_Law_law_177 (fun x177 => ?_)
        refine ah_icmp_eq (tgt := 254) C d_Law_law_180 rfl (fun _ => ?_) (fun _ => ?_)
        · refine ah_mask [true, true, true, true] (lv' := [some (va_rf v0), some (va_rf v1), some (va_rf v2), some (.int v3)]) rfl ?_
          exact ok_Law_law_J254 C hret v0 v1 v2 v3 k18 hk18
        · refine ah_iconst (v := 0) C d_Law_law_183 rfl ?_
          exact ah_Sno
      refine ah_byc (fun hc5 => ?_) (fun hc5 => ?_)
      · refine ah_tin (tgt := 185) C d_Law_law_32 hc5 (by decide) (by decide) rfl rfl ?_
        refine ah_aload_n C d_Law_law_185 rfl ?_
        refine ah_callVI (ci := 10) (As := []) (rest := []) C (fun b => ok_BT_left E _ b) rfl (Or.inl we471) we472 we473 we153 we470 hy_BT_left (by omega) (by omega) rfl rfl (ah_rs trivial (Nat.le_of_ble_eq_true rfl)) d_Law_law_186 (fun x186 => ?_)
        refine ah_aload_n C d_Law_law_189 rfl ?_
        refine ah_callVI (ci := 12) (As := []) (rest := [.int x186]) C (fun b => ok_Md_left E _ b) rfl (Or.inl we475) we476 we477 we300 we474 hy_Md_left (by omega) (by omega) rfl rfl (ah_rs ⟨rfl, trivial⟩ (Nat.le_of_ble_eq_true rfl)) d_Law_law_190 (fun x190 => ?_)
        refine ah_icmp_eq (tgt := 254) C d_Law_law_193 rfl (fun _ => ?_) (fun _ => ?_)
        · refine ah_mask [true, true, true, true] (lv' := [some (va_rf v0), some (va_rf v1), some (va_rf v2), some (.int v3)]) rfl ?_
          exact ok_Law_law_J254 C hret v0 v1 v2 v3 k18 hk18
        · refine ah_iconst (v := 0) C d_Law_law_196 rfl ?_
          exact ah_Sno
      refine ah_byc (fun hc6 => ?_) (fun hc6 => ?_)
      · refine ah_tin (tgt := 198) C d_Law_law_32 hc6 (by decide) (by decide) rfl rfl ?_
        refine ah_aload_n C d_Law_law_198 rfl ?_
        refine ah_aload_n C d_Law_law_199 rfl ?_
        refine ah_iload_n C d_Law_law_200 rfl ?_
        refine ah_iconst (v := 1) C d_Law_law_201 rfl ?_
        refine ah_iadd C d_Law_law_202 ?_
        refine ah_iaload C rfl rfl d_Law_law_203 (fun x203 => ?_)
        refine ah_callVI (ci := 10) (As := [.int x203]) (rest := []) C (fun b => ok_BT_fields E _ b x203) rfl (Or.inl we479) we480 we481 we153 we478 hy_BT_fields (by omega) (by omega) rfl rfl (ah_rs trivial (Nat.le_of_ble_eq_true rfl)) d_Law_law_204 (fun x204 => ?_)
        refine ah_aload_n C d_Law_law_207 rfl ?_
        refine ah_aload_n C d_Law_law_208 rfl ?_
        refine ah_iload_n C d_Law_law_209 rfl ?_
        refine ah_iconst (v := 1) C d_Law_law_210 rfl ?_
        refine ah_iadd C d_Law_law_211 ?_
        refine ah_iaload C rfl rfl d_Law_law_212 (fun x212 => ?_)
        refine ah_callVI (ci := 12) (As := [.int x212]) (rest := [.int x204]) C (fun b => ok_Md_fields E _ b x212) rfl (Or.inl we483) we484 we485 we300 we482 hy_Md_fields (by omega) (by omega) rfl rfl (ah_rs ⟨rfl, trivial⟩ (Nat.le_of_ble_eq_true rfl)) d_Law_law_213 (fun x213 => ?_)
        refine ah_icmp_eq (tgt := 254) C d_Law_law_216 rfl (fun _ => ?_) (fun _ => ?_)
        · refine ah_mask [true, true, true, true] (lv' := [some (va_rf v0), some (va_rf v1), some (va_rf v2), some (.int v3)]) rfl ?_
          exact ok_Law_law_J254 C hret v0 v1 v2 v3 k18 hk18
        · refine ah_iconst (v := 0) C d_Law_law_219 rfl ?_
          exact ah_Sno
      refine ah_byc (fun hc7 => ?_) (fun hc7 => ?_)
      · refine ah_tin (tgt := 221) C d_Law_law_32 hc7 (by decide) (by decide) rfl rfl ?_
        refine ah_aload_n C d_Law_law_221 rfl ?_
        refine ah_aload_n C d_Law_law_222 rfl ?_
        refine ah_iload_n C d_Law_law_223 rfl ?_
        refine ah_iconst (v := 1) C d_Law_law_224 rfl ?_
        refine ah_iadd C d_Law_law_225 ?_
        refine ah_iaload C rfl rfl d_Law_law_226 (fun x226 => ?_)
        refine ah_aload_n C d_Law_law_227 rfl ?_
        refine ah_iload_n C d_Law_law_228 rfl ?_
        refine ah_iconst (v := 2) C d_Law_law_229 rfl ?_
        refine ah_iadd C d_Law_law_230 ?_
        refine ah_iaload C rfl rfl d_Law_law_231 (fun x231 => ?_)
        refine ah_callVI (ci := 10) (As := [.int x226, .int x231]) (rest := []) C (fun b => ok_BT_method E _ b x226 x231) rfl (Or.inl we487) we488 we489 we153 we486 hy_BT_method (by omega) (by omega) rfl rfl (ah_rs trivial (Nat.le_of_ble_eq_true rfl)) d_Law_law_232 (fun x232 => ?_)
        refine ah_aload_n C d_Law_law_235 rfl ?_
        refine ah_aload_n C d_Law_law_236 rfl ?_
        refine ah_iload_n C d_Law_law_237 rfl ?_
        refine ah_iconst (v := 1) C d_Law_law_238 rfl ?_
        refine ah_iadd C d_Law_law_239 ?_
        refine ah_iaload C rfl rfl d_Law_law_240 (fun x240 => ?_)
        refine ah_aload_n C d_Law_law_241 rfl ?_
        refine ah_iload_n C d_Law_law_242 rfl ?_
        refine ah_iconst (v := 2) C d_Law_law_243 rfl ?_
        refine ah_iadd C d_Law_law_244 ?_
        refine ah_iaload C rfl rfl d_Law_law_245 (fun x245 => ?_)
        refine ah_callVI (ci := 12) (As := [.int x240, .int x245]) (rest := [.int x232]) C (fun b => ok_Md_method E _ b x240 x245) rfl (Or.inl we491) we492 we493 we300 we490 hy_Md_method (by omega) (by omega) rfl rfl (ah_rs ⟨rfl, trivial⟩ (Nat.le_of_ble_eq_true rfl)) d_Law_law_246 (fun x246 => ?_)
        refine ah_icmp_eq (tgt := 254) C d_Law_law_249 rfl (fun _ => ?_) (fun _ => ?_)
        · refine ah_mask [true, true, true, true] (lv' := [some (va_rf v0), some (va_rf v1), some (va_rf v2), some (.int v3)]) rfl ?_
          exact ok_Law_law_J254 C hret v0 v1 v2 v3 k18 hk18
        · refine ah_iconst (v := 0) C d_Law_law_252 rfl ?_
          exact ah_Sno
      refine ah_tout (tgt := 254) C d_Law_law_32 (by have q0 := lv_neT (a := 0) hc0 (by decide); have q1 := lv_neT (a := 1) hc1 (by decide); have q2 := lv_neT (a := 2) hc2 (by decide); have q3 := lv_neT (a := 3) hc3 (by decide); have q4 := lv_neT (a := 4) hc4 (by decide); have q5 := lv_neT (a := 5) hc5 (by decide); have q6 := lv_neT (a := 6) hc6 (by decide); have q7 := lv_neT (a := 7) hc7 (by decide); omega) rfl ?_
      refine ah_mask [true, true, true, true] (lv' := [some (va_rf v0), some (va_rf v1), some (va_rf v2), some (.int v3)]) rfl ?_
      exact ok_Law_law_J254 C hret v0 v1 v2 v3 k18 hk18
set_option maxRecDepth 100000 in
set_option maxHeartbeats 4000000 in
theorem ok_Law_law {E : ahE} {X : ahX} {Qf : Int32 → ahH → State → Prop} (C : ah_Cx E X code 4 "BoundedTypesLaw" 7 160) (hret : ∀ (pc : Nat) (lv : List (Option Value)), decode code pc = .ok (.ireturn, 1) → ah_S E X Qf pc lv [.int 1] (ah_ret 1)) (v0 : Option Nat) : ah_S E X Qf 0 [some (va_rf v0), none, none, none] [] (fn_Law_law v0) := by
  unfold fn_Law_law
  refine ah_newO (ci := 10) C rfl we494 we495 we153 d_Law_law_0 (fun x0 => ?_)
  refine ah_dup C d_Law_law_3 (ah_rf_cat _) ?_
  refine ah_callI (As := []) (rest := [va_rf x0]) C (fun b => ok_BT_init E _ b) (Or.inl we497) rfl we498 we153 we496 hy_BT_init (by omega) (by omega) rfl rfl (ah_rs ⟨(ah_rf_cat _), trivial⟩ (Nat.le_of_ble_eq_true rfl)) d_Law_law_4 ?_
  refine ah_astore_n (lv' := [some (va_rf v0), some (va_rf x0), none, none]) C d_Law_law_7 (Nat.le_of_ble_eq_true rfl) rfl ?_
  refine ah_newO (ci := 12) C rfl we499 we500 we300 d_Law_law_8 (fun x8 => ?_)
  refine ah_dup C d_Law_law_11 (ah_rf_cat _) ?_
  refine ah_callI (As := []) (rest := [va_rf x8]) C (fun b => ok_Md_init E _ b) (Or.inl we502) rfl we503 we300 we501 hy_Md_init (by omega) (by omega) rfl rfl (ah_rs ⟨(ah_rf_cat _), trivial⟩ (Nat.le_of_ble_eq_true rfl)) d_Law_law_12 ?_
  refine ah_astore_n (lv' := [some (va_rf v0), some (va_rf x0), some (va_rf x8), none]) C d_Law_law_15 (Nat.le_of_ble_eq_true rfl) rfl ?_
  refine ah_iconst (v := 0) C d_Law_law_16 rfl ?_
  refine ah_istore_n (lv' := [some (va_rf v0), some (va_rf x0), some (va_rf x8), some (.int (0 : Int32))]) C d_Law_law_17 (Nat.le_of_ble_eq_true rfl) rfl ?_
  refine ah_mask [true, true, true, true] (lv' := [some (va_rf v0), some (va_rf x0), some (va_rf x8), some (.int (0 : Int32))]) rfl ?_
  exact ok_Law_law_B18 C hret v0 x0 x8 FU (0 : Int32)
