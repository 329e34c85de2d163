set_option maxRecDepth 100000 in
set_option maxHeartbeats 40000000 in
theorem op_fields_0 (n0 b L : Nat) (xs : Nat → Int32) (hb : ∀ k, (b = n0 + k) = False) (hb0 : (b = n0) = False) (hz : ∀ k, (0 = n0 + k) = False) (hz0 : (0 = n0) = False) (r : Option Nat) {h : ahH} (F : Fx n0 b L xs r h) {post : Int32 → ahH → Prop} (J : ahM Int32) (K : ∀ h', ah_kd h' b = 99 → ah_ln h' b = L → h'.1 ≤ n0 + 1000 → h'.2.1 ≤ 1000000 → Rn J h' post) (hL : L = 3) (e0 : xs 1 = 0) : Rn (ah_bnd (ah_cV 10 (some n0) (fun b => fn_BT_fields b (xs 1))) fun x => ah_rd (ah_aI 0 (some b) ((0 : Int32) + (1 : Int32))) fun y1 => ah_bnd (ah_cV 12 (some (n0 + 41)) (fun b => fn_Md_fields b y1)) fun z => if x = z then J else ah_no) h post := by
  obtain ⟨hn, hu, f0, f1, f2, f3, f4, f5, f6, f7, f8, f9, f10, f11, f12, f13, f14, f15, f16, f17, f18, f19, f20, f21, f22, f23, f24, f25, f26, f27, f28, f29, f30, f31, f32, f33, f34, f35, f36, f37, f38, f39, f40, f41, f42, f43, f44, f45, f46, f47, f48, f49, f50, f51, f52, f53, f54, f55, f56, f57, f58, f59, f60, f61, f62, f63, f64, f65, f66, f67, f68, f69, f70, f71, f72, f73, f74, f75, f76, f77, f78, f79, f80, f81, f82, f83, f84, f85, f86, f87, f88, f89, f90, f91, f92, f93, f94, f95, f96, f97, f98, f99, f100, f101, f102, f103, f104, f105, f106, f107, f108, f109, f110, f111, f112, f113, f114, f115, f116, f117⟩ := F
  rw [show (fun b => fn_BT_fields b (xs 1)) = (fun b => fn_BT_fields b 0) by rw [e0]]
  refine rn_bnd (rn_cV (by simp [n_N, n_I, n_P, n_F, kd_N, kd_I, kd_P, kd_F, ln_N, ln_I, ln_P, ln_F, I_N, I_I, I_P, I_F, P_N, P_I, P_P, P_F, nar_0, hb, hb0, hz, hz0, f7] <;> decide) ?_)
  try unfold fn_BT_fields
  refine rn_gR (r := (some (n0 + 14))) (by simp [n_N, n_I, n_P, n_F, kd_N, kd_I, kd_P, kd_F, ln_N, ln_I, ln_P, ln_F, I_N, I_I, I_P, I_F, P_N, P_I, P_P, P_F, nar_0, hb, hb0, hz, hz0, f7] <;> decide) (by simp [n_N, n_I, n_P, n_F, kd_N, kd_I, kd_P, kd_F, ln_N, ln_I, ln_P, ln_F, I_N, I_I, I_P, I_F, P_N, P_I, P_P, P_F, nar_0, hb, hb0, hz, hz0, f4] <;> decide) ?_
  refine rn_bnd (rn_cV (by simp [n_N, n_I, n_P, n_F, kd_N, kd_I, kd_P, kd_F, ln_N, ln_I, ln_P, ln_F, I_N, I_I, I_P, I_F, P_N, P_I, P_P, P_F, nar_0, hb, hb0, hz, hz0, f53] <;> decide) ?_)
  try unfold fn_Rules_entryNamed
  refine rn_f (by decide) ?_
  refine rn_f (by decide) ?_
  refine rn_gR (r := (some (n0 + 15))) (by simp [n_N, n_I, n_P, n_F, kd_N, kd_I, kd_P, kd_F, ln_N, ln_I, ln_P, ln_F, I_N, I_I, I_P, I_F, P_N, P_I, P_P, P_F, nar_0, hb, hb0, hz, hz0, f53] <;> decide) (by simp [n_N, n_I, n_P, n_F, kd_N, kd_I, kd_P, kd_F, ln_N, ln_I, ln_P, ln_F, I_N, I_I, I_P, I_F, P_N, P_I, P_P, P_F, nar_0, hb, hb0, hz, hz0, f52] <;> decide) ?_
  refine rn_aR (n := 8) (k := 0) (r := (some (n0 + 18))) (by simp [n_N, n_I, n_P, n_F, kd_N, kd_I, kd_P, kd_F, ln_N, ln_I, ln_P, ln_F, I_N, I_I, I_P, I_F, P_N, P_I, P_P, P_F, nar_0, hb, hb0, hz, hz0, f55] <;> decide) (by simp [n_N, n_I, n_P, n_F, kd_N, kd_I, kd_P, kd_F, ln_N, ln_I, ln_P, ln_F, I_N, I_I, I_P, I_F, P_N, P_I, P_P, P_F, nar_0, hb, hb0, hz, hz0, f56] <;> decide) (by decide) (by decide) (by simp [n_N, n_I, n_P, n_F, kd_N, kd_I, kd_P, kd_F, ln_N, ln_I, ln_P, ln_F, I_N, I_I, I_P, I_F, P_N, P_I, P_P, P_F, nar_0, hb, hb0, hz, hz0, f54] <;> decide) ?_
  refine rn_ret ?_
  refine rn_f (by simp) ?_
  refine rn_gI (x := (0 : Int32)) (by simp [n_N, n_I, n_P, n_F, kd_N, kd_I, kd_P, kd_F, ln_N, ln_I, ln_P, ln_F, I_N, I_I, I_P, I_F, P_N, P_I, P_P, P_F, nar_0, hb, hb0, hz, hz0, f60] <;> decide) (by simp [n_N, n_I, n_P, n_F, kd_N, kd_I, kd_P, kd_F, ln_N, ln_I, ln_P, ln_F, I_N, I_I, I_P, I_F, P_N, P_I, P_P, P_F, nar_0, hb, hb0, hz, hz0, f58] <;> decide) ?_
  refine rn_ret ?_
  refine rn_bI (n := 3) (k := 1) (x := 0) (by simp [n_N, n_I, n_P, n_F, kd_N, kd_I, kd_P, kd_F, ln_N, ln_I, ln_P, ln_F, I_N, I_I, I_P, I_F, P_N, P_I, P_P, P_F, nar_0, hb, hb0, hz, hz0, f114] <;> decide) (by simp [n_N, n_I, n_P, n_F, kd_N, kd_I, kd_P, kd_F, ln_N, ln_I, ln_P, ln_F, I_N, I_I, I_P, I_F, P_N, P_I, P_P, P_F, nar_0, hb, hb0, hz, hz0, f115, hL] <;> decide) (by decide) (by decide) (by simp [n_N, n_I, n_P, n_F, kd_N, kd_I, kd_P, kd_F, ln_N, ln_I, ln_P, ln_F, I_N, I_I, I_P, I_F, P_N, P_I, P_P, P_F, nar_0, hb, hb0, hz, hz0, f116, e0] <;> decide) ?_
  refine rn_bnd (rn_cV (by simp [n_N, n_I, n_P, n_F, kd_N, kd_I, kd_P, kd_F, ln_N, ln_I, ln_P, ln_F, I_N, I_I, I_P, I_F, P_N, P_I, P_P, P_F, nar_0, hb, hb0, hz, hz0, f98] <;> decide) ?_)
  try unfold fn_Md_fields
  refine rn_bnd ?_
  try unfold fn_Md_in
  refine rn_f (by decide) ?_
  refine rn_f (by decide) ?_
  refine rn_retZ (by decide) ?_
  refine rn_f (by decide) ?_
  refine rn_gR (r := (some (n0 + 50))) (by simp [n_N, n_I, n_P, n_F, kd_N, kd_I, kd_P, kd_F, ln_N, ln_I, ln_P, ln_F, I_N, I_I, I_P, I_F, P_N, P_I, P_P, P_F, nar_0, hb, hb0, hz, hz0, f98] <;> decide) (by simp [n_N, n_I, n_P, n_F, kd_N, kd_I, kd_P, kd_F, ln_N, ln_I, ln_P, ln_F, I_N, I_I, I_P, I_F, P_N, P_I, P_P, P_F, nar_0, hb, hb0, hz, hz0, f93] <;> decide) ?_
  refine rn_aI (n := 8) (k := 0) (x := (2 : Int32)) (by simp [n_N, n_I, n_P, n_F, kd_N, kd_I, kd_P, kd_F, ln_N, ln_I, ln_P, ln_F, I_N, I_I, I_P, I_F, P_N, P_I, P_P, P_F, nar_0, hb, hb0, hz, hz0, f104] <;> decide) (by simp [n_N, n_I, n_P, n_F, kd_N, kd_I, kd_P, kd_F, ln_N, ln_I, ln_P, ln_F, I_N, I_I, I_P, I_F, P_N, P_I, P_P, P_F, nar_0, hb, hb0, hz, hz0, f105] <;> decide) (by decide) (by decide) (by simp [n_N, n_I, n_P, n_F, kd_N, kd_I, kd_P, kd_F, ln_N, ln_I, ln_P, ln_F, I_N, I_I, I_P, I_F, P_N, P_I, P_P, P_F, nar_0, hb, hb0, hz, hz0, f103] <;> decide) ?_
  refine rn_f (by decide) ?_
  refine rn_bnd (rn_cV (by simp [n_N, n_I, n_P, n_F, kd_N, kd_I, kd_P, kd_F, ln_N, ln_I, ln_P, ln_F, I_N, I_I, I_P, I_F, P_N, P_I, P_P, P_F, nar_0, hb, hb0, hz, hz0, f98] <;> decide) ?_)
  try unfold fn_Md_fieldsOf
  refine rn_lpv (s := ((0 : Int32), (0 : Int32))) (by first | rfl | decide) ?_
  refine rn_lp (m := 1999999) ?_
  rw [fn_Md_fieldsOf_B4]
  refine rn_f (by decide) ?_
  refine rn_lpv (s := ((0 : Int32), (0 : Int32))) (by first | rfl | decide) ?_
  refine rn_lp (m := 1999999) ?_
  rw [fn_Md_fieldsOf_B11]
  refine rn_gI (x := (0 : Int32)) (by simp [n_N, n_I, n_P, n_F, kd_N, kd_I, kd_P, kd_F, ln_N, ln_I, ln_P, ln_F, I_N, I_I, I_P, I_F, P_N, P_I, P_P, P_F, nar_0, hb, hb0, hz, hz0, f98] <;> decide) (by simp [n_N, n_I, n_P, n_F, kd_N, kd_I, kd_P, kd_F, ln_N, ln_I, ln_P, ln_F, I_N, I_I, I_P, I_F, P_N, P_I, P_P, P_F, nar_0, hb, hb0, hz, hz0, f86] <;> decide) ?_
  refine rn_t (by decide) ?_
  refine rn_bnd (rn_cV (by simp [n_N, n_I, n_P, n_F, kd_N, kd_I, kd_P, kd_F, ln_N, ln_I, ln_P, ln_F, I_N, I_I, I_P, I_F, P_N, P_I, P_P, P_F, nar_0, hb, hb0, hz, hz0, f98] <;> decide) ?_)
  try unfold fn_Md_upper
  refine rn_gR (r := (some (n0 + 54))) (by simp [n_N, n_I, n_P, n_F, kd_N, kd_I, kd_P, kd_F, ln_N, ln_I, ln_P, ln_F, I_N, I_I, I_P, I_F, P_N, P_I, P_P, P_F, nar_0, hb, hb0, hz, hz0, f98] <;> decide) (by simp [n_N, n_I, n_P, n_F, kd_N, kd_I, kd_P, kd_F, ln_N, ln_I, ln_P, ln_F, I_N, I_I, I_P, I_F, P_N, P_I, P_P, P_F, nar_0, hb, hb0, hz, hz0, f94] <;> decide) ?_
  refine rn_aI (n := 8) (k := 0) (x := (-1 : Int32)) (by simp [n_N, n_I, n_P, n_F, kd_N, kd_I, kd_P, kd_F, ln_N, ln_I, ln_P, ln_F, I_N, I_I, I_P, I_F, P_N, P_I, P_P, P_F, nar_0, hb, hb0, hz, hz0, f107] <;> decide) (by simp [n_N, n_I, n_P, n_F, kd_N, kd_I, kd_P, kd_F, ln_N, ln_I, ln_P, ln_F, I_N, I_I, I_P, I_F, P_N, P_I, P_P, P_F, nar_0, hb, hb0, hz, hz0, f108] <;> decide) (by decide) (by decide) (by simp [n_N, n_I, n_P, n_F, kd_N, kd_I, kd_P, kd_F, ln_N, ln_I, ln_P, ln_F, I_N, I_I, I_P, I_F, P_N, P_I, P_P, P_F, nar_0, hb, hb0, hz, hz0, f106] <;> decide) ?_
  refine rn_f (by decide) ?_
  refine rn_ret ?_
  refine rn_lpv (s := ((0 : Int32), (-1 : Int32))) (by first | rfl | decide) ?_
  refine rn_lp (m := 1999998) ?_
  rw [fn_Md_fieldsOf_B4]
  refine rn_t (by decide) ?_
  refine rn_ret ?_
  refine rn_ret ?_
  refine rn_t (by first | rfl | decide) ?_
  exact K _ (by first | (intro j; simp [n_N, n_I, n_P, n_F, kd_N, kd_I, kd_P, kd_F, ln_N, ln_I, ln_P, ln_F, I_N, I_I, I_P, I_F, P_N, P_I, P_P, P_F, nar_0, hb, hb0, hz, hz0, f114]) | (simp [n_N, n_I, n_P, n_F, kd_N, kd_I, kd_P, kd_F, ln_N, ln_I, ln_P, ln_F, I_N, I_I, I_P, I_F, P_N, P_I, P_P, P_F, nar_0, hb, hb0, hz, hz0, f114])) (by first | (intro j; simp [n_N, n_I, n_P, n_F, kd_N, kd_I, kd_P, kd_F, ln_N, ln_I, ln_P, ln_F, I_N, I_I, I_P, I_F, P_N, P_I, P_P, P_F, nar_0, hb, hb0, hz, hz0, f115]) | (simp [n_N, n_I, n_P, n_F, kd_N, kd_I, kd_P, kd_F, ln_N, ln_I, ln_P, ln_F, I_N, I_I, I_P, I_F, P_N, P_I, P_P, P_F, nar_0, hb, hb0, hz, hz0, f115])) (le_n (k := 85) (by simp only [n_N, n_I, n_P, n_F, hn]) (by decide)) (le_u (k := 40400) (by simp only [u_N, u_I, u_P, u_F, hu]) (by decide))

