set_option maxRecDepth 100000 in
set_option maxHeartbeats 40000000 in
theorem op_declare (n0 b L : Nat) (xs : Nat → Int32) (hb : ∀ k, (b = n0 + k) = False) (hb0 : (b = n0) = False) (hz : ∀ k, (0 = n0 + k) = False) (hz0 : (0 = n0) = False) {h : ahH} (F : Fx n0 b L xs h) {post : Int32 → ahH → Prop} (J : ahM Int32) (K : ∀ h', ah_kd h' b = 99 → ah_ln h' b = L → h'.1 ≤ n0 + 1000 → h'.2.1 ≤ 1000000 → Rn J h' post) : Rn (ah_bnd (ah_cV 10 (some n0) (fun b => fn_BT_declare b)) fun x114 => ah_bnd (ah_cV 12 (some (n0 + 41)) (fun b => fn_Md_declare b)) fun x118 => if x114 = x118 then J else ah_no) h post := by
  obtain ⟨hn, hu, f0, f1, f2, f3, f4, f5, f6, f7, f8, f9, f10, f11, f12, f13, f14, f15, f16, f17, f18, f19, f20, f21, f22, f23, f24, f25, f26, f27, f28, f29, f30, f31, f32, f33, f34, f35, f36, f37, f38, f39, f40, f41, f42, f43, f44, f45, f46, f47, f48, f49, f50, f51, f52, f53, f54, f55, f56, f57, f58, f59, f60, f61, f62, f63, f64, f65, f66, f67, f68, f69, f70, f71, f72, f73, f74, f75, f76, f77, f78, f79, f80, f81, f82, f83, f84, f85, f86, f87, f88, f89, f90, f91, f92, f93, f94, f95, f96, f97, f98, f99, f100, f101, f102, f103, f104, f105, f106, f107, f108, f109, f110, f111, f112, f113, f114, f115, f116⟩ := F
  refine rn_bnd (rn_cV (by simp [n_N, n_I, n_P, n_F, kd_N, kd_I, kd_P, kd_F, ln_N, ln_I, ln_P, ln_F, I_N, I_I, I_P, I_F, P_N, P_I, P_P, P_F, hb, hb0, hz, hz0, f7]) ?_)
  try unfold fn_BT_declare
  refine rn_gR (r := (some (n0 + 2))) (by simp [n_N, n_I, n_P, n_F, kd_N, kd_I, kd_P, kd_F, ln_N, ln_I, ln_P, ln_F, I_N, I_I, I_P, I_F, P_N, P_I, P_P, P_F, hb, hb0, hz, hz0, f7]) (by simp [n_N, n_I, n_P, n_F, kd_N, kd_I, kd_P, kd_F, ln_N, ln_I, ln_P, ln_F, I_N, I_I, I_P, I_F, P_N, P_I, P_P, P_F, hb, hb0, hz, hz0, f2]) ?_
  refine rn_gI (x := (8 : Int32)) (by simp [n_N, n_I, n_P, n_F, kd_N, kd_I, kd_P, kd_F, ln_N, ln_I, ln_P, ln_F, I_N, I_I, I_P, I_F, P_N, P_I, P_P, P_F, hb, hb0, hz, hz0, f17]) (by simp [n_N, n_I, n_P, n_F, kd_N, kd_I, kd_P, kd_F, ln_N, ln_I, ln_P, ln_F, I_N, I_I, I_P, I_F, P_N, P_I, P_P, P_F, hb, hb0, hz, hz0, f10]) ?_
  refine rn_gR (r := (some (n0 + 9))) (by simp [n_N, n_I, n_P, n_F, kd_N, kd_I, kd_P, kd_F, ln_N, ln_I, ln_P, ln_F, I_N, I_I, I_P, I_F, P_N, P_I, P_P, P_F, hb, hb0, hz, hz0, f7]) (by simp [n_N, n_I, n_P, n_F, kd_N, kd_I, kd_P, kd_F, ln_N, ln_I, ln_P, ln_F, I_N, I_I, I_P, I_F, P_N, P_I, P_P, P_F, hb, hb0, hz, hz0, f3]) ?_
  refine rn_gI (x := (0 : Int32)) (by simp [n_N, n_I, n_P, n_F, kd_N, kd_I, kd_P, kd_F, ln_N, ln_I, ln_P, ln_F, I_N, I_I, I_P, I_F, P_N, P_I, P_P, P_F, hb, hb0, hz, hz0, f43]) (by simp [n_N, n_I, n_P, n_F, kd_N, kd_I, kd_P, kd_F, ln_N, ln_I, ln_P, ln_F, I_N, I_I, I_P, I_F, P_N, P_I, P_P, P_F, hb, hb0, hz, hz0, f38]) ?_
  refine rn_gR (r := (some (n0 + 26))) (by simp [n_N, n_I, n_P, n_F, kd_N, kd_I, kd_P, kd_F, ln_N, ln_I, ln_P, ln_F, I_N, I_I, I_P, I_F, P_N, P_I, P_P, P_F, hb, hb0, hz, hz0, f7]) (by simp [n_N, n_I, n_P, n_F, kd_N, kd_I, kd_P, kd_F, ln_N, ln_I, ln_P, ln_F, I_N, I_I, I_P, I_F, P_N, P_I, P_P, P_F, hb, hb0, hz, hz0, f5]) ?_
  refine rn_gI (x := (0 : Int32)) (by simp [n_N, n_I, n_P, n_F, kd_N, kd_I, kd_P, kd_F, ln_N, ln_I, ln_P, ln_F, I_N, I_I, I_P, I_F, P_N, P_I, P_P, P_F, hb, hb0, hz, hz0, f7]) (by simp [n_N, n_I, n_P, n_F, kd_N, kd_I, kd_P, kd_F, ln_N, ln_I, ln_P, ln_F, I_N, I_I, I_P, I_F, P_N, P_I, P_P, P_F, hb, hb0, hz, hz0, f0]) ?_
  refine rn_bnd (rn_cV (by simp [n_N, n_I, n_P, n_F, kd_N, kd_I, kd_P, kd_F, ln_N, ln_I, ln_P, ln_F, I_N, I_I, I_P, I_F, P_N, P_I, P_P, P_F, hb, hb0, hz, hz0, f70]) ?_)
  try unfold fn_Reader_readDeclaration
  refine rn_bnd (rn_cV (by simp [n_N, n_I, n_P, n_F, kd_N, kd_I, kd_P, kd_F, ln_N, ln_I, ln_P, ln_F, I_N, I_I, I_P, I_F, P_N, P_I, P_P, P_F, hb, hb0, hz, hz0, f70]) ?_)
  try unfold fn_Reader_start
  refine rn_lpv (s := ((0 : Int32), (0 : Int32))) (by first | rfl | decide) ?_
  refine rn_lp (m := 1999999) ?_
  rw [fn_Reader_start_B4]
  refine rn_t (by decide) ?_
  try unfold fn_Reader_start_J64
  refine rn_gR (r := (some (n0 + 27))) (by simp [n_N, n_I, n_P, n_F, kd_N, kd_I, kd_P, kd_F, ln_N, ln_I, ln_P, ln_F, I_N, I_I, I_P, I_F, P_N, P_I, P_P, P_F, hb, hb0, hz, hz0, f70]) (by simp [n_N, n_I, n_P, n_F, kd_N, kd_I, kd_P, kd_F, ln_N, ln_I, ln_P, ln_F, I_N, I_I, I_P, I_F, P_N, P_I, P_P, P_F, hb, hb0, hz, hz0, f67]) ?_
  refine rn_sI (n := 141) (k := 0) (by simp [n_N, n_I, n_P, n_F, kd_N, kd_I, kd_P, kd_F, ln_N, ln_I, ln_P, ln_F, I_N, I_I, I_P, I_F, P_N, P_I, P_P, P_F, hb, hb0, hz, hz0, f72]) (by simp [n_N, n_I, n_P, n_F, kd_N, kd_I, kd_P, kd_F, ln_N, ln_I, ln_P, ln_F, I_N, I_I, I_P, I_F, P_N, P_I, P_P, P_F, hb, hb0, hz, hz0, f73]) (by decide) (by decide) ?_
  refine rn_gR (r := (some (n0 + 28))) (by simp [n_N, n_I, n_P, n_F, kd_N, kd_I, kd_P, kd_F, ln_N, ln_I, ln_P, ln_F, I_N, I_I, I_P, I_F, P_N, P_I, P_P, P_F, hb, hb0, hz, hz0, f70]) (by simp [n_N, n_I, n_P, n_F, kd_N, kd_I, kd_P, kd_F, ln_N, ln_I, ln_P, ln_F, I_N, I_I, I_P, I_F, P_N, P_I, P_P, P_F, hb, hb0, hz, hz0, f68]) ?_
  refine rn_sI (n := 141) (k := 0) (by simp [n_N, n_I, n_P, n_F, kd_N, kd_I, kd_P, kd_F, ln_N, ln_I, ln_P, ln_F, I_N, I_I, I_P, I_F, P_N, P_I, P_P, P_F, hb, hb0, hz, hz0, f75]) (by simp [n_N, n_I, n_P, n_F, kd_N, kd_I, kd_P, kd_F, ln_N, ln_I, ln_P, ln_F, I_N, I_I, I_P, I_F, P_N, P_I, P_P, P_F, hb, hb0, hz, hz0, f76]) (by decide) (by decide) ?_
  refine rn_pI (by simp [n_N, n_I, n_P, n_F, kd_N, kd_I, kd_P, kd_F, ln_N, ln_I, ln_P, ln_F, I_N, I_I, I_P, I_F, P_N, P_I, P_P, P_F, hb, hb0, hz, hz0, f70]) ?_
  refine rn_pI (by simp [n_N, n_I, n_P, n_F, kd_N, kd_I, kd_P, kd_F, ln_N, ln_I, ln_P, ln_F, I_N, I_I, I_P, I_F, P_N, P_I, P_P, P_F, hb, hb0, hz, hz0, f70]) ?_
  refine rn_pI (by simp [n_N, n_I, n_P, n_F, kd_N, kd_I, kd_P, kd_F, ln_N, ln_I, ln_P, ln_F, I_N, I_I, I_P, I_F, P_N, P_I, P_P, P_F, hb, hb0, hz, hz0, f70]) ?_
  refine rn_pR (by simp [n_N, n_I, n_P, n_F, kd_N, kd_I, kd_P, kd_F, ln_N, ln_I, ln_P, ln_F, I_N, I_I, I_P, I_F, P_N, P_I, P_P, P_F, hb, hb0, hz, hz0, f70]) ?_
  refine rn_gR (r := (some (n0 + 2))) (by simp [n_N, n_I, n_P, n_F, kd_N, kd_I, kd_P, kd_F, ln_N, ln_I, ln_P, ln_F, I_N, I_I, I_P, I_F, P_N, P_I, P_P, P_F, hb, hb0, hz, hz0, f70]) (by simp [n_N, n_I, n_P, n_F, kd_N, kd_I, kd_P, kd_F, ln_N, ln_I, ln_P, ln_F, I_N, I_I, I_P, I_F, P_N, P_I, P_P, P_F, hb, hb0, hz, hz0, f65]) ?_
  refine rn_bnd (rn_cV (by simp [n_N, n_I, n_P, n_F, kd_N, kd_I, kd_P, kd_F, ln_N, ln_I, ln_P, ln_F, I_N, I_I, I_P, I_F, P_N, P_I, P_P, P_F, hb, hb0, hz, hz0, f17]) ?_)
  try unfold fn_Types_makeRoom
  refine rn_gR (r := (some (n0 + 3))) (by simp [n_N, n_I, n_P, n_F, kd_N, kd_I, kd_P, kd_F, ln_N, ln_I, ln_P, ln_F, I_N, I_I, I_P, I_F, P_N, P_I, P_P, P_F, hb, hb0, hz, hz0, f17]) (by simp [n_N, n_I, n_P, n_F, kd_N, kd_I, kd_P, kd_F, ln_N, ln_I, ln_P, ln_F, I_N, I_I, I_P, I_F, P_N, P_I, P_P, P_F, hb, hb0, hz, hz0, f11]) ?_
  refine rn_al (x := (512 : Int32)) (by simp [n_N, n_I, n_P, n_F, kd_N, kd_I, kd_P, kd_F, ln_N, ln_I, ln_P, ln_F, I_N, I_I, I_P, I_F, P_N, P_I, P_P, P_F, hb, hb0, hz, hz0, f19]) (by simp [n_N, n_I, n_P, n_F, kd_N, kd_I, kd_P, kd_F, ln_N, ln_I, ln_P, ln_F, I_N, I_I, I_P, I_F, P_N, P_I, P_P, P_F, hb, hb0, hz, hz0, f20]) ?_
  refine rn_gR (r := (some (n0 + 3))) (by simp [n_N, n_I, n_P, n_F, kd_N, kd_I, kd_P, kd_F, ln_N, ln_I, ln_P, ln_F, I_N, I_I, I_P, I_F, P_N, P_I, P_P, P_F, hb, hb0, hz, hz0, f17]) (by simp [n_N, n_I, n_P, n_F, kd_N, kd_I, kd_P, kd_F, ln_N, ln_I, ln_P, ln_F, I_N, I_I, I_P, I_F, P_N, P_I, P_P, P_F, hb, hb0, hz, hz0, f11]) ?_
  refine rn_al (x := (512 : Int32)) (by simp [n_N, n_I, n_P, n_F, kd_N, kd_I, kd_P, kd_F, ln_N, ln_I, ln_P, ln_F, I_N, I_I, I_P, I_F, P_N, P_I, P_P, P_F, hb, hb0, hz, hz0, f19]) (by simp [n_N, n_I, n_P, n_F, kd_N, kd_I, kd_P, kd_F, ln_N, ln_I, ln_P, ln_F, I_N, I_I, I_P, I_F, P_N, P_I, P_P, P_F, hb, hb0, hz, hz0, f20]) ?_
  refine rn_gI (x := (8 : Int32)) (by simp [n_N, n_I, n_P, n_F, kd_N, kd_I, kd_P, kd_F, ln_N, ln_I, ln_P, ln_F, I_N, I_I, I_P, I_F, P_N, P_I, P_P, P_F, hb, hb0, hz, hz0, f17]) (by simp [n_N, n_I, n_P, n_F, kd_N, kd_I, kd_P, kd_F, ln_N, ln_I, ln_P, ln_F, I_N, I_I, I_P, I_F, P_N, P_I, P_P, P_F, hb, hb0, hz, hz0, f10]) ?_
  refine rn_t (by decide) ?_
  refine rn_ret ?_
  refine rn_ret ?_
  refine rn_bnd (rn_cV (by simp [n_N, n_I, n_P, n_F, kd_N, kd_I, kd_P, kd_F, ln_N, ln_I, ln_P, ln_F, I_N, I_I, I_P, I_F, P_N, P_I, P_P, P_F, hb, hb0, hz, hz0, f70]) ?_)
  try unfold fn_Reader_takeLetter
  refine rn_gR (r := (some (n0 + 27))) (by simp [n_N, n_I, n_P, n_F, kd_N, kd_I, kd_P, kd_F, ln_N, ln_I, ln_P, ln_F, I_N, I_I, I_P, I_F, P_N, P_I, P_P, P_F, hb, hb0, hz, hz0, f70]) (by simp [n_N, n_I, n_P, n_F, kd_N, kd_I, kd_P, kd_F, ln_N, ln_I, ln_P, ln_F, I_N, I_I, I_P, I_F, P_N, P_I, P_P, P_F, hb, hb0, hz, hz0, f67]) ?_
  refine rn_gI (x := (0 : Int32)) (by simp [n_N, n_I, n_P, n_F, kd_N, kd_I, kd_P, kd_F, ln_N, ln_I, ln_P, ln_F, I_N, I_I, I_P, I_F, P_N, P_I, P_P, P_F, hb, hb0, hz, hz0, f70]) (by simp [n_N, n_I, n_P, n_F, kd_N, kd_I, kd_P, kd_F, ln_N, ln_I, ln_P, ln_F, I_N, I_I, I_P, I_F, P_N, P_I, P_P, P_F, hb, hb0, hz, hz0, f63]) ?_
  refine rn_aI (n := 141) (k := 0) (x := (0 : Int32)) (by simp [n_N, n_I, n_P, n_F, kd_N, kd_I, kd_P, kd_F, ln_N, ln_I, ln_P, ln_F, I_N, I_I, I_P, I_F, P_N, P_I, P_P, P_F, hb, hb0, hz, hz0, f72]) (by simp [n_N, n_I, n_P, n_F, kd_N, kd_I, kd_P, kd_F, ln_N, ln_I, ln_P, ln_F, I_N, I_I, I_P, I_F, P_N, P_I, P_P, P_F, hb, hb0, hz, hz0, f73]) (by decide) (by decide) (by simp [n_N, n_I, n_P, n_F, kd_N, kd_I, kd_P, kd_F, ln_N, ln_I, ln_P, ln_F, I_N, I_I, I_P, I_F, P_N, P_I, P_P, P_F, hb, hb0, hz, hz0, f71]) ?_
  refine rn_t (by decide) ?_
  try unfold fn_Reader_takeLetter_J26
  refine rn_gR (r := (some (n0 + 27))) (by simp [n_N, n_I, n_P, n_F, kd_N, kd_I, kd_P, kd_F, ln_N, ln_I, ln_P, ln_F, I_N, I_I, I_P, I_F, P_N, P_I, P_P, P_F, hb, hb0, hz, hz0, f70]) (by simp [n_N, n_I, n_P, n_F, kd_N, kd_I, kd_P, kd_F, ln_N, ln_I, ln_P, ln_F, I_N, I_I, I_P, I_F, P_N, P_I, P_P, P_F, hb, hb0, hz, hz0, f67]) ?_
  refine rn_gI (x := (0 : Int32)) (by simp [n_N, n_I, n_P, n_F, kd_N, kd_I, kd_P, kd_F, ln_N, ln_I, ln_P, ln_F, I_N, I_I, I_P, I_F, P_N, P_I, P_P, P_F, hb, hb0, hz, hz0, f70]) (by simp [n_N, n_I, n_P, n_F, kd_N, kd_I, kd_P, kd_F, ln_N, ln_I, ln_P, ln_F, I_N, I_I, I_P, I_F, P_N, P_I, P_P, P_F, hb, hb0, hz, hz0, f63]) ?_
  refine rn_sI (n := 141) (k := 0) (by simp [n_N, n_I, n_P, n_F, kd_N, kd_I, kd_P, kd_F, ln_N, ln_I, ln_P, ln_F, I_N, I_I, I_P, I_F, P_N, P_I, P_P, P_F, hb, hb0, hz, hz0, f72]) (by simp [n_N, n_I, n_P, n_F, kd_N, kd_I, kd_P, kd_F, ln_N, ln_I, ln_P, ln_F, I_N, I_I, I_P, I_F, P_N, P_I, P_P, P_F, hb, hb0, hz, hz0, f73]) (by decide) (by decide) ?_
  refine rn_ret ?_
  refine rn_bnd (rn_new (a := (n0 + 85)) (by simp only [n_N, n_I, n_P, n_F, hn]) ?_)
  refine rn_bnd (rn_cI ?_)
  try unfold fn_Bounds_init
  refine rn_bnd (rn_na (a := (n0 + 86)) (n := 3) (rfl) (by decide) (by decide) ?_)
  refine rn_pR (by simp [n_N, n_I, n_P, n_F, kd_N, kd_I, kd_P, kd_F, ln_N, ln_I, ln_P, ln_F, I_N, I_I, I_P, I_F, P_N, P_I, P_P, P_F, hb, hb0, hz, hz0]) ?_
  refine rn_bnd (rn_na (a := (n0 + 87)) (n := 3) (rfl) (by decide) (by decide) ?_)
  refine rn_pR (by simp [n_N, n_I, n_P, n_F, kd_N, kd_I, kd_P, kd_F, ln_N, ln_I, ln_P, ln_F, I_N, I_I, I_P, I_F, P_N, P_I, P_P, P_F, hb, hb0, hz, hz0]) ?_
  refine rn_ret ?_
  refine rn_bnd (rn_cV (by simp [n_N, n_I, n_P, n_F, kd_N, kd_I, kd_P, kd_F, ln_N, ln_I, ln_P, ln_F, I_N, I_I, I_P, I_F, P_N, P_I, P_P, P_F, hb, hb0, hz, hz0, f70]) ?_)
  try unfold fn_Reader_readBounds
  refine rn_gR (r := (some (n0 + 27))) (by simp [n_N, n_I, n_P, n_F, kd_N, kd_I, kd_P, kd_F, ln_N, ln_I, ln_P, ln_F, I_N, I_I, I_P, I_F, P_N, P_I, P_P, P_F, hb, hb0, hz, hz0, f70]) (by simp [n_N, n_I, n_P, n_F, kd_N, kd_I, kd_P, kd_F, ln_N, ln_I, ln_P, ln_F, I_N, I_I, I_P, I_F, P_N, P_I, P_P, P_F, hb, hb0, hz, hz0, f67]) ?_
  refine rn_gI (x := (0 : Int32)) (by simp [n_N, n_I, n_P, n_F, kd_N, kd_I, kd_P, kd_F, ln_N, ln_I, ln_P, ln_F, I_N, I_I, I_P, I_F, P_N, P_I, P_P, P_F, hb, hb0, hz, hz0, f70]) (by simp [n_N, n_I, n_P, n_F, kd_N, kd_I, kd_P, kd_F, ln_N, ln_I, ln_P, ln_F, I_N, I_I, I_P, I_F, P_N, P_I, P_P, P_F, hb, hb0, hz, hz0, f63]) ?_
  refine rn_aI (n := 141) (k := 0) (x := (1 : Int32)) (by simp [n_N, n_I, n_P, n_F, kd_N, kd_I, kd_P, kd_F, ln_N, ln_I, ln_P, ln_F, I_N, I_I, I_P, I_F, P_N, P_I, P_P, P_F, hb, hb0, hz, hz0, f72]) (by simp [n_N, n_I, n_P, n_F, kd_N, kd_I, kd_P, kd_F, ln_N, ln_I, ln_P, ln_F, I_N, I_I, I_P, I_F, P_N, P_I, P_P, P_F, hb, hb0, hz, hz0, f73]) (by decide) (by decide) (by simp [n_N, n_I, n_P, n_F, kd_N, kd_I, kd_P, kd_F, ln_N, ln_I, ln_P, ln_F, I_N, I_I, I_P, I_F, P_N, P_I, P_P, P_F, hb, hb0, hz, hz0, f71]) ?_
  refine rn_f (by decide) ?_
  refine rn_ret ?_
  refine rn_bnd (rn_cV (by simp [n_N, n_I, n_P, n_F, kd_N, kd_I, kd_P, kd_F, ln_N, ln_I, ln_P, ln_F, I_N, I_I, I_P, I_F, P_N, P_I, P_P, P_F, hb, hb0, hz, hz0, f70]) ?_)
  try unfold fn_Reader_take
  refine rn_gR (r := (some (n0 + 27))) (by simp [n_N, n_I, n_P, n_F, kd_N, kd_I, kd_P, kd_F, ln_N, ln_I, ln_P, ln_F, I_N, I_I, I_P, I_F, P_N, P_I, P_P, P_F, hb, hb0, hz, hz0, f70]) (by simp [n_N, n_I, n_P, n_F, kd_N, kd_I, kd_P, kd_F, ln_N, ln_I, ln_P, ln_F, I_N, I_I, I_P, I_F, P_N, P_I, P_P, P_F, hb, hb0, hz, hz0, f67]) ?_
  refine rn_gI (x := (0 : Int32)) (by simp [n_N, n_I, n_P, n_F, kd_N, kd_I, kd_P, kd_F, ln_N, ln_I, ln_P, ln_F, I_N, I_I, I_P, I_F, P_N, P_I, P_P, P_F, hb, hb0, hz, hz0, f70]) (by simp [n_N, n_I, n_P, n_F, kd_N, kd_I, kd_P, kd_F, ln_N, ln_I, ln_P, ln_F, I_N, I_I, I_P, I_F, P_N, P_I, P_P, P_F, hb, hb0, hz, hz0, f63]) ?_
  refine rn_aI (n := 141) (k := 0) (x := (1 : Int32)) (by simp [n_N, n_I, n_P, n_F, kd_N, kd_I, kd_P, kd_F, ln_N, ln_I, ln_P, ln_F, I_N, I_I, I_P, I_F, P_N, P_I, P_P, P_F, hb, hb0, hz, hz0, f72]) (by simp [n_N, n_I, n_P, n_F, kd_N, kd_I, kd_P, kd_F, ln_N, ln_I, ln_P, ln_F, I_N, I_I, I_P, I_F, P_N, P_I, P_P, P_F, hb, hb0, hz, hz0, f73]) (by decide) (by decide) (by simp [n_N, n_I, n_P, n_F, kd_N, kd_I, kd_P, kd_F, ln_N, ln_I, ln_P, ln_F, I_N, I_I, I_P, I_F, P_N, P_I, P_P, P_F, hb, hb0, hz, hz0, f71]) ?_
  refine rn_f (by decide) ?_
  refine rn_gR (r := (some (n0 + 27))) (by simp [n_N, n_I, n_P, n_F, kd_N, kd_I, kd_P, kd_F, ln_N, ln_I, ln_P, ln_F, I_N, I_I, I_P, I_F, P_N, P_I, P_P, P_F, hb, hb0, hz, hz0, f70]) (by simp [n_N, n_I, n_P, n_F, kd_N, kd_I, kd_P, kd_F, ln_N, ln_I, ln_P, ln_F, I_N, I_I, I_P, I_F, P_N, P_I, P_P, P_F, hb, hb0, hz, hz0, f67]) ?_
  refine rn_gI (x := (0 : Int32)) (by simp [n_N, n_I, n_P, n_F, kd_N, kd_I, kd_P, kd_F, ln_N, ln_I, ln_P, ln_F, I_N, I_I, I_P, I_F, P_N, P_I, P_P, P_F, hb, hb0, hz, hz0, f70]) (by simp [n_N, n_I, n_P, n_F, kd_N, kd_I, kd_P, kd_F, ln_N, ln_I, ln_P, ln_F, I_N, I_I, I_P, I_F, P_N, P_I, P_P, P_F, hb, hb0, hz, hz0, f63]) ?_
  refine rn_sI (n := 141) (k := 0) (by simp [n_N, n_I, n_P, n_F, kd_N, kd_I, kd_P, kd_F, ln_N, ln_I, ln_P, ln_F, I_N, I_I, I_P, I_F, P_N, P_I, P_P, P_F, hb, hb0, hz, hz0, f72]) (by simp [n_N, n_I, n_P, n_F, kd_N, kd_I, kd_P, kd_F, ln_N, ln_I, ln_P, ln_F, I_N, I_I, I_P, I_F, P_N, P_I, P_P, P_F, hb, hb0, hz, hz0, f73]) (by decide) (by decide) ?_
  refine rn_ret ?_
  refine rn_bnd (rn_cV (by simp [n_N, n_I, n_P, n_F, kd_N, kd_I, kd_P, kd_F, ln_N, ln_I, ln_P, ln_F, I_N, I_I, I_P, I_F, P_N, P_I, P_P, P_F, hb, hb0, hz, hz0, f70]) ?_)
  try unfold fn_Reader_readType
  refine rn_t (by decide) ?_
  try unfold fn_Reader_readType_J57
  refine rn_bnd (rn_cV (by simp [n_N, n_I, n_P, n_F, kd_N, kd_I, kd_P, kd_F, ln_N, ln_I, ln_P, ln_F, I_N, I_I, I_P, I_F, P_N, P_I, P_P, P_F, hb, hb0, hz, hz0, f70]) ?_)
  try unfold fn_Reader_takeLetter
  refine rn_gR (r := (some (n0 + 27))) (by simp [n_N, n_I, n_P, n_F, kd_N, kd_I, kd_P, kd_F, ln_N, ln_I, ln_P, ln_F, I_N, I_I, I_P, I_F, P_N, P_I, P_P, P_F, hb, hb0, hz, hz0, f70]) (by simp [n_N, n_I, n_P, n_F, kd_N, kd_I, kd_P, kd_F, ln_N, ln_I, ln_P, ln_F, I_N, I_I, I_P, I_F, P_N, P_I, P_P, P_F, hb, hb0, hz, hz0, f67]) ?_
  refine rn_gI (x := (0 : Int32)) (by simp [n_N, n_I, n_P, n_F, kd_N, kd_I, kd_P, kd_F, ln_N, ln_I, ln_P, ln_F, I_N, I_I, I_P, I_F, P_N, P_I, P_P, P_F, hb, hb0, hz, hz0, f70]) (by simp [n_N, n_I, n_P, n_F, kd_N, kd_I, kd_P, kd_F, ln_N, ln_I, ln_P, ln_F, I_N, I_I, I_P, I_F, P_N, P_I, P_P, P_F, hb, hb0, hz, hz0, f63]) ?_
  refine rn_aI (n := 141) (k := 0) (x := (1 : Int32)) (by simp [n_N, n_I, n_P, n_F, kd_N, kd_I, kd_P, kd_F, ln_N, ln_I, ln_P, ln_F, I_N, I_I, I_P, I_F, P_N, P_I, P_P, P_F, hb, hb0, hz, hz0, f72]) (by simp [n_N, n_I, n_P, n_F, kd_N, kd_I, kd_P, kd_F, ln_N, ln_I, ln_P, ln_F, I_N, I_I, I_P, I_F, P_N, P_I, P_P, P_F, hb, hb0, hz, hz0, f73]) (by decide) (by decide) (by simp [n_N, n_I, n_P, n_F, kd_N, kd_I, kd_P, kd_F, ln_N, ln_I, ln_P, ln_F, I_N, I_I, I_P, I_F, P_N, P_I, P_P, P_F, hb, hb0, hz, hz0, f71]) ?_
  refine rn_t (by decide) ?_
  try unfold fn_Reader_takeLetter_J26
  refine rn_gR (r := (some (n0 + 27))) (by simp [n_N, n_I, n_P, n_F, kd_N, kd_I, kd_P, kd_F, ln_N, ln_I, ln_P, ln_F, I_N, I_I, I_P, I_F, P_N, P_I, P_P, P_F, hb, hb0, hz, hz0, f70]) (by simp [n_N, n_I, n_P, n_F, kd_N, kd_I, kd_P, kd_F, ln_N, ln_I, ln_P, ln_F, I_N, I_I, I_P, I_F, P_N, P_I, P_P, P_F, hb, hb0, hz, hz0, f67]) ?_
  refine rn_gI (x := (0 : Int32)) (by simp [n_N, n_I, n_P, n_F, kd_N, kd_I, kd_P, kd_F, ln_N, ln_I, ln_P, ln_F, I_N, I_I, I_P, I_F, P_N, P_I, P_P, P_F, hb, hb0, hz, hz0, f70]) (by simp [n_N, n_I, n_P, n_F, kd_N, kd_I, kd_P, kd_F, ln_N, ln_I, ln_P, ln_F, I_N, I_I, I_P, I_F, P_N, P_I, P_P, P_F, hb, hb0, hz, hz0, f63]) ?_
  refine rn_sI (n := 141) (k := 0) (by simp [n_N, n_I, n_P, n_F, kd_N, kd_I, kd_P, kd_F, ln_N, ln_I, ln_P, ln_F, I_N, I_I, I_P, I_F, P_N, P_I, P_P, P_F, hb, hb0, hz, hz0, f72]) (by simp [n_N, n_I, n_P, n_F, kd_N, kd_I, kd_P, kd_F, ln_N, ln_I, ln_P, ln_F, I_N, I_I, I_P, I_F, P_N, P_I, P_P, P_F, hb, hb0, hz, hz0, f73]) (by decide) (by decide) ?_
  refine rn_ret ?_
  refine rn_gR (r := (some (n0 + 27))) (by simp [n_N, n_I, n_P, n_F, kd_N, kd_I, kd_P, kd_F, ln_N, ln_I, ln_P, ln_F, I_N, I_I, I_P, I_F, P_N, P_I, P_P, P_F, hb, hb0, hz, hz0, f70]) (by simp [n_N, n_I, n_P, n_F, kd_N, kd_I, kd_P, kd_F, ln_N, ln_I, ln_P, ln_F, I_N, I_I, I_P, I_F, P_N, P_I, P_P, P_F, hb, hb0, hz, hz0, f67]) ?_
  refine rn_gI (x := (0 : Int32)) (by simp [n_N, n_I, n_P, n_F, kd_N, kd_I, kd_P, kd_F, ln_N, ln_I, ln_P, ln_F, I_N, I_I, I_P, I_F, P_N, P_I, P_P, P_F, hb, hb0, hz, hz0, f70]) (by simp [n_N, n_I, n_P, n_F, kd_N, kd_I, kd_P, kd_F, ln_N, ln_I, ln_P, ln_F, I_N, I_I, I_P, I_F, P_N, P_I, P_P, P_F, hb, hb0, hz, hz0, f63]) ?_
  refine rn_aI (n := 141) (k := 0) (x := (1 : Int32)) (by simp [n_N, n_I, n_P, n_F, kd_N, kd_I, kd_P, kd_F, ln_N, ln_I, ln_P, ln_F, I_N, I_I, I_P, I_F, P_N, P_I, P_P, P_F, hb, hb0, hz, hz0, f72]) (by simp [n_N, n_I, n_P, n_F, kd_N, kd_I, kd_P, kd_F, ln_N, ln_I, ln_P, ln_F, I_N, I_I, I_P, I_F, P_N, P_I, P_P, P_F, hb, hb0, hz, hz0, f73]) (by decide) (by decide) (by simp [n_N, n_I, n_P, n_F, kd_N, kd_I, kd_P, kd_F, ln_N, ln_I, ln_P, ln_F, I_N, I_I, I_P, I_F, P_N, P_I, P_P, P_F, hb, hb0, hz, hz0, f71]) ?_
  refine rn_f (by decide) ?_
  refine rn_gR (r := (some (n0 + 2))) (by simp [n_N, n_I, n_P, n_F, kd_N, kd_I, kd_P, kd_F, ln_N, ln_I, ln_P, ln_F, I_N, I_I, I_P, I_F, P_N, P_I, P_P, P_F, hb, hb0, hz, hz0, f70]) (by simp [n_N, n_I, n_P, n_F, kd_N, kd_I, kd_P, kd_F, ln_N, ln_I, ln_P, ln_F, I_N, I_I, I_P, I_F, P_N, P_I, P_P, P_F, hb, hb0, hz, hz0, f65]) ?_
  refine rn_bnd (rn_cV (by simp [n_N, n_I, n_P, n_F, kd_N, kd_I, kd_P, kd_F, ln_N, ln_I, ln_P, ln_F, I_N, I_I, I_P, I_F, P_N, P_I, P_P, P_F, hb, hb0, hz, hz0, f17]) ?_)
  try unfold fn_Types_classType
  refine rn_gR (r := (some (n0 + 8))) (by simp [n_N, n_I, n_P, n_F, kd_N, kd_I, kd_P, kd_F, ln_N, ln_I, ln_P, ln_F, I_N, I_I, I_P, I_F, P_N, P_I, P_P, P_F, hb, hb0, hz, hz0, f17]) (by simp [n_N, n_I, n_P, n_F, kd_N, kd_I, kd_P, kd_F, ln_N, ln_I, ln_P, ln_F, I_N, I_I, I_P, I_F, P_N, P_I, P_P, P_F, hb, hb0, hz, hz0, f16]) ?_
  refine rn_aI (n := 1024) (k := 992) (x := (-1 : Int32)) (by simp [n_N, n_I, n_P, n_F, kd_N, kd_I, kd_P, kd_F, ln_N, ln_I, ln_P, ln_F, I_N, I_I, I_P, I_F, P_N, P_I, P_P, P_F, hb, hb0, hz, hz0, f36]) (by simp [n_N, n_I, n_P, n_F, kd_N, kd_I, kd_P, kd_F, ln_N, ln_I, ln_P, ln_F, I_N, I_I, I_P, I_F, P_N, P_I, P_P, P_F, hb, hb0, hz, hz0, f37]) (by decide) (by decide) (by simp [n_N, n_I, n_P, n_F, kd_N, kd_I, kd_P, kd_F, ln_N, ln_I, ln_P, ln_F, I_N, I_I, I_P, I_F, P_N, P_I, P_P, P_F, hb, hb0, hz, hz0, f35]) ?_
  refine rn_lpv (s := ((-1 : Int32), (0 : Int32))) (by first | rfl | decide) ?_
  refine rn_lp (m := 1999999) ?_
  rw [fn_Types_classType_B48]
  refine rn_gI (x := (8 : Int32)) (by simp [n_N, n_I, n_P, n_F, kd_N, kd_I, kd_P, kd_F, ln_N, ln_I, ln_P, ln_F, I_N, I_I, I_P, I_F, P_N, P_I, P_P, P_F, hb, hb0, hz, hz0, f17]) (by simp [n_N, n_I, n_P, n_F, kd_N, kd_I, kd_P, kd_F, ln_N, ln_I, ln_P, ln_F, I_N, I_I, I_P, I_F, P_N, P_I, P_P, P_F, hb, hb0, hz, hz0, f10]) ?_
  refine rn_f (by decide) ?_
  refine rn_t (by decide) ?_
  try unfold fn_Types_classType_J136
  refine rn_gI (x := (8 : Int32)) (by simp [n_N, n_I, n_P, n_F, kd_N, kd_I, kd_P, kd_F, ln_N, ln_I, ln_P, ln_F, I_N, I_I, I_P, I_F, P_N, P_I, P_P, P_F, hb, hb0, hz, hz0, f17]) (by simp [n_N, n_I, n_P, n_F, kd_N, kd_I, kd_P, kd_F, ln_N, ln_I, ln_P, ln_F, I_N, I_I, I_P, I_F, P_N, P_I, P_P, P_F, hb, hb0, hz, hz0, f10]) ?_
  refine rn_gR (r := (some (n0 + 3))) (by simp [n_N, n_I, n_P, n_F, kd_N, kd_I, kd_P, kd_F, ln_N, ln_I, ln_P, ln_F, I_N, I_I, I_P, I_F, P_N, P_I, P_P, P_F, hb, hb0, hz, hz0, f17]) (by simp [n_N, n_I, n_P, n_F, kd_N, kd_I, kd_P, kd_F, ln_N, ln_I, ln_P, ln_F, I_N, I_I, I_P, I_F, P_N, P_I, P_P, P_F, hb, hb0, hz, hz0, f11]) ?_
  refine rn_al (x := (512 : Int32)) (by simp [n_N, n_I, n_P, n_F, kd_N, kd_I, kd_P, kd_F, ln_N, ln_I, ln_P, ln_F, I_N, I_I, I_P, I_F, P_N, P_I, P_P, P_F, hb, hb0, hz, hz0, f19]) (by simp [n_N, n_I, n_P, n_F, kd_N, kd_I, kd_P, kd_F, ln_N, ln_I, ln_P, ln_F, I_N, I_I, I_P, I_F, P_N, P_I, P_P, P_F, hb, hb0, hz, hz0, f20]) ?_
  refine rn_t (by decide) ?_
  refine rn_gI (x := (8 : Int32)) (by simp [n_N, n_I, n_P, n_F, kd_N, kd_I, kd_P, kd_F, ln_N, ln_I, ln_P, ln_F, I_N, I_I, I_P, I_F, P_N, P_I, P_P, P_F, hb, hb0, hz, hz0, f17]) (by simp [n_N, n_I, n_P, n_F, kd_N, kd_I, kd_P, kd_F, ln_N, ln_I, ln_P, ln_F, I_N, I_I, I_P, I_F, P_N, P_I, P_P, P_F, hb, hb0, hz, hz0, f10]) ?_
  refine rn_gR (r := (some (n0 + 3))) (by simp [n_N, n_I, n_P, n_F, kd_N, kd_I, kd_P, kd_F, ln_N, ln_I, ln_P, ln_F, I_N, I_I, I_P, I_F, P_N, P_I, P_P, P_F, hb, hb0, hz, hz0, f17]) (by simp [n_N, n_I, n_P, n_F, kd_N, kd_I, kd_P, kd_F, ln_N, ln_I, ln_P, ln_F, I_N, I_I, I_P, I_F, P_N, P_I, P_P, P_F, hb, hb0, hz, hz0, f11]) ?_
  refine rn_sI (n := 512) (k := 8) (by simp [n_N, n_I, n_P, n_F, kd_N, kd_I, kd_P, kd_F, ln_N, ln_I, ln_P, ln_F, I_N, I_I, I_P, I_F, P_N, P_I, P_P, P_F, hb, hb0, hz, hz0, f19]) (by simp [n_N, n_I, n_P, n_F, kd_N, kd_I, kd_P, kd_F, ln_N, ln_I, ln_P, ln_F, I_N, I_I, I_P, I_F, P_N, P_I, P_P, P_F, hb, hb0, hz, hz0, f20]) (by decide) (by decide) ?_
  refine rn_gR (r := (some (n0 + 4))) (by simp [n_N, n_I, n_P, n_F, kd_N, kd_I, kd_P, kd_F, ln_N, ln_I, ln_P, ln_F, I_N, I_I, I_P, I_F, P_N, P_I, P_P, P_F, hb, hb0, hz, hz0, f17]) (by simp [n_N, n_I, n_P, n_F, kd_N, kd_I, kd_P, kd_F, ln_N, ln_I, ln_P, ln_F, I_N, I_I, I_P, I_F, P_N, P_I, P_P, P_F, hb, hb0, hz, hz0, f12]) ?_
  refine rn_sI (n := 1536) (k := 24) (by simp [n_N, n_I, n_P, n_F, kd_N, kd_I, kd_P, kd_F, ln_N, ln_I, ln_P, ln_F, I_N, I_I, I_P, I_F, P_N, P_I, P_P, P_F, hb, hb0, hz, hz0, f24]) (by simp [n_N, n_I, n_P, n_F, kd_N, kd_I, kd_P, kd_F, ln_N, ln_I, ln_P, ln_F, I_N, I_I, I_P, I_F, P_N, P_I, P_P, P_F, hb, hb0, hz, hz0, f25]) (by decide) (by decide) ?_
  refine rn_gR (r := (some (n0 + 4))) (by simp [n_N, n_I, n_P, n_F, kd_N, kd_I, kd_P, kd_F, ln_N, ln_I, ln_P, ln_F, I_N, I_I, I_P, I_F, P_N, P_I, P_P, P_F, hb, hb0, hz, hz0, f17]) (by simp [n_N, n_I, n_P, n_F, kd_N, kd_I, kd_P, kd_F, ln_N, ln_I, ln_P, ln_F, I_N, I_I, I_P, I_F, P_N, P_I, P_P, P_F, hb, hb0, hz, hz0, f12]) ?_
  refine rn_sI (n := 1536) (k := 25) (by simp [n_N, n_I, n_P, n_F, kd_N, kd_I, kd_P, kd_F, ln_N, ln_I, ln_P, ln_F, I_N, I_I, I_P, I_F, P_N, P_I, P_P, P_F, hb, hb0, hz, hz0, f24]) (by simp [n_N, n_I, n_P, n_F, kd_N, kd_I, kd_P, kd_F, ln_N, ln_I, ln_P, ln_F, I_N, I_I, I_P, I_F, P_N, P_I, P_P, P_F, hb, hb0, hz, hz0, f25]) (by decide) (by decide) ?_
  refine rn_gR (r := (some (n0 + 4))) (by simp [n_N, n_I, n_P, n_F, kd_N, kd_I, kd_P, kd_F, ln_N, ln_I, ln_P, ln_F, I_N, I_I, I_P, I_F, P_N, P_I, P_P, P_F, hb, hb0, hz, hz0, f17]) (by simp [n_N, n_I, n_P, n_F, kd_N, kd_I, kd_P, kd_F, ln_N, ln_I, ln_P, ln_F, I_N, I_I, I_P, I_F, P_N, P_I, P_P, P_F, hb, hb0, hz, hz0, f12]) ?_
  refine rn_sI (n := 1536) (k := 26) (by simp [n_N, n_I, n_P, n_F, kd_N, kd_I, kd_P, kd_F, ln_N, ln_I, ln_P, ln_F, I_N, I_I, I_P, I_F, P_N, P_I, P_P, P_F, hb, hb0, hz, hz0, f24]) (by simp [n_N, n_I, n_P, n_F, kd_N, kd_I, kd_P, kd_F, ln_N, ln_I, ln_P, ln_F, I_N, I_I, I_P, I_F, P_N, P_I, P_P, P_F, hb, hb0, hz, hz0, f25]) (by decide) (by decide) ?_
  refine rn_gR (r := (some (n0 + 5))) (by simp [n_N, n_I, n_P, n_F, kd_N, kd_I, kd_P, kd_F, ln_N, ln_I, ln_P, ln_F, I_N, I_I, I_P, I_F, P_N, P_I, P_P, P_F, hb, hb0, hz, hz0, f17]) (by simp [n_N, n_I, n_P, n_F, kd_N, kd_I, kd_P, kd_F, ln_N, ln_I, ln_P, ln_F, I_N, I_I, I_P, I_F, P_N, P_I, P_P, P_F, hb, hb0, hz, hz0, f13]) ?_
  refine rn_sI (n := 512) (k := 8) (by simp [n_N, n_I, n_P, n_F, kd_N, kd_I, kd_P, kd_F, ln_N, ln_I, ln_P, ln_F, I_N, I_I, I_P, I_F, P_N, P_I, P_P, P_F, hb, hb0, hz, hz0, f27]) (by simp [n_N, n_I, n_P, n_F, kd_N, kd_I, kd_P, kd_F, ln_N, ln_I, ln_P, ln_F, I_N, I_I, I_P, I_F, P_N, P_I, P_P, P_F, hb, hb0, hz, hz0, f28]) (by decide) (by decide) ?_
  refine rn_lpv (s := (0 : Int32)) (by first | rfl | decide) ?_
  refine rn_lp (m := 1999999) ?_
  rw [fn_Types_classType_B215]
  refine rn_f (by decide) ?_
  refine rn_gR (r := (some (n0 + 5))) (by simp [n_N, n_I, n_P, n_F, kd_N, kd_I, kd_P, kd_F, ln_N, ln_I, ln_P, ln_F, I_N, I_I, I_P, I_F, P_N, P_I, P_P, P_F, hb, hb0, hz, hz0, f17]) (by simp [n_N, n_I, n_P, n_F, kd_N, kd_I, kd_P, kd_F, ln_N, ln_I, ln_P, ln_F, I_N, I_I, I_P, I_F, P_N, P_I, P_P, P_F, hb, hb0, hz, hz0, f13]) ?_
  refine rn_aI (n := 512) (k := 8) (x := (256 : Int32)) (by simp [n_N, n_I, n_P, n_F, kd_N, kd_I, kd_P, kd_F, ln_N, ln_I, ln_P, ln_F, I_N, I_I, I_P, I_F, P_N, P_I, P_P, P_F, hb, hb0, hz, hz0, f27]) (by simp [n_N, n_I, n_P, n_F, kd_N, kd_I, kd_P, kd_F, ln_N, ln_I, ln_P, ln_F, I_N, I_I, I_P, I_F, P_N, P_I, P_P, P_F, hb, hb0, hz, hz0, f28]) (by decide) (by decide) (by simp [n_N, n_I, n_P, n_F, kd_N, kd_I, kd_P, kd_F, ln_N, ln_I, ln_P, ln_F, I_N, I_I, I_P, I_F, P_N, P_I, P_P, P_F, hb, hb0, hz, hz0, f26]) ?_
  refine rn_gR (r := (some (n0 + 4))) (by simp [n_N, n_I, n_P, n_F, kd_N, kd_I, kd_P, kd_F, ln_N, ln_I, ln_P, ln_F, I_N, I_I, I_P, I_F, P_N, P_I, P_P, P_F, hb, hb0, hz, hz0, f17]) (by simp [n_N, n_I, n_P, n_F, kd_N, kd_I, kd_P, kd_F, ln_N, ln_I, ln_P, ln_F, I_N, I_I, I_P, I_F, P_N, P_I, P_P, P_F, hb, hb0, hz, hz0, f12]) ?_
  refine rn_aI (n := 1536) (k := 24) (x := (-1 : Int32)) (by simp [n_N, n_I, n_P, n_F, kd_N, kd_I, kd_P, kd_F, ln_N, ln_I, ln_P, ln_F, I_N, I_I, I_P, I_F, P_N, P_I, P_P, P_F, hb, hb0, hz, hz0, f24]) (by simp [n_N, n_I, n_P, n_F, kd_N, kd_I, kd_P, kd_F, ln_N, ln_I, ln_P, ln_F, I_N, I_I, I_P, I_F, P_N, P_I, P_P, P_F, hb, hb0, hz, hz0, f25]) (by decide) (by decide) (by simp [n_N, n_I, n_P, n_F, kd_N, kd_I, kd_P, kd_F, ln_N, ln_I, ln_P, ln_F, I_N, I_I, I_P, I_F, P_N, P_I, P_P, P_F, hb, hb0, hz, hz0, f21]) ?_
  refine rn_t (by decide) ?_
  try unfold fn_Types_classType_J275
  try unfold fn_Types_classType_J276
  refine rn_sI (n := 512) (k := 8) (by simp [n_N, n_I, n_P, n_F, kd_N, kd_I, kd_P, kd_F, ln_N, ln_I, ln_P, ln_F, I_N, I_I, I_P, I_F, P_N, P_I, P_P, P_F, hb, hb0, hz, hz0, f27]) (by simp [n_N, n_I, n_P, n_F, kd_N, kd_I, kd_P, kd_F, ln_N, ln_I, ln_P, ln_F, I_N, I_I, I_P, I_F, P_N, P_I, P_P, P_F, hb, hb0, hz, hz0, f28]) (by decide) (by decide) ?_
  refine rn_lpv (s := (1 : Int32)) (by first | rfl | decide) ?_
  refine rn_lp (m := 1999998) ?_
  rw [fn_Types_classType_B215]
  refine rn_f (by decide) ?_
  refine rn_gR (r := (some (n0 + 5))) (by simp [n_N, n_I, n_P, n_F, kd_N, kd_I, kd_P, kd_F, ln_N, ln_I, ln_P, ln_F, I_N, I_I, I_P, I_F, P_N, P_I, P_P, P_F, hb, hb0, hz, hz0, f17]) (by simp [n_N, n_I, n_P, n_F, kd_N, kd_I, kd_P, kd_F, ln_N, ln_I, ln_P, ln_F, I_N, I_I, I_P, I_F, P_N, P_I, P_P, P_F, hb, hb0, hz, hz0, f13]) ?_
  refine rn_aI (n := 512) (k := 8) (x := (256 : Int32)) (by simp [n_N, n_I, n_P, n_F, kd_N, kd_I, kd_P, kd_F, ln_N, ln_I, ln_P, ln_F, I_N, I_I, I_P, I_F, P_N, P_I, P_P, P_F, hb, hb0, hz, hz0, f27]) (by simp [n_N, n_I, n_P, n_F, kd_N, kd_I, kd_P, kd_F, ln_N, ln_I, ln_P, ln_F, I_N, I_I, I_P, I_F, P_N, P_I, P_P, P_F, hb, hb0, hz, hz0, f28]) (by decide) (by decide) (by simp [n_N, n_I, n_P, n_F, kd_N, kd_I, kd_P, kd_F, ln_N, ln_I, ln_P, ln_F, I_N, I_I, I_P, I_F, P_N, P_I, P_P, P_F, hb, hb0, hz, hz0, f26]) ?_
  refine rn_gR (r := (some (n0 + 4))) (by simp [n_N, n_I, n_P, n_F, kd_N, kd_I, kd_P, kd_F, ln_N, ln_I, ln_P, ln_F, I_N, I_I, I_P, I_F, P_N, P_I, P_P, P_F, hb, hb0, hz, hz0, f17]) (by simp [n_N, n_I, n_P, n_F, kd_N, kd_I, kd_P, kd_F, ln_N, ln_I, ln_P, ln_F, I_N, I_I, I_P, I_F, P_N, P_I, P_P, P_F, hb, hb0, hz, hz0, f12]) ?_
  refine rn_aI (n := 1536) (k := 25) (x := (-1 : Int32)) (by simp [n_N, n_I, n_P, n_F, kd_N, kd_I, kd_P, kd_F, ln_N, ln_I, ln_P, ln_F, I_N, I_I, I_P, I_F, P_N, P_I, P_P, P_F, hb, hb0, hz, hz0, f24]) (by simp [n_N, n_I, n_P, n_F, kd_N, kd_I, kd_P, kd_F, ln_N, ln_I, ln_P, ln_F, I_N, I_I, I_P, I_F, P_N, P_I, P_P, P_F, hb, hb0, hz, hz0, f25]) (by decide) (by decide) (by simp [n_N, n_I, n_P, n_F, kd_N, kd_I, kd_P, kd_F, ln_N, ln_I, ln_P, ln_F, I_N, I_I, I_P, I_F, P_N, P_I, P_P, P_F, hb, hb0, hz, hz0, f22]) ?_
  refine rn_t (by decide) ?_
  try unfold fn_Types_classType_J275
  try unfold fn_Types_classType_J276
  refine rn_sI (n := 512) (k := 8) (by simp [n_N, n_I, n_P, n_F, kd_N, kd_I, kd_P, kd_F, ln_N, ln_I, ln_P, ln_F, I_N, I_I, I_P, I_F, P_N, P_I, P_P, P_F, hb, hb0, hz, hz0, f27]) (by simp [n_N, n_I, n_P, n_F, kd_N, kd_I, kd_P, kd_F, ln_N, ln_I, ln_P, ln_F, I_N, I_I, I_P, I_F, P_N, P_I, P_P, P_F, hb, hb0, hz, hz0, f28]) (by decide) (by decide) ?_
  refine rn_lpv (s := (2 : Int32)) (by first | rfl | decide) ?_
  refine rn_lp (m := 1999997) ?_
  rw [fn_Types_classType_B215]
  refine rn_f (by decide) ?_
  refine rn_gR (r := (some (n0 + 5))) (by simp [n_N, n_I, n_P, n_F, kd_N, kd_I, kd_P, kd_F, ln_N, ln_I, ln_P, ln_F, I_N, I_I, I_P, I_F, P_N, P_I, P_P, P_F, hb, hb0, hz, hz0, f17]) (by simp [n_N, n_I, n_P, n_F, kd_N, kd_I, kd_P, kd_F, ln_N, ln_I, ln_P, ln_F, I_N, I_I, I_P, I_F, P_N, P_I, P_P, P_F, hb, hb0, hz, hz0, f13]) ?_
  refine rn_aI (n := 512) (k := 8) (x := (256 : Int32)) (by simp [n_N, n_I, n_P, n_F, kd_N, kd_I, kd_P, kd_F, ln_N, ln_I, ln_P, ln_F, I_N, I_I, I_P, I_F, P_N, P_I, P_P, P_F, hb, hb0, hz, hz0, f27]) (by simp [n_N, n_I, n_P, n_F, kd_N, kd_I, kd_P, kd_F, ln_N, ln_I, ln_P, ln_F, I_N, I_I, I_P, I_F, P_N, P_I, P_P, P_F, hb, hb0, hz, hz0, f28]) (by decide) (by decide) (by simp [n_N, n_I, n_P, n_F, kd_N, kd_I, kd_P, kd_F, ln_N, ln_I, ln_P, ln_F, I_N, I_I, I_P, I_F, P_N, P_I, P_P, P_F, hb, hb0, hz, hz0, f26]) ?_
  refine rn_gR (r := (some (n0 + 4))) (by simp [n_N, n_I, n_P, n_F, kd_N, kd_I, kd_P, kd_F, ln_N, ln_I, ln_P, ln_F, I_N, I_I, I_P, I_F, P_N, P_I, P_P, P_F, hb, hb0, hz, hz0, f17]) (by simp [n_N, n_I, n_P, n_F, kd_N, kd_I, kd_P, kd_F, ln_N, ln_I, ln_P, ln_F, I_N, I_I, I_P, I_F, P_N, P_I, P_P, P_F, hb, hb0, hz, hz0, f12]) ?_
  refine rn_aI (n := 1536) (k := 26) (x := (-1 : Int32)) (by simp [n_N, n_I, n_P, n_F, kd_N, kd_I, kd_P, kd_F, ln_N, ln_I, ln_P, ln_F, I_N, I_I, I_P, I_F, P_N, P_I, P_P, P_F, hb, hb0, hz, hz0, f24]) (by simp [n_N, n_I, n_P, n_F, kd_N, kd_I, kd_P, kd_F, ln_N, ln_I, ln_P, ln_F, I_N, I_I, I_P, I_F, P_N, P_I, P_P, P_F, hb, hb0, hz, hz0, f25]) (by decide) (by decide) (by simp [n_N, n_I, n_P, n_F, kd_N, kd_I, kd_P, kd_F, ln_N, ln_I, ln_P, ln_F, I_N, I_I, I_P, I_F, P_N, P_I, P_P, P_F, hb, hb0, hz, hz0, f23]) ?_
  refine rn_t (by decide) ?_
  try unfold fn_Types_classType_J275
  try unfold fn_Types_classType_J276
  refine rn_sI (n := 512) (k := 8) (by simp [n_N, n_I, n_P, n_F, kd_N, kd_I, kd_P, kd_F, ln_N, ln_I, ln_P, ln_F, I_N, I_I, I_P, I_F, P_N, P_I, P_P, P_F, hb, hb0, hz, hz0, f27]) (by simp [n_N, n_I, n_P, n_F, kd_N, kd_I, kd_P, kd_F, ln_N, ln_I, ln_P, ln_F, I_N, I_I, I_P, I_F, P_N, P_I, P_P, P_F, hb, hb0, hz, hz0, f28]) (by decide) (by decide) ?_
  refine rn_lpv (s := (3 : Int32)) (by first | rfl | decide) ?_
  refine rn_lp (m := 1999996) ?_
  rw [fn_Types_classType_B215]
  refine rn_t (by decide) ?_
  refine rn_gR (r := (some (n0 + 6))) (by simp [n_N, n_I, n_P, n_F, kd_N, kd_I, kd_P, kd_F, ln_N, ln_I, ln_P, ln_F, I_N, I_I, I_P, I_F, P_N, P_I, P_P, P_F, hb, hb0, hz, hz0, f17]) (by simp [n_N, n_I, n_P, n_F, kd_N, kd_I, kd_P, kd_F, ln_N, ln_I, ln_P, ln_F, I_N, I_I, I_P, I_F, P_N, P_I, P_P, P_F, hb, hb0, hz, hz0, f14]) ?_
  refine rn_sI (n := 512) (k := 8) (by simp [n_N, n_I, n_P, n_F, kd_N, kd_I, kd_P, kd_F, ln_N, ln_I, ln_P, ln_F, I_N, I_I, I_P, I_F, P_N, P_I, P_P, P_F, hb, hb0, hz, hz0, f30]) (by simp [n_N, n_I, n_P, n_F, kd_N, kd_I, kd_P, kd_F, ln_N, ln_I, ln_P, ln_F, I_N, I_I, I_P, I_F, P_N, P_I, P_P, P_F, hb, hb0, hz, hz0, f31]) (by decide) (by decide) ?_
  refine rn_gR (r := (some (n0 + 7))) (by simp [n_N, n_I, n_P, n_F, kd_N, kd_I, kd_P, kd_F, ln_N, ln_I, ln_P, ln_F, I_N, I_I, I_P, I_F, P_N, P_I, P_P, P_F, hb, hb0, hz, hz0, f17]) (by simp [n_N, n_I, n_P, n_F, kd_N, kd_I, kd_P, kd_F, ln_N, ln_I, ln_P, ln_F, I_N, I_I, I_P, I_F, P_N, P_I, P_P, P_F, hb, hb0, hz, hz0, f15]) ?_
  refine rn_gR (r := (some (n0 + 8))) (by simp [n_N, n_I, n_P, n_F, kd_N, kd_I, kd_P, kd_F, ln_N, ln_I, ln_P, ln_F, I_N, I_I, I_P, I_F, P_N, P_I, P_P, P_F, hb, hb0, hz, hz0, f17]) (by simp [n_N, n_I, n_P, n_F, kd_N, kd_I, kd_P, kd_F, ln_N, ln_I, ln_P, ln_F, I_N, I_I, I_P, I_F, P_N, P_I, P_P, P_F, hb, hb0, hz, hz0, f16]) ?_
  refine rn_aI (n := 1024) (k := 992) (x := (-1 : Int32)) (by simp [n_N, n_I, n_P, n_F, kd_N, kd_I, kd_P, kd_F, ln_N, ln_I, ln_P, ln_F, I_N, I_I, I_P, I_F, P_N, P_I, P_P, P_F, hb, hb0, hz, hz0, f36]) (by simp [n_N, n_I, n_P, n_F, kd_N, kd_I, kd_P, kd_F, ln_N, ln_I, ln_P, ln_F, I_N, I_I, I_P, I_F, P_N, P_I, P_P, P_F, hb, hb0, hz, hz0, f37]) (by decide) (by decide) (by simp [n_N, n_I, n_P, n_F, kd_N, kd_I, kd_P, kd_F, ln_N, ln_I, ln_P, ln_F, I_N, I_I, I_P, I_F, P_N, P_I, P_P, P_F, hb, hb0, hz, hz0, f35]) ?_
  refine rn_sI (n := 512) (k := 8) (by simp [n_N, n_I, n_P, n_F, kd_N, kd_I, kd_P, kd_F, ln_N, ln_I, ln_P, ln_F, I_N, I_I, I_P, I_F, P_N, P_I, P_P, P_F, hb, hb0, hz, hz0, f33]) (by simp [n_N, n_I, n_P, n_F, kd_N, kd_I, kd_P, kd_F, ln_N, ln_I, ln_P, ln_F, I_N, I_I, I_P, I_F, P_N, P_I, P_P, P_F, hb, hb0, hz, hz0, f34]) (by decide) (by decide) ?_
  refine rn_gR (r := (some (n0 + 8))) (by simp [n_N, n_I, n_P, n_F, kd_N, kd_I, kd_P, kd_F, ln_N, ln_I, ln_P, ln_F, I_N, I_I, I_P, I_F, P_N, P_I, P_P, P_F, hb, hb0, hz, hz0, f17]) (by simp [n_N, n_I, n_P, n_F, kd_N, kd_I, kd_P, kd_F, ln_N, ln_I, ln_P, ln_F, I_N, I_I, I_P, I_F, P_N, P_I, P_P, P_F, hb, hb0, hz, hz0, f16]) ?_
  refine rn_sI (n := 1024) (k := 992) (by simp [n_N, n_I, n_P, n_F, kd_N, kd_I, kd_P, kd_F, ln_N, ln_I, ln_P, ln_F, I_N, I_I, I_P, I_F, P_N, P_I, P_P, P_F, hb, hb0, hz, hz0, f36]) (by simp [n_N, n_I, n_P, n_F, kd_N, kd_I, kd_P, kd_F, ln_N, ln_I, ln_P, ln_F, I_N, I_I, I_P, I_F, P_N, P_I, P_P, P_F, hb, hb0, hz, hz0, f37]) (by decide) (by decide) ?_
  refine rn_gI (x := (8 : Int32)) (by simp [n_N, n_I, n_P, n_F, kd_N, kd_I, kd_P, kd_F, ln_N, ln_I, ln_P, ln_F, I_N, I_I, I_P, I_F, P_N, P_I, P_P, P_F, hb, hb0, hz, hz0, f17]) (by simp [n_N, n_I, n_P, n_F, kd_N, kd_I, kd_P, kd_F, ln_N, ln_I, ln_P, ln_F, I_N, I_I, I_P, I_F, P_N, P_I, P_P, P_F, hb, hb0, hz, hz0, f10]) ?_
  refine rn_pI (by simp [n_N, n_I, n_P, n_F, kd_N, kd_I, kd_P, kd_F, ln_N, ln_I, ln_P, ln_F, I_N, I_I, I_P, I_F, P_N, P_I, P_P, P_F, hb, hb0, hz, hz0, f17]) ?_
  refine rn_ret ?_
  refine rn_ret ?_
  refine rn_bnd (rn_new (a := (n0 + 88)) (rfl) ?_)
  refine rn_gR (r := (some (n0 + 2))) (by simp [n_N, n_I, n_P, n_F, kd_N, kd_I, kd_P, kd_F, ln_N, ln_I, ln_P, ln_F, I_N, I_I, I_P, I_F, P_N, P_I, P_P, P_F, hb, hb0, hz, hz0, f70]) (by simp [n_N, n_I, n_P, n_F, kd_N, kd_I, kd_P, kd_F, ln_N, ln_I, ln_P, ln_F, I_N, I_I, I_P, I_F, P_N, P_I, P_P, P_F, hb, hb0, hz, hz0, f65]) ?_
  refine rn_bnd (rn_cV (by simp [n_N, n_I, n_P, n_F, kd_N, kd_I, kd_P, kd_F, ln_N, ln_I, ln_P, ln_F, I_N, I_I, I_P, I_F, P_N, P_I, P_P, P_F, hb, hb0, hz, hz0, f17]) ?_)
  try unfold fn_Types_classOf
  refine rn_f (by decide) ?_
  refine rn_gI (x := (9 : Int32)) (by simp [n_N, n_I, n_P, n_F, kd_N, kd_I, kd_P, kd_F, ln_N, ln_I, ln_P, ln_F, I_N, I_I, I_P, I_F, P_N, P_I, P_P, P_F, hb, hb0, hz, hz0, f17]) (by simp [n_N, n_I, n_P, n_F, kd_N, kd_I, kd_P, kd_F, ln_N, ln_I, ln_P, ln_F, I_N, I_I, I_P, I_F, P_N, P_I, P_P, P_F, hb, hb0, hz, hz0, f10]) ?_
  refine rn_f (by decide) ?_
  refine rn_gR (r := (some (n0 + 3))) (by simp [n_N, n_I, n_P, n_F, kd_N, kd_I, kd_P, kd_F, ln_N, ln_I, ln_P, ln_F, I_N, I_I, I_P, I_F, P_N, P_I, P_P, P_F, hb, hb0, hz, hz0, f17]) (by simp [n_N, n_I, n_P, n_F, kd_N, kd_I, kd_P, kd_F, ln_N, ln_I, ln_P, ln_F, I_N, I_I, I_P, I_F, P_N, P_I, P_P, P_F, hb, hb0, hz, hz0, f11]) ?_
  refine rn_aI (n := 512) (k := 8) (x := (0 : Int32)) (by simp [n_N, n_I, n_P, n_F, kd_N, kd_I, kd_P, kd_F, ln_N, ln_I, ln_P, ln_F, I_N, I_I, I_P, I_F, P_N, P_I, P_P, P_F, hb, hb0, hz, hz0, f19]) (by simp [n_N, n_I, n_P, n_F, kd_N, kd_I, kd_P, kd_F, ln_N, ln_I, ln_P, ln_F, I_N, I_I, I_P, I_F, P_N, P_I, P_P, P_F, hb, hb0, hz, hz0, f20]) (by decide) (by decide) (by simp [n_N, n_I, n_P, n_F, kd_N, kd_I, kd_P, kd_F, ln_N, ln_I, ln_P, ln_F, I_N, I_I, I_P, I_F, P_N, P_I, P_P, P_F, hb, hb0, hz, hz0, f18]) ?_
  refine rn_ret ?_
  refine rn_bnd (rn_cI ?_)
  try unfold fn_Entry_init
  refine rn_bnd (rn_new (a := (n0 + 89)) (rfl) ?_)
  refine rn_bnd (rn_cI ?_)
  try unfold fn_AL_init
  refine rn_bnd (rn_cI ?_)
  try unfold fn_ABL_init
  refine rn_bnd (rn_cI ?_)
  try unfold fn_ABC_init
  refine rn_ret ?_
  refine rn_pI (by simp [n_N, n_I, n_P, n_F, kd_N, kd_I, kd_P, kd_F, ln_N, ln_I, ln_P, ln_F, I_N, I_I, I_P, I_F, P_N, P_I, P_P, P_F, hb, hb0, hz, hz0]) ?_
  refine rn_ret ?_
  refine rn_gs (r := r) (by simp [n_N, n_I, n_P, n_F, kd_N, kd_I, kd_P, kd_F, ln_N, ln_I, ln_P, ln_F, I_N, I_I, I_P, I_F, P_N, P_I, P_P, P_F, hb, hb0, hz, hz0]) ?_
  refine rn_pR (by simp [n_N, n_I, n_P, n_F, kd_N, kd_I, kd_P, kd_F, ln_N, ln_I, ln_P, ln_F, I_N, I_I, I_P, I_F, P_N, P_I, P_P, P_F, hb, hb0, hz, hz0]) ?_
  refine rn_ret ?_
  refine rn_pR (by simp [n_N, n_I, n_P, n_F, kd_N, kd_I, kd_P, kd_F, ln_N, ln_I, ln_P, ln_F, I_N, I_I, I_P, I_F, P_N, P_I, P_P, P_F, hb, hb0, hz, hz0]) ?_
  refine rn_bnd (rn_na (a := (n0 + 90)) (n := 26) (rfl) (by decide) (by decide) ?_)
  refine rn_pR (by simp [n_N, n_I, n_P, n_F, kd_N, kd_I, kd_P, kd_F, ln_N, ln_I, ln_P, ln_F, I_N, I_I, I_P, I_F, P_N, P_I, P_P, P_F, hb, hb0, hz, hz0]) ?_
  refine rn_bnd (rn_na (a := (n0 + 91)) (n := 6) (rfl) (by decide) (by decide) ?_)
  refine rn_pR (by simp [n_N, n_I, n_P, n_F, kd_N, kd_I, kd_P, kd_F, ln_N, ln_I, ln_P, ln_F, I_N, I_I, I_P, I_F, P_N, P_I, P_P, P_F, hb, hb0, hz, hz0]) ?_
  refine rn_bnd (rn_na (a := (n0 + 92)) (n := 6) (rfl) (by decide) (by decide) ?_)
  refine rn_pR (by simp [n_N, n_I, n_P, n_F, kd_N, kd_I, kd_P, kd_F, ln_N, ln_I, ln_P, ln_F, I_N, I_I, I_P, I_F, P_N, P_I, P_P, P_F, hb, hb0, hz, hz0]) ?_
  refine rn_pI (by simp [n_N, n_I, n_P, n_F, kd_N, kd_I, kd_P, kd_F, ln_N, ln_I, ln_P, ln_F, I_N, I_I, I_P, I_F, P_N, P_I, P_P, P_F, hb, hb0, hz, hz0]) ?_
  refine rn_pR (by simp [n_N, n_I, n_P, n_F, kd_N, kd_I, kd_P, kd_F, ln_N, ln_I, ln_P, ln_F, I_N, I_I, I_P, I_F, P_N, P_I, P_P, P_F, hb, hb0, hz, hz0]) ?_
  refine rn_pI (by simp [n_N, n_I, n_P, n_F, kd_N, kd_I, kd_P, kd_F, ln_N, ln_I, ln_P, ln_F, I_N, I_I, I_P, I_F, P_N, P_I, P_P, P_F, hb, hb0, hz, hz0]) ?_
  refine rn_pI (by simp [n_N, n_I, n_P, n_F, kd_N, kd_I, kd_P, kd_F, ln_N, ln_I, ln_P, ln_F, I_N, I_I, I_P, I_F, P_N, P_I, P_P, P_F, hb, hb0, hz, hz0]) ?_
  refine rn_ret ?_
  refine rn_bnd (rn_cV (by simp [n_N, n_I, n_P, n_F, kd_N, kd_I, kd_P, kd_F, ln_N, ln_I, ln_P, ln_F, I_N, I_I, I_P, I_F, P_N, P_I, P_P, P_F, hb, hb0, hz, hz0, f70]) ?_)
  try unfold fn_Reader_open
  refine rn_gR (r := (some (n0 + 27))) (by simp [n_N, n_I, n_P, n_F, kd_N, kd_I, kd_P, kd_F, ln_N, ln_I, ln_P, ln_F, I_N, I_I, I_P, I_F, P_N, P_I, P_P, P_F, hb, hb0, hz, hz0, f70]) (by simp [n_N, n_I, n_P, n_F, kd_N, kd_I, kd_P, kd_F, ln_N, ln_I, ln_P, ln_F, I_N, I_I, I_P, I_F, P_N, P_I, P_P, P_F, hb, hb0, hz, hz0, f67]) ?_
  refine rn_gI (x := (0 : Int32)) (by simp [n_N, n_I, n_P, n_F, kd_N, kd_I, kd_P, kd_F, ln_N, ln_I, ln_P, ln_F, I_N, I_I, I_P, I_F, P_N, P_I, P_P, P_F, hb, hb0, hz, hz0, f70]) (by simp [n_N, n_I, n_P, n_F, kd_N, kd_I, kd_P, kd_F, ln_N, ln_I, ln_P, ln_F, I_N, I_I, I_P, I_F, P_N, P_I, P_P, P_F, hb, hb0, hz, hz0, f63]) ?_
  refine rn_aI (n := 141) (k := 0) (x := (1 : Int32)) (by simp [n_N, n_I, n_P, n_F, kd_N, kd_I, kd_P, kd_F, ln_N, ln_I, ln_P, ln_F, I_N, I_I, I_P, I_F, P_N, P_I, P_P, P_F, hb, hb0, hz, hz0, f72]) (by simp [n_N, n_I, n_P, n_F, kd_N, kd_I, kd_P, kd_F, ln_N, ln_I, ln_P, ln_F, I_N, I_I, I_P, I_F, P_N, P_I, P_P, P_F, hb, hb0, hz, hz0, f73]) (by decide) (by decide) (by simp [n_N, n_I, n_P, n_F, kd_N, kd_I, kd_P, kd_F, ln_N, ln_I, ln_P, ln_F, I_N, I_I, I_P, I_F, P_N, P_I, P_P, P_F, hb, hb0, hz, hz0, f71]) ?_
  refine rn_f (by decide) ?_
  try unfold fn_Reader_open_J45
  refine rn_gR (r := (some (n0 + 27))) (by simp [n_N, n_I, n_P, n_F, kd_N, kd_I, kd_P, kd_F, ln_N, ln_I, ln_P, ln_F, I_N, I_I, I_P, I_F, P_N, P_I, P_P, P_F, hb, hb0, hz, hz0, f70]) (by simp [n_N, n_I, n_P, n_F, kd_N, kd_I, kd_P, kd_F, ln_N, ln_I, ln_P, ln_F, I_N, I_I, I_P, I_F, P_N, P_I, P_P, P_F, hb, hb0, hz, hz0, f67]) ?_
  refine rn_gI (x := (0 : Int32)) (by simp [n_N, n_I, n_P, n_F, kd_N, kd_I, kd_P, kd_F, ln_N, ln_I, ln_P, ln_F, I_N, I_I, I_P, I_F, P_N, P_I, P_P, P_F, hb, hb0, hz, hz0, f70]) (by simp [n_N, n_I, n_P, n_F, kd_N, kd_I, kd_P, kd_F, ln_N, ln_I, ln_P, ln_F, I_N, I_I, I_P, I_F, P_N, P_I, P_P, P_F, hb, hb0, hz, hz0, f63]) ?_
  refine rn_sI (n := 141) (k := 0) (by simp [n_N, n_I, n_P, n_F, kd_N, kd_I, kd_P, kd_F, ln_N, ln_I, ln_P, ln_F, I_N, I_I, I_P, I_F, P_N, P_I, P_P, P_F, hb, hb0, hz, hz0, f72]) (by simp [n_N, n_I, n_P, n_F, kd_N, kd_I, kd_P, kd_F, ln_N, ln_I, ln_P, ln_F, I_N, I_I, I_P, I_F, P_N, P_I, P_P, P_F, hb, hb0, hz, hz0, f73]) (by decide) (by decide) ?_
  refine rn_ret ?_
  refine rn_lpv (s := (0 : Int32)) (by first | rfl | decide) ?_
  refine rn_lp (m := 1999999) ?_
  rw [fn_Reader_readDeclaration_B71]
  refine rn_f (by decide) ?_
  refine rn_gR (r := (some (n0 + 27))) (by simp [n_N, n_I, n_P, n_F, kd_N, kd_I, kd_P, kd_F, ln_N, ln_I, ln_P, ln_F, I_N, I_I, I_P, I_F, P_N, P_I, P_P, P_F, hb, hb0, hz, hz0, f70]) (by simp [n_N, n_I, n_P, n_F, kd_N, kd_I, kd_P, kd_F, ln_N, ln_I, ln_P, ln_F, I_N, I_I, I_P, I_F, P_N, P_I, P_P, P_F, hb, hb0, hz, hz0, f67]) ?_
  refine rn_gI (x := (0 : Int32)) (by simp [n_N, n_I, n_P, n_F, kd_N, kd_I, kd_P, kd_F, ln_N, ln_I, ln_P, ln_F, I_N, I_I, I_P, I_F, P_N, P_I, P_P, P_F, hb, hb0, hz, hz0, f70]) (by simp [n_N, n_I, n_P, n_F, kd_N, kd_I, kd_P, kd_F, ln_N, ln_I, ln_P, ln_F, I_N, I_I, I_P, I_F, P_N, P_I, P_P, P_F, hb, hb0, hz, hz0, f63]) ?_
  refine rn_aI (n := 141) (k := 0) (x := (1 : Int32)) (by simp [n_N, n_I, n_P, n_F, kd_N, kd_I, kd_P, kd_F, ln_N, ln_I, ln_P, ln_F, I_N, I_I, I_P, I_F, P_N, P_I, P_P, P_F, hb, hb0, hz, hz0, f72]) (by simp [n_N, n_I, n_P, n_F, kd_N, kd_I, kd_P, kd_F, ln_N, ln_I, ln_P, ln_F, I_N, I_I, I_P, I_F, P_N, P_I, P_P, P_F, hb, hb0, hz, hz0, f73]) (by decide) (by decide) (by simp [n_N, n_I, n_P, n_F, kd_N, kd_I, kd_P, kd_F, ln_N, ln_I, ln_P, ln_F, I_N, I_I, I_P, I_F, P_N, P_I, P_P, P_F, hb, hb0, hz, hz0, f71]) ?_
  refine rn_f (by decide) ?_
  refine rn_gR (r := (some (n0 + 27))) (by simp [n_N, n_I, n_P, n_F, kd_N, kd_I, kd_P, kd_F, ln_N, ln_I, ln_P, ln_F, I_N, I_I, I_P, I_F, P_N, P_I, P_P, P_F, hb, hb0, hz, hz0, f70]) (by simp [n_N, n_I, n_P, n_F, kd_N, kd_I, kd_P, kd_F, ln_N, ln_I, ln_P, ln_F, I_N, I_I, I_P, I_F, P_N, P_I, P_P, P_F, hb, hb0, hz, hz0, f67]) ?_
  refine rn_gI (x := (0 : Int32)) (by simp [n_N, n_I, n_P, n_F, kd_N, kd_I, kd_P, kd_F, ln_N, ln_I, ln_P, ln_F, I_N, I_I, I_P, I_F, P_N, P_I, P_P, P_F, hb, hb0, hz, hz0, f70]) (by simp [n_N, n_I, n_P, n_F, kd_N, kd_I, kd_P, kd_F, ln_N, ln_I, ln_P, ln_F, I_N, I_I, I_P, I_F, P_N, P_I, P_P, P_F, hb, hb0, hz, hz0, f63]) ?_
  refine rn_aI (n := 141) (k := 0) (x := (1 : Int32)) (by simp [n_N, n_I, n_P, n_F, kd_N, kd_I, kd_P, kd_F, ln_N, ln_I, ln_P, ln_F, I_N, I_I, I_P, I_F, P_N, P_I, P_P, P_F, hb, hb0, hz, hz0, f72]) (by simp [n_N, n_I, n_P, n_F, kd_N, kd_I, kd_P, kd_F, ln_N, ln_I, ln_P, ln_F, I_N, I_I, I_P, I_F, P_N, P_I, P_P, P_F, hb, hb0, hz, hz0, f73]) (by decide) (by decide) (by simp [n_N, n_I, n_P, n_F, kd_N, kd_I, kd_P, kd_F, ln_N, ln_I, ln_P, ln_F, I_N, I_I, I_P, I_F, P_N, P_I, P_P, P_F, hb, hb0, hz, hz0, f71]) ?_
  refine rn_t (by decide) ?_
  try unfold fn_Reader_readDeclaration_J125
  refine rn_bnd (rn_cV (by simp [n_N, n_I, n_P, n_F, kd_N, kd_I, kd_P, kd_F, ln_N, ln_I, ln_P, ln_F, I_N, I_I, I_P, I_F, P_N, P_I, P_P, P_F, hb, hb0, hz, hz0, f70]) ?_)
  try unfold fn_Reader_close
  refine rn_gR (r := (some (n0 + 27))) (by simp [n_N, n_I, n_P, n_F, kd_N, kd_I, kd_P, kd_F, ln_N, ln_I, ln_P, ln_F, I_N, I_I, I_P, I_F, P_N, P_I, P_P, P_F, hb, hb0, hz, hz0, f70]) (by simp [n_N, n_I, n_P, n_F, kd_N, kd_I, kd_P, kd_F, ln_N, ln_I, ln_P, ln_F, I_N, I_I, I_P, I_F, P_N, P_I, P_P, P_F, hb, hb0, hz, hz0, f67]) ?_
  refine rn_gI (x := (0 : Int32)) (by simp [n_N, n_I, n_P, n_F, kd_N, kd_I, kd_P, kd_F, ln_N, ln_I, ln_P, ln_F, I_N, I_I, I_P, I_F, P_N, P_I, P_P, P_F, hb, hb0, hz, hz0, f70]) (by simp [n_N, n_I, n_P, n_F, kd_N, kd_I, kd_P, kd_F, ln_N, ln_I, ln_P, ln_F, I_N, I_I, I_P, I_F, P_N, P_I, P_P, P_F, hb, hb0, hz, hz0, f63]) ?_
  refine rn_aI (n := 141) (k := 0) (x := (1 : Int32)) (by simp [n_N, n_I, n_P, n_F, kd_N, kd_I, kd_P, kd_F, ln_N, ln_I, ln_P, ln_F, I_N, I_I, I_P, I_F, P_N, P_I, P_P, P_F, hb, hb0, hz, hz0, f72]) (by simp [n_N, n_I, n_P, n_F, kd_N, kd_I, kd_P, kd_F, ln_N, ln_I, ln_P, ln_F, I_N, I_I, I_P, I_F, P_N, P_I, P_P, P_F, hb, hb0, hz, hz0, f73]) (by decide) (by decide) (by simp [n_N, n_I, n_P, n_F, kd_N, kd_I, kd_P, kd_F, ln_N, ln_I, ln_P, ln_F, I_N, I_I, I_P, I_F, P_N, P_I, P_P, P_F, hb, hb0, hz, hz0, f71]) ?_
  refine rn_f (by decide) ?_
  refine rn_gR (r := (some (n0 + 27))) (by simp [n_N, n_I, n_P, n_F, kd_N, kd_I, kd_P, kd_F, ln_N, ln_I, ln_P, ln_F, I_N, I_I, I_P, I_F, P_N, P_I, P_P, P_F, hb, hb0, hz, hz0, f70]) (by simp [n_N, n_I, n_P, n_F, kd_N, kd_I, kd_P, kd_F, ln_N, ln_I, ln_P, ln_F, I_N, I_I, I_P, I_F, P_N, P_I, P_P, P_F, hb, hb0, hz, hz0, f67]) ?_
  refine rn_gI (x := (0 : Int32)) (by simp [n_N, n_I, n_P, n_F, kd_N, kd_I, kd_P, kd_F, ln_N, ln_I, ln_P, ln_F, I_N, I_I, I_P, I_F, P_N, P_I, P_P, P_F, hb, hb0, hz, hz0, f70]) (by simp [n_N, n_I, n_P, n_F, kd_N, kd_I, kd_P, kd_F, ln_N, ln_I, ln_P, ln_F, I_N, I_I, I_P, I_F, P_N, P_I, P_P, P_F, hb, hb0, hz, hz0, f63]) ?_
  refine rn_sI (n := 141) (k := 0) (by simp [n_N, n_I, n_P, n_F, kd_N, kd_I, kd_P, kd_F, ln_N, ln_I, ln_P, ln_F, I_N, I_I, I_P, I_F, P_N, P_I, P_P, P_F, hb, hb0, hz, hz0, f72]) (by simp [n_N, n_I, n_P, n_F, kd_N, kd_I, kd_P, kd_F, ln_N, ln_I, ln_P, ln_F, I_N, I_I, I_P, I_F, P_N, P_I, P_P, P_F, hb, hb0, hz, hz0, f73]) (by decide) (by decide) ?_
  refine rn_ret ?_
  refine rn_bnd (rn_cV (by simp [n_N, n_I, n_P, n_F, kd_N, kd_I, kd_P, kd_F, ln_N, ln_I, ln_P, ln_F, I_N, I_I, I_P, I_F, P_N, P_I, P_P, P_F, hb, hb0, hz, hz0, f70]) ?_)
  try unfold fn_Reader_takeEnd
  refine rn_gR (r := (some (n0 + 27))) (by simp [n_N, n_I, n_P, n_F, kd_N, kd_I, kd_P, kd_F, ln_N, ln_I, ln_P, ln_F, I_N, I_I, I_P, I_F, P_N, P_I, P_P, P_F, hb, hb0, hz, hz0, f70]) (by simp [n_N, n_I, n_P, n_F, kd_N, kd_I, kd_P, kd_F, ln_N, ln_I, ln_P, ln_F, I_N, I_I, I_P, I_F, P_N, P_I, P_P, P_F, hb, hb0, hz, hz0, f67]) ?_
  refine rn_gI (x := (0 : Int32)) (by simp [n_N, n_I, n_P, n_F, kd_N, kd_I, kd_P, kd_F, ln_N, ln_I, ln_P, ln_F, I_N, I_I, I_P, I_F, P_N, P_I, P_P, P_F, hb, hb0, hz, hz0, f70]) (by simp [n_N, n_I, n_P, n_F, kd_N, kd_I, kd_P, kd_F, ln_N, ln_I, ln_P, ln_F, I_N, I_I, I_P, I_F, P_N, P_I, P_P, P_F, hb, hb0, hz, hz0, f63]) ?_
  refine rn_aI (n := 141) (k := 0) (x := (1 : Int32)) (by simp [n_N, n_I, n_P, n_F, kd_N, kd_I, kd_P, kd_F, ln_N, ln_I, ln_P, ln_F, I_N, I_I, I_P, I_F, P_N, P_I, P_P, P_F, hb, hb0, hz, hz0, f72]) (by simp [n_N, n_I, n_P, n_F, kd_N, kd_I, kd_P, kd_F, ln_N, ln_I, ln_P, ln_F, I_N, I_I, I_P, I_F, P_N, P_I, P_P, P_F, hb, hb0, hz, hz0, f73]) (by decide) (by decide) (by simp [n_N, n_I, n_P, n_F, kd_N, kd_I, kd_P, kd_F, ln_N, ln_I, ln_P, ln_F, I_N, I_I, I_P, I_F, P_N, P_I, P_P, P_F, hb, hb0, hz, hz0, f71]) ?_
  refine rn_f (by decide) ?_
  refine rn_gR (r := (some (n0 + 27))) (by simp [n_N, n_I, n_P, n_F, kd_N, kd_I, kd_P, kd_F, ln_N, ln_I, ln_P, ln_F, I_N, I_I, I_P, I_F, P_N, P_I, P_P, P_F, hb, hb0, hz, hz0, f70]) (by simp [n_N, n_I, n_P, n_F, kd_N, kd_I, kd_P, kd_F, ln_N, ln_I, ln_P, ln_F, I_N, I_I, I_P, I_F, P_N, P_I, P_P, P_F, hb, hb0, hz, hz0, f67]) ?_
  refine rn_gI (x := (0 : Int32)) (by simp [n_N, n_I, n_P, n_F, kd_N, kd_I, kd_P, kd_F, ln_N, ln_I, ln_P, ln_F, I_N, I_I, I_P, I_F, P_N, P_I, P_P, P_F, hb, hb0, hz, hz0, f70]) (by simp [n_N, n_I, n_P, n_F, kd_N, kd_I, kd_P, kd_F, ln_N, ln_I, ln_P, ln_F, I_N, I_I, I_P, I_F, P_N, P_I, P_P, P_F, hb, hb0, hz, hz0, f63]) ?_
  refine rn_sI (n := 141) (k := 0) (by simp [n_N, n_I, n_P, n_F, kd_N, kd_I, kd_P, kd_F, ln_N, ln_I, ln_P, ln_F, I_N, I_I, I_P, I_F, P_N, P_I, P_P, P_F, hb, hb0, hz, hz0, f72]) (by simp [n_N, n_I, n_P, n_F, kd_N, kd_I, kd_P, kd_F, ln_N, ln_I, ln_P, ln_F, I_N, I_I, I_P, I_F, P_N, P_I, P_P, P_F, hb, hb0, hz, hz0, f73]) (by decide) (by decide) ?_
  refine rn_ret ?_
  refine rn_ret ?_
  refine rn_pI (by simp [n_N, n_I, n_P, n_F, kd_N, kd_I, kd_P, kd_F, ln_N, ln_I, ln_P, ln_F, I_N, I_I, I_P, I_F, P_N, P_I, P_P, P_F, hb, hb0, hz, hz0, f7]) ?_
  refine rn_gR (r := (some (n0 + 2))) (by simp [n_N, n_I, n_P, n_F, kd_N, kd_I, kd_P, kd_F, ln_N, ln_I, ln_P, ln_F, I_N, I_I, I_P, I_F, P_N, P_I, P_P, P_F, hb, hb0, hz, hz0, f7]) (by simp [n_N, n_I, n_P, n_F, kd_N, kd_I, kd_P, kd_F, ln_N, ln_I, ln_P, ln_F, I_N, I_I, I_P, I_F, P_N, P_I, P_P, P_F, hb, hb0, hz, hz0, f2]) ?_
  refine rn_gI (x := (9 : Int32)) (by simp [n_N, n_I, n_P, n_F, kd_N, kd_I, kd_P, kd_F, ln_N, ln_I, ln_P, ln_F, I_N, I_I, I_P, I_F, P_N, P_I, P_P, P_F, hb, hb0, hz, hz0, f17]) (by simp [n_N, n_I, n_P, n_F, kd_N, kd_I, kd_P, kd_F, ln_N, ln_I, ln_P, ln_F, I_N, I_I, I_P, I_F, P_N, P_I, P_P, P_F, hb, hb0, hz, hz0, f10]) ?_
  refine rn_gR (r := (some (n0 + 26))) (by simp [n_N, n_I, n_P, n_F, kd_N, kd_I, kd_P, kd_F, ln_N, ln_I, ln_P, ln_F, I_N, I_I, I_P, I_F, P_N, P_I, P_P, P_F, hb, hb0, hz, hz0, f7]) (by simp [n_N, n_I, n_P, n_F, kd_N, kd_I, kd_P, kd_F, ln_N, ln_I, ln_P, ln_F, I_N, I_I, I_P, I_F, P_N, P_I, P_P, P_F, hb, hb0, hz, hz0, f5]) ?_
  refine rn_bnd (rn_cV (by simp [n_N, n_I, n_P, n_F, kd_N, kd_I, kd_P, kd_F, ln_N, ln_I, ln_P, ln_F, I_N, I_I, I_P, I_F, P_N, P_I, P_P, P_F, hb, hb0, hz, hz0, f70]) ?_)
  try unfold fn_Reader_answerIfFaulty
  refine rn_gR (r := (some (n0 + 27))) (by simp [n_N, n_I, n_P, n_F, kd_N, kd_I, kd_P, kd_F, ln_N, ln_I, ln_P, ln_F, I_N, I_I, I_P, I_F, P_N, P_I, P_P, P_F, hb, hb0, hz, hz0, f70]) (by simp [n_N, n_I, n_P, n_F, kd_N, kd_I, kd_P, kd_F, ln_N, ln_I, ln_P, ln_F, I_N, I_I, I_P, I_F, P_N, P_I, P_P, P_F, hb, hb0, hz, hz0, f67]) ?_
  refine rn_gI (x := (0 : Int32)) (by simp [n_N, n_I, n_P, n_F, kd_N, kd_I, kd_P, kd_F, ln_N, ln_I, ln_P, ln_F, I_N, I_I, I_P, I_F, P_N, P_I, P_P, P_F, hb, hb0, hz, hz0, f70]) (by simp [n_N, n_I, n_P, n_F, kd_N, kd_I, kd_P, kd_F, ln_N, ln_I, ln_P, ln_F, I_N, I_I, I_P, I_F, P_N, P_I, P_P, P_F, hb, hb0, hz, hz0, f63]) ?_
  refine rn_aI (n := 141) (k := 0) (x := (1 : Int32)) (by simp [n_N, n_I, n_P, n_F, kd_N, kd_I, kd_P, kd_F, ln_N, ln_I, ln_P, ln_F, I_N, I_I, I_P, I_F, P_N, P_I, P_P, P_F, hb, hb0, hz, hz0, f72]) (by simp [n_N, n_I, n_P, n_F, kd_N, kd_I, kd_P, kd_F, ln_N, ln_I, ln_P, ln_F, I_N, I_I, I_P, I_F, P_N, P_I, P_P, P_F, hb, hb0, hz, hz0, f73]) (by decide) (by decide) (by simp [n_N, n_I, n_P, n_F, kd_N, kd_I, kd_P, kd_F, ln_N, ln_I, ln_P, ln_F, I_N, I_I, I_P, I_F, P_N, P_I, P_P, P_F, hb, hb0, hz, hz0, f71]) ?_
  refine rn_t (by decide) ?_
  refine rn_gR (r := (some (n0 + 28))) (by simp [n_N, n_I, n_P, n_F, kd_N, kd_I, kd_P, kd_F, ln_N, ln_I, ln_P, ln_F, I_N, I_I, I_P, I_F, P_N, P_I, P_P, P_F, hb, hb0, hz, hz0, f70]) (by simp [n_N, n_I, n_P, n_F, kd_N, kd_I, kd_P, kd_F, ln_N, ln_I, ln_P, ln_F, I_N, I_I, I_P, I_F, P_N, P_I, P_P, P_F, hb, hb0, hz, hz0, f68]) ?_
  refine rn_gI (x := (0 : Int32)) (by simp [n_N, n_I, n_P, n_F, kd_N, kd_I, kd_P, kd_F, ln_N, ln_I, ln_P, ln_F, I_N, I_I, I_P, I_F, P_N, P_I, P_P, P_F, hb, hb0, hz, hz0, f70]) (by simp [n_N, n_I, n_P, n_F, kd_N, kd_I, kd_P, kd_F, ln_N, ln_I, ln_P, ln_F, I_N, I_I, I_P, I_F, P_N, P_I, P_P, P_F, hb, hb0, hz, hz0, f63]) ?_
  refine rn_aI (n := 141) (k := 0) (x := (0 : Int32)) (by simp [n_N, n_I, n_P, n_F, kd_N, kd_I, kd_P, kd_F, ln_N, ln_I, ln_P, ln_F, I_N, I_I, I_P, I_F, P_N, P_I, P_P, P_F, hb, hb0, hz, hz0, f75]) (by simp [n_N, n_I, n_P, n_F, kd_N, kd_I, kd_P, kd_F, ln_N, ln_I, ln_P, ln_F, I_N, I_I, I_P, I_F, P_N, P_I, P_P, P_F, hb, hb0, hz, hz0, f76]) (by decide) (by decide) (by simp [n_N, n_I, n_P, n_F, kd_N, kd_I, kd_P, kd_F, ln_N, ln_I, ln_P, ln_F, I_N, I_I, I_P, I_F, P_N, P_I, P_P, P_F, hb, hb0, hz, hz0, f74]) ?_
  refine rn_ret ?_
  refine rn_f (by decide) ?_
  try unfold fn_BT_declare_J70
  refine rn_f (by decide) ?_
  try unfold fn_BT_declare_J89
  refine rn_f (by decide) ?_
  try unfold fn_BT_declare_J108
  refine rn_f (by decide) ?_
  refine rn_gR (r := (some (n0 + 14))) (by simp [n_N, n_I, n_P, n_F, kd_N, kd_I, kd_P, kd_F, ln_N, ln_I, ln_P, ln_F, I_N, I_I, I_P, I_F, P_N, P_I, P_P, P_F, hb, hb0, hz, hz0, f7]) (by simp [n_N, n_I, n_P, n_F, kd_N, kd_I, kd_P, kd_F, ln_N, ln_I, ln_P, ln_F, I_N, I_I, I_P, I_F, P_N, P_I, P_P, P_F, hb, hb0, hz, hz0, f4]) ?_
  refine rn_bnd (rn_cV (by simp [n_N, n_I, n_P, n_F, kd_N, kd_I, kd_P, kd_F, ln_N, ln_I, ln_P, ln_F, I_N, I_I, I_P, I_F, P_N, P_I, P_P, P_F, hb, hb0, hz, hz0, f53]) ?_)
  try unfold fn_Rules_remove
  refine rn_gI (x := (0 : Int32)) (by simp [n_N, n_I, n_P, n_F, kd_N, kd_I, kd_P, kd_F, ln_N, ln_I, ln_P, ln_F, I_N, I_I, I_P, I_F, P_N, P_I, P_P, P_F, hb, hb0, hz, hz0]) (by simp [n_N, n_I, n_P, n_F, kd_N, kd_I, kd_P, kd_F, ln_N, ln_I, ln_P, ln_F, I_N, I_I, I_P, I_F, P_N, P_I, P_P, P_F, hb, hb0, hz, hz0]) ?_
  refine rn_bnd (rn_cV (by simp [n_N, n_I, n_P, n_F, kd_N, kd_I, kd_P, kd_F, ln_N, ln_I, ln_P, ln_F, I_N, I_I, I_P, I_F, P_N, P_I, P_P, P_F, hb, hb0, hz, hz0, f53]) ?_)
  try unfold fn_Rules_entryNamed
  refine rn_f (by decide) ?_
  refine rn_f (by decide) ?_
  refine rn_gR (r := (some (n0 + 15))) (by simp [n_N, n_I, n_P, n_F, kd_N, kd_I, kd_P, kd_F, ln_N, ln_I, ln_P, ln_F, I_N, I_I, I_P, I_F, P_N, P_I, P_P, P_F, hb, hb0, hz, hz0, f53]) (by simp [n_N, n_I, n_P, n_F, kd_N, kd_I, kd_P, kd_F, ln_N, ln_I, ln_P, ln_F, I_N, I_I, I_P, I_F, P_N, P_I, P_P, P_F, hb, hb0, hz, hz0, f52]) ?_
  refine rn_aR (n := 8) (k := 0) (r := (some (n0 + 18))) (by simp [n_N, n_I, n_P, n_F, kd_N, kd_I, kd_P, kd_F, ln_N, ln_I, ln_P, ln_F, I_N, I_I, I_P, I_F, P_N, P_I, P_P, P_F, hb, hb0, hz, hz0, f55]) (by simp [n_N, n_I, n_P, n_F, kd_N, kd_I, kd_P, kd_F, ln_N, ln_I, ln_P, ln_F, I_N, I_I, I_P, I_F, P_N, P_I, P_P, P_F, hb, hb0, hz, hz0, f56]) (by decide) (by decide) (by simp [n_N, n_I, n_P, n_F, kd_N, kd_I, kd_P, kd_F, ln_N, ln_I, ln_P, ln_F, I_N, I_I, I_P, I_F, P_N, P_I, P_P, P_F, hb, hb0, hz, hz0, f54]) ?_
  refine rn_ret ?_
  refine rn_f (by simp [n_N, n_I, n_P, n_F, kd_N, kd_I, kd_P, kd_F, ln_N, ln_I, ln_P, ln_F, I_N, I_I, I_P, I_F, P_N, P_I, P_P, P_F, hb, hb0, hz, hz0]) ?_
  refine rn_ret ?_
  refine rn_gR (r := (some (n0 + 2))) (by simp [n_N, n_I, n_P, n_F, kd_N, kd_I, kd_P, kd_F, ln_N, ln_I, ln_P, ln_F, I_N, I_I, I_P, I_F, P_N, P_I, P_P, P_F, hb, hb0, hz, hz0, f7]) (by simp [n_N, n_I, n_P, n_F, kd_N, kd_I, kd_P, kd_F, ln_N, ln_I, ln_P, ln_F, I_N, I_I, I_P, I_F, P_N, P_I, P_P, P_F, hb, hb0, hz, hz0, f2]) ?_
  refine rn_bnd (rn_cV (by simp [n_N, n_I, n_P, n_F, kd_N, kd_I, kd_P, kd_F, ln_N, ln_I, ln_P, ln_F, I_N, I_I, I_P, I_F, P_N, P_I, P_P, P_F, hb, hb0, hz, hz0, f17]) ?_)
  try unfold fn_Types_forget
  refine rn_gI (x := (9 : Int32)) (by simp [n_N, n_I, n_P, n_F, kd_N, kd_I, kd_P, kd_F, ln_N, ln_I, ln_P, ln_F, I_N, I_I, I_P, I_F, P_N, P_I, P_P, P_F, hb, hb0, hz, hz0, f17]) (by simp [n_N, n_I, n_P, n_F, kd_N, kd_I, kd_P, kd_F, ln_N, ln_I, ln_P, ln_F, I_N, I_I, I_P, I_F, P_N, P_I, P_P, P_F, hb, hb0, hz, hz0, f10]) ?_
  refine rn_lpv (s := (8 : Int32)) (by first | rfl | decide) ?_
  refine rn_lp (m := 1999999) ?_
  rw [fn_Types_forget_B14]
  refine rn_f (by decide) ?_
  refine rn_gR (r := (some (n0 + 8))) (by simp [n_N, n_I, n_P, n_F, kd_N, kd_I, kd_P, kd_F, ln_N, ln_I, ln_P, ln_F, I_N, I_I, I_P, I_F, P_N, P_I, P_P, P_F, hb, hb0, hz, hz0, f17]) (by simp [n_N, n_I, n_P, n_F, kd_N, kd_I, kd_P, kd_F, ln_N, ln_I, ln_P, ln_F, I_N, I_I, I_P, I_F, P_N, P_I, P_P, P_F, hb, hb0, hz, hz0, f16]) ?_
  refine rn_gR (r := (some (n0 + 6))) (by simp [n_N, n_I, n_P, n_F, kd_N, kd_I, kd_P, kd_F, ln_N, ln_I, ln_P, ln_F, I_N, I_I, I_P, I_F, P_N, P_I, P_P, P_F, hb, hb0, hz, hz0, f17]) (by simp [n_N, n_I, n_P, n_F, kd_N, kd_I, kd_P, kd_F, ln_N, ln_I, ln_P, ln_F, I_N, I_I, I_P, I_F, P_N, P_I, P_P, P_F, hb, hb0, hz, hz0, f14]) ?_
  refine rn_aI (n := 512) (k := 8) (x := (992 : Int32)) (by simp [n_N, n_I, n_P, n_F, kd_N, kd_I, kd_P, kd_F, ln_N, ln_I, ln_P, ln_F, I_N, I_I, I_P, I_F, P_N, P_I, P_P, P_F, hb, hb0, hz, hz0, f30]) (by simp [n_N, n_I, n_P, n_F, kd_N, kd_I, kd_P, kd_F, ln_N, ln_I, ln_P, ln_F, I_N, I_I, I_P, I_F, P_N, P_I, P_P, P_F, hb, hb0, hz, hz0, f31]) (by decide) (by decide) (by simp [n_N, n_I, n_P, n_F, kd_N, kd_I, kd_P, kd_F, ln_N, ln_I, ln_P, ln_F, I_N, I_I, I_P, I_F, P_N, P_I, P_P, P_F, hb, hb0, hz, hz0, f29]) ?_
  refine rn_gR (r := (some (n0 + 7))) (by simp [n_N, n_I, n_P, n_F, kd_N, kd_I, kd_P, kd_F, ln_N, ln_I, ln_P, ln_F, I_N, I_I, I_P, I_F, P_N, P_I, P_P, P_F, hb, hb0, hz, hz0, f17]) (by simp [n_N, n_I, n_P, n_F, kd_N, kd_I, kd_P, kd_F, ln_N, ln_I, ln_P, ln_F, I_N, I_I, I_P, I_F, P_N, P_I, P_P, P_F, hb, hb0, hz, hz0, f15]) ?_
  refine rn_aI (n := 512) (k := 8) (x := (-1 : Int32)) (by simp [n_N, n_I, n_P, n_F, kd_N, kd_I, kd_P, kd_F, ln_N, ln_I, ln_P, ln_F, I_N, I_I, I_P, I_F, P_N, P_I, P_P, P_F, hb, hb0, hz, hz0, f33]) (by simp [n_N, n_I, n_P, n_F, kd_N, kd_I, kd_P, kd_F, ln_N, ln_I, ln_P, ln_F, I_N, I_I, I_P, I_F, P_N, P_I, P_P, P_F, hb, hb0, hz, hz0, f34]) (by decide) (by decide) (by simp [n_N, n_I, n_P, n_F, kd_N, kd_I, kd_P, kd_F, ln_N, ln_I, ln_P, ln_F, I_N, I_I, I_P, I_F, P_N, P_I, P_P, P_F, hb, hb0, hz, hz0, f32]) ?_
  refine rn_sI (n := 1024) (k := 992) (by simp [n_N, n_I, n_P, n_F, kd_N, kd_I, kd_P, kd_F, ln_N, ln_I, ln_P, ln_F, I_N, I_I, I_P, I_F, P_N, P_I, P_P, P_F, hb, hb0, hz, hz0, f36]) (by simp [n_N, n_I, n_P, n_F, kd_N, kd_I, kd_P, kd_F, ln_N, ln_I, ln_P, ln_F, I_N, I_I, I_P, I_F, P_N, P_I, P_P, P_F, hb, hb0, hz, hz0, f37]) (by decide) (by decide) ?_
  refine rn_lpv (s := (7 : Int32)) (by first | rfl | decide) ?_
  refine rn_lp (m := 1999998) ?_
  rw [fn_Types_forget_B14]
  refine rn_t (by decide) ?_
  refine rn_gI (x := (9 : Int32)) (by simp [n_N, n_I, n_P, n_F, kd_N, kd_I, kd_P, kd_F, ln_N, ln_I, ln_P, ln_F, I_N, I_I, I_P, I_F, P_N, P_I, P_P, P_F, hb, hb0, hz, hz0, f17]) (by simp [n_N, n_I, n_P, n_F, kd_N, kd_I, kd_P, kd_F, ln_N, ln_I, ln_P, ln_F, I_N, I_I, I_P, I_F, P_N, P_I, P_P, P_F, hb, hb0, hz, hz0, f10]) ?_
  refine rn_pI (by simp [n_N, n_I, n_P, n_F, kd_N, kd_I, kd_P, kd_F, ln_N, ln_I, ln_P, ln_F, I_N, I_I, I_P, I_F, P_N, P_I, P_P, P_F, hb, hb0, hz, hz0, f17]) ?_
  refine rn_ret ?_
  refine rn_gR (r := (some (n0 + 9))) (by simp [n_N, n_I, n_P, n_F, kd_N, kd_I, kd_P, kd_F, ln_N, ln_I, ln_P, ln_F, I_N, I_I, I_P, I_F, P_N, P_I, P_P, P_F, hb, hb0, hz, hz0, f7]) (by simp [n_N, n_I, n_P, n_F, kd_N, kd_I, kd_P, kd_F, ln_N, ln_I, ln_P, ln_F, I_N, I_I, I_P, I_F, P_N, P_I, P_P, P_F, hb, hb0, hz, hz0, f3]) ?_
  refine rn_bnd (rn_cV (by simp [n_N, n_I, n_P, n_F, kd_N, kd_I, kd_P, kd_F, ln_N, ln_I, ln_P, ln_F, I_N, I_I, I_P, I_F, P_N, P_I, P_P, P_F, hb, hb0, hz, hz0, f43]) ?_)
  try unfold fn_Code_forget
  refine rn_gI (x := (0 : Int32)) (by simp [n_N, n_I, n_P, n_F, kd_N, kd_I, kd_P, kd_F, ln_N, ln_I, ln_P, ln_F, I_N, I_I, I_P, I_F, P_N, P_I, P_P, P_F, hb, hb0, hz, hz0, f43]) (by simp [n_N, n_I, n_P, n_F, kd_N, kd_I, kd_P, kd_F, ln_N, ln_I, ln_P, ln_F, I_N, I_I, I_P, I_F, P_N, P_I, P_P, P_F, hb, hb0, hz, hz0, f38]) ?_
  refine rn_pI (by simp [n_N, n_I, n_P, n_F, kd_N, kd_I, kd_P, kd_F, ln_N, ln_I, ln_P, ln_F, I_N, I_I, I_P, I_F, P_N, P_I, P_P, P_F, hb, hb0, hz, hz0, f43]) ?_
  refine rn_ret ?_
  refine rn_ret ?_
  refine rn_bnd (rn_cV (by simp [n_N, n_I, n_P, n_F, kd_N, kd_I, kd_P, kd_F, ln_N, ln_I, ln_P, ln_F, I_N, I_I, I_P, I_F, P_N, P_I, P_P, P_F, hb, hb0, hz, hz0, f98]) ?_)
  try unfold fn_Md_declare
  refine rn_gI (x := (8 : Int32)) (by simp [n_N, n_I, n_P, n_F, kd_N, kd_I, kd_P, kd_F, ln_N, ln_I, ln_P, ln_F, I_N, I_I, I_P, I_F, P_N, P_I, P_P, P_F, hb, hb0, hz, hz0, f98]) (by simp [n_N, n_I, n_P, n_F, kd_N, kd_I, kd_P, kd_F, ln_N, ln_I, ln_P, ln_F, I_N, I_I, I_P, I_F, P_N, P_I, P_P, P_F, hb, hb0, hz, hz0, f85]) ?_
  refine rn_gI (x := (0 : Int32)) (by simp [n_N, n_I, n_P, n_F, kd_N, kd_I, kd_P, kd_F, ln_N, ln_I, ln_P, ln_F, I_N, I_I, I_P, I_F, P_N, P_I, P_P, P_F, hb, hb0, hz, hz0, f98]) (by simp [n_N, n_I, n_P, n_F, kd_N, kd_I, kd_P, kd_F, ln_N, ln_I, ln_P, ln_F, I_N, I_I, I_P, I_F, P_N, P_I, P_P, P_F, hb, hb0, hz, hz0, f86]) ?_
  refine rn_gI (x := (0 : Int32)) (by simp [n_N, n_I, n_P, n_F, kd_N, kd_I, kd_P, kd_F, ln_N, ln_I, ln_P, ln_F, I_N, I_I, I_P, I_F, P_N, P_I, P_P, P_F, hb, hb0, hz, hz0, f98]) (by simp [n_N, n_I, n_P, n_F, kd_N, kd_I, kd_P, kd_F, ln_N, ln_I, ln_P, ln_F, I_N, I_I, I_P, I_F, P_N, P_I, P_P, P_F, hb, hb0, hz, hz0, f87]) ?_
  refine rn_gI (x := (0 : Int32)) (by simp [n_N, n_I, n_P, n_F, kd_N, kd_I, kd_P, kd_F, ln_N, ln_I, ln_P, ln_F, I_N, I_I, I_P, I_F, P_N, P_I, P_P, P_F, hb, hb0, hz, hz0, f98]) (by simp [n_N, n_I, n_P, n_F, kd_N, kd_I, kd_P, kd_F, ln_N, ln_I, ln_P, ln_F, I_N, I_I, I_P, I_F, P_N, P_I, P_P, P_F, hb, hb0, hz, hz0, f88]) ?_
  refine rn_bnd (rn_cV (by simp [n_N, n_I, n_P, n_F, kd_N, kd_I, kd_P, kd_F, ln_N, ln_I, ln_P, ln_F, I_N, I_I, I_P, I_F, P_N, P_I, P_P, P_F, hb, hb0, hz, hz0, f98]) ?_)
  try unfold fn_Md_begin
  refine rn_pI (by simp [n_N, n_I, n_P, n_F, kd_N, kd_I, kd_P, kd_F, ln_N, ln_I, ln_P, ln_F, I_N, I_I, I_P, I_F, P_N, P_I, P_P, P_F, hb, hb0, hz, hz0, f98]) ?_
  refine rn_gI (x := (0 : Int32)) (by simp [n_N, n_I, n_P, n_F, kd_N, kd_I, kd_P, kd_F, ln_N, ln_I, ln_P, ln_F, I_N, I_I, I_P, I_F, P_N, P_I, P_P, P_F, hb, hb0, hz, hz0, f98]) (by simp [n_N, n_I, n_P, n_F, kd_N, kd_I, kd_P, kd_F, ln_N, ln_I, ln_P, ln_F, I_N, I_I, I_P, I_F, P_N, P_I, P_P, P_F, hb, hb0, hz, hz0, f80]) ?_
  refine rn_pI (by simp [n_N, n_I, n_P, n_F, kd_N, kd_I, kd_P, kd_F, ln_N, ln_I, ln_P, ln_F, I_N, I_I, I_P, I_F, P_N, P_I, P_P, P_F, hb, hb0, hz, hz0, f98]) ?_
  refine rn_pI (by simp [n_N, n_I, n_P, n_F, kd_N, kd_I, kd_P, kd_F, ln_N, ln_I, ln_P, ln_F, I_N, I_I, I_P, I_F, P_N, P_I, P_P, P_F, hb, hb0, hz, hz0, f98]) ?_
  refine rn_pI (by simp [n_N, n_I, n_P, n_F, kd_N, kd_I, kd_P, kd_F, ln_N, ln_I, ln_P, ln_F, I_N, I_I, I_P, I_F, P_N, P_I, P_P, P_F, hb, hb0, hz, hz0, f98]) ?_
  refine rn_pI (by simp [n_N, n_I, n_P, n_F, kd_N, kd_I, kd_P, kd_F, ln_N, ln_I, ln_P, ln_F, I_N, I_I, I_P, I_F, P_N, P_I, P_P, P_F, hb, hb0, hz, hz0, f98]) ?_
  refine rn_pI (by simp [n_N, n_I, n_P, n_F, kd_N, kd_I, kd_P, kd_F, ln_N, ln_I, ln_P, ln_F, I_N, I_I, I_P, I_F, P_N, P_I, P_P, P_F, hb, hb0, hz, hz0, f98]) ?_
  refine rn_ret ?_
  refine rn_bnd (rn_cV (by simp [n_N, n_I, n_P, n_F, kd_N, kd_I, kd_P, kd_F, ln_N, ln_I, ln_P, ln_F, I_N, I_I, I_P, I_F, P_N, P_I, P_P, P_F, hb, hb0, hz, hz0, f98]) ?_)
  try unfold fn_Md_readLetter
  refine rn_bnd (rn_cV (by simp [n_N, n_I, n_P, n_F, kd_N, kd_I, kd_P, kd_F, ln_N, ln_I, ln_P, ln_F, I_N, I_I, I_P, I_F, P_N, P_I, P_P, P_F, hb, hb0, hz, hz0, f98]) ?_)
  try unfold fn_Md_look
  refine rn_gI (x := (0 : Int32)) (by simp [n_N, n_I, n_P, n_F, kd_N, kd_I, kd_P, kd_F, ln_N, ln_I, ln_P, ln_F, I_N, I_I, I_P, I_F, P_N, P_I, P_P, P_F, hb, hb0, hz, hz0, f98]) (by simp [n_N, n_I, n_P, n_F, kd_N, kd_I, kd_P, kd_F, ln_N, ln_I, ln_P, ln_F, I_N, I_I, I_P, I_F, P_N, P_I, P_P, P_F, hb, hb0, hz, hz0, f82]) ?_
  refine rn_gI (x := (0 : Int32)) (by simp [n_N, n_I, n_P, n_F, kd_N, kd_I, kd_P, kd_F, ln_N, ln_I, ln_P, ln_F, I_N, I_I, I_P, I_F, P_N, P_I, P_P, P_F, hb, hb0, hz, hz0, f98]) (by simp [n_N, n_I, n_P, n_F, kd_N, kd_I, kd_P, kd_F, ln_N, ln_I, ln_P, ln_F, I_N, I_I, I_P, I_F, P_N, P_I, P_P, P_F, hb, hb0, hz, hz0, f81]) ?_
  refine rn_t (by decide) ?_
  try unfold fn_Md_look_J38
  refine rn_gI (x := (0 : Int32)) (by simp [n_N, n_I, n_P, n_F, kd_N, kd_I, kd_P, kd_F, ln_N, ln_I, ln_P, ln_F, I_N, I_I, I_P, I_F, P_N, P_I, P_P, P_F, hb, hb0, hz, hz0, f98]) (by simp [n_N, n_I, n_P, n_F, kd_N, kd_I, kd_P, kd_F, ln_N, ln_I, ln_P, ln_F, I_N, I_I, I_P, I_F, P_N, P_I, P_P, P_F, hb, hb0, hz, hz0, f82]) ?_
  refine rn_gI (x := (0 : Int32)) (by simp [n_N, n_I, n_P, n_F, kd_N, kd_I, kd_P, kd_F, ln_N, ln_I, ln_P, ln_F, I_N, I_I, I_P, I_F, P_N, P_I, P_P, P_F, hb, hb0, hz, hz0, f98]) (by simp [n_N, n_I, n_P, n_F, kd_N, kd_I, kd_P, kd_F, ln_N, ln_I, ln_P, ln_F, I_N, I_I, I_P, I_F, P_N, P_I, P_P, P_F, hb, hb0, hz, hz0, f81]) ?_
  refine rn_t (by decide) ?_
  refine rn_ret ?_
  refine rn_bnd ?_
  try unfold fn_Md_in
  refine rn_t (by decide) ?_
  refine rn_retZ (by decide) ?_
  refine rn_t (by decide) ?_
  refine rn_bnd (rn_cV (by simp [n_N, n_I, n_P, n_F, kd_N, kd_I, kd_P, kd_F, ln_N, ln_I, ln_P, ln_F, I_N, I_I, I_P, I_F, P_N, P_I, P_P, P_F, hb, hb0, hz, hz0, f98]) ?_)
  try unfold fn_Md_fail
  refine rn_bnd (rn_cV (by simp [n_N, n_I, n_P, n_F, kd_N, kd_I, kd_P, kd_F, ln_N, ln_I, ln_P, ln_F, I_N, I_I, I_P, I_F, P_N, P_I, P_P, P_F, hb, hb0, hz, hz0, f98]) ?_)
  try unfold fn_Md_look
  refine rn_gI (x := (0 : Int32)) (by simp [n_N, n_I, n_P, n_F, kd_N, kd_I, kd_P, kd_F, ln_N, ln_I, ln_P, ln_F, I_N, I_I, I_P, I_F, P_N, P_I, P_P, P_F, hb, hb0, hz, hz0, f98]) (by simp [n_N, n_I, n_P, n_F, kd_N, kd_I, kd_P, kd_F, ln_N, ln_I, ln_P, ln_F, I_N, I_I, I_P, I_F, P_N, P_I, P_P, P_F, hb, hb0, hz, hz0, f82]) ?_
  refine rn_gI (x := (0 : Int32)) (by simp [n_N, n_I, n_P, n_F, kd_N, kd_I, kd_P, kd_F, ln_N, ln_I, ln_P, ln_F, I_N, I_I, I_P, I_F, P_N, P_I, P_P, P_F, hb, hb0, hz, hz0, f98]) (by simp [n_N, n_I, n_P, n_F, kd_N, kd_I, kd_P, kd_F, ln_N, ln_I, ln_P, ln_F, I_N, I_I, I_P, I_F, P_N, P_I, P_P, P_F, hb, hb0, hz, hz0, f81]) ?_
  refine rn_t (by decide) ?_
  try unfold fn_Md_look_J38
  refine rn_gI (x := (0 : Int32)) (by simp [n_N, n_I, n_P, n_F, kd_N, kd_I, kd_P, kd_F, ln_N, ln_I, ln_P, ln_F, I_N, I_I, I_P, I_F, P_N, P_I, P_P, P_F, hb, hb0, hz, hz0, f98]) (by simp [n_N, n_I, n_P, n_F, kd_N, kd_I, kd_P, kd_F, ln_N, ln_I, ln_P, ln_F, I_N, I_I, I_P, I_F, P_N, P_I, P_P, P_F, hb, hb0, hz, hz0, f82]) ?_
  refine rn_gI (x := (0 : Int32)) (by simp [n_N, n_I, n_P, n_F, kd_N, kd_I, kd_P, kd_F, ln_N, ln_I, ln_P, ln_F, I_N, I_I, I_P, I_F, P_N, P_I, P_P, P_F, hb, hb0, hz, hz0, f98]) (by simp [n_N, n_I, n_P, n_F, kd_N, kd_I, kd_P, kd_F, ln_N, ln_I, ln_P, ln_F, I_N, I_I, I_P, I_F, P_N, P_I, P_P, P_F, hb, hb0, hz, hz0, f81]) ?_
  refine rn_t (by decide) ?_
  refine rn_ret ?_
  refine rn_gI (x := (-1 : Int32)) (by simp [n_N, n_I, n_P, n_F, kd_N, kd_I, kd_P, kd_F, ln_N, ln_I, ln_P, ln_F, I_N, I_I, I_P, I_F, P_N, P_I, P_P, P_F, hb, hb0, hz, hz0, f98]) (by simp [n_N, n_I, n_P, n_F, kd_N, kd_I, kd_P, kd_F, ln_N, ln_I, ln_P, ln_F, I_N, I_I, I_P, I_F, P_N, P_I, P_P, P_F, hb, hb0, hz, hz0, f84]) ?_
  refine rn_f (by decide) ?_
  refine rn_gI (x := (0 : Int32)) (by simp [n_N, n_I, n_P, n_F, kd_N, kd_I, kd_P, kd_F, ln_N, ln_I, ln_P, ln_F, I_N, I_I, I_P, I_F, P_N, P_I, P_P, P_F, hb, hb0, hz, hz0, f98]) (by simp [n_N, n_I, n_P, n_F, kd_N, kd_I, kd_P, kd_F, ln_N, ln_I, ln_P, ln_F, I_N, I_I, I_P, I_F, P_N, P_I, P_P, P_F, hb, hb0, hz, hz0, f82]) ?_
  try unfold fn_Md_fail_J24
  refine rn_pI (by simp [n_N, n_I, n_P, n_F, kd_N, kd_I, kd_P, kd_F, ln_N, ln_I, ln_P, ln_F, I_N, I_I, I_P, I_F, P_N, P_I, P_P, P_F, hb, hb0, hz, hz0, f98]) ?_
  refine rn_ret ?_
  try unfold fn_Md_readLetter_J18
  refine rn_gI (x := (0 : Int32)) (by simp [n_N, n_I, n_P, n_F, kd_N, kd_I, kd_P, kd_F, ln_N, ln_I, ln_P, ln_F, I_N, I_I, I_P, I_F, P_N, P_I, P_P, P_F, hb, hb0, hz, hz0, f98]) (by simp [n_N, n_I, n_P, n_F, kd_N, kd_I, kd_P, kd_F, ln_N, ln_I, ln_P, ln_F, I_N, I_I, I_P, I_F, P_N, P_I, P_P, P_F, hb, hb0, hz, hz0, f82]) ?_
  refine rn_pI (by simp [n_N, n_I, n_P, n_F, kd_N, kd_I, kd_P, kd_F, ln_N, ln_I, ln_P, ln_F, I_N, I_I, I_P, I_F, P_N, P_I, P_P, P_F, hb, hb0, hz, hz0, f98]) ?_
  refine rn_gI (x := (0 : Int32)) (by simp [n_N, n_I, n_P, n_F, kd_N, kd_I, kd_P, kd_F, ln_N, ln_I, ln_P, ln_F, I_N, I_I, I_P, I_F, P_N, P_I, P_P, P_F, hb, hb0, hz, hz0, f98]) (by simp [n_N, n_I, n_P, n_F, kd_N, kd_I, kd_P, kd_F, ln_N, ln_I, ln_P, ln_F, I_N, I_I, I_P, I_F, P_N, P_I, P_P, P_F, hb, hb0, hz, hz0, f84]) ?_
  refine rn_t (by decide) ?_
  refine rn_ret ?_
  refine rn_gR (r := (some (n0 + 55))) (by simp [n_N, n_I, n_P, n_F, kd_N, kd_I, kd_P, kd_F, ln_N, ln_I, ln_P, ln_F, I_N, I_I, I_P, I_F, P_N, P_I, P_P, P_F, hb, hb0, hz, hz0, f98]) (by simp [n_N, n_I, n_P, n_F, kd_N, kd_I, kd_P, kd_F, ln_N, ln_I, ln_P, ln_F, I_N, I_I, I_P, I_F, P_N, P_I, P_P, P_F, hb, hb0, hz, hz0, f95]) ?_
  refine rn_gR (r := (some (n0 + 56))) (by simp [n_N, n_I, n_P, n_F, kd_N, kd_I, kd_P, kd_F, ln_N, ln_I, ln_P, ln_F, I_N, I_I, I_P, I_F, P_N, P_I, P_P, P_F, hb, hb0, hz, hz0, f98]) (by simp [n_N, n_I, n_P, n_F, kd_N, kd_I, kd_P, kd_F, ln_N, ln_I, ln_P, ln_F, I_N, I_I, I_P, I_F, P_N, P_I, P_P, P_F, hb, hb0, hz, hz0, f96]) ?_
  refine rn_bnd (rn_cV (by simp [n_N, n_I, n_P, n_F, kd_N, kd_I, kd_P, kd_F, ln_N, ln_I, ln_P, ln_F, I_N, I_I, I_P, I_F, P_N, P_I, P_P, P_F, hb, hb0, hz, hz0, f98]) ?_)
  try unfold fn_Md_readBounds
  refine rn_bnd (rn_cV (by simp [n_N, n_I, n_P, n_F, kd_N, kd_I, kd_P, kd_F, ln_N, ln_I, ln_P, ln_F, I_N, I_I, I_P, I_F, P_N, P_I, P_P, P_F, hb, hb0, hz, hz0, f98]) ?_)
  try unfold fn_Md_look
  refine rn_gI (x := (1 : Int32)) (by simp [n_N, n_I, n_P, n_F, kd_N, kd_I, kd_P, kd_F, ln_N, ln_I, ln_P, ln_F, I_N, I_I, I_P, I_F, P_N, P_I, P_P, P_F, hb, hb0, hz, hz0, f98]) (by simp [n_N, n_I, n_P, n_F, kd_N, kd_I, kd_P, kd_F, ln_N, ln_I, ln_P, ln_F, I_N, I_I, I_P, I_F, P_N, P_I, P_P, P_F, hb, hb0, hz, hz0, f82]) ?_
  refine rn_gI (x := (0 : Int32)) (by simp [n_N, n_I, n_P, n_F, kd_N, kd_I, kd_P, kd_F, ln_N, ln_I, ln_P, ln_F, I_N, I_I, I_P, I_F, P_N, P_I, P_P, P_F, hb, hb0, hz, hz0, f98]) (by simp [n_N, n_I, n_P, n_F, kd_N, kd_I, kd_P, kd_F, ln_N, ln_I, ln_P, ln_F, I_N, I_I, I_P, I_F, P_N, P_I, P_P, P_F, hb, hb0, hz, hz0, f81]) ?_
  refine rn_t (by decide) ?_
  try unfold fn_Md_look_J38
  refine rn_gI (x := (1 : Int32)) (by simp [n_N, n_I, n_P, n_F, kd_N, kd_I, kd_P, kd_F, ln_N, ln_I, ln_P, ln_F, I_N, I_I, I_P, I_F, P_N, P_I, P_P, P_F, hb, hb0, hz, hz0, f98]) (by simp [n_N, n_I, n_P, n_F, kd_N, kd_I, kd_P, kd_F, ln_N, ln_I, ln_P, ln_F, I_N, I_I, I_P, I_F, P_N, P_I, P_P, P_F, hb, hb0, hz, hz0, f82]) ?_
  refine rn_gI (x := (0 : Int32)) (by simp [n_N, n_I, n_P, n_F, kd_N, kd_I, kd_P, kd_F, ln_N, ln_I, ln_P, ln_F, I_N, I_I, I_P, I_F, P_N, P_I, P_P, P_F, hb, hb0, hz, hz0, f98]) (by simp [n_N, n_I, n_P, n_F, kd_N, kd_I, kd_P, kd_F, ln_N, ln_I, ln_P, ln_F, I_N, I_I, I_P, I_F, P_N, P_I, P_P, P_F, hb, hb0, hz, hz0, f81]) ?_
  refine rn_t (by decide) ?_
  refine rn_ret ?_
  refine rn_f (by decide) ?_
  refine rn_ret ?_
  refine rn_bnd (rn_cV (by simp [n_N, n_I, n_P, n_F, kd_N, kd_I, kd_P, kd_F, ln_N, ln_I, ln_P, ln_F, I_N, I_I, I_P, I_F, P_N, P_I, P_P, P_F, hb, hb0, hz, hz0, f98]) ?_)
  try unfold fn_Md_expect
  refine rn_bnd (rn_cV (by simp [n_N, n_I, n_P, n_F, kd_N, kd_I, kd_P, kd_F, ln_N, ln_I, ln_P, ln_F, I_N, I_I, I_P, I_F, P_N, P_I, P_P, P_F, hb, hb0, hz, hz0, f98]) ?_)
  try unfold fn_Md_look
  refine rn_gI (x := (1 : Int32)) (by simp [n_N, n_I, n_P, n_F, kd_N, kd_I, kd_P, kd_F, ln_N, ln_I, ln_P, ln_F, I_N, I_I, I_P, I_F, P_N, P_I, P_P, P_F, hb, hb0, hz, hz0, f98]) (by simp [n_N, n_I, n_P, n_F, kd_N, kd_I, kd_P, kd_F, ln_N, ln_I, ln_P, ln_F, I_N, I_I, I_P, I_F, P_N, P_I, P_P, P_F, hb, hb0, hz, hz0, f82]) ?_
  refine rn_gI (x := (0 : Int32)) (by simp [n_N, n_I, n_P, n_F, kd_N, kd_I, kd_P, kd_F, ln_N, ln_I, ln_P, ln_F, I_N, I_I, I_P, I_F, P_N, P_I, P_P, P_F, hb, hb0, hz, hz0, f98]) (by simp [n_N, n_I, n_P, n_F, kd_N, kd_I, kd_P, kd_F, ln_N, ln_I, ln_P, ln_F, I_N, I_I, I_P, I_F, P_N, P_I, P_P, P_F, hb, hb0, hz, hz0, f81]) ?_
  refine rn_t (by decide) ?_
  try unfold fn_Md_look_J38
  refine rn_gI (x := (1 : Int32)) (by simp [n_N, n_I, n_P, n_F, kd_N, kd_I, kd_P, kd_F, ln_N, ln_I, ln_P, ln_F, I_N, I_I, I_P, I_F, P_N, P_I, P_P, P_F, hb, hb0, hz, hz0, f98]) (by simp [n_N, n_I, n_P, n_F, kd_N, kd_I, kd_P, kd_F, ln_N, ln_I, ln_P, ln_F, I_N, I_I, I_P, I_F, P_N, P_I, P_P, P_F, hb, hb0, hz, hz0, f82]) ?_
  refine rn_gI (x := (0 : Int32)) (by simp [n_N, n_I, n_P, n_F, kd_N, kd_I, kd_P, kd_F, ln_N, ln_I, ln_P, ln_F, I_N, I_I, I_P, I_F, P_N, P_I, P_P, P_F, hb, hb0, hz, hz0, f98]) (by simp [n_N, n_I, n_P, n_F, kd_N, kd_I, kd_P, kd_F, ln_N, ln_I, ln_P, ln_F, I_N, I_I, I_P, I_F, P_N, P_I, P_P, P_F, hb, hb0, hz, hz0, f81]) ?_
  refine rn_t (by decide) ?_
  refine rn_ret ?_
  refine rn_f (by decide) ?_
  refine rn_bnd (rn_cV (by simp [n_N, n_I, n_P, n_F, kd_N, kd_I, kd_P, kd_F, ln_N, ln_I, ln_P, ln_F, I_N, I_I, I_P, I_F, P_N, P_I, P_P, P_F, hb, hb0, hz, hz0, f98]) ?_)
  try unfold fn_Md_fail
  refine rn_bnd (rn_cV (by simp [n_N, n_I, n_P, n_F, kd_N, kd_I, kd_P, kd_F, ln_N, ln_I, ln_P, ln_F, I_N, I_I, I_P, I_F, P_N, P_I, P_P, P_F, hb, hb0, hz, hz0, f98]) ?_)
  try unfold fn_Md_look
  refine rn_gI (x := (1 : Int32)) (by simp [n_N, n_I, n_P, n_F, kd_N, kd_I, kd_P, kd_F, ln_N, ln_I, ln_P, ln_F, I_N, I_I, I_P, I_F, P_N, P_I, P_P, P_F, hb, hb0, hz, hz0, f98]) (by simp [n_N, n_I, n_P, n_F, kd_N, kd_I, kd_P, kd_F, ln_N, ln_I, ln_P, ln_F, I_N, I_I, I_P, I_F, P_N, P_I, P_P, P_F, hb, hb0, hz, hz0, f82]) ?_
  refine rn_gI (x := (0 : Int32)) (by simp [n_N, n_I, n_P, n_F, kd_N, kd_I, kd_P, kd_F, ln_N, ln_I, ln_P, ln_F, I_N, I_I, I_P, I_F, P_N, P_I, P_P, P_F, hb, hb0, hz, hz0, f98]) (by simp [n_N, n_I, n_P, n_F, kd_N, kd_I, kd_P, kd_F, ln_N, ln_I, ln_P, ln_F, I_N, I_I, I_P, I_F, P_N, P_I, P_P, P_F, hb, hb0, hz, hz0, f81]) ?_
  refine rn_t (by decide) ?_
  try unfold fn_Md_look_J38
  refine rn_gI (x := (1 : Int32)) (by simp [n_N, n_I, n_P, n_F, kd_N, kd_I, kd_P, kd_F, ln_N, ln_I, ln_P, ln_F, I_N, I_I, I_P, I_F, P_N, P_I, P_P, P_F, hb, hb0, hz, hz0, f98]) (by simp [n_N, n_I, n_P, n_F, kd_N, kd_I, kd_P, kd_F, ln_N, ln_I, ln_P, ln_F, I_N, I_I, I_P, I_F, P_N, P_I, P_P, P_F, hb, hb0, hz, hz0, f82]) ?_
  refine rn_gI (x := (0 : Int32)) (by simp [n_N, n_I, n_P, n_F, kd_N, kd_I, kd_P, kd_F, ln_N, ln_I, ln_P, ln_F, I_N, I_I, I_P, I_F, P_N, P_I, P_P, P_F, hb, hb0, hz, hz0, f98]) (by simp [n_N, n_I, n_P, n_F, kd_N, kd_I, kd_P, kd_F, ln_N, ln_I, ln_P, ln_F, I_N, I_I, I_P, I_F, P_N, P_I, P_P, P_F, hb, hb0, hz, hz0, f81]) ?_
  refine rn_t (by decide) ?_
  refine rn_ret ?_
  refine rn_gI (x := (0 : Int32)) (by simp [n_N, n_I, n_P, n_F, kd_N, kd_I, kd_P, kd_F, ln_N, ln_I, ln_P, ln_F, I_N, I_I, I_P, I_F, P_N, P_I, P_P, P_F, hb, hb0, hz, hz0, f98]) (by simp [n_N, n_I, n_P, n_F, kd_N, kd_I, kd_P, kd_F, ln_N, ln_I, ln_P, ln_F, I_N, I_I, I_P, I_F, P_N, P_I, P_P, P_F, hb, hb0, hz, hz0, f84]) ?_
  refine rn_t (by decide) ?_
  refine rn_gI (x := (0 : Int32)) (by simp [n_N, n_I, n_P, n_F, kd_N, kd_I, kd_P, kd_F, ln_N, ln_I, ln_P, ln_F, I_N, I_I, I_P, I_F, P_N, P_I, P_P, P_F, hb, hb0, hz, hz0, f98]) (by simp [n_N, n_I, n_P, n_F, kd_N, kd_I, kd_P, kd_F, ln_N, ln_I, ln_P, ln_F, I_N, I_I, I_P, I_F, P_N, P_I, P_P, P_F, hb, hb0, hz, hz0, f84]) ?_
  try unfold fn_Md_fail_J24
  refine rn_pI (by simp [n_N, n_I, n_P, n_F, kd_N, kd_I, kd_P, kd_F, ln_N, ln_I, ln_P, ln_F, I_N, I_I, I_P, I_F, P_N, P_I, P_P, P_F, hb, hb0, hz, hz0, f98]) ?_
  refine rn_ret ?_
  try unfold fn_Md_expect_J12
  refine rn_gI (x := (1 : Int32)) (by simp [n_N, n_I, n_P, n_F, kd_N, kd_I, kd_P, kd_F, ln_N, ln_I, ln_P, ln_F, I_N, I_I, I_P, I_F, P_N, P_I, P_P, P_F, hb, hb0, hz, hz0, f98]) (by simp [n_N, n_I, n_P, n_F, kd_N, kd_I, kd_P, kd_F, ln_N, ln_I, ln_P, ln_F, I_N, I_I, I_P, I_F, P_N, P_I, P_P, P_F, hb, hb0, hz, hz0, f82]) ?_
  refine rn_pI (by simp [n_N, n_I, n_P, n_F, kd_N, kd_I, kd_P, kd_F, ln_N, ln_I, ln_P, ln_F, I_N, I_I, I_P, I_F, P_N, P_I, P_P, P_F, hb, hb0, hz, hz0, f98]) ?_
  refine rn_ret ?_
  refine rn_bnd (rn_cV (by simp [n_N, n_I, n_P, n_F, kd_N, kd_I, kd_P, kd_F, ln_N, ln_I, ln_P, ln_F, I_N, I_I, I_P, I_F, P_N, P_I, P_P, P_F, hb, hb0, hz, hz0, f98]) ?_)
  try unfold fn_Md_readType
  refine rn_lpv (s := ((0 : Int32), (0 : Int32), (0 : Int32))) (by first | rfl | decide) ?_
  refine rn_lp (m := 1999999) ?_
  rw [fn_Md_readType_B7]
  refine rn_gI (x := (0 : Int32)) (by simp [n_N, n_I, n_P, n_F, kd_N, kd_I, kd_P, kd_F, ln_N, ln_I, ln_P, ln_F, I_N, I_I, I_P, I_F, P_N, P_I, P_P, P_F, hb, hb0, hz, hz0, f98]) (by simp [n_N, n_I, n_P, n_F, kd_N, kd_I, kd_P, kd_F, ln_N, ln_I, ln_P, ln_F, I_N, I_I, I_P, I_F, P_N, P_I, P_P, P_F, hb, hb0, hz, hz0, f84]) ?_
  refine rn_t (by decide) ?_
  refine rn_ret ?_
  refine rn_bnd (rn_cV (by simp [n_N, n_I, n_P, n_F, kd_N, kd_I, kd_P, kd_F, ln_N, ln_I, ln_P, ln_F, I_N, I_I, I_P, I_F, P_N, P_I, P_P, P_F, hb, hb0, hz, hz0, f98]) ?_)
  try unfold fn_Md_open
  refine rn_bnd (rn_cV (by simp [n_N, n_I, n_P, n_F, kd_N, kd_I, kd_P, kd_F, ln_N, ln_I, ln_P, ln_F, I_N, I_I, I_P, I_F, P_N, P_I, P_P, P_F, hb, hb0, hz, hz0, f98]) ?_)
  try unfold fn_Md_look
  refine rn_gI (x := (2 : Int32)) (by simp [n_N, n_I, n_P, n_F, kd_N, kd_I, kd_P, kd_F, ln_N, ln_I, ln_P, ln_F, I_N, I_I, I_P, I_F, P_N, P_I, P_P, P_F, hb, hb0, hz, hz0, f98]) (by simp [n_N, n_I, n_P, n_F, kd_N, kd_I, kd_P, kd_F, ln_N, ln_I, ln_P, ln_F, I_N, I_I, I_P, I_F, P_N, P_I, P_P, P_F, hb, hb0, hz, hz0, f82]) ?_
  refine rn_gI (x := (0 : Int32)) (by simp [n_N, n_I, n_P, n_F, kd_N, kd_I, kd_P, kd_F, ln_N, ln_I, ln_P, ln_F, I_N, I_I, I_P, I_F, P_N, P_I, P_P, P_F, hb, hb0, hz, hz0, f98]) (by simp [n_N, n_I, n_P, n_F, kd_N, kd_I, kd_P, kd_F, ln_N, ln_I, ln_P, ln_F, I_N, I_I, I_P, I_F, P_N, P_I, P_P, P_F, hb, hb0, hz, hz0, f81]) ?_
  refine rn_t (by decide) ?_
  try unfold fn_Md_look_J38
  refine rn_gI (x := (2 : Int32)) (by simp [n_N, n_I, n_P, n_F, kd_N, kd_I, kd_P, kd_F, ln_N, ln_I, ln_P, ln_F, I_N, I_I, I_P, I_F, P_N, P_I, P_P, P_F, hb, hb0, hz, hz0, f98]) (by simp [n_N, n_I, n_P, n_F, kd_N, kd_I, kd_P, kd_F, ln_N, ln_I, ln_P, ln_F, I_N, I_I, I_P, I_F, P_N, P_I, P_P, P_F, hb, hb0, hz, hz0, f82]) ?_
  refine rn_gI (x := (0 : Int32)) (by simp [n_N, n_I, n_P, n_F, kd_N, kd_I, kd_P, kd_F, ln_N, ln_I, ln_P, ln_F, I_N, I_I, I_P, I_F, P_N, P_I, P_P, P_F, hb, hb0, hz, hz0, f98]) (by simp [n_N, n_I, n_P, n_F, kd_N, kd_I, kd_P, kd_F, ln_N, ln_I, ln_P, ln_F, I_N, I_I, I_P, I_F, P_N, P_I, P_P, P_F, hb, hb0, hz, hz0, f81]) ?_
  refine rn_t (by decide) ?_
  refine rn_ret ?_
  refine rn_f (by decide) ?_
  try unfold fn_Md_open_J17
  refine rn_bnd (rn_cV (by simp [n_N, n_I, n_P, n_F, kd_N, kd_I, kd_P, kd_F, ln_N, ln_I, ln_P, ln_F, I_N, I_I, I_P, I_F, P_N, P_I, P_P, P_F, hb, hb0, hz, hz0, f98]) ?_)
  try unfold fn_Md_fail
  refine rn_bnd (rn_cV (by simp [n_N, n_I, n_P, n_F, kd_N, kd_I, kd_P, kd_F, ln_N, ln_I, ln_P, ln_F, I_N, I_I, I_P, I_F, P_N, P_I, P_P, P_F, hb, hb0, hz, hz0, f98]) ?_)
  try unfold fn_Md_look
  refine rn_gI (x := (2 : Int32)) (by simp [n_N, n_I, n_P, n_F, kd_N, kd_I, kd_P, kd_F, ln_N, ln_I, ln_P, ln_F, I_N, I_I, I_P, I_F, P_N, P_I, P_P, P_F, hb, hb0, hz, hz0, f98]) (by simp [n_N, n_I, n_P, n_F, kd_N, kd_I, kd_P, kd_F, ln_N, ln_I, ln_P, ln_F, I_N, I_I, I_P, I_F, P_N, P_I, P_P, P_F, hb, hb0, hz, hz0, f82]) ?_
  refine rn_gI (x := (0 : Int32)) (by simp [n_N, n_I, n_P, n_F, kd_N, kd_I, kd_P, kd_F, ln_N, ln_I, ln_P, ln_F, I_N, I_I, I_P, I_F, P_N, P_I, P_P, P_F, hb, hb0, hz, hz0, f98]) (by simp [n_N, n_I, n_P, n_F, kd_N, kd_I, kd_P, kd_F, ln_N, ln_I, ln_P, ln_F, I_N, I_I, I_P, I_F, P_N, P_I, P_P, P_F, hb, hb0, hz, hz0, f81]) ?_
  refine rn_t (by decide) ?_
  try unfold fn_Md_look_J38
  refine rn_gI (x := (2 : Int32)) (by simp [n_N, n_I, n_P, n_F, kd_N, kd_I, kd_P, kd_F, ln_N, ln_I, ln_P, ln_F, I_N, I_I, I_P, I_F, P_N, P_I, P_P, P_F, hb, hb0, hz, hz0, f98]) (by simp [n_N, n_I, n_P, n_F, kd_N, kd_I, kd_P, kd_F, ln_N, ln_I, ln_P, ln_F, I_N, I_I, I_P, I_F, P_N, P_I, P_P, P_F, hb, hb0, hz, hz0, f82]) ?_
  refine rn_gI (x := (0 : Int32)) (by simp [n_N, n_I, n_P, n_F, kd_N, kd_I, kd_P, kd_F, ln_N, ln_I, ln_P, ln_F, I_N, I_I, I_P, I_F, P_N, P_I, P_P, P_F, hb, hb0, hz, hz0, f98]) (by simp [n_N, n_I, n_P, n_F, kd_N, kd_I, kd_P, kd_F, ln_N, ln_I, ln_P, ln_F, I_N, I_I, I_P, I_F, P_N, P_I, P_P, P_F, hb, hb0, hz, hz0, f81]) ?_
  refine rn_t (by decide) ?_
  refine rn_ret ?_
  refine rn_gI (x := (0 : Int32)) (by simp [n_N, n_I, n_P, n_F, kd_N, kd_I, kd_P, kd_F, ln_N, ln_I, ln_P, ln_F, I_N, I_I, I_P, I_F, P_N, P_I, P_P, P_F, hb, hb0, hz, hz0, f98]) (by simp [n_N, n_I, n_P, n_F, kd_N, kd_I, kd_P, kd_F, ln_N, ln_I, ln_P, ln_F, I_N, I_I, I_P, I_F, P_N, P_I, P_P, P_F, hb, hb0, hz, hz0, f84]) ?_
  refine rn_t (by decide) ?_
  refine rn_gI (x := (0 : Int32)) (by simp [n_N, n_I, n_P, n_F, kd_N, kd_I, kd_P, kd_F, ln_N, ln_I, ln_P, ln_F, I_N, I_I, I_P, I_F, P_N, P_I, P_P, P_F, hb, hb0, hz, hz0, f98]) (by simp [n_N, n_I, n_P, n_F, kd_N, kd_I, kd_P, kd_F, ln_N, ln_I, ln_P, ln_F, I_N, I_I, I_P, I_F, P_N, P_I, P_P, P_F, hb, hb0, hz, hz0, f84]) ?_
  try unfold fn_Md_fail_J24
  refine rn_pI (by simp [n_N, n_I, n_P, n_F, kd_N, kd_I, kd_P, kd_F, ln_N, ln_I, ln_P, ln_F, I_N, I_I, I_P, I_F, P_N, P_I, P_P, P_F, hb, hb0, hz, hz0, f98]) ?_
  refine rn_ret ?_
  try unfold fn_Md_open_J21
  refine rn_gI (x := (2 : Int32)) (by simp [n_N, n_I, n_P, n_F, kd_N, kd_I, kd_P, kd_F, ln_N, ln_I, ln_P, ln_F, I_N, I_I, I_P, I_F, P_N, P_I, P_P, P_F, hb, hb0, hz, hz0, f98]) (by simp [n_N, n_I, n_P, n_F, kd_N, kd_I, kd_P, kd_F, ln_N, ln_I, ln_P, ln_F, I_N, I_I, I_P, I_F, P_N, P_I, P_P, P_F, hb, hb0, hz, hz0, f82]) ?_
  refine rn_pI (by simp [n_N, n_I, n_P, n_F, kd_N, kd_I, kd_P, kd_F, ln_N, ln_I, ln_P, ln_F, I_N, I_I, I_P, I_F, P_N, P_I, P_P, P_F, hb, hb0, hz, hz0, f98]) ?_
  refine rn_gI (x := (0 : Int32)) (by simp [n_N, n_I, n_P, n_F, kd_N, kd_I, kd_P, kd_F, ln_N, ln_I, ln_P, ln_F, I_N, I_I, I_P, I_F, P_N, P_I, P_P, P_F, hb, hb0, hz, hz0, f98]) (by simp [n_N, n_I, n_P, n_F, kd_N, kd_I, kd_P, kd_F, ln_N, ln_I, ln_P, ln_F, I_N, I_I, I_P, I_F, P_N, P_I, P_P, P_F, hb, hb0, hz, hz0, f83]) ?_
  refine rn_pI (by simp [n_N, n_I, n_P, n_F, kd_N, kd_I, kd_P, kd_F, ln_N, ln_I, ln_P, ln_F, I_N, I_I, I_P, I_F, P_N, P_I, P_P, P_F, hb, hb0, hz, hz0, f98]) ?_
  refine rn_ret ?_
  refine rn_pI (by simp [n_N, n_I, n_P, n_F, kd_N, kd_I, kd_P, kd_F, ln_N, ln_I, ln_P, ln_F, I_N, I_I, I_P, I_F, P_N, P_I, P_P, P_F, hb, hb0, hz, hz0, f98]) ?_
  refine rn_lpv (s := ()) (by first | rfl | decide) ?_
  refine rn_lp (m := 1999999) ?_
  rw [fn_Md_declare_B74]
  refine rn_gI (x := (0 : Int32)) (by simp [n_N, n_I, n_P, n_F, kd_N, kd_I, kd_P, kd_F, ln_N, ln_I, ln_P, ln_F, I_N, I_I, I_P, I_F, P_N, P_I, P_P, P_F, hb, hb0, hz, hz0, f98]) (by simp [n_N, n_I, n_P, n_F, kd_N, kd_I, kd_P, kd_F, ln_N, ln_I, ln_P, ln_F, I_N, I_I, I_P, I_F, P_N, P_I, P_P, P_F, hb, hb0, hz, hz0, f84]) ?_
  refine rn_t (by decide) ?_
  try unfold fn_Md_declare_J99
  refine rn_bnd (rn_cV (by simp [n_N, n_I, n_P, n_F, kd_N, kd_I, kd_P, kd_F, ln_N, ln_I, ln_P, ln_F, I_N, I_I, I_P, I_F, P_N, P_I, P_P, P_F, hb, hb0, hz, hz0, f98]) ?_)
  try unfold fn_Md_close
  refine rn_bnd (rn_cV (by simp [n_N, n_I, n_P, n_F, kd_N, kd_I, kd_P, kd_F, ln_N, ln_I, ln_P, ln_F, I_N, I_I, I_P, I_F, P_N, P_I, P_P, P_F, hb, hb0, hz, hz0, f98]) ?_)
  try unfold fn_Md_look
  refine rn_gI (x := (3 : Int32)) (by simp [n_N, n_I, n_P, n_F, kd_N, kd_I, kd_P, kd_F, ln_N, ln_I, ln_P, ln_F, I_N, I_I, I_P, I_F, P_N, P_I, P_P, P_F, hb, hb0, hz, hz0, f98]) (by simp [n_N, n_I, n_P, n_F, kd_N, kd_I, kd_P, kd_F, ln_N, ln_I, ln_P, ln_F, I_N, I_I, I_P, I_F, P_N, P_I, P_P, P_F, hb, hb0, hz, hz0, f82]) ?_
  refine rn_gI (x := (0 : Int32)) (by simp [n_N, n_I, n_P, n_F, kd_N, kd_I, kd_P, kd_F, ln_N, ln_I, ln_P, ln_F, I_N, I_I, I_P, I_F, P_N, P_I, P_P, P_F, hb, hb0, hz, hz0, f98]) (by simp [n_N, n_I, n_P, n_F, kd_N, kd_I, kd_P, kd_F, ln_N, ln_I, ln_P, ln_F, I_N, I_I, I_P, I_F, P_N, P_I, P_P, P_F, hb, hb0, hz, hz0, f81]) ?_
  refine rn_t (by decide) ?_
  try unfold fn_Md_look_J38
  refine rn_gI (x := (3 : Int32)) (by simp [n_N, n_I, n_P, n_F, kd_N, kd_I, kd_P, kd_F, ln_N, ln_I, ln_P, ln_F, I_N, I_I, I_P, I_F, P_N, P_I, P_P, P_F, hb, hb0, hz, hz0, f98]) (by simp [n_N, n_I, n_P, n_F, kd_N, kd_I, kd_P, kd_F, ln_N, ln_I, ln_P, ln_F, I_N, I_I, I_P, I_F, P_N, P_I, P_P, P_F, hb, hb0, hz, hz0, f82]) ?_
  refine rn_gI (x := (0 : Int32)) (by simp [n_N, n_I, n_P, n_F, kd_N, kd_I, kd_P, kd_F, ln_N, ln_I, ln_P, ln_F, I_N, I_I, I_P, I_F, P_N, P_I, P_P, P_F, hb, hb0, hz, hz0, f98]) (by simp [n_N, n_I, n_P, n_F, kd_N, kd_I, kd_P, kd_F, ln_N, ln_I, ln_P, ln_F, I_N, I_I, I_P, I_F, P_N, P_I, P_P, P_F, hb, hb0, hz, hz0, f81]) ?_
  refine rn_t (by decide) ?_
  refine rn_ret ?_
  refine rn_f (by decide) ?_
  refine rn_bnd (rn_cV (by simp [n_N, n_I, n_P, n_F, kd_N, kd_I, kd_P, kd_F, ln_N, ln_I, ln_P, ln_F, I_N, I_I, I_P, I_F, P_N, P_I, P_P, P_F, hb, hb0, hz, hz0, f98]) ?_)
  try unfold fn_Md_fail
  refine rn_bnd (rn_cV (by simp [n_N, n_I, n_P, n_F, kd_N, kd_I, kd_P, kd_F, ln_N, ln_I, ln_P, ln_F, I_N, I_I, I_P, I_F, P_N, P_I, P_P, P_F, hb, hb0, hz, hz0, f98]) ?_)
  try unfold fn_Md_look
  refine rn_gI (x := (3 : Int32)) (by simp [n_N, n_I, n_P, n_F, kd_N, kd_I, kd_P, kd_F, ln_N, ln_I, ln_P, ln_F, I_N, I_I, I_P, I_F, P_N, P_I, P_P, P_F, hb, hb0, hz, hz0, f98]) (by simp [n_N, n_I, n_P, n_F, kd_N, kd_I, kd_P, kd_F, ln_N, ln_I, ln_P, ln_F, I_N, I_I, I_P, I_F, P_N, P_I, P_P, P_F, hb, hb0, hz, hz0, f82]) ?_
  refine rn_gI (x := (0 : Int32)) (by simp [n_N, n_I, n_P, n_F, kd_N, kd_I, kd_P, kd_F, ln_N, ln_I, ln_P, ln_F, I_N, I_I, I_P, I_F, P_N, P_I, P_P, P_F, hb, hb0, hz, hz0, f98]) (by simp [n_N, n_I, n_P, n_F, kd_N, kd_I, kd_P, kd_F, ln_N, ln_I, ln_P, ln_F, I_N, I_I, I_P, I_F, P_N, P_I, P_P, P_F, hb, hb0, hz, hz0, f81]) ?_
  refine rn_t (by decide) ?_
  try unfold fn_Md_look_J38
  refine rn_gI (x := (3 : Int32)) (by simp [n_N, n_I, n_P, n_F, kd_N, kd_I, kd_P, kd_F, ln_N, ln_I, ln_P, ln_F, I_N, I_I, I_P, I_F, P_N, P_I, P_P, P_F, hb, hb0, hz, hz0, f98]) (by simp [n_N, n_I, n_P, n_F, kd_N, kd_I, kd_P, kd_F, ln_N, ln_I, ln_P, ln_F, I_N, I_I, I_P, I_F, P_N, P_I, P_P, P_F, hb, hb0, hz, hz0, f82]) ?_
  refine rn_gI (x := (0 : Int32)) (by simp [n_N, n_I, n_P, n_F, kd_N, kd_I, kd_P, kd_F, ln_N, ln_I, ln_P, ln_F, I_N, I_I, I_P, I_F, P_N, P_I, P_P, P_F, hb, hb0, hz, hz0, f98]) (by simp [n_N, n_I, n_P, n_F, kd_N, kd_I, kd_P, kd_F, ln_N, ln_I, ln_P, ln_F, I_N, I_I, I_P, I_F, P_N, P_I, P_P, P_F, hb, hb0, hz, hz0, f81]) ?_
  refine rn_t (by decide) ?_
  refine rn_ret ?_
  refine rn_gI (x := (0 : Int32)) (by simp [n_N, n_I, n_P, n_F, kd_N, kd_I, kd_P, kd_F, ln_N, ln_I, ln_P, ln_F, I_N, I_I, I_P, I_F, P_N, P_I, P_P, P_F, hb, hb0, hz, hz0, f98]) (by simp [n_N, n_I, n_P, n_F, kd_N, kd_I, kd_P, kd_F, ln_N, ln_I, ln_P, ln_F, I_N, I_I, I_P, I_F, P_N, P_I, P_P, P_F, hb, hb0, hz, hz0, f84]) ?_
  refine rn_t (by decide) ?_
  refine rn_gI (x := (0 : Int32)) (by simp [n_N, n_I, n_P, n_F, kd_N, kd_I, kd_P, kd_F, ln_N, ln_I, ln_P, ln_F, I_N, I_I, I_P, I_F, P_N, P_I, P_P, P_F, hb, hb0, hz, hz0, f98]) (by simp [n_N, n_I, n_P, n_F, kd_N, kd_I, kd_P, kd_F, ln_N, ln_I, ln_P, ln_F, I_N, I_I, I_P, I_F, P_N, P_I, P_P, P_F, hb, hb0, hz, hz0, f84]) ?_
  try unfold fn_Md_fail_J24
  refine rn_pI (by simp [n_N, n_I, n_P, n_F, kd_N, kd_I, kd_P, kd_F, ln_N, ln_I, ln_P, ln_F, I_N, I_I, I_P, I_F, P_N, P_I, P_P, P_F, hb, hb0, hz, hz0, f98]) ?_
  refine rn_ret ?_
  try unfold fn_Md_close_J12
  refine rn_gI (x := (3 : Int32)) (by simp [n_N, n_I, n_P, n_F, kd_N, kd_I, kd_P, kd_F, ln_N, ln_I, ln_P, ln_F, I_N, I_I, I_P, I_F, P_N, P_I, P_P, P_F, hb, hb0, hz, hz0, f98]) (by simp [n_N, n_I, n_P, n_F, kd_N, kd_I, kd_P, kd_F, ln_N, ln_I, ln_P, ln_F, I_N, I_I, I_P, I_F, P_N, P_I, P_P, P_F, hb, hb0, hz, hz0, f82]) ?_
  refine rn_pI (by simp [n_N, n_I, n_P, n_F, kd_N, kd_I, kd_P, kd_F, ln_N, ln_I, ln_P, ln_F, I_N, I_I, I_P, I_F, P_N, P_I, P_P, P_F, hb, hb0, hz, hz0, f98]) ?_
  refine rn_gI (x := (1 : Int32)) (by simp [n_N, n_I, n_P, n_F, kd_N, kd_I, kd_P, kd_F, ln_N, ln_I, ln_P, ln_F, I_N, I_I, I_P, I_F, P_N, P_I, P_P, P_F, hb, hb0, hz, hz0, f98]) (by simp [n_N, n_I, n_P, n_F, kd_N, kd_I, kd_P, kd_F, ln_N, ln_I, ln_P, ln_F, I_N, I_I, I_P, I_F, P_N, P_I, P_P, P_F, hb, hb0, hz, hz0, f83]) ?_
  refine rn_pI (by simp [n_N, n_I, n_P, n_F, kd_N, kd_I, kd_P, kd_F, ln_N, ln_I, ln_P, ln_F, I_N, I_I, I_P, I_F, P_N, P_I, P_P, P_F, hb, hb0, hz, hz0, f98]) ?_
  refine rn_ret ?_
  refine rn_bnd (rn_cV (by simp [n_N, n_I, n_P, n_F, kd_N, kd_I, kd_P, kd_F, ln_N, ln_I, ln_P, ln_F, I_N, I_I, I_P, I_F, P_N, P_I, P_P, P_F, hb, hb0, hz, hz0, f98]) ?_)
  try unfold fn_Md_look
  refine rn_gI (x := (4 : Int32)) (by simp [n_N, n_I, n_P, n_F, kd_N, kd_I, kd_P, kd_F, ln_N, ln_I, ln_P, ln_F, I_N, I_I, I_P, I_F, P_N, P_I, P_P, P_F, hb, hb0, hz, hz0, f98]) (by simp [n_N, n_I, n_P, n_F, kd_N, kd_I, kd_P, kd_F, ln_N, ln_I, ln_P, ln_F, I_N, I_I, I_P, I_F, P_N, P_I, P_P, P_F, hb, hb0, hz, hz0, f82]) ?_
  refine rn_gI (x := (0 : Int32)) (by simp [n_N, n_I, n_P, n_F, kd_N, kd_I, kd_P, kd_F, ln_N, ln_I, ln_P, ln_F, I_N, I_I, I_P, I_F, P_N, P_I, P_P, P_F, hb, hb0, hz, hz0, f98]) (by simp [n_N, n_I, n_P, n_F, kd_N, kd_I, kd_P, kd_F, ln_N, ln_I, ln_P, ln_F, I_N, I_I, I_P, I_F, P_N, P_I, P_P, P_F, hb, hb0, hz, hz0, f81]) ?_
  refine rn_t (by decide) ?_
  try unfold fn_Md_look_J38
  refine rn_gI (x := (4 : Int32)) (by simp [n_N, n_I, n_P, n_F, kd_N, kd_I, kd_P, kd_F, ln_N, ln_I, ln_P, ln_F, I_N, I_I, I_P, I_F, P_N, P_I, P_P, P_F, hb, hb0, hz, hz0, f98]) (by simp [n_N, n_I, n_P, n_F, kd_N, kd_I, kd_P, kd_F, ln_N, ln_I, ln_P, ln_F, I_N, I_I, I_P, I_F, P_N, P_I, P_P, P_F, hb, hb0, hz, hz0, f82]) ?_
  refine rn_gI (x := (0 : Int32)) (by simp [n_N, n_I, n_P, n_F, kd_N, kd_I, kd_P, kd_F, ln_N, ln_I, ln_P, ln_F, I_N, I_I, I_P, I_F, P_N, P_I, P_P, P_F, hb, hb0, hz, hz0, f98]) (by simp [n_N, n_I, n_P, n_F, kd_N, kd_I, kd_P, kd_F, ln_N, ln_I, ln_P, ln_F, I_N, I_I, I_P, I_F, P_N, P_I, P_P, P_F, hb, hb0, hz, hz0, f81]) ?_
  refine rn_t (by decide) ?_
  refine rn_ret ?_
  refine rn_t (by decide) ?_
  try unfold fn_Md_declare_J116
  refine rn_gI (x := (8 : Int32)) (by simp [n_N, n_I, n_P, n_F, kd_N, kd_I, kd_P, kd_F, ln_N, ln_I, ln_P, ln_F, I_N, I_I, I_P, I_F, P_N, P_I, P_P, P_F, hb, hb0, hz, hz0, f98]) (by simp [n_N, n_I, n_P, n_F, kd_N, kd_I, kd_P, kd_F, ln_N, ln_I, ln_P, ln_F, I_N, I_I, I_P, I_F, P_N, P_I, P_P, P_F, hb, hb0, hz, hz0, f85]) ?_
  refine rn_pI (by simp [n_N, n_I, n_P, n_F, kd_N, kd_I, kd_P, kd_F, ln_N, ln_I, ln_P, ln_F, I_N, I_I, I_P, I_F, P_N, P_I, P_P, P_F, hb, hb0, hz, hz0, f98]) ?_
  refine rn_gI (x := (0 : Int32)) (by simp [n_N, n_I, n_P, n_F, kd_N, kd_I, kd_P, kd_F, ln_N, ln_I, ln_P, ln_F, I_N, I_I, I_P, I_F, P_N, P_I, P_P, P_F, hb, hb0, hz, hz0, f98]) (by simp [n_N, n_I, n_P, n_F, kd_N, kd_I, kd_P, kd_F, ln_N, ln_I, ln_P, ln_F, I_N, I_I, I_P, I_F, P_N, P_I, P_P, P_F, hb, hb0, hz, hz0, f84]) ?_
  refine rn_t (by decide) ?_
  try unfold fn_Md_declare_J144
  refine rn_bnd (rn_cV (by simp [n_N, n_I, n_P, n_F, kd_N, kd_I, kd_P, kd_F, ln_N, ln_I, ln_P, ln_F, I_N, I_I, I_P, I_F, P_N, P_I, P_P, P_F, hb, hb0, hz, hz0, f98]) ?_)
  try unfold fn_Md_noScope
  refine rn_lpv (s := (0 : Int32)) (by first | rfl | decide) ?_
  refine rn_lp (m := 1999999) ?_
  rw [fn_Md_noScope_B2]
  refine rn_f (by decide) ?_
  refine rn_gR (r := (some (n0 + 49))) (by simp [n_N, n_I, n_P, n_F, kd_N, kd_I, kd_P, kd_F, ln_N, ln_I, ln_P, ln_F, I_N, I_I, I_P, I_F, P_N, P_I, P_P, P_F, hb, hb0, hz, hz0, f98]) (by simp [n_N, n_I, n_P, n_F, kd_N, kd_I, kd_P, kd_F, ln_N, ln_I, ln_P, ln_F, I_N, I_I, I_P, I_F, P_N, P_I, P_P, P_F, hb, hb0, hz, hz0, f92]) ?_
  refine rn_sI (n := 8) (k := 0) (by simp [n_N, n_I, n_P, n_F, kd_N, kd_I, kd_P, kd_F, ln_N, ln_I, ln_P, ln_F, I_N, I_I, I_P, I_F, P_N, P_I, P_P, P_F, hb, hb0, hz, hz0, f101]) (by simp [n_N, n_I, n_P, n_F, kd_N, kd_I, kd_P, kd_F, ln_N, ln_I, ln_P, ln_F, I_N, I_I, I_P, I_F, P_N, P_I, P_P, P_F, hb, hb0, hz, hz0, f102]) (by decide) (by decide) ?_
  refine rn_lpv (s := (1 : Int32)) (by first | rfl | decide) ?_
  refine rn_lp (m := 1999998) ?_
  rw [fn_Md_noScope_B2]
  refine rn_f (by decide) ?_
  refine rn_gR (r := (some (n0 + 49))) (by simp [n_N, n_I, n_P, n_F, kd_N, kd_I, kd_P, kd_F, ln_N, ln_I, ln_P, ln_F, I_N, I_I, I_P, I_F, P_N, P_I, P_P, P_F, hb, hb0, hz, hz0, f98]) (by simp [n_N, n_I, n_P, n_F, kd_N, kd_I, kd_P, kd_F, ln_N, ln_I, ln_P, ln_F, I_N, I_I, I_P, I_F, P_N, P_I, P_P, P_F, hb, hb0, hz, hz0, f92]) ?_
  refine rn_sI (n := 8) (k := 1) (by simp [n_N, n_I, n_P, n_F, kd_N, kd_I, kd_P, kd_F, ln_N, ln_I, ln_P, ln_F, I_N, I_I, I_P, I_F, P_N, P_I, P_P, P_F, hb, hb0, hz, hz0, f101]) (by simp [n_N, n_I, n_P, n_F, kd_N, kd_I, kd_P, kd_F, ln_N, ln_I, ln_P, ln_F, I_N, I_I, I_P, I_F, P_N, P_I, P_P, P_F, hb, hb0, hz, hz0, f102]) (by decide) (by decide) ?_
  refine rn_lpv (s := (2 : Int32)) (by first | rfl | decide) ?_
  refine rn_lp (m := 1999997) ?_
  rw [fn_Md_noScope_B2]
  refine rn_f (by decide) ?_
  refine rn_gR (r := (some (n0 + 49))) (by simp [n_N, n_I, n_P, n_F, kd_N, kd_I, kd_P, kd_F, ln_N, ln_I, ln_P, ln_F, I_N, I_I, I_P, I_F, P_N, P_I, P_P, P_F, hb, hb0, hz, hz0, f98]) (by simp [n_N, n_I, n_P, n_F, kd_N, kd_I, kd_P, kd_F, ln_N, ln_I, ln_P, ln_F, I_N, I_I, I_P, I_F, P_N, P_I, P_P, P_F, hb, hb0, hz, hz0, f92]) ?_
  refine rn_sI (n := 8) (k := 2) (by simp [n_N, n_I, n_P, n_F, kd_N, kd_I, kd_P, kd_F, ln_N, ln_I, ln_P, ln_F, I_N, I_I, I_P, I_F, P_N, P_I, P_P, P_F, hb, hb0, hz, hz0, f101]) (by simp [n_N, n_I, n_P, n_F, kd_N, kd_I, kd_P, kd_F, ln_N, ln_I, ln_P, ln_F, I_N, I_I, I_P, I_F, P_N, P_I, P_P, P_F, hb, hb0, hz, hz0, f102]) (by decide) (by decide) ?_
  refine rn_lpv (s := (3 : Int32)) (by first | rfl | decide) ?_
  refine rn_lp (m := 1999996) ?_
  rw [fn_Md_noScope_B2]
  refine rn_f (by decide) ?_
  refine rn_gR (r := (some (n0 + 49))) (by simp [n_N, n_I, n_P, n_F, kd_N, kd_I, kd_P, kd_F, ln_N, ln_I, ln_P, ln_F, I_N, I_I, I_P, I_F, P_N, P_I, P_P, P_F, hb, hb0, hz, hz0, f98]) (by simp [n_N, n_I, n_P, n_F, kd_N, kd_I, kd_P, kd_F, ln_N, ln_I, ln_P, ln_F, I_N, I_I, I_P, I_F, P_N, P_I, P_P, P_F, hb, hb0, hz, hz0, f92]) ?_
  refine rn_sI (n := 8) (k := 3) (by simp [n_N, n_I, n_P, n_F, kd_N, kd_I, kd_P, kd_F, ln_N, ln_I, ln_P, ln_F, I_N, I_I, I_P, I_F, P_N, P_I, P_P, P_F, hb, hb0, hz, hz0, f101]) (by simp [n_N, n_I, n_P, n_F, kd_N, kd_I, kd_P, kd_F, ln_N, ln_I, ln_P, ln_F, I_N, I_I, I_P, I_F, P_N, P_I, P_P, P_F, hb, hb0, hz, hz0, f102]) (by decide) (by decide) ?_
  refine rn_lpv (s := (4 : Int32)) (by first | rfl | decide) ?_
  refine rn_lp (m := 1999995) ?_
  rw [fn_Md_noScope_B2]
  refine rn_f (by decide) ?_
  refine rn_gR (r := (some (n0 + 49))) (by simp [n_N, n_I, n_P, n_F, kd_N, kd_I, kd_P, kd_F, ln_N, ln_I, ln_P, ln_F, I_N, I_I, I_P, I_F, P_N, P_I, P_P, P_F, hb, hb0, hz, hz0, f98]) (by simp [n_N, n_I, n_P, n_F, kd_N, kd_I, kd_P, kd_F, ln_N, ln_I, ln_P, ln_F, I_N, I_I, I_P, I_F, P_N, P_I, P_P, P_F, hb, hb0, hz, hz0, f92]) ?_
  refine rn_sI (n := 8) (k := 4) (by simp [n_N, n_I, n_P, n_F, kd_N, kd_I, kd_P, kd_F, ln_N, ln_I, ln_P, ln_F, I_N, I_I, I_P, I_F, P_N, P_I, P_P, P_F, hb, hb0, hz, hz0, f101]) (by simp [n_N, n_I, n_P, n_F, kd_N, kd_I, kd_P, kd_F, ln_N, ln_I, ln_P, ln_F, I_N, I_I, I_P, I_F, P_N, P_I, P_P, P_F, hb, hb0, hz, hz0, f102]) (by decide) (by decide) ?_
  refine rn_lpv (s := (5 : Int32)) (by first | rfl | decide) ?_
  refine rn_lp (m := 1999994) ?_
  rw [fn_Md_noScope_B2]
  refine rn_f (by decide) ?_
  refine rn_gR (r := (some (n0 + 49))) (by simp [n_N, n_I, n_P, n_F, kd_N, kd_I, kd_P, kd_F, ln_N, ln_I, ln_P, ln_F, I_N, I_I, I_P, I_F, P_N, P_I, P_P, P_F, hb, hb0, hz, hz0, f98]) (by simp [n_N, n_I, n_P, n_F, kd_N, kd_I, kd_P, kd_F, ln_N, ln_I, ln_P, ln_F, I_N, I_I, I_P, I_F, P_N, P_I, P_P, P_F, hb, hb0, hz, hz0, f92]) ?_
  refine rn_sI (n := 8) (k := 5) (by simp [n_N, n_I, n_P, n_F, kd_N, kd_I, kd_P, kd_F, ln_N, ln_I, ln_P, ln_F, I_N, I_I, I_P, I_F, P_N, P_I, P_P, P_F, hb, hb0, hz, hz0, f101]) (by simp [n_N, n_I, n_P, n_F, kd_N, kd_I, kd_P, kd_F, ln_N, ln_I, ln_P, ln_F, I_N, I_I, I_P, I_F, P_N, P_I, P_P, P_F, hb, hb0, hz, hz0, f102]) (by decide) (by decide) ?_
  refine rn_lpv (s := (6 : Int32)) (by first | rfl | decide) ?_
  refine rn_lp (m := 1999993) ?_
  rw [fn_Md_noScope_B2]
  refine rn_f (by decide) ?_
  refine rn_gR (r := (some (n0 + 49))) (by simp [n_N, n_I, n_P, n_F, kd_N, kd_I, kd_P, kd_F, ln_N, ln_I, ln_P, ln_F, I_N, I_I, I_P, I_F, P_N, P_I, P_P, P_F, hb, hb0, hz, hz0, f98]) (by simp [n_N, n_I, n_P, n_F, kd_N, kd_I, kd_P, kd_F, ln_N, ln_I, ln_P, ln_F, I_N, I_I, I_P, I_F, P_N, P_I, P_P, P_F, hb, hb0, hz, hz0, f92]) ?_
  refine rn_sI (n := 8) (k := 6) (by simp [n_N, n_I, n_P, n_F, kd_N, kd_I, kd_P, kd_F, ln_N, ln_I, ln_P, ln_F, I_N, I_I, I_P, I_F, P_N, P_I, P_P, P_F, hb, hb0, hz, hz0, f101]) (by simp [n_N, n_I, n_P, n_F, kd_N, kd_I, kd_P, kd_F, ln_N, ln_I, ln_P, ln_F, I_N, I_I, I_P, I_F, P_N, P_I, P_P, P_F, hb, hb0, hz, hz0, f102]) (by decide) (by decide) ?_
  refine rn_lpv (s := (7 : Int32)) (by first | rfl | decide) ?_
  refine rn_lp (m := 1999992) ?_
  rw [fn_Md_noScope_B2]
  refine rn_f (by decide) ?_
  refine rn_gR (r := (some (n0 + 49))) (by simp [n_N, n_I, n_P, n_F, kd_N, kd_I, kd_P, kd_F, ln_N, ln_I, ln_P, ln_F, I_N, I_I, I_P, I_F, P_N, P_I, P_P, P_F, hb, hb0, hz, hz0, f98]) (by simp [n_N, n_I, n_P, n_F, kd_N, kd_I, kd_P, kd_F, ln_N, ln_I, ln_P, ln_F, I_N, I_I, I_P, I_F, P_N, P_I, P_P, P_F, hb, hb0, hz, hz0, f92]) ?_
  refine rn_sI (n := 8) (k := 7) (by simp [n_N, n_I, n_P, n_F, kd_N, kd_I, kd_P, kd_F, ln_N, ln_I, ln_P, ln_F, I_N, I_I, I_P, I_F, P_N, P_I, P_P, P_F, hb, hb0, hz, hz0, f101]) (by simp [n_N, n_I, n_P, n_F, kd_N, kd_I, kd_P, kd_F, ln_N, ln_I, ln_P, ln_F, I_N, I_I, I_P, I_F, P_N, P_I, P_P, P_F, hb, hb0, hz, hz0, f102]) (by decide) (by decide) ?_
  refine rn_lpv (s := (8 : Int32)) (by first | rfl | decide) ?_
  refine rn_lp (m := 1999991) ?_
  rw [fn_Md_noScope_B2]
  refine rn_t (by decide) ?_
  refine rn_ret ?_
  refine rn_gI (x := (0 : Int32)) (by simp [n_N, n_I, n_P, n_F, kd_N, kd_I, kd_P, kd_F, ln_N, ln_I, ln_P, ln_F, I_N, I_I, I_P, I_F, P_N, P_I, P_P, P_F, hb, hb0, hz, hz0, f98]) (by simp [n_N, n_I, n_P, n_F, kd_N, kd_I, kd_P, kd_F, ln_N, ln_I, ln_P, ln_F, I_N, I_I, I_P, I_F, P_N, P_I, P_P, P_F, hb, hb0, hz, hz0, f84]) ?_
  refine rn_t (by decide) ?_
  try unfold fn_Md_declare_J181
  refine rn_gR (r := (some (n0 + 50))) (by simp [n_N, n_I, n_P, n_F, kd_N, kd_I, kd_P, kd_F, ln_N, ln_I, ln_P, ln_F, I_N, I_I, I_P, I_F, P_N, P_I, P_P, P_F, hb, hb0, hz, hz0, f98]) (by simp [n_N, n_I, n_P, n_F, kd_N, kd_I, kd_P, kd_F, ln_N, ln_I, ln_P, ln_F, I_N, I_I, I_P, I_F, P_N, P_I, P_P, P_F, hb, hb0, hz, hz0, f93]) ?_
  refine rn_gR (r := (some (n0 + 50))) (by simp [n_N, n_I, n_P, n_F, kd_N, kd_I, kd_P, kd_F, ln_N, ln_I, ln_P, ln_F, I_N, I_I, I_P, I_F, P_N, P_I, P_P, P_F, hb, hb0, hz, hz0, f98]) (by simp [n_N, n_I, n_P, n_F, kd_N, kd_I, kd_P, kd_F, ln_N, ln_I, ln_P, ln_F, I_N, I_I, I_P, I_F, P_N, P_I, P_P, P_F, hb, hb0, hz, hz0, f93]) ?_
  refine rn_aI (n := 8) (k := 0) (x := (2 : Int32)) (by simp [n_N, n_I, n_P, n_F, kd_N, kd_I, kd_P, kd_F, ln_N, ln_I, ln_P, ln_F, I_N, I_I, I_P, I_F, P_N, P_I, P_P, P_F, hb, hb0, hz, hz0, f104]) (by simp [n_N, n_I, n_P, n_F, kd_N, kd_I, kd_P, kd_F, ln_N, ln_I, ln_P, ln_F, I_N, I_I, I_P, I_F, P_N, P_I, P_P, P_F, hb, hb0, hz, hz0, f105]) (by decide) (by decide) (by simp [n_N, n_I, n_P, n_F, kd_N, kd_I, kd_P, kd_F, ln_N, ln_I, ln_P, ln_F, I_N, I_I, I_P, I_F, P_N, P_I, P_P, P_F, hb, hb0, hz, hz0, f103]) ?_
  refine rn_f (by decide) ?_
  refine rn_gR (r := (some (n0 + 50))) (by simp [n_N, n_I, n_P, n_F, kd_N, kd_I, kd_P, kd_F, ln_N, ln_I, ln_P, ln_F, I_N, I_I, I_P, I_F, P_N, P_I, P_P, P_F, hb, hb0, hz, hz0, f98]) (by simp [n_N, n_I, n_P, n_F, kd_N, kd_I, kd_P, kd_F, ln_N, ln_I, ln_P, ln_F, I_N, I_I, I_P, I_F, P_N, P_I, P_P, P_F, hb, hb0, hz, hz0, f93]) ?_
  refine rn_aI (n := 8) (k := 0) (x := (2 : Int32)) (by simp [n_N, n_I, n_P, n_F, kd_N, kd_I, kd_P, kd_F, ln_N, ln_I, ln_P, ln_F, I_N, I_I, I_P, I_F, P_N, P_I, P_P, P_F, hb, hb0, hz, hz0, f104]) (by simp [n_N, n_I, n_P, n_F, kd_N, kd_I, kd_P, kd_F, ln_N, ln_I, ln_P, ln_F, I_N, I_I, I_P, I_F, P_N, P_I, P_P, P_F, hb, hb0, hz, hz0, f105]) (by decide) (by decide) (by simp [n_N, n_I, n_P, n_F, kd_N, kd_I, kd_P, kd_F, ln_N, ln_I, ln_P, ln_F, I_N, I_I, I_P, I_F, P_N, P_I, P_P, P_F, hb, hb0, hz, hz0, f103]) ?_
  try unfold fn_Md_declare_J209
  refine rn_sI (n := 8) (k := 0) (by simp [n_N, n_I, n_P, n_F, kd_N, kd_I, kd_P, kd_F, ln_N, ln_I, ln_P, ln_F, I_N, I_I, I_P, I_F, P_N, P_I, P_P, P_F, hb, hb0, hz, hz0, f104]) (by simp [n_N, n_I, n_P, n_F, kd_N, kd_I, kd_P, kd_F, ln_N, ln_I, ln_P, ln_F, I_N, I_I, I_P, I_F, P_N, P_I, P_P, P_F, hb, hb0, hz, hz0, f105]) (by decide) (by decide) ?_
  refine rn_pI (by simp [n_N, n_I, n_P, n_F, kd_N, kd_I, kd_P, kd_F, ln_N, ln_I, ln_P, ln_F, I_N, I_I, I_P, I_F, P_N, P_I, P_P, P_F, hb, hb0, hz, hz0, f98]) ?_
  refine rn_pI (by simp [n_N, n_I, n_P, n_F, kd_N, kd_I, kd_P, kd_F, ln_N, ln_I, ln_P, ln_F, I_N, I_I, I_P, I_F, P_N, P_I, P_P, P_F, hb, hb0, hz, hz0, f98]) ?_
  refine rn_pI (by simp [n_N, n_I, n_P, n_F, kd_N, kd_I, kd_P, kd_F, ln_N, ln_I, ln_P, ln_F, I_N, I_I, I_P, I_F, P_N, P_I, P_P, P_F, hb, hb0, hz, hz0, f98]) ?_
  refine rn_pI (by simp [n_N, n_I, n_P, n_F, kd_N, kd_I, kd_P, kd_F, ln_N, ln_I, ln_P, ln_F, I_N, I_I, I_P, I_F, P_N, P_I, P_P, P_F, hb, hb0, hz, hz0, f98]) ?_
  refine rn_gI (x := (0 : Int32)) (by simp [n_N, n_I, n_P, n_F, kd_N, kd_I, kd_P, kd_F, ln_N, ln_I, ln_P, ln_F, I_N, I_I, I_P, I_F, P_N, P_I, P_P, P_F, hb, hb0, hz, hz0, f98]) (by simp [n_N, n_I, n_P, n_F, kd_N, kd_I, kd_P, kd_F, ln_N, ln_I, ln_P, ln_F, I_N, I_I, I_P, I_F, P_N, P_I, P_P, P_F, hb, hb0, hz, hz0, f84]) ?_
  refine rn_f (by decide) ?_
  refine rn_gI (x := (0 : Int32)) (by simp [n_N, n_I, n_P, n_F, kd_N, kd_I, kd_P, kd_F, ln_N, ln_I, ln_P, ln_F, I_N, I_I, I_P, I_F, P_N, P_I, P_P, P_F, hb, hb0, hz, hz0, f98]) (by simp [n_N, n_I, n_P, n_F, kd_N, kd_I, kd_P, kd_F, ln_N, ln_I, ln_P, ln_F, I_N, I_I, I_P, I_F, P_N, P_I, P_P, P_F, hb, hb0, hz, hz0, f84]) ?_
  refine rn_ret ?_
  refine rn_t (by first | rfl | decide) ?_
  exact K _ (by simp [n_N, n_I, n_P, n_F, kd_N, kd_I, kd_P, kd_F, ln_N, ln_I, ln_P, ln_F, I_N, I_I, I_P, I_F, P_N, P_I, P_P, P_F, hb, hb0, hz, hz0, f114]) (by simp [n_N, n_I, n_P, n_F, kd_N, kd_I, kd_P, kd_F, ln_N, ln_I, ln_P, ln_F, I_N, I_I, I_P, I_F, P_N, P_I, P_P, P_F, hb, hb0, hz, hz0, f115]) (by simp only [n_N, n_I, n_P, n_F, hn]; omega) (by simp only [u_N, u_I, u_P, u_F, hu]; omega)
set_option maxRecDepth 100000 in
set_option maxHeartbeats 40000000 in
theorem op_run_in (n0 b L : Nat) (xs : Nat → Int32) (hb : ∀ k, (b = n0 + k) = False) (hb0 : (b = n0) = False) (hz : ∀ k, (0 = n0 + k) = False) (hz0 : (0 = n0) = False) {h : ahH} (F : Fx n0 b L xs h) {post : Int32 → ahH → Prop} (J : ahM Int32) (K : ∀ h', ah_kd h' b = 99 → ah_ln h' b = L → h'.1 ≤ n0 + 1000 → h'.2.1 ≤ 1000000 → Rn J h' post) {v : Int32} (h1 : ¬ v < 0) (h2 : v ≤ 40) (h3 : ¬ 40 < v) : Rn (ah_bnd (ah_cV 10 (some n0) (fun b => fn_BT_run b v)) fun x132 => ah_bnd (ah_cV 12 (some (n0 + 41)) (fun b => fn_Md_run b v)) fun x141 => if x132 = x141 then J else ah_no) h post := by
  obtain ⟨hn, hu, f0, f1, f2, f3, f4, f5, f6, f7, f8, f9, f10, f11, f12, f13, f14, f15, f16, f17, f18, f19, f20, f21, f22, f23, f24, f25, f26, f27, f28, f29, f30, f31, f32, f33, f34, f35, f36, f37, f38, f39, f40, f41, f42, f43, f44, f45, f46, f47, f48, f49, f50, f51, f52, f53, f54, f55, f56, f57, f58, f59, f60, f61, f62, f63, f64, f65, f66, f67, f68, f69, f70, f71, f72, f73, f74, f75, f76, f77, f78, f79, f80, f81, f82, f83, f84, f85, f86, f87, f88, f89, f90, f91, f92, f93, f94, f95, f96, f97, f98, f99, f100, f101, f102, f103, f104, f105, f106, f107, f108, f109, f110, f111, f112, f113, f114, f115, f116⟩ := F
  refine rn_bnd (rn_cV (by simp [n_N, n_I, n_P, n_F, kd_N, kd_I, kd_P, kd_F, ln_N, ln_I, ln_P, ln_F, I_N, I_I, I_P, I_F, P_N, P_I, P_P, P_F, hb, hb0, hz, hz0, f7]) ?_)
  try unfold fn_BT_run
  refine rn_f h1 ?_
  refine rn_t h2 ?_
  refine rn_gR (r := (some (n0 + 2))) (by simp [n_N, n_I, n_P, n_F, kd_N, kd_I, kd_P, kd_F, ln_N, ln_I, ln_P, ln_F, I_N, I_I, I_P, I_F, P_N, P_I, P_P, P_F, hb, hb0, hz, hz0, f7]) (by simp [n_N, n_I, n_P, n_F, kd_N, kd_I, kd_P, kd_F, ln_N, ln_I, ln_P, ln_F, I_N, I_I, I_P, I_F, P_N, P_I, P_P, P_F, hb, hb0, hz, hz0, f2]) ?_
  refine rn_gI (x := (8 : Int32)) (by simp [n_N, n_I, n_P, n_F, kd_N, kd_I, kd_P, kd_F, ln_N, ln_I, ln_P, ln_F, I_N, I_I, I_P, I_F, P_N, P_I, P_P, P_F, hb, hb0, hz, hz0, f17]) (by simp [n_N, n_I, n_P, n_F, kd_N, kd_I, kd_P, kd_F, ln_N, ln_I, ln_P, ln_F, I_N, I_I, I_P, I_F, P_N, P_I, P_P, P_F, hb, hb0, hz, hz0, f10]) ?_
  refine rn_gR (r := (some (n0 + 9))) (by simp [n_N, n_I, n_P, n_F, kd_N, kd_I, kd_P, kd_F, ln_N, ln_I, ln_P, ln_F, I_N, I_I, I_P, I_F, P_N, P_I, P_P, P_F, hb, hb0, hz, hz0, f7]) (by simp [n_N, n_I, n_P, n_F, kd_N, kd_I, kd_P, kd_F, ln_N, ln_I, ln_P, ln_F, I_N, I_I, I_P, I_F, P_N, P_I, P_P, P_F, hb, hb0, hz, hz0, f3]) ?_
  refine rn_gI (x := (0 : Int32)) (by simp [n_N, n_I, n_P, n_F, kd_N, kd_I, kd_P, kd_F, ln_N, ln_I, ln_P, ln_F, I_N, I_I, I_P, I_F, P_N, P_I, P_P, P_F, hb, hb0, hz, hz0, f43]) (by simp [n_N, n_I, n_P, n_F, kd_N, kd_I, kd_P, kd_F, ln_N, ln_I, ln_P, ln_F, I_N, I_I, I_P, I_F, P_N, P_I, P_P, P_F, hb, hb0, hz, hz0, f38]) ?_
  refine rn_gR (r := (some (n0 + 26))) (by simp [n_N, n_I, n_P, n_F, kd_N, kd_I, kd_P, kd_F, ln_N, ln_I, ln_P, ln_F, I_N, I_I, I_P, I_F, P_N, P_I, P_P, P_F, hb, hb0, hz, hz0, f7]) (by simp [n_N, n_I, n_P, n_F, kd_N, kd_I, kd_P, kd_F, ln_N, ln_I, ln_P, ln_F, I_N, I_I, I_P, I_F, P_N, P_I, P_P, P_F, hb, hb0, hz, hz0, f5]) ?_
  refine rn_gI (x := (0 : Int32)) (by simp [n_N, n_I, n_P, n_F, kd_N, kd_I, kd_P, kd_F, ln_N, ln_I, ln_P, ln_F, I_N, I_I, I_P, I_F, P_N, P_I, P_P, P_F, hb, hb0, hz, hz0, f7]) (by simp [n_N, n_I, n_P, n_F, kd_N, kd_I, kd_P, kd_F, ln_N, ln_I, ln_P, ln_F, I_N, I_I, I_P, I_F, P_N, P_I, P_P, P_F, hb, hb0, hz, hz0, f0]) ?_
  refine rn_bnd (rn_cV (by simp [n_N, n_I, n_P, n_F, kd_N, kd_I, kd_P, kd_F, ln_N, ln_I, ln_P, ln_F, I_N, I_I, I_P, I_F, P_N, P_I, P_P, P_F, hb, hb0, hz, hz0, f70]) ?_)
  try unfold fn_Reader_readExpression
  refine rn_bnd (rn_cV (by simp [n_N, n_I, n_P, n_F, kd_N, kd_I, kd_P, kd_F, ln_N, ln_I, ln_P, ln_F, I_N, I_I, I_P, I_F, P_N, P_I, P_P, P_F, hb, hb0, hz, hz0, f70]) ?_)
  try unfold fn_Reader_start
  refine rn_lpv (s := ((0 : Int32), (0 : Int32))) (by first | rfl | decide) ?_
  refine rn_lp (m := 1999999) ?_
  rw [fn_Reader_start_B4]
  refine rn_t (by decide) ?_
  try unfold fn_Reader_start_J64
  refine rn_gR (r := (some (n0 + 27))) (by simp [n_N, n_I, n_P, n_F, kd_N, kd_I, kd_P, kd_F, ln_N, ln_I, ln_P, ln_F, I_N, I_I, I_P, I_F, P_N, P_I, P_P, P_F, hb, hb0, hz, hz0, f70]) (by simp [n_N, n_I, n_P, n_F, kd_N, kd_I, kd_P, kd_F, ln_N, ln_I, ln_P, ln_F, I_N, I_I, I_P, I_F, P_N, P_I, P_P, P_F, hb, hb0, hz, hz0, f67]) ?_
  refine rn_sI (n := 141) (k := 0) (by simp [n_N, n_I, n_P, n_F, kd_N, kd_I, kd_P, kd_F, ln_N, ln_I, ln_P, ln_F, I_N, I_I, I_P, I_F, P_N, P_I, P_P, P_F, hb, hb0, hz, hz0, f72]) (by simp [n_N, n_I, n_P, n_F, kd_N, kd_I, kd_P, kd_F, ln_N, ln_I, ln_P, ln_F, I_N, I_I, I_P, I_F, P_N, P_I, P_P, P_F, hb, hb0, hz, hz0, f73]) (by decide) (by decide) ?_
  refine rn_gR (r := (some (n0 + 28))) (by simp [n_N, n_I, n_P, n_F, kd_N, kd_I, kd_P, kd_F, ln_N, ln_I, ln_P, ln_F, I_N, I_I, I_P, I_F, P_N, P_I, P_P, P_F, hb, hb0, hz, hz0, f70]) (by simp [n_N, n_I, n_P, n_F, kd_N, kd_I, kd_P, kd_F, ln_N, ln_I, ln_P, ln_F, I_N, I_I, I_P, I_F, P_N, P_I, P_P, P_F, hb, hb0, hz, hz0, f68]) ?_
  refine rn_sI (n := 141) (k := 0) (by simp [n_N, n_I, n_P, n_F, kd_N, kd_I, kd_P, kd_F, ln_N, ln_I, ln_P, ln_F, I_N, I_I, I_P, I_F, P_N, P_I, P_P, P_F, hb, hb0, hz, hz0, f75]) (by simp [n_N, n_I, n_P, n_F, kd_N, kd_I, kd_P, kd_F, ln_N, ln_I, ln_P, ln_F, I_N, I_I, I_P, I_F, P_N, P_I, P_P, P_F, hb, hb0, hz, hz0, f76]) (by decide) (by decide) ?_
  refine rn_pI (by simp [n_N, n_I, n_P, n_F, kd_N, kd_I, kd_P, kd_F, ln_N, ln_I, ln_P, ln_F, I_N, I_I, I_P, I_F, P_N, P_I, P_P, P_F, hb, hb0, hz, hz0, f70]) ?_
  refine rn_pI (by simp [n_N, n_I, n_P, n_F, kd_N, kd_I, kd_P, kd_F, ln_N, ln_I, ln_P, ln_F, I_N, I_I, I_P, I_F, P_N, P_I, P_P, P_F, hb, hb0, hz, hz0, f70]) ?_
  refine rn_pI (by simp [n_N, n_I, n_P, n_F, kd_N, kd_I, kd_P, kd_F, ln_N, ln_I, ln_P, ln_F, I_N, I_I, I_P, I_F, P_N, P_I, P_P, P_F, hb, hb0, hz, hz0, f70]) ?_
  refine rn_pR (by simp [n_N, n_I, n_P, n_F, kd_N, kd_I, kd_P, kd_F, ln_N, ln_I, ln_P, ln_F, I_N, I_I, I_P, I_F, P_N, P_I, P_P, P_F, hb, hb0, hz, hz0, f70]) ?_
  refine rn_gR (r := (some (n0 + 2))) (by simp [n_N, n_I, n_P, n_F, kd_N, kd_I, kd_P, kd_F, ln_N, ln_I, ln_P, ln_F, I_N, I_I, I_P, I_F, P_N, P_I, P_P, P_F, hb, hb0, hz, hz0, f70]) (by simp [n_N, n_I, n_P, n_F, kd_N, kd_I, kd_P, kd_F, ln_N, ln_I, ln_P, ln_F, I_N, I_I, I_P, I_F, P_N, P_I, P_P, P_F, hb, hb0, hz, hz0, f65]) ?_
  refine rn_bnd (rn_cV (by simp [n_N, n_I, n_P, n_F, kd_N, kd_I, kd_P, kd_F, ln_N, ln_I, ln_P, ln_F, I_N, I_I, I_P, I_F, P_N, P_I, P_P, P_F, hb, hb0, hz, hz0, f17]) ?_)
  try unfold fn_Types_makeRoom
  refine rn_gR (r := (some (n0 + 3))) (by simp [n_N, n_I, n_P, n_F, kd_N, kd_I, kd_P, kd_F, ln_N, ln_I, ln_P, ln_F, I_N, I_I, I_P, I_F, P_N, P_I, P_P, P_F, hb, hb0, hz, hz0, f17]) (by simp [n_N, n_I, n_P, n_F, kd_N, kd_I, kd_P, kd_F, ln_N, ln_I, ln_P, ln_F, I_N, I_I, I_P, I_F, P_N, P_I, P_P, P_F, hb, hb0, hz, hz0, f11]) ?_
  refine rn_al (x := (512 : Int32)) (by simp [n_N, n_I, n_P, n_F, kd_N, kd_I, kd_P, kd_F, ln_N, ln_I, ln_P, ln_F, I_N, I_I, I_P, I_F, P_N, P_I, P_P, P_F, hb, hb0, hz, hz0, f19]) (by simp [n_N, n_I, n_P, n_F, kd_N, kd_I, kd_P, kd_F, ln_N, ln_I, ln_P, ln_F, I_N, I_I, I_P, I_F, P_N, P_I, P_P, P_F, hb, hb0, hz, hz0, f20]) ?_
  refine rn_gR (r := (some (n0 + 3))) (by simp [n_N, n_I, n_P, n_F, kd_N, kd_I, kd_P, kd_F, ln_N, ln_I, ln_P, ln_F, I_N, I_I, I_P, I_F, P_N, P_I, P_P, P_F, hb, hb0, hz, hz0, f17]) (by simp [n_N, n_I, n_P, n_F, kd_N, kd_I, kd_P, kd_F, ln_N, ln_I, ln_P, ln_F, I_N, I_I, I_P, I_F, P_N, P_I, P_P, P_F, hb, hb0, hz, hz0, f11]) ?_
  refine rn_al (x := (512 : Int32)) (by simp [n_N, n_I, n_P, n_F, kd_N, kd_I, kd_P, kd_F, ln_N, ln_I, ln_P, ln_F, I_N, I_I, I_P, I_F, P_N, P_I, P_P, P_F, hb, hb0, hz, hz0, f19]) (by simp [n_N, n_I, n_P, n_F, kd_N, kd_I, kd_P, kd_F, ln_N, ln_I, ln_P, ln_F, I_N, I_I, I_P, I_F, P_N, P_I, P_P, P_F, hb, hb0, hz, hz0, f20]) ?_
  refine rn_gI (x := (8 : Int32)) (by simp [n_N, n_I, n_P, n_F, kd_N, kd_I, kd_P, kd_F, ln_N, ln_I, ln_P, ln_F, I_N, I_I, I_P, I_F, P_N, P_I, P_P, P_F, hb, hb0, hz, hz0, f17]) (by simp [n_N, n_I, n_P, n_F, kd_N, kd_I, kd_P, kd_F, ln_N, ln_I, ln_P, ln_F, I_N, I_I, I_P, I_F, P_N, P_I, P_P, P_F, hb, hb0, hz, hz0, f10]) ?_
  refine rn_t (by decide) ?_
  refine rn_ret ?_
  refine rn_ret ?_
  refine rn_bnd (rn_cV (by simp [n_N, n_I, n_P, n_F, kd_N, kd_I, kd_P, kd_F, ln_N, ln_I, ln_P, ln_F, I_N, I_I, I_P, I_F, P_N, P_I, P_P, P_F, hb, hb0, hz, hz0, f70]) ?_)
  try unfold fn_Reader_expression
  refine rn_gI (x := (0 : Int32)) (by simp [n_N, n_I, n_P, n_F, kd_N, kd_I, kd_P, kd_F, ln_N, ln_I, ln_P, ln_F, I_N, I_I, I_P, I_F, P_N, P_I, P_P, P_F, hb, hb0, hz, hz0, f70]) (by simp [n_N, n_I, n_P, n_F, kd_N, kd_I, kd_P, kd_F, ln_N, ln_I, ln_P, ln_F, I_N, I_I, I_P, I_F, P_N, P_I, P_P, P_F, hb, hb0, hz, hz0, f64]) ?_
  refine rn_lpv (s := (0 : Int32)) (by first | rfl | decide) ?_
  refine rn_lp (m := 1999999) ?_
  rw [fn_Reader_expression_B7]
  refine rn_f (by decide) ?_
  refine rn_bnd (rn_cV (by simp [n_N, n_I, n_P, n_F, kd_N, kd_I, kd_P, kd_F, ln_N, ln_I, ln_P, ln_F, I_N, I_I, I_P, I_F, P_N, P_I, P_P, P_F, hb, hb0, hz, hz0, f70]) ?_)
  try unfold fn_Reader_isAtCast
  refine rn_gR (r := (some (n0 + 27))) (by simp [n_N, n_I, n_P, n_F, kd_N, kd_I, kd_P, kd_F, ln_N, ln_I, ln_P, ln_F, I_N, I_I, I_P, I_F, P_N, P_I, P_P, P_F, hb, hb0, hz, hz0, f70]) (by simp [n_N, n_I, n_P, n_F, kd_N, kd_I, kd_P, kd_F, ln_N, ln_I, ln_P, ln_F, I_N, I_I, I_P, I_F, P_N, P_I, P_P, P_F, hb, hb0, hz, hz0, f67]) ?_
  refine rn_gI (x := (0 : Int32)) (by simp [n_N, n_I, n_P, n_F, kd_N, kd_I, kd_P, kd_F, ln_N, ln_I, ln_P, ln_F, I_N, I_I, I_P, I_F, P_N, P_I, P_P, P_F, hb, hb0, hz, hz0, f70]) (by simp [n_N, n_I, n_P, n_F, kd_N, kd_I, kd_P, kd_F, ln_N, ln_I, ln_P, ln_F, I_N, I_I, I_P, I_F, P_N, P_I, P_P, P_F, hb, hb0, hz, hz0, f63]) ?_
  refine rn_aI (n := 141) (k := 0) (x := (0 : Int32)) (by simp [n_N, n_I, n_P, n_F, kd_N, kd_I, kd_P, kd_F, ln_N, ln_I, ln_P, ln_F, I_N, I_I, I_P, I_F, P_N, P_I, P_P, P_F, hb, hb0, hz, hz0, f72]) (by simp [n_N, n_I, n_P, n_F, kd_N, kd_I, kd_P, kd_F, ln_N, ln_I, ln_P, ln_F, I_N, I_I, I_P, I_F, P_N, P_I, P_P, P_F, hb, hb0, hz, hz0, f73]) (by decide) (by decide) (by simp [n_N, n_I, n_P, n_F, kd_N, kd_I, kd_P, kd_F, ln_N, ln_I, ln_P, ln_F, I_N, I_I, I_P, I_F, P_N, P_I, P_P, P_F, hb, hb0, hz, hz0, f71]) ?_
  refine rn_f (by decide) ?_
  refine rn_retZ (by decide) ?_
  refine rn_t (by decide) ?_
  try unfold fn_Reader_expression_J73
  refine rn_bnd (rn_cV (by simp [n_N, n_I, n_P, n_F, kd_N, kd_I, kd_P, kd_F, ln_N, ln_I, ln_P, ln_F, I_N, I_I, I_P, I_F, P_N, P_I, P_P, P_F, hb, hb0, hz, hz0, f70]) ?_)
  try unfold fn_Reader_base
  refine rn_gR (r := (some (n0 + 27))) (by simp [n_N, n_I, n_P, n_F, kd_N, kd_I, kd_P, kd_F, ln_N, ln_I, ln_P, ln_F, I_N, I_I, I_P, I_F, P_N, P_I, P_P, P_F, hb, hb0, hz, hz0, f70]) (by simp [n_N, n_I, n_P, n_F, kd_N, kd_I, kd_P, kd_F, ln_N, ln_I, ln_P, ln_F, I_N, I_I, I_P, I_F, P_N, P_I, P_P, P_F, hb, hb0, hz, hz0, f67]) ?_
  refine rn_gI (x := (0 : Int32)) (by simp [n_N, n_I, n_P, n_F, kd_N, kd_I, kd_P, kd_F, ln_N, ln_I, ln_P, ln_F, I_N, I_I, I_P, I_F, P_N, P_I, P_P, P_F, hb, hb0, hz, hz0, f70]) (by simp [n_N, n_I, n_P, n_F, kd_N, kd_I, kd_P, kd_F, ln_N, ln_I, ln_P, ln_F, I_N, I_I, I_P, I_F, P_N, P_I, P_P, P_F, hb, hb0, hz, hz0, f63]) ?_
  refine rn_aI (n := 141) (k := 0) (x := (0 : Int32)) (by simp [n_N, n_I, n_P, n_F, kd_N, kd_I, kd_P, kd_F, ln_N, ln_I, ln_P, ln_F, I_N, I_I, I_P, I_F, P_N, P_I, P_P, P_F, hb, hb0, hz, hz0, f72]) (by simp [n_N, n_I, n_P, n_F, kd_N, kd_I, kd_P, kd_F, ln_N, ln_I, ln_P, ln_F, I_N, I_I, I_P, I_F, P_N, P_I, P_P, P_F, hb, hb0, hz, hz0, f73]) (by decide) (by decide) (by simp [n_N, n_I, n_P, n_F, kd_N, kd_I, kd_P, kd_F, ln_N, ln_I, ln_P, ln_F, I_N, I_I, I_P, I_F, P_N, P_I, P_P, P_F, hb, hb0, hz, hz0, f71]) ?_
  refine rn_f (by decide) ?_
  refine rn_gR (r := (some (n0 + 27))) (by simp [n_N, n_I, n_P, n_F, kd_N, kd_I, kd_P, kd_F, ln_N, ln_I, ln_P, ln_F, I_N, I_I, I_P, I_F, P_N, P_I, P_P, P_F, hb, hb0, hz, hz0, f70]) (by simp [n_N, n_I, n_P, n_F, kd_N, kd_I, kd_P, kd_F, ln_N, ln_I, ln_P, ln_F, I_N, I_I, I_P, I_F, P_N, P_I, P_P, P_F, hb, hb0, hz, hz0, f67]) ?_
  refine rn_gI (x := (0 : Int32)) (by simp [n_N, n_I, n_P, n_F, kd_N, kd_I, kd_P, kd_F, ln_N, ln_I, ln_P, ln_F, I_N, I_I, I_P, I_F, P_N, P_I, P_P, P_F, hb, hb0, hz, hz0, f70]) (by simp [n_N, n_I, n_P, n_F, kd_N, kd_I, kd_P, kd_F, ln_N, ln_I, ln_P, ln_F, I_N, I_I, I_P, I_F, P_N, P_I, P_P, P_F, hb, hb0, hz, hz0, f63]) ?_
  refine rn_aI (n := 141) (k := 0) (x := (0 : Int32)) (by simp [n_N, n_I, n_P, n_F, kd_N, kd_I, kd_P, kd_F, ln_N, ln_I, ln_P, ln_F, I_N, I_I, I_P, I_F, P_N, P_I, P_P, P_F, hb, hb0, hz, hz0, f72]) (by simp [n_N, n_I, n_P, n_F, kd_N, kd_I, kd_P, kd_F, ln_N, ln_I, ln_P, ln_F, I_N, I_I, I_P, I_F, P_N, P_I, P_P, P_F, hb, hb0, hz, hz0, f73]) (by decide) (by decide) (by simp [n_N, n_I, n_P, n_F, kd_N, kd_I, kd_P, kd_F, ln_N, ln_I, ln_P, ln_F, I_N, I_I, I_P, I_F, P_N, P_I, P_P, P_F, hb, hb0, hz, hz0, f71]) ?_
  refine rn_f (by decide) ?_
  refine rn_gR (r := (some (n0 + 9))) (by simp [n_N, n_I, n_P, n_F, kd_N, kd_I, kd_P, kd_F, ln_N, ln_I, ln_P, ln_F, I_N, I_I, I_P, I_F, P_N, P_I, P_P, P_F, hb, hb0, hz, hz0, f70]) (by simp [n_N, n_I, n_P, n_F, kd_N, kd_I, kd_P, kd_F, ln_N, ln_I, ln_P, ln_F, I_N, I_I, I_P, I_F, P_N, P_I, P_P, P_F, hb, hb0, hz, hz0, f66]) ?_
  refine rn_bnd (rn_cV (by simp [n_N, n_I, n_P, n_F, kd_N, kd_I, kd_P, kd_F, ln_N, ln_I, ln_P, ln_F, I_N, I_I, I_P, I_F, P_N, P_I, P_P, P_F, hb, hb0, hz, hz0, f70]) ?_)
  try unfold fn_Reader_takeLetter
  refine rn_gR (r := (some (n0 + 27))) (by simp [n_N, n_I, n_P, n_F, kd_N, kd_I, kd_P, kd_F, ln_N, ln_I, ln_P, ln_F, I_N, I_I, I_P, I_F, P_N, P_I, P_P, P_F, hb, hb0, hz, hz0, f70]) (by simp [n_N, n_I, n_P, n_F, kd_N, kd_I, kd_P, kd_F, ln_N, ln_I, ln_P, ln_F, I_N, I_I, I_P, I_F, P_N, P_I, P_P, P_F, hb, hb0, hz, hz0, f67]) ?_
  refine rn_gI (x := (0 : Int32)) (by simp [n_N, n_I, n_P, n_F, kd_N, kd_I, kd_P, kd_F, ln_N, ln_I, ln_P, ln_F, I_N, I_I, I_P, I_F, P_N, P_I, P_P, P_F, hb, hb0, hz, hz0, f70]) (by simp [n_N, n_I, n_P, n_F, kd_N, kd_I, kd_P, kd_F, ln_N, ln_I, ln_P, ln_F, I_N, I_I, I_P, I_F, P_N, P_I, P_P, P_F, hb, hb0, hz, hz0, f63]) ?_
  refine rn_aI (n := 141) (k := 0) (x := (0 : Int32)) (by simp [n_N, n_I, n_P, n_F, kd_N, kd_I, kd_P, kd_F, ln_N, ln_I, ln_P, ln_F, I_N, I_I, I_P, I_F, P_N, P_I, P_P, P_F, hb, hb0, hz, hz0, f72]) (by simp [n_N, n_I, n_P, n_F, kd_N, kd_I, kd_P, kd_F, ln_N, ln_I, ln_P, ln_F, I_N, I_I, I_P, I_F, P_N, P_I, P_P, P_F, hb, hb0, hz, hz0, f73]) (by decide) (by decide) (by simp [n_N, n_I, n_P, n_F, kd_N, kd_I, kd_P, kd_F, ln_N, ln_I, ln_P, ln_F, I_N, I_I, I_P, I_F, P_N, P_I, P_P, P_F, hb, hb0, hz, hz0, f71]) ?_
  refine rn_t (by decide) ?_
  try unfold fn_Reader_takeLetter_J26
  refine rn_gR (r := (some (n0 + 27))) (by simp [n_N, n_I, n_P, n_F, kd_N, kd_I, kd_P, kd_F, ln_N, ln_I, ln_P, ln_F, I_N, I_I, I_P, I_F, P_N, P_I, P_P, P_F, hb, hb0, hz, hz0, f70]) (by simp [n_N, n_I, n_P, n_F, kd_N, kd_I, kd_P, kd_F, ln_N, ln_I, ln_P, ln_F, I_N, I_I, I_P, I_F, P_N, P_I, P_P, P_F, hb, hb0, hz, hz0, f67]) ?_
  refine rn_gI (x := (0 : Int32)) (by simp [n_N, n_I, n_P, n_F, kd_N, kd_I, kd_P, kd_F, ln_N, ln_I, ln_P, ln_F, I_N, I_I, I_P, I_F, P_N, P_I, P_P, P_F, hb, hb0, hz, hz0, f70]) (by simp [n_N, n_I, n_P, n_F, kd_N, kd_I, kd_P, kd_F, ln_N, ln_I, ln_P, ln_F, I_N, I_I, I_P, I_F, P_N, P_I, P_P, P_F, hb, hb0, hz, hz0, f63]) ?_
  refine rn_sI (n := 141) (k := 0) (by simp [n_N, n_I, n_P, n_F, kd_N, kd_I, kd_P, kd_F, ln_N, ln_I, ln_P, ln_F, I_N, I_I, I_P, I_F, P_N, P_I, P_P, P_F, hb, hb0, hz, hz0, f72]) (by simp [n_N, n_I, n_P, n_F, kd_N, kd_I, kd_P, kd_F, ln_N, ln_I, ln_P, ln_F, I_N, I_I, I_P, I_F, P_N, P_I, P_P, P_F, hb, hb0, hz, hz0, f73]) (by decide) (by decide) ?_
  refine rn_ret ?_
  refine rn_bnd (rn_cV (by simp [n_N, n_I, n_P, n_F, kd_N, kd_I, kd_P, kd_F, ln_N, ln_I, ln_P, ln_F, I_N, I_I, I_P, I_F, P_N, P_I, P_P, P_F, hb, hb0, hz, hz0, f70]) ?_)
  try unfold fn_Reader_slotOf
  refine rn_gR (r := none) (by simp [n_N, n_I, n_P, n_F, kd_N, kd_I, kd_P, kd_F, ln_N, ln_I, ln_P, ln_F, I_N, I_I, I_P, I_F, P_N, P_I, P_P, P_F, hb, hb0, hz, hz0, f70]) (by simp [n_N, n_I, n_P, n_F, kd_N, kd_I, kd_P, kd_F, ln_N, ln_I, ln_P, ln_F, I_N, I_I, I_P, I_F, P_N, P_I, P_P, P_F, hb, hb0, hz, hz0, f69]) ?_
  refine rn_t (by simp) ?_
  refine rn_ret ?_
  refine rn_bnd (rn_cV (by simp [n_N, n_I, n_P, n_F, kd_N, kd_I, kd_P, kd_F, ln_N, ln_I, ln_P, ln_F, I_N, I_I, I_P, I_F, P_N, P_I, P_P, P_F, hb, hb0, hz, hz0, f43]) ?_)
  try unfold fn_Code_add
  refine rn_gI (x := (0 : Int32)) (by simp [n_N, n_I, n_P, n_F, kd_N, kd_I, kd_P, kd_F, ln_N, ln_I, ln_P, ln_F, I_N, I_I, I_P, I_F, P_N, P_I, P_P, P_F, hb, hb0, hz, hz0, f43]) (by simp [n_N, n_I, n_P, n_F, kd_N, kd_I, kd_P, kd_F, ln_N, ln_I, ln_P, ln_F, I_N, I_I, I_P, I_F, P_N, P_I, P_P, P_F, hb, hb0, hz, hz0, f38]) ?_
  refine rn_t (by decide) ?_
  refine rn_gR (r := (some (n0 + 10))) (by simp [n_N, n_I, n_P, n_F, kd_N, kd_I, kd_P, kd_F, ln_N, ln_I, ln_P, ln_F, I_N, I_I, I_P, I_F, P_N, P_I, P_P, P_F, hb, hb0, hz, hz0, f43]) (by simp [n_N, n_I, n_P, n_F, kd_N, kd_I, kd_P, kd_F, ln_N, ln_I, ln_P, ln_F, I_N, I_I, I_P, I_F, P_N, P_I, P_P, P_F, hb, hb0, hz, hz0, f39]) ?_
  refine rn_gI (x := (0 : Int32)) (by simp [n_N, n_I, n_P, n_F, kd_N, kd_I, kd_P, kd_F, ln_N, ln_I, ln_P, ln_F, I_N, I_I, I_P, I_F, P_N, P_I, P_P, P_F, hb, hb0, hz, hz0, f43]) (by simp [n_N, n_I, n_P, n_F, kd_N, kd_I, kd_P, kd_F, ln_N, ln_I, ln_P, ln_F, I_N, I_I, I_P, I_F, P_N, P_I, P_P, P_F, hb, hb0, hz, hz0, f38]) ?_
  refine rn_sI (n := 1120) (k := 0) (by simp [n_N, n_I, n_P, n_F, kd_N, kd_I, kd_P, kd_F, ln_N, ln_I, ln_P, ln_F, I_N, I_I, I_P, I_F, P_N, P_I, P_P, P_F, hb, hb0, hz, hz0, f44]) (by simp [n_N, n_I, n_P, n_F, kd_N, kd_I, kd_P, kd_F, ln_N, ln_I, ln_P, ln_F, I_N, I_I, I_P, I_F, P_N, P_I, P_P, P_F, hb, hb0, hz, hz0, f45]) (by decide) (by decide) ?_
  refine rn_gR (r := (some (n0 + 11))) (by simp [n_N, n_I, n_P, n_F, kd_N, kd_I, kd_P, kd_F, ln_N, ln_I, ln_P, ln_F, I_N, I_I, I_P, I_F, P_N, P_I, P_P, P_F, hb, hb0, hz, hz0, f43]) (by simp [n_N, n_I, n_P, n_F, kd_N, kd_I, kd_P, kd_F, ln_N, ln_I, ln_P, ln_F, I_N, I_I, I_P, I_F, P_N, P_I, P_P, P_F, hb, hb0, hz, hz0, f40]) ?_
  refine rn_gI (x := (0 : Int32)) (by simp [n_N, n_I, n_P, n_F, kd_N, kd_I, kd_P, kd_F, ln_N, ln_I, ln_P, ln_F, I_N, I_I, I_P, I_F, P_N, P_I, P_P, P_F, hb, hb0, hz, hz0, f43]) (by simp [n_N, n_I, n_P, n_F, kd_N, kd_I, kd_P, kd_F, ln_N, ln_I, ln_P, ln_F, I_N, I_I, I_P, I_F, P_N, P_I, P_P, P_F, hb, hb0, hz, hz0, f38]) ?_
  refine rn_sI (n := 1120) (k := 0) (by simp [n_N, n_I, n_P, n_F, kd_N, kd_I, kd_P, kd_F, ln_N, ln_I, ln_P, ln_F, I_N, I_I, I_P, I_F, P_N, P_I, P_P, P_F, hb, hb0, hz, hz0, f46]) (by simp [n_N, n_I, n_P, n_F, kd_N, kd_I, kd_P, kd_F, ln_N, ln_I, ln_P, ln_F, I_N, I_I, I_P, I_F, P_N, P_I, P_P, P_F, hb, hb0, hz, hz0, f47]) (by decide) (by decide) ?_
  refine rn_gR (r := (some (n0 + 12))) (by simp [n_N, n_I, n_P, n_F, kd_N, kd_I, kd_P, kd_F, ln_N, ln_I, ln_P, ln_F, I_N, I_I, I_P, I_F, P_N, P_I, P_P, P_F, hb, hb0, hz, hz0, f43]) (by simp [n_N, n_I, n_P, n_F, kd_N, kd_I, kd_P, kd_F, ln_N, ln_I, ln_P, ln_F, I_N, I_I, I_P, I_F, P_N, P_I, P_P, P_F, hb, hb0, hz, hz0, f41]) ?_
  refine rn_gI (x := (0 : Int32)) (by simp [n_N, n_I, n_P, n_F, kd_N, kd_I, kd_P, kd_F, ln_N, ln_I, ln_P, ln_F, I_N, I_I, I_P, I_F, P_N, P_I, P_P, P_F, hb, hb0, hz, hz0, f43]) (by simp [n_N, n_I, n_P, n_F, kd_N, kd_I, kd_P, kd_F, ln_N, ln_I, ln_P, ln_F, I_N, I_I, I_P, I_F, P_N, P_I, P_P, P_F, hb, hb0, hz, hz0, f38]) ?_
  refine rn_sI (n := 1120) (k := 0) (by simp [n_N, n_I, n_P, n_F, kd_N, kd_I, kd_P, kd_F, ln_N, ln_I, ln_P, ln_F, I_N, I_I, I_P, I_F, P_N, P_I, P_P, P_F, hb, hb0, hz, hz0, f48]) (by simp [n_N, n_I, n_P, n_F, kd_N, kd_I, kd_P, kd_F, ln_N, ln_I, ln_P, ln_F, I_N, I_I, I_P, I_F, P_N, P_I, P_P, P_F, hb, hb0, hz, hz0, f49]) (by decide) (by decide) ?_
  refine rn_gR (r := (some (n0 + 13))) (by simp [n_N, n_I, n_P, n_F, kd_N, kd_I, kd_P, kd_F, ln_N, ln_I, ln_P, ln_F, I_N, I_I, I_P, I_F, P_N, P_I, P_P, P_F, hb, hb0, hz, hz0, f43]) (by simp [n_N, n_I, n_P, n_F, kd_N, kd_I, kd_P, kd_F, ln_N, ln_I, ln_P, ln_F, I_N, I_I, I_P, I_F, P_N, P_I, P_P, P_F, hb, hb0, hz, hz0, f42]) ?_
  refine rn_gI (x := (0 : Int32)) (by simp [n_N, n_I, n_P, n_F, kd_N, kd_I, kd_P, kd_F, ln_N, ln_I, ln_P, ln_F, I_N, I_I, I_P, I_F, P_N, P_I, P_P, P_F, hb, hb0, hz, hz0, f43]) (by simp [n_N, n_I, n_P, n_F, kd_N, kd_I, kd_P, kd_F, ln_N, ln_I, ln_P, ln_F, I_N, I_I, I_P, I_F, P_N, P_I, P_P, P_F, hb, hb0, hz, hz0, f38]) ?_
  refine rn_sI (n := 1120) (k := 0) (by simp [n_N, n_I, n_P, n_F, kd_N, kd_I, kd_P, kd_F, ln_N, ln_I, ln_P, ln_F, I_N, I_I, I_P, I_F, P_N, P_I, P_P, P_F, hb, hb0, hz, hz0, f50]) (by simp [n_N, n_I, n_P, n_F, kd_N, kd_I, kd_P, kd_F, ln_N, ln_I, ln_P, ln_F, I_N, I_I, I_P, I_F, P_N, P_I, P_P, P_F, hb, hb0, hz, hz0, f51]) (by decide) (by decide) ?_
  refine rn_gI (x := (0 : Int32)) (by simp [n_N, n_I, n_P, n_F, kd_N, kd_I, kd_P, kd_F, ln_N, ln_I, ln_P, ln_F, I_N, I_I, I_P, I_F, P_N, P_I, P_P, P_F, hb, hb0, hz, hz0, f43]) (by simp [n_N, n_I, n_P, n_F, kd_N, kd_I, kd_P, kd_F, ln_N, ln_I, ln_P, ln_F, I_N, I_I, I_P, I_F, P_N, P_I, P_P, P_F, hb, hb0, hz, hz0, f38]) ?_
  refine rn_pI (by simp [n_N, n_I, n_P, n_F, kd_N, kd_I, kd_P, kd_F, ln_N, ln_I, ln_P, ln_F, I_N, I_I, I_P, I_F, P_N, P_I, P_P, P_F, hb, hb0, hz, hz0, f43]) ?_
  refine rn_gI (x := (1 : Int32)) (by simp [n_N, n_I, n_P, n_F, kd_N, kd_I, kd_P, kd_F, ln_N, ln_I, ln_P, ln_F, I_N, I_I, I_P, I_F, P_N, P_I, P_P, P_F, hb, hb0, hz, hz0, f43]) (by simp [n_N, n_I, n_P, n_F, kd_N, kd_I, kd_P, kd_F, ln_N, ln_I, ln_P, ln_F, I_N, I_I, I_P, I_F, P_N, P_I, P_P, P_F, hb, hb0, hz, hz0, f38]) ?_
  refine rn_ret ?_
  refine rn_ret ?_
  refine rn_lpv (s := (0 : Int32)) (by first | rfl | decide) ?_
  refine rn_lp (m := 1999999) ?_
  rw [fn_Reader_expression_B79]
  refine rn_f (by decide) ?_
  refine rn_gR (r := (some (n0 + 27))) (by simp [n_N, n_I, n_P, n_F, kd_N, kd_I, kd_P, kd_F, ln_N, ln_I, ln_P, ln_F, I_N, I_I, I_P, I_F, P_N, P_I, P_P, P_F, hb, hb0, hz, hz0, f70]) (by simp [n_N, n_I, n_P, n_F, kd_N, kd_I, kd_P, kd_F, ln_N, ln_I, ln_P, ln_F, I_N, I_I, I_P, I_F, P_N, P_I, P_P, P_F, hb, hb0, hz, hz0, f67]) ?_
  refine rn_gI (x := (0 : Int32)) (by simp [n_N, n_I, n_P, n_F, kd_N, kd_I, kd_P, kd_F, ln_N, ln_I, ln_P, ln_F, I_N, I_I, I_P, I_F, P_N, P_I, P_P, P_F, hb, hb0, hz, hz0, f70]) (by simp [n_N, n_I, n_P, n_F, kd_N, kd_I, kd_P, kd_F, ln_N, ln_I, ln_P, ln_F, I_N, I_I, I_P, I_F, P_N, P_I, P_P, P_F, hb, hb0, hz, hz0, f63]) ?_
  refine rn_aI (n := 141) (k := 0) (x := (1 : Int32)) (by simp [n_N, n_I, n_P, n_F, kd_N, kd_I, kd_P, kd_F, ln_N, ln_I, ln_P, ln_F, I_N, I_I, I_P, I_F, P_N, P_I, P_P, P_F, hb, hb0, hz, hz0, f72]) (by simp [n_N, n_I, n_P, n_F, kd_N, kd_I, kd_P, kd_F, ln_N, ln_I, ln_P, ln_F, I_N, I_I, I_P, I_F, P_N, P_I, P_P, P_F, hb, hb0, hz, hz0, f73]) (by decide) (by decide) (by simp [n_N, n_I, n_P, n_F, kd_N, kd_I, kd_P, kd_F, ln_N, ln_I, ln_P, ln_F, I_N, I_I, I_P, I_F, P_N, P_I, P_P, P_F, hb, hb0, hz, hz0, f71]) ?_
  refine rn_f (by decide) ?_
  try unfold fn_Reader_expression_J110
  refine rn_gI (x := (0 : Int32)) (by simp [n_N, n_I, n_P, n_F, kd_N, kd_I, kd_P, kd_F, ln_N, ln_I, ln_P, ln_F, I_N, I_I, I_P, I_F, P_N, P_I, P_P, P_F, hb, hb0, hz, hz0, f70]) (by simp [n_N, n_I, n_P, n_F, kd_N, kd_I, kd_P, kd_F, ln_N, ln_I, ln_P, ln_F, I_N, I_I, I_P, I_F, P_N, P_I, P_P, P_F, hb, hb0, hz, hz0, f64]) ?_
  refine rn_lpv (s := (-1 : Int32)) (by first | rfl | decide) ?_
  refine rn_lp (m := 1999999) ?_
  rw [fn_Reader_expression_B117]
  refine rn_t (by decide) ?_
  refine rn_pI (by simp [n_N, n_I, n_P, n_F, kd_N, kd_I, kd_P, kd_F, ln_N, ln_I, ln_P, ln_F, I_N, I_I, I_P, I_F, P_N, P_I, P_P, P_F, hb, hb0, hz, hz0, f70]) ?_
  refine rn_ret ?_
  refine rn_bnd (rn_cV (by simp [n_N, n_I, n_P, n_F, kd_N, kd_I, kd_P, kd_F, ln_N, ln_I, ln_P, ln_F, I_N, I_I, I_P, I_F, P_N, P_I, P_P, P_F, hb, hb0, hz, hz0, f70]) ?_)
  try unfold fn_Reader_takeEnd
  refine rn_gR (r := (some (n0 + 27))) (by simp [n_N, n_I, n_P, n_F, kd_N, kd_I, kd_P, kd_F, ln_N, ln_I, ln_P, ln_F, I_N, I_I, I_P, I_F, P_N, P_I, P_P, P_F, hb, hb0, hz, hz0, f70]) (by simp [n_N, n_I, n_P, n_F, kd_N, kd_I, kd_P, kd_F, ln_N, ln_I, ln_P, ln_F, I_N, I_I, I_P, I_F, P_N, P_I, P_P, P_F, hb, hb0, hz, hz0, f67]) ?_
  refine rn_gI (x := (0 : Int32)) (by simp [n_N, n_I, n_P, n_F, kd_N, kd_I, kd_P, kd_F, ln_N, ln_I, ln_P, ln_F, I_N, I_I, I_P, I_F, P_N, P_I, P_P, P_F, hb, hb0, hz, hz0, f70]) (by simp [n_N, n_I, n_P, n_F, kd_N, kd_I, kd_P, kd_F, ln_N, ln_I, ln_P, ln_F, I_N, I_I, I_P, I_F, P_N, P_I, P_P, P_F, hb, hb0, hz, hz0, f63]) ?_
  refine rn_aI (n := 141) (k := 0) (x := (1 : Int32)) (by simp [n_N, n_I, n_P, n_F, kd_N, kd_I, kd_P, kd_F, ln_N, ln_I, ln_P, ln_F, I_N, I_I, I_P, I_F, P_N, P_I, P_P, P_F, hb, hb0, hz, hz0, f72]) (by simp [n_N, n_I, n_P, n_F, kd_N, kd_I, kd_P, kd_F, ln_N, ln_I, ln_P, ln_F, I_N, I_I, I_P, I_F, P_N, P_I, P_P, P_F, hb, hb0, hz, hz0, f73]) (by decide) (by decide) (by simp [n_N, n_I, n_P, n_F, kd_N, kd_I, kd_P, kd_F, ln_N, ln_I, ln_P, ln_F, I_N, I_I, I_P, I_F, P_N, P_I, P_P, P_F, hb, hb0, hz, hz0, f71]) ?_
  refine rn_f (by decide) ?_
  refine rn_gR (r := (some (n0 + 27))) (by simp [n_N, n_I, n_P, n_F, kd_N, kd_I, kd_P, kd_F, ln_N, ln_I, ln_P, ln_F, I_N, I_I, I_P, I_F, P_N, P_I, P_P, P_F, hb, hb0, hz, hz0, f70]) (by simp [n_N, n_I, n_P, n_F, kd_N, kd_I, kd_P, kd_F, ln_N, ln_I, ln_P, ln_F, I_N, I_I, I_P, I_F, P_N, P_I, P_P, P_F, hb, hb0, hz, hz0, f67]) ?_
  refine rn_gI (x := (0 : Int32)) (by simp [n_N, n_I, n_P, n_F, kd_N, kd_I, kd_P, kd_F, ln_N, ln_I, ln_P, ln_F, I_N, I_I, I_P, I_F, P_N, P_I, P_P, P_F, hb, hb0, hz, hz0, f70]) (by simp [n_N, n_I, n_P, n_F, kd_N, kd_I, kd_P, kd_F, ln_N, ln_I, ln_P, ln_F, I_N, I_I, I_P, I_F, P_N, P_I, P_P, P_F, hb, hb0, hz, hz0, f63]) ?_
  refine rn_sI (n := 141) (k := 0) (by simp [n_N, n_I, n_P, n_F, kd_N, kd_I, kd_P, kd_F, ln_N, ln_I, ln_P, ln_F, I_N, I_I, I_P, I_F, P_N, P_I, P_P, P_F, hb, hb0, hz, hz0, f72]) (by simp [n_N, n_I, n_P, n_F, kd_N, kd_I, kd_P, kd_F, ln_N, ln_I, ln_P, ln_F, I_N, I_I, I_P, I_F, P_N, P_I, P_P, P_F, hb, hb0, hz, hz0, f73]) (by decide) (by decide) ?_
  refine rn_ret ?_
  refine rn_ret ?_
  refine rn_pI (by simp [n_N, n_I, n_P, n_F, kd_N, kd_I, kd_P, kd_F, ln_N, ln_I, ln_P, ln_F, I_N, I_I, I_P, I_F, P_N, P_I, P_P, P_F, hb, hb0, hz, hz0, f7]) ?_
  refine rn_gR (r := (some (n0 + 34))) (by simp [n_N, n_I, n_P, n_F, kd_N, kd_I, kd_P, kd_F, ln_N, ln_I, ln_P, ln_F, I_N, I_I, I_P, I_F, P_N, P_I, P_P, P_F, hb, hb0, hz, hz0, f7]) (by simp [n_N, n_I, n_P, n_F, kd_N, kd_I, kd_P, kd_F, ln_N, ln_I, ln_P, ln_F, I_N, I_I, I_P, I_F, P_N, P_I, P_P, P_F, hb, hb0, hz, hz0, f6]) ?_
  refine rn_bnd (rn_cV (by simp [n_N, n_I, n_P, n_F, kd_N, kd_I, kd_P, kd_F, ln_N, ln_I, ln_P, ln_F, I_N, I_I, I_P, I_F, P_N, P_I, P_P, P_F, hb, hb0, hz, hz0, f79]) ?_)
  try unfold fn_Machine_dropValue
  refine rn_pI (by simp [n_N, n_I, n_P, n_F, kd_N, kd_I, kd_P, kd_F, ln_N, ln_I, ln_P, ln_F, I_N, I_I, I_P, I_F, P_N, P_I, P_P, P_F, hb, hb0, hz, hz0, f79]) ?_
  refine rn_ret ?_
  refine rn_gR (r := (some (n0 + 26))) (by simp [n_N, n_I, n_P, n_F, kd_N, kd_I, kd_P, kd_F, ln_N, ln_I, ln_P, ln_F, I_N, I_I, I_P, I_F, P_N, P_I, P_P, P_F, hb, hb0, hz, hz0, f7]) (by simp [n_N, n_I, n_P, n_F, kd_N, kd_I, kd_P, kd_F, ln_N, ln_I, ln_P, ln_F, I_N, I_I, I_P, I_F, P_N, P_I, P_P, P_F, hb, hb0, hz, hz0, f5]) ?_
  refine rn_bnd (rn_cV (by simp [n_N, n_I, n_P, n_F, kd_N, kd_I, kd_P, kd_F, ln_N, ln_I, ln_P, ln_F, I_N, I_I, I_P, I_F, P_N, P_I, P_P, P_F, hb, hb0, hz, hz0, f70]) ?_)
  try unfold fn_Reader_answerIfFaulty
  refine rn_gR (r := (some (n0 + 27))) (by simp [n_N, n_I, n_P, n_F, kd_N, kd_I, kd_P, kd_F, ln_N, ln_I, ln_P, ln_F, I_N, I_I, I_P, I_F, P_N, P_I, P_P, P_F, hb, hb0, hz, hz0, f70]) (by simp [n_N, n_I, n_P, n_F, kd_N, kd_I, kd_P, kd_F, ln_N, ln_I, ln_P, ln_F, I_N, I_I, I_P, I_F, P_N, P_I, P_P, P_F, hb, hb0, hz, hz0, f67]) ?_
  refine rn_gI (x := (0 : Int32)) (by simp [n_N, n_I, n_P, n_F, kd_N, kd_I, kd_P, kd_F, ln_N, ln_I, ln_P, ln_F, I_N, I_I, I_P, I_F, P_N, P_I, P_P, P_F, hb, hb0, hz, hz0, f70]) (by simp [n_N, n_I, n_P, n_F, kd_N, kd_I, kd_P, kd_F, ln_N, ln_I, ln_P, ln_F, I_N, I_I, I_P, I_F, P_N, P_I, P_P, P_F, hb, hb0, hz, hz0, f63]) ?_
  refine rn_aI (n := 141) (k := 0) (x := (1 : Int32)) (by simp [n_N, n_I, n_P, n_F, kd_N, kd_I, kd_P, kd_F, ln_N, ln_I, ln_P, ln_F, I_N, I_I, I_P, I_F, P_N, P_I, P_P, P_F, hb, hb0, hz, hz0, f72]) (by simp [n_N, n_I, n_P, n_F, kd_N, kd_I, kd_P, kd_F, ln_N, ln_I, ln_P, ln_F, I_N, I_I, I_P, I_F, P_N, P_I, P_P, P_F, hb, hb0, hz, hz0, f73]) (by decide) (by decide) (by simp [n_N, n_I, n_P, n_F, kd_N, kd_I, kd_P, kd_F, ln_N, ln_I, ln_P, ln_F, I_N, I_I, I_P, I_F, P_N, P_I, P_P, P_F, hb, hb0, hz, hz0, f71]) ?_
  refine rn_t (by decide) ?_
  refine rn_gR (r := (some (n0 + 28))) (by simp [n_N, n_I, n_P, n_F, kd_N, kd_I, kd_P, kd_F, ln_N, ln_I, ln_P, ln_F, I_N, I_I, I_P, I_F, P_N, P_I, P_P, P_F, hb, hb0, hz, hz0, f70]) (by simp [n_N, n_I, n_P, n_F, kd_N, kd_I, kd_P, kd_F, ln_N, ln_I, ln_P, ln_F, I_N, I_I, I_P, I_F, P_N, P_I, P_P, P_F, hb, hb0, hz, hz0, f68]) ?_
  refine rn_gI (x := (0 : Int32)) (by simp [n_N, n_I, n_P, n_F, kd_N, kd_I, kd_P, kd_F, ln_N, ln_I, ln_P, ln_F, I_N, I_I, I_P, I_F, P_N, P_I, P_P, P_F, hb, hb0, hz, hz0, f70]) (by simp [n_N, n_I, n_P, n_F, kd_N, kd_I, kd_P, kd_F, ln_N, ln_I, ln_P, ln_F, I_N, I_I, I_P, I_F, P_N, P_I, P_P, P_F, hb, hb0, hz, hz0, f63]) ?_
  refine rn_aI (n := 141) (k := 0) (x := (0 : Int32)) (by simp [n_N, n_I, n_P, n_F, kd_N, kd_I, kd_P, kd_F, ln_N, ln_I, ln_P, ln_F, I_N, I_I, I_P, I_F, P_N, P_I, P_P, P_F, hb, hb0, hz, hz0, f75]) (by simp [n_N, n_I, n_P, n_F, kd_N, kd_I, kd_P, kd_F, ln_N, ln_I, ln_P, ln_F, I_N, I_I, I_P, I_F, P_N, P_I, P_P, P_F, hb, hb0, hz, hz0, f76]) (by decide) (by decide) (by simp [n_N, n_I, n_P, n_F, kd_N, kd_I, kd_P, kd_F, ln_N, ln_I, ln_P, ln_F, I_N, I_I, I_P, I_F, P_N, P_I, P_P, P_F, hb, hb0, hz, hz0, f74]) ?_
  refine rn_ret ?_
  refine rn_f (by decide) ?_
  try unfold fn_BT_run_J103
  refine rn_f (by decide) ?_
  try unfold fn_BT_run_J126
  refine rn_gR (r := (some (n0 + 2))) (by simp [n_N, n_I, n_P, n_F, kd_N, kd_I, kd_P, kd_F, ln_N, ln_I, ln_P, ln_F, I_N, I_I, I_P, I_F, P_N, P_I, P_P, P_F, hb, hb0, hz, hz0, f7]) (by simp [n_N, n_I, n_P, n_F, kd_N, kd_I, kd_P, kd_F, ln_N, ln_I, ln_P, ln_F, I_N, I_I, I_P, I_F, P_N, P_I, P_P, P_F, hb, hb0, hz, hz0, f2]) ?_
  refine rn_bnd (rn_cV (by simp [n_N, n_I, n_P, n_F, kd_N, kd_I, kd_P, kd_F, ln_N, ln_I, ln_P, ln_F, I_N, I_I, I_P, I_F, P_N, P_I, P_P, P_F, hb, hb0, hz, hz0, f17]) ?_)
  try unfold fn_Types_forget
  refine rn_gI (x := (8 : Int32)) (by simp [n_N, n_I, n_P, n_F, kd_N, kd_I, kd_P, kd_F, ln_N, ln_I, ln_P, ln_F, I_N, I_I, I_P, I_F, P_N, P_I, P_P, P_F, hb, hb0, hz, hz0, f17]) (by simp [n_N, n_I, n_P, n_F, kd_N, kd_I, kd_P, kd_F, ln_N, ln_I, ln_P, ln_F, I_N, I_I, I_P, I_F, P_N, P_I, P_P, P_F, hb, hb0, hz, hz0, f10]) ?_
  refine rn_lpv (s := (7 : Int32)) (by first | rfl | decide) ?_
  refine rn_lp (m := 1999999) ?_
  rw [fn_Types_forget_B14]
  refine rn_t (by decide) ?_
  refine rn_gI (x := (8 : Int32)) (by simp [n_N, n_I, n_P, n_F, kd_N, kd_I, kd_P, kd_F, ln_N, ln_I, ln_P, ln_F, I_N, I_I, I_P, I_F, P_N, P_I, P_P, P_F, hb, hb0, hz, hz0, f17]) (by simp [n_N, n_I, n_P, n_F, kd_N, kd_I, kd_P, kd_F, ln_N, ln_I, ln_P, ln_F, I_N, I_I, I_P, I_F, P_N, P_I, P_P, P_F, hb, hb0, hz, hz0, f10]) ?_
  refine rn_pI (by simp [n_N, n_I, n_P, n_F, kd_N, kd_I, kd_P, kd_F, ln_N, ln_I, ln_P, ln_F, I_N, I_I, I_P, I_F, P_N, P_I, P_P, P_F, hb, hb0, hz, hz0, f17]) ?_
  refine rn_ret ?_
  refine rn_gR (r := (some (n0 + 9))) (by simp [n_N, n_I, n_P, n_F, kd_N, kd_I, kd_P, kd_F, ln_N, ln_I, ln_P, ln_F, I_N, I_I, I_P, I_F, P_N, P_I, P_P, P_F, hb, hb0, hz, hz0, f7]) (by simp [n_N, n_I, n_P, n_F, kd_N, kd_I, kd_P, kd_F, ln_N, ln_I, ln_P, ln_F, I_N, I_I, I_P, I_F, P_N, P_I, P_P, P_F, hb, hb0, hz, hz0, f3]) ?_
  refine rn_bnd (rn_cV (by simp [n_N, n_I, n_P, n_F, kd_N, kd_I, kd_P, kd_F, ln_N, ln_I, ln_P, ln_F, I_N, I_I, I_P, I_F, P_N, P_I, P_P, P_F, hb, hb0, hz, hz0, f43]) ?_)
  try unfold fn_Code_forget
  refine rn_gI (x := (1 : Int32)) (by simp [n_N, n_I, n_P, n_F, kd_N, kd_I, kd_P, kd_F, ln_N, ln_I, ln_P, ln_F, I_N, I_I, I_P, I_F, P_N, P_I, P_P, P_F, hb, hb0, hz, hz0, f43]) (by simp [n_N, n_I, n_P, n_F, kd_N, kd_I, kd_P, kd_F, ln_N, ln_I, ln_P, ln_F, I_N, I_I, I_P, I_F, P_N, P_I, P_P, P_F, hb, hb0, hz, hz0, f38]) ?_
  refine rn_pI (by simp [n_N, n_I, n_P, n_F, kd_N, kd_I, kd_P, kd_F, ln_N, ln_I, ln_P, ln_F, I_N, I_I, I_P, I_F, P_N, P_I, P_P, P_F, hb, hb0, hz, hz0, f43]) ?_
  refine rn_ret ?_
  refine rn_ret ?_
  refine rn_bnd (rn_cV (by simp [n_N, n_I, n_P, n_F, kd_N, kd_I, kd_P, kd_F, ln_N, ln_I, ln_P, ln_F, I_N, I_I, I_P, I_F, P_N, P_I, P_P, P_F, hb, hb0, hz, hz0, f98]) ?_)
  try unfold fn_Md_run
  refine rn_bnd ?_
  try unfold fn_Md_in
  refine rn_f h1 ?_
  refine rn_f h3 ?_
  refine rn_retZ (by decide) ?_
  refine rn_f (by decide) ?_
  refine rn_gI (x := (8 : Int32)) (by simp [n_N, n_I, n_P, n_F, kd_N, kd_I, kd_P, kd_F, ln_N, ln_I, ln_P, ln_F, I_N, I_I, I_P, I_F, P_N, P_I, P_P, P_F, hb, hb0, hz, hz0, f98]) (by simp [n_N, n_I, n_P, n_F, kd_N, kd_I, kd_P, kd_F, ln_N, ln_I, ln_P, ln_F, I_N, I_I, I_P, I_F, P_N, P_I, P_P, P_F, hb, hb0, hz, hz0, f85]) ?_
  refine rn_gI (x := (0 : Int32)) (by simp [n_N, n_I, n_P, n_F, kd_N, kd_I, kd_P, kd_F, ln_N, ln_I, ln_P, ln_F, I_N, I_I, I_P, I_F, P_N, P_I, P_P, P_F, hb, hb0, hz, hz0, f98]) (by simp [n_N, n_I, n_P, n_F, kd_N, kd_I, kd_P, kd_F, ln_N, ln_I, ln_P, ln_F, I_N, I_I, I_P, I_F, P_N, P_I, P_P, P_F, hb, hb0, hz, hz0, f88]) ?_
  refine rn_bnd (rn_cV (by simp [n_N, n_I, n_P, n_F, kd_N, kd_I, kd_P, kd_F, ln_N, ln_I, ln_P, ln_F, I_N, I_I, I_P, I_F, P_N, P_I, P_P, P_F, hb, hb0, hz, hz0, f98]) ?_)
  try unfold fn_Md_begin
  refine rn_pI (by simp [n_N, n_I, n_P, n_F, kd_N, kd_I, kd_P, kd_F, ln_N, ln_I, ln_P, ln_F, I_N, I_I, I_P, I_F, P_N, P_I, P_P, P_F, hb, hb0, hz, hz0, f98]) ?_
  refine rn_gI (x := (0 : Int32)) (by simp [n_N, n_I, n_P, n_F, kd_N, kd_I, kd_P, kd_F, ln_N, ln_I, ln_P, ln_F, I_N, I_I, I_P, I_F, P_N, P_I, P_P, P_F, hb, hb0, hz, hz0, f98]) (by simp [n_N, n_I, n_P, n_F, kd_N, kd_I, kd_P, kd_F, ln_N, ln_I, ln_P, ln_F, I_N, I_I, I_P, I_F, P_N, P_I, P_P, P_F, hb, hb0, hz, hz0, f80]) ?_
  refine rn_pI (by simp [n_N, n_I, n_P, n_F, kd_N, kd_I, kd_P, kd_F, ln_N, ln_I, ln_P, ln_F, I_N, I_I, I_P, I_F, P_N, P_I, P_P, P_F, hb, hb0, hz, hz0, f98]) ?_
  refine rn_pI (by simp [n_N, n_I, n_P, n_F, kd_N, kd_I, kd_P, kd_F, ln_N, ln_I, ln_P, ln_F, I_N, I_I, I_P, I_F, P_N, P_I, P_P, P_F, hb, hb0, hz, hz0, f98]) ?_
  refine rn_pI (by simp [n_N, n_I, n_P, n_F, kd_N, kd_I, kd_P, kd_F, ln_N, ln_I, ln_P, ln_F, I_N, I_I, I_P, I_F, P_N, P_I, P_P, P_F, hb, hb0, hz, hz0, f98]) ?_
  refine rn_pI (by simp [n_N, n_I, n_P, n_F, kd_N, kd_I, kd_P, kd_F, ln_N, ln_I, ln_P, ln_F, I_N, I_I, I_P, I_F, P_N, P_I, P_P, P_F, hb, hb0, hz, hz0, f98]) ?_
  refine rn_pI (by simp [n_N, n_I, n_P, n_F, kd_N, kd_I, kd_P, kd_F, ln_N, ln_I, ln_P, ln_F, I_N, I_I, I_P, I_F, P_N, P_I, P_P, P_F, hb, hb0, hz, hz0, f98]) ?_
  refine rn_ret ?_
  refine rn_pI (by simp [n_N, n_I, n_P, n_F, kd_N, kd_I, kd_P, kd_F, ln_N, ln_I, ln_P, ln_F, I_N, I_I, I_P, I_F, P_N, P_I, P_P, P_F, hb, hb0, hz, hz0, f98]) ?_
  refine rn_bnd (rn_cV (by simp [n_N, n_I, n_P, n_F, kd_N, kd_I, kd_P, kd_F, ln_N, ln_I, ln_P, ln_F, I_N, I_I, I_P, I_F, P_N, P_I, P_P, P_F, hb, hb0, hz, hz0, f98]) ?_)
  try unfold fn_Md_readExpression
  refine rn_lpv (s := ((0 : Int32), (1 : Int32), (0 : Int32))) (by first | rfl | decide) ?_
  refine rn_lp (m := 1999999) ?_
  rw [fn_Md_readExpression_B6]
  refine rn_gI (x := (-1 : Int32)) (by simp [n_N, n_I, n_P, n_F, kd_N, kd_I, kd_P, kd_F, ln_N, ln_I, ln_P, ln_F, I_N, I_I, I_P, I_F, P_N, P_I, P_P, P_F, hb, hb0, hz, hz0, f98]) (by simp [n_N, n_I, n_P, n_F, kd_N, kd_I, kd_P, kd_F, ln_N, ln_I, ln_P, ln_F, I_N, I_I, I_P, I_F, P_N, P_I, P_P, P_F, hb, hb0, hz, hz0, f84]) ?_
  refine rn_f (by decide) ?_
  refine rn_t (by decide) ?_
  refine rn_f (by decide) ?_
  refine rn_bnd (rn_cV (by simp [n_N, n_I, n_P, n_F, kd_N, kd_I, kd_P, kd_F, ln_N, ln_I, ln_P, ln_F, I_N, I_I, I_P, I_F, P_N, P_I, P_P, P_F, hb, hb0, hz, hz0, f98]) ?_)
  try unfold fn_Md_readBase
  refine rn_bnd (rn_cV (by simp [n_N, n_I, n_P, n_F, kd_N, kd_I, kd_P, kd_F, ln_N, ln_I, ln_P, ln_F, I_N, I_I, I_P, I_F, P_N, P_I, P_P, P_F, hb, hb0, hz, hz0, f98]) ?_)
  try unfold fn_Md_look
  refine rn_gI (x := (0 : Int32)) (by simp [n_N, n_I, n_P, n_F, kd_N, kd_I, kd_P, kd_F, ln_N, ln_I, ln_P, ln_F, I_N, I_I, I_P, I_F, P_N, P_I, P_P, P_F, hb, hb0, hz, hz0, f98]) (by simp [n_N, n_I, n_P, n_F, kd_N, kd_I, kd_P, kd_F, ln_N, ln_I, ln_P, ln_F, I_N, I_I, I_P, I_F, P_N, P_I, P_P, P_F, hb, hb0, hz, hz0, f82]) ?_
  refine rn_gI (x := (0 : Int32)) (by simp [n_N, n_I, n_P, n_F, kd_N, kd_I, kd_P, kd_F, ln_N, ln_I, ln_P, ln_F, I_N, I_I, I_P, I_F, P_N, P_I, P_P, P_F, hb, hb0, hz, hz0, f98]) (by simp [n_N, n_I, n_P, n_F, kd_N, kd_I, kd_P, kd_F, ln_N, ln_I, ln_P, ln_F, I_N, I_I, I_P, I_F, P_N, P_I, P_P, P_F, hb, hb0, hz, hz0, f81]) ?_
  refine rn_t (by decide) ?_
  try unfold fn_Md_look_J38
  refine rn_gI (x := (0 : Int32)) (by simp [n_N, n_I, n_P, n_F, kd_N, kd_I, kd_P, kd_F, ln_N, ln_I, ln_P, ln_F, I_N, I_I, I_P, I_F, P_N, P_I, P_P, P_F, hb, hb0, hz, hz0, f98]) (by simp [n_N, n_I, n_P, n_F, kd_N, kd_I, kd_P, kd_F, ln_N, ln_I, ln_P, ln_F, I_N, I_I, I_P, I_F, P_N, P_I, P_P, P_F, hb, hb0, hz, hz0, f82]) ?_
  refine rn_gI (x := (0 : Int32)) (by simp [n_N, n_I, n_P, n_F, kd_N, kd_I, kd_P, kd_F, ln_N, ln_I, ln_P, ln_F, I_N, I_I, I_P, I_F, P_N, P_I, P_P, P_F, hb, hb0, hz, hz0, f98]) (by simp [n_N, n_I, n_P, n_F, kd_N, kd_I, kd_P, kd_F, ln_N, ln_I, ln_P, ln_F, I_N, I_I, I_P, I_F, P_N, P_I, P_P, P_F, hb, hb0, hz, hz0, f81]) ?_
  refine rn_t (by decide) ?_
  refine rn_ret ?_
  refine rn_f (by decide) ?_
  refine rn_f (by decide) ?_
  refine rn_bnd (rn_cV (by simp [n_N, n_I, n_P, n_F, kd_N, kd_I, kd_P, kd_F, ln_N, ln_I, ln_P, ln_F, I_N, I_I, I_P, I_F, P_N, P_I, P_P, P_F, hb, hb0, hz, hz0, f98]) ?_)
  try unfold fn_Md_readLetter
  refine rn_bnd (rn_cV (by simp [n_N, n_I, n_P, n_F, kd_N, kd_I, kd_P, kd_F, ln_N, ln_I, ln_P, ln_F, I_N, I_I, I_P, I_F, P_N, P_I, P_P, P_F, hb, hb0, hz, hz0, f98]) ?_)
  try unfold fn_Md_look
  refine rn_gI (x := (0 : Int32)) (by simp [n_N, n_I, n_P, n_F, kd_N, kd_I, kd_P, kd_F, ln_N, ln_I, ln_P, ln_F, I_N, I_I, I_P, I_F, P_N, P_I, P_P, P_F, hb, hb0, hz, hz0, f98]) (by simp [n_N, n_I, n_P, n_F, kd_N, kd_I, kd_P, kd_F, ln_N, ln_I, ln_P, ln_F, I_N, I_I, I_P, I_F, P_N, P_I, P_P, P_F, hb, hb0, hz, hz0, f82]) ?_
  refine rn_gI (x := (0 : Int32)) (by simp [n_N, n_I, n_P, n_F, kd_N, kd_I, kd_P, kd_F, ln_N, ln_I, ln_P, ln_F, I_N, I_I, I_P, I_F, P_N, P_I, P_P, P_F, hb, hb0, hz, hz0, f98]) (by simp [n_N, n_I, n_P, n_F, kd_N, kd_I, kd_P, kd_F, ln_N, ln_I, ln_P, ln_F, I_N, I_I, I_P, I_F, P_N, P_I, P_P, P_F, hb, hb0, hz, hz0, f81]) ?_
  refine rn_t (by decide) ?_
  try unfold fn_Md_look_J38
  refine rn_gI (x := (0 : Int32)) (by simp [n_N, n_I, n_P, n_F, kd_N, kd_I, kd_P, kd_F, ln_N, ln_I, ln_P, ln_F, I_N, I_I, I_P, I_F, P_N, P_I, P_P, P_F, hb, hb0, hz, hz0, f98]) (by simp [n_N, n_I, n_P, n_F, kd_N, kd_I, kd_P, kd_F, ln_N, ln_I, ln_P, ln_F, I_N, I_I, I_P, I_F, P_N, P_I, P_P, P_F, hb, hb0, hz, hz0, f82]) ?_
  refine rn_gI (x := (0 : Int32)) (by simp [n_N, n_I, n_P, n_F, kd_N, kd_I, kd_P, kd_F, ln_N, ln_I, ln_P, ln_F, I_N, I_I, I_P, I_F, P_N, P_I, P_P, P_F, hb, hb0, hz, hz0, f98]) (by simp [n_N, n_I, n_P, n_F, kd_N, kd_I, kd_P, kd_F, ln_N, ln_I, ln_P, ln_F, I_N, I_I, I_P, I_F, P_N, P_I, P_P, P_F, hb, hb0, hz, hz0, f81]) ?_
  refine rn_t (by decide) ?_
  refine rn_ret ?_
  refine rn_bnd ?_
  try unfold fn_Md_in
  refine rn_t (by decide) ?_
  refine rn_retZ (by decide) ?_
  refine rn_t (by decide) ?_
  refine rn_bnd (rn_cV (by simp [n_N, n_I, n_P, n_F, kd_N, kd_I, kd_P, kd_F, ln_N, ln_I, ln_P, ln_F, I_N, I_I, I_P, I_F, P_N, P_I, P_P, P_F, hb, hb0, hz, hz0, f98]) ?_)
  try unfold fn_Md_fail
  refine rn_bnd (rn_cV (by simp [n_N, n_I, n_P, n_F, kd_N, kd_I, kd_P, kd_F, ln_N, ln_I, ln_P, ln_F, I_N, I_I, I_P, I_F, P_N, P_I, P_P, P_F, hb, hb0, hz, hz0, f98]) ?_)
  try unfold fn_Md_look
  refine rn_gI (x := (0 : Int32)) (by simp [n_N, n_I, n_P, n_F, kd_N, kd_I, kd_P, kd_F, ln_N, ln_I, ln_P, ln_F, I_N, I_I, I_P, I_F, P_N, P_I, P_P, P_F, hb, hb0, hz, hz0, f98]) (by simp [n_N, n_I, n_P, n_F, kd_N, kd_I, kd_P, kd_F, ln_N, ln_I, ln_P, ln_F, I_N, I_I, I_P, I_F, P_N, P_I, P_P, P_F, hb, hb0, hz, hz0, f82]) ?_
  refine rn_gI (x := (0 : Int32)) (by simp [n_N, n_I, n_P, n_F, kd_N, kd_I, kd_P, kd_F, ln_N, ln_I, ln_P, ln_F, I_N, I_I, I_P, I_F, P_N, P_I, P_P, P_F, hb, hb0, hz, hz0, f98]) (by simp [n_N, n_I, n_P, n_F, kd_N, kd_I, kd_P, kd_F, ln_N, ln_I, ln_P, ln_F, I_N, I_I, I_P, I_F, P_N, P_I, P_P, P_F, hb, hb0, hz, hz0, f81]) ?_
  refine rn_t (by decide) ?_
  try unfold fn_Md_look_J38
  refine rn_gI (x := (0 : Int32)) (by simp [n_N, n_I, n_P, n_F, kd_N, kd_I, kd_P, kd_F, ln_N, ln_I, ln_P, ln_F, I_N, I_I, I_P, I_F, P_N, P_I, P_P, P_F, hb, hb0, hz, hz0, f98]) (by simp [n_N, n_I, n_P, n_F, kd_N, kd_I, kd_P, kd_F, ln_N, ln_I, ln_P, ln_F, I_N, I_I, I_P, I_F, P_N, P_I, P_P, P_F, hb, hb0, hz, hz0, f82]) ?_
  refine rn_gI (x := (0 : Int32)) (by simp [n_N, n_I, n_P, n_F, kd_N, kd_I, kd_P, kd_F, ln_N, ln_I, ln_P, ln_F, I_N, I_I, I_P, I_F, P_N, P_I, P_P, P_F, hb, hb0, hz, hz0, f98]) (by simp [n_N, n_I, n_P, n_F, kd_N, kd_I, kd_P, kd_F, ln_N, ln_I, ln_P, ln_F, I_N, I_I, I_P, I_F, P_N, P_I, P_P, P_F, hb, hb0, hz, hz0, f81]) ?_
  refine rn_t (by decide) ?_
  refine rn_ret ?_
  refine rn_gI (x := (-1 : Int32)) (by simp [n_N, n_I, n_P, n_F, kd_N, kd_I, kd_P, kd_F, ln_N, ln_I, ln_P, ln_F, I_N, I_I, I_P, I_F, P_N, P_I, P_P, P_F, hb, hb0, hz, hz0, f98]) (by simp [n_N, n_I, n_P, n_F, kd_N, kd_I, kd_P, kd_F, ln_N, ln_I, ln_P, ln_F, I_N, I_I, I_P, I_F, P_N, P_I, P_P, P_F, hb, hb0, hz, hz0, f84]) ?_
  refine rn_f (by decide) ?_
  refine rn_gI (x := (0 : Int32)) (by simp [n_N, n_I, n_P, n_F, kd_N, kd_I, kd_P, kd_F, ln_N, ln_I, ln_P, ln_F, I_N, I_I, I_P, I_F, P_N, P_I, P_P, P_F, hb, hb0, hz, hz0, f98]) (by simp [n_N, n_I, n_P, n_F, kd_N, kd_I, kd_P, kd_F, ln_N, ln_I, ln_P, ln_F, I_N, I_I, I_P, I_F, P_N, P_I, P_P, P_F, hb, hb0, hz, hz0, f82]) ?_
  try unfold fn_Md_fail_J24
  refine rn_pI (by simp [n_N, n_I, n_P, n_F, kd_N, kd_I, kd_P, kd_F, ln_N, ln_I, ln_P, ln_F, I_N, I_I, I_P, I_F, P_N, P_I, P_P, P_F, hb, hb0, hz, hz0, f98]) ?_
  refine rn_ret ?_
  try unfold fn_Md_readLetter_J18
  refine rn_gI (x := (0 : Int32)) (by simp [n_N, n_I, n_P, n_F, kd_N, kd_I, kd_P, kd_F, ln_N, ln_I, ln_P, ln_F, I_N, I_I, I_P, I_F, P_N, P_I, P_P, P_F, hb, hb0, hz, hz0, f98]) (by simp [n_N, n_I, n_P, n_F, kd_N, kd_I, kd_P, kd_F, ln_N, ln_I, ln_P, ln_F, I_N, I_I, I_P, I_F, P_N, P_I, P_P, P_F, hb, hb0, hz, hz0, f82]) ?_
  refine rn_pI (by simp [n_N, n_I, n_P, n_F, kd_N, kd_I, kd_P, kd_F, ln_N, ln_I, ln_P, ln_F, I_N, I_I, I_P, I_F, P_N, P_I, P_P, P_F, hb, hb0, hz, hz0, f98]) ?_
  refine rn_gI (x := (0 : Int32)) (by simp [n_N, n_I, n_P, n_F, kd_N, kd_I, kd_P, kd_F, ln_N, ln_I, ln_P, ln_F, I_N, I_I, I_P, I_F, P_N, P_I, P_P, P_F, hb, hb0, hz, hz0, f98]) (by simp [n_N, n_I, n_P, n_F, kd_N, kd_I, kd_P, kd_F, ln_N, ln_I, ln_P, ln_F, I_N, I_I, I_P, I_F, P_N, P_I, P_P, P_F, hb, hb0, hz, hz0, f84]) ?_
  refine rn_t (by decide) ?_
  refine rn_ret ?_
  refine rn_bnd (rn_cV (by simp [n_N, n_I, n_P, n_F, kd_N, kd_I, kd_P, kd_F, ln_N, ln_I, ln_P, ln_F, I_N, I_I, I_P, I_F, P_N, P_I, P_P, P_F, hb, hb0, hz, hz0, f98]) ?_)
  try unfold fn_Md_put
  refine rn_gR (r := (some (n0 + 71))) (by simp [n_N, n_I, n_P, n_F, kd_N, kd_I, kd_P, kd_F, ln_N, ln_I, ln_P, ln_F, I_N, I_I, I_P, I_F, P_N, P_I, P_P, P_F, hb, hb0, hz, hz0, f98]) (by simp [n_N, n_I, n_P, n_F, kd_N, kd_I, kd_P, kd_F, ln_N, ln_I, ln_P, ln_F, I_N, I_I, I_P, I_F, P_N, P_I, P_P, P_F, hb, hb0, hz, hz0, f97]) ?_
  refine rn_gI (x := (0 : Int32)) (by simp [n_N, n_I, n_P, n_F, kd_N, kd_I, kd_P, kd_F, ln_N, ln_I, ln_P, ln_F, I_N, I_I, I_P, I_F, P_N, P_I, P_P, P_F, hb, hb0, hz, hz0, f98]) (by simp [n_N, n_I, n_P, n_F, kd_N, kd_I, kd_P, kd_F, ln_N, ln_I, ln_P, ln_F, I_N, I_I, I_P, I_F, P_N, P_I, P_P, P_F, hb, hb0, hz, hz0, f88]) ?_
  refine rn_sL (n := 1600) (by simp [n_N, n_I, n_P, n_F, kd_N, kd_I, kd_P, kd_F, ln_N, ln_I, ln_P, ln_F, I_N, I_I, I_P, I_F, P_N, P_I, P_P, P_F, hb, hb0, hz, hz0, f109]) (by simp [n_N, n_I, n_P, n_F, kd_N, kd_I, kd_P, kd_F, ln_N, ln_I, ln_P, ln_F, I_N, I_I, I_P, I_F, P_N, P_I, P_P, P_F, hb, hb0, hz, hz0, f110]) (by decide) ?_
  refine rn_gI (x := (0 : Int32)) (by simp [n_N, n_I, n_P, n_F, kd_N, kd_I, kd_P, kd_F, ln_N, ln_I, ln_P, ln_F, I_N, I_I, I_P, I_F, P_N, P_I, P_P, P_F, hb, hb0, hz, hz0, f98]) (by simp [n_N, n_I, n_P, n_F, kd_N, kd_I, kd_P, kd_F, ln_N, ln_I, ln_P, ln_F, I_N, I_I, I_P, I_F, P_N, P_I, P_P, P_F, hb, hb0, hz, hz0, f88]) ?_
  refine rn_pI (by simp [n_N, n_I, n_P, n_F, kd_N, kd_I, kd_P, kd_F, ln_N, ln_I, ln_P, ln_F, I_N, I_I, I_P, I_F, P_N, P_I, P_P, P_F, hb, hb0, hz, hz0, f98]) ?_
  refine rn_ret ?_
  refine rn_ret ?_
  refine rn_t (by decide) ?_
  try unfold fn_Md_readExpression_J39
  refine rn_lpv (s := ((0 : Int32), (0 : Int32), (0 : Int32))) (by first | rfl | decide) ?_
  refine rn_lp (m := 1999998) ?_
  rw [fn_Md_readExpression_B6]
  refine rn_gI (x := (0 : Int32)) (by simp [n_N, n_I, n_P, n_F, kd_N, kd_I, kd_P, kd_F, ln_N, ln_I, ln_P, ln_F, I_N, I_I, I_P, I_F, P_N, P_I, P_P, P_F, hb, hb0, hz, hz0, f98]) (by simp [n_N, n_I, n_P, n_F, kd_N, kd_I, kd_P, kd_F, ln_N, ln_I, ln_P, ln_F, I_N, I_I, I_P, I_F, P_N, P_I, P_P, P_F, hb, hb0, hz, hz0, f84]) ?_
  refine rn_t (by decide) ?_
  refine rn_ret ?_
  refine rn_bnd (rn_cV (by simp [n_N, n_I, n_P, n_F, kd_N, kd_I, kd_P, kd_F, ln_N, ln_I, ln_P, ln_F, I_N, I_I, I_P, I_F, P_N, P_I, P_P, P_F, hb, hb0, hz, hz0, f98]) ?_)
  try unfold fn_Md_look
  refine rn_gI (x := (1 : Int32)) (by simp [n_N, n_I, n_P, n_F, kd_N, kd_I, kd_P, kd_F, ln_N, ln_I, ln_P, ln_F, I_N, I_I, I_P, I_F, P_N, P_I, P_P, P_F, hb, hb0, hz, hz0, f98]) (by simp [n_N, n_I, n_P, n_F, kd_N, kd_I, kd_P, kd_F, ln_N, ln_I, ln_P, ln_F, I_N, I_I, I_P, I_F, P_N, P_I, P_P, P_F, hb, hb0, hz, hz0, f82]) ?_
  refine rn_gI (x := (0 : Int32)) (by simp [n_N, n_I, n_P, n_F, kd_N, kd_I, kd_P, kd_F, ln_N, ln_I, ln_P, ln_F, I_N, I_I, I_P, I_F, P_N, P_I, P_P, P_F, hb, hb0, hz, hz0, f98]) (by simp [n_N, n_I, n_P, n_F, kd_N, kd_I, kd_P, kd_F, ln_N, ln_I, ln_P, ln_F, I_N, I_I, I_P, I_F, P_N, P_I, P_P, P_F, hb, hb0, hz, hz0, f81]) ?_
  refine rn_t (by decide) ?_
  try unfold fn_Md_look_J38
  refine rn_gI (x := (1 : Int32)) (by simp [n_N, n_I, n_P, n_F, kd_N, kd_I, kd_P, kd_F, ln_N, ln_I, ln_P, ln_F, I_N, I_I, I_P, I_F, P_N, P_I, P_P, P_F, hb, hb0, hz, hz0, f98]) (by simp [n_N, n_I, n_P, n_F, kd_N, kd_I, kd_P, kd_F, ln_N, ln_I, ln_P, ln_F, I_N, I_I, I_P, I_F, P_N, P_I, P_P, P_F, hb, hb0, hz, hz0, f82]) ?_
  refine rn_gI (x := (0 : Int32)) (by simp [n_N, n_I, n_P, n_F, kd_N, kd_I, kd_P, kd_F, ln_N, ln_I, ln_P, ln_F, I_N, I_I, I_P, I_F, P_N, P_I, P_P, P_F, hb, hb0, hz, hz0, f98]) (by simp [n_N, n_I, n_P, n_F, kd_N, kd_I, kd_P, kd_F, ln_N, ln_I, ln_P, ln_F, I_N, I_I, I_P, I_F, P_N, P_I, P_P, P_F, hb, hb0, hz, hz0, f81]) ?_
  refine rn_t (by decide) ?_
  refine rn_ret ?_
  refine rn_t (by decide) ?_
  try unfold fn_Md_run_J48
  refine rn_pI (by simp [n_N, n_I, n_P, n_F, kd_N, kd_I, kd_P, kd_F, ln_N, ln_I, ln_P, ln_F, I_N, I_I, I_P, I_F, P_N, P_I, P_P, P_F, hb, hb0, hz, hz0, f98]) ?_
  refine rn_bnd (rn_cV (by simp [n_N, n_I, n_P, n_F, kd_N, kd_I, kd_P, kd_F, ln_N, ln_I, ln_P, ln_F, I_N, I_I, I_P, I_F, P_N, P_I, P_P, P_F, hb, hb0, hz, hz0, f98]) ?_)
  try unfold fn_Md_noScope
  refine rn_lpv (s := (0 : Int32)) (by first | rfl | decide) ?_
  refine rn_lp (m := 1999999) ?_
  rw [fn_Md_noScope_B2]
  refine rn_f (by decide) ?_
  refine rn_gR (r := (some (n0 + 49))) (by simp [n_N, n_I, n_P, n_F, kd_N, kd_I, kd_P, kd_F, ln_N, ln_I, ln_P, ln_F, I_N, I_I, I_P, I_F, P_N, P_I, P_P, P_F, hb, hb0, hz, hz0, f98]) (by simp [n_N, n_I, n_P, n_F, kd_N, kd_I, kd_P, kd_F, ln_N, ln_I, ln_P, ln_F, I_N, I_I, I_P, I_F, P_N, P_I, P_P, P_F, hb, hb0, hz, hz0, f92]) ?_
  refine rn_sI (n := 8) (k := 0) (by simp [n_N, n_I, n_P, n_F, kd_N, kd_I, kd_P, kd_F, ln_N, ln_I, ln_P, ln_F, I_N, I_I, I_P, I_F, P_N, P_I, P_P, P_F, hb, hb0, hz, hz0, f101]) (by simp [n_N, n_I, n_P, n_F, kd_N, kd_I, kd_P, kd_F, ln_N, ln_I, ln_P, ln_F, I_N, I_I, I_P, I_F, P_N, P_I, P_P, P_F, hb, hb0, hz, hz0, f102]) (by decide) (by decide) ?_
  refine rn_lpv (s := (1 : Int32)) (by first | rfl | decide) ?_
  refine rn_lp (m := 1999998) ?_
  rw [fn_Md_noScope_B2]
  refine rn_f (by decide) ?_
  refine rn_gR (r := (some (n0 + 49))) (by simp [n_N, n_I, n_P, n_F, kd_N, kd_I, kd_P, kd_F, ln_N, ln_I, ln_P, ln_F, I_N, I_I, I_P, I_F, P_N, P_I, P_P, P_F, hb, hb0, hz, hz0, f98]) (by simp [n_N, n_I, n_P, n_F, kd_N, kd_I, kd_P, kd_F, ln_N, ln_I, ln_P, ln_F, I_N, I_I, I_P, I_F, P_N, P_I, P_P, P_F, hb, hb0, hz, hz0, f92]) ?_
  refine rn_sI (n := 8) (k := 1) (by simp [n_N, n_I, n_P, n_F, kd_N, kd_I, kd_P, kd_F, ln_N, ln_I, ln_P, ln_F, I_N, I_I, I_P, I_F, P_N, P_I, P_P, P_F, hb, hb0, hz, hz0, f101]) (by simp [n_N, n_I, n_P, n_F, kd_N, kd_I, kd_P, kd_F, ln_N, ln_I, ln_P, ln_F, I_N, I_I, I_P, I_F, P_N, P_I, P_P, P_F, hb, hb0, hz, hz0, f102]) (by decide) (by decide) ?_
  refine rn_lpv (s := (2 : Int32)) (by first | rfl | decide) ?_
  refine rn_lp (m := 1999997) ?_
  rw [fn_Md_noScope_B2]
  refine rn_f (by decide) ?_
  refine rn_gR (r := (some (n0 + 49))) (by simp [n_N, n_I, n_P, n_F, kd_N, kd_I, kd_P, kd_F, ln_N, ln_I, ln_P, ln_F, I_N, I_I, I_P, I_F, P_N, P_I, P_P, P_F, hb, hb0, hz, hz0, f98]) (by simp [n_N, n_I, n_P, n_F, kd_N, kd_I, kd_P, kd_F, ln_N, ln_I, ln_P, ln_F, I_N, I_I, I_P, I_F, P_N, P_I, P_P, P_F, hb, hb0, hz, hz0, f92]) ?_
  refine rn_sI (n := 8) (k := 2) (by simp [n_N, n_I, n_P, n_F, kd_N, kd_I, kd_P, kd_F, ln_N, ln_I, ln_P, ln_F, I_N, I_I, I_P, I_F, P_N, P_I, P_P, P_F, hb, hb0, hz, hz0, f101]) (by simp [n_N, n_I, n_P, n_F, kd_N, kd_I, kd_P, kd_F, ln_N, ln_I, ln_P, ln_F, I_N, I_I, I_P, I_F, P_N, P_I, P_P, P_F, hb, hb0, hz, hz0, f102]) (by decide) (by decide) ?_
  refine rn_lpv (s := (3 : Int32)) (by first | rfl | decide) ?_
  refine rn_lp (m := 1999996) ?_
  rw [fn_Md_noScope_B2]
  refine rn_f (by decide) ?_
  refine rn_gR (r := (some (n0 + 49))) (by simp [n_N, n_I, n_P, n_F, kd_N, kd_I, kd_P, kd_F, ln_N, ln_I, ln_P, ln_F, I_N, I_I, I_P, I_F, P_N, P_I, P_P, P_F, hb, hb0, hz, hz0, f98]) (by simp [n_N, n_I, n_P, n_F, kd_N, kd_I, kd_P, kd_F, ln_N, ln_I, ln_P, ln_F, I_N, I_I, I_P, I_F, P_N, P_I, P_P, P_F, hb, hb0, hz, hz0, f92]) ?_
  refine rn_sI (n := 8) (k := 3) (by simp [n_N, n_I, n_P, n_F, kd_N, kd_I, kd_P, kd_F, ln_N, ln_I, ln_P, ln_F, I_N, I_I, I_P, I_F, P_N, P_I, P_P, P_F, hb, hb0, hz, hz0, f101]) (by simp [n_N, n_I, n_P, n_F, kd_N, kd_I, kd_P, kd_F, ln_N, ln_I, ln_P, ln_F, I_N, I_I, I_P, I_F, P_N, P_I, P_P, P_F, hb, hb0, hz, hz0, f102]) (by decide) (by decide) ?_
  refine rn_lpv (s := (4 : Int32)) (by first | rfl | decide) ?_
  refine rn_lp (m := 1999995) ?_
  rw [fn_Md_noScope_B2]
  refine rn_f (by decide) ?_
  refine rn_gR (r := (some (n0 + 49))) (by simp [n_N, n_I, n_P, n_F, kd_N, kd_I, kd_P, kd_F, ln_N, ln_I, ln_P, ln_F, I_N, I_I, I_P, I_F, P_N, P_I, P_P, P_F, hb, hb0, hz, hz0, f98]) (by simp [n_N, n_I, n_P, n_F, kd_N, kd_I, kd_P, kd_F, ln_N, ln_I, ln_P, ln_F, I_N, I_I, I_P, I_F, P_N, P_I, P_P, P_F, hb, hb0, hz, hz0, f92]) ?_
  refine rn_sI (n := 8) (k := 4) (by simp [n_N, n_I, n_P, n_F, kd_N, kd_I, kd_P, kd_F, ln_N, ln_I, ln_P, ln_F, I_N, I_I, I_P, I_F, P_N, P_I, P_P, P_F, hb, hb0, hz, hz0, f101]) (by simp [n_N, n_I, n_P, n_F, kd_N, kd_I, kd_P, kd_F, ln_N, ln_I, ln_P, ln_F, I_N, I_I, I_P, I_F, P_N, P_I, P_P, P_F, hb, hb0, hz, hz0, f102]) (by decide) (by decide) ?_
  refine rn_lpv (s := (5 : Int32)) (by first | rfl | decide) ?_
  refine rn_lp (m := 1999994) ?_
  rw [fn_Md_noScope_B2]
  refine rn_f (by decide) ?_
  refine rn_gR (r := (some (n0 + 49))) (by simp [n_N, n_I, n_P, n_F, kd_N, kd_I, kd_P, kd_F, ln_N, ln_I, ln_P, ln_F, I_N, I_I, I_P, I_F, P_N, P_I, P_P, P_F, hb, hb0, hz, hz0, f98]) (by simp [n_N, n_I, n_P, n_F, kd_N, kd_I, kd_P, kd_F, ln_N, ln_I, ln_P, ln_F, I_N, I_I, I_P, I_F, P_N, P_I, P_P, P_F, hb, hb0, hz, hz0, f92]) ?_
  refine rn_sI (n := 8) (k := 5) (by simp [n_N, n_I, n_P, n_F, kd_N, kd_I, kd_P, kd_F, ln_N, ln_I, ln_P, ln_F, I_N, I_I, I_P, I_F, P_N, P_I, P_P, P_F, hb, hb0, hz, hz0, f101]) (by simp [n_N, n_I, n_P, n_F, kd_N, kd_I, kd_P, kd_F, ln_N, ln_I, ln_P, ln_F, I_N, I_I, I_P, I_F, P_N, P_I, P_P, P_F, hb, hb0, hz, hz0, f102]) (by decide) (by decide) ?_
  refine rn_lpv (s := (6 : Int32)) (by first | rfl | decide) ?_
  refine rn_lp (m := 1999993) ?_
  rw [fn_Md_noScope_B2]
  refine rn_f (by decide) ?_
  refine rn_gR (r := (some (n0 + 49))) (by simp [n_N, n_I, n_P, n_F, kd_N, kd_I, kd_P, kd_F, ln_N, ln_I, ln_P, ln_F, I_N, I_I, I_P, I_F, P_N, P_I, P_P, P_F, hb, hb0, hz, hz0, f98]) (by simp [n_N, n_I, n_P, n_F, kd_N, kd_I, kd_P, kd_F, ln_N, ln_I, ln_P, ln_F, I_N, I_I, I_P, I_F, P_N, P_I, P_P, P_F, hb, hb0, hz, hz0, f92]) ?_
  refine rn_sI (n := 8) (k := 6) (by simp [n_N, n_I, n_P, n_F, kd_N, kd_I, kd_P, kd_F, ln_N, ln_I, ln_P, ln_F, I_N, I_I, I_P, I_F, P_N, P_I, P_P, P_F, hb, hb0, hz, hz0, f101]) (by simp [n_N, n_I, n_P, n_F, kd_N, kd_I, kd_P, kd_F, ln_N, ln_I, ln_P, ln_F, I_N, I_I, I_P, I_F, P_N, P_I, P_P, P_F, hb, hb0, hz, hz0, f102]) (by decide) (by decide) ?_
  refine rn_lpv (s := (7 : Int32)) (by first | rfl | decide) ?_
  refine rn_lp (m := 1999992) ?_
  rw [fn_Md_noScope_B2]
  refine rn_f (by decide) ?_
  refine rn_gR (r := (some (n0 + 49))) (by simp [n_N, n_I, n_P, n_F, kd_N, kd_I, kd_P, kd_F, ln_N, ln_I, ln_P, ln_F, I_N, I_I, I_P, I_F, P_N, P_I, P_P, P_F, hb, hb0, hz, hz0, f98]) (by simp [n_N, n_I, n_P, n_F, kd_N, kd_I, kd_P, kd_F, ln_N, ln_I, ln_P, ln_F, I_N, I_I, I_P, I_F, P_N, P_I, P_P, P_F, hb, hb0, hz, hz0, f92]) ?_
  refine rn_sI (n := 8) (k := 7) (by simp [n_N, n_I, n_P, n_F, kd_N, kd_I, kd_P, kd_F, ln_N, ln_I, ln_P, ln_F, I_N, I_I, I_P, I_F, P_N, P_I, P_P, P_F, hb, hb0, hz, hz0, f101]) (by simp [n_N, n_I, n_P, n_F, kd_N, kd_I, kd_P, kd_F, ln_N, ln_I, ln_P, ln_F, I_N, I_I, I_P, I_F, P_N, P_I, P_P, P_F, hb, hb0, hz, hz0, f102]) (by decide) (by decide) ?_
  refine rn_lpv (s := (8 : Int32)) (by first | rfl | decide) ?_
  refine rn_lp (m := 1999991) ?_
  rw [fn_Md_noScope_B2]
  refine rn_t (by decide) ?_
  refine rn_ret ?_
  refine rn_gI (x := (0 : Int32)) (by simp [n_N, n_I, n_P, n_F, kd_N, kd_I, kd_P, kd_F, ln_N, ln_I, ln_P, ln_F, I_N, I_I, I_P, I_F, P_N, P_I, P_P, P_F, hb, hb0, hz, hz0, f98]) (by simp [n_N, n_I, n_P, n_F, kd_N, kd_I, kd_P, kd_F, ln_N, ln_I, ln_P, ln_F, I_N, I_I, I_P, I_F, P_N, P_I, P_P, P_F, hb, hb0, hz, hz0, f84]) ?_
  refine rn_t (by decide) ?_
  try unfold fn_Md_run_J75
  refine rn_gI (x := (0 : Int32)) (by simp [n_N, n_I, n_P, n_F, kd_N, kd_I, kd_P, kd_F, ln_N, ln_I, ln_P, ln_F, I_N, I_I, I_P, I_F, P_N, P_I, P_P, P_F, hb, hb0, hz, hz0, f98]) (by simp [n_N, n_I, n_P, n_F, kd_N, kd_I, kd_P, kd_F, ln_N, ln_I, ln_P, ln_F, I_N, I_I, I_P, I_F, P_N, P_I, P_P, P_F, hb, hb0, hz, hz0, f84]) ?_
  refine rn_f (by decide) ?_
  refine rn_gI (x := (0 : Int32)) (by simp [n_N, n_I, n_P, n_F, kd_N, kd_I, kd_P, kd_F, ln_N, ln_I, ln_P, ln_F, I_N, I_I, I_P, I_F, P_N, P_I, P_P, P_F, hb, hb0, hz, hz0, f98]) (by simp [n_N, n_I, n_P, n_F, kd_N, kd_I, kd_P, kd_F, ln_N, ln_I, ln_P, ln_F, I_N, I_I, I_P, I_F, P_N, P_I, P_P, P_F, hb, hb0, hz, hz0, f84]) ?_
  try unfold fn_Md_run_J99
  refine rn_gI (x := (0 : Int32)) (by simp [n_N, n_I, n_P, n_F, kd_N, kd_I, kd_P, kd_F, ln_N, ln_I, ln_P, ln_F, I_N, I_I, I_P, I_F, P_N, P_I, P_P, P_F, hb, hb0, hz, hz0, f98]) (by simp [n_N, n_I, n_P, n_F, kd_N, kd_I, kd_P, kd_F, ln_N, ln_I, ln_P, ln_F, I_N, I_I, I_P, I_F, P_N, P_I, P_P, P_F, hb, hb0, hz, hz0, f84]) ?_
  refine rn_t (by decide) ?_
  try unfold fn_Md_run_J147
  refine rn_pI (by simp [n_N, n_I, n_P, n_F, kd_N, kd_I, kd_P, kd_F, ln_N, ln_I, ln_P, ln_F, I_N, I_I, I_P, I_F, P_N, P_I, P_P, P_F, hb, hb0, hz, hz0, f98]) ?_
  refine rn_pI (by simp [n_N, n_I, n_P, n_F, kd_N, kd_I, kd_P, kd_F, ln_N, ln_I, ln_P, ln_F, I_N, I_I, I_P, I_F, P_N, P_I, P_P, P_F, hb, hb0, hz, hz0, f98]) ?_
  refine rn_ret ?_
  refine rn_t (by first | rfl | decide) ?_
  exact K _ (by simp [n_N, n_I, n_P, n_F, kd_N, kd_I, kd_P, kd_F, ln_N, ln_I, ln_P, ln_F, I_N, I_I, I_P, I_F, P_N, P_I, P_P, P_F, hb, hb0, hz, hz0, f114]) (by simp [n_N, n_I, n_P, n_F, kd_N, kd_I, kd_P, kd_F, ln_N, ln_I, ln_P, ln_F, I_N, I_I, I_P, I_F, P_N, P_I, P_P, P_F, hb, hb0, hz, hz0, f115]) (by simp only [n_N, n_I, n_P, n_F, hn]; omega) (by simp only [u_N, u_I, u_P, u_F, hu]; omega)
