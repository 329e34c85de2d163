set_option maxRecDepth 100000 in
set_option maxHeartbeats 40000000 in
theorem op_at (n0 b L : Nat) (xs : Nat → Int32) (hb : ∀ k, (b = n0 + k) = False) (hb0 : (b = n0) = False) (hz : ∀ k, (0 = n0 + k) = False) (hz0 : (0 = n0) = False) (r : Option Nat) {h : ahH} (F : Fx n0 b L xs r h) {post : Int32 → ahH → Prop} (J : ahM Int32) (K : ∀ h', ah_kd h' b = 99 → ah_ln h' b = L → h'.1 ≤ n0 + 1000 → h'.2.1 ≤ 1000000 → Rn J h' post) (hL : L = 3) : Rn (ah_bnd (ah_cV 10 (some n0) (fun b => fn_BT_at b (xs 1))) fun x => ah_rd (ah_aI 0 (some b) ((0 : Int32) + (1 : Int32))) fun y1 => ah_bnd (ah_cV 12 (some (n0 + 41)) (fun b => fn_Md_at b y1)) fun z => if x = z then J else ah_no) h post := by
  obtain ⟨hn, hu, f0, f1, f2, f3, f4, f5, f6, f7, f8, f9, f10, f11, f12, f13, f14, f15, f16, f17, f18, f19, f20, f21, f22, f23, f24, f25, f26, f27, f28, f29, f30, f31, f32, f33, f34, f35, f36, f37, f38, f39, f40, f41, f42, f43, f44, f45, f46, f47, f48, f49, f50, f51, f52, f53, f54, f55, f56, f57, f58, f59, f60, f61, f62, f63, f64, f65, f66, f67, f68, f69, f70, f71, f72, f73, f74, f75, f76, f77, f78, f79, f80, f81, f82, f83, f84, f85, f86, f87, f88, f89, f90, f91, f92, f93, f94, f95, f96, f97, f98, f99, f100, f101, f102, f103, f104, f105, f106, f107, f108, f109, f110, f111, f112, f113, f114, f115, f116, f117⟩ := F
  refine rn_bnd (rn_cV f7 ?_)
  unfold fn_BT_at
  by_cases h1 : xs 1 < 0
  · refine rn_t h1 ?_
    unfold fn_BT_at_J15
    refine rn_ret ?_
    refine rn_bI (n := 3) (k := 1) (x := xs 1) f114 (f115.trans hL) (by decide) (by decide) (f116 1) ?_
    refine rn_bnd (rn_cV f98 ?_)
    unfold fn_Md_at
    refine rn_gI (x := 0) f98 f89 ?_
    refine rn_bnd ?_
    unfold fn_Md_in
    refine rn_t h1 (rn_retZ (by decide) ?_)
    refine rn_t (by decide) (rn_ret ?_)
    exact rn_t (by first | rfl | decide) (K h f114 f115 (le_n hn (by decide)) (le_u hu (by decide)))
  · refine rn_f h1 ?_
    refine rn_gR (r := some (n0 + 34)) f7 f6 ?_
    refine rn_gI (x := 0) f79 f78 ?_
    refine rn_f h1 ?_
    unfold fn_BT_at_J15
    refine rn_ret ?_
    refine rn_bI (n := 3) (k := 1) (x := xs 1) f114 (f115.trans hL) (by decide) (by decide) (f116 1) ?_
    refine rn_bnd (rn_cV f98 ?_)
    unfold fn_Md_at
    refine rn_gI (x := 0) f98 f89 ?_
    refine rn_bnd ?_
    unfold fn_Md_in
    refine rn_f h1 (rn_t (i_m1 h1) (rn_retZ (by decide) ?_))
    refine rn_t (by decide) (rn_ret ?_)
    exact rn_t (by first | rfl | decide) (K h f114 f115 (le_n hn (by decide)) (le_u hu (by decide)))

