theorem i_pred {a b v : Int32} (e : a.toInt = b.toInt + 1) (h : a ≤ v) : b < v := by
  rw [Int32.le_iff_toInt_le] at h
  rw [Int32.lt_iff_toInt_lt]
  omega
theorem i_npred {a b v : Int32} (e : a.toInt = b.toInt + 1) (h : b < v) : a ≤ v := by
  rw [Int32.lt_iff_toInt_lt] at h
  rw [Int32.le_iff_toInt_le]
  omega
theorem i_nn {a v : Int32} (e : 0 ≤ a.toInt) (h : a ≤ v) : ¬ v < 0 := by
  rw [Int32.le_iff_toInt_le] at h
  rw [Int32.lt_iff_toInt_lt]
  have : (0 : Int32).toInt = 0 := by decide
  omega
theorem i_le0 {v : Int32} (h : v < 1) : v ≤ 0 := by
  rw [Int32.lt_iff_toInt_lt] at h
  rw [Int32.le_iff_toInt_le]
  have h0 : (0 : Int32).toInt = 0 := by decide
  have h1 : (1 : Int32).toInt = 1 := by decide
  omega
theorem i_m1 {v : Int32} (h : ¬ v < 0) : ((0 : Int32) - 1) < v := by
  rw [Int32.lt_iff_toInt_lt] at h ⊢
  have h0 : (0 : Int32).toInt = 0 := by decide
  have h1 : ((0 : Int32) - 1).toInt = -1 := by decide
  omega

set_option maxRecDepth 100000 in
set_option maxHeartbeats 40000000 in
theorem op_length (n0 b L : Nat) (xs : Nat → Int32) (hb : ∀ k, (b = n0 + k) = False) (hb0 : (b = n0) = False) (hz : ∀ k, (0 = n0 + k) = False) (hz0 : (0 = n0) = False) (r : Option Nat) {h : ahH} (F : Fx n0 b L xs r h) {post : Int32 → ahH → Prop} (J : ahM Int32) (K : ∀ h', ah_kd h' b = 99 → ah_ln h' b = L → h'.1 ≤ n0 + 1000 → h'.2.1 ≤ 1000000 → Rn J h' post) : Rn (ah_bnd (ah_cV 10 (some n0) (fun b => fn_BT_length b)) fun x => ah_bnd (ah_cV 12 (some (n0 + 41)) (fun b => fn_Md_length b)) fun z => if x = z then J else ah_no) h post := by
  obtain ⟨hn, hu, f0, f1, f2, f3, f4, f5, f6, f7, f8, f9, f10, f11, f12, f13, f14, f15, f16, f17, f18, f19, f20, f21, f22, f23, f24, f25, f26, f27, f28, f29, f30, f31, f32, f33, f34, f35, f36, f37, f38, f39, f40, f41, f42, f43, f44, f45, f46, f47, f48, f49, f50, f51, f52, f53, f54, f55, f56, f57, f58, f59, f60, f61, f62, f63, f64, f65, f66, f67, f68, f69, f70, f71, f72, f73, f74, f75, f76, f77, f78, f79, f80, f81, f82, f83, f84, f85, f86, f87, f88, f89, f90, f91, f92, f93, f94, f95, f96, f97, f98, f99, f100, f101, f102, f103, f104, f105, f106, f107, f108, f109, f110, f111, f112, f113, f114, f115, f116, f117⟩ := F
  refine rn_bnd (rn_cV (by simp [n_N, n_I, n_P, n_F, kd_N, kd_I, kd_P, kd_F, ln_N, ln_I, ln_P, ln_F, I_N, I_I, I_P, I_F, P_N, P_I, P_P, P_F, hb, hb0, hz, hz0, f7]) ?_)
  try unfold fn_BT_length
  refine rn_gR (r := (some (n0 + 34))) (by simp [n_N, n_I, n_P, n_F, kd_N, kd_I, kd_P, kd_F, ln_N, ln_I, ln_P, ln_F, I_N, I_I, I_P, I_F, P_N, P_I, P_P, P_F, hb, hb0, hz, hz0, f7]) (by simp [n_N, n_I, n_P, n_F, kd_N, kd_I, kd_P, kd_F, ln_N, ln_I, ln_P, ln_F, I_N, I_I, I_P, I_F, P_N, P_I, P_P, P_F, hb, hb0, hz, hz0, f6]) ?_
  refine rn_gI (x := (0 : Int32)) (by simp [n_N, n_I, n_P, n_F, kd_N, kd_I, kd_P, kd_F, ln_N, ln_I, ln_P, ln_F, I_N, I_I, I_P, I_F, P_N, P_I, P_P, P_F, hb, hb0, hz, hz0, f79]) (by simp [n_N, n_I, n_P, n_F, kd_N, kd_I, kd_P, kd_F, ln_N, ln_I, ln_P, ln_F, I_N, I_I, I_P, I_F, P_N, P_I, P_P, P_F, hb, hb0, hz, hz0, f78]) ?_
  refine rn_ret ?_
  refine rn_bnd (rn_cV (by simp [n_N, n_I, n_P, n_F, kd_N, kd_I, kd_P, kd_F, ln_N, ln_I, ln_P, ln_F, I_N, I_I, I_P, I_F, P_N, P_I, P_P, P_F, hb, hb0, hz, hz0, f98]) ?_)
  try unfold fn_Md_length
  refine rn_gI (x := (0 : Int32)) (by simp [n_N, n_I, n_P, n_F, kd_N, kd_I, kd_P, kd_F, ln_N, ln_I, ln_P, ln_F, I_N, I_I, I_P, I_F, P_N, P_I, P_P, P_F, hb, hb0, hz, hz0, f98]) (by simp [n_N, n_I, n_P, n_F, kd_N, kd_I, kd_P, kd_F, ln_N, ln_I, ln_P, ln_F, I_N, I_I, I_P, I_F, P_N, P_I, P_P, P_F, hb, hb0, hz, hz0, f89]) ?_
  refine rn_ret ?_
  refine rn_t (by first | rfl | decide) ?_
  exact K _ (by first | (intro j; simp [n_N, n_I, n_P, n_F, kd_N, kd_I, kd_P, kd_F, ln_N, ln_I, ln_P, ln_F, I_N, I_I, I_P, I_F, P_N, P_I, P_P, P_F, hb, hb0, hz, hz0, f114]) | (simp [n_N, n_I, n_P, n_F, kd_N, kd_I, kd_P, kd_F, ln_N, ln_I, ln_P, ln_F, I_N, I_I, I_P, I_F, P_N, P_I, P_P, P_F, hb, hb0, hz, hz0, f114])) (by first | (intro j; simp [n_N, n_I, n_P, n_F, kd_N, kd_I, kd_P, kd_F, ln_N, ln_I, ln_P, ln_F, I_N, I_I, I_P, I_F, P_N, P_I, P_P, P_F, hb, hb0, hz, hz0, f115]) | (simp [n_N, n_I, n_P, n_F, kd_N, kd_I, kd_P, kd_F, ln_N, ln_I, ln_P, ln_F, I_N, I_I, I_P, I_F, P_N, P_I, P_P, P_F, hb, hb0, hz, hz0, f115])) (by simp only [n_N, n_I, n_P, n_F, hn]; omega) (by simp only [u_N, u_I, u_P, u_F, hu]; omega)
set_option maxRecDepth 100000 in
set_option maxHeartbeats 40000000 in
theorem op_left (n0 b L : Nat) (xs : Nat → Int32) (hb : ∀ k, (b = n0 + k) = False) (hb0 : (b = n0) = False) (hz : ∀ k, (0 = n0 + k) = False) (hz0 : (0 = n0) = False) (r : Option Nat) {h : ahH} (F : Fx n0 b L xs r h) {post : Int32 → ahH → Prop} (J : ahM Int32) (K : ∀ h', ah_kd h' b = 99 → ah_ln h' b = L → h'.1 ≤ n0 + 1000 → h'.2.1 ≤ 1000000 → Rn J h' post) : Rn (ah_bnd (ah_cV 10 (some n0) (fun b => fn_BT_left b)) fun x => ah_bnd (ah_cV 12 (some (n0 + 41)) (fun b => fn_Md_left b)) fun z => if x = z then J else ah_no) h post := by
  obtain ⟨hn, hu, f0, f1, f2, f3, f4, f5, f6, f7, f8, f9, f10, f11, f12, f13, f14, f15, f16, f17, f18, f19, f20, f21, f22, f23, f24, f25, f26, f27, f28, f29, f30, f31, f32, f33, f34, f35, f36, f37, f38, f39, f40, f41, f42, f43, f44, f45, f46, f47, f48, f49, f50, f51, f52, f53, f54, f55, f56, f57, f58, f59, f60, f61, f62, f63, f64, f65, f66, f67, f68, f69, f70, f71, f72, f73, f74, f75, f76, f77, f78, f79, f80, f81, f82, f83, f84, f85, f86, f87, f88, f89, f90, f91, f92, f93, f94, f95, f96, f97, f98, f99, f100, f101, f102, f103, f104, f105, f106, f107, f108, f109, f110, f111, f112, f113, f114, f115, f116, f117⟩ := F
  refine rn_bnd (rn_cV (by simp [n_N, n_I, n_P, n_F, kd_N, kd_I, kd_P, kd_F, ln_N, ln_I, ln_P, ln_F, I_N, I_I, I_P, I_F, P_N, P_I, P_P, P_F, hb, hb0, hz, hz0, f7]) ?_)
  try unfold fn_BT_left
  refine rn_gR (r := (some (n0 + 34))) (by simp [n_N, n_I, n_P, n_F, kd_N, kd_I, kd_P, kd_F, ln_N, ln_I, ln_P, ln_F, I_N, I_I, I_P, I_F, P_N, P_I, P_P, P_F, hb, hb0, hz, hz0, f7]) (by simp [n_N, n_I, n_P, n_F, kd_N, kd_I, kd_P, kd_F, ln_N, ln_I, ln_P, ln_F, I_N, I_I, I_P, I_F, P_N, P_I, P_P, P_F, hb, hb0, hz, hz0, f6]) ?_
  refine rn_gI (x := (0 : Int32)) (by simp [n_N, n_I, n_P, n_F, kd_N, kd_I, kd_P, kd_F, ln_N, ln_I, ln_P, ln_F, I_N, I_I, I_P, I_F, P_N, P_I, P_P, P_F, hb, hb0, hz, hz0, f79]) (by simp [n_N, n_I, n_P, n_F, kd_N, kd_I, kd_P, kd_F, ln_N, ln_I, ln_P, ln_F, I_N, I_I, I_P, I_F, P_N, P_I, P_P, P_F, hb, hb0, hz, hz0, f77]) ?_
  refine rn_ret ?_
  refine rn_bnd (rn_cV (by simp [n_N, n_I, n_P, n_F, kd_N, kd_I, kd_P, kd_F, ln_N, ln_I, ln_P, ln_F, I_N, I_I, I_P, I_F, P_N, P_I, P_P, P_F, hb, hb0, hz, hz0, f98]) ?_)
  try unfold fn_Md_left
  refine rn_gI (x := (0 : Int32)) (by simp [n_N, n_I, n_P, n_F, kd_N, kd_I, kd_P, kd_F, ln_N, ln_I, ln_P, ln_F, I_N, I_I, I_P, I_F, P_N, P_I, P_P, P_F, hb, hb0, hz, hz0, f98]) (by simp [n_N, n_I, n_P, n_F, kd_N, kd_I, kd_P, kd_F, ln_N, ln_I, ln_P, ln_F, I_N, I_I, I_P, I_F, P_N, P_I, P_P, P_F, hb, hb0, hz, hz0, f90]) ?_
  refine rn_ret ?_
  refine rn_t (by first | rfl | decide) ?_
  exact K _ (by first | (intro j; simp [n_N, n_I, n_P, n_F, kd_N, kd_I, kd_P, kd_F, ln_N, ln_I, ln_P, ln_F, I_N, I_I, I_P, I_F, P_N, P_I, P_P, P_F, hb, hb0, hz, hz0, f114]) | (simp [n_N, n_I, n_P, n_F, kd_N, kd_I, kd_P, kd_F, ln_N, ln_I, ln_P, ln_F, I_N, I_I, I_P, I_F, P_N, P_I, P_P, P_F, hb, hb0, hz, hz0, f114])) (by first | (intro j; simp [n_N, n_I, n_P, n_F, kd_N, kd_I, kd_P, kd_F, ln_N, ln_I, ln_P, ln_F, I_N, I_I, I_P, I_F, P_N, P_I, P_P, P_F, hb, hb0, hz, hz0, f115]) | (simp [n_N, n_I, n_P, n_F, kd_N, kd_I, kd_P, kd_F, ln_N, ln_I, ln_P, ln_F, I_N, I_I, I_P, I_F, P_N, P_I, P_P, P_F, hb, hb0, hz, hz0, f115])) (by simp only [n_N, n_I, n_P, n_F, hn]; omega) (by simp only [u_N, u_I, u_P, u_F, hu]; omega)
set_option maxRecDepth 100000 in
set_option maxHeartbeats 40000000 in
theorem op_run_out (n0 b L : Nat) (xs : Nat → Int32) (hb : ∀ k, (b = n0 + k) = False) (hb0 : (b = n0) = False) (hz : ∀ k, (0 = n0 + k) = False) (hz0 : (0 = n0) = False) (r : Option Nat) {h : ahH} (F : Fx n0 b L xs r h) {post : Int32 → ahH → Prop} (J : ahM Int32) (K : ∀ h', ah_kd h' b = 99 → ah_ln h' b = L → h'.1 ≤ n0 + 1000 → h'.2.1 ≤ 1000000 → Rn J h' post) (hL : L = 3) (hv : xs 1 < 0 ∨ 40 < xs 1) : Rn (ah_bnd (ah_cV 10 (some n0) (fun b => fn_BT_run b (xs 1))) fun x => ah_rd (ah_aI 0 (some b) ((0 : Int32) + (1 : Int32))) fun y1 => ah_bnd (ah_cV 12 (some (n0 + 41)) (fun b => fn_Md_run b y1)) fun z => if x = z then J else ah_no) h post := by
  obtain ⟨hn, hu, f0, f1, f2, f3, f4, f5, f6, f7, f8, f9, f10, f11, f12, f13, f14, f15, f16, f17, f18, f19, f20, f21, f22, f23, f24, f25, f26, f27, f28, f29, f30, f31, f32, f33, f34, f35, f36, f37, f38, f39, f40, f41, f42, f43, f44, f45, f46, f47, f48, f49, f50, f51, f52, f53, f54, f55, f56, f57, f58, f59, f60, f61, f62, f63, f64, f65, f66, f67, f68, f69, f70, f71, f72, f73, f74, f75, f76, f77, f78, f79, f80, f81, f82, f83, f84, f85, f86, f87, f88, f89, f90, f91, f92, f93, f94, f95, f96, f97, f98, f99, f100, f101, f102, f103, f104, f105, f106, f107, f108, f109, f110, f111, f112, f113, f114, f115, f116, f117⟩ := F
  refine rn_bnd (rn_cV f7 ?_)
  unfold fn_BT_run
  by_cases h1 : xs 1 < 0
  · refine rn_t h1 (rn_ret ?_)
    refine rn_bI (n := 3) (k := 1) (x := xs 1) f114 (f115.trans hL) (by decide) (by decide) (f116 1) ?_
    refine rn_bnd (rn_cV f98 ?_)
    unfold fn_Md_run
    refine rn_bnd ?_
    unfold fn_Md_in
    refine rn_t h1 (rn_retZ (by decide) ?_)
    refine rn_t (by decide) (rn_ret ?_)
    exact rn_t (by first | rfl | decide) (K h f114 f115 (by omega) (by omega))
  · have h3 : (40 : Int32) < xs 1 := hv.resolve_left h1
    have h2 : ¬ xs 1 ≤ 40 := Int32.not_le.mpr h3
    refine rn_f h1 (rn_f h2 (rn_ret ?_))
    refine rn_bI (n := 3) (k := 1) (x := xs 1) f114 (f115.trans hL) (by decide) (by decide) (f116 1) ?_
    refine rn_bnd (rn_cV f98 ?_)
    unfold fn_Md_run
    refine rn_bnd ?_
    unfold fn_Md_in
    refine rn_f h1 (rn_t h3 (rn_retZ (by decide) ?_))
    refine rn_t (by decide) (rn_ret ?_)
    exact rn_t (by first | rfl | decide) (K h f114 f115 (by omega) (by omega))

set_option maxRecDepth 100000 in
set_option maxHeartbeats 40000000 in
theorem op_at (n0 b L : Nat) (xs : Nat → Int32) (hb : ∀ k, (b = n0 + k) = False) (hb0 : (b = n0) = False) (hz : ∀ k, (0 = n0 + k) = False) (hz0 : (0 = n0) = False) (r : Option Nat) {h : ahH} (F : Fx n0 b L xs r h) {post : Int32 → ahH → Prop} (J : ahM Int32) (K : ∀ h', ah_kd h' b = 99 → ah_ln h' b = L → h'.1 ≤ n0 + 1000 → h'.2.1 ≤ 1000000 → Rn J h' post) (hL : L = 3) : Rn (ah_bnd (ah_cV 10 (some n0) (fun b => fn_BT_at b (xs 1))) fun x => ah_rd (ah_aI 0 (some b) ((0 : Int32) + (1 : Int32))) fun y1 => ah_bnd (ah_cV 12 (some (n0 + 41)) (fun b => fn_Md_at b y1)) fun z => if x = z then J else ah_no) h post := by
  obtain ⟨hn, hu, f0, f1, f2, f3, f4, f5, f6, f7, f8, f9, f10, f11, f12, f13, f14, f15, f16, f17, f18, f19, f20, f21, f22, f23, f24, f25, f26, f27, f28, f29, f30, f31, f32, f33, f34, f35, f36, f37, f38, f39, f40, f41, f42, f43, f44, f45, f46, f47, f48, f49, f50, f51, f52, f53, f54, f55, f56, f57, f58, f59, f60, f61, f62, f63, f64, f65, f66, f67, f68, f69, f70, f71, f72, f73, f74, f75, f76, f77, f78, f79, f80, f81, f82, f83, f84, f85, f86, f87, f88, f89, f90, f91, f92, f93, f94, f95, f96, f97, f98, f99, f100, f101, f102, f103, f104, f105, f106, f107, f108, f109, f110, f111, f112, f113, f114, f115, f116, f117⟩ := F
  refine rn_bnd (rn_cV f7 ?_)
  unfold fn_BT_at
  by_cases h1 : xs 1 < 0
  · refine rn_t h1 ?_
    unfold fn_BT_at_J15
    refine rn_ret ?_
    refine rn_bI (n := 3) (k := 1) (x := xs 1) f114 (f115.trans hL) (by decide) (by decide) (f116 1) ?_
    refine rn_bnd (rn_cV f98 ?_)
    unfold fn_Md_at
    refine rn_gI (x := 0) f98 f89 ?_
    refine rn_bnd ?_
    unfold fn_Md_in
    refine rn_t h1 (rn_retZ (by decide) ?_)
    refine rn_t (by decide) (rn_ret ?_)
    exact rn_t (by first | rfl | decide) (K h f114 f115 (by omega) (by omega))
  · refine rn_f h1 ?_
    refine rn_gR (r := some (n0 + 34)) f7 f6 ?_
    refine rn_gI (x := 0) f79 f78 ?_
    refine rn_f h1 ?_
    unfold fn_BT_at_J15
    refine rn_ret ?_
    refine rn_bI (n := 3) (k := 1) (x := xs 1) f114 (f115.trans hL) (by decide) (by decide) (f116 1) ?_
    refine rn_bnd (rn_cV f98 ?_)
    unfold fn_Md_at
    refine rn_gI (x := 0) f98 f89 ?_
    refine rn_bnd ?_
    unfold fn_Md_in
    refine rn_f h1 (rn_t (i_m1 h1) (rn_retZ (by decide) ?_))
    refine rn_t (by decide) (rn_ret ?_)
    exact rn_t (by first | rfl | decide) (K h f114 f115 (by omega) (by omega))

set_option maxRecDepth 100000 in
set_option maxHeartbeats 40000000 in
theorem op_fields_0 (n0 b L : Nat) (xs : Nat → Int32) (hb : ∀ k, (b = n0 + k) = False) (hb0 : (b = n0) = False) (hz : ∀ k, (0 = n0 + k) = False) (hz0 : (0 = n0) = False) (r : Option Nat) {h : ahH} (F : Fx n0 b L xs r h) {post : Int32 → ahH → Prop} (J : ahM Int32) (K : ∀ h', ah_kd h' b = 99 → ah_ln h' b = L → h'.1 ≤ n0 + 1000 → h'.2.1 ≤ 1000000 → Rn J h' post) (hL : L = 3) (e0 : xs 1 = 0) : Rn (ah_bnd (ah_cV 10 (some n0) (fun b => fn_BT_fields b (xs 1))) fun x => ah_rd (ah_aI 0 (some b) ((0 : Int32) + (1 : Int32))) fun y1 => ah_bnd (ah_cV 12 (some (n0 + 41)) (fun b => fn_Md_fields b y1)) fun z => if x = z then J else ah_no) h post := by
  obtain ⟨hn, hu, f0, f1, f2, f3, f4, f5, f6, f7, f8, f9, f10, f11, f12, f13, f14, f15, f16, f17, f18, f19, f20, f21, f22, f23, f24, f25, f26, f27, f28, f29, f30, f31, f32, f33, f34, f35, f36, f37, f38, f39, f40, f41, f42, f43, f44, f45, f46, f47, f48, f49, f50, f51, f52, f53, f54, f55, f56, f57, f58, f59, f60, f61, f62, f63, f64, f65, f66, f67, f68, f69, f70, f71, f72, f73, f74, f75, f76, f77, f78, f79, f80, f81, f82, f83, f84, f85, f86, f87, f88, f89, f90, f91, f92, f93, f94, f95, f96, f97, f98, f99, f100, f101, f102, f103, f104, f105, f106, f107, f108, f109, f110, f111, f112, f113, f114, f115, f116, f117⟩ := F
  rw [show (fun b => fn_BT_fields b (xs 1)) = (fun b => fn_BT_fields b 0) by rw [e0]]
  refine rn_bnd (rn_cV (by simp [n_N, n_I, n_P, n_F, kd_N, kd_I, kd_P, kd_F, ln_N, ln_I, ln_P, ln_F, I_N, I_I, I_P, I_F, P_N, P_I, P_P, P_F, hb, hb0, hz, hz0, f7]) ?_)
  try unfold fn_BT_fields
  refine rn_gR (r := (some (n0 + 14))) (by simp [n_N, n_I, n_P, n_F, kd_N, kd_I, kd_P, kd_F, ln_N, ln_I, ln_P, ln_F, I_N, I_I, I_P, I_F, P_N, P_I, P_P, P_F, hb, hb0, hz, hz0, f7]) (by simp [n_N, n_I, n_P, n_F, kd_N, kd_I, kd_P, kd_F, ln_N, ln_I, ln_P, ln_F, I_N, I_I, I_P, I_F, P_N, P_I, P_P, P_F, hb, hb0, hz, hz0, f4]) ?_
  refine rn_bnd (rn_cV (by simp [n_N, n_I, n_P, n_F, kd_N, kd_I, kd_P, kd_F, ln_N, ln_I, ln_P, ln_F, I_N, I_I, I_P, I_F, P_N, P_I, P_P, P_F, hb, hb0, hz, hz0, f53]) ?_)
  try unfold fn_Rules_entryNamed
  refine rn_f (by decide) ?_
  refine rn_f (by decide) ?_
  refine rn_gR (r := (some (n0 + 15))) (by simp [n_N, n_I, n_P, n_F, kd_N, kd_I, kd_P, kd_F, ln_N, ln_I, ln_P, ln_F, I_N, I_I, I_P, I_F, P_N, P_I, P_P, P_F, hb, hb0, hz, hz0, f53]) (by simp [n_N, n_I, n_P, n_F, kd_N, kd_I, kd_P, kd_F, ln_N, ln_I, ln_P, ln_F, I_N, I_I, I_P, I_F, P_N, P_I, P_P, P_F, hb, hb0, hz, hz0, f52]) ?_
  refine rn_aR (n := 8) (k := 0) (r := (some (n0 + 18))) (by simp [n_N, n_I, n_P, n_F, kd_N, kd_I, kd_P, kd_F, ln_N, ln_I, ln_P, ln_F, I_N, I_I, I_P, I_F, P_N, P_I, P_P, P_F, hb, hb0, hz, hz0, f55]) (by simp [n_N, n_I, n_P, n_F, kd_N, kd_I, kd_P, kd_F, ln_N, ln_I, ln_P, ln_F, I_N, I_I, I_P, I_F, P_N, P_I, P_P, P_F, hb, hb0, hz, hz0, f56]) (by decide) (by decide) (by simp [n_N, n_I, n_P, n_F, kd_N, kd_I, kd_P, kd_F, ln_N, ln_I, ln_P, ln_F, I_N, I_I, I_P, I_F, P_N, P_I, P_P, P_F, hb, hb0, hz, hz0, f54]) ?_
  refine rn_ret ?_
  refine rn_f (by simp) ?_
  refine rn_gI (x := (0 : Int32)) (by simp [n_N, n_I, n_P, n_F, kd_N, kd_I, kd_P, kd_F, ln_N, ln_I, ln_P, ln_F, I_N, I_I, I_P, I_F, P_N, P_I, P_P, P_F, hb, hb0, hz, hz0, f60]) (by simp [n_N, n_I, n_P, n_F, kd_N, kd_I, kd_P, kd_F, ln_N, ln_I, ln_P, ln_F, I_N, I_I, I_P, I_F, P_N, P_I, P_P, P_F, hb, hb0, hz, hz0, f58]) ?_
  refine rn_ret ?_
  refine rn_bI (n := 3) (k := 1) (x := 0) (by simp [n_N, n_I, n_P, n_F, kd_N, kd_I, kd_P, kd_F, ln_N, ln_I, ln_P, ln_F, I_N, I_I, I_P, I_F, P_N, P_I, P_P, P_F, hb, hb0, hz, hz0, f114]) (by simp [n_N, n_I, n_P, n_F, kd_N, kd_I, kd_P, kd_F, ln_N, ln_I, ln_P, ln_F, I_N, I_I, I_P, I_F, P_N, P_I, P_P, P_F, hb, hb0, hz, hz0, f115, hL]) (by decide) (by decide) (by simp [n_N, n_I, n_P, n_F, kd_N, kd_I, kd_P, kd_F, ln_N, ln_I, ln_P, ln_F, I_N, I_I, I_P, I_F, P_N, P_I, P_P, P_F, hb, hb0, hz, hz0, f116, e0]) ?_
  refine rn_bnd (rn_cV (by simp [n_N, n_I, n_P, n_F, kd_N, kd_I, kd_P, kd_F, ln_N, ln_I, ln_P, ln_F, I_N, I_I, I_P, I_F, P_N, P_I, P_P, P_F, hb, hb0, hz, hz0, f98]) ?_)
  try unfold fn_Md_fields
  refine rn_bnd ?_
  try unfold fn_Md_in
  refine rn_f (by decide) ?_
  refine rn_f (by decide) ?_
  refine rn_retZ (by decide) ?_
  refine rn_f (by decide) ?_
  refine rn_gR (r := (some (n0 + 50))) (by simp [n_N, n_I, n_P, n_F, kd_N, kd_I, kd_P, kd_F, ln_N, ln_I, ln_P, ln_F, I_N, I_I, I_P, I_F, P_N, P_I, P_P, P_F, hb, hb0, hz, hz0, f98]) (by simp [n_N, n_I, n_P, n_F, kd_N, kd_I, kd_P, kd_F, ln_N, ln_I, ln_P, ln_F, I_N, I_I, I_P, I_F, P_N, P_I, P_P, P_F, hb, hb0, hz, hz0, f93]) ?_
  refine rn_aI (n := 8) (k := 0) (x := (2 : Int32)) (by simp [n_N, n_I, n_P, n_F, kd_N, kd_I, kd_P, kd_F, ln_N, ln_I, ln_P, ln_F, I_N, I_I, I_P, I_F, P_N, P_I, P_P, P_F, hb, hb0, hz, hz0, f104]) (by simp [n_N, n_I, n_P, n_F, kd_N, kd_I, kd_P, kd_F, ln_N, ln_I, ln_P, ln_F, I_N, I_I, I_P, I_F, P_N, P_I, P_P, P_F, hb, hb0, hz, hz0, f105]) (by decide) (by decide) (by simp [n_N, n_I, n_P, n_F, kd_N, kd_I, kd_P, kd_F, ln_N, ln_I, ln_P, ln_F, I_N, I_I, I_P, I_F, P_N, P_I, P_P, P_F, hb, hb0, hz, hz0, f103]) ?_
  refine rn_f (by decide) ?_
  refine rn_bnd (rn_cV (by simp [n_N, n_I, n_P, n_F, kd_N, kd_I, kd_P, kd_F, ln_N, ln_I, ln_P, ln_F, I_N, I_I, I_P, I_F, P_N, P_I, P_P, P_F, hb, hb0, hz, hz0, f98]) ?_)
  try unfold fn_Md_fieldsOf
  refine rn_lpv (s := ((0 : Int32), (0 : Int32))) (by first | rfl | decide) ?_
  refine rn_lp (m := 1999999) ?_
  rw [fn_Md_fieldsOf_B4]
  refine rn_f (by decide) ?_
  refine rn_lpv (s := ((0 : Int32), (0 : Int32))) (by first | rfl | decide) ?_
  refine rn_lp (m := 1999999) ?_
  rw [fn_Md_fieldsOf_B11]
  refine rn_gI (x := (0 : Int32)) (by simp [n_N, n_I, n_P, n_F, kd_N, kd_I, kd_P, kd_F, ln_N, ln_I, ln_P, ln_F, I_N, I_I, I_P, I_F, P_N, P_I, P_P, P_F, hb, hb0, hz, hz0, f98]) (by simp [n_N, n_I, n_P, n_F, kd_N, kd_I, kd_P, kd_F, ln_N, ln_I, ln_P, ln_F, I_N, I_I, I_P, I_F, P_N, P_I, P_P, P_F, hb, hb0, hz, hz0, f86]) ?_
  refine rn_t (by decide) ?_
  refine rn_bnd (rn_cV (by simp [n_N, n_I, n_P, n_F, kd_N, kd_I, kd_P, kd_F, ln_N, ln_I, ln_P, ln_F, I_N, I_I, I_P, I_F, P_N, P_I, P_P, P_F, hb, hb0, hz, hz0, f98]) ?_)
  try unfold fn_Md_upper
  refine rn_gR (r := (some (n0 + 54))) (by simp [n_N, n_I, n_P, n_F, kd_N, kd_I, kd_P, kd_F, ln_N, ln_I, ln_P, ln_F, I_N, I_I, I_P, I_F, P_N, P_I, P_P, P_F, hb, hb0, hz, hz0, f98]) (by simp [n_N, n_I, n_P, n_F, kd_N, kd_I, kd_P, kd_F, ln_N, ln_I, ln_P, ln_F, I_N, I_I, I_P, I_F, P_N, P_I, P_P, P_F, hb, hb0, hz, hz0, f94]) ?_
  refine rn_aI (n := 8) (k := 0) (x := (-1 : Int32)) (by simp [n_N, n_I, n_P, n_F, kd_N, kd_I, kd_P, kd_F, ln_N, ln_I, ln_P, ln_F, I_N, I_I, I_P, I_F, P_N, P_I, P_P, P_F, hb, hb0, hz, hz0, f107]) (by simp [n_N, n_I, n_P, n_F, kd_N, kd_I, kd_P, kd_F, ln_N, ln_I, ln_P, ln_F, I_N, I_I, I_P, I_F, P_N, P_I, P_P, P_F, hb, hb0, hz, hz0, f108]) (by decide) (by decide) (by simp [n_N, n_I, n_P, n_F, kd_N, kd_I, kd_P, kd_F, ln_N, ln_I, ln_P, ln_F, I_N, I_I, I_P, I_F, P_N, P_I, P_P, P_F, hb, hb0, hz, hz0, f106]) ?_
  refine rn_f (by decide) ?_
  refine rn_ret ?_
  refine rn_lpv (s := ((0 : Int32), (-1 : Int32))) (by first | rfl | decide) ?_
  refine rn_lp (m := 1999998) ?_
  rw [fn_Md_fieldsOf_B4]
  refine rn_t (by decide) ?_
  refine rn_ret ?_
  refine rn_ret ?_
  refine rn_t (by first | rfl | decide) ?_
  exact K _ (by first | (intro j; simp [n_N, n_I, n_P, n_F, kd_N, kd_I, kd_P, kd_F, ln_N, ln_I, ln_P, ln_F, I_N, I_I, I_P, I_F, P_N, P_I, P_P, P_F, hb, hb0, hz, hz0, f114]) | (simp [n_N, n_I, n_P, n_F, kd_N, kd_I, kd_P, kd_F, ln_N, ln_I, ln_P, ln_F, I_N, I_I, I_P, I_F, P_N, P_I, P_P, P_F, hb, hb0, hz, hz0, f114])) (by first | (intro j; simp [n_N, n_I, n_P, n_F, kd_N, kd_I, kd_P, kd_F, ln_N, ln_I, ln_P, ln_F, I_N, I_I, I_P, I_F, P_N, P_I, P_P, P_F, hb, hb0, hz, hz0, f115]) | (simp [n_N, n_I, n_P, n_F, kd_N, kd_I, kd_P, kd_F, ln_N, ln_I, ln_P, ln_F, I_N, I_I, I_P, I_F, P_N, P_I, P_P, P_F, hb, hb0, hz, hz0, f115])) (by simp only [n_N, n_I, n_P, n_F, hn]; omega) (by simp only [u_N, u_I, u_P, u_F, hu]; omega)

set_option maxRecDepth 100000 in
set_option maxHeartbeats 40000000 in
theorem op_fields (n0 b L : Nat) (xs : Nat → Int32) (hb : ∀ k, (b = n0 + k) = False) (hb0 : (b = n0) = False) (hz : ∀ k, (0 = n0 + k) = False) (hz0 : (0 = n0) = False) (r : Option Nat) {h : ahH} (F : Fx n0 b L xs r h) {post : Int32 → ahH → Prop} (J : ahM Int32) (K : ∀ h', ah_kd h' b = 99 → ah_ln h' b = L → h'.1 ≤ n0 + 1000 → h'.2.1 ≤ 1000000 → Rn J h' post) (hL : L = 3) : Rn (ah_bnd (ah_cV 10 (some n0) (fun b => fn_BT_fields b (xs 1))) fun x => ah_rd (ah_aI 0 (some b) ((0 : Int32) + (1 : Int32))) fun y1 => ah_bnd (ah_cV 12 (some (n0 + 41)) (fun b => fn_Md_fields b y1)) fun z => if x = z then J else ah_no) h post := by
  have F' := F
  obtain ⟨hn, hu, f0, f1, f2, f3, f4, f5, f6, f7, f8, f9, f10, f11, f12, f13, f14, f15, f16, f17, f18, f19, f20, f21, f22, f23, f24, f25, f26, f27, f28, f29, f30, f31, f32, f33, f34, f35, f36, f37, f38, f39, f40, f41, f42, f43, f44, f45, f46, f47, f48, f49, f50, f51, f52, f53, f54, f55, f56, f57, f58, f59, f60, f61, f62, f63, f64, f65, f66, f67, f68, f69, f70, f71, f72, f73, f74, f75, f76, f77, f78, f79, f80, f81, f82, f83, f84, f85, f86, f87, f88, f89, f90, f91, f92, f93, f94, f95, f96, f97, f98, f99, f100, f101, f102, f103, f104, f105, f106, f107, f108, f109, f110, f111, f112, f113, f114, f115, f116, f117⟩ := F
  rcases pk_ix (xs 1) (n := 8) (by omega) with h1 | h2 | ⟨j, hj, ej⟩
  · refine rn_bnd (rn_cV f7 ?_)
    unfold fn_BT_fields
    refine rn_gR (r := some (n0 + 14)) f7 f4 ?_
    refine rn_bnd (rn_cV f53 ?_)
    unfold fn_Rules_entryNamed
    refine rn_t h1 (rn_ret ?_)
    refine rn_t rfl (rn_ret ?_)
    refine rn_bI (n := 3) (k := 1) (x := xs 1) f114 (f115.trans hL) (by decide) (by decide) (f116 1) ?_
    refine rn_bnd (rn_cV f98 ?_)
    unfold fn_Md_fields
    refine rn_bnd ?_
    unfold fn_Md_in
    refine rn_t h1 (rn_retZ (by decide) ?_)
    refine rn_t (by decide) (rn_ret ?_)
    exact rn_t (by first | rfl | decide) (K h f114 f115 (by omega) (by omega))
  · have h2' : (8 : Int32) ≤ xs 1 := h2
    have h1 : ¬ xs 1 < 0 := i_nn (by decide) h2'
    refine rn_bnd (rn_cV f7 ?_)
    unfold fn_BT_fields
    refine rn_gR (r := some (n0 + 14)) f7 f4 ?_
    refine rn_bnd (rn_cV f53 ?_)
    unfold fn_Rules_entryNamed
    refine rn_f h1 (rn_t h2' (rn_ret ?_))
    refine rn_t rfl (rn_ret ?_)
    refine rn_bI (n := 3) (k := 1) (x := xs 1) f114 (f115.trans hL) (by decide) (by decide) (f116 1) ?_
    refine rn_bnd (rn_cV f98 ?_)
    unfold fn_Md_fields
    refine rn_bnd ?_
    unfold fn_Md_in
    refine rn_f h1 (rn_t (i_pred (by decide) h2') (rn_retZ (by decide) ?_))
    refine rn_t (by decide) (rn_ret ?_)
    exact rn_t (by first | rfl | decide) (K h f114 f115 (by omega) (by omega))
  · cases j with
    | zero => exact op_fields_0 n0 b L xs hb hb0 hz hz0 r F' J K hL (by rw [ej]; exact nI_0)
    | succ j =>
      have h1 : ¬ xs 1 < 0 := by rw [ej]; exact nI_pos (by omega)
      have h2 : ¬ (8 : Int32) ≤ xs 1 := by rw [ej]; exact nI_ge (b := 8) (by omega) (by omega)
      have h3 : ¬ (7 : Int32) < xs 1 := by rw [ej]; exact nI_nlt (a := 7) (by omega) (by omega)
      have hi : ah_in (xs 1) 8 = true := by rw [ej]; exact ah_in_iff.mpr (vp_in_nI (by omega) (by omega))
      have hc : (xs 1).toNatClampNeg = j + 1 := by rw [ej]; exact nI_clamp (by omega)
      refine rn_bnd (rn_cV f7 ?_)
      unfold fn_BT_fields
      refine rn_gR (r := some (n0 + 14)) f7 f4 ?_
      refine rn_bnd (rn_cV f53 ?_)
      unfold fn_Rules_entryNamed
      refine rn_f h1 (rn_f h2 ?_)
      refine rn_gR (r := some (n0 + 15)) f53 f52 ?_
      refine rn_aR (n := 8) (k := j + 1) (r := none) f55 f56 hi hc (f111 j) (rn_ret ?_)
      refine rn_t rfl (rn_ret ?_)
      refine rn_bI (n := 3) (k := 1) (x := xs 1) f114 (f115.trans hL) (by decide) (by decide) (f116 1) ?_
      refine rn_bnd (rn_cV f98 ?_)
      unfold fn_Md_fields
      refine rn_bnd ?_
      unfold fn_Md_in
      refine rn_f h1 (rn_f h3 (rn_retZ (by decide) ?_))
      refine rn_f (by decide) ?_
      refine rn_gR (r := some (n0 + 50)) f98 f93 ?_
      refine rn_aI (n := 8) (k := j + 1) (x := 0) f104 f105 hi hc (f113 j) ?_
      refine rn_t (by decide) (rn_ret ?_)
      exact rn_t (by first | rfl | decide) (K h f114 f115 (by omega) (by omega))

set_option maxRecDepth 100000 in
set_option maxHeartbeats 40000000 in
theorem op_method_0 (n0 b L : Nat) (xs : Nat → Int32) (hb : ∀ k, (b = n0 + k) = False) (hb0 : (b = n0) = False) (hz : ∀ k, (0 = n0 + k) = False) (hz0 : (0 = n0) = False) (r : Option Nat) {h : ahH} (F : Fx n0 b L xs r h) {post : Int32 → ahH → Prop} (J : ahM Int32) (K : ∀ h', ah_kd h' b = 99 → ah_ln h' b = L → h'.1 ≤ n0 + 1000 → h'.2.1 ≤ 1000000 → Rn J h' post) (hL : L = 3) (e0 : xs 1 = 0) : Rn (ah_bnd (ah_cV 10 (some n0) (fun b => fn_BT_method b (xs 1) (xs 2))) fun x => ah_rd (ah_aI 0 (some b) ((0 : Int32) + (1 : Int32))) fun y1 => ah_rd (ah_aI 0 (some b) ((0 : Int32) + (2 : Int32))) fun y2 => ah_bnd (ah_cV 12 (some (n0 + 41)) (fun b => fn_Md_method b y1 y2)) fun z => if x = z then J else ah_no) h post := by
  obtain ⟨hn, hu, f0, f1, f2, f3, f4, f5, f6, f7, f8, f9, f10, f11, f12, f13, f14, f15, f16, f17, f18, f19, f20, f21, f22, f23, f24, f25, f26, f27, f28, f29, f30, f31, f32, f33, f34, f35, f36, f37, f38, f39, f40, f41, f42, f43, f44, f45, f46, f47, f48, f49, f50, f51, f52, f53, f54, f55, f56, f57, f58, f59, f60, f61, f62, f63, f64, f65, f66, f67, f68, f69, f70, f71, f72, f73, f74, f75, f76, f77, f78, f79, f80, f81, f82, f83, f84, f85, f86, f87, f88, f89, f90, f91, f92, f93, f94, f95, f96, f97, f98, f99, f100, f101, f102, f103, f104, f105, f106, f107, f108, f109, f110, f111, f112, f113, f114, f115, f116, f117⟩ := F
  have key : ∀ {post : Option Nat → ahH → Prop}, post none h → Rn (fn_Entry_methodNamed (n0 + 18) (xs 2)) h post := by
    intro post hp
    unfold fn_Entry_methodNamed
    rcases pk_ix (xs 2) (n := 26) (by omega) with h1 | h2 | ⟨j, hj, ej⟩
    · exact rn_t h1 (rn_ret hp)
    · exact rn_f (i_nn (a := 26) (by decide) h2) (rn_t (show (26 : Int32) ≤ xs 2 from h2) (rn_ret hp))
    · rw [ej]
      refine rn_f (nI_pos (by omega)) (rn_f (nI_ge (b := 26) (by omega) (by omega)) ?_)
      refine rn_gR (r := some (n0 + 23)) f60 f59 ?_
      exact rn_aR (n := 26) (k := j) (r := none) f61 f62 (ah_in_iff.mpr (vp_in_nI (by omega) (by omega))) (nI_clamp (by omega)) (f112 j) (rn_ret hp)
  rw [show (fun b => fn_BT_method b (xs 1) (xs 2)) = (fun b => fn_BT_method b 0 (xs 2)) by rw [e0]]
  refine rn_bnd (rn_cV (by simp [n_N, n_I, n_P, n_F, kd_N, kd_I, kd_P, kd_F, ln_N, ln_I, ln_P, ln_F, I_N, I_I, I_P, I_F, P_N, P_I, P_P, P_F, hb, hb0, hz, hz0, f7]) ?_)
  try unfold fn_BT_method
  refine rn_gR (r := (some (n0 + 14))) (by simp [n_N, n_I, n_P, n_F, kd_N, kd_I, kd_P, kd_F, ln_N, ln_I, ln_P, ln_F, I_N, I_I, I_P, I_F, P_N, P_I, P_P, P_F, hb, hb0, hz, hz0, f7]) (by simp [n_N, n_I, n_P, n_F, kd_N, kd_I, kd_P, kd_F, ln_N, ln_I, ln_P, ln_F, I_N, I_I, I_P, I_F, P_N, P_I, P_P, P_F, hb, hb0, hz, hz0, f4]) ?_
  refine rn_bnd (rn_cV (by simp [n_N, n_I, n_P, n_F, kd_N, kd_I, kd_P, kd_F, ln_N, ln_I, ln_P, ln_F, I_N, I_I, I_P, I_F, P_N, P_I, P_P, P_F, hb, hb0, hz, hz0, f53]) ?_)
  try unfold fn_Rules_classWithMethod
  refine rn_lpv (s := ((0 : Int32), (0 : Int32))) (by first | rfl | decide) ?_
  refine rn_lp (m := 1999999) ?_
  rw [fn_Rules_classWithMethod_B5]
  refine rn_f (by decide) ?_
  refine rn_bnd (rn_cV (by simp [n_N, n_I, n_P, n_F, kd_N, kd_I, kd_P, kd_F, ln_N, ln_I, ln_P, ln_F, I_N, I_I, I_P, I_F, P_N, P_I, P_P, P_F, hb, hb0, hz, hz0, f53]) ?_)
  try unfold fn_Rules_entryNamed
  refine rn_f (by decide) ?_
  refine rn_f (by decide) ?_
  refine rn_gR (r := (some (n0 + 15))) (by simp [n_N, n_I, n_P, n_F, kd_N, kd_I, kd_P, kd_F, ln_N, ln_I, ln_P, ln_F, I_N, I_I, I_P, I_F, P_N, P_I, P_P, P_F, hb, hb0, hz, hz0, f53]) (by simp [n_N, n_I, n_P, n_F, kd_N, kd_I, kd_P, kd_F, ln_N, ln_I, ln_P, ln_F, I_N, I_I, I_P, I_F, P_N, P_I, P_P, P_F, hb, hb0, hz, hz0, f52]) ?_
  refine rn_aR (n := 8) (k := 0) (r := (some (n0 + 18))) (by simp [n_N, n_I, n_P, n_F, kd_N, kd_I, kd_P, kd_F, ln_N, ln_I, ln_P, ln_F, I_N, I_I, I_P, I_F, P_N, P_I, P_P, P_F, hb, hb0, hz, hz0, f55]) (by simp [n_N, n_I, n_P, n_F, kd_N, kd_I, kd_P, kd_F, ln_N, ln_I, ln_P, ln_F, I_N, I_I, I_P, I_F, P_N, P_I, P_P, P_F, hb, hb0, hz, hz0, f56]) (by decide) (by decide) (by simp [n_N, n_I, n_P, n_F, kd_N, kd_I, kd_P, kd_F, ln_N, ln_I, ln_P, ln_F, I_N, I_I, I_P, I_F, P_N, P_I, P_P, P_F, hb, hb0, hz, hz0, f54]) ?_
  refine rn_ret ?_
  refine rn_f (by simp) ?_
  refine rn_bnd (rn_cV (by simp [n_N, n_I, n_P, n_F, kd_N, kd_I, kd_P, kd_F, ln_N, ln_I, ln_P, ln_F, I_N, I_I, I_P, I_F, P_N, P_I, P_P, P_F, hb, hb0, hz, hz0, f60]) ?_)
  refine key ?_
  refine rn_t (by simp) ?_
  refine rn_gI (x := (-1 : Int32)) (by simp [n_N, n_I, n_P, n_F, kd_N, kd_I, kd_P, kd_F, ln_N, ln_I, ln_P, ln_F, I_N, I_I, I_P, I_F, P_N, P_I, P_P, P_F, hb, hb0, hz, hz0, f60]) (by simp [n_N, n_I, n_P, n_F, kd_N, kd_I, kd_P, kd_F, ln_N, ln_I, ln_P, ln_F, I_N, I_I, I_P, I_F, P_N, P_I, P_P, P_F, hb, hb0, hz, hz0, f57]) ?_
  refine rn_lpv (s := ((-1 : Int32), (1 : Int32))) (by first | rfl | decide) ?_
  refine rn_lp (m := 1999998) ?_
  rw [fn_Rules_classWithMethod_B5]
  refine rn_f (by decide) ?_
  refine rn_bnd (rn_cV (by simp [n_N, n_I, n_P, n_F, kd_N, kd_I, kd_P, kd_F, ln_N, ln_I, ln_P, ln_F, I_N, I_I, I_P, I_F, P_N, P_I, P_P, P_F, hb, hb0, hz, hz0, f53]) ?_)
  try unfold fn_Rules_entryNamed
  refine rn_t (by decide) ?_
  refine rn_ret ?_
  refine rn_t (by simp) ?_
  try unfold fn_Rules_classWithMethod_J33
  refine rn_t (by simp) ?_
  refine rn_ret ?_
  refine rn_ret ?_
  refine rn_bI (n := 3) (k := 1) (x := 0) (by simp [n_N, n_I, n_P, n_F, kd_N, kd_I, kd_P, kd_F, ln_N, ln_I, ln_P, ln_F, I_N, I_I, I_P, I_F, P_N, P_I, P_P, P_F, hb, hb0, hz, hz0, f114]) (by simp [n_N, n_I, n_P, n_F, kd_N, kd_I, kd_P, kd_F, ln_N, ln_I, ln_P, ln_F, I_N, I_I, I_P, I_F, P_N, P_I, P_P, P_F, hb, hb0, hz, hz0, f115, hL]) (by decide) (by decide) (by simp [n_N, n_I, n_P, n_F, kd_N, kd_I, kd_P, kd_F, ln_N, ln_I, ln_P, ln_F, I_N, I_I, I_P, I_F, P_N, P_I, P_P, P_F, hb, hb0, hz, hz0, f116, e0]) ?_
  refine rn_bI (n := 3) (k := 2) (x := xs 2) (by simp [n_N, n_I, n_P, n_F, kd_N, kd_I, kd_P, kd_F, ln_N, ln_I, ln_P, ln_F, I_N, I_I, I_P, I_F, P_N, P_I, P_P, P_F, hb, hb0, hz, hz0, f114]) (by simp [n_N, n_I, n_P, n_F, kd_N, kd_I, kd_P, kd_F, ln_N, ln_I, ln_P, ln_F, I_N, I_I, I_P, I_F, P_N, P_I, P_P, P_F, hb, hb0, hz, hz0, f115, hL]) (by decide) (by decide) (by simp [n_N, n_I, n_P, n_F, kd_N, kd_I, kd_P, kd_F, ln_N, ln_I, ln_P, ln_F, I_N, I_I, I_P, I_F, P_N, P_I, P_P, P_F, hb, hb0, hz, hz0, f116]) ?_
  rcases pk_ix (xs 2) (n := 26) (by omega) with h1 | h2 | ⟨j, hj, ej⟩
  · refine rn_bnd (rn_cV (by simp [n_N, n_I, n_P, n_F, kd_N, kd_I, kd_P, kd_F, ln_N, ln_I, ln_P, ln_F, I_N, I_I, I_P, I_F, P_N, P_I, P_P, P_F, hb, hb0, hz, hz0, f98]) ?_)
    try unfold fn_Md_method
    refine rn_bnd ?_
    try unfold fn_Md_in
    refine rn_f (by decide) ?_
    refine rn_f (by decide) ?_
    refine rn_retZ (by decide) ?_
    refine rn_f (by decide) ?_
    refine rn_gR (r := (some (n0 + 50))) (by simp [n_N, n_I, n_P, n_F, kd_N, kd_I, kd_P, kd_F, ln_N, ln_I, ln_P, ln_F, I_N, I_I, I_P, I_F, P_N, P_I, P_P, P_F, hb, hb0, hz, hz0, f98]) (by simp [n_N, n_I, n_P, n_F, kd_N, kd_I, kd_P, kd_F, ln_N, ln_I, ln_P, ln_F, I_N, I_I, I_P, I_F, P_N, P_I, P_P, P_F, hb, hb0, hz, hz0, f93]) ?_
    refine rn_aI (n := 8) (k := 0) (x := (2 : Int32)) (by simp [n_N, n_I, n_P, n_F, kd_N, kd_I, kd_P, kd_F, ln_N, ln_I, ln_P, ln_F, I_N, I_I, I_P, I_F, P_N, P_I, P_P, P_F, hb, hb0, hz, hz0, f104]) (by simp [n_N, n_I, n_P, n_F, kd_N, kd_I, kd_P, kd_F, ln_N, ln_I, ln_P, ln_F, I_N, I_I, I_P, I_F, P_N, P_I, P_P, P_F, hb, hb0, hz, hz0, f105]) (by decide) (by decide) (by simp [n_N, n_I, n_P, n_F, kd_N, kd_I, kd_P, kd_F, ln_N, ln_I, ln_P, ln_F, I_N, I_I, I_P, I_F, P_N, P_I, P_P, P_F, hb, hb0, hz, hz0, f103]) ?_
    refine rn_f (by decide) ?_
    refine rn_bnd ?_
    try unfold fn_Md_in
    refine rn_t h1 ?_
    refine rn_retZ (by decide) ?_
    refine rn_t (by decide) ?_
    refine rn_ret ?_
    refine rn_t (by first | rfl | decide) ?_
    exact K _ (by first | (intro j; simp [n_N, n_I, n_P, n_F, kd_N, kd_I, kd_P, kd_F, ln_N, ln_I, ln_P, ln_F, I_N, I_I, I_P, I_F, P_N, P_I, P_P, P_F, hb, hb0, hz, hz0, f114]) | (simp [n_N, n_I, n_P, n_F, kd_N, kd_I, kd_P, kd_F, ln_N, ln_I, ln_P, ln_F, I_N, I_I, I_P, I_F, P_N, P_I, P_P, P_F, hb, hb0, hz, hz0, f114])) (by first | (intro j; simp [n_N, n_I, n_P, n_F, kd_N, kd_I, kd_P, kd_F, ln_N, ln_I, ln_P, ln_F, I_N, I_I, I_P, I_F, P_N, P_I, P_P, P_F, hb, hb0, hz, hz0, f115]) | (simp [n_N, n_I, n_P, n_F, kd_N, kd_I, kd_P, kd_F, ln_N, ln_I, ln_P, ln_F, I_N, I_I, I_P, I_F, P_N, P_I, P_P, P_F, hb, hb0, hz, hz0, f115])) (by simp only [n_N, n_I, n_P, n_F, hn]; omega) (by simp only [u_N, u_I, u_P, u_F, hu]; omega)
  · refine rn_bnd (rn_cV (by simp [n_N, n_I, n_P, n_F, kd_N, kd_I, kd_P, kd_F, ln_N, ln_I, ln_P, ln_F, I_N, I_I, I_P, I_F, P_N, P_I, P_P, P_F, hb, hb0, hz, hz0, f98]) ?_)
    try unfold fn_Md_method
    refine rn_bnd ?_
    try unfold fn_Md_in
    refine rn_f (by decide) ?_
    refine rn_f (by decide) ?_
    refine rn_retZ (by decide) ?_
    refine rn_f (by decide) ?_
    refine rn_gR (r := (some (n0 + 50))) (by simp [n_N, n_I, n_P, n_F, kd_N, kd_I, kd_P, kd_F, ln_N, ln_I, ln_P, ln_F, I_N, I_I, I_P, I_F, P_N, P_I, P_P, P_F, hb, hb0, hz, hz0, f98]) (by simp [n_N, n_I, n_P, n_F, kd_N, kd_I, kd_P, kd_F, ln_N, ln_I, ln_P, ln_F, I_N, I_I, I_P, I_F, P_N, P_I, P_P, P_F, hb, hb0, hz, hz0, f93]) ?_
    refine rn_aI (n := 8) (k := 0) (x := (2 : Int32)) (by simp [n_N, n_I, n_P, n_F, kd_N, kd_I, kd_P, kd_F, ln_N, ln_I, ln_P, ln_F, I_N, I_I, I_P, I_F, P_N, P_I, P_P, P_F, hb, hb0, hz, hz0, f104]) (by simp [n_N, n_I, n_P, n_F, kd_N, kd_I, kd_P, kd_F, ln_N, ln_I, ln_P, ln_F, I_N, I_I, I_P, I_F, P_N, P_I, P_P, P_F, hb, hb0, hz, hz0, f105]) (by decide) (by decide) (by simp [n_N, n_I, n_P, n_F, kd_N, kd_I, kd_P, kd_F, ln_N, ln_I, ln_P, ln_F, I_N, I_I, I_P, I_F, P_N, P_I, P_P, P_F, hb, hb0, hz, hz0, f103]) ?_
    refine rn_f (by decide) ?_
    refine rn_bnd ?_
    try unfold fn_Md_in
    refine rn_f (i_nn (a := 26) (by decide) h2) ?_
    refine rn_t (i_pred (a := 26) (by decide) h2) ?_
    refine rn_retZ (by decide) ?_
    refine rn_t (by decide) ?_
    refine rn_ret ?_
    refine rn_t (by first | rfl | decide) ?_
    exact K _ (by first | (intro j; simp [n_N, n_I, n_P, n_F, kd_N, kd_I, kd_P, kd_F, ln_N, ln_I, ln_P, ln_F, I_N, I_I, I_P, I_F, P_N, P_I, P_P, P_F, hb, hb0, hz, hz0, f114]) | (simp [n_N, n_I, n_P, n_F, kd_N, kd_I, kd_P, kd_F, ln_N, ln_I, ln_P, ln_F, I_N, I_I, I_P, I_F, P_N, P_I, P_P, P_F, hb, hb0, hz, hz0, f114])) (by first | (intro j; simp [n_N, n_I, n_P, n_F, kd_N, kd_I, kd_P, kd_F, ln_N, ln_I, ln_P, ln_F, I_N, I_I, I_P, I_F, P_N, P_I, P_P, P_F, hb, hb0, hz, hz0, f115]) | (simp [n_N, n_I, n_P, n_F, kd_N, kd_I, kd_P, kd_F, ln_N, ln_I, ln_P, ln_F, I_N, I_I, I_P, I_F, P_N, P_I, P_P, P_F, hb, hb0, hz, hz0, f115])) (by simp only [n_N, n_I, n_P, n_F, hn]; omega) (by simp only [u_N, u_I, u_P, u_F, hu]; omega)
  · refine rn_bnd (rn_cV (by simp [n_N, n_I, n_P, n_F, kd_N, kd_I, kd_P, kd_F, ln_N, ln_I, ln_P, ln_F, I_N, I_I, I_P, I_F, P_N, P_I, P_P, P_F, hb, hb0, hz, hz0, f98]) ?_)
    try unfold fn_Md_method
    refine rn_bnd ?_
    try unfold fn_Md_in
    refine rn_f (by decide) ?_
    refine rn_f (by decide) ?_
    refine rn_retZ (by decide) ?_
    refine rn_f (by decide) ?_
    refine rn_gR (r := (some (n0 + 50))) (by simp [n_N, n_I, n_P, n_F, kd_N, kd_I, kd_P, kd_F, ln_N, ln_I, ln_P, ln_F, I_N, I_I, I_P, I_F, P_N, P_I, P_P, P_F, hb, hb0, hz, hz0, f98]) (by simp [n_N, n_I, n_P, n_F, kd_N, kd_I, kd_P, kd_F, ln_N, ln_I, ln_P, ln_F, I_N, I_I, I_P, I_F, P_N, P_I, P_P, P_F, hb, hb0, hz, hz0, f93]) ?_
    refine rn_aI (n := 8) (k := 0) (x := (2 : Int32)) (by simp [n_N, n_I, n_P, n_F, kd_N, kd_I, kd_P, kd_F, ln_N, ln_I, ln_P, ln_F, I_N, I_I, I_P, I_F, P_N, P_I, P_P, P_F, hb, hb0, hz, hz0, f104]) (by simp [n_N, n_I, n_P, n_F, kd_N, kd_I, kd_P, kd_F, ln_N, ln_I, ln_P, ln_F, I_N, I_I, I_P, I_F, P_N, P_I, P_P, P_F, hb, hb0, hz, hz0, f105]) (by decide) (by decide) (by simp [n_N, n_I, n_P, n_F, kd_N, kd_I, kd_P, kd_F, ln_N, ln_I, ln_P, ln_F, I_N, I_I, I_P, I_F, P_N, P_I, P_P, P_F, hb, hb0, hz, hz0, f103]) ?_
    refine rn_f (by decide) ?_
    refine rn_bnd ?_
    try unfold fn_Md_in
    refine rn_f (by rw [ej]; exact nI_pos (by omega)) ?_
    refine rn_f (by rw [ej]; exact nI_nlt (a := 25) (by omega) (by omega)) ?_
    refine rn_retZ (by decide) ?_
    refine rn_f (by decide) ?_
    refine rn_bnd (rn_cV (by simp [n_N, n_I, n_P, n_F, kd_N, kd_I, kd_P, kd_F, ln_N, ln_I, ln_P, ln_F, I_N, I_I, I_P, I_F, P_N, P_I, P_P, P_F, hb, hb0, hz, hz0, f98]) ?_)
    try unfold fn_Md_called
    refine rn_lpv (s := (0 : Int32)) (by first | rfl | decide) ?_
    refine rn_lp (m := 1999999) ?_
    rw [fn_Md_called_B2]
    refine rn_f (by decide) ?_
    refine rn_lpv (s := (0 : Int32)) (by first | rfl | decide) ?_
    refine rn_lp (m := 1999999) ?_
    rw [fn_Md_called_B9]
    refine rn_gI (x := (0 : Int32)) (by simp [n_N, n_I, n_P, n_F, kd_N, kd_I, kd_P, kd_F, ln_N, ln_I, ln_P, ln_F, I_N, I_I, I_P, I_F, P_N, P_I, P_P, P_F, hb, hb0, hz, hz0, f98]) (by simp [n_N, n_I, n_P, n_F, kd_N, kd_I, kd_P, kd_F, ln_N, ln_I, ln_P, ln_F, I_N, I_I, I_P, I_F, P_N, P_I, P_P, P_F, hb, hb0, hz, hz0, f87]) ?_
    refine rn_t (by decide) ?_
    refine rn_bnd (rn_cV (by simp [n_N, n_I, n_P, n_F, kd_N, kd_I, kd_P, kd_F, ln_N, ln_I, ln_P, ln_F, I_N, I_I, I_P, I_F, P_N, P_I, P_P, P_F, hb, hb0, hz, hz0, f98]) ?_)
    try unfold fn_Md_upper
    refine rn_gR (r := (some (n0 + 54))) (by simp [n_N, n_I, n_P, n_F, kd_N, kd_I, kd_P, kd_F, ln_N, ln_I, ln_P, ln_F, I_N, I_I, I_P, I_F, P_N, P_I, P_P, P_F, hb, hb0, hz, hz0, f98]) (by simp [n_N, n_I, n_P, n_F, kd_N, kd_I, kd_P, kd_F, ln_N, ln_I, ln_P, ln_F, I_N, I_I, I_P, I_F, P_N, P_I, P_P, P_F, hb, hb0, hz, hz0, f94]) ?_
    refine rn_aI (n := 8) (k := 0) (x := (-1 : Int32)) (by simp [n_N, n_I, n_P, n_F, kd_N, kd_I, kd_P, kd_F, ln_N, ln_I, ln_P, ln_F, I_N, I_I, I_P, I_F, P_N, P_I, P_P, P_F, hb, hb0, hz, hz0, f107]) (by simp [n_N, n_I, n_P, n_F, kd_N, kd_I, kd_P, kd_F, ln_N, ln_I, ln_P, ln_F, I_N, I_I, I_P, I_F, P_N, P_I, P_P, P_F, hb, hb0, hz, hz0, f108]) (by decide) (by decide) (by simp [n_N, n_I, n_P, n_F, kd_N, kd_I, kd_P, kd_F, ln_N, ln_I, ln_P, ln_F, I_N, I_I, I_P, I_F, P_N, P_I, P_P, P_F, hb, hb0, hz, hz0, f106]) ?_
    refine rn_f (by decide) ?_
    refine rn_ret ?_
    refine rn_lpv (s := (-1 : Int32)) (by first | rfl | decide) ?_
    refine rn_lp (m := 1999998) ?_
    rw [fn_Md_called_B2]
    refine rn_t (by decide) ?_
    refine rn_ret ?_
    refine rn_f (by decide) ?_
    refine rn_ret ?_
    refine rn_t (by first | rfl | decide) ?_
    exact K _ (by first | (intro j; simp [n_N, n_I, n_P, n_F, kd_N, kd_I, kd_P, kd_F, ln_N, ln_I, ln_P, ln_F, I_N, I_I, I_P, I_F, P_N, P_I, P_P, P_F, hb, hb0, hz, hz0, f114]) | (simp [n_N, n_I, n_P, n_F, kd_N, kd_I, kd_P, kd_F, ln_N, ln_I, ln_P, ln_F, I_N, I_I, I_P, I_F, P_N, P_I, P_P, P_F, hb, hb0, hz, hz0, f114])) (by first | (intro j; simp [n_N, n_I, n_P, n_F, kd_N, kd_I, kd_P, kd_F, ln_N, ln_I, ln_P, ln_F, I_N, I_I, I_P, I_F, P_N, P_I, P_P, P_F, hb, hb0, hz, hz0, f115]) | (simp [n_N, n_I, n_P, n_F, kd_N, kd_I, kd_P, kd_F, ln_N, ln_I, ln_P, ln_F, I_N, I_I, I_P, I_F, P_N, P_I, P_P, P_F, hb, hb0, hz, hz0, f115])) (by simp only [n_N, n_I, n_P, n_F, hn]; omega) (by simp only [u_N, u_I, u_P, u_F, hu]; omega)

set_option maxRecDepth 100000 in
set_option maxHeartbeats 40000000 in
theorem op_method (n0 b L : Nat) (xs : Nat → Int32) (hb : ∀ k, (b = n0 + k) = False) (hb0 : (b = n0) = False) (hz : ∀ k, (0 = n0 + k) = False) (hz0 : (0 = n0) = False) (r : Option Nat) {h : ahH} (F : Fx n0 b L xs r h) {post : Int32 → ahH → Prop} (J : ahM Int32) (K : ∀ h', ah_kd h' b = 99 → ah_ln h' b = L → h'.1 ≤ n0 + 1000 → h'.2.1 ≤ 1000000 → Rn J h' post) (hL : L = 3) : Rn (ah_bnd (ah_cV 10 (some n0) (fun b => fn_BT_method b (xs 1) (xs 2))) fun x => ah_rd (ah_aI 0 (some b) ((0 : Int32) + (1 : Int32))) fun y1 => ah_rd (ah_aI 0 (some b) ((0 : Int32) + (2 : Int32))) fun y2 => ah_bnd (ah_cV 12 (some (n0 + 41)) (fun b => fn_Md_method b y1 y2)) fun z => if x = z then J else ah_no) h post := by
  have F' := F
  obtain ⟨hn, hu, f0, f1, f2, f3, f4, f5, f6, f7, f8, f9, f10, f11, f12, f13, f14, f15, f16, f17, f18, f19, f20, f21, f22, f23, f24, f25, f26, f27, f28, f29, f30, f31, f32, f33, f34, f35, f36, f37, f38, f39, f40, f41, f42, f43, f44, f45, f46, f47, f48, f49, f50, f51, f52, f53, f54, f55, f56, f57, f58, f59, f60, f61, f62, f63, f64, f65, f66, f67, f68, f69, f70, f71, f72, f73, f74, f75, f76, f77, f78, f79, f80, f81, f82, f83, f84, f85, f86, f87, f88, f89, f90, f91, f92, f93, f94, f95, f96, f97, f98, f99, f100, f101, f102, f103, f104, f105, f106, f107, f108, f109, f110, f111, f112, f113, f114, f115, f116, f117⟩ := F
  rcases pk_ix (xs 1) (n := 8) (by omega) with h1 | h2 | ⟨j, hj, ej⟩
  · refine rn_bnd (rn_cV f7 ?_)
    unfold fn_BT_method
    refine rn_gR (r := some (n0 + 14)) f7 f4 ?_
    refine rn_bnd (rn_cV f53 ?_)
    unfold fn_Rules_classWithMethod
    refine rn_lp (m := 1999999) ?_
    rw [fn_Rules_classWithMethod_B5]
    refine rn_f (by decide) ?_
    refine rn_bnd (rn_cV f53 ?_)
    unfold fn_Rules_entryNamed
    refine rn_t h1 (rn_ret ?_)
    refine rn_t rfl ?_
    unfold fn_Rules_classWithMethod_J33
    refine rn_t rfl (rn_ret ?_)
    refine rn_ret ?_
    refine rn_bI (n := 3) (k := 1) (x := xs 1) f114 (f115.trans hL) (by decide) (by decide) (f116 1) ?_
    refine rn_bI (n := 3) (k := 2) (x := xs 2) f114 (f115.trans hL) (by decide) (by decide) (f116 2) ?_
    refine rn_bnd (rn_cV f98 ?_)
    unfold fn_Md_method
    refine rn_bnd ?_
    unfold fn_Md_in
    refine rn_t h1 (rn_retZ (by decide) ?_)
    refine rn_t (by decide) (rn_ret ?_)
    exact rn_t (by first | rfl | decide) (K h f114 f115 (by omega) (by omega))
  · have h2' : (8 : Int32) ≤ xs 1 := h2
    have h1 : ¬ xs 1 < 0 := i_nn (by decide) h2'
    refine rn_bnd (rn_cV f7 ?_)
    unfold fn_BT_method
    refine rn_gR (r := some (n0 + 14)) f7 f4 ?_
    refine rn_bnd (rn_cV f53 ?_)
    unfold fn_Rules_classWithMethod
    refine rn_lp (m := 1999999) ?_
    rw [fn_Rules_classWithMethod_B5]
    refine rn_f (by decide) ?_
    refine rn_bnd (rn_cV f53 ?_)
    unfold fn_Rules_entryNamed
    refine rn_f h1 (rn_t h2' (rn_ret ?_))
    refine rn_t rfl ?_
    unfold fn_Rules_classWithMethod_J33
    refine rn_t rfl (rn_ret ?_)
    refine rn_ret ?_
    refine rn_bI (n := 3) (k := 1) (x := xs 1) f114 (f115.trans hL) (by decide) (by decide) (f116 1) ?_
    refine rn_bI (n := 3) (k := 2) (x := xs 2) f114 (f115.trans hL) (by decide) (by decide) (f116 2) ?_
    refine rn_bnd (rn_cV f98 ?_)
    unfold fn_Md_method
    refine rn_bnd ?_
    unfold fn_Md_in
    refine rn_f h1 (rn_t (i_pred (by decide) h2') (rn_retZ (by decide) ?_))
    refine rn_t (by decide) (rn_ret ?_)
    exact rn_t (by first | rfl | decide) (K h f114 f115 (by omega) (by omega))
  · cases j with
    | zero => exact op_method_0 n0 b L xs hb hb0 hz hz0 r F' J K hL (by rw [ej]; exact nI_0)
    | succ j =>
      have h1 : ¬ xs 1 < 0 := by rw [ej]; exact nI_pos (by omega)
      have h2 : ¬ (8 : Int32) ≤ xs 1 := by rw [ej]; exact nI_ge (b := 8) (by omega) (by omega)
      have h3 : ¬ (7 : Int32) < xs 1 := by rw [ej]; exact nI_nlt (a := 7) (by omega) (by omega)
      have hi : ah_in (xs 1) 8 = true := by rw [ej]; exact ah_in_iff.mpr (vp_in_nI (by omega) (by omega))
      have hc : (xs 1).toNatClampNeg = j + 1 := by rw [ej]; exact nI_clamp (by omega)
      refine rn_bnd (rn_cV f7 ?_)
      unfold fn_BT_method
      refine rn_gR (r := some (n0 + 14)) f7 f4 ?_
      refine rn_bnd (rn_cV f53 ?_)
      unfold fn_Rules_classWithMethod
      refine rn_lp (m := 1999999) ?_
      rw [fn_Rules_classWithMethod_B5]
      refine rn_f (by decide) ?_
      refine rn_bnd (rn_cV f53 ?_)
      unfold fn_Rules_entryNamed
      refine rn_f h1 (rn_f h2 ?_)
      refine rn_gR (r := some (n0 + 15)) f53 f52 ?_
      refine rn_aR (n := 8) (k := j + 1) (r := none) f55 f56 hi hc (f111 j) (rn_ret ?_)
      refine rn_t rfl ?_
      unfold fn_Rules_classWithMethod_J33
      refine rn_t rfl (rn_ret ?_)
      refine rn_ret ?_
      refine rn_bI (n := 3) (k := 1) (x := xs 1) f114 (f115.trans hL) (by decide) (by decide) (f116 1) ?_
      refine rn_bI (n := 3) (k := 2) (x := xs 2) f114 (f115.trans hL) (by decide) (by decide) (f116 2) ?_
      refine rn_bnd (rn_cV f98 ?_)
      unfold fn_Md_method
      refine rn_bnd ?_
      unfold fn_Md_in
      refine rn_f h1 (rn_f h3 (rn_retZ (by decide) ?_))
      refine rn_f (by decide) ?_
      refine rn_gR (r := some (n0 + 50)) f98 f93 ?_
      refine rn_aI (n := 8) (k := j + 1) (x := 0) f104 f105 hi hc (f113 j) ?_
      refine rn_t (by decide) (rn_ret ?_)
      exact rn_t (by first | rfl | decide) (K h f114 f115 (by omega) (by omega))

