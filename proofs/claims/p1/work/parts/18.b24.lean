set_option maxRecDepth 100000 in
set_option maxHeartbeats 40000000 in
theorem op_type_4_2_hi (n0 b L : Nat) (xs : Nat → Int32) (hb : ∀ k, (b = n0 + k) = False) (hb0 : (b = n0) = False) (hz : ∀ k, (0 = n0 + k) = False) (hz0 : (0 = n0) = False) (r : Option Nat) {h : ahH} (F : Fx n0 b L xs r h) {post : Int32 → ahH → Prop} (J : ahM Int32) (K : ∀ h', ah_kd h' b = 99 → ah_ln h' b = L → h'.1 ≤ n0 + 1000 → h'.2.1 ≤ 1000000 → Rn J h' post) (hL : L = 3) (en : xs 2 = 4) (c0 : ¬ ((ah_ush (xs 1) ((8 : Int32) * (0 : Int32))) &&& (255 : Int32)) < 32) (d0 : ((ah_ush (xs 1) ((8 : Int32) * (0 : Int32))) &&& (255 : Int32)) ≤ 126) (c1 : ¬ ((ah_ush (xs 1) ((8 : Int32) * (1 : Int32))) &&& (255 : Int32)) < 32) (d1 : ((ah_ush (xs 1) ((8 : Int32) * (1 : Int32))) &&& (255 : Int32)) ≤ 126) (c2 : ¬ ((ah_ush (xs 1) ((8 : Int32) * (2 : Int32))) &&& (255 : Int32)) < 32) (d2 : ¬ ((ah_ush (xs 1) ((8 : Int32) * (2 : Int32))) &&& (255 : Int32)) ≤ 126) : Rn (ah_bnd (ah_cV 10 (some n0) (fun b => fn_BT_type b (xs 1) (xs 2))) fun x => ah_rd (ah_aI 0 (some b) ((0 : Int32) + (1 : Int32))) fun y1 => ah_rd (ah_aI 0 (some b) ((0 : Int32) + (2 : Int32))) fun y2 => ah_bnd (ah_cV 12 (some (n0 + 41)) (fun b => fn_Md_type b y1 y2)) fun z => if x = z then J else ah_no) h post := by
  obtain ⟨hn, hu, f0, f1, f2, f3, f4, f5, f6, f7, f8, f9, f10, f11, f12, f13, f14, f15, f16, f17, f18, f19, f20, f21, f22, f23, f24, f25, f26, f27, f28, f29, f30, f31, f32, f33, f34, f35, f36, f37, f38, f39, f40, f41, f42, f43, f44, f45, f46, f47, f48, f49, f50, f51, f52, f53, f54, f55, f56, f57, f58, f59, f60, f61, f62, f63, f64, f65, f66, f67, f68, f69, f70, f71, f72, f73, f74, f75, f76, f77, f78, f79, f80, f81, f82, f83, f84, f85, f86, f87, f88, f89, f90, f91, f92, f93, f94, f95, f96, f97, f98, f99, f100, f101, f102, f103, f104, f105, f106, f107, f108, f109, f110, f111, f112, f113, f114, f115, f116, f117⟩ := F
  have p0 : ¬ ((xs 1 >>> (((8 : Int32) * (0 : Int32)) &&& 31)) &&& (255 : Int32)) < 32 := by rw [← byt0]; exact c0
  have q0 : ¬ 126 < ((xs 1 >>> (((8 : Int32) * (0 : Int32)) &&& 31)) &&& (255 : Int32)) := by rw [← byt0]; exact Int32.not_lt.mpr d0
  have p1 : ¬ ((xs 1 >>> (((8 : Int32) * (1 : Int32)) &&& 31)) &&& (255 : Int32)) < 32 := by rw [← byt1]; exact c1
  have q1 : ¬ 126 < ((xs 1 >>> (((8 : Int32) * (1 : Int32)) &&& 31)) &&& (255 : Int32)) := by rw [← byt1]; exact Int32.not_lt.mpr d1
  have p2 : ¬ ((xs 1 >>> (((8 : Int32) * (2 : Int32)) &&& 31)) &&& (255 : Int32)) < 32 := by rw [← byt2]; exact c2
  have q2 : 126 < ((xs 1 >>> (((8 : Int32) * (2 : Int32)) &&& 31)) &&& (255 : Int32)) := by rw [← byt2]; exact Int32.not_le.mp d2
  rw [show (fun b => fn_BT_type b (xs 1) (xs 2)) = (fun b => fn_BT_type b (xs 1) 4) by rw [en]]
  refine rn_bnd (rn_cV (by simp [n_N, n_I, n_P, n_F, kd_N, kd_I, kd_P, kd_F, ln_N, ln_I, ln_P, ln_F, I_N, I_I, I_P, I_F, P_N, P_I, P_P, P_F, nar_0, hb, hb0, hz, hz0, f7] <;> decide) ?_)
  try unfold fn_BT_type
  refine rn_f (by decide) ?_
  refine rn_f (by decide) ?_
  refine rn_gI (x := (0 : Int32)) (by simp [n_N, n_I, n_P, n_F, kd_N, kd_I, kd_P, kd_F, ln_N, ln_I, ln_P, ln_F, I_N, I_I, I_P, I_F, P_N, P_I, P_P, P_F, nar_0, hb, hb0, hz, hz0, f7] <;> decide) (by simp [n_N, n_I, n_P, n_F, kd_N, kd_I, kd_P, kd_F, ln_N, ln_I, ln_P, ln_F, I_N, I_I, I_P, I_F, P_N, P_I, P_P, P_F, nar_0, hb, hb0, hz, hz0, f0] <;> decide) ?_
  refine rn_f (by decide) ?_
  refine rn_bnd ?_
  try unfold fn_BT_areCharacters
  refine rn_lpv (s := (0 : Int32)) (by first | rfl | decide) ?_
  refine rn_lp (m := 1999999) ?_
  rw [fn_BT_areCharacters_B2]
  refine rn_f (by decide) ?_
  refine rn_bnd ?_
  try unfold fn_BT_byteOf
  refine rn_ret ?_
  refine rn_f c0 ?_
  refine rn_t d0 ?_
  refine rn_lpv (s := (1 : Int32)) (by first | rfl | decide) ?_
  refine rn_lp (m := 1999998) ?_
  rw [fn_BT_areCharacters_B2]
  refine rn_f (by decide) ?_
  refine rn_bnd ?_
  try unfold fn_BT_byteOf
  refine rn_ret ?_
  refine rn_f c1 ?_
  refine rn_t d1 ?_
  refine rn_lpv (s := (2 : Int32)) (by first | rfl | decide) ?_
  refine rn_lp (m := 1999997) ?_
  rw [fn_BT_areCharacters_B2]
  refine rn_f (by decide) ?_
  refine rn_bnd ?_
  try unfold fn_BT_byteOf
  refine rn_ret ?_
  refine rn_f c2 ?_
  refine rn_f d2 ?_
  refine rn_retZ (by decide) ?_
  refine rn_t (by decide) ?_
  refine rn_retZ (by decide) ?_
  refine rn_bI (n := 3) (k := 1) (x := xs 1) (by simp [n_N, n_I, n_P, n_F, kd_N, kd_I, kd_P, kd_F, ln_N, ln_I, ln_P, ln_F, I_N, I_I, I_P, I_F, P_N, P_I, P_P, P_F, nar_0, hb, hb0, hz, hz0, f114] <;> decide) (by simp [n_N, n_I, n_P, n_F, kd_N, kd_I, kd_P, kd_F, ln_N, ln_I, ln_P, ln_F, I_N, I_I, I_P, I_F, P_N, P_I, P_P, P_F, nar_0, hb, hb0, hz, hz0, f115, hL] <;> decide) (by decide) (by decide) (by simp [n_N, n_I, n_P, n_F, kd_N, kd_I, kd_P, kd_F, ln_N, ln_I, ln_P, ln_F, I_N, I_I, I_P, I_F, P_N, P_I, P_P, P_F, nar_0, hb, hb0, hz, hz0, f116] <;> decide) ?_
  refine rn_bI (n := 3) (k := 2) (x := (4 : Int32)) (by simp [n_N, n_I, n_P, n_F, kd_N, kd_I, kd_P, kd_F, ln_N, ln_I, ln_P, ln_F, I_N, I_I, I_P, I_F, P_N, P_I, P_P, P_F, nar_0, hb, hb0, hz, hz0, f114] <;> decide) (by simp [n_N, n_I, n_P, n_F, kd_N, kd_I, kd_P, kd_F, ln_N, ln_I, ln_P, ln_F, I_N, I_I, I_P, I_F, P_N, P_I, P_P, P_F, nar_0, hb, hb0, hz, hz0, f115, hL] <;> decide) (by decide) (by decide) (by simp [n_N, n_I, n_P, n_F, kd_N, kd_I, kd_P, kd_F, ln_N, ln_I, ln_P, ln_F, I_N, I_I, I_P, I_F, P_N, P_I, P_P, P_F, nar_0, hb, hb0, hz, hz0, f116, en] <;> decide) ?_
  refine rn_bnd (rn_cV (by simp [n_N, n_I, n_P, n_F, kd_N, kd_I, kd_P, kd_F, ln_N, ln_I, ln_P, ln_F, I_N, I_I, I_P, I_F, P_N, P_I, P_P, P_F, nar_0, hb, hb0, hz, hz0, f98] <;> decide) ?_)
  try unfold fn_Md_type
  refine rn_bnd ?_
  try unfold fn_Md_in
  refine rn_f (by decide) ?_
  refine rn_f (by decide) ?_
  refine rn_retZ (by decide) ?_
  refine rn_f (by decide) ?_
  refine rn_gI (x := (0 : Int32)) (by simp [n_N, n_I, n_P, n_F, kd_N, kd_I, kd_P, kd_F, ln_N, ln_I, ln_P, ln_F, I_N, I_I, I_P, I_F, P_N, P_I, P_P, P_F, nar_0, hb, hb0, hz, hz0, f98] <;> decide) (by simp [n_N, n_I, n_P, n_F, kd_N, kd_I, kd_P, kd_F, ln_N, ln_I, ln_P, ln_F, I_N, I_I, I_P, I_F, P_N, P_I, P_P, P_F, nar_0, hb, hb0, hz, hz0, f80] <;> decide) ?_
  refine rn_f (by decide) ?_
  try unfold fn_Md_type_J26
  refine rn_lpv (s := ((1 : Int32), (0 : Int32))) (by first | rfl | decide) ?_
  refine rn_lp (m := 1999999) ?_
  rw [fn_Md_type_B30]
  refine rn_f (by decide) ?_
  refine rn_f (by decide) ?_
  refine rn_bnd ?_
  try unfold fn_Md_in
  refine rn_f p0 ?_
  refine rn_f q0 ?_
  refine rn_retZ (by decide) ?_
  refine rn_lpv (s := ((1 : Int32), (1 : Int32))) (by first | rfl | decide) ?_
  refine rn_lp (m := 1999998) ?_
  rw [fn_Md_type_B30]
  refine rn_f (by decide) ?_
  refine rn_f (by decide) ?_
  refine rn_bnd ?_
  try unfold fn_Md_in
  refine rn_f p1 ?_
  refine rn_f q1 ?_
  refine rn_retZ (by decide) ?_
  refine rn_lpv (s := ((1 : Int32), (2 : Int32))) (by first | rfl | decide) ?_
  refine rn_lp (m := 1999997) ?_
  rw [fn_Md_type_B30]
  refine rn_f (by decide) ?_
  refine rn_f (by decide) ?_
  refine rn_bnd ?_
  try unfold fn_Md_in
  refine rn_f p2 ?_
  refine rn_t q2 ?_
  refine rn_retZ (by decide) ?_
  refine rn_lpv (s := ((0 : Int32), (3 : Int32))) (by first | rfl | decide) ?_
  refine rn_lp (m := 1999996) ?_
  rw [fn_Md_type_B30]
  refine rn_f (by decide) ?_
  refine rn_t (by decide) ?_
  try unfold fn_Md_type_J65
  refine rn_lpv (s := (3 : Int32)) (by first | rfl | decide) ?_
  refine rn_lp (m := 1999999) ?_
  rw [fn_Md_type_B70]
  refine rn_f (by decide) ?_
  refine rn_t (by decide) ?_
  refine rn_retZ (by decide) ?_
  refine rn_t (by first | rfl | decide) ?_
  exact K _ (by first | (intro j; simp [n_N, n_I, n_P, n_F, kd_N, kd_I, kd_P, kd_F, ln_N, ln_I, ln_P, ln_F, I_N, I_I, I_P, I_F, P_N, P_I, P_P, P_F, nar_0, hb, hb0, hz, hz0, f114]) | (simp [n_N, n_I, n_P, n_F, kd_N, kd_I, kd_P, kd_F, ln_N, ln_I, ln_P, ln_F, I_N, I_I, I_P, I_F, P_N, P_I, P_P, P_F, nar_0, hb, hb0, hz, hz0, f114])) (by first | (intro j; simp [n_N, n_I, n_P, n_F, kd_N, kd_I, kd_P, kd_F, ln_N, ln_I, ln_P, ln_F, I_N, I_I, I_P, I_F, P_N, P_I, P_P, P_F, nar_0, hb, hb0, hz, hz0, f115]) | (simp [n_N, n_I, n_P, n_F, kd_N, kd_I, kd_P, kd_F, ln_N, ln_I, ln_P, ln_F, I_N, I_I, I_P, I_F, P_N, P_I, P_P, P_F, nar_0, hb, hb0, hz, hz0, f115])) (le_n (k := 85) (by simp only [n_N, n_I, n_P, n_F, hn]) (by decide)) (le_u (k := 40400) (by simp only [u_N, u_I, u_P, u_F, hu]) (by decide))

set_option maxRecDepth 100000 in
set_option maxHeartbeats 40000000 in
theorem op_type_4_3_lo (n0 b L : Nat) (xs : Nat → Int32) (hb : ∀ k, (b = n0 + k) = False) (hb0 : (b = n0) = False) (hz : ∀ k, (0 = n0 + k) = False) (hz0 : (0 = n0) = False) (r : Option Nat) {h : ahH} (F : Fx n0 b L xs r h) {post : Int32 → ahH → Prop} (J : ahM Int32) (K : ∀ h', ah_kd h' b = 99 → ah_ln h' b = L → h'.1 ≤ n0 + 1000 → h'.2.1 ≤ 1000000 → Rn J h' post) (hL : L = 3) (en : xs 2 = 4) (c0 : ¬ ((ah_ush (xs 1) ((8 : Int32) * (0 : Int32))) &&& (255 : Int32)) < 32) (d0 : ((ah_ush (xs 1) ((8 : Int32) * (0 : Int32))) &&& (255 : Int32)) ≤ 126) (c1 : ¬ ((ah_ush (xs 1) ((8 : Int32) * (1 : Int32))) &&& (255 : Int32)) < 32) (d1 : ((ah_ush (xs 1) ((8 : Int32) * (1 : Int32))) &&& (255 : Int32)) ≤ 126) (c2 : ¬ ((ah_ush (xs 1) ((8 : Int32) * (2 : Int32))) &&& (255 : Int32)) < 32) (d2 : ((ah_ush (xs 1) ((8 : Int32) * (2 : Int32))) &&& (255 : Int32)) ≤ 126) (c3 : ((ah_ush (xs 1) ((8 : Int32) * (3 : Int32))) &&& (255 : Int32)) < 32) : Rn (ah_bnd (ah_cV 10 (some n0) (fun b => fn_BT_type b (xs 1) (xs 2))) fun x => ah_rd (ah_aI 0 (some b) ((0 : Int32) + (1 : Int32))) fun y1 => ah_rd (ah_aI 0 (some b) ((0 : Int32) + (2 : Int32))) fun y2 => ah_bnd (ah_cV 12 (some (n0 + 41)) (fun b => fn_Md_type b y1 y2)) fun z => if x = z then J else ah_no) h post := by
  obtain ⟨hn, hu, f0, f1, f2, f3, f4, f5, f6, f7, f8, f9, f10, f11, f12, f13, f14, f15, f16, f17, f18, f19, f20, f21, f22, f23, f24, f25, f26, f27, f28, f29, f30, f31, f32, f33, f34, f35, f36, f37, f38, f39, f40, f41, f42, f43, f44, f45, f46, f47, f48, f49, f50, f51, f52, f53, f54, f55, f56, f57, f58, f59, f60, f61, f62, f63, f64, f65, f66, f67, f68, f69, f70, f71, f72, f73, f74, f75, f76, f77, f78, f79, f80, f81, f82, f83, f84, f85, f86, f87, f88, f89, f90, f91, f92, f93, f94, f95, f96, f97, f98, f99, f100, f101, f102, f103, f104, f105, f106, f107, f108, f109, f110, f111, f112, f113, f114, f115, f116, f117⟩ := F
  have p0 : ¬ ((xs 1 >>> (((8 : Int32) * (0 : Int32)) &&& 31)) &&& (255 : Int32)) < 32 := by rw [← byt0]; exact c0
  have q0 : ¬ 126 < ((xs 1 >>> (((8 : Int32) * (0 : Int32)) &&& 31)) &&& (255 : Int32)) := by rw [← byt0]; exact Int32.not_lt.mpr d0
  have p1 : ¬ ((xs 1 >>> (((8 : Int32) * (1 : Int32)) &&& 31)) &&& (255 : Int32)) < 32 := by rw [← byt1]; exact c1
  have q1 : ¬ 126 < ((xs 1 >>> (((8 : Int32) * (1 : Int32)) &&& 31)) &&& (255 : Int32)) := by rw [← byt1]; exact Int32.not_lt.mpr d1
  have p2 : ¬ ((xs 1 >>> (((8 : Int32) * (2 : Int32)) &&& 31)) &&& (255 : Int32)) < 32 := by rw [← byt2]; exact c2
  have q2 : ¬ 126 < ((xs 1 >>> (((8 : Int32) * (2 : Int32)) &&& 31)) &&& (255 : Int32)) := by rw [← byt2]; exact Int32.not_lt.mpr d2
  have p3 : ((xs 1 >>> (((8 : Int32) * (3 : Int32)) &&& 31)) &&& (255 : Int32)) < 32 := by rw [← byt3]; exact c3
  rw [show (fun b => fn_BT_type b (xs 1) (xs 2)) = (fun b => fn_BT_type b (xs 1) 4) by rw [en]]
  refine rn_bnd (rn_cV (by simp [n_N, n_I, n_P, n_F, kd_N, kd_I, kd_P, kd_F, ln_N, ln_I, ln_P, ln_F, I_N, I_I, I_P, I_F, P_N, P_I, P_P, P_F, nar_0, hb, hb0, hz, hz0, f7] <;> decide) ?_)
  try unfold fn_BT_type
  refine rn_f (by decide) ?_
  refine rn_f (by decide) ?_
  refine rn_gI (x := (0 : Int32)) (by simp [n_N, n_I, n_P, n_F, kd_N, kd_I, kd_P, kd_F, ln_N, ln_I, ln_P, ln_F, I_N, I_I, I_P, I_F, P_N, P_I, P_P, P_F, nar_0, hb, hb0, hz, hz0, f7] <;> decide) (by simp [n_N, n_I, n_P, n_F, kd_N, kd_I, kd_P, kd_F, ln_N, ln_I, ln_P, ln_F, I_N, I_I, I_P, I_F, P_N, P_I, P_P, P_F, nar_0, hb, hb0, hz, hz0, f0] <;> decide) ?_
  refine rn_f (by decide) ?_
  refine rn_bnd ?_
  try unfold fn_BT_areCharacters
  refine rn_lpv (s := (0 : Int32)) (by first | rfl | decide) ?_
  refine rn_lp (m := 1999999) ?_
  rw [fn_BT_areCharacters_B2]
  refine rn_f (by decide) ?_
  refine rn_bnd ?_
  try unfold fn_BT_byteOf
  refine rn_ret ?_
  refine rn_f c0 ?_
  refine rn_t d0 ?_
  refine rn_lpv (s := (1 : Int32)) (by first | rfl | decide) ?_
  refine rn_lp (m := 1999998) ?_
  rw [fn_BT_areCharacters_B2]
  refine rn_f (by decide) ?_
  refine rn_bnd ?_
  try unfold fn_BT_byteOf
  refine rn_ret ?_
  refine rn_f c1 ?_
  refine rn_t d1 ?_
  refine rn_lpv (s := (2 : Int32)) (by first | rfl | decide) ?_
  refine rn_lp (m := 1999997) ?_
  rw [fn_BT_areCharacters_B2]
  refine rn_f (by decide) ?_
  refine rn_bnd ?_
  try unfold fn_BT_byteOf
  refine rn_ret ?_
  refine rn_f c2 ?_
  refine rn_t d2 ?_
  refine rn_lpv (s := (3 : Int32)) (by first | rfl | decide) ?_
  refine rn_lp (m := 1999996) ?_
  rw [fn_BT_areCharacters_B2]
  refine rn_f (by decide) ?_
  refine rn_bnd ?_
  try unfold fn_BT_byteOf
  refine rn_ret ?_
  refine rn_t c3 ?_
  refine rn_retZ (by decide) ?_
  refine rn_t (by decide) ?_
  refine rn_retZ (by decide) ?_
  refine rn_bI (n := 3) (k := 1) (x := xs 1) (by simp [n_N, n_I, n_P, n_F, kd_N, kd_I, kd_P, kd_F, ln_N, ln_I, ln_P, ln_F, I_N, I_I, I_P, I_F, P_N, P_I, P_P, P_F, nar_0, hb, hb0, hz, hz0, f114] <;> decide) (by simp [n_N, n_I, n_P, n_F, kd_N, kd_I, kd_P, kd_F, ln_N, ln_I, ln_P, ln_F, I_N, I_I, I_P, I_F, P_N, P_I, P_P, P_F, nar_0, hb, hb0, hz, hz0, f115, hL] <;> decide) (by decide) (by decide) (by simp [n_N, n_I, n_P, n_F, kd_N, kd_I, kd_P, kd_F, ln_N, ln_I, ln_P, ln_F, I_N, I_I, I_P, I_F, P_N, P_I, P_P, P_F, nar_0, hb, hb0, hz, hz0, f116] <;> decide) ?_
  refine rn_bI (n := 3) (k := 2) (x := (4 : Int32)) (by simp [n_N, n_I, n_P, n_F, kd_N, kd_I, kd_P, kd_F, ln_N, ln_I, ln_P, ln_F, I_N, I_I, I_P, I_F, P_N, P_I, P_P, P_F, nar_0, hb, hb0, hz, hz0, f114] <;> decide) (by simp [n_N, n_I, n_P, n_F, kd_N, kd_I, kd_P, kd_F, ln_N, ln_I, ln_P, ln_F, I_N, I_I, I_P, I_F, P_N, P_I, P_P, P_F, nar_0, hb, hb0, hz, hz0, f115, hL] <;> decide) (by decide) (by decide) (by simp [n_N, n_I, n_P, n_F, kd_N, kd_I, kd_P, kd_F, ln_N, ln_I, ln_P, ln_F, I_N, I_I, I_P, I_F, P_N, P_I, P_P, P_F, nar_0, hb, hb0, hz, hz0, f116, en] <;> decide) ?_
  refine rn_bnd (rn_cV (by simp [n_N, n_I, n_P, n_F, kd_N, kd_I, kd_P, kd_F, ln_N, ln_I, ln_P, ln_F, I_N, I_I, I_P, I_F, P_N, P_I, P_P, P_F, nar_0, hb, hb0, hz, hz0, f98] <;> decide) ?_)
  try unfold fn_Md_type
  refine rn_bnd ?_
  try unfold fn_Md_in
  refine rn_f (by decide) ?_
  refine rn_f (by decide) ?_
  refine rn_retZ (by decide) ?_
  refine rn_f (by decide) ?_
  refine rn_gI (x := (0 : Int32)) (by simp [n_N, n_I, n_P, n_F, kd_N, kd_I, kd_P, kd_F, ln_N, ln_I, ln_P, ln_F, I_N, I_I, I_P, I_F, P_N, P_I, P_P, P_F, nar_0, hb, hb0, hz, hz0, f98] <;> decide) (by simp [n_N, n_I, n_P, n_F, kd_N, kd_I, kd_P, kd_F, ln_N, ln_I, ln_P, ln_F, I_N, I_I, I_P, I_F, P_N, P_I, P_P, P_F, nar_0, hb, hb0, hz, hz0, f80] <;> decide) ?_
  refine rn_f (by decide) ?_
  try unfold fn_Md_type_J26
  refine rn_lpv (s := ((1 : Int32), (0 : Int32))) (by first | rfl | decide) ?_
  refine rn_lp (m := 1999999) ?_
  rw [fn_Md_type_B30]
  refine rn_f (by decide) ?_
  refine rn_f (by decide) ?_
  refine rn_bnd ?_
  try unfold fn_Md_in
  refine rn_f p0 ?_
  refine rn_f q0 ?_
  refine rn_retZ (by decide) ?_
  refine rn_lpv (s := ((1 : Int32), (1 : Int32))) (by first | rfl | decide) ?_
  refine rn_lp (m := 1999998) ?_
  rw [fn_Md_type_B30]
  refine rn_f (by decide) ?_
  refine rn_f (by decide) ?_
  refine rn_bnd ?_
  try unfold fn_Md_in
  refine rn_f p1 ?_
  refine rn_f q1 ?_
  refine rn_retZ (by decide) ?_
  refine rn_lpv (s := ((1 : Int32), (2 : Int32))) (by first | rfl | decide) ?_
  refine rn_lp (m := 1999997) ?_
  rw [fn_Md_type_B30]
  refine rn_f (by decide) ?_
  refine rn_f (by decide) ?_
  refine rn_bnd ?_
  try unfold fn_Md_in
  refine rn_f p2 ?_
  refine rn_f q2 ?_
  refine rn_retZ (by decide) ?_
  refine rn_lpv (s := ((1 : Int32), (3 : Int32))) (by first | rfl | decide) ?_
  refine rn_lp (m := 1999996) ?_
  rw [fn_Md_type_B30]
  refine rn_f (by decide) ?_
  refine rn_f (by decide) ?_
  refine rn_bnd ?_
  try unfold fn_Md_in
  refine rn_t p3 ?_
  refine rn_retZ (by decide) ?_
  refine rn_lpv (s := ((0 : Int32), (4 : Int32))) (by first | rfl | decide) ?_
  refine rn_lp (m := 1999995) ?_
  rw [fn_Md_type_B30]
  refine rn_t (by decide) ?_
  try unfold fn_Md_type_J65
  refine rn_lpv (s := (3 : Int32)) (by first | rfl | decide) ?_
  refine rn_lp (m := 1999999) ?_
  rw [fn_Md_type_B70]
  refine rn_f (by decide) ?_
  refine rn_t (by decide) ?_
  refine rn_retZ (by decide) ?_
  refine rn_t (by first | rfl | decide) ?_
  exact K _ (by first | (intro j; simp [n_N, n_I, n_P, n_F, kd_N, kd_I, kd_P, kd_F, ln_N, ln_I, ln_P, ln_F, I_N, I_I, I_P, I_F, P_N, P_I, P_P, P_F, nar_0, hb, hb0, hz, hz0, f114]) | (simp [n_N, n_I, n_P, n_F, kd_N, kd_I, kd_P, kd_F, ln_N, ln_I, ln_P, ln_F, I_N, I_I, I_P, I_F, P_N, P_I, P_P, P_F, nar_0, hb, hb0, hz, hz0, f114])) (by first | (intro j; simp [n_N, n_I, n_P, n_F, kd_N, kd_I, kd_P, kd_F, ln_N, ln_I, ln_P, ln_F, I_N, I_I, I_P, I_F, P_N, P_I, P_P, P_F, nar_0, hb, hb0, hz, hz0, f115]) | (simp [n_N, n_I, n_P, n_F, kd_N, kd_I, kd_P, kd_F, ln_N, ln_I, ln_P, ln_F, I_N, I_I, I_P, I_F, P_N, P_I, P_P, P_F, nar_0, hb, hb0, hz, hz0, f115])) (le_n (k := 85) (by simp only [n_N, n_I, n_P, n_F, hn]) (by decide)) (le_u (k := 40400) (by simp only [u_N, u_I, u_P, u_F, hu]) (by decide))

set_option maxRecDepth 100000 in
set_option maxHeartbeats 40000000 in
theorem op_type_4_3_hi (n0 b L : Nat) (xs : Nat → Int32) (hb : ∀ k, (b = n0 + k) = False) (hb0 : (b = n0) = False) (hz : ∀ k, (0 = n0 + k) = False) (hz0 : (0 = n0) = False) (r : Option Nat) {h : ahH} (F : Fx n0 b L xs r h) {post : Int32 → ahH → Prop} (J : ahM Int32) (K : ∀ h', ah_kd h' b = 99 → ah_ln h' b = L → h'.1 ≤ n0 + 1000 → h'.2.1 ≤ 1000000 → Rn J h' post) (hL : L = 3) (en : xs 2 = 4) (c0 : ¬ ((ah_ush (xs 1) ((8 : Int32) * (0 : Int32))) &&& (255 : Int32)) < 32) (d0 : ((ah_ush (xs 1) ((8 : Int32) * (0 : Int32))) &&& (255 : Int32)) ≤ 126) (c1 : ¬ ((ah_ush (xs 1) ((8 : Int32) * (1 : Int32))) &&& (255 : Int32)) < 32) (d1 : ((ah_ush (xs 1) ((8 : Int32) * (1 : Int32))) &&& (255 : Int32)) ≤ 126) (c2 : ¬ ((ah_ush (xs 1) ((8 : Int32) * (2 : Int32))) &&& (255 : Int32)) < 32) (d2 : ((ah_ush (xs 1) ((8 : Int32) * (2 : Int32))) &&& (255 : Int32)) ≤ 126) (c3 : ¬ ((ah_ush (xs 1) ((8 : Int32) * (3 : Int32))) &&& (255 : Int32)) < 32) (d3 : ¬ ((ah_ush (xs 1) ((8 : Int32) * (3 : Int32))) &&& (255 : Int32)) ≤ 126) : Rn (ah_bnd (ah_cV 10 (some n0) (fun b => fn_BT_type b (xs 1) (xs 2))) fun x => ah_rd (ah_aI 0 (some b) ((0 : Int32) + (1 : Int32))) fun y1 => ah_rd (ah_aI 0 (some b) ((0 : Int32) + (2 : Int32))) fun y2 => ah_bnd (ah_cV 12 (some (n0 + 41)) (fun b => fn_Md_type b y1 y2)) fun z => if x = z then J else ah_no) h post := by
  obtain ⟨hn, hu, f0, f1, f2, f3, f4, f5, f6, f7, f8, f9, f10, f11, f12, f13, f14, f15, f16, f17, f18, f19, f20, f21, f22, f23, f24, f25, f26, f27, f28, f29, f30, f31, f32, f33, f34, f35, f36, f37, f38, f39, f40, f41, f42, f43, f44, f45, f46, f47, f48, f49, f50, f51, f52, f53, f54, f55, f56, f57, f58, f59, f60, f61, f62, f63, f64, f65, f66, f67, f68, f69, f70, f71, f72, f73, f74, f75, f76, f77, f78, f79, f80, f81, f82, f83, f84, f85, f86, f87, f88, f89, f90, f91, f92, f93, f94, f95, f96, f97, f98, f99, f100, f101, f102, f103, f104, f105, f106, f107, f108, f109, f110, f111, f112, f113, f114, f115, f116, f117⟩ := F
  have p0 : ¬ ((xs 1 >>> (((8 : Int32) * (0 : Int32)) &&& 31)) &&& (255 : Int32)) < 32 := by rw [← byt0]; exact c0
  have q0 : ¬ 126 < ((xs 1 >>> (((8 : Int32) * (0 : Int32)) &&& 31)) &&& (255 : Int32)) := by rw [← byt0]; exact Int32.not_lt.mpr d0
  have p1 : ¬ ((xs 1 >>> (((8 : Int32) * (1 : Int32)) &&& 31)) &&& (255 : Int32)) < 32 := by rw [← byt1]; exact c1
  have q1 : ¬ 126 < ((xs 1 >>> (((8 : Int32) * (1 : Int32)) &&& 31)) &&& (255 : Int32)) := by rw [← byt1]; exact Int32.not_lt.mpr d1
  have p2 : ¬ ((xs 1 >>> (((8 : Int32) * (2 : Int32)) &&& 31)) &&& (255 : Int32)) < 32 := by rw [← byt2]; exact c2
  have q2 : ¬ 126 < ((xs 1 >>> (((8 : Int32) * (2 : Int32)) &&& 31)) &&& (255 : Int32)) := by rw [← byt2]; exact Int32.not_lt.mpr d2
  have p3 : ¬ ((xs 1 >>> (((8 : Int32) * (3 : Int32)) &&& 31)) &&& (255 : Int32)) < 32 := by rw [← byt3]; exact c3
  have q3 : 126 < ((xs 1 >>> (((8 : Int32) * (3 : Int32)) &&& 31)) &&& (255 : Int32)) := by rw [← byt3]; exact Int32.not_le.mp d3
  rw [show (fun b => fn_BT_type b (xs 1) (xs 2)) = (fun b => fn_BT_type b (xs 1) 4) by rw [en]]
  refine rn_bnd (rn_cV (by simp [n_N, n_I, n_P, n_F, kd_N, kd_I, kd_P, kd_F, ln_N, ln_I, ln_P, ln_F, I_N, I_I, I_P, I_F, P_N, P_I, P_P, P_F, nar_0, hb, hb0, hz, hz0, f7] <;> decide) ?_)
  try unfold fn_BT_type
  refine rn_f (by decide) ?_
  refine rn_f (by decide) ?_
  refine rn_gI (x := (0 : Int32)) (by simp [n_N, n_I, n_P, n_F, kd_N, kd_I, kd_P, kd_F, ln_N, ln_I, ln_P, ln_F, I_N, I_I, I_P, I_F, P_N, P_I, P_P, P_F, nar_0, hb, hb0, hz, hz0, f7] <;> decide) (by simp [n_N, n_I, n_P, n_F, kd_N, kd_I, kd_P, kd_F, ln_N, ln_I, ln_P, ln_F, I_N, I_I, I_P, I_F, P_N, P_I, P_P, P_F, nar_0, hb, hb0, hz, hz0, f0] <;> decide) ?_
  refine rn_f (by decide) ?_
  refine rn_bnd ?_
  try unfold fn_BT_areCharacters
  refine rn_lpv (s := (0 : Int32)) (by first | rfl | decide) ?_
  refine rn_lp (m := 1999999) ?_
  rw [fn_BT_areCharacters_B2]
  refine rn_f (by decide) ?_
  refine rn_bnd ?_
  try unfold fn_BT_byteOf
  refine rn_ret ?_
  refine rn_f c0 ?_
  refine rn_t d0 ?_
  refine rn_lpv (s := (1 : Int32)) (by first | rfl | decide) ?_
  refine rn_lp (m := 1999998) ?_
  rw [fn_BT_areCharacters_B2]
  refine rn_f (by decide) ?_
  refine rn_bnd ?_
  try unfold fn_BT_byteOf
  refine rn_ret ?_
  refine rn_f c1 ?_
  refine rn_t d1 ?_
  refine rn_lpv (s := (2 : Int32)) (by first | rfl | decide) ?_
  refine rn_lp (m := 1999997) ?_
  rw [fn_BT_areCharacters_B2]
  refine rn_f (by decide) ?_
  refine rn_bnd ?_
  try unfold fn_BT_byteOf
  refine rn_ret ?_
  refine rn_f c2 ?_
  refine rn_t d2 ?_
  refine rn_lpv (s := (3 : Int32)) (by first | rfl | decide) ?_
  refine rn_lp (m := 1999996) ?_
  rw [fn_BT_areCharacters_B2]
  refine rn_f (by decide) ?_
  refine rn_bnd ?_
  try unfold fn_BT_byteOf
  refine rn_ret ?_
  refine rn_f c3 ?_
  refine rn_f d3 ?_
  refine rn_retZ (by decide) ?_
  refine rn_t (by decide) ?_
  refine rn_retZ (by decide) ?_
  refine rn_bI (n := 3) (k := 1) (x := xs 1) (by simp [n_N, n_I, n_P, n_F, kd_N, kd_I, kd_P, kd_F, ln_N, ln_I, ln_P, ln_F, I_N, I_I, I_P, I_F, P_N, P_I, P_P, P_F, nar_0, hb, hb0, hz, hz0, f114] <;> decide) (by simp [n_N, n_I, n_P, n_F, kd_N, kd_I, kd_P, kd_F, ln_N, ln_I, ln_P, ln_F, I_N, I_I, I_P, I_F, P_N, P_I, P_P, P_F, nar_0, hb, hb0, hz, hz0, f115, hL] <;> decide) (by decide) (by decide) (by simp [n_N, n_I, n_P, n_F, kd_N, kd_I, kd_P, kd_F, ln_N, ln_I, ln_P, ln_F, I_N, I_I, I_P, I_F, P_N, P_I, P_P, P_F, nar_0, hb, hb0, hz, hz0, f116] <;> decide) ?_
  refine rn_bI (n := 3) (k := 2) (x := (4 : Int32)) (by simp [n_N, n_I, n_P, n_F, kd_N, kd_I, kd_P, kd_F, ln_N, ln_I, ln_P, ln_F, I_N, I_I, I_P, I_F, P_N, P_I, P_P, P_F, nar_0, hb, hb0, hz, hz0, f114] <;> decide) (by simp [n_N, n_I, n_P, n_F, kd_N, kd_I, kd_P, kd_F, ln_N, ln_I, ln_P, ln_F, I_N, I_I, I_P, I_F, P_N, P_I, P_P, P_F, nar_0, hb, hb0, hz, hz0, f115, hL] <;> decide) (by decide) (by decide) (by simp [n_N, n_I, n_P, n_F, kd_N, kd_I, kd_P, kd_F, ln_N, ln_I, ln_P, ln_F, I_N, I_I, I_P, I_F, P_N, P_I, P_P, P_F, nar_0, hb, hb0, hz, hz0, f116, en] <;> decide) ?_
  refine rn_bnd (rn_cV (by simp [n_N, n_I, n_P, n_F, kd_N, kd_I, kd_P, kd_F, ln_N, ln_I, ln_P, ln_F, I_N, I_I, I_P, I_F, P_N, P_I, P_P, P_F, nar_0, hb, hb0, hz, hz0, f98] <;> decide) ?_)
  try unfold fn_Md_type
  refine rn_bnd ?_
  try unfold fn_Md_in
  refine rn_f (by decide) ?_
  refine rn_f (by decide) ?_
  refine rn_retZ (by decide) ?_
  refine rn_f (by decide) ?_
  refine rn_gI (x := (0 : Int32)) (by simp [n_N, n_I, n_P, n_F, kd_N, kd_I, kd_P, kd_F, ln_N, ln_I, ln_P, ln_F, I_N, I_I, I_P, I_F, P_N, P_I, P_P, P_F, nar_0, hb, hb0, hz, hz0, f98] <;> decide) (by simp [n_N, n_I, n_P, n_F, kd_N, kd_I, kd_P, kd_F, ln_N, ln_I, ln_P, ln_F, I_N, I_I, I_P, I_F, P_N, P_I, P_P, P_F, nar_0, hb, hb0, hz, hz0, f80] <;> decide) ?_
  refine rn_f (by decide) ?_
  try unfold fn_Md_type_J26
  refine rn_lpv (s := ((1 : Int32), (0 : Int32))) (by first | rfl | decide) ?_
  refine rn_lp (m := 1999999) ?_
  rw [fn_Md_type_B30]
  refine rn_f (by decide) ?_
  refine rn_f (by decide) ?_
  refine rn_bnd ?_
  try unfold fn_Md_in
  refine rn_f p0 ?_
  refine rn_f q0 ?_
  refine rn_retZ (by decide) ?_
  refine rn_lpv (s := ((1 : Int32), (1 : Int32))) (by first | rfl | decide) ?_
  refine rn_lp (m := 1999998) ?_
  rw [fn_Md_type_B30]
  refine rn_f (by decide) ?_
  refine rn_f (by decide) ?_
  refine rn_bnd ?_
  try unfold fn_Md_in
  refine rn_f p1 ?_
  refine rn_f q1 ?_
  refine rn_retZ (by decide) ?_
  refine rn_lpv (s := ((1 : Int32), (2 : Int32))) (by first | rfl | decide) ?_
  refine rn_lp (m := 1999997) ?_
  rw [fn_Md_type_B30]
  refine rn_f (by decide) ?_
  refine rn_f (by decide) ?_
  refine rn_bnd ?_
  try unfold fn_Md_in
  refine rn_f p2 ?_
  refine rn_f q2 ?_
  refine rn_retZ (by decide) ?_
  refine rn_lpv (s := ((1 : Int32), (3 : Int32))) (by first | rfl | decide) ?_
  refine rn_lp (m := 1999996) ?_
  rw [fn_Md_type_B30]
  refine rn_f (by decide) ?_
  refine rn_f (by decide) ?_
  refine rn_bnd ?_
  try unfold fn_Md_in
  refine rn_f p3 ?_
  refine rn_t q3 ?_
  refine rn_retZ (by decide) ?_
  refine rn_lpv (s := ((0 : Int32), (4 : Int32))) (by first | rfl | decide) ?_
  refine rn_lp (m := 1999995) ?_
  rw [fn_Md_type_B30]
  refine rn_t (by decide) ?_
  try unfold fn_Md_type_J65
  refine rn_lpv (s := (3 : Int32)) (by first | rfl | decide) ?_
  refine rn_lp (m := 1999999) ?_
  rw [fn_Md_type_B70]
  refine rn_f (by decide) ?_
  refine rn_t (by decide) ?_
  refine rn_retZ (by decide) ?_
  refine rn_t (by first | rfl | decide) ?_
  exact K _ (by first | (intro j; simp [n_N, n_I, n_P, n_F, kd_N, kd_I, kd_P, kd_F, ln_N, ln_I, ln_P, ln_F, I_N, I_I, I_P, I_F, P_N, P_I, P_P, P_F, nar_0, hb, hb0, hz, hz0, f114]) | (simp [n_N, n_I, n_P, n_F, kd_N, kd_I, kd_P, kd_F, ln_N, ln_I, ln_P, ln_F, I_N, I_I, I_P, I_F, P_N, P_I, P_P, P_F, nar_0, hb, hb0, hz, hz0, f114])) (by first | (intro j; simp [n_N, n_I, n_P, n_F, kd_N, kd_I, kd_P, kd_F, ln_N, ln_I, ln_P, ln_F, I_N, I_I, I_P, I_F, P_N, P_I, P_P, P_F, nar_0, hb, hb0, hz, hz0, f115]) | (simp [n_N, n_I, n_P, n_F, kd_N, kd_I, kd_P, kd_F, ln_N, ln_I, ln_P, ln_F, I_N, I_I, I_P, I_F, P_N, P_I, P_P, P_F, nar_0, hb, hb0, hz, hz0, f115])) (le_n (k := 85) (by simp only [n_N, n_I, n_P, n_F, hn]) (by decide)) (le_u (k := 40400) (by simp only [u_N, u_I, u_P, u_F, hu]) (by decide))

set_option maxRecDepth 100000 in
set_option maxHeartbeats 40000000 in
theorem op_type_4 (n0 b L : Nat) (xs : Nat → Int32) (hb : ∀ k, (b = n0 + k) = False) (hb0 : (b = n0) = False) (hz : ∀ k, (0 = n0 + k) = False) (hz0 : (0 = n0) = False) (r : Option Nat) {h : ahH} (F : Fx n0 b L xs r h) {post : Int32 → ahH → Prop} (J : ahM Int32) (K : ∀ h', ah_kd h' b = 99 → ah_ln h' b = L → h'.1 ≤ n0 + 1000 → h'.2.1 ≤ 1000000 → Rn J h' post) (hL : L = 3) (en : xs 2 = 4) (c0 : ¬ ((ah_ush (xs 1) ((8 : Int32) * (0 : Int32))) &&& (255 : Int32)) < 32) (d0 : ((ah_ush (xs 1) ((8 : Int32) * (0 : Int32))) &&& (255 : Int32)) ≤ 126) (c1 : ¬ ((ah_ush (xs 1) ((8 : Int32) * (1 : Int32))) &&& (255 : Int32)) < 32) (d1 : ((ah_ush (xs 1) ((8 : Int32) * (1 : Int32))) &&& (255 : Int32)) ≤ 126) (c2 : ¬ ((ah_ush (xs 1) ((8 : Int32) * (2 : Int32))) &&& (255 : Int32)) < 32) (d2 : ((ah_ush (xs 1) ((8 : Int32) * (2 : Int32))) &&& (255 : Int32)) ≤ 126) (c3 : ¬ ((ah_ush (xs 1) ((8 : Int32) * (3 : Int32))) &&& (255 : Int32)) < 32) (d3 : ((ah_ush (xs 1) ((8 : Int32) * (3 : Int32))) &&& (255 : Int32)) ≤ 126) : Rn (ah_bnd (ah_cV 10 (some n0) (fun b => fn_BT_type b (xs 1) (xs 2))) fun x => ah_rd (ah_aI 0 (some b) ((0 : Int32) + (1 : Int32))) fun y1 => ah_rd (ah_aI 0 (some b) ((0 : Int32) + (2 : Int32))) fun y2 => ah_bnd (ah_cV 12 (some (n0 + 41)) (fun b => fn_Md_type b y1 y2)) fun z => if x = z then J else ah_no) h post := by
  obtain ⟨hn, hu, f0, f1, f2, f3, f4, f5, f6, f7, f8, f9, f10, f11, f12, f13, f14, f15, f16, f17, f18, f19, f20, f21, f22, f23, f24, f25, f26, f27, f28, f29, f30, f31, f32, f33, f34, f35, f36, f37, f38, f39, f40, f41, f42, f43, f44, f45, f46, f47, f48, f49, f50, f51, f52, f53, f54, f55, f56, f57, f58, f59, f60, f61, f62, f63, f64, f65, f66, f67, f68, f69, f70, f71, f72, f73, f74, f75, f76, f77, f78, f79, f80, f81, f82, f83, f84, f85, f86, f87, f88, f89, f90, f91, f92, f93, f94, f95, f96, f97, f98, f99, f100, f101, f102, f103, f104, f105, f106, f107, f108, f109, f110, f111, f112, f113, f114, f115, f116, f117⟩ := F
  have p0 : ¬ ((xs 1 >>> (((8 : Int32) * (0 : Int32)) &&& 31)) &&& (255 : Int32)) < 32 := by rw [← byt0]; exact c0
  have q0 : ¬ 126 < ((xs 1 >>> (((8 : Int32) * (0 : Int32)) &&& 31)) &&& (255 : Int32)) := by rw [← byt0]; exact Int32.not_lt.mpr d0
  have p1 : ¬ ((xs 1 >>> (((8 : Int32) * (1 : Int32)) &&& 31)) &&& (255 : Int32)) < 32 := by rw [← byt1]; exact c1
  have q1 : ¬ 126 < ((xs 1 >>> (((8 : Int32) * (1 : Int32)) &&& 31)) &&& (255 : Int32)) := by rw [← byt1]; exact Int32.not_lt.mpr d1
  have p2 : ¬ ((xs 1 >>> (((8 : Int32) * (2 : Int32)) &&& 31)) &&& (255 : Int32)) < 32 := by rw [← byt2]; exact c2
  have q2 : ¬ 126 < ((xs 1 >>> (((8 : Int32) * (2 : Int32)) &&& 31)) &&& (255 : Int32)) := by rw [← byt2]; exact Int32.not_lt.mpr d2
  have p3 : ¬ ((xs 1 >>> (((8 : Int32) * (3 : Int32)) &&& 31)) &&& (255 : Int32)) < 32 := by rw [← byt3]; exact c3
  have q3 : ¬ 126 < ((xs 1 >>> (((8 : Int32) * (3 : Int32)) &&& 31)) &&& (255 : Int32)) := by rw [← byt3]; exact Int32.not_lt.mpr d3
  rw [show (fun b => fn_BT_type b (xs 1) (xs 2)) = (fun b => fn_BT_type b (xs 1) 4) by rw [en]]
  refine rn_bnd (rn_cV (by simp [n_N, n_I, n_P, n_F, kd_N, kd_I, kd_P, kd_F, ln_N, ln_I, ln_P, ln_F, I_N, I_I, I_P, I_F, P_N, P_I, P_P, P_F, nar_0, hb, hb0, hz, hz0, f7] <;> decide) ?_)
  try unfold fn_BT_type
  refine rn_f (by decide) ?_
  refine rn_f (by decide) ?_
  refine rn_gI (x := (0 : Int32)) (by simp [n_N, n_I, n_P, n_F, kd_N, kd_I, kd_P, kd_F, ln_N, ln_I, ln_P, ln_F, I_N, I_I, I_P, I_F, P_N, P_I, P_P, P_F, nar_0, hb, hb0, hz, hz0, f7] <;> decide) (by simp [n_N, n_I, n_P, n_F, kd_N, kd_I, kd_P, kd_F, ln_N, ln_I, ln_P, ln_F, I_N, I_I, I_P, I_F, P_N, P_I, P_P, P_F, nar_0, hb, hb0, hz, hz0, f0] <;> decide) ?_
  refine rn_f (by decide) ?_
  refine rn_bnd ?_
  try unfold fn_BT_areCharacters
  refine rn_lpv (s := (0 : Int32)) (by first | rfl | decide) ?_
  refine rn_lp (m := 1999999) ?_
  rw [fn_BT_areCharacters_B2]
  refine rn_f (by decide) ?_
  refine rn_bnd ?_
  try unfold fn_BT_byteOf
  refine rn_ret ?_
  refine rn_f c0 ?_
  refine rn_t d0 ?_
  refine rn_lpv (s := (1 : Int32)) (by first | rfl | decide) ?_
  refine rn_lp (m := 1999998) ?_
  rw [fn_BT_areCharacters_B2]
  refine rn_f (by decide) ?_
  refine rn_bnd ?_
  try unfold fn_BT_byteOf
  refine rn_ret ?_
  refine rn_f c1 ?_
  refine rn_t d1 ?_
  refine rn_lpv (s := (2 : Int32)) (by first | rfl | decide) ?_
  refine rn_lp (m := 1999997) ?_
  rw [fn_BT_areCharacters_B2]
  refine rn_f (by decide) ?_
  refine rn_bnd ?_
  try unfold fn_BT_byteOf
  refine rn_ret ?_
  refine rn_f c2 ?_
  refine rn_t d2 ?_
  refine rn_lpv (s := (3 : Int32)) (by first | rfl | decide) ?_
  refine rn_lp (m := 1999996) ?_
  rw [fn_BT_areCharacters_B2]
  refine rn_f (by decide) ?_
  refine rn_bnd ?_
  try unfold fn_BT_byteOf
  refine rn_ret ?_
  refine rn_f c3 ?_
  refine rn_t d3 ?_
  refine rn_lpv (s := (4 : Int32)) (by first | rfl | decide) ?_
  refine rn_lp (m := 1999995) ?_
  rw [fn_BT_areCharacters_B2]
  refine rn_t (by decide) ?_
  refine rn_retZ (by decide) ?_
  refine rn_f (by decide) ?_
  refine rn_lpv (s := (3 : Int32)) (by first | rfl | decide) ?_
  refine rn_lp (m := 1999999) ?_
  rw [fn_BT_type_B36]
  refine rn_f (by decide) ?_
  refine rn_gR (r := (some (n0 + 1))) (by simp [n_N, n_I, n_P, n_F, kd_N, kd_I, kd_P, kd_F, ln_N, ln_I, ln_P, ln_F, I_N, I_I, I_P, I_F, P_N, P_I, P_P, P_F, nar_0, hb, hb0, hz, hz0, f7] <;> decide) (by simp [n_N, n_I, n_P, n_F, kd_N, kd_I, kd_P, kd_F, ln_N, ln_I, ln_P, ln_F, I_N, I_I, I_P, I_F, P_N, P_I, P_P, P_F, nar_0, hb, hb0, hz, hz0, f1] <;> decide) ?_
  refine rn_gI (x := (0 : Int32)) (by simp [n_N, n_I, n_P, n_F, kd_N, kd_I, kd_P, kd_F, ln_N, ln_I, ln_P, ln_F, I_N, I_I, I_P, I_F, P_N, P_I, P_P, P_F, nar_0, hb, hb0, hz, hz0, f7] <;> decide) (by simp [n_N, n_I, n_P, n_F, kd_N, kd_I, kd_P, kd_F, ln_N, ln_I, ln_P, ln_F, I_N, I_I, I_P, I_F, P_N, P_I, P_P, P_F, nar_0, hb, hb0, hz, hz0, f0] <;> decide) ?_
  refine rn_bnd ?_
  try unfold fn_BT_byteOf
  refine rn_ret ?_
  refine rn_sI (n := 140) (k := 0) (by simp [n_N, n_I, n_P, n_F, kd_N, kd_I, kd_P, kd_F, ln_N, ln_I, ln_P, ln_F, I_N, I_I, I_P, I_F, P_N, P_I, P_P, P_F, nar_0, hb, hb0, hz, hz0, f8] <;> decide) (by simp [n_N, n_I, n_P, n_F, kd_N, kd_I, kd_P, kd_F, ln_N, ln_I, ln_P, ln_F, I_N, I_I, I_P, I_F, P_N, P_I, P_P, P_F, nar_0, hb, hb0, hz, hz0, f9] <;> decide) (by decide) (by decide) ?_
  refine rn_gI (x := (0 : Int32)) (by simp [n_N, n_I, n_P, n_F, kd_N, kd_I, kd_P, kd_F, ln_N, ln_I, ln_P, ln_F, I_N, I_I, I_P, I_F, P_N, P_I, P_P, P_F, nar_0, hb, hb0, hz, hz0, f7] <;> decide) (by simp [n_N, n_I, n_P, n_F, kd_N, kd_I, kd_P, kd_F, ln_N, ln_I, ln_P, ln_F, I_N, I_I, I_P, I_F, P_N, P_I, P_P, P_F, nar_0, hb, hb0, hz, hz0, f0] <;> decide) ?_
  refine rn_pI (by simp [n_N, n_I, n_P, n_F, kd_N, kd_I, kd_P, kd_F, ln_N, ln_I, ln_P, ln_F, I_N, I_I, I_P, I_F, P_N, P_I, P_P, P_F, nar_0, hb, hb0, hz, hz0, f7] <;> decide) ?_
  refine rn_lpv (s := (2 : Int32)) (by first | rfl | decide) ?_
  refine rn_lp (m := 1999998) ?_
  rw [fn_BT_type_B36]
  refine rn_f (by decide) ?_
  refine rn_gR (r := (some (n0 + 1))) (by simp [n_N, n_I, n_P, n_F, kd_N, kd_I, kd_P, kd_F, ln_N, ln_I, ln_P, ln_F, I_N, I_I, I_P, I_F, P_N, P_I, P_P, P_F, nar_0, hb, hb0, hz, hz0, f7] <;> decide) (by simp [n_N, n_I, n_P, n_F, kd_N, kd_I, kd_P, kd_F, ln_N, ln_I, ln_P, ln_F, I_N, I_I, I_P, I_F, P_N, P_I, P_P, P_F, nar_0, hb, hb0, hz, hz0, f1] <;> decide) ?_
  refine rn_gI (x := (1 : Int32)) (by simp [n_N, n_I, n_P, n_F, kd_N, kd_I, kd_P, kd_F, ln_N, ln_I, ln_P, ln_F, I_N, I_I, I_P, I_F, P_N, P_I, P_P, P_F, nar_0, hb, hb0, hz, hz0, f7] <;> decide) (by simp [n_N, n_I, n_P, n_F, kd_N, kd_I, kd_P, kd_F, ln_N, ln_I, ln_P, ln_F, I_N, I_I, I_P, I_F, P_N, P_I, P_P, P_F, nar_0, hb, hb0, hz, hz0, f0] <;> decide) ?_
  refine rn_bnd ?_
  try unfold fn_BT_byteOf
  refine rn_ret ?_
  refine rn_sI (n := 140) (k := 1) (by simp [n_N, n_I, n_P, n_F, kd_N, kd_I, kd_P, kd_F, ln_N, ln_I, ln_P, ln_F, I_N, I_I, I_P, I_F, P_N, P_I, P_P, P_F, nar_0, hb, hb0, hz, hz0, f8] <;> decide) (by simp [n_N, n_I, n_P, n_F, kd_N, kd_I, kd_P, kd_F, ln_N, ln_I, ln_P, ln_F, I_N, I_I, I_P, I_F, P_N, P_I, P_P, P_F, nar_0, hb, hb0, hz, hz0, f9] <;> decide) (by decide) (by decide) ?_
  refine rn_gI (x := (1 : Int32)) (by simp [n_N, n_I, n_P, n_F, kd_N, kd_I, kd_P, kd_F, ln_N, ln_I, ln_P, ln_F, I_N, I_I, I_P, I_F, P_N, P_I, P_P, P_F, nar_0, hb, hb0, hz, hz0, f7] <;> decide) (by simp [n_N, n_I, n_P, n_F, kd_N, kd_I, kd_P, kd_F, ln_N, ln_I, ln_P, ln_F, I_N, I_I, I_P, I_F, P_N, P_I, P_P, P_F, nar_0, hb, hb0, hz, hz0, f0] <;> decide) ?_
  refine rn_pI (by simp [n_N, n_I, n_P, n_F, kd_N, kd_I, kd_P, kd_F, ln_N, ln_I, ln_P, ln_F, I_N, I_I, I_P, I_F, P_N, P_I, P_P, P_F, nar_0, hb, hb0, hz, hz0, f7] <;> decide) ?_
  refine rn_lpv (s := (1 : Int32)) (by first | rfl | decide) ?_
  refine rn_lp (m := 1999997) ?_
  rw [fn_BT_type_B36]
  refine rn_f (by decide) ?_
  refine rn_gR (r := (some (n0 + 1))) (by simp [n_N, n_I, n_P, n_F, kd_N, kd_I, kd_P, kd_F, ln_N, ln_I, ln_P, ln_F, I_N, I_I, I_P, I_F, P_N, P_I, P_P, P_F, nar_0, hb, hb0, hz, hz0, f7] <;> decide) (by simp [n_N, n_I, n_P, n_F, kd_N, kd_I, kd_P, kd_F, ln_N, ln_I, ln_P, ln_F, I_N, I_I, I_P, I_F, P_N, P_I, P_P, P_F, nar_0, hb, hb0, hz, hz0, f1] <;> decide) ?_
  refine rn_gI (x := (2 : Int32)) (by simp [n_N, n_I, n_P, n_F, kd_N, kd_I, kd_P, kd_F, ln_N, ln_I, ln_P, ln_F, I_N, I_I, I_P, I_F, P_N, P_I, P_P, P_F, nar_0, hb, hb0, hz, hz0, f7] <;> decide) (by simp [n_N, n_I, n_P, n_F, kd_N, kd_I, kd_P, kd_F, ln_N, ln_I, ln_P, ln_F, I_N, I_I, I_P, I_F, P_N, P_I, P_P, P_F, nar_0, hb, hb0, hz, hz0, f0] <;> decide) ?_
  refine rn_bnd ?_
  try unfold fn_BT_byteOf
  refine rn_ret ?_
  refine rn_sI (n := 140) (k := 2) (by simp [n_N, n_I, n_P, n_F, kd_N, kd_I, kd_P, kd_F, ln_N, ln_I, ln_P, ln_F, I_N, I_I, I_P, I_F, P_N, P_I, P_P, P_F, nar_0, hb, hb0, hz, hz0, f8] <;> decide) (by simp [n_N, n_I, n_P, n_F, kd_N, kd_I, kd_P, kd_F, ln_N, ln_I, ln_P, ln_F, I_N, I_I, I_P, I_F, P_N, P_I, P_P, P_F, nar_0, hb, hb0, hz, hz0, f9] <;> decide) (by decide) (by decide) ?_
  refine rn_gI (x := (2 : Int32)) (by simp [n_N, n_I, n_P, n_F, kd_N, kd_I, kd_P, kd_F, ln_N, ln_I, ln_P, ln_F, I_N, I_I, I_P, I_F, P_N, P_I, P_P, P_F, nar_0, hb, hb0, hz, hz0, f7] <;> decide) (by simp [n_N, n_I, n_P, n_F, kd_N, kd_I, kd_P, kd_F, ln_N, ln_I, ln_P, ln_F, I_N, I_I, I_P, I_F, P_N, P_I, P_P, P_F, nar_0, hb, hb0, hz, hz0, f0] <;> decide) ?_
  refine rn_pI (by simp [n_N, n_I, n_P, n_F, kd_N, kd_I, kd_P, kd_F, ln_N, ln_I, ln_P, ln_F, I_N, I_I, I_P, I_F, P_N, P_I, P_P, P_F, nar_0, hb, hb0, hz, hz0, f7] <;> decide) ?_
  refine rn_lpv (s := (0 : Int32)) (by first | rfl | decide) ?_
  refine rn_lp (m := 1999996) ?_
  rw [fn_BT_type_B36]
  refine rn_f (by decide) ?_
  refine rn_gR (r := (some (n0 + 1))) (by simp [n_N, n_I, n_P, n_F, kd_N, kd_I, kd_P, kd_F, ln_N, ln_I, ln_P, ln_F, I_N, I_I, I_P, I_F, P_N, P_I, P_P, P_F, nar_0, hb, hb0, hz, hz0, f7] <;> decide) (by simp [n_N, n_I, n_P, n_F, kd_N, kd_I, kd_P, kd_F, ln_N, ln_I, ln_P, ln_F, I_N, I_I, I_P, I_F, P_N, P_I, P_P, P_F, nar_0, hb, hb0, hz, hz0, f1] <;> decide) ?_
  refine rn_gI (x := (3 : Int32)) (by simp [n_N, n_I, n_P, n_F, kd_N, kd_I, kd_P, kd_F, ln_N, ln_I, ln_P, ln_F, I_N, I_I, I_P, I_F, P_N, P_I, P_P, P_F, nar_0, hb, hb0, hz, hz0, f7] <;> decide) (by simp [n_N, n_I, n_P, n_F, kd_N, kd_I, kd_P, kd_F, ln_N, ln_I, ln_P, ln_F, I_N, I_I, I_P, I_F, P_N, P_I, P_P, P_F, nar_0, hb, hb0, hz, hz0, f0] <;> decide) ?_
  refine rn_bnd ?_
  try unfold fn_BT_byteOf
  refine rn_ret ?_
  refine rn_sI (n := 140) (k := 3) (by simp [n_N, n_I, n_P, n_F, kd_N, kd_I, kd_P, kd_F, ln_N, ln_I, ln_P, ln_F, I_N, I_I, I_P, I_F, P_N, P_I, P_P, P_F, nar_0, hb, hb0, hz, hz0, f8] <;> decide) (by simp [n_N, n_I, n_P, n_F, kd_N, kd_I, kd_P, kd_F, ln_N, ln_I, ln_P, ln_F, I_N, I_I, I_P, I_F, P_N, P_I, P_P, P_F, nar_0, hb, hb0, hz, hz0, f9] <;> decide) (by decide) (by decide) ?_
  refine rn_gI (x := (3 : Int32)) (by simp [n_N, n_I, n_P, n_F, kd_N, kd_I, kd_P, kd_F, ln_N, ln_I, ln_P, ln_F, I_N, I_I, I_P, I_F, P_N, P_I, P_P, P_F, nar_0, hb, hb0, hz, hz0, f7] <;> decide) (by simp [n_N, n_I, n_P, n_F, kd_N, kd_I, kd_P, kd_F, ln_N, ln_I, ln_P, ln_F, I_N, I_I, I_P, I_F, P_N, P_I, P_P, P_F, nar_0, hb, hb0, hz, hz0, f0] <;> decide) ?_
  refine rn_pI (by simp [n_N, n_I, n_P, n_F, kd_N, kd_I, kd_P, kd_F, ln_N, ln_I, ln_P, ln_F, I_N, I_I, I_P, I_F, P_N, P_I, P_P, P_F, nar_0, hb, hb0, hz, hz0, f7] <;> decide) ?_
  refine rn_lpv (s := (-1 : Int32)) (by first | rfl | decide) ?_
  refine rn_lp (m := 1999995) ?_
  rw [fn_BT_type_B36]
  refine rn_t (by decide) ?_
  refine rn_retZ (by decide) ?_
  refine rn_bI (n := 3) (k := 1) (x := xs 1) (by simp [n_N, n_I, n_P, n_F, kd_N, kd_I, kd_P, kd_F, ln_N, ln_I, ln_P, ln_F, I_N, I_I, I_P, I_F, P_N, P_I, P_P, P_F, nar_0, hb, hb0, hz, hz0, f114] <;> decide) (by simp [n_N, n_I, n_P, n_F, kd_N, kd_I, kd_P, kd_F, ln_N, ln_I, ln_P, ln_F, I_N, I_I, I_P, I_F, P_N, P_I, P_P, P_F, nar_0, hb, hb0, hz, hz0, f115, hL] <;> decide) (by decide) (by decide) (by simp [n_N, n_I, n_P, n_F, kd_N, kd_I, kd_P, kd_F, ln_N, ln_I, ln_P, ln_F, I_N, I_I, I_P, I_F, P_N, P_I, P_P, P_F, nar_0, hb, hb0, hz, hz0, f116] <;> decide) ?_
  refine rn_bI (n := 3) (k := 2) (x := (4 : Int32)) (by simp [n_N, n_I, n_P, n_F, kd_N, kd_I, kd_P, kd_F, ln_N, ln_I, ln_P, ln_F, I_N, I_I, I_P, I_F, P_N, P_I, P_P, P_F, nar_0, hb, hb0, hz, hz0, f114] <;> decide) (by simp [n_N, n_I, n_P, n_F, kd_N, kd_I, kd_P, kd_F, ln_N, ln_I, ln_P, ln_F, I_N, I_I, I_P, I_F, P_N, P_I, P_P, P_F, nar_0, hb, hb0, hz, hz0, f115, hL] <;> decide) (by decide) (by decide) (by simp [n_N, n_I, n_P, n_F, kd_N, kd_I, kd_P, kd_F, ln_N, ln_I, ln_P, ln_F, I_N, I_I, I_P, I_F, P_N, P_I, P_P, P_F, nar_0, hb, hb0, hz, hz0, f116, en] <;> decide) ?_
  refine rn_bnd (rn_cV (by simp [n_N, n_I, n_P, n_F, kd_N, kd_I, kd_P, kd_F, ln_N, ln_I, ln_P, ln_F, I_N, I_I, I_P, I_F, P_N, P_I, P_P, P_F, nar_0, hb, hb0, hz, hz0, f98] <;> decide) ?_)
  try unfold fn_Md_type
  refine rn_bnd ?_
  try unfold fn_Md_in
  refine rn_f (by decide) ?_
  refine rn_f (by decide) ?_
  refine rn_retZ (by decide) ?_
  refine rn_f (by decide) ?_
  refine rn_gI (x := (0 : Int32)) (by simp [n_N, n_I, n_P, n_F, kd_N, kd_I, kd_P, kd_F, ln_N, ln_I, ln_P, ln_F, I_N, I_I, I_P, I_F, P_N, P_I, P_P, P_F, nar_0, hb, hb0, hz, hz0, f98] <;> decide) (by simp [n_N, n_I, n_P, n_F, kd_N, kd_I, kd_P, kd_F, ln_N, ln_I, ln_P, ln_F, I_N, I_I, I_P, I_F, P_N, P_I, P_P, P_F, nar_0, hb, hb0, hz, hz0, f80] <;> decide) ?_
  refine rn_f (by decide) ?_
  try unfold fn_Md_type_J26
  refine rn_lpv (s := ((1 : Int32), (0 : Int32))) (by first | rfl | decide) ?_
  refine rn_lp (m := 1999999) ?_
  rw [fn_Md_type_B30]
  refine rn_f (by decide) ?_
  refine rn_f (by decide) ?_
  refine rn_bnd ?_
  try unfold fn_Md_in
  refine rn_f p0 ?_
  refine rn_f q0 ?_
  refine rn_retZ (by decide) ?_
  refine rn_lpv (s := ((1 : Int32), (1 : Int32))) (by first | rfl | decide) ?_
  refine rn_lp (m := 1999998) ?_
  rw [fn_Md_type_B30]
  refine rn_f (by decide) ?_
  refine rn_f (by decide) ?_
  refine rn_bnd ?_
  try unfold fn_Md_in
  refine rn_f p1 ?_
  refine rn_f q1 ?_
  refine rn_retZ (by decide) ?_
  refine rn_lpv (s := ((1 : Int32), (2 : Int32))) (by first | rfl | decide) ?_
  refine rn_lp (m := 1999997) ?_
  rw [fn_Md_type_B30]
  refine rn_f (by decide) ?_
  refine rn_f (by decide) ?_
  refine rn_bnd ?_
  try unfold fn_Md_in
  refine rn_f p2 ?_
  refine rn_f q2 ?_
  refine rn_retZ (by decide) ?_
  refine rn_lpv (s := ((1 : Int32), (3 : Int32))) (by first | rfl | decide) ?_
  refine rn_lp (m := 1999996) ?_
  rw [fn_Md_type_B30]
  refine rn_f (by decide) ?_
  refine rn_f (by decide) ?_
  refine rn_bnd ?_
  try unfold fn_Md_in
  refine rn_f p3 ?_
  refine rn_f q3 ?_
  refine rn_retZ (by decide) ?_
  refine rn_lpv (s := ((1 : Int32), (4 : Int32))) (by first | rfl | decide) ?_
  refine rn_lp (m := 1999995) ?_
  rw [fn_Md_type_B30]
  refine rn_t (by decide) ?_
  try unfold fn_Md_type_J65
  refine rn_lpv (s := (3 : Int32)) (by first | rfl | decide) ?_
  refine rn_lp (m := 1999999) ?_
  rw [fn_Md_type_B70]
  refine rn_f (by decide) ?_
  refine rn_f (by decide) ?_
  refine rn_gR (r := (some (n0 + 42))) (by simp [n_N, n_I, n_P, n_F, kd_N, kd_I, kd_P, kd_F, ln_N, ln_I, ln_P, ln_F, I_N, I_I, I_P, I_F, P_N, P_I, P_P, P_F, nar_0, hb, hb0, hz, hz0, f98] <;> decide) (by simp [n_N, n_I, n_P, n_F, kd_N, kd_I, kd_P, kd_F, ln_N, ln_I, ln_P, ln_F, I_N, I_I, I_P, I_F, P_N, P_I, P_P, P_F, nar_0, hb, hb0, hz, hz0, f91] <;> decide) ?_
  refine rn_gI (x := (0 : Int32)) (by simp [n_N, n_I, n_P, n_F, kd_N, kd_I, kd_P, kd_F, ln_N, ln_I, ln_P, ln_F, I_N, I_I, I_P, I_F, P_N, P_I, P_P, P_F, nar_0, hb, hb0, hz, hz0, f98] <;> decide) (by simp [n_N, n_I, n_P, n_F, kd_N, kd_I, kd_P, kd_F, ln_N, ln_I, ln_P, ln_F, I_N, I_I, I_P, I_F, P_N, P_I, P_P, P_F, nar_0, hb, hb0, hz, hz0, f80] <;> decide) ?_
  refine rn_sI (n := 140) (k := 0) (by simp [n_N, n_I, n_P, n_F, kd_N, kd_I, kd_P, kd_F, ln_N, ln_I, ln_P, ln_F, I_N, I_I, I_P, I_F, P_N, P_I, P_P, P_F, nar_0, hb, hb0, hz, hz0, f99] <;> decide) (by simp [n_N, n_I, n_P, n_F, kd_N, kd_I, kd_P, kd_F, ln_N, ln_I, ln_P, ln_F, I_N, I_I, I_P, I_F, P_N, P_I, P_P, P_F, nar_0, hb, hb0, hz, hz0, f100] <;> decide) (by decide) (by decide) ?_
  refine rn_gI (x := (0 : Int32)) (by simp [n_N, n_I, n_P, n_F, kd_N, kd_I, kd_P, kd_F, ln_N, ln_I, ln_P, ln_F, I_N, I_I, I_P, I_F, P_N, P_I, P_P, P_F, nar_0, hb, hb0, hz, hz0, f98] <;> decide) (by simp [n_N, n_I, n_P, n_F, kd_N, kd_I, kd_P, kd_F, ln_N, ln_I, ln_P, ln_F, I_N, I_I, I_P, I_F, P_N, P_I, P_P, P_F, nar_0, hb, hb0, hz, hz0, f80] <;> decide) ?_
  refine rn_pI (by simp [n_N, n_I, n_P, n_F, kd_N, kd_I, kd_P, kd_F, ln_N, ln_I, ln_P, ln_F, I_N, I_I, I_P, I_F, P_N, P_I, P_P, P_F, nar_0, hb, hb0, hz, hz0, f98] <;> decide) ?_
  refine rn_lpv (s := (2 : Int32)) (by first | rfl | decide) ?_
  refine rn_lp (m := 1999998) ?_
  rw [fn_Md_type_B70]
  refine rn_f (by decide) ?_
  refine rn_f (by decide) ?_
  refine rn_gR (r := (some (n0 + 42))) (by simp [n_N, n_I, n_P, n_F, kd_N, kd_I, kd_P, kd_F, ln_N, ln_I, ln_P, ln_F, I_N, I_I, I_P, I_F, P_N, P_I, P_P, P_F, nar_0, hb, hb0, hz, hz0, f98] <;> decide) (by simp [n_N, n_I, n_P, n_F, kd_N, kd_I, kd_P, kd_F, ln_N, ln_I, ln_P, ln_F, I_N, I_I, I_P, I_F, P_N, P_I, P_P, P_F, nar_0, hb, hb0, hz, hz0, f91] <;> decide) ?_
  refine rn_gI (x := (1 : Int32)) (by simp [n_N, n_I, n_P, n_F, kd_N, kd_I, kd_P, kd_F, ln_N, ln_I, ln_P, ln_F, I_N, I_I, I_P, I_F, P_N, P_I, P_P, P_F, nar_0, hb, hb0, hz, hz0, f98] <;> decide) (by simp [n_N, n_I, n_P, n_F, kd_N, kd_I, kd_P, kd_F, ln_N, ln_I, ln_P, ln_F, I_N, I_I, I_P, I_F, P_N, P_I, P_P, P_F, nar_0, hb, hb0, hz, hz0, f80] <;> decide) ?_
  refine rn_sI (n := 140) (k := 1) (by simp [n_N, n_I, n_P, n_F, kd_N, kd_I, kd_P, kd_F, ln_N, ln_I, ln_P, ln_F, I_N, I_I, I_P, I_F, P_N, P_I, P_P, P_F, nar_0, hb, hb0, hz, hz0, f99] <;> decide) (by simp [n_N, n_I, n_P, n_F, kd_N, kd_I, kd_P, kd_F, ln_N, ln_I, ln_P, ln_F, I_N, I_I, I_P, I_F, P_N, P_I, P_P, P_F, nar_0, hb, hb0, hz, hz0, f100] <;> decide) (by decide) (by decide) ?_
  refine rn_gI (x := (1 : Int32)) (by simp [n_N, n_I, n_P, n_F, kd_N, kd_I, kd_P, kd_F, ln_N, ln_I, ln_P, ln_F, I_N, I_I, I_P, I_F, P_N, P_I, P_P, P_F, nar_0, hb, hb0, hz, hz0, f98] <;> decide) (by simp [n_N, n_I, n_P, n_F, kd_N, kd_I, kd_P, kd_F, ln_N, ln_I, ln_P, ln_F, I_N, I_I, I_P, I_F, P_N, P_I, P_P, P_F, nar_0, hb, hb0, hz, hz0, f80] <;> decide) ?_
  refine rn_pI (by simp [n_N, n_I, n_P, n_F, kd_N, kd_I, kd_P, kd_F, ln_N, ln_I, ln_P, ln_F, I_N, I_I, I_P, I_F, P_N, P_I, P_P, P_F, nar_0, hb, hb0, hz, hz0, f98] <;> decide) ?_
  refine rn_lpv (s := (1 : Int32)) (by first | rfl | decide) ?_
  refine rn_lp (m := 1999997) ?_
  rw [fn_Md_type_B70]
  refine rn_f (by decide) ?_
  refine rn_f (by decide) ?_
  refine rn_gR (r := (some (n0 + 42))) (by simp [n_N, n_I, n_P, n_F, kd_N, kd_I, kd_P, kd_F, ln_N, ln_I, ln_P, ln_F, I_N, I_I, I_P, I_F, P_N, P_I, P_P, P_F, nar_0, hb, hb0, hz, hz0, f98] <;> decide) (by simp [n_N, n_I, n_P, n_F, kd_N, kd_I, kd_P, kd_F, ln_N, ln_I, ln_P, ln_F, I_N, I_I, I_P, I_F, P_N, P_I, P_P, P_F, nar_0, hb, hb0, hz, hz0, f91] <;> decide) ?_
  refine rn_gI (x := (2 : Int32)) (by simp [n_N, n_I, n_P, n_F, kd_N, kd_I, kd_P, kd_F, ln_N, ln_I, ln_P, ln_F, I_N, I_I, I_P, I_F, P_N, P_I, P_P, P_F, nar_0, hb, hb0, hz, hz0, f98] <;> decide) (by simp [n_N, n_I, n_P, n_F, kd_N, kd_I, kd_P, kd_F, ln_N, ln_I, ln_P, ln_F, I_N, I_I, I_P, I_F, P_N, P_I, P_P, P_F, nar_0, hb, hb0, hz, hz0, f80] <;> decide) ?_
  refine rn_sI (n := 140) (k := 2) (by simp [n_N, n_I, n_P, n_F, kd_N, kd_I, kd_P, kd_F, ln_N, ln_I, ln_P, ln_F, I_N, I_I, I_P, I_F, P_N, P_I, P_P, P_F, nar_0, hb, hb0, hz, hz0, f99] <;> decide) (by simp [n_N, n_I, n_P, n_F, kd_N, kd_I, kd_P, kd_F, ln_N, ln_I, ln_P, ln_F, I_N, I_I, I_P, I_F, P_N, P_I, P_P, P_F, nar_0, hb, hb0, hz, hz0, f100] <;> decide) (by decide) (by decide) ?_
  refine rn_gI (x := (2 : Int32)) (by simp [n_N, n_I, n_P, n_F, kd_N, kd_I, kd_P, kd_F, ln_N, ln_I, ln_P, ln_F, I_N, I_I, I_P, I_F, P_N, P_I, P_P, P_F, nar_0, hb, hb0, hz, hz0, f98] <;> decide) (by simp [n_N, n_I, n_P, n_F, kd_N, kd_I, kd_P, kd_F, ln_N, ln_I, ln_P, ln_F, I_N, I_I, I_P, I_F, P_N, P_I, P_P, P_F, nar_0, hb, hb0, hz, hz0, f80] <;> decide) ?_
  refine rn_pI (by simp [n_N, n_I, n_P, n_F, kd_N, kd_I, kd_P, kd_F, ln_N, ln_I, ln_P, ln_F, I_N, I_I, I_P, I_F, P_N, P_I, P_P, P_F, nar_0, hb, hb0, hz, hz0, f98] <;> decide) ?_
  refine rn_lpv (s := (0 : Int32)) (by first | rfl | decide) ?_
  refine rn_lp (m := 1999996) ?_
  rw [fn_Md_type_B70]
  refine rn_f (by decide) ?_
  refine rn_f (by decide) ?_
  refine rn_gR (r := (some (n0 + 42))) (by simp [n_N, n_I, n_P, n_F, kd_N, kd_I, kd_P, kd_F, ln_N, ln_I, ln_P, ln_F, I_N, I_I, I_P, I_F, P_N, P_I, P_P, P_F, nar_0, hb, hb0, hz, hz0, f98] <;> decide) (by simp [n_N, n_I, n_P, n_F, kd_N, kd_I, kd_P, kd_F, ln_N, ln_I, ln_P, ln_F, I_N, I_I, I_P, I_F, P_N, P_I, P_P, P_F, nar_0, hb, hb0, hz, hz0, f91] <;> decide) ?_
  refine rn_gI (x := (3 : Int32)) (by simp [n_N, n_I, n_P, n_F, kd_N, kd_I, kd_P, kd_F, ln_N, ln_I, ln_P, ln_F, I_N, I_I, I_P, I_F, P_N, P_I, P_P, P_F, nar_0, hb, hb0, hz, hz0, f98] <;> decide) (by simp [n_N, n_I, n_P, n_F, kd_N, kd_I, kd_P, kd_F, ln_N, ln_I, ln_P, ln_F, I_N, I_I, I_P, I_F, P_N, P_I, P_P, P_F, nar_0, hb, hb0, hz, hz0, f80] <;> decide) ?_
  refine rn_sI (n := 140) (k := 3) (by simp [n_N, n_I, n_P, n_F, kd_N, kd_I, kd_P, kd_F, ln_N, ln_I, ln_P, ln_F, I_N, I_I, I_P, I_F, P_N, P_I, P_P, P_F, nar_0, hb, hb0, hz, hz0, f99] <;> decide) (by simp [n_N, n_I, n_P, n_F, kd_N, kd_I, kd_P, kd_F, ln_N, ln_I, ln_P, ln_F, I_N, I_I, I_P, I_F, P_N, P_I, P_P, P_F, nar_0, hb, hb0, hz, hz0, f100] <;> decide) (by decide) (by decide) ?_
  refine rn_gI (x := (3 : Int32)) (by simp [n_N, n_I, n_P, n_F, kd_N, kd_I, kd_P, kd_F, ln_N, ln_I, ln_P, ln_F, I_N, I_I, I_P, I_F, P_N, P_I, P_P, P_F, nar_0, hb, hb0, hz, hz0, f98] <;> decide) (by simp [n_N, n_I, n_P, n_F, kd_N, kd_I, kd_P, kd_F, ln_N, ln_I, ln_P, ln_F, I_N, I_I, I_P, I_F, P_N, P_I, P_P, P_F, nar_0, hb, hb0, hz, hz0, f80] <;> decide) ?_
  refine rn_pI (by simp [n_N, n_I, n_P, n_F, kd_N, kd_I, kd_P, kd_F, ln_N, ln_I, ln_P, ln_F, I_N, I_I, I_P, I_F, P_N, P_I, P_P, P_F, nar_0, hb, hb0, hz, hz0, f98] <;> decide) ?_
  refine rn_lpv (s := (-1 : Int32)) (by first | rfl | decide) ?_
  refine rn_lp (m := 1999995) ?_
  rw [fn_Md_type_B70]
  refine rn_t (by decide) ?_
  refine rn_retZ (by decide) ?_
  refine rn_t (by first | rfl | decide) ?_
  exact K _ (by first | (intro j; simp [n_N, n_I, n_P, n_F, kd_N, kd_I, kd_P, kd_F, ln_N, ln_I, ln_P, ln_F, I_N, I_I, I_P, I_F, P_N, P_I, P_P, P_F, nar_0, hb, hb0, hz, hz0, f114]) | (simp [n_N, n_I, n_P, n_F, kd_N, kd_I, kd_P, kd_F, ln_N, ln_I, ln_P, ln_F, I_N, I_I, I_P, I_F, P_N, P_I, P_P, P_F, nar_0, hb, hb0, hz, hz0, f114])) (by first | (intro j; simp [n_N, n_I, n_P, n_F, kd_N, kd_I, kd_P, kd_F, ln_N, ln_I, ln_P, ln_F, I_N, I_I, I_P, I_F, P_N, P_I, P_P, P_F, nar_0, hb, hb0, hz, hz0, f115]) | (simp [n_N, n_I, n_P, n_F, kd_N, kd_I, kd_P, kd_F, ln_N, ln_I, ln_P, ln_F, I_N, I_I, I_P, I_F, P_N, P_I, P_P, P_F, nar_0, hb, hb0, hz, hz0, f115])) (le_n (k := 85) (by simp only [n_N, n_I, n_P, n_F, hn]) (by decide)) (le_u (k := 40400) (by simp only [u_N, u_I, u_P, u_F, hu]) (by decide))

