set_option maxRecDepth 100000 in
set_option maxHeartbeats 40000000 in
theorem law_tail (n0 b L : Nat) (xs : Nat → Int32) (hb : ∀ k, (b = n0 + k) = False) (hb0 : (b = n0) = False) (hz : ∀ k, (0 = n0 + k) = False) (hz0 : (0 = n0) = False) (r : Option Nat) {h : ahH} (F : Fx n0 b L xs r h) (hL3 : L ≤ 3) : Rn (ah_lp (fn_Law_law_B18 (some b) (some n0) (some (n0 + 41))) FU (0 : Int32)) h (fun v h' => v = 1 ∧ h'.1 ≤ n0 + 1000 ∧ h'.2.1 ≤ 1000000) := by
  have F' := F
  have l4 : L = 0 ∨ L = 1 ∨ L = 2 ∨ L = 3 := by omega
  obtain ⟨hn, hu, f0, f1, f2, f3, f4, f5, f6, f7, f8, f9, f10, f11, f12, f13, f14, f15, f16, f17, f18, f19, f20, f21, f22, f23, f24, f25, f26, f27, f28, f29, f30, f31, f32, f33, f34, f35, f36, f37, f38, f39, f40, f41, f42, f43, f44, f45, f46, f47, f48, f49, f50, f51, f52, f53, f54, f55, f56, f57, f58, f59, f60, f61, f62, f63, f64, f65, f66, f67, f68, f69, f70, f71, f72, f73, f74, f75, f76, f77, f78, f79, f80, f81, f82, f83, f84, f85, f86, f87, f88, f89, f90, f91, f92, f93, f94, f95, f96, f97, f98, f99, f100, f101, f102, f103, f104, f105, f106, f107, f108, f109, f110, f111, f112, f113, f114, f115, f116, f117⟩ := F
  refine rn_lp (m := 1999999) ?_
  rw [fn_Law_law_B18]
  rcases l4 with hL | hL | hL | hL
  · exact rn_bl (x := 0) f114 (by rw [f115, hL]; rfl) (rn_t (by decide) (rn_ret ⟨rfl, le_n hn (by decide), le_u hu (by decide)⟩))
  · exact rn_bl (x := 1) f114 (by rw [f115, hL]; rfl) (rn_t (by decide) (rn_ret ⟨rfl, le_n hn (by decide), le_u hu (by decide)⟩))
  · exact rn_bl (x := 2) f114 (by rw [f115, hL]; rfl) (rn_t (by decide) (rn_ret ⟨rfl, le_n hn (by decide), le_u hu (by decide)⟩))
  · refine rn_bl (x := 3) f114 (by rw [f115, hL]; rfl) (rn_f (by decide) ?_)
    refine rn_bI (n := 3) (k := 0) (x := xs 0) f114 (f115.trans hL) (by decide) (by decide) (f116 0) ?_
    have K : ∀ h' : ahH, ah_kd h' b = 99 → ah_ln h' b = L → h'.1 ≤ n0 + 1000 → h'.2.1 ≤ 1000000 → Rn (fn_Law_law_J254 (some b) (some n0) (some (n0 + 41)) 0 (ah_lp (fn_Law_law_B18 (some b) (some n0) (some (n0 + 41))) 1999999)) h' (fun v h' => v = 1 ∧ h'.1 ≤ n0 + 1000 ∧ h'.2.1 ≤ 1000000) := by
      intro h' k1 k2 k3 k4
      unfold fn_Law_law_J254
      refine rn_lpv (s := 3) (by decide) ?_
      refine rn_lp (m := 1999998) ?_
      rw [fn_Law_law_B18]
      exact rn_bl (x := 3) k1 (by rw [k2, hL]; rfl) (rn_t (by decide) (rn_ret ⟨rfl, k3, k4⟩))
    by_cases g0 : xs 0 &&& 7 = 0
    · refine rn_t g0 ?_
      refine rn_bI (n := 3) (k := 1) (x := xs 1) f114 (f115.trans hL) (by decide) (by decide) (f116 1) ?_
      refine rn_bI (n := 3) (k := 2) (x := xs 2) f114 (f115.trans hL) (by decide) (by decide) (f116 2) ?_
      exact op_type n0 b L xs hb hb0 hz hz0 r F' _ K hL
    refine rn_f g0 ?_
    by_cases g1 : xs 0 &&& 7 = 1
    · refine rn_t g1 ?_
      exact op_declare n0 b L xs hb hb0 hz hz0 r F' _ K
    refine rn_f g1 ?_
    by_cases g2 : xs 0 &&& 7 = 2
    · refine rn_t g2 ?_
      refine rn_bI (n := 3) (k := 1) (x := xs 1) f114 (f115.trans hL) (by decide) (by decide) (f116 1) ?_
      by_cases g : xs 1 < 0 ∨ 40 < xs 1
      · exact op_run_out n0 b L xs hb hb0 hz hz0 r F' _ K hL g
      · exact op_run_in n0 b L xs hb hb0 hz hz0 r F' _ K hL (fun z => g (Or.inl z)) (Int32.not_lt.mp (fun z => g (Or.inr z))) (fun z => g (Or.inr z))
    refine rn_f g2 ?_
    by_cases g3 : xs 0 &&& 7 = 3
    · refine rn_t g3 ?_
      exact op_length n0 b L xs hb hb0 hz hz0 r F' _ K
    refine rn_f g3 ?_
    by_cases g4 : xs 0 &&& 7 = 4
    · refine rn_t g4 ?_
      refine rn_bI (n := 3) (k := 1) (x := xs 1) f114 (f115.trans hL) (by decide) (by decide) (f116 1) ?_
      exact op_at n0 b L xs hb hb0 hz hz0 r F' _ K hL
    refine rn_f g4 ?_
    by_cases g5 : xs 0 &&& 7 = 5
    · refine rn_t g5 ?_
      exact op_left n0 b L xs hb hb0 hz hz0 r F' _ K
    refine rn_f g5 ?_
    by_cases g6 : xs 0 &&& 7 = 6
    · refine rn_t g6 ?_
      refine rn_bI (n := 3) (k := 1) (x := xs 1) f114 (f115.trans hL) (by decide) (by decide) (f116 1) ?_
      exact op_fields n0 b L xs hb hb0 hz hz0 r F' _ K hL
    refine rn_f g6 ?_
    by_cases g7 : xs 0 &&& 7 = 7
    · refine rn_t g7 ?_
      refine rn_bI (n := 3) (k := 1) (x := xs 1) f114 (f115.trans hL) (by decide) (by decide) (f116 1) ?_
      refine rn_bI (n := 3) (k := 2) (x := xs 2) f114 (f115.trans hL) (by decide) (by decide) (f116 2) ?_
      exact op_method n0 b L xs hb hb0 hz hz0 r F' _ K hL
    refine rn_f g7 ?_
    exact K h f114 f115 (le_n hn (by decide)) (le_u hu (by decide))
theorem p1_pure {b L : Nat} {xs : Nat → Int32} (hL : L ≤ 3) (n0 : Nat) (r : Option Nat) (hb : b < n0) : ∃ n u c, fn_Law_law (some b) (ah_h0 n0 b L xs r) = some (1, n, u, c) ∧ n ≤ 600000 ∧ u ≤ 7302250 := by
  have e1 : ∀ k, (b = n0 + k) = False := fun k => eq_false (by omega)
  have e2 : (b = n0) = False := eq_false (by omega)
  have e3 : ∀ k, (0 = n0 + k) = False := fun k => eq_false (by omega)
  have e4 : (0 = n0) = False := eq_false (by omega)
  obtain ⟨v, n, u, c, e, hv, hn, hu⟩ := law_init n0 b L xs e1 e2 e3 e4 r (post := (fun v h' => v = 1 ∧ h'.1 ≤ n0 + 1000 ∧ h'.2.1 ≤ 1000000)) (fun h F => law_tail n0 b L xs e1 e2 e3 e4 r F hL)
  subst hv
  refine ⟨n, u, c, e, ?_, ?_⟩
  · have h1 : n0 + n ≤ n0 + 1000 := hn
    omega
  · have h1 : 0 + u ≤ 1000000 := hu
    omega
