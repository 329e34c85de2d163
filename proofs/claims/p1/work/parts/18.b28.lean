set_option maxRecDepth 100000 in
set_option maxHeartbeats 40000000 in
theorem op_type_no (n0 b L : Nat) (xs : Nat → Int32) (hb : ∀ k, (b = n0 + k) = False) (hb0 : (b = n0) = False) (hz : ∀ k, (0 = n0 + k) = False) (hz0 : (0 = n0) = False) (r : Option Nat) {h : ahH} (F : Fx n0 b L xs r h) {post : Int32 → ahH → Prop} (J : ahM Int32) (K : ∀ h', ah_kd h' b = 99 → ah_ln h' b = L → h'.1 ≤ n0 + 1000 → h'.2.1 ≤ 1000000 → Rn J h' post) (hL : L = 3) (hv : xs 2 < 1 ∨ 4 < xs 2) : Rn (ah_bnd (ah_cV 10 (some n0) (fun b => fn_BT_type b (xs 1) (xs 2))) fun x => ah_rd (ah_aI 0 (some b) ((0 : Int32) + (1 : Int32))) fun y1 => ah_rd (ah_aI 0 (some b) ((0 : Int32) + (2 : Int32))) fun y2 => ah_bnd (ah_cV 12 (some (n0 + 41)) (fun b => fn_Md_type b y1 y2)) fun z => if x = z then J else ah_no) h post := by
  obtain ⟨hn, hu, f0, f1, f2, f3, f4, f5, f6, f7, f8, f9, f10, f11, f12, f13, f14, f15, f16, f17, f18, f19, f20, f21, f22, f23, f24, f25, f26, f27, f28, f29, f30, f31, f32, f33, f34, f35, f36, f37, f38, f39, f40, f41, f42, f43, f44, f45, f46, f47, f48, f49, f50, f51, f52, f53, f54, f55, f56, f57, f58, f59, f60, f61, f62, f63, f64, f65, f66, f67, f68, f69, f70, f71, f72, f73, f74, f75, f76, f77, f78, f79, f80, f81, f82, f83, f84, f85, f86, f87, f88, f89, f90, f91, f92, f93, f94, f95, f96, f97, f98, f99, f100, f101, f102, f103, f104, f105, f106, f107, f108, f109, f110, f111, f112, f113, f114, f115, f116, f117⟩ := F
  have j65 : ∀ {post : Int32 → ahH → Prop}, post 0 h → Rn (fn_Md_type_J65 (n0 + 41) (xs 1) (xs 2) 0) h post := by
    intro post hp
    unfold fn_Md_type_J65
    refine rn_lp (m := 1999999) ?_
    rw [fn_Md_type_B70]
    by_cases g : xs 2 - 1 < 0
    · exact rn_t g (rn_retZ (by decide) hp)
    · exact rn_f g (rn_t rfl (rn_retZ (by decide) hp))
  refine rn_bnd (rn_cV f7 ?_)
  unfold fn_BT_type
  by_cases h1 : xs 2 < 1
  · refine rn_t h1 (rn_retZ (by decide) ?_)
    refine rn_bI (n := 3) (k := 1) (x := xs 1) f114 (f115.trans hL) (by decide) (by decide) (f116 1) ?_
    refine rn_bI (n := 3) (k := 2) (x := xs 2) f114 (f115.trans hL) (by decide) (by decide) (f116 2) ?_
    refine rn_bnd (rn_cV f98 ?_)
    unfold fn_Md_type
    refine rn_bnd ?_
    unfold fn_Md_in
    refine rn_t h1 (rn_retZ (by decide) ?_)
    refine rn_t (by decide) ?_
    unfold fn_Md_type_J25 fn_Md_type_J26
    refine rn_lp (m := 1999999) ?_
    rw [fn_Md_type_B30]
    by_cases g : xs 2 ≤ 0
    · refine rn_t g (j65 ?_)
      exact rn_t (by first | rfl | decide) (K h f114 f115 (le_n hn (by decide)) (le_u hu (by decide)))
    · refine rn_f g (rn_t rfl (j65 ?_))
      exact rn_t (by first | rfl | decide) (K h f114 f115 (le_n hn (by decide)) (le_u hu (by decide)))
  · have h2 : (4 : Int32) < xs 2 := hv.resolve_left h1
    refine rn_f h1 (rn_t h2 (rn_retZ (by decide) ?_))
    refine rn_bI (n := 3) (k := 1) (x := xs 1) f114 (f115.trans hL) (by decide) (by decide) (f116 1) ?_
    refine rn_bI (n := 3) (k := 2) (x := xs 2) f114 (f115.trans hL) (by decide) (by decide) (f116 2) ?_
    refine rn_bnd (rn_cV f98 ?_)
    unfold fn_Md_type
    refine rn_bnd ?_
    unfold fn_Md_in
    refine rn_f h1 (rn_t h2 (rn_retZ (by decide) ?_))
    refine rn_t (by decide) ?_
    unfold fn_Md_type_J25 fn_Md_type_J26
    refine rn_lp (m := 1999999) ?_
    rw [fn_Md_type_B30]
    by_cases g : xs 2 ≤ 0
    · refine rn_t g (j65 ?_)
      exact rn_t (by first | rfl | decide) (K h f114 f115 (le_n hn (by decide)) (le_u hu (by decide)))
    · refine rn_f g (rn_t rfl (j65 ?_))
      exact rn_t (by first | rfl | decide) (K h f114 f115 (le_n hn (by decide)) (le_u hu (by decide)))

theorem i_lt1 {v : Int32} (h : v < 0) : v < 1 := by
  rw [Int32.lt_iff_toInt_lt] at h ⊢
  have h0 : (0 : Int32).toInt = 0 := by decide
  have h1 : (1 : Int32).toInt = 1 := by decide
  omega

set_option maxRecDepth 100000 in
set_option maxHeartbeats 40000000 in
theorem op_type (n0 b L : Nat) (xs : Nat → Int32) (hb : ∀ k, (b = n0 + k) = False) (hb0 : (b = n0) = False) (hz : ∀ k, (0 = n0 + k) = False) (hz0 : (0 = n0) = False) (r : Option Nat) {h : ahH} (F : Fx n0 b L xs r h) {post : Int32 → ahH → Prop} (J : ahM Int32) (K : ∀ h', ah_kd h' b = 99 → ah_ln h' b = L → h'.1 ≤ n0 + 1000 → h'.2.1 ≤ 1000000 → Rn J h' post) (hL : L = 3) : Rn (ah_bnd (ah_cV 10 (some n0) (fun b => fn_BT_type b (xs 1) (xs 2))) fun x => ah_rd (ah_aI 0 (some b) ((0 : Int32) + (1 : Int32))) fun y1 => ah_rd (ah_aI 0 (some b) ((0 : Int32) + (2 : Int32))) fun y2 => ah_bnd (ah_cV 12 (some (n0 + 41)) (fun b => fn_Md_type b y1 y2)) fun z => if x = z then J else ah_no) h post := by
  have en1 : nI 1 = 1 := by decide
  have en2 : nI 2 = 2 := by decide
  have en3 : nI 3 = 3 := by decide
  have en4 : nI 4 = 4 := by decide
  rcases pk_ix (xs 2) (n := 5) (by omega) with h1 | h2 | ⟨j, hj, ej⟩
  · exact op_type_no n0 b L xs hb hb0 hz hz0 r F J K hL (Or.inl (i_lt1 h1))
  · exact op_type_no n0 b L xs hb hb0 hz hz0 r F J K hL (Or.inr (i_pred (a := 5) (by decide) h2))
  · rcases (by omega : j = 0 ∨ j = 1 ∨ j = 2 ∨ j = 3 ∨ j = 4) with rfl | rfl | rfl | rfl | rfl
    · exact op_type_no n0 b L xs hb hb0 hz hz0 r F J K hL (Or.inl (by rw [ej]; decide))
    · by_cases c0 : ((ah_ush (xs 1) ((8 : Int32) * (0 : Int32))) &&& (255 : Int32)) < 32
      · exact op_type_1_0_lo n0 b L xs hb hb0 hz hz0 r F J K hL (by rw [ej]; exact en1) c0
      by_cases d0 : ((ah_ush (xs 1) ((8 : Int32) * (0 : Int32))) &&& (255 : Int32)) ≤ 126
      rotate_left
      · exact op_type_1_0_hi n0 b L xs hb hb0 hz hz0 r F J K hL (by rw [ej]; exact en1) c0 d0
      exact op_type_1 n0 b L xs hb hb0 hz hz0 r F J K hL (by rw [ej]; exact en1) c0 d0
    · by_cases c0 : ((ah_ush (xs 1) ((8 : Int32) * (0 : Int32))) &&& (255 : Int32)) < 32
      · exact op_type_2_0_lo n0 b L xs hb hb0 hz hz0 r F J K hL (by rw [ej]; exact en2) c0
      by_cases d0 : ((ah_ush (xs 1) ((8 : Int32) * (0 : Int32))) &&& (255 : Int32)) ≤ 126
      rotate_left
      · exact op_type_2_0_hi n0 b L xs hb hb0 hz hz0 r F J K hL (by rw [ej]; exact en2) c0 d0
      by_cases c1 : ((ah_ush (xs 1) ((8 : Int32) * (1 : Int32))) &&& (255 : Int32)) < 32
      · exact op_type_2_1_lo n0 b L xs hb hb0 hz hz0 r F J K hL (by rw [ej]; exact en2) c0 d0 c1
      by_cases d1 : ((ah_ush (xs 1) ((8 : Int32) * (1 : Int32))) &&& (255 : Int32)) ≤ 126
      rotate_left
      · exact op_type_2_1_hi n0 b L xs hb hb0 hz hz0 r F J K hL (by rw [ej]; exact en2) c0 d0 c1 d1
      exact op_type_2 n0 b L xs hb hb0 hz hz0 r F J K hL (by rw [ej]; exact en2) c0 d0 c1 d1
    · by_cases c0 : ((ah_ush (xs 1) ((8 : Int32) * (0 : Int32))) &&& (255 : Int32)) < 32
      · exact op_type_3_0_lo n0 b L xs hb hb0 hz hz0 r F J K hL (by rw [ej]; exact en3) c0
      by_cases d0 : ((ah_ush (xs 1) ((8 : Int32) * (0 : Int32))) &&& (255 : Int32)) ≤ 126
      rotate_left
      · exact op_type_3_0_hi n0 b L xs hb hb0 hz hz0 r F J K hL (by rw [ej]; exact en3) c0 d0
      by_cases c1 : ((ah_ush (xs 1) ((8 : Int32) * (1 : Int32))) &&& (255 : Int32)) < 32
      · exact op_type_3_1_lo n0 b L xs hb hb0 hz hz0 r F J K hL (by rw [ej]; exact en3) c0 d0 c1
      by_cases d1 : ((ah_ush (xs 1) ((8 : Int32) * (1 : Int32))) &&& (255 : Int32)) ≤ 126
      rotate_left
      · exact op_type_3_1_hi n0 b L xs hb hb0 hz hz0 r F J K hL (by rw [ej]; exact en3) c0 d0 c1 d1
      by_cases c2 : ((ah_ush (xs 1) ((8 : Int32) * (2 : Int32))) &&& (255 : Int32)) < 32
      · exact op_type_3_2_lo n0 b L xs hb hb0 hz hz0 r F J K hL (by rw [ej]; exact en3) c0 d0 c1 d1 c2
      by_cases d2 : ((ah_ush (xs 1) ((8 : Int32) * (2 : Int32))) &&& (255 : Int32)) ≤ 126
      rotate_left
      · exact op_type_3_2_hi n0 b L xs hb hb0 hz hz0 r F J K hL (by rw [ej]; exact en3) c0 d0 c1 d1 c2 d2
      exact op_type_3 n0 b L xs hb hb0 hz hz0 r F J K hL (by rw [ej]; exact en3) c0 d0 c1 d1 c2 d2
    · by_cases c0 : ((ah_ush (xs 1) ((8 : Int32) * (0 : Int32))) &&& (255 : Int32)) < 32
      · exact op_type_4_0_lo n0 b L xs hb hb0 hz hz0 r F J K hL (by rw [ej]; exact en4) c0
      by_cases d0 : ((ah_ush (xs 1) ((8 : Int32) * (0 : Int32))) &&& (255 : Int32)) ≤ 126
      rotate_left
      · exact op_type_4_0_hi n0 b L xs hb hb0 hz hz0 r F J K hL (by rw [ej]; exact en4) c0 d0
      by_cases c1 : ((ah_ush (xs 1) ((8 : Int32) * (1 : Int32))) &&& (255 : Int32)) < 32
      · exact op_type_4_1_lo n0 b L xs hb hb0 hz hz0 r F J K hL (by rw [ej]; exact en4) c0 d0 c1
      by_cases d1 : ((ah_ush (xs 1) ((8 : Int32) * (1 : Int32))) &&& (255 : Int32)) ≤ 126
      rotate_left
      · exact op_type_4_1_hi n0 b L xs hb hb0 hz hz0 r F J K hL (by rw [ej]; exact en4) c0 d0 c1 d1
      by_cases c2 : ((ah_ush (xs 1) ((8 : Int32) * (2 : Int32))) &&& (255 : Int32)) < 32
      · exact op_type_4_2_lo n0 b L xs hb hb0 hz hz0 r F J K hL (by rw [ej]; exact en4) c0 d0 c1 d1 c2
      by_cases d2 : ((ah_ush (xs 1) ((8 : Int32) * (2 : Int32))) &&& (255 : Int32)) ≤ 126
      rotate_left
      · exact op_type_4_2_hi n0 b L xs hb hb0 hz hz0 r F J K hL (by rw [ej]; exact en4) c0 d0 c1 d1 c2 d2
      by_cases c3 : ((ah_ush (xs 1) ((8 : Int32) * (3 : Int32))) &&& (255 : Int32)) < 32
      · exact op_type_4_3_lo n0 b L xs hb hb0 hz hz0 r F J K hL (by rw [ej]; exact en4) c0 d0 c1 d1 c2 d2 c3
      by_cases d3 : ((ah_ush (xs 1) ((8 : Int32) * (3 : Int32))) &&& (255 : Int32)) ≤ 126
      rotate_left
      · exact op_type_4_3_hi n0 b L xs hb hb0 hz hz0 r F J K hL (by rw [ej]; exact en4) c0 d0 c1 d1 c2 d2 c3 d3
      exact op_type_4 n0 b L xs hb hb0 hz hz0 r F J K hL (by rw [ej]; exact en4) c0 d0 c1 d1 c2 d2 c3 d3

