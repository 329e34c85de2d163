section AHG
variable {E : ahE} {X : ahX} {ρ : Type} {Qf : ρ → ahH → State → Prop} {cc : ByteArray} {nL : Nat} {own : String} {F L pc : Nat} {lv : List (Option Value)} {st : List Value}
def ah_LF (own : String) (idx : Nat) (q : vw_C) (k : Nat) : Prop := Cond.fieldLink own idx (q.2.1 k).1 (q.2.1 k).2.1 (q.2.1 k).2.2.1 ∈ pg_T ∨ ∃ host, Cond.fieldLinkNest own idx (q.2.1 k).1 (q.2.1 k).2.1 (q.2.1 k).2.2.1 host ∈ pg_N
theorem ah_uws {q : vw_C} (h : ∀ k, k < q.2.2 → u_lay q.1 q.2.1 k ∈ pg_T) : ∀ w ∈ u_ws q.1 q.2.1 q.2.2, w ∈ pg_T := by
  intro w hw
  obtain ⟨k, hk, rfl⟩ := List.mem_map.mp hw
  exact h k (List.mem_range.mp hk)
theorem ah_rd_some {α : Type} {g : ahH → Option α} {f : α → ahM ρ} {h : ahH} {z : ρ × Nat × Nat × ahC} (hs : ah_rd g f h = some z) : ∃ a, g h = some a ∧ f a h = some z := by
  unfold ah_rd at hs
  cases hg : g h with
  | none => rw [hg] at hs; cases hs
  | some a => rw [hg] at hs; exact ⟨a, rfl, hs⟩
theorem ah_wr_some {g : ahH → Option ahC} {f : ahM ρ} {h : ahH} {z : ρ × Nat × Nat × ahC} (hs : ah_wr g f h = some z) : ∃ c, g h = some c ∧ f (h.1, h.2.1, c) = some z := by
  unfold ah_wr at hs
  cases hg : g h with
  | none => rw [hg] at hs; cases hs
  | some a => rw [hg] at hs; exact ⟨a, rfl, hs⟩
theorem ah_bnd_some {α : Type} {g : ahM α} {f : α → ahM ρ} {h : ahH} {r : ρ} {n u : Nat} {c : ahC} (hs : ah_bnd g f h = some (r, n, u, c)) : ∃ a n1 u1 c1 n2 u2, g h = some (a, n1, u1, c1) ∧ f a (ah_nx h n1 u1 c1) = some (r, n2, u2, c) ∧ n = n1 + n2 ∧ u = u1 + u2 := by
  unfold ah_bnd at hs
  cases hg : g h with
  | none => rw [hg] at hs; cases hs
  | some z =>
    obtain ⟨a, n1, u1, c1⟩ := z
    rw [hg] at hs
    dsimp only at hs
    cases hf : f a (ah_nx h n1 u1 c1) with
    | none => rw [hf] at hs; cases hs
    | some y =>
      obtain ⟨b, n2, u2, c2⟩ := y
      rw [hf] at hs
      cases hs
      exact ⟨a, n1, u1, c1, n2, u2, rfl, hf, rfl, rfl⟩
theorem ah_gI_some {ci : Nat} {r : Option Nat} {k : Nat} {h : ahH} {x : Int32} (e : ah_gI ci r k h = some x) : ∃ a, r = some a ∧ ah_kd h a = ci + 1 ∧ x = ah_I h a k := by
  cases r with
  | none => cases e
  | some a =>
    unfold ah_gI at e
    dsimp only at e
    split at e
    next hk => cases e; exact ⟨a, rfl, hk, rfl⟩
    next => cases e
theorem ah_gR_some {ci : Nat} {r : Option Nat} {k : Nat} {h : ahH} {x : Option Nat} (e : ah_gR ci r k h = some x) : ∃ a, r = some a ∧ ah_kd h a = ci + 1 ∧ x = ah_P h a k := by
  cases r with
  | none => cases e
  | some a =>
    unfold ah_gR at e
    dsimp only at e
    split at e
    next hk => cases e; exact ⟨a, rfl, hk, rfl⟩
    next => cases e
theorem ah_getV (C : ah_Cx E X cc nL own F L) {ci k idx a : Nat} {q : vw_C} (hq : pg_cls[ci]? = some q) (hk : k < q.2.2) (hl : ah_LF own idx q k) (hd : decode cc pc = .ok (.getfield idx, 3)) {h : ahH} (hkd : ah_kd h a = ci + 1) {H : Heap} {locs : List Loc} {ls : Array Slot} {cells slots : Nat} {Q : State → Prop} (hR : ah_Rel E h H)
    (kk : ah_W X H locs cells slots Q (F0 (ax_m X) (pc + 3) ls (ah_fv (ah_isR ci k) (ah_I h a k) (ah_P h a k) :: st))) : ah_W X H locs cells slots Q (F0 (ax_m X) pc ls (.ref a :: st)) := by
  obtain ⟨hx, hb, -, hown, hts, hK, -, -⟩ := C
  obtain ⟨-, hin, -⟩ := pg_ok ci q hq
  obtain ⟨cell, q1, q2, q3, q4⟩ := (hR.2.2.2.2 a).1 ci q hkd hq
  obtain ⟨hS, hfc, kC, hkC, hkind⟩ := hK.1 ci q hq
  obtain ⟨cf, kf, fi, fd, hi, hsl⟩ := hS k hk
  have hst := (u_facts hfc hkC (u_lays hts (ah_uws hin) hk) hi).1
  rcases hl with hl | ⟨host, hl⟩
  · refine W.getf hx hb hown (hts _ hl) hi hst q1 (by rw [q3]; exact fun h => by cases h) (v := ah_fv (ah_isR ci k) (ah_I h a k) (ah_P h a k)) ?_ rfl rfl hd kk
    rw [hsl]
    exact q4 k hk
  · refine va_Wgetf hx hb hown (va_Nw.use rfl (hK.2.2.1 _ hl)) hi hst q1 (by rw [q3]; exact fun h => by cases h) (v := ah_fv (ah_isR ci k) (ah_I h a k) (ah_P h a k)) ?_ rfl rfl hd kk
    rw [hsl]
    exact q4 k hk
theorem ah_getI (C : ah_Cx E X cc nL own F L) {ci k idx : Nat} {q : vw_C} {r : Option Nat} {f : Int32 → ahM ρ} (hq : pg_cls[ci]? = some q) (hk : k < q.2.2) (hR : ah_isR ci k = false) (hl : ah_LF own idx q k) (hd : decode cc pc = .ok (.getfield idx, 3)) (kk : ∀ x, ah_S E X Qf (pc + 3) lv (.int x :: st) (f x)) : ah_S E X Qf pc lv (va_rf r :: st) (ah_rd (ah_gI ci r k) f) := by
  intro h r0 n u c hs H locs ls cells slots h1 h2 h3 h4 h5
  obtain ⟨x, e1, e2⟩ := ah_rd_some hs
  obtain ⟨a, rfl, hkd, rfl⟩ := ah_gI_some e1
  refine ah_getV C hq hk hl hd hkd h1 ?_
  rw [hR]
  exact kk _ h r0 n u c e2 H locs ls cells slots h1 h2 h3 h4 h5
theorem ah_getR (C : ah_Cx E X cc nL own F L) {ci k idx : Nat} {q : vw_C} {r : Option Nat} {f : Option Nat → ahM ρ} (hq : pg_cls[ci]? = some q) (hk : k < q.2.2) (hR : ah_isR ci k = true) (hl : ah_LF own idx q k) (hd : decode cc pc = .ok (.getfield idx, 3)) (kk : ∀ x, ah_S E X Qf (pc + 3) lv (va_rf x :: st) (f x)) : ah_S E X Qf pc lv (va_rf r :: st) (ah_rd (ah_gR ci r k) f) := by
  intro h r0 n u c hs H locs ls cells slots h1 h2 h3 h4 h5
  obtain ⟨x, e1, e2⟩ := ah_rd_some hs
  obtain ⟨a, rfl, hkd, rfl⟩ := ah_gR_some e1
  refine ah_getV C hq hk hl hd hkd h1 ?_
  rw [hR]
  exact kk _ h r0 n u c e2 H locs ls cells slots h1 h2 h3 h4 h5
theorem ah_apart {s : State} {args : Array Value} {ci : Nat} {q : vw_C} (hq : pg_cls[ci]? = some q) (hts : ∀ w ∈ pg_T, w.before args s = true) (hK : ah_K E s) : ∀ x y, x < q.2.2 → y < q.2.2 → x ≠ y → ae_I E ci x ≠ ae_I E ci y := by
  intro x y hx hy hne
  obtain ⟨-, hin, hty, hnm, -⟩ := pg_ok ci q hq
  obtain ⟨hS, -⟩ := hK.1 ci q hq
  obtain ⟨_, _, _, fa, hia, ea⟩ := hS x hx
  obtain ⟨_, _, _, fb, hib, eb⟩ := hS y hy
  rw [← ea, ← eb]
  refine u_apart (u_lays hts (ah_uws hin) hx) (u_lays hts (ah_uws hin) hy) hia hib ?_
  rw [(State.fieldFound?_type hia (hty x hx)).1, (State.fieldFound?_type hib (hty y hy)).1]
  exact hnm x hx y hy hne
theorem ah_putV (C : ah_Cx E X cc nL own F L) {ci k idx a : Nat} {q : vw_C} (hq : pg_cls[ci]? = some q) (hk : k < q.2.2) (hl : ah_LF own idx q k) (hfin : (q.2.1 k).2.2.2 = false ∨ ((q.2.1 k).2.2.2 = true ∧ (ax_M X).name = "<init>" ∧ (q.2.1 k).1 = own ∧ Cond.fieldLink own idx (q.2.1 k).1 (q.2.1 k).2.1 (q.2.1 k).2.2.1 ∈ pg_T)) {v : Value} (hn : narrow (ah_ty ci k) v = v) (hfit : fits (ah_ty ci k) v = true) (hd : decode cc pc = .ok (.putfield idx, 3)) {h : ahH} (hkd : ah_kd h a = ci + 1) {I1 : Nat → Nat → Int32} {P1 : Nat → Nat → Option Nat} (hI : ∀ b, b ≠ a → I1 b = ah_I h b) (hP : ∀ b, b ≠ a → P1 b = ah_P h b) (hV : ∀ j, j < q.2.2 → ah_fv (ah_isR ci j) (I1 a j) (P1 a j) = if j = k then v else ah_fv (ah_isR ci j) (ah_I h a j) (ah_P h a j)) {H : Heap} {locs : List Loc} {ls : Array Slot} {cells slots : Nat} {Q : State → Prop} (hR : ah_Rel E h H) (hlo : ∀ q ∈ locs, ae_B E ≤ q.base)
    (kk : ∀ (H1 : Heap) (locs1 : List Loc), ah_Rel E (h.1, h.2.1, h.2.2.1, I1, P1) H1 → (∀ q ∈ locs1, ae_B E ≤ q.base) → ah_W X H1 locs1 cells slots Q (F0 (ax_m X) (pc + 3) ls st)) : ah_W X H locs cells slots Q (F0 (ax_m X) pc ls (v :: .ref a :: st)) := by
  obtain ⟨hx, hb, -, hown, hts, hK, -, -⟩ := C
  have hap := ah_apart hq hts hK
  obtain ⟨hci, hin, hty, hnm, -⟩ := pg_ok ci q hq
  obtain ⟨cell, q1, q2, q3, q4⟩ := (hR.2.2.2.2 a).1 ci q hkd hq
  obtain ⟨hS, hfc, kC, hkC, hkind⟩ := hK.1 ci q hq
  obtain ⟨cf, kf, fi, fd, hi, hsl⟩ := hS k hk
  have hlay := hts _ (hin k hk)
  have hst := (u_facts hfc hkC (u_lays hts (ah_uws hin) hk) hi).1
  have hBa := hR.2.2.2.1 a (by omega) (by omega)
  have fin : ∀ H' : Heap, H'[a]? = some (cell.setSlot fd.slot v) → H'.size = H.size → (∀ q, q ≠ a → H'[q]? = H[q]?) → ah_W X H' (locs ++ [⟨a, fd.slot⟩]) cells slots Q (F0 (ax_m X) (pc + 3) ls st) := by
    intro H' e1 e2 e3
    rw [hsl] at e1 ⊢
    refine kk H' _ (hR.obj hci hkd hq e2 e3 hI hP (t_OB.to (V := updV (fun j => ah_fv (ah_isR ci j) (ah_I h a j) (ah_P h a j)) k v) ⟨_, e1, q2, q3, t_set q4 hap hk v⟩ (fun j hj => ?_))) (fun z hz => ?_)
    · show updV _ k v j = ah_fv (ah_isR ci j) (I1 a j) (P1 a j)
      rw [hV j hj]
      rfl
    · rcases List.mem_append.mp hz with hz | hz
      · exact hlo z hz
      · rw [List.mem_singleton.mp hz]
        exact hBa.1
  unfold u_lay at hlay
  rcases hfin with hfin | ⟨hfin, hin2, hdecl, hl2⟩
  · rw [if_neg (by rw [hfin]; decide)] at hlay
    have h6 := u_store hfc hkC hkind hlay hi (hty k hk) hn hfit
    rcases hl with hl | ⟨host, hl⟩
    · exact W.putK hx hb (f := fd) ⟨hown, hts _ hl, ⟨_, _, _, hi⟩, hst⟩ (by rw [q2]; exact h6) q1 q3 (by rw [hsl]; exact k2_hasslot (q4 k hk)) rfl rfl hd fin
    · exact va_WputK hx hb (f := fd) hown (va_Nw.use rfl (hK.2.2.1 _ hl)) hi hst (by rw [q2]; exact h6) q1 q3 (by rw [hsl]; exact k2_hasslot (q4 k hk)) rfl rfl hd fin
  · rw [if_pos hfin] at hlay
    have hcf : (ax_m X).cls = cf := by
      obtain ⟨_, _, c', _, _, _, -, -, hf', -, -, -, hown2, -⟩ := Cond.laysFinal_spec hlay
      have e1 : c' = cf := by have := hi.symm.trans hf'; simp at this; exact this.1.symm
      rw [hdecl] at hown2
      rw [← e1]; exact Option.some.inj (hown.symm.trans hown2)
    have h6 := u_fits hfc hkC hkind (Or.inr hlay) hi (hty k hk) hn hfit
    exact W.putFinK hx hb hown (hts _ hl2) hi hst hcf hin2 (by rw [q2]; exact h6) q1 q3 (by rw [hsl]; exact k2_hasslot (q4 k hk)) rfl rfl hd fin
def ah_Fin (X : ahX) (own : String) (idx : Nat) (q : vw_C) (k : Nat) : Prop := (q.2.1 k).2.2.2 = false ∨ ((q.2.1 k).2.2.2 = true ∧ (ax_M X).name = "<init>" ∧ (q.2.1 k).1 = own ∧ Cond.fieldLink own idx (q.2.1 k).1 (q.2.1 k).2.1 (q.2.1 k).2.2.1 ∈ pg_T)
theorem ah_putI (C : ah_Cx E X cc nL own F L) {ci k idx : Nat} {q : vw_C} {r : Option Nat} {x : Int32} {f : ahM ρ} (hq : pg_cls[ci]? = some q) (hk : k < q.2.2) (hR : ah_isR ci k = false) (hl : ah_LF own idx q k) (hfin : ah_Fin X own idx q k) (hn : narrow (ah_ty ci k) (.int x) = .int x) (hfit : fits (ah_ty ci k) (.int x) = true) (hd : decode cc pc = .ok (.putfield idx, 3)) (kk : ah_S E X Qf (pc + 3) lv st f) : ah_S E X Qf pc lv (.int x :: va_rf r :: st) (ah_wr (ah_pI ci r k x) f) := by
  intro h r0 n u c hs H locs ls cells slots h1 h2 h3 h4 h5
  obtain ⟨c1, e1, e2⟩ := ah_wr_some hs
  cases r with
  | none => cases e1
  | some a =>
    unfold ah_pI at e1
    dsimp only at e1
    split at e1
    next hkd =>
      cases e1
      refine ah_putV C hq hk hl hfin hn hfit hd hkd (I1 := ah_u2 (ah_I h) a k x) (P1 := ah_P h) (fun b hb => ?_) (fun _ _ => rfl) (fun j hj => ?_) h1 h2 (fun H1 locs1 g1 g2 => ?_)
      · funext j
        simp [ah_u2, hb]
      · by_cases hjk : j = k
        · subst hjk
          rw [if_pos rfl, hR]
          simp [ah_fv, ah_u2]
        · rw [if_neg hjk]
          simp [ah_u2, hjk]
      · exact kk _ r0 n u c e2 H1 locs1 ls cells slots g1 g2 h3 h4 h5
    next => cases e1
theorem ah_putR (C : ah_Cx E X cc nL own F L) {ci k idx : Nat} {q : vw_C} {r x : Option Nat} {f : ahM ρ} (hq : pg_cls[ci]? = some q) (hk : k < q.2.2) (hR : ah_isR ci k = true) (hl : ah_LF own idx q k) (hfin : ah_Fin X own idx q k) (hn : ∀ y, narrow (ah_ty ci k) (va_rf y) = va_rf y) (hfit : ∀ y, fits (ah_ty ci k) (va_rf y) = true) (hd : decode cc pc = .ok (.putfield idx, 3)) (kk : ah_S E X Qf (pc + 3) lv st f) : ah_S E X Qf pc lv (va_rf x :: va_rf r :: st) (ah_wr (ah_pR ci r k x) f) := by
  intro h r0 n u c hs H locs ls cells slots h1 h2 h3 h4 h5
  obtain ⟨c1, e1, e2⟩ := ah_wr_some hs
  cases r with
  | none => cases e1
  | some a =>
    unfold ah_pR at e1
    dsimp only at e1
    split at e1
    next hkd =>
      cases e1
      refine ah_putV C hq hk hl hfin (hn x) (hfit x) hd hkd (I1 := ah_I h) (P1 := ah_u2 (ah_P h) a k x) (fun _ _ => rfl) (fun b hb => ?_) (fun j hj => ?_) h1 h2 (fun H1 locs1 g1 g2 => ?_)
      · funext j
        simp [ah_u2, hb]
      · by_cases hjk : j = k
        · subst hjk
          rw [if_pos rfl, hR]
          simp [ah_fv, ah_u2]
        · rw [if_neg hjk]
          simp [ah_u2, hjk]
      · exact kk _ r0 n u c e2 H1 locs1 ls cells slots g1 g2 h3 h4 h5
    next => cases e1
theorem ah_jlt {j : Nat} {ty : FieldType} (h : pg_aty[j]? = some ty) : j < 100 := Nat.lt_of_lt_of_le (List.getElem?_eq_some_iff.mp h).1 pg_aty_len
theorem ah_cls98 (ci : Nat) (q : vw_C) (h : pg_cls[ci]? = some q) : ci < 98 := (pg_ok ci q h).1
theorem ah_aI_some {j : Nat} {r : Option Nat} {i : Int32} {h : ahH} {x : Int32} (e : ah_aI j r i h = some x) : ∃ a, r = some a ∧ (ah_kd h a = 100 + j ∨ (j = 0 ∧ ah_kd h a = 99)) ∧ vp_in i (ah_ln h a) ∧ x = ah_I h a i.toNatClampNeg := by
  cases r with
  | none => cases e
  | some a =>
    unfold ah_aI at e
    dsimp only at e
    split at e
    next hk => cases e; exact ⟨a, rfl, hk.1, ah_in_iff.mp hk.2, rfl⟩
    next => cases e
theorem ah_iaload (C : ah_Cx E X cc nL own F L) {r : Option Nat} {i : Int32} {f : Int32 → ahM ρ} (hj : pg_aty[0]? = some .int) (hR : ah_aRf 0 = false) (hd : decode cc pc = .ok (.iaload, 1)) (kk : ∀ x, ah_S E X Qf (pc + 1) lv (.int x :: st) (f x)) : ah_S E X Qf pc lv (.int i :: va_rf r :: st) (ah_rd (ah_aI 0 r i) f) := by
  intro h r0 n u c hs H locs ls cells slots h1 h2 h3 h4 h5
  obtain ⟨x, e1, e2⟩ := ah_rd_some hs
  obtain ⟨a, rfl, hkd, hin, rfl⟩ := ah_aI_some e1
  obtain ⟨hx, hb, -, hown, hts, hK, -, -⟩ := C
  have hlt : i.toNatClampNeg < ah_ln h a := Nat.not_le.mp fun q => hin (Or.inr q)
  have k2 := kk _ h r0 n u c e2 H locs ls cells slots h1 h2 h3 h4 h5
  rcases hkd with hkd | ⟨-, hkd⟩
  · have hc := (h1.2.2.2.2 a).2.1 0 hkd (by decide)
    refine W.iald (v := .int (ah_I h a i.toNatClampNeg)) hx hb hc ((hK.2.1 0 _ hj).1 _ _) (fun q => by cases q) (by show ¬ (i < 0 ∨ (arrV _ _ _).slots.size ≤ _); rw [arrV_size]; exact hin) ?_ rfl rfl hd k2
    show (arrV _ _ _).slots[_]? = _
    rw [arrV_read _ _ hlt, hR]
    rfl
  · obtain ⟨g1, g2, g3⟩ := (h1.2.2.2.2 a).2.2.1 hkd
    obtain ⟨scr, x1, x2, x3, x4, x5⟩ := hK.2.2.2.1
    subst g1
    rw [g2] at hin hlt
    refine W.iald (v := .int (ah_I h (ae_b E) i.toNatClampNeg)) hx hb (by rw [h1.2.2.1 _ hK.2.2.2.2.1]; exact x1) x2 x3 (by rw [x4]; exact hin) ?_ rfl rfl hd k2
    rw [x5 _ hlt, g3 _ hlt]
theorem ah_caload (C : ah_Cx E X cc nL own F L) {j : Nat} {r : Option Nat} {i : Int32} {f : Int32 → ahM ρ} (h0 : ¬ j = 0) (hj : pg_aty[j]? = some .char) (hR : ah_aRf j = false) (hd : decode cc pc = .ok (.caload, 1)) (kk : ∀ x, ah_S E X Qf (pc + 1) lv (.int x :: st) (f x)) : ah_S E X Qf pc lv (.int i :: va_rf r :: st) (ah_rd (ah_aI j r i) f) := by
  intro h r0 n u c hs H locs ls cells slots h1 h2 h3 h4 h5
  obtain ⟨x, e1, e2⟩ := ah_rd_some hs
  obtain ⟨a, rfl, hkd, hin, rfl⟩ := ah_aI_some e1
  obtain ⟨hx, hb, -, hown, hts, hK, -, -⟩ := C
  have hlt : i.toNatClampNeg < ah_ln h a := Nat.not_le.mp fun q => hin (Or.inr q)
  have k2 := kk _ h r0 n u c e2 H locs ls cells slots h1 h2 h3 h4 h5
  rcases hkd with hkd | ⟨z, -⟩
  · have hc := (h1.2.2.2.2 a).2.1 j hkd (ah_jlt hj)
    refine W.cald (v := .int (ah_I h a i.toNatClampNeg)) hx hb hc ((hK.2.1 j _ hj).1 _ _) (fun q => by cases q) (by show ¬ (i < 0 ∨ (arrV _ _ _).slots.size ≤ _); rw [arrV_size]; exact hin) ?_ rfl rfl hd k2
    show (arrV _ _ _).slots[_]? = _
    rw [arrV_read _ _ hlt, hR]
    rfl
  · exact absurd z h0
theorem ah_zaload (C : ah_Cx E X cc nL own F L) {j : Nat} {r : Option Nat} {i : Int32} {f : Int32 → ahM ρ} (h0 : ¬ j = 0) (hj : pg_aty[j]? = some .boolean) (hR : ah_aRf j = false) (hd : decode cc pc = .ok (.baload, 1)) (kk : ∀ x, ah_S E X Qf (pc + 1) lv (.int x :: st) (f x)) : ah_S E X Qf pc lv (.int i :: va_rf r :: st) (ah_rd (ah_aI j r i) f) := by
  intro h r0 n u c hs H locs ls cells slots h1 h2 h3 h4 h5
  obtain ⟨x, e1, e2⟩ := ah_rd_some hs
  obtain ⟨a, rfl, hkd, hin, rfl⟩ := ah_aI_some e1
  obtain ⟨hx, hb, -, hown, hts, hK, -, -⟩ := C
  have hlt : i.toNatClampNeg < ah_ln h a := Nat.not_le.mp fun q => hin (Or.inr q)
  have k2 := kk _ h r0 n u c e2 H locs ls cells slots h1 h2 h3 h4 h5
  rcases hkd with hkd | ⟨z, -⟩
  · have hc := (h1.2.2.2.2 a).2.1 j hkd (ah_jlt hj)
    refine W.zald (v := .int (ah_I h a i.toNatClampNeg)) hx hb hc ((hK.2.1 j _ hj).1 _ _) (fun q => by cases q) (by show ¬ (i < 0 ∨ (arrV _ _ _).slots.size ≤ _); rw [arrV_size]; exact hin) ?_ rfl rfl hd k2
    show (arrV _ _ _).slots[_]? = _
    rw [arrV_read _ _ hlt, hR]
    rfl
  · exact absurd z h0
theorem ah_aaload (C : ah_Cx E X cc nL own F L) {j : Nat} {ty : FieldType} {r : Option Nat} {i : Int32} {f : Option Nat → ahM ρ} (hj : pg_aty[j]? = some ty) (hty : ty.isReference = true) (hR : ah_aRf j = true) (hd : decode cc pc = .ok (.aaload, 1)) (kk : ∀ x, ah_S E X Qf (pc + 1) lv (va_rf x :: st) (f x)) : ah_S E X Qf pc lv (.int i :: va_rf r :: st) (ah_rd (ah_aR j r i) f) := by
  intro h r0 n u c hs H locs ls cells slots h1 h2 h3 h4 h5
  obtain ⟨x, e1, e2⟩ := ah_rd_some hs
  cases r with
  | none => cases e1
  | some a =>
    unfold ah_aR at e1
    dsimp only at e1
    split at e1
    next hk0 =>
      obtain ⟨hkd, hin⟩ := hk0
      have hin := ah_in_iff.mp hin
      cases e1
      obtain ⟨hx, hb, -, hown, hts, hK, -, -⟩ := C
      have hlt : i.toNatClampNeg < ah_ln h a := Nat.not_le.mp fun q => hin (Or.inr q)
      have hc := (h1.2.2.2.2 a).2.1 j hkd (ah_jlt hj)
      refine W.aald (v := va_rf (ah_P h a i.toNatClampNeg)) (ty := ty) hx hb hc ((hK.2.1 j _ hj).1 _ _) hty (fun q => by cases q) (by show ¬ (i < 0 ∨ (arrV _ _ _).slots.size ≤ _); rw [arrV_size]; exact hin) ?_ rfl rfl hd (kk _ h r0 n u c e2 H locs ls cells slots h1 h2 h3 h4 h5)
      show (arrV _ _ _).slots[_]? = _
      rw [arrV_read _ _ hlt, hR]
      rfl
    next => cases e1
theorem ah_stored {j a i : Nat} (hj1 : j < 100) {v : Value} {h : ahH} {H : Heap} {locs : List Loc} (hR : ah_Rel E h H) (hlo : ∀ q ∈ locs, ae_B E ≤ q.base) (hkd : ah_kd h a = 100 + j) {I1 : Nat → Nat → Int32} {P1 : Nat → Nat → Option Nat} (hI : ∀ b, b ≠ a → I1 b = ah_I h b) (hP : ∀ b, b ≠ a → P1 b = ah_P h b) (hV : ∀ k, ah_fv (ah_aRf j) (I1 a k) (P1 a k) = if k = i then v else ah_fv (ah_aRf j) (ah_I h a k) (ah_P h a k))
    {H1 : Heap} (e1 : H1[a]? = some ((arrV (ae_A E j) (ah_ln h a) (fun k => ah_fv (ah_aRf j) (ah_I h a k) (ah_P h a k))).setSlot i v)) (e2 : H1.size = H.size) (e3 : ∀ q, q ≠ a → H1[q]? = H[q]?) : ah_Rel E (h.1, h.2.1, h.2.2.1, I1, P1) H1 ∧ ∀ q ∈ locs ++ [⟨a, i⟩], ae_B E ≤ q.base := by
  have hBa := hR.2.2.2.1 a (by omega) (by omega)
  refine ⟨hR.arr hkd hj1 e2 e3 hI hP ?_ ah_cls98, fun z hz => ?_⟩
  · rw [e1, arrV_store]
    congr 2
    funext k
    rw [hV k]
    rfl
  · rcases List.mem_append.mp hz with hz | hz
    · exact hlo z hz
    · rw [List.mem_singleton.mp hz]
      exact hBa.1
theorem ah_sI_some {j : Nat} {r : Option Nat} {i x : Int32} {h : ahH} {c1 : ahC} (e : ah_sI j r i x h = some c1) : ∃ a, r = some a ∧ ah_kd h a = 100 + j ∧ vp_in i (ah_ln h a) ∧ c1 = (h.2.2.1, ah_u2 (ah_I h) a i.toNatClampNeg x, ah_P h) := by
  cases r with
  | none => cases e
  | some a =>
    unfold ah_sI at e
    dsimp only at e
    split at e
    next hk => cases e; exact ⟨a, rfl, hk.1, ah_in_iff.mp hk.2, rfl⟩
    next => cases e
theorem ah_u2_ne {α : Type} {g : Nat → Nat → α} {a k : Nat} {x : α} (b : Nat) (hb : b ≠ a) : ah_u2 g a k x b = g b := by
  funext j
  simp [ah_u2, hb]
theorem ah_u2_I {j a k : Nat} {x : Int32} {h : ahH} (hR : ah_aRf j = false) (i : Nat) : ah_fv (ah_aRf j) (ah_u2 (ah_I h) a k x a i) (ah_P h a i) = if i = k then .int x else ah_fv (ah_aRf j) (ah_I h a i) (ah_P h a i) := by
  by_cases e : i = k
  · subst e
    rw [if_pos rfl, hR]
    simp [ah_fv, ah_u2]
  · rw [if_neg e]
    simp [ah_u2, e]
theorem ah_u2_P {j a k : Nat} {x : Option Nat} {h : ahH} (hR : ah_aRf j = true) (i : Nat) : ah_fv (ah_aRf j) (ah_I h a i) (ah_u2 (ah_P h) a k x a i) = if i = k then va_rf x else ah_fv (ah_aRf j) (ah_I h a i) (ah_P h a i) := by
  by_cases e : i = k
  · subst e
    rw [if_pos rfl, hR]
    simp [ah_fv, ah_u2]
  · rw [if_neg e]
    simp [ah_u2, e]
theorem ah_iastore (C : ah_Cx E X cc nL own F L) {r : Option Nat} {i x : Int32} {f : ahM ρ} (hj : pg_aty[0]? = some .int) (hR : ah_aRf 0 = false) (hd : decode cc pc = .ok (.iastore, 1)) (kk : ah_S E X Qf (pc + 1) lv st f) : ah_S E X Qf pc lv (.int x :: .int i :: va_rf r :: st) (ah_wr (ah_sI 0 r i x) f) := by
  intro h r0 n u c hs H locs ls cells slots h1 h2 h3 h4 h5
  obtain ⟨c1, e1, e2⟩ := ah_wr_some hs
  obtain ⟨a, rfl, hkd, hin, rfl⟩ := ah_sI_some e1
  obtain ⟨hx, hb, -, hown, hts, hK, -, -⟩ := C
  have hc := (h1.2.2.2.2 a).2.1 0 hkd (by decide)
  refine W.iast hx hb hc ((hK.2.1 0 _ hj).1 _ _) (fun q => by cases q) (by show ¬ (i < 0 ∨ (arrV _ _ _).slots.size ≤ _); rw [arrV_size]; exact hin) rfl rfl hd (fun H1 g1 g2 g3 => ?_)
  obtain ⟨w1, w2⟩ := ah_stored (by decide) h1 h2 hkd (I1 := ah_u2 (ah_I h) a i.toNatClampNeg x) (P1 := ah_P h) (fun b hb => ah_u2_ne b hb) (fun _ _ => rfl) (ah_u2_I hR) g1 g2 g3
  exact kk _ r0 n u c e2 H1 _ ls cells slots w1 w2 h3 h4 h5
theorem ah_castore (C : ah_Cx E X cc nL own F L) {j : Nat} {r : Option Nat} {i x : Int32} {f : ahM ρ} (hj : pg_aty[j]? = some .char) (hR : ah_aRf j = false) (hd : decode cc pc = .ok (.castore, 1)) (kk : ah_S E X Qf (pc + 1) lv st f) : ah_S E X Qf pc lv (.int x :: .int i :: va_rf r :: st) (ah_wr (ah_sI j r i (vp_nar .char x)) f) := by
  intro h r0 n u c hs H locs ls cells slots h1 h2 h3 h4 h5
  obtain ⟨c1, e1, e2⟩ := ah_wr_some hs
  obtain ⟨a, rfl, hkd, hin, rfl⟩ := ah_sI_some e1
  obtain ⟨hx, hb, -, hown, hts, hK, -, -⟩ := C
  have hc := (h1.2.2.2.2 a).2.1 j hkd (ah_jlt hj)
  refine W.cast hx hb hc ((hK.2.1 j _ hj).1 _ _) (fun q => by cases q) (by show ¬ (i < 0 ∨ (arrV _ _ _).slots.size ≤ _); rw [arrV_size]; exact hin) rfl rfl hd (fun H1 g1 g2 g3 => ?_)
  obtain ⟨w1, w2⟩ := ah_stored (ah_jlt hj) (v := .int (vp_nar .char x)) h1 h2 hkd (I1 := ah_u2 (ah_I h) a i.toNatClampNeg (vp_nar .char x)) (P1 := ah_P h) (fun b hb => ah_u2_ne b hb) (fun _ _ => rfl) (ah_u2_I hR) g1 g2 g3
  exact kk _ r0 n u c e2 H1 _ ls cells slots w1 w2 h3 h4 h5
theorem ah_zastore (C : ah_Cx E X cc nL own F L) {j : Nat} {r : Option Nat} {i x : Int32} {f : ahM ρ} (hj : pg_aty[j]? = some .boolean) (hR : ah_aRf j = false) (hd : decode cc pc = .ok (.bastore, 1)) (kk : ah_S E X Qf (pc + 1) lv st f) : ah_S E X Qf pc lv (.int x :: .int i :: va_rf r :: st) (ah_wr (ah_sI j r i (vp_nar .boolean x)) f) := by
  intro h r0 n u c hs H locs ls cells slots h1 h2 h3 h4 h5
  obtain ⟨c1, e1, e2⟩ := ah_wr_some hs
  obtain ⟨a, rfl, hkd, hin, rfl⟩ := ah_sI_some e1
  obtain ⟨hx, hb, -, hown, hts, hK, -, -⟩ := C
  have hc := (h1.2.2.2.2 a).2.1 j hkd (ah_jlt hj)
  refine W.zast hx hb hc ((hK.2.1 j _ hj).1 _ _) (fun q => by cases q) (by show ¬ (i < 0 ∨ (arrV _ _ _).slots.size ≤ _); rw [arrV_size]; exact hin) rfl rfl hd (fun H1 g1 g2 g3 => ?_)
  obtain ⟨w1, w2⟩ := ah_stored (ah_jlt hj) (v := .int (vp_nar .boolean x)) h1 h2 hkd (I1 := ah_u2 (ah_I h) a i.toNatClampNeg (vp_nar .boolean x)) (P1 := ah_P h) (fun b hb => ah_u2_ne b hb) (fun _ _ => rfl) (ah_u2_I hR) g1 g2 g3
  exact kk _ r0 n u c e2 H1 _ ls cells slots w1 w2 h3 h4 h5
theorem ah_aastore (C : ah_Cx E X cc nL own F L) {j ci : Nat} {q : vw_C} {r x : Option Nat} {i : Int32} {f : ahM ρ} (hq : pg_cls[ci]? = some q) (hj : pg_aty[j]? = some (.object q.1)) (hR : ah_aRf j = true) (hd : decode cc pc = .ok (.aastore, 1)) (kk : ah_S E X Qf (pc + 1) lv st f) : ah_S E X Qf pc lv (va_rf x :: .int i :: va_rf r :: st) (ah_wr (ah_sR j ci r i x) f) := by
  intro h r0 n u c hs H locs ls cells slots h1 h2 h3 h4 h5
  obtain ⟨c1, e1, e2⟩ := ah_wr_some hs
  cases r with
  | none => cases e1
  | some a =>
    unfold ah_sR at e1
    dsimp only at e1
    split at e1
    next hk0 =>
      obtain ⟨hkd, hin, hkx⟩ := hk0
      have hin := ah_in_iff.mp hin
      cases e1
      obtain ⟨hx, hb, -, hown, hts, hK, -, -⟩ := C
      have hlt : i.toNatClampNeg < ah_ln h a := Nat.not_le.mp fun q => hin (Or.inr q)
      have h0 : ¬ i < 0 := fun q => hin (Or.inl q)
      have hc := (h1.2.2.2.2 a).2.1 j hkd (ah_jlt hj)
      cases x with
      | none =>
        refine va_WaastN (C := q.1) hx hb hc ((hK.2.1 j _ hj).1 _ _) (fun h => by cases h) (by show ¬ (i < 0 ∨ (arrV _ _ _).slots.size ≤ _); rw [arrV_size]; exact hin) rfl rfl hd (fun H1 g1 g2 g3 => ?_)
        obtain ⟨w1, w2⟩ := ah_stored (ah_jlt hj) (v := .null) h1 h2 hkd (I1 := ah_I h) (P1 := ah_u2 (ah_P h) a i.toNatClampNeg none) (fun _ _ => rfl) (fun b hb => ah_u2_ne b hb) (ah_u2_P hR) g1 g2 g3
        exact kk _ r0 n u c e2 H1 _ ls cells slots w1 w2 h3 h4 h5
      | some b =>
        have hkb : ah_kd h b = ci + 1 := by simpa [ah_isK] using hkx
        obtain ⟨cellV, g1, g2, g3, -⟩ := (h1.2.2.2.2 b).1 ci q hkb hq
        have hcls := (hK.1 ci q hq).2
        obtain ⟨kA, comp, k1, k2, k3, -⟩ := (hK.2.1 j _ hj).2
        have hcomp : comp = ae_C E ci := Option.some.inj (k3.symm.trans hcls.1)
        subst hcomp
        obtain ⟨kC, hkC, -⟩ := hcls.2
        refine W.aast hx hb hc (fun q h => by cases h) (fun h => by cases h) k1 k2 rfl hkC ⟨h0, by show _ < (arrV _ _ _).slots.size; rw [arrV_size]; exact hlt⟩ g1 (fun q h => by rw [g3] at h; cases h) (by rw [g2]; exact hkC) (by rw [g2]; exact va_assign hcls) rfl rfl hd (fun H1 y1 y2 y3 => ?_)
        obtain ⟨w1, w2⟩ := ah_stored (ah_jlt hj) (v := .ref b) h1 h2 hkd (I1 := ah_I h) (P1 := ah_u2 (ah_P h) a i.toNatClampNeg (some b)) (fun _ _ => rfl) (fun b hb => ah_u2_ne b hb) (ah_u2_P hR) y1 y2 y3
        exact kk _ r0 n u c e2 H1 _ ls cells slots w1 w2 h3 h4 h5
    next => cases e1
theorem ah_alen (C : ah_Cx E X cc nL own F L) {j : Nat} {ty : FieldType} {r : Option Nat} {f : Int32 → ahM ρ} (hj : pg_aty[j]? = some ty) (hd : decode cc pc = .ok (.arraylength, 1)) (kk : ∀ x, ah_S E X Qf (pc + 1) lv (.int x :: st) (f x)) : ah_S E X Qf pc lv (va_rf r :: st) (ah_rd (ah_al j r) f) := by
  intro h r0 n u c hs H locs ls cells slots h1 h2 h3 h4 h5
  obtain ⟨x, e1, e2⟩ := ah_rd_some hs
  obtain ⟨hx, hb, -, hown, hts, hK, -, -⟩ := C
  cases r with
  | none => cases e1
  | some a =>
    unfold ah_al at e1
    dsimp only at e1
    split at e1
    next hk0 =>
      cases e1
      have k2 := kk _ h r0 n u c e2 H locs ls cells slots h1 h2 h3 h4 h5
      rcases hk0 with hkd | ⟨-, hkd⟩
      · have hc := (h1.2.2.2.2 a).2.1 j hkd (ah_jlt hj)
        exact W.alen (n := Int32.ofNat (ah_ln h a)) hx hb hc ((hK.2.1 j _ hj).1 _ _) (by rw [arrV_size]) rfl rfl hd k2
      · obtain ⟨g1, g2, g3⟩ := (h1.2.2.2.2 a).2.2.1 hkd
        obtain ⟨scr, x1, x2, x3, x4, x5⟩ := hK.2.2.2.1
        subst g1
        exact W.alen (n := Int32.ofNat (ah_ln h (ae_b E))) hx hb (by rw [h1.2.2.1 _ hK.2.2.2.2.1]; exact x1) x2 (by rw [x4, g2]) rfl rfl hd k2
    next => cases e1
theorem ah_newO (C : ah_Cx E X cc nL own F L) {ci idx : Nat} {q : vw_C} {f : Option Nat → ahM ρ} (hq : pg_cls[ci]? = some q) (hl : Cond.classLink own idx q.1 ∈ pg_T) (hi : Cond.instantiable q.1 q.2.2 ∈ pg_T) (hini : Cond.initialized q.1 ∈ pg_T) (hd : decode cc pc = .ok (.new idx, 3)) (kk : ∀ x, ah_S E X Qf (pc + 3) lv (va_rf x :: st) (f x)) : ah_S E X Qf pc lv st (ah_bnd (ah_new ci q.2.2) f) := by
  intro h r0 n u c hs H locs ls cells slots h1 h2 h3 h4 h5
  obtain ⟨a, n1, u1, c1, n2, u2, e1, e2, rfl, rfl⟩ := ah_bnd_some hs
  cases e1
  obtain ⟨hx, hb, -, hown, hts, hK, -, -⟩ := C
  obtain ⟨hci, hin, hty, -, hdef⟩ := pg_ok ci q hq
  have hKn := hK.1 ci q hq
  have hsz : H.size = h.1 := h1.1
  refine W.newcK hx hb hown (hts _ hl) (hts _ hi) (hts _ hini) rfl hd (by omega) (by omega) hKn.2.1 hsz (fun H1 kC hkC y1 z1 o1 => ?_)
  have hb1 := (u_born (ah_ty ci) hts (ah_uws hin) hKn hkC y1 hty).to (fun k hk => hdef k hk)
  have w1 := h1.born (kd := ci + 1) (n := q.2.2) (u := q.2.2) (iv := fun _ => 0) (pv := fun _ => none) (by omega) z1 o1 (fun ci' q' g1 g2 => by
    have e3 : ci' = ci := by omega
    subst e3
    cases hq.symm.trans g2
    exact hb1) (fun j g1 _ => by omega) (fun j g1 => by omega)
  have k2 := kk (some h.1) _ r0 n2 u2 c e2 H1 locs ls (cells + 1) (slots + q.2.2) w1 h2 h3 (by omega) (by omega)
  have e4 : ah_nx (ah_nx h 1 q.2.2 (va_up h.2.2.1 h.1 (ci + 1, q.2.2), va_up (ah_I h) h.1 (fun _ => 0), va_up (ah_P h) h.1 (fun _ => none))) n2 u2 c = ah_nx h (1 + n2) (q.2.2 + u2) c := by
    simp only [ah_nx, Nat.add_assoc]
  rw [e4] at k2
  exact k2
theorem ah_newA (C : ah_Cx E X cc nL own F L) {j : Nat} {atype : ArrayType} {x : Int32} {f : Option Nat → ahM ρ} (hj : pg_aty[j]? = some (newarray.typeOf atype)) (hR : ah_aRf j = false) (hw : Cond.arrayClass (newarray.typeOf atype) ∈ pg_T) (hz : defaultValue (newarray.typeOf atype) = .int 0) (hby : componentBytes (newarray.typeOf atype) ≤ 4) (hd : decode cc pc = .ok (.newarray atype, 2)) (kk : ∀ x, ah_S E X Qf (pc + 2) lv (va_rf x :: st) (f x)) : ah_S E X Qf pc lv (.int x :: st) (ah_bnd (ah_na j x) f) := by
  intro h r0 n u c hs H locs ls cells slots h1 h2 h3 h4 h5
  obtain ⟨a, n1, u1, c1, n2, u2, e1, e2, rfl, rfl⟩ := ah_bnd_some hs
  unfold ah_na at e1
  split at e1
  next hg =>
    obtain ⟨hn, hbig⟩ := hg
    cases e1
    obtain ⟨hx, hb, -, hown, hts, hK, -, -⟩ := C
    have hsz : H.size = h.1 := h1.1
    have hbb : x.toNatClampNeg * componentBytes (newarray.typeOf atype) ≤ 536870912 := by
      have := Nat.mul_le_mul hbig hby
      omega
    refine va_newaK hx hb (hts _ hw) rfl hd rfl hn rfl hbb (by omega) (by omega) hsz (fun H1 cA y1 z1 o1 hAr hNm => ?_)
    have hcA : cA = ae_A E j := by
      have h6 := (hK.2.1 j _ hj).2
      have h7 : (ax_s X).vm.findClass ("[" ++ (newarray.typeOf atype).toString) = some (ae_A E j) := by
        cases atype <;> exact h6
      exact Option.some.inj (hNm.symm.trans h7)
    subst hcA
    have w1 := h1.born (kd := 100 + j) (n := x.toNatClampNeg) (u := x.toNatClampNeg) (iv := fun _ => 0) (pv := fun _ => none) (by omega) z1 o1 (fun ci' q' g1 g2 => by
      have := ah_cls98 ci' q' g2
      omega) (fun j' g1 _ => by
      have e3 : j' = j := by omega
      subst e3
      rw [y1, hz, hR]
      rfl) (fun j' g1 => by have := ah_jlt hj; omega)
    have k2 := kk (some h.1) _ r0 n2 u2 c e2 H1 locs ls (cells + 1) (slots + x.toNatClampNeg) w1 h2 h3 (by omega) (by omega)
    have e4 : ah_nx (ah_nx h 1 x.toNatClampNeg (va_up h.2.2.1 h.1 (100 + j, x.toNatClampNeg), va_up (ah_I h) h.1 (fun _ => 0), va_up (ah_P h) h.1 (fun _ => none))) n2 u2 c = ah_nx h (1 + n2) (x.toNatClampNeg + u2) c := by
      simp only [ah_nx, Nat.add_assoc]
    rw [e4] at k2
    exact k2
  next => cases e1
theorem ah_newQ (C : ah_Cx E X cc nL own F L) {j idx : Nat} {nm : String} {x : Int32} {f : Option Nat → ahM ρ} (hj : pg_aty[j]? = some (.object nm)) (hR : ah_aRf j = true) (hl : Cond.classLink own idx nm ∈ pg_T) (hw : Cond.arrayOver (.object nm) ∈ pg_N) (hd : decode cc pc = .ok (.anewarray idx, 3)) (kk : ∀ x, ah_S E X Qf (pc + 3) lv (va_rf x :: st) (f x)) : ah_S E X Qf pc lv (.int x :: st) (ah_bnd (ah_na j x) f) := by
  intro h r0 n u c hs H locs ls cells slots h1 h2 h3 h4 h5
  obtain ⟨a, n1, u1, c1, n2, u2, e1, e2, rfl, rfl⟩ := ah_bnd_some hs
  unfold ah_na at e1
  split at e1
  next hg =>
    obtain ⟨hn, hbig⟩ := hg
    cases e1
    obtain ⟨hx, hb, -, hown, hts, hK, -, -⟩ := C
    have hsz : H.size = h.1 := h1.1
    refine W.anew hx hb hown (hts _ hl) (va_AO.use (hK.2.2.1 _ hw)) rfl hd rfl hn (by omega) (by omega) (by omega) (fun cA kA comp f1 f2 f3 f4 => ?_)
    generalize hH1 : H.push ({ cls := cA, slots := Array.replicate x.toNatClampNeg .null, vm := .none } : Cell) = H1
    have z1 : H1.size = h.1 + 1 := by rw [← hH1, Array.size_push, hsz]
    have y1 : H1[h.1]? = some (arrV cA x.toNatClampNeg (fun _ => .null)) := by rw [← hH1, ← hsz, Array.getElem?_push_size, ← arrV_new]
    have o1 : ∀ q : Nat, q < h.1 → H1[q]? = H[q]? := fun q hq => by rw [← hH1, Array.getElem?_push, if_neg (by omega)]
    have hcA : cA = ae_A E j := by
      obtain ⟨kA', comp', k1, k2, k3, k4⟩ := (hK.2.1 j _ hj).2
      exact Option.some.inj (f1.symm.trans k4)
    subst hcA
    have w1 := h1.born (kd := 100 + j) (n := x.toNatClampNeg) (u := x.toNatClampNeg) (iv := fun _ => 0) (pv := fun _ => none) (by omega) z1 o1 (fun ci' q' g1 g2 => by
      have := ah_cls98 ci' q' g2
      omega) (fun j' g1 _ => by
      have e3 : j' = j := by omega
      subst e3
      rw [y1, hR]
      rfl) (fun j' g1 => by have := ah_jlt hj; omega)
    have k2 := kk (some h.1) _ r0 n2 u2 c e2 H1 locs ls (cells + 1) (slots + x.toNatClampNeg) w1 h2 h3 (by omega) (by omega)
    have e4 : ah_nx (ah_nx h 1 x.toNatClampNeg (va_up h.2.2.1 h.1 (100 + j, x.toNatClampNeg), va_up (ah_I h) h.1 (fun _ => 0), va_up (ah_P h) h.1 (fun _ => none))) n2 u2 c = ah_nx h (1 + n2) (x.toNatClampNeg + u2) c := by
      simp only [ah_nx, Nat.add_assoc]
    rw [e4] at k2
    rw [hsz]
    exact k2
  next => cases e1
theorem ah_cast (C : ah_Cx E X cc nL own F L) {ci idx : Nat} {q : vw_C} {r : Option Nat} {f : Option Nat → ahM ρ} (hq : pg_cls[ci]? = some q) (hl : Cond.classLink own idx q.1 ∈ pg_T) (hd : decode cc pc = .ok (.checkcast idx, 3)) (kk : ah_S E X Qf (pc + 3) lv (va_rf r :: st) (f r)) : ah_S E X Qf pc lv (va_rf r :: st) (ah_rd (ah_cc ci r) f) := by
  intro h r0 n u c hs H locs ls cells slots h1 h2 h3 h4 h5
  obtain ⟨x, e1, e2⟩ := ah_rd_some hs
  obtain ⟨hx, hb, -, hown, hts, hK, -, -⟩ := C
  cases r with
  | none =>
    cases e1
    exact lv_castN hx hb hd (kk h r0 n u c e2 H locs ls cells slots h1 h2 h3 h4 h5)
  | some a =>
    unfold ah_cc at e1
    dsimp only at e1
    split at e1
    next hkd =>
      cases e1
      obtain ⟨cell, q1, q2, q3, q4⟩ := (h1.2.2.2.2 a).1 ci q hkd hq
      have hKn := hK.1 ci q hq
      exact va_castS hx hb hown (hts _ hl) hKn.2 ⟨cell, q1, by rw [q3]; rfl, by rw [q2]; exact hKn.2.1⟩ hd (kk h r0 n u c e2 H locs ls cells slots h1 h2 h3 h4 h5)
    next => cases e1
end AHG
