section AHP
variable {E : ahE} {X : ahX} {ρ : Type} {Qf : ρ → ahH → State → Prop} {cc : ByteArray} {nL : Nat} {own : String} {F L pc : Nat} {lv : List (Option Value)} {st : List Value}
def jd_max (x y : Int32) : Int32 := if x < y then y else x
def jd_min (x y : Int32) : Int32 := if y < x then y else x
theorem ah_mmax (C : ah_Cx E X cc nL own F L) {idx : Nat} {x y : Int32} {f : ahM ρ} (hl : Cond.methodLink own idx Lib.Math.max.name ∈ pg_T) (hs : Cond.static Lib.Math.max.name ∈ pg_T) (hi : Cond.initialized "java/lang/Math" ∈ pg_T) (hc : Cond.code Lib.Math.max.name Lib.Math.max.code 2 (some .int) ∈ pg_T) (hF : 1 ≤ F) (hL : 21 ≤ L) (hlv : lv.length = nL) (hre : (st.map fun v => v.category).sum ≤ 8) (hd : decode cc pc = .ok (.invokestatic idx, 3)) (kk : ah_S E X Qf (pc + 3) lv (.int (jd_max x y) :: st) f) : ah_S E X Qf pc lv (.int y :: .int x :: st) f := by
  obtain ⟨hx, hb, hml, hown, hts, hK, hRF, hRL⟩ := C
  intro h r n u c hs0 H locs ls cells slots h1 h2 h3 h4 h5
  exact va_mmax hx hb (by rw [hml, h3.1]; exact hlv.symm) hown (hts _ hl) (hts _ hs) (hts _ hi) (hts _ hc) (by omega) (by omega) (by omega) (by omega) hd (kk h r n u c hs0 H locs ls cells slots h1 h2 h3 h4 h5)
theorem ah_mmin (C : ah_Cx E X cc nL own F L) {idx : Nat} {x y : Int32} {f : ahM ρ} (hl : Cond.methodLink own idx Lib.Math.min.name ∈ pg_T) (hs : Cond.static Lib.Math.min.name ∈ pg_T) (hi : Cond.initialized "java/lang/Math" ∈ pg_T) (hc : Cond.code Lib.Math.min.name Lib.Math.min.code 2 (some .int) ∈ pg_T) (hF : 1 ≤ F) (hL : 21 ≤ L) (hlv : lv.length = nL) (hre : (st.map fun v => v.category).sum ≤ 8) (hd : decode cc pc = .ok (.invokestatic idx, 3)) (kk : ah_S E X Qf (pc + 3) lv (.int (jd_min x y) :: st) f) : ah_S E X Qf pc lv (.int y :: .int x :: st) f := by
  obtain ⟨hx, hb, hml, hown, hts, hK, hRF, hRL⟩ := C
  intro h r n u c hs0 H locs ls cells slots h1 h2 h3 h4 h5
  exact va_mmin hx hb (by rw [hml, h3.1]; exact hlv.symm) hown (hts _ hl) (hts _ hs) (hts _ hi) (hts _ hc) (by omega) (by omega) (by omega) (by omega) hd (kk h r n u c hs0 H locs ls cells slots h1 h2 h3 h4 h5)
def ah_cpI (r0 : Option Nat) (sp : Int32) (r1 : Option Nat) (dp n : Int32) (h : ahH) : Option ahC := match r0, r1 with
  | some a0, some a1 => if ah_kd h a0 = 100 ∧ ah_kd h a1 = 100 ∧ ¬ sp < 0 ∧ ¬ dp < 0 ∧ ¬ n < 0 ∧ sp.toNatClampNeg + n.toNatClampNeg ≤ ah_ln h a0 ∧ dp.toNatClampNeg + n.toNatClampNeg ≤ ah_ln h a1 then
      some (h.2.2.1, va_up (ah_I h) a1 (va_cpy (ah_I h a0) (ah_I h a1) sp.toNatClampNeg dp.toNatClampNeg n.toNatClampNeg), ah_P h) else none
  | _, _ => none
theorem ah_copyI (C : ah_Cx E X cc nL own F L) {idx : Nat} {r0 r1 : Option Nat} {sp dp n : Int32} {f : ahM ρ} (hj : pg_aty[0]? = some .int) (hR : ah_aRf 0 = false) (hl : Cond.methodLink own idx arraycopyName ∈ pg_T) (hnat : Cond.native arraycopyName ∈ pg_T) (hstt : Cond.static arraycopyName ∈ pg_T) (hi : Cond.initialized "java/lang/System" ∈ pg_T) (hF : 1 ≤ F) (hL : 8 + (nativeFrameWords "java/lang/System" "arraycopy" 5 + 11) ≤ L) (hlv : lv.length = nL) (hre : (st.map fun v => v.category).sum ≤ 8) (hd : decode cc pc = .ok (.invokestatic idx, 3)) (kk : ah_S E X Qf (pc + 3) lv st f) : ah_S E X Qf pc lv (.int n :: .int dp :: va_rf r1 :: .int sp :: va_rf r0 :: st) (ah_wr (ah_cpI r0 sp r1 dp n) f) := by
  obtain ⟨hx, hb, hml, hown, hts, hK, hRF, hRL⟩ := C
  intro h r n' u c hs0 H locs ls cells slots h1 h2 h3 h4 h5 T hT Xs
  obtain ⟨c1, e1, e2⟩ := ah_wr_some hs0
  have nn : ∀ z : Int32, ¬ z < 0 → z.toInt = (z.toNatClampNeg : Int) := by
    intro z hz
    have hz0 : (0 : Int) ≤ z.toInt := by
      have := Int32.not_lt.mp hz
      simpa using Int32.le_iff_toInt_le.mp this
    show z.toInt = ((z.toInt.toNat : Nat) : Int)
    omega
  cases r0 with
  | none => cases e1
  | some a0 =>
  cases r1 with
  | none => cases e1
  | some a1 =>
    unfold ah_cpI at e1
    dsimp only at e1
    split at e1
    next hg =>
      obtain ⟨k0, k1, g1, g2, g3, g4, g5⟩ := hg
      cases e1
      have hc0 := (h1.2.2.2.2 a0).2.1 0 k0 (by decide)
      have hc1 := (h1.2.2.2.2 a1).2.1 0 k1 (by decide)
      rw [hR] at hc0 hc1
      have hc0 : H[a0]? = some (arrV (ae_A E 0) (ah_ln h a0) (fun k => .int (ah_I h a0 k))) := hc0
      have hc1 : H[a1]? = some (arrV (ae_A E 0) (ah_ln h a1) (fun k => .int (ah_I h a1 k))) := hc1
      obtain ⟨-, kA, hkA, cm0, hkk0⟩ := (hK.2.1 0 _ hj).1 (ah_ln h a0) (fun j => .int (ah_I h a0 j))
      obtain ⟨vm', X', step⟩ := Xs.arraycopy hx hown (hts _ hl) (hts _ hnat) (hts _ hstt) (hts _ hi) (src := a0) (dst := a1) (cs := arrV (ae_A E 0) (ah_ln h a0) (fun k => .int (ah_I h a0 k))) (cd := arrV (ae_A E 0) (ah_ln h a1) (fun k => .int (ah_I h a1 k))) (srcPos := sp) (destPos := dp) (n := n) (by rw [hT]; exact hc0) (by rw [hT]; exact hc1)
        (fun _ h => by cases h) (fun _ h => by cases h) (fun h => by cases h) (fun h => by cases h) hkA hkA hkk0 hkk0 (by simp [refKind]) g1 g2 g3
        (by rw [nn sp g1, nn n g3, arrV_size]; omega)
        (by rw [nn dp g2, nn n g3, arrV_size]; omega)
        (fun vm₁ _ i hi => by
          have e : (arrV (ae_A E 0) (ah_ln h a0) (fun k => .int (ah_I h a0 k))).slots.getD (sp.toNatClampNeg + i) .null = .int (ah_I h a0 (sp.toNatClampNeg + i)) := by
            rw [Array.getD_eq_getD_getElem?, arrV_read _ _ (by omega)]
            rfl
          refine ⟨?_, ?_⟩
          · rw [e]
            rfl
          · rw [e]
            exact trivial)
        (g := F0 (ax_m X) pc ls (.int n :: .int dp :: .ref a1 :: .int sp :: .ref a0 :: st)) rfl (by rw [hml, h3.1]; exact hlv) (rest := st) rfl (by rw [hb]; exact hd) (by omega) (by show 2 * 0 + _ + _ ≤ _; omega)
      have e5 : copied (arrV (ae_A E 0) (ah_ln h a0) (fun k => .int (ah_I h a0 k))) (arrV (ae_A E 0) (ah_ln h a1) (fun k => .int (ah_I h a1 k))) sp dp n = arrV (ae_A E 0) (ah_ln h a1) (fun k => .int (va_cpy (ah_I h a0) (ah_I h a1) sp.toNatClampNeg dp.toNatClampNeg n.toNatClampNeg k)) := va_copied (fun z => .int z) _ _ _ _ g4
      rw [e5] at X' step
      have hlt : a1 < H.size := (Array.getElem?_eq_some_iff.mp hc1).1
      have hheap : ((T.setVm vm').setCell a1 (arrV (ae_A E 0) (ah_ln h a1) (fun k => .int (va_cpy (ah_I h a0) (ah_I h a1) sp.toNatClampNeg dp.toNatClampNeg n.toNatClampNeg k)))).heap = H.setIfInBounds a1 (arrV (ae_A E 0) (ah_ln h a1) (fun k => .int (va_cpy (ah_I h a0) (ah_I h a1) sp.toNatClampNeg dp.toNatClampNeg n.toNatClampNeg k))) := by rw [← hT]; rfl
      have hBa := h1.2.2.2.1 a1 (by omega) (by omega)
      have w1 : ah_Rel E (h.1, h.2.1, h.2.2.1, va_up (ah_I h) a1 (va_cpy (ah_I h a0) (ah_I h a1) sp.toNatClampNeg dp.toNatClampNeg n.toNatClampNeg), ah_P h) (H.setIfInBounds a1 (arrV (ae_A E 0) (ah_ln h a1) (fun k => .int (va_cpy (ah_I h a0) (ah_I h a1) sp.toNatClampNeg dp.toNatClampNeg n.toNatClampNeg k)))) := by
        refine h1.arr (j := 0) k1 (by decide) (by simp) (fun q hq => by simp [Array.getElem?_setIfInBounds, Ne.symm hq]) (fun b hb => va_up_ne _ _ hb) (fun _ _ => rfl) ?_ ah_cls98
        rw [hR, va_up_self]
        simp [Array.getElem?_setIfInBounds, hlt, ah_fv]
      obtain ⟨t, b1, b2⟩ := kk _ r n' u c e2 _ _ ls cells slots w1 (fun q hq => by
        rcases List.mem_append.mp hq with h | h
        · exact h2 q h
        · obtain ⟨z, -, hz⟩ := List.mem_map.mp h
          rw [← hz]
          exact hBa.1) h3 h4 h5 _ hheap X'
      exact ⟨t, step t b1, b2⟩
    next => cases e1
end AHP
section AHL
variable {E : ahE} {X : ahX} {ρ : Type} {Qf : ρ → ahH → State → Prop} {cc : ByteArray} {nL : Nat} {own : String} {F L pc : Nat} {lv : List (Option Value)} {st : List Value}
theorem ah_Sno : ah_S E X Qf pc lv st ah_no := fun h r n u c hs => by cases hs
theorem ah_met_no {l : Launch} {y : MethodName} {bytes : ByteArray} {rt : Option FieldType} {rv : ρ → Option Value} {av : List Value} : ah_met E l y bytes nL rt F L rv av ah_no := fun h r n u c hs => by cases hs
theorem ah_i2l (C : ah_Cx E X cc nL own F L) {x : Int32} {f : ahM ρ} (hd : decode cc pc = .ok (.i2l, 1)) (kk : ah_S E X Qf (pc + 1) lv (.long x.toInt64 :: st) f) : ah_S E X Qf pc lv (.int x :: st) f :=
  ah_go (fun _ _ _ _ _ _ _ k => lv_i2l C.1 C.2.1 hd rfl k) kk
theorem ah_ladd (C : ah_Cx E X cc nL own F L) {x y : Int64} {f : ahM ρ} (hd : decode cc pc = .ok (.ladd, 1)) (kk : ah_S E X Qf (pc + 1) lv (.long (x + y) :: st) f) : ah_S E X Qf pc lv (.long y :: .long x :: st) f :=
  ah_go (fun _ _ _ _ _ _ _ k => lv_ladd C.1 C.2.1 hd k) kk
theorem ah_lmul (C : ah_Cx E X cc nL own F L) {x y : Int64} {f : ahM ρ} (hd : decode cc pc = .ok (.lmul, 1)) (kk : ah_S E X Qf (pc + 1) lv (.long (x * y) :: st) f) : ah_S E X Qf pc lv (.long y :: .long x :: st) f :=
  ah_go (fun _ _ _ _ _ _ _ k => lv_lmul C.1 C.2.1 hd k) kk
theorem ah_ldc2 (C : ah_Cx E X cc nL own F L) {idx : Nat} {v : Int64} {f : ahM ρ} (hw : Cond.constantLong own idx v ∈ pg_T) (hd : decode cc pc = .ok (.ldc2_w idx, 3)) (kk : ah_S E X Qf (pc + 3) lv (.long v :: st) f) : ah_S E X Qf pc lv st f :=
  ah_go (fun _ _ _ _ _ _ _ k => lv_ldc2 C.1 C.2.1 C.2.2.2.1 (C.2.2.2.2.1 _ hw) hd k) kk
theorem ah_ldcw (C : ah_Cx E X cc nL own F L) {idx : Nat} {v : Int32} {f : ahM ρ} (hw : Cond.constant own idx v ∈ pg_T) (hd : decode cc pc = .ok (.ldc_w idx, 3)) (kk : ah_S E X Qf (pc + 3) lv (.int v :: st) f) : ah_S E X Qf pc lv st f :=
  ah_go (fun _ _ _ _ _ _ _ k => lv_ldcw C.1 C.2.1 C.2.2.2.1 (C.2.2.2.2.1 _ hw) hd k) kk
def ah_rem (x y : Int32) : Int32 := x - x / y * y
theorem ah_irem (C : ah_Cx E X cc nL own F L) {x y : Int32} {f : ahM ρ} (hy : ¬ y = 0) (hd : decode cc pc = .ok (.irem, 1)) (kk : ah_S E X Qf (pc + 1) lv (.int (ah_rem x y) :: st) f) : ah_S E X Qf pc lv (.int y :: .int x :: st) f :=
  ah_go (fun _ _ _ _ _ _ _ k => lv_irem C.1 C.2.1 hd hy k) kk
def ah_sL (j : Nat) (r : Option Nat) (i : Int32) (h : ahH) : Option Unit := match r with
  | none => none
  | some a => if ah_kd h a = 200 + j ∧ ah_in i (ah_ln h a) = true then some () else none
theorem ah_lastore (C : ah_Cx E X cc nL own F L) {j : Nat} {r : Option Nat} {i : Int32} {x : Int64} {f : Unit → ahM ρ} (hj : pg_aty[j]? = some .long) (hd : decode cc pc = .ok (.lastore, 1)) (kk : ah_S E X Qf (pc + 1) lv st (f ())) : ah_S E X Qf pc lv (.long x :: .int i :: va_rf r :: st) (ah_rd (ah_sL j r i) f) := by
  intro h r0 n u c hs H locs ls cells slots h1 h2 h3 h4 h5
  obtain ⟨c1, e1, e2⟩ := ah_rd_some hs
  cases r with
  | none => cases e1
  | some a =>
    unfold ah_sL at e1
    dsimp only at e1
    split at e1
    next hk0 =>
      obtain ⟨hkd, hin⟩ := hk0
      have hin := ah_in_iff.mp hin
      obtain ⟨hx, hb, -, hown, hts, hK, -, -⟩ := C
      obtain ⟨g, hc⟩ := (h1.2.2.2.2 a).2.2.2 j hkd
      have hBa := h1.2.2.2.1 a (by omega) (by omega)
      refine W.last hx hb hc ((hK.2.1 j _ hj).1 _ _) (fun q => by cases q) (by show ¬ (i < 0 ∨ (arrV _ _ _).slots.size ≤ _); rw [arrV_size]; exact hin) rfl rfl hd (fun H1 g1 g2 g3 => ?_)
      refine kk h r0 n u c e2 H1 _ ls cells slots (h1.lng hkd g2 g3 (f := fun k => if k = i.toNatClampNeg then x else g k) ?_ ah_cls98) (fun z hz => ?_) h3 h4 h5
      · rw [g1, arrV_store]
        congr 2
        funext k
        by_cases e : k = i.toNatClampNeg
        · simp [updV, e]
        · simp [updV, e]
      · rcases List.mem_append.mp hz with hz | hz
        · exact h2 z hz
        · rw [List.mem_singleton.mp hz]
          exact hBa.1
    next => cases e1
def ah_nl (j : Nat) (n : Int32) : ahM (Option Nat) := fun h => if ¬ n < 0 ∧ n.toNatClampNeg ≤ 16777216 then some (some h.1, 1, n.toNatClampNeg, (va_up h.2.2.1 h.1 (200 + j, n.toNatClampNeg), va_up (ah_I h) h.1 (fun _ => 0), va_up (ah_P h) h.1 (fun _ => none))) else none
theorem ah_newL (C : ah_Cx E X cc nL own F L) {j : Nat} {x : Int32} {f : Option Nat → ahM ρ} (hj : pg_aty[j]? = some .long) (hw : Cond.arrayClass .long ∈ pg_T) (hd : decode cc pc = .ok (.newarray .long, 2)) (kk : ∀ x, ah_S E X Qf (pc + 2) lv (va_rf x :: st) (f x)) : ah_S E X Qf pc lv (.int x :: st) (ah_bnd (ah_nl j x) f) := by
  intro h r0 n u c hs H locs ls cells slots h1 h2 h3 h4 h5
  obtain ⟨a, n1, u1, c1, n2, u2, e1, e2, rfl, rfl⟩ := ah_bnd_some hs
  unfold ah_nl at e1
  split at e1
  next hg =>
    obtain ⟨hn, hbig⟩ := hg
    cases e1
    obtain ⟨hx, hb, -, hown, hts, hK, -, -⟩ := C
    have hsz : H.size = h.1 := h1.1
    have hbb : x.toNatClampNeg * componentBytes (newarray.typeOf .long) ≤ 536870912 := by
      have h8 : componentBytes (newarray.typeOf .long) = 8 := rfl
      rw [h8]
      omega
    refine va_newaK hx hb (atype := .long) (hts _ hw) rfl hd rfl hn rfl hbb (by omega) (by omega) hsz (fun H1 cA y1 z1 o1 hAr hNm => ?_)
    have hcA : cA = ae_A E j := Option.some.inj (hNm.symm.trans (hK.2.1 j _ hj).2)
    subst hcA
    have w1 := h1.born (kd := 200 + j) (n := x.toNatClampNeg) (u := x.toNatClampNeg) (iv := fun _ => 0) (pv := fun _ => none) (by omega) z1 o1 (fun ci' q' g1 g2 => by
      have := ah_cls98 ci' q' g2
      omega) (fun j' g1 g2 => by omega) (fun j' g1 => by
      have e3 : j' = j := by omega
      subst e3
      exact ⟨fun _ => 0, y1⟩)
    have k2 := kk (some h.1) _ r0 n2 u2 c e2 H1 locs ls (cells + 1) (slots + x.toNatClampNeg) w1 h2 h3 (by omega) (by omega)
    have e4 : ah_nx (ah_nx h 1 x.toNatClampNeg (va_up h.2.2.1 h.1 (200 + j, x.toNatClampNeg), va_up (ah_I h) h.1 (fun _ => 0), va_up (ah_P h) h.1 (fun _ => none))) n2 u2 c = ah_nx h (1 + n2) (x.toNatClampNeg + u2) c := by
      simp only [ah_nx, Nat.add_assoc]
    rw [e4] at k2
    exact k2
  next => cases e1
def ah_gs (h : ahH) : Option (Option Nat) := some (ah_P h 0 0)
theorem ah_gets (C : ah_Cx E X cc nL own F L) {idx : Nat} {f : Option Nat → ahM ρ} (hl : Cond.fieldLink own idx "java/util/ArrayList" "DEFAULTCAPACITY_EMPTY_ELEMENTDATA" "[Ljava/lang/Object;" ∈ pg_T) (hd : decode cc pc = .ok (.getstatic idx, 3)) (kk : ∀ x, ah_S E X Qf (pc + 3) lv (va_rf x :: st) (f x)) : ah_S E X Qf pc lv st (ah_rd ah_gs f) := by
  intro h r0 n u c hs H locs ls cells slots h1 h2 h3 h4 h5
  obtain ⟨x, e1, e2⟩ := ah_rd_some hs
  cases e1
  have k2 := kk _ h r0 n u c e2 H locs ls cells slots h1 h2 h3 h4 h5
  rw [h1.2.1.2.2] at k2
  obtain ⟨hx, hb, -, hown, hts, hK, -, -⟩ := C
  obtain ⟨cf, kf, fi, fd, a, cell, g1, g2, g3, g4, g5, g6, g7, g8⟩ := hK.2.2.2.2.2
  exact W.gets hx hb hown (hts _ hl) g1 g2 g3 g4 (by rw [h1.2.2.1 a (Nat.not_le.mp g8)]; exact g5) (fun q => by rw [q] at g6; cases g6) g7 rfl hd k2
end AHL
