section AHR
abbrev ahE : Type := (Nat → ClassId) × (Nat → Nat → Nat) × (Nat → ClassId) × Nat × Heap × Nat × Nat × (Nat → Int32) × Option Nat
abbrev ae_C (E : ahE) : Nat → ClassId := E.1
abbrev ae_I (E : ahE) : Nat → Nat → Nat := E.2.1
abbrev ae_A (E : ahE) : Nat → ClassId := E.2.2.1
abbrev ae_B (E : ahE) : Nat := E.2.2.2.1
abbrev ae_H (E : ahE) : Heap := E.2.2.2.2.1
abbrev ae_b (E : ahE) : Nat := E.2.2.2.2.2.1
abbrev ae_L (E : ahE) : Nat := E.2.2.2.2.2.2.1
abbrev ae_x (E : ahE) : Nat → Int32 := E.2.2.2.2.2.2.2.1
abbrev ae_e (E : ahE) : Option Nat := E.2.2.2.2.2.2.2.2
def ah_isR (ci k : Nat) : Bool := (pg_fR.getD ci []).getD k false
def ah_aRf (j : Nat) : Bool := pg_aR.getD j false
def ah_ty (ci k : Nat) : FieldType := (pg_ty.getD ci []).getD k .int
def ah_ok (E : ahE) (h : ahH) (H : Heap) (a : Nat) : Prop :=
  (∀ (ci : Nat) (q : vw_C), ah_kd h a = ci + 1 → pg_cls[ci]? = some q → t_OB a (ae_C E ci) q.2.2 (ae_I E ci) H (fun k => ah_fv (ah_isR ci k) (ah_I h a k) (ah_P h a k))) ∧
  (∀ (j : Nat), ah_kd h a = 100 + j → j < 100 → H[a]? = some (arrV (ae_A E j) (ah_ln h a) (fun k => ah_fv (ah_aRf j) (ah_I h a k) (ah_P h a k)))) ∧
  (ah_kd h a = 99 → a = ae_b E ∧ ah_ln h a = ae_L E ∧ ∀ j, j < ae_L E → ah_I h a j = ae_x E j) ∧
  (∀ (j : Nat), ah_kd h a = 200 + j → ∃ f : Nat → Int64, H[a]? = some (arrV (ae_A E j) (ah_ln h a) (fun k => .long (f k))))
def ah_Rel (E : ahE) (h : ahH) (H : Heap) : Prop :=
  H.size = h.1 ∧ (ae_B E ≤ h.1 ∧ 0 < ae_B E ∧ ah_P h 0 0 = ae_e E) ∧ (∀ q : Nat, q < ae_B E → H[q]? = (ae_H E)[q]?) ∧ (∀ a : Nat, 0 < ah_kd h a → ah_kd h a ≠ 99 → ae_B E ≤ a ∧ a < h.1) ∧ ∀ a : Nat, ah_ok E h H a
theorem ah_nw_warm {w : Cond} (h : ah_nsh w = true) {s U : State} (hW : s.WarmedH U.vm) (hZ : va_Nw w s) : va_Nw w U := by
  unfold ah_nsh at h
  split at h
  · exact va_Nw.warmF hW hZ
  · exact va_Nw.warmM hW hZ
  · exact va_Nw.warmC hW hZ
  · exact va_AO.moved hW.alike hZ
  · cases h
theorem ah_nw_same {w : Cond} (h : ah_nsh w = true) {u U : State} (hvm : u.vm = U.vm) (hZ : va_Nw w u) : va_Nw w U := by
  unfold ah_nsh at h
  split at h
  · exact va_Nw.same rfl hvm hZ
  · exact va_Nw.same rfl hvm hZ
  · exact va_Nw.same rfl hvm hZ
  · exact va_AO.moved (by rw [hvm]; exact Vm.Alike.refl _) hZ
  · cases h
def ah_K (E : ahE) (U : State) : Prop :=
  (∀ (ci : Nat) (q : vw_C), pg_cls[ci]? = some q → u_Kn U q.1 q.2.1 q.2.2 (ae_C E ci) (ae_I E ci)) ∧
  (∀ (j : Nat) (ty : FieldType), pg_aty[j]? = some ty → ArrOfT U (ae_A E j) ty ∧ va_RA U (ae_A E j) ty) ∧
  (∀ w ∈ pg_N, va_Nw w U) ∧ va_X (ae_b E) (ae_L E) (ae_x E) U (ae_H E) ∧ ae_b E < ae_B E ∧ va_Z "java/util/ArrayList" "DEFAULTCAPACITY_EMPTY_ELEMENTDATA" "[Ljava/lang/Object;" (va_rf (ae_e E)) (fun q => ae_B E ≤ q) U (ae_H E)
theorem ah_K.warm {E : ahE} {s U : State} (hW : s.WarmedH U.vm) (h : ah_K E s) : ah_K E U :=
  ⟨fun ci q hq => u_Kn_moved hW.alike (h.1 ci q hq), fun j ty hj => ⟨arrOfT_moved hW.alike (h.2.1 j ty hj).1, (h.2.1 j ty hj).2.moved hW.alike⟩, fun w hw => ah_nw_warm (pg_N_ok w hw) hW (h.2.2.1 w hw), h.2.2.2.1.moved hW.alike, h.2.2.2.2.1, h.2.2.2.2.2.moved hW.alike⟩
theorem ah_K.same {E : ahE} {u U : State} (hvm : u.vm = U.vm) (h : ah_K E u) : ah_K E U := by
  have ha : u.vm.Alike U.vm := by rw [hvm]; exact Vm.Alike.refl _
  exact ⟨fun ci q hq => u_Kn_moved ha (h.1 ci q hq), fun j ty hj => ⟨arrOfT_moved ha (h.2.1 j ty hj).1, (h.2.1 j ty hj).2.moved ha⟩, fun w hw => ah_nw_same (pg_N_ok w hw) hvm (h.2.2.1 w hw), h.2.2.2.1.moved ha, h.2.2.2.2.1, h.2.2.2.2.2.moved ha⟩
def ah_PC (ci : Nat) (q : vw_C) : Prop :=
  ci < 98 ∧ (∀ k, k < q.2.2 → u_lay q.1 q.2.1 k ∈ pg_T) ∧ (∀ k, k < q.2.2 → parseFieldDescriptor (q.2.1 k).2.2.1 = some (ah_ty ci k)) ∧
  (∀ a, a < q.2.2 → ∀ b, b < q.2.2 → a ≠ b → (q.2.1 a).2.1 ≠ (q.2.1 b).2.1) ∧ ∀ k, k < q.2.2 → defaultValue (ah_ty ci k) = ah_fv (ah_isR ci k) 0 none
theorem ah_Rel.obj {E : ahE} {h : ahH} {H H1 : Heap} (hR : ah_Rel E h H) {a ci : Nat} {q : vw_C} (hci : ci < 98) (hk : ah_kd h a = ci + 1) (hq : pg_cls[ci]? = some q) {I1 : Nat → Nat → Int32} {P1 : Nat → Nat → Option Nat}
    (hz : H1.size = H.size) (ho : ∀ b : Nat, b ≠ a → H1[b]? = H[b]?) (hI : ∀ b, b ≠ a → I1 b = ah_I h b) (hP : ∀ b, b ≠ a → P1 b = ah_P h b)
    (hn : t_OB a (ae_C E ci) q.2.2 (ae_I E ci) H1 (fun k => ah_fv (ah_isR ci k) (I1 a k) (P1 a k))) : ah_Rel E (h.1, h.2.1, h.2.2.1, I1, P1) H1 := by
  obtain ⟨r1, ⟨r2, r2a, r2b⟩, r3, r4, r5⟩ := hR
  have hin := r4 a (by omega) (by omega)
  refine ⟨hz.trans r1, ⟨r2, r2a, by show P1 0 0 = _; rw [hP 0 (by omega)]; exact r2b⟩, fun b hb => ?_, r4, fun b => ?_⟩
  · rw [ho b (by omega)]
    exact r3 b hb
  · by_cases hb : b = a
    · subst hb
      refine ⟨fun ci' q' h1 h2 => ?_, fun j h1 _ => ?_, fun h1 => ?_, fun j h1 => ?_⟩
      · have e1 : ah_kd h b = ci' + 1 := h1
        have e2 : ci' = ci := by omega
        subst e2
        cases hq.symm.trans h2
        exact hn
      · have e1 : ah_kd h b = 100 + j := h1
        omega
      · have e1 : ah_kd h b = 99 := h1
        omega
      · have e1 : ah_kd h b = 200 + j := h1
        omega
    · obtain ⟨o1, o2, o3, o4⟩ := r5 b
      refine ⟨fun ci' q' h1 h2 => ?_, fun j h1 hj => ?_, fun h1 => ?_, fun j h1 => ?_⟩
      · refine ((o1 ci' q' h1 h2).kept (ho b hb)).to (fun k _ => ?_)
        show ah_fv _ (ah_I h b k) (ah_P h b k) = ah_fv _ (I1 b k) (P1 b k)
        rw [hI b hb, hP b hb]
      · rw [ho b hb, o2 j h1 hj]
        show some (arrV _ (ah_ln h b) (fun k => ah_fv _ (ah_I h b k) (ah_P h b k))) = some (arrV _ (ah_ln h b) (fun k => ah_fv _ (I1 b k) (P1 b k)))
        rw [hI b hb, hP b hb]
      · obtain ⟨g1, g2, g3⟩ := o3 h1
        refine ⟨g1, g2, fun j hj => ?_⟩
        show I1 b j = _
        rw [hI b hb]
        exact g3 j hj
      · rw [ho b hb]
        exact o4 j h1
theorem ah_Rel.arr {E : ahE} {h : ahH} {H H1 : Heap} (hR : ah_Rel E h H) {a j : Nat} (hk : ah_kd h a = 100 + j) (hj1 : j < 100) {I1 : Nat → Nat → Int32} {P1 : Nat → Nat → Option Nat}
    (hz : H1.size = H.size) (ho : ∀ b : Nat, b ≠ a → H1[b]? = H[b]?) (hI : ∀ b, b ≠ a → I1 b = ah_I h b) (hP : ∀ b, b ≠ a → P1 b = ah_P h b)
    (hn : H1[a]? = some (arrV (ae_A E j) (ah_ln h a) (fun k => ah_fv (ah_aRf j) (I1 a k) (P1 a k)))) (hc : ∀ ci q, pg_cls[ci]? = some q → ci < 98) : ah_Rel E (h.1, h.2.1, h.2.2.1, I1, P1) H1 := by
  obtain ⟨r1, ⟨r2, r2a, r2b⟩, r3, r4, r5⟩ := hR
  have hin := r4 a (by omega) (by omega)
  refine ⟨hz.trans r1, ⟨r2, r2a, by show P1 0 0 = _; rw [hP 0 (by omega)]; exact r2b⟩, fun b hb => ?_, r4, fun b => ?_⟩
  · rw [ho b (by omega)]
    exact r3 b hb
  · by_cases hb : b = a
    · subst hb
      refine ⟨fun ci' q' h1 h2 => ?_, fun j' h1 _ => ?_, fun h1 => ?_, fun j' h1 => ?_⟩
      · have e1 : ah_kd h b = ci' + 1 := h1
        have := hc ci' q' h2
        omega
      · have e1 : ah_kd h b = 100 + j' := h1
        have e2 : j' = j := by omega
        subst e2
        exact hn
      · have e1 : ah_kd h b = 99 := h1
        omega
      · have e1 : ah_kd h b = 200 + j' := h1
        omega
    · obtain ⟨o1, o2, o3, o4⟩ := r5 b
      refine ⟨fun ci' q' h1 h2 => ?_, fun j h1 hj => ?_, fun h1 => ?_, fun j h1 => ?_⟩
      · refine ((o1 ci' q' h1 h2).kept (ho b hb)).to (fun k _ => ?_)
        show ah_fv _ (ah_I h b k) (ah_P h b k) = ah_fv _ (I1 b k) (P1 b k)
        rw [hI b hb, hP b hb]
      · rw [ho b hb, o2 j h1 hj]
        show some (arrV _ (ah_ln h b) (fun k => ah_fv _ (ah_I h b k) (ah_P h b k))) = some (arrV _ (ah_ln h b) (fun k => ah_fv _ (I1 b k) (P1 b k)))
        rw [hI b hb, hP b hb]
      · obtain ⟨g1, g2, g3⟩ := o3 h1
        refine ⟨g1, g2, fun j hj => ?_⟩
        show I1 b j = _
        rw [hI b hb]
        exact g3 j hj
      · rw [ho b hb]
        exact o4 j h1
theorem ah_Rel.born {E : ahE} {h : ahH} {H H1 : Heap} (hR : ah_Rel E h H) {kd n u : Nat} {iv : Nat → Int32} {pv : Nat → Option Nat} (h99 : kd ≠ 99)
    (hz : H1.size = h.1 + 1) (ho : ∀ b : Nat, b < h.1 → H1[b]? = H[b]?)
    (h1 : ∀ (ci : Nat) (q : vw_C), kd = ci + 1 → pg_cls[ci]? = some q → t_OB h.1 (ae_C E ci) q.2.2 (ae_I E ci) H1 (fun k => ah_fv (ah_isR ci k) (iv k) (pv k)))
    (h2 : ∀ (j : Nat), kd = 100 + j → j < 100 → H1[h.1]? = some (arrV (ae_A E j) n (fun k => ah_fv (ah_aRf j) (iv k) (pv k)))) (h3 : ∀ (j : Nat), kd = 200 + j → ∃ f : Nat → Int64, H1[h.1]? = some (arrV (ae_A E j) n (fun k => .long (f k)))) :
    ah_Rel E (ah_nx h 1 u (va_up h.2.2.1 h.1 (kd, n), va_up (ah_I h) h.1 iv, va_up (ah_P h) h.1 pv)) H1 := by
  obtain ⟨r1, ⟨r2, r2a, r2b⟩, r3, r4, r5⟩ := hR
  refine ⟨hz, ⟨?_, r2a, ?_⟩, fun b hb => ?_, fun b g1 g2 => ?_, fun b => ?_⟩
  · show ae_B E ≤ h.1 + 1
    omega
  · show va_up (ah_P h) h.1 pv 0 0 = _
    rw [va_up_ne _ _ (by omega)]
    exact r2b
  · rw [ho b (by omega)]
    exact r3 b hb
  · show ae_B E ≤ b ∧ b < h.1 + 1
    by_cases hb : b = h.1
    · subst hb
      exact ⟨r2, by omega⟩
    · have e : ah_kd (ah_nx h 1 u (va_up h.2.2.1 h.1 (kd, n), va_up (ah_I h) h.1 iv, va_up (ah_P h) h.1 pv)) b = ah_kd h b := by
        show (va_up h.2.2.1 h.1 (kd, n) b).1 = _
        rw [va_up_ne _ _ hb]
        rfl
      rw [e] at g1 g2
      have := r4 b g1 g2
      omega
  · by_cases hb : b = h.1
    · subst hb
      have e : (va_up h.2.2.1 h.1 (kd, n) h.1) = (kd, n) := va_up_self _ _ _
      refine ⟨fun ci q g1 g2 => ?_, fun j g1 hj => ?_, fun g1 => ?_, fun j g1 => ?_⟩
      · have e1 : kd = ci + 1 := by
          have g1' : (va_up h.2.2.1 h.1 (kd, n) h.1).1 = ci + 1 := g1
          rw [e] at g1'
          exact g1'
        refine (h1 ci q e1 g2).to (fun k _ => ?_)
        show _ = ah_fv _ (va_up (ah_I h) h.1 iv h.1 k) (va_up (ah_P h) h.1 pv h.1 k)
        rw [va_up_self, va_up_self]
      · have e1 : kd = 100 + j := by
          have g1' : (va_up h.2.2.1 h.1 (kd, n) h.1).1 = 100 + j := g1
          rw [e] at g1'
          exact g1'
        rw [h2 j e1 hj]
        show _ = some (arrV _ (va_up h.2.2.1 h.1 (kd, n) h.1).2 (fun k => ah_fv _ (va_up (ah_I h) h.1 iv h.1 k) (va_up (ah_P h) h.1 pv h.1 k)))
        rw [va_up_self, va_up_self, va_up_self]
      · have g1' : (va_up h.2.2.1 h.1 (kd, n) h.1).1 = 99 := g1
        rw [e] at g1'
        exact absurd g1' h99
      · have e1 : kd = 200 + j := by
          have g1' : (va_up h.2.2.1 h.1 (kd, n) h.1).1 = 200 + j := g1
          rw [e] at g1'
          exact g1'
        obtain ⟨f, hf⟩ := h3 j e1
        refine ⟨f, ?_⟩
        rw [hf]
        show _ = some (arrV _ (va_up h.2.2.1 h.1 (kd, n) h.1).2 _)
        rw [va_up_self]
    · obtain ⟨o1, o2, o3, o4⟩ := r5 b
      have e : (va_up h.2.2.1 h.1 (kd, n) b) = h.2.2.1 b := va_up_ne _ _ hb
      have eI : va_up (ah_I h) h.1 iv b = ah_I h b := va_up_ne _ _ hb
      have eP : va_up (ah_P h) h.1 pv b = ah_P h b := va_up_ne _ _ hb
      have hlt : 0 < ah_kd h b → ah_kd h b ≠ 99 → b < h.1 := fun g1 g2 => (r4 b g1 g2).2
      refine ⟨fun ci q g1 g2 => ?_, fun j g1 hj => ?_, fun g1 => ?_, fun j g1 => ?_⟩
      · have g1' : ah_kd h b = ci + 1 := by
          have g : (va_up h.2.2.1 h.1 (kd, n) b).1 = ci + 1 := g1
          rw [e] at g
          exact g
        obtain ⟨cell, q1, q2⟩ := o1 ci q g1' g2
        have hbl : b < H.size := (Array.getElem?_eq_some_iff.mp q1).1
        refine (t_OB.kept (H := H) ⟨cell, q1, q2⟩ (ho b (by omega))).to (fun k _ => ?_)
        show _ = ah_fv _ (va_up (ah_I h) h.1 iv b k) (va_up (ah_P h) h.1 pv b k)
        rw [eI, eP]
      · have g1' : ah_kd h b = 100 + j := by
          have g : (va_up h.2.2.1 h.1 (kd, n) b).1 = 100 + j := g1
          rw [e] at g
          exact g
        rw [ho b (hlt (by omega) (by omega)), o2 j g1' hj]
        show some (arrV _ (h.2.2.1 b).2 (fun k => ah_fv _ (ah_I h b k) (ah_P h b k))) = some (arrV _ (va_up h.2.2.1 h.1 (kd, n) b).2 (fun k => ah_fv _ (va_up (ah_I h) h.1 iv b k) (va_up (ah_P h) h.1 pv b k)))
        rw [e, eI, eP]
      · have g1' : ah_kd h b = 99 := by
          have g : (va_up h.2.2.1 h.1 (kd, n) b).1 = 99 := g1
          rw [e] at g
          exact g
        obtain ⟨k1, k2, k3⟩ := o3 g1'
        refine ⟨k1, ?_, fun j hj => ?_⟩
        · show (va_up h.2.2.1 h.1 (kd, n) b).2 = _
          rw [e]
          exact k2
        · show va_up (ah_I h) h.1 iv b j = _
          rw [eI]
          exact k3 j hj
      · have g1' : ah_kd h b = 200 + j := by
          have g : (va_up h.2.2.1 h.1 (kd, n) b).1 = 200 + j := g1
          rw [e] at g
          exact g
        obtain ⟨f, hf⟩ := o4 j g1'
        refine ⟨f, ?_⟩
        rw [ho b (hlt (by omega) (by omega)), hf]
        show some (arrV _ (h.2.2.1 b).2 _) = some (arrV _ (va_up h.2.2.1 h.1 (kd, n) b).2 _)
        rw [e]
theorem ah_Rel.lng {E : ahE} {h : ahH} {H H1 : Heap} (hR : ah_Rel E h H) {a j : Nat} (hk : ah_kd h a = 200 + j) (hz : H1.size = H.size) (ho : ∀ b : Nat, b ≠ a → H1[b]? = H[b]?) {f : Nat → Int64} (hn : H1[a]? = some (arrV (ae_A E j) (ah_ln h a) (fun k => .long (f k)))) (hc : ∀ ci q, pg_cls[ci]? = some q → ci < 98) : ah_Rel E h H1 := by
  obtain ⟨r1, ⟨r2, r2a, r2b⟩, r3, r4, r5⟩ := hR
  have hin := r4 a (by omega) (by omega)
  refine ⟨hz.trans r1, ⟨r2, r2a, r2b⟩, fun b hb => ?_, r4, fun b => ?_⟩
  · rw [ho b (by omega)]
    exact r3 b hb
  · by_cases hb : b = a
    · subst hb
      refine ⟨fun ci' q' h1 h2 => ?_, fun j' h1 hj => ?_, fun h1 => ?_, fun j' h1 => ?_⟩
      · have := hc ci' q' h2
        omega
      · omega
      · omega
      · have e2 : j' = j := by omega
        subst e2
        exact ⟨f, hn⟩
    · obtain ⟨o1, o2, o3, o4⟩ := r5 b
      refine ⟨fun ci' q' h1 h2 => ?_, fun j h1 hj => ?_, o3, fun j h1 => ?_⟩
      · exact (o1 ci' q' h1 h2).kept (ho b hb)
      · rw [ho b hb]
        exact o2 j h1 hj
      · rw [ho b hb]
        exact o4 j h1
end AHR
