section AHK
def ah_Pc (E : ahE) (av : List Value) (h : ahH) : Array Value → State → Prop := fun v U => v = av.toArray ∧ ah_Rel E h U.heap ∧ ah_K E U
def ah_Qc (E : ahE) (o : Option Value) (h : ahH) : Array Value → State → Outcome → State → Prop := fun _ _ oc t => oc = .returned o ∧ ah_Rel E h t.heap
def ah_met (E : ahE) (l : Launch) (y : MethodName) (cc : ByteArray) (nL : Nat) (rt : Option FieldType) (F L : Nat) {ρ : Type} (rv : ρ → Option Value) (av : List Value) (f : ahM ρ) : Prop :=
  ∀ (h : ahH) (r : ρ) (n u : Nat) (c : ahC), f h = some (r, n, u, c) → Met l y (Cond.code y cc nL rt :: pg_T) { frames := F, cells := n, slots := u, locals := L } (ah_Pc E av h) (ah_Qc E (rv r) (ah_nx h n u c)) n u (fun q => ae_B E ≤ q)
def rv_I (x : Int32) : Option Value := some (.int x)
def rv_R (x : Option Nat) : Option Value := some (va_rf x)
def rv_V (_ : Unit) : Option Value := none
theorem ah_blind (E : ahE) (av : List Value) (h : ahH) : FrameBlind (ah_Pc E av h) := fun a U g mk q => ⟨q.1, q.2.1, ah_K.same (u := U) (U := U.calling g mk a) rfl q.2.2⟩
def ah_Q (E : ahE) (X : ahX) {ρ : Type} (rv : ρ → Option Value) : ρ → ahH → State → Prop := fun r h => MQ (ax_b X) (ah_Qc E (rv r) h) (ax_a X) (ax_s X) (ax_R X).cells (ax_R X).slots (fun q => ae_B E ≤ q)
theorem ah_slm : ∀ (av : List Value), (∀ v ∈ av, v.category = 1) → lg_sl av = av.map Slot.val
  | [], _ => rfl
  | v :: t, h => by
    have h1 : v.category = 1 := h v List.mem_cons_self
    have h2 := ah_slm t (fun w hw => h w (List.mem_cons_of_mem _ hw))
    simp only [lg_sl, List.flatMap_cons, List.map_cons] at h2 ⊢
    rw [h2, if_neg (by omega)]
    rfl
theorem ah_met_of {E : ahE} {l : Launch} {y : MethodName} {cc : ByteArray} {nL : Nat} {rt : Option FieldType} {F L : Nat} {ρ : Type} {rv : ρ → Option Value} {av : List Value} {f : ahM ρ} (hy : plainName y.cls = true) (hcat : ∀ v ∈ av, v.category = 1) (hlen : av.length ≤ nL) {lv : List (Option Value)} (hlv : av.map some ++ List.replicate (nL - av.length) none = lv)
    (body : ∀ X : ahX, ah_Cx E X cc nL y.cls F L → ax_l X = l → (ax_M X).sig.returnType = rt → (ax_M X).locks = false → (ax_M X).name = y.name → ah_S E X (ah_Q E X rv) 0 lv [] f) : ah_met E l y cc nL rt F L rv av f := by
  intro h r n u c hs
  subst hlv
  refine Met.ofW (cc := cc) (maxL := nL) (ret := rt) hy rfl ?_
  intro p e s m args below meth c0 s₁ B hml hv
  obtain ⟨rfl, hR, hK⟩ := hv
  have hts := atoms_spec (ws := Cond.code y cc nL rt :: pg_T) B.pre
  have hown : s.vm.findClass y.cls = some m.cls := findClass_of_methodNamed B.named
  have k := body (p, l, e, (headSpec (Cond.code y cc nL rt :: pg_T) { frames := F, cells := n, slots := u, locals := L }).room, s, m, av.toArray, below, meth, c0) ⟨B.exec, B.bytes, hml, hown, fun w hw => hts w (List.mem_cons_of_mem _ hw), hK, Nat.le_refl _, Nat.le_refl _⟩ rfl B.returns B.notSynchronized (name_of_methodNamed B.named B.method).1
  rw [lg_entry_eq]
  have hsl : lg_sl av = av.map Slot.val := ah_slm av hcat
  have hl := lv_entry av (n := nL) (by rw [hsl, List.length_map]; exact hlen)
  refine k h r n u c hs s.heap [] _ 0 0 hR (fun q hq => by cases hq) ⟨?_, hl.2.1, fun i v hv => ?_⟩ (by show 0 + n ≤ n; omega) (by show 0 + u ≤ u; omega)
  · rw [hl.1]
    simp
    omega
  · by_cases hi : i < av.length
    · rw [List.getElem?_append_left (by rw [List.length_map]; exact hi), List.getElem?_map] at hv
      have hv2 : av[i]? = some v := by
        cases ha : av[i]? with
        | none => rw [ha] at hv; cases hv
        | some w => rw [ha] at hv; cases hv; rfl
      refine ⟨?_, hcat v (List.mem_of_getElem? hv2)⟩
      rw [hsl]
      have hv3 := (List.getElem?_eq_some_iff.mp hv2).2
      simp [List.getElem?_append_left, hi, hv3]
    · rw [List.getElem?_append_right (by rw [List.length_map]; omega)] at hv
      have := List.eq_of_mem_replicate (List.mem_of_getElem? hv)
      cases this
variable {E : ahE} {X : ahX} {ρ ρ1 : Type} {Qf : ρ → ahH → State → Prop} {cc : ByteArray} {nL : Nat} {own : String} {F L pc : Nat} {lv : List (Option Value)} {st : List Value}
theorem ah_iret (C : ah_Cx E X cc nL own F L) {ty : FieldType} {v : Int32} (hr : (ax_M X).sig.returnType = some ty) (hlk : (ax_M X).locks = false) (hn : narrow ty (.int v) = .int v) (hd : decode cc pc = .ok (.ireturn, 1)) : ah_S E X (ah_Q E X rv_I) pc lv [.int v] (ah_ret v) := by
  intro h r n u c hs H locs ls cells slots h1 h2 h3 h4 h5
  cases hs
  refine W.widen (k := (ax_R X).cells) (n := (ax_R X).slots) (by omega) (by omega) ?_
  exact W.zret C.1 C.2.1 hr hn (fun t ht hW => ⟨rfl, by rw [ht]; exact h1⟩) (fun q hq => h2 q hq) hd hlk
theorem ah_zret (C : ah_Cx E X cc nL own F L) {v : Int32} (hr : (ax_M X).sig.returnType = some .boolean) (hlk : (ax_M X).locks = false) (hd : decode cc pc = .ok (.ireturn, 1)) : ah_S E X (ah_Q E X rv_I) pc lv [.int v] (ah_retZ v) := by
  intro h r n u c hs H locs ls cells slots h1 h2 h3 h4 h5
  unfold ah_retZ at hs
  split at hs
  next hv =>
    cases hs
    refine W.widen (k := (ax_R X).cells) (n := (ax_R X).slots) (by omega) (by omega) ?_
    refine W.zret C.1 C.2.1 hr ?_ (fun t ht hW => ⟨rfl, by rw [ht]; exact h1⟩) (fun q hq => h2 q hq) hd hlk
    rcases hv with rfl | rfl <;> rfl
  next => cases hs
theorem ah_vret (C : ah_Cx E X cc nL own F L) (hr : (ax_M X).sig.returnType = none) (hlk : (ax_M X).locks = false) (hd : decode cc pc = .ok (.return_, 1)) : ah_S E X (ah_Q E X rv_V) pc lv [] (ah_ret ()) := by
  intro h r n u c hs H locs ls cells slots h1 h2 h3 h4 h5
  cases hs
  refine W.widen (k := (ax_R X).cells) (n := (ax_R X).slots) (by omega) (by omega) ?_
  exact W.vret C.1 C.2.1 hr (fun t ht hW => ⟨rfl, by rw [ht]; exact h1⟩) (fun q hq => h2 q hq) hd hlk
theorem ah_aret (C : ah_Cx E X cc nL own F L) {ty : FieldType} {v : Option Nat} (hr : (ax_M X).sig.returnType = some ty) (hlk : (ax_M X).locks = false) (hty : (∃ n, ty = .object n) ∨ ∃ t, ty = .array t) (hd : decode cc pc = .ok (.areturn, 1)) : ah_S E X (ah_Q E X rv_R) pc lv [va_rf v] (ah_ret v) := by
  intro h r n u c hs H locs ls cells slots h1 h2 h3 h4 h5
  cases hs
  refine W.widen (k := (ax_R X).cells) (n := (ax_R X).slots) (by omega) (by omega) ?_
  refine W.aret C.1 C.2.1 hr hty ?_ (fun t ht hW => ⟨rfl, by rw [ht]; exact h1⟩) (fun q hq => h2 q hq) hd hlk
  cases v with
  | none => exact Or.inl rfl
  | some a => exact Or.inr ⟨a, rfl⟩
theorem ah_back {rv : ρ1 → Option Value} {g : ahM ρ1} {f : ρ1 → ahM ρ} {st0 rest : List Value}
    (hrun : ∀ (h : ahH) (x : ρ1) (n1 u1 : Nat) (c1 : ahC), g h = some (x, n1, u1, c1) → ∀ (H : Heap) (locs : List Loc) (ls : Array Slot) (cells slots : Nat), ah_Rel E h H → ls.size = lv.length → cells + n1 ≤ (ax_R X).cells → slots + u1 ≤ (ax_R X).slots →
      ∃ a : Array Value, va_Run (ax_p X) (ax_l X) (ax_e X) (ax_R X) (ax_s X) (ax_m X) (ax_a X) (ax_b X) (ax_M X) (ax_c X) H locs cells slots n1 u1 (F0 (ax_m X) pc ls st0) rest (ah_Qc E (rv x) (ah_nx h n1 u1 c1) a) (fun q => ae_B E ≤ q))
    (kk : ∀ x, ah_S E X Qf (pc + 3) lv ((rv x).toList ++ rest) (f x)) : ah_S E X Qf pc lv st0 (ah_bnd g f) := by
  intro h r0 n u c hs H locs ls cells slots h1 h2 h3 h4 h5 T hT Xs
  obtain ⟨x, n1, u1, c1, n2, u2, e1, e2, rfl, rfl⟩ := ah_bnd_some hs
  obtain ⟨a, hr⟩ := hrun h x n1 u1 c1 e1 H locs ls cells slots h1 h3.1 (by omega) (by omega)
  obtain ⟨v, st₀, t, T', Lc, h0, X', hL, y1, y2, ⟨hv, hRel⟩, stp⟩ := hr T hT Xs
  cases hv
  have k2 := kk x _ r0 n2 u2 c e2 T'.heap (locs ++ Lc) ls (cells + n1) (slots + u1) (by rw [y1]; exact hRel) (fun q hq => by
    rcases List.mem_append.mp hq with h | h
    · exact h2 q h
    · exact hL q h) h3 (by omega) (by omega)
  have e4 : ah_nx (ah_nx h n1 u1 c1) n2 u2 c = ah_nx h (n1 + n2) (u1 + u2) c := by
    simp only [ah_nx, Nat.add_assoc]
  rw [e4] at k2
  obtain ⟨t2, a1, b1⟩ := k2 T' rfl X'
  exact ⟨t2, stp t2 a1, b1⟩
def ah_Y (y : MethodName) (n : Nat) : Prop := (y.cls ≠ "java/lang/invoke/MethodHandle" ∧ y.cls ≠ "java/lang/invoke/VarHandle") ∧ (parseMethodDescriptor y.desc).map (fun d => d.parameters.length) = some n
def ah_LM (own : String) (idx : Nat) (y : MethodName) : Prop := Cond.methodLink own idx y ∈ pg_T ∨ ∃ host, Cond.methodLinkNest own idx y host ∈ pg_N
theorem ah_Y.len {y : MethodName} {n : Nat} (h : ah_Y y n) : ∀ sig, parseMethodDescriptor y.desc = some sig → n = sig.parameters.length := by
  intro sig hs
  have h2 := h.2
  rw [hs] at h2
  exact (Option.some.inj h2).symm
theorem ah_pay {s : State} {args : Array Value} (hts : ∀ w ∈ pg_T, w.before args s = true) {y : MethodName} {bytes : ByteArray} {maxL : Nat} {rt : Option FieldType} (hc : Cond.code y bytes maxL rt ∈ pg_T) : ∀ w ∈ (Cond.code y bytes maxL rt :: pg_T), ∀ (a' : Array Value) (U : State), s.WarmedH U.vm → w.before a' U = true :=
  pay_in (big := pg_T) hts (fun w hw => by
    rcases List.mem_cons.mp hw with rfl | hw
    · exact ⟨hc, pg_T_ok _ hc⟩
    · exact ⟨hw, pg_T_ok w hw⟩)
theorem ah_pre {s : State} {av : List Value} {h : ahH} {H : Heap} (hK : ah_K E s) (hR : ah_Rel E h H) : PreS s H (ah_Pc E av h) av :=
  ⟨ah_blind E av h, fun U hU hW => ⟨rfl, by rw [hU]; exact hR, hK.warm hW⟩⟩
theorem ah_callS (C : ah_Cx E X cc nL own F L) {y : MethodName} {bytes : ByteArray} {maxL F1 L1 idx : Nat} {rt : Option FieldType} {rv : ρ1 → Option Value} {As rest st0 : List Value} {g : ahM ρ1} {f : ρ1 → ahM ρ} (hM : ah_met E (ax_l X) y bytes maxL rt F1 L1 rv As g) (hl : ah_LM own idx y) (hstt : Cond.static y ∈ pg_T) (hini : Cond.initialized y.cls ∈ pg_T) (hc : Cond.code y bytes maxL rt ∈ pg_T) (hy : ah_Y y As.length) (hF : F1 + 1 ≤ F) (hL : 8 + (maxL + 11) + L1 ≤ L) (hlv : lv.length = nL) (hst : As.reverse ++ rest = st0) (hre : (rest.map fun v => v.category).sum ≤ 8) (hd : decode cc pc = .ok (.invokestatic idx, 3)) (kk : ∀ x, ah_S E X Qf (pc + 3) lv ((rv x).toList ++ rest) (f x)) : ah_S E X Qf pc lv st0 (ah_bnd g f) := by
  obtain ⟨hx, hb, hml, hown, hts, hK, hRF, hRL⟩ := C
  refine ah_back (rv := rv) (fun h x n1 u1 c1 hs H locs ls cells slots h1 h3 h4 h5 => ⟨As.toArray, ?_⟩) kk
  subst hst
  have hM1 := hM h x n1 u1 c1 hs
  rcases hl with hl | ⟨host, hl⟩
  · exact va_runS (n := As.length) ⟨hx, hb, hml, hown, hts⟩ hM1 ⟨⟨rfl, rfl, (by show F1 + 1 ≤ _; omega), (by show 8 + (maxL + 11) + L1 ≤ _; omega), ah_pay hts hc, List.mem_cons_self, hts _ hc, hts _ hini, hy.1, hy.len, hts _ hl⟩, hts _ hstt⟩ (ah_pre hK h1) rfl rfl (h3.trans hlv) rfl (lv_room hre) hd ⟨h4, h5⟩
  · exact va_runSN (n := As.length) ⟨hx, hb, hml, hown, hts⟩ hM1 ⟨⟨⟨rfl, rfl, (by show F1 + 1 ≤ _; omega), (by show 8 + (maxL + 11) + L1 ≤ _; omega), ah_pay hts hc, List.mem_cons_self⟩, hts _ hc, hts _ hini, hy.1, hy.len, va_Nw.use rfl (hK.2.2.1 _ hl)⟩, hts _ hstt, trivial⟩ (ah_pre hK h1) rfl rfl (h3.trans hlv) rfl (lv_room hre) hd ⟨h4, h5⟩
theorem ah_callI (C : ah_Cx E X cc nL own F L) {y : MethodName} {bytes : ByteArray} {maxL F1 L1 idx : Nat} {As rest st0 : List Value} {r : Option Nat} {g : Nat → ahM Unit} {f : Unit → ahM ρ} (hM : ∀ b, ah_met E (ax_l X) y bytes maxL none F1 L1 rv_V (.ref b :: As) (g b)) (hl : ah_LM own idx y) (hnm : y.name = "<init>") (hins : Cond.instanceMethod y ∈ pg_T) (hini : Cond.initialized y.cls ∈ pg_T) (hc : Cond.code y bytes maxL none ∈ pg_T) (hy : ah_Y y As.length) (hF : F1 + 1 ≤ F) (hL : 8 + (maxL + 11) + L1 ≤ L) (hlv : lv.length = nL) (hst : As.reverse ++ va_rf r :: rest = st0) (hre : (rest.map fun v => v.category).sum ≤ 8) (hd : decode cc pc = .ok (.invokespecial idx, 3)) (kk : ah_S E X Qf (pc + 3) lv rest (f ())) : ah_S E X Qf pc lv st0 (ah_bnd (ah_cI r g) f) := by
  obtain ⟨hx, hb, hml, hown, hts, hK, hRF, hRL⟩ := C
  refine ah_back (rv := rv_V) (fun h x n1 u1 c1 hs H locs ls cells slots h1 h3 h4 h5 => ?_) (fun _ => kk)
  subst hst
  cases r with
  | none => cases hs
  | some b =>
    refine ⟨(Value.ref b :: As).toArray, ?_⟩
    have hM1 := hM b h x n1 u1 c1 hs
    rcases hl with hl | ⟨host, hl⟩
    · exact va_runI (n := As.length) ⟨hx, hb, hml, hown, hts⟩ hM1 ⟨⟨rfl, rfl, (by show F1 + 1 ≤ _; omega), (by show 8 + (maxL + 11) + L1 ≤ _; omega), ah_pay hts hc, List.mem_cons_self, hts _ hc, hts _ hini, hy.1, hy.len, hts _ hl⟩, hnm, hts _ hins⟩ (ah_pre hK h1) rfl rfl (h3.trans hlv) rfl (lv_room hre) hd ⟨h4, h5⟩
    · exact va_runIN (n := As.length) ⟨hx, hb, hml, hown, hts⟩ hM1 ⟨⟨⟨rfl, rfl, (by show F1 + 1 ≤ _; omega), (by show 8 + (maxL + 11) + L1 ≤ _; omega), ah_pay hts hc, List.mem_cons_self⟩, hts _ hc, hts _ hini, hy.1, hy.len, va_Nw.use rfl (hK.2.2.1 _ hl)⟩, hnm, hts _ hins⟩ (ah_pre hK h1) rfl rfl (h3.trans hlv) rfl (lv_room hre) hd ⟨h4, h5⟩
theorem ah_callV (C : ah_Cx E X cc nL own F L) {y : MethodName} {bytes : ByteArray} {maxL F1 L1 idx ci : Nat} {q : vw_C} {rt : Option FieldType} {rv : ρ1 → Option Value} {As rest st0 : List Value} {r : Option Nat} {g : Nat → ahM ρ1} {f : ρ1 → ahM ρ} (hM : ∀ b, ah_met E (ax_l X) y bytes maxL rt F1 L1 rv (.ref b :: As) (g b)) (hq : pg_cls[ci]? = some q) (hl : ah_LM own idx y) (hins : Cond.instanceMethod y ∈ pg_T) (hsel : Cond.selects q.1 y y ∈ pg_T) (hini : Cond.initialized y.cls ∈ pg_T) (hc : Cond.code y bytes maxL rt ∈ pg_T) (hy : ah_Y y As.length) (hF : F1 + 1 ≤ F) (hL : 8 + (maxL + 11) + L1 ≤ L) (hlv : lv.length = nL) (hst : As.reverse ++ va_rf r :: rest = st0) (hre : (rest.map fun v => v.category).sum ≤ 8) (hd : decode cc pc = .ok (.invokevirtual idx, 3)) (kk : ∀ x, ah_S E X Qf (pc + 3) lv ((rv x).toList ++ rest) (f x)) : ah_S E X Qf pc lv st0 (ah_bnd (ah_cV ci r g) f) := by
  obtain ⟨hx, hb, hml, hown, hts, hK, hRF, hRL⟩ := C
  refine ah_back (rv := rv) (fun h x n1 u1 c1 hs H locs ls cells slots h1 h3 h4 h5 => ?_) kk
  subst hst
  cases r with
  | none => cases hs
  | some b =>
    unfold ah_cV at hs
    dsimp only at hs
    split at hs
    next hkd =>
      refine ⟨(Value.ref b :: As).toArray, ?_⟩
      have hM1 := hM b h x n1 u1 c1 hs
      obtain ⟨cell, q1, q2, q3, q4⟩ := (h1.2.2.2.2 b).1 ci q hkd hq
      have hrec : ∃ cellB : Cell, H[b]? = some cellB ∧ cellB.vm.isStatics = false ∧ (ax_s X).vm.findClass q.1 = some cellB.cls := ⟨cell, q1, by rw [q3]; rfl, by rw [q2]; exact (hK.1 ci q hq).2.1⟩
      have hp := ah_pre (av := .ref b :: As) hK h1
      rcases hl with hl | ⟨host, hl⟩
      · exact va_runV (n := As.length) (C := q.1) ⟨hx, hb, hml, hown, hts⟩ hM1 ⟨⟨rfl, rfl, (by show F1 + 1 ≤ _; omega), (by show 8 + (maxL + 11) + L1 ≤ _; omega), ah_pay hts hc, List.mem_cons_self, hts _ hc, hts _ hini, hy.1, hy.len, hts _ hl⟩, hts _ hins, hts _ hsel⟩ ⟨hp.1, hrec, hp.2⟩ rfl rfl (h3.trans hlv) rfl (lv_room hre) hd ⟨h4, h5⟩
      · exact va_runVN (n := As.length) (C := q.1) ⟨hx, hb, hml, hown, hts⟩ hM1 ⟨⟨⟨rfl, rfl, (by show F1 + 1 ≤ _; omega), (by show 8 + (maxL + 11) + L1 ≤ _; omega), ah_pay hts hc, List.mem_cons_self⟩, hts _ hc, hts _ hini, hy.1, hy.len, va_Nw.use rfl (hK.2.2.1 _ hl)⟩, hts _ hins, hts _ hsel⟩ ⟨hp.1, hrec, hp.2⟩ rfl rfl (h3.trans hlv) rfl (lv_room hre) hd ⟨h4, h5⟩
    next => cases hs
theorem ah_objInit (C : ah_Cx E X cc nL own F L) {idx : Nat} {a : Nat} {f : ahM ρ} (hl : Cond.methodLink own idx Lib.objectInit ∈ pg_T) (hins : Cond.instanceMethod Lib.objectInit ∈ pg_T) (hc : Cond.code Lib.objectInit ⟨#[0xb1]⟩ 1 none ∈ pg_T) (hF : 1 ≤ F) (hL : 20 ≤ L) (hlv : lv.length = nL) (hre : (st.map fun v => v.category).sum ≤ 8) (hd : decode cc pc = .ok (.invokespecial idx, 3)) (kk : ah_S E X Qf (pc + 3) lv st f) : ah_S E X Qf pc lv (va_rf (some a) :: st) f := by
  obtain ⟨hx, hb, hml, hown, hts, hK, hRF, hRL⟩ := C
  intro h r n u c hs H locs ls cells slots h1 h2 h3 h4 h5
  refine W.objInit hx hb hown (hts _ hl) (hts _ hins) (hts _ hc) rfl (by rw [hml]; exact h3.1.trans hlv) rfl hd (by omega) ?_ (kk h r n u c hs H locs ls cells slots h1 h2 h3 h4 h5)
  have := lv_room (m := ax_m X) (pc := pc) (ls := ls) (rest := va_rf (some a) :: st) hre
  omega
end AHK
section AHZ
def ah_c1 : List Value → Prop
  | [] => True
  | v :: vs => v.category = 1 ∧ ah_c1 vs
theorem ah_c1_all : ∀ {vs : List Value}, ah_c1 vs → ∀ v ∈ vs, v.category = 1
  | [], _, v, h => by cases h
  | w :: vs, hc, v, h => by
    rcases List.mem_cons.mp h with rfl | h
    · exact hc.1
    · exact ah_c1_all hc.2 v h
theorem ah_rs0 : ∀ {st : List Value}, ah_c1 st → (st.map fun v => v.category).sum = st.length
  | [], _ => rfl
  | v :: st, h => by
    have h1 := ah_rs0 h.2
    simp only [List.map_cons, List.sum_cons, List.length_cons]
    rw [h1, h.1]
    omega
theorem ah_rs {st : List Value} (h : ah_c1 st) (hl : st.length ≤ 8) : (st.map fun v => v.category).sum ≤ 8 := by
  rw [ah_rs0 h]
  exact hl
def FU : Nat := 2000000
variable {E : ahE} {X : ahX} {ρ ρ1 : Type} {Qf : ρ → ahH → State → Prop} {cc : ByteArray} {nL : Nat} {own : String} {F L pc : Nat} {lv : List (Option Value)} {st : List Value}
theorem ah_byc {P : Prop} [hP : Decidable P] {A B : ahM ρ} (kt : P → ah_S E X Qf pc lv st A) (kf : ¬ P → ah_S E X Qf pc lv st B) : ah_S E X Qf pc lv st (if P then A else B) := by
  by_cases hp : P
  · rw [if_pos hp]; exact kt hp
  · rw [if_neg hp]; exact kf hp
theorem ah_tin (C : ah_Cx E X cc nL own F L) {dflt lo hi off : Int} {offs : Array Int} {len tgt : Nat} {x k : Int32} {f : ahM ρ} (hd : decode cc pc = .ok (.tableswitch dflt lo hi offs, len)) (hx : x = k) (h1 : ¬ k.toInt < lo) (h2 : ¬ hi < k.toInt) (ho : offs[(k.toInt - lo).toNat]? = some off) (ht : (pc : Int) + off = (tgt : Int)) (kk : ah_S E X Qf tgt lv st f) : ah_S E X Qf pc lv (.int x :: st) f := by
  subst hx
  exact ah_go (fun _ _ _ _ _ _ _ k => lv_tableIn C.1 C.2.1 hd h1 h2 ho ht k) kk
theorem ah_tout (C : ah_Cx E X cc nL own F L) {dflt lo hi : Int} {offs : Array Int} {len tgt : Nat} {x : Int32} {f : ahM ρ} (hd : decode cc pc = .ok (.tableswitch dflt lo hi offs, len)) (h : x.toInt < lo ∨ hi < x.toInt) (ht : (pc : Int) + dflt = (tgt : Int)) (kk : ah_S E X Qf tgt lv st f) : ah_S E X Qf pc lv (.int x :: st) f :=
  ah_go (fun _ _ _ _ _ _ _ k => lv_tableOut C.1 C.2.1 hd h ht k) kk
theorem ah_callSI (C : ah_Cx E X cc nL own F L) {y : MethodName} {bytes : ByteArray} {maxL F1 L1 idx : Nat} {rt : Option FieldType} {As rest st0 : List Value} {g : ahM Int32} {f : Int32 → ahM ρ} (hM : ah_met E (ax_l X) y bytes maxL rt F1 L1 rv_I As g) (hl : ah_LM own idx y) (hstt : Cond.static y ∈ pg_T) (hini : Cond.initialized y.cls ∈ pg_T) (hc : Cond.code y bytes maxL rt ∈ pg_T) (hy : ah_Y y As.length) (hF : F1 + 1 ≤ F) (hL : 8 + (maxL + 11) + L1 ≤ L) (hlv : lv.length = nL) (hst : As.reverse ++ rest = st0) (hre : (rest.map fun v => v.category).sum ≤ 8) (hd : decode cc pc = .ok (.invokestatic idx, 3)) (kk : ∀ x, ah_S E X Qf (pc + 3) lv (.int x :: rest) (f x)) : ah_S E X Qf pc lv st0 (ah_bnd g f) :=
  ah_callS C hM hl hstt hini hc hy hF hL hlv hst hre hd kk
theorem ah_callSR (C : ah_Cx E X cc nL own F L) {y : MethodName} {bytes : ByteArray} {maxL F1 L1 idx : Nat} {rt : Option FieldType} {As rest st0 : List Value} {g : ahM (Option Nat)} {f : Option Nat → ahM ρ} (hM : ah_met E (ax_l X) y bytes maxL rt F1 L1 rv_R As g) (hl : ah_LM own idx y) (hstt : Cond.static y ∈ pg_T) (hini : Cond.initialized y.cls ∈ pg_T) (hc : Cond.code y bytes maxL rt ∈ pg_T) (hy : ah_Y y As.length) (hF : F1 + 1 ≤ F) (hL : 8 + (maxL + 11) + L1 ≤ L) (hlv : lv.length = nL) (hst : As.reverse ++ rest = st0) (hre : (rest.map fun v => v.category).sum ≤ 8) (hd : decode cc pc = .ok (.invokestatic idx, 3)) (kk : ∀ x, ah_S E X Qf (pc + 3) lv (va_rf x :: rest) (f x)) : ah_S E X Qf pc lv st0 (ah_bnd g f) :=
  ah_callS C hM hl hstt hini hc hy hF hL hlv hst hre hd kk
theorem ah_callSV (C : ah_Cx E X cc nL own F L) {y : MethodName} {bytes : ByteArray} {maxL F1 L1 idx : Nat} {rt : Option FieldType} {As rest st0 : List Value} {g : ahM Unit} {f : Unit → ahM ρ} (hM : ah_met E (ax_l X) y bytes maxL rt F1 L1 rv_V As g) (hl : ah_LM own idx y) (hstt : Cond.static y ∈ pg_T) (hini : Cond.initialized y.cls ∈ pg_T) (hc : Cond.code y bytes maxL rt ∈ pg_T) (hy : ah_Y y As.length) (hF : F1 + 1 ≤ F) (hL : 8 + (maxL + 11) + L1 ≤ L) (hlv : lv.length = nL) (hst : As.reverse ++ rest = st0) (hre : (rest.map fun v => v.category).sum ≤ 8) (hd : decode cc pc = .ok (.invokestatic idx, 3)) (kk : ah_S E X Qf (pc + 3) lv rest (f ())) : ah_S E X Qf pc lv st0 (ah_bnd g f) :=
  ah_callS C hM hl hstt hini hc hy hF hL hlv hst hre hd (fun _ => kk)
theorem ah_callVI (C : ah_Cx E X cc nL own F L) {y : MethodName} {bytes : ByteArray} {maxL F1 L1 idx ci : Nat} {q : vw_C} {rt : Option FieldType} {As rest st0 : List Value} {r : Option Nat} {g : Nat → ahM Int32} {f : Int32 → ahM ρ} (hM : ∀ b, ah_met E (ax_l X) y bytes maxL rt F1 L1 rv_I (.ref b :: As) (g b)) (hq : pg_cls[ci]? = some q) (hl : ah_LM own idx y) (hins : Cond.instanceMethod y ∈ pg_T) (hsel : Cond.selects q.1 y y ∈ pg_T) (hini : Cond.initialized y.cls ∈ pg_T) (hc : Cond.code y bytes maxL rt ∈ pg_T) (hy : ah_Y y As.length) (hF : F1 + 1 ≤ F) (hL : 8 + (maxL + 11) + L1 ≤ L) (hlv : lv.length = nL) (hst : As.reverse ++ va_rf r :: rest = st0) (hre : (rest.map fun v => v.category).sum ≤ 8) (hd : decode cc pc = .ok (.invokevirtual idx, 3)) (kk : ∀ x, ah_S E X Qf (pc + 3) lv (.int x :: rest) (f x)) : ah_S E X Qf pc lv st0 (ah_bnd (ah_cV ci r g) f) :=
  ah_callV C hM hq hl hins hsel hini hc hy hF hL hlv hst hre hd kk
theorem ah_callVR (C : ah_Cx E X cc nL own F L) {y : MethodName} {bytes : ByteArray} {maxL F1 L1 idx ci : Nat} {q : vw_C} {rt : Option FieldType} {As rest st0 : List Value} {r : Option Nat} {g : Nat → ahM (Option Nat)} {f : Option Nat → ahM ρ} (hM : ∀ b, ah_met E (ax_l X) y bytes maxL rt F1 L1 rv_R (.ref b :: As) (g b)) (hq : pg_cls[ci]? = some q) (hl : ah_LM own idx y) (hins : Cond.instanceMethod y ∈ pg_T) (hsel : Cond.selects q.1 y y ∈ pg_T) (hini : Cond.initialized y.cls ∈ pg_T) (hc : Cond.code y bytes maxL rt ∈ pg_T) (hy : ah_Y y As.length) (hF : F1 + 1 ≤ F) (hL : 8 + (maxL + 11) + L1 ≤ L) (hlv : lv.length = nL) (hst : As.reverse ++ va_rf r :: rest = st0) (hre : (rest.map fun v => v.category).sum ≤ 8) (hd : decode cc pc = .ok (.invokevirtual idx, 3)) (kk : ∀ x, ah_S E X Qf (pc + 3) lv (va_rf x :: rest) (f x)) : ah_S E X Qf pc lv st0 (ah_bnd (ah_cV ci r g) f) :=
  ah_callV C hM hq hl hins hsel hini hc hy hF hL hlv hst hre hd kk
theorem ah_callVV (C : ah_Cx E X cc nL own F L) {y : MethodName} {bytes : ByteArray} {maxL F1 L1 idx ci : Nat} {q : vw_C} {rt : Option FieldType} {As rest st0 : List Value} {r : Option Nat} {g : Nat → ahM Unit} {f : Unit → ahM ρ} (hM : ∀ b, ah_met E (ax_l X) y bytes maxL rt F1 L1 rv_V (.ref b :: As) (g b)) (hq : pg_cls[ci]? = some q) (hl : ah_LM own idx y) (hins : Cond.instanceMethod y ∈ pg_T) (hsel : Cond.selects q.1 y y ∈ pg_T) (hini : Cond.initialized y.cls ∈ pg_T) (hc : Cond.code y bytes maxL rt ∈ pg_T) (hy : ah_Y y As.length) (hF : F1 + 1 ≤ F) (hL : 8 + (maxL + 11) + L1 ≤ L) (hlv : lv.length = nL) (hst : As.reverse ++ va_rf r :: rest = st0) (hre : (rest.map fun v => v.category).sum ≤ 8) (hd : decode cc pc = .ok (.invokevirtual idx, 3)) (kk : ah_S E X Qf (pc + 3) lv rest (f ())) : ah_S E X Qf pc lv st0 (ah_bnd (ah_cV ci r g) f) :=
  ah_callV C hM hq hl hins hsel hini hc hy hF hL hlv hst hre hd (fun _ => kk)
end AHZ
