theorem pg_inst (ci : Nat) (q : vw_C) (h : pg_cls[ci]? = some q) : Cond.instantiable q.1 q.2.2 ∈ pg_T := by
  match ci, h with
  | 0, h => cases h; exact we106
  | 1, h => cases h; exact we112
  | 2, h => cases h; exact we66
  | 3, h => cases h; exact we41
  | 4, h => cases h; exact we63
  | 5, h => cases h; exact we119
  | 6, h => cases h; exact we126
  | 7, h => cases h; exact we133
  | 8, h => cases h; exact we140
  | 9, h => cases h; exact we147
  | 10, h => cases h; exact we495
  | 11, h => cases h; exact we504
  | 12, h => cases h; exact we500
  | k + 13, h => cases h
def R_law : String := "BoundedTypesLaw"
def lw_P (b : Addr) (xs : List Int32) (args : Array Value) (s : State) : Prop := args = #[.ref b] ∧ s.IntsAt b xs ∧ xs.length ≤ 3 ∧ (Jvm.Cond.and given_1 narrow_1).before args s = true
def lw_Q (_ : Array Value) (s : State) (o : Outcome) (t : State) : Prop := o = .returned (some (.int 1)) ∧ Framed s o t [] 600000 7302250
def lw_Z (below : List Frame) (a : Array Value) (s : State) : State → Prop := fun t => ∃ o, t.status = .running ∧ Ended t below o ∧ lw_Q a s o t
theorem lw_ret {p : Program} {l : Launch} {e : Env} {s : State} {m : MethodId} {below : List Frame} {meth : Method} {c : Code} {b : Nat} (hx : p.tables.exec = Jvm.exec) (hb : c.code = code) (hr : meth.sig.returnType = ret) (hlocks : meth.locks = false) {pc : Nat} {H : Heap} {ls : Array Slot} (hdg : decode code pc = .ok (.ireturn, 1)) : W p l e room_1 s m #[Value.ref b] below meth c H [] 600000 7302250 (lw_Z below #[Value.ref b] s) (F0 m pc ls [.int 1]) := by
  intro T hT X
  obtain ⟨fs, hret, hrun, hended, hW, hframe⟩ := X.leave (v := some (.int 1)) (hlocks := hlocks) (fun h => by rw [hr] at h; cases h)
  have hmeth' : T.vm.method? m = some meth := X.method'
  refine ⟨T.setFrames fs, ?_, .returned (some (.int 1)), hrun, hended, rfl, ⟨_, rfl⟩, hW, hframe⟩
  jvm_step X.here [X.here.top, hx, hb, hdg, hmeth', hr, ret, narrow_b1]
  (try refine ⟨rfl, ?_⟩); (try refine ⟨rfl, ?_⟩)
  first | (intro acts; rw [hret _ acts rfl rfl rfl]) | rw [hret _ _ rfl rfl rfl]
  exact Steps.refl _
def lw_At (p : Program) (s : State) (m : MethodId) (meth : Method) (c : Code) (b L : Nat) (xs : Nat → Int32) : Prop :=
  p.tables.exec = Jvm.exec ∧ c.code = code ∧ meth.sig.returnType = ret ∧ c.maxLocals = 4 ∧ s.vm.findClass R_law = some m.cls ∧ (∀ w ∈ lw_tbl, w.before #[Value.ref b] s = true) ∧ va_X b L xs s s.heap ∧ b < s.heap.size ∧ meth.locks = false ∧ (Jvm.Cond.and given_1 narrow_1).before #[Value.ref b] s = true
section AHT
def ah_h0 (n0 b L : Nat) (xs : Nat → Int32) (e : Option Nat) : ahH := (n0, 0, (fun a => if a = b then (99, L) else (0, 0)), (fun a j => if a = b then xs j else 0), fun a k => if a = 0 ∧ k = 0 then e else none)
theorem ah_rel0 {E : ahE} {H : Heap} (h1 : H.size = ae_B E) (h2 : H = ae_H E) (h3 : ae_b E < ae_B E) : ah_Rel E (ah_h0 (ae_B E) (ae_b E) (ae_L E) (ae_x E) (ae_e E)) H := by
  subst h2
  have hk : ∀ a, ah_kd (ah_h0 (ae_B E) (ae_b E) (ae_L E) (ae_x E) (ae_e E)) a = if a = ae_b E then 99 else 0 := by
    intro a
    show (if a = ae_b E then (99, ae_L E) else (0, 0) : Nat × Nat).1 = _
    by_cases h : a = ae_b E
    · rw [if_pos h, if_pos h]
    · rw [if_neg h, if_neg h]
  refine ⟨h1, ⟨Nat.le_refl _, by omega, ?_⟩, fun q _ => rfl, fun a g1 g2 => ?_, fun a => ?_⟩
  · show (if 0 = 0 ∧ 0 = 0 then ae_e E else none) = _
    rw [if_pos ⟨rfl, rfl⟩]
  · rw [hk] at g1 g2
    by_cases h : a = ae_b E
    · rw [if_pos h] at g2
      exact absurd rfl g2
    · rw [if_neg h] at g1
      omega
  · refine ⟨fun ci q g1 g2 => ?_, fun j g1 _ => ?_, fun g1 => ?_, fun j g1 => ?_⟩
    · have := ah_cls98 ci q g2
      rw [hk] at g1
      split at g1 <;> omega
    · rw [hk] at g1
      split at g1 <;> omega
    · rw [hk] at g1
      by_cases h : a = ae_b E
      · subst h
        refine ⟨rfl, ?_, fun j _ => ?_⟩
        · show (if ae_b E = ae_b E then (99, ae_L E) else (0, 0) : Nat × Nat).2 = _
          rw [if_pos rfl]
        · show (if ae_b E = ae_b E then ae_x E j else 0) = _
          rw [if_pos rfl]
      · rw [if_neg h] at g1
        omega
    · rw [hk] at g1
      split at g1 <;> omega
theorem ah_nw_of {w : Cond} (h : ah_nsh w = true) {A : Array Value} {U : State} (hb : w.before A U = true) : va_Nw w U := by
  unfold ah_nsh at h
  split at h
  · exact va_Nw.of rfl hb
  · exact va_Nw.of rfl hb
  · exact va_Nw.of rfl hb
  · exact va_AO.of hb
  · cases h
theorem ah_arrs {s : State} {args : Array Value} (hts : ∀ w ∈ lw_tbl, w.before args s = true) (j : Nat) (ty : FieldType) (hj : pg_aty[j]? = some ty) : ∃ cA : ClassId, ArrOfT s cA ty ∧ va_RA s cA ty := by
  have hp : ∀ t : FieldType, Cond.arrayClass t ∈ pg_T → (∀ n, t ≠ .object n) → ∃ cA : ClassId, ArrOfT s cA t ∧ va_RA s cA t := by
    intro t hw hn
    obtain ⟨c, k, comp, h1, h2, h3⟩ := Cond.arrayClass_spec (hts _ (List.mem_filter.mp hw).1)
    refine ⟨c, fun n z => ⟨fun k h => (by cases h), k, h2, comp, h3⟩, ?_⟩
    cases t with
    | object n => exact absurd rfl (hn n)
    | _ => exact h1
  have hq : ∀ n : String, Cond.arrayOver (.object n) ∈ pg_N → ∃ cA : ClassId, ArrOfT s cA (.object n) ∧ va_RA s cA (.object n) := by
    intro n hw
    obtain ⟨comp, c, k, h1, -, h3, h4, h5⟩ := Cond.arrayOver_spec (hts _ (List.mem_filter.mp hw).1)
    exact ⟨c, fun n z => ⟨fun k h => (by cases h), k, h3, comp, h4⟩, k, comp, h3, h4, h1, h5⟩
  match j, hj with
  | 0, hj => cases hj; exact hp _ we10 (fun n h => by cases h)
  | 1, hj => cases hj; exact hp _ we76 (fun n h => by cases h)
  | 2, hj => cases hj; exact hq _ we48
  | 3, hj => cases hj; exact hq _ we58
  | 4, hj => cases hj; exact hp _ we332 (fun n h => by cases h)
  | k + 5, hj => cases hj
theorem ah_skol {α : Type} [hN : Nonempty α] {P : Nat → α → Prop} (Q : Nat → Prop) (h : ∀ j, Q j → ∃ a, P j a) : ∃ f : Nat → α, ∀ j, Q j → P j (f j) := by
  have h2 : ∀ j, ∃ a, Q j → P j a := by
    intro j
    by_cases hq : Q j
    · obtain ⟨a, ha⟩ := h j hq
      exact ⟨a, fun _ => ha⟩
    · exact ⟨Classical.choice hN, fun q => absurd q hq⟩
  exact ⟨fun j => Classical.choose (h2 j), fun j => Classical.choose_spec (h2 j)⟩
set_option maxRecDepth 100000 in
set_option maxHeartbeats 4000000 in
theorem law_from {p : Program} {e : Env} {s : State} {m : MethodId} {below : List Frame} {meth : Method} {c : Code} (l : Launch) {b L : Nat} {xs : Nat → Int32} (C0 : lw_At p s m meth c b L xs)
    (hpure : ∀ (n0 : Nat) (r : Option Nat), b < n0 → ∃ n u c, fn_Law_law (some b) (ah_h0 n0 b L xs r) = some (1, n, u, c) ∧ n ≤ 600000 ∧ u ≤ 7302250) :
    W p l e room_1 s m #[Value.ref b] below meth c s.heap [] 0 0 (lw_Z below #[Value.ref b] s) (entryFrame m ([Value.ref b] : List Value).toArray 4) := by
  obtain ⟨hx, hb, hr, hml, hown, hts, hX, hbl, hlocks, hgv⟩ := id C0
  have htT : ∀ w ∈ pg_T, w.before #[Value.ref b] s = true := fun w hw => hts w (List.mem_filter.mp hw).1
  obtain ⟨dC, hdC⟩ := ah_skol (α := ClassId × (Nat → Nat)) (P := fun ci a => ∀ q, pg_cls[ci]? = some q → u_Kn s q.1 q.2.1 q.2.2 a.1 a.2) (fun ci => ∃ q, pg_cls[ci]? = some q) (fun ci hq => by
    obtain ⟨q, hq⟩ := hq
    obtain ⟨cC, iS, hk⟩ := u_known (n := q.2.2) htT (ah_uws (pg_ok ci q hq).2.1) (htT _ (pg_inst ci q hq))
    exact ⟨(cC, iS), fun q' hq' => by cases hq.symm.trans hq'; exact hk⟩)
  obtain ⟨cA, hcA⟩ := ah_skol (α := ClassId) (P := fun j a => ∀ ty, pg_aty[j]? = some ty → ArrOfT s a ty ∧ va_RA s a ty) (fun j => ∃ ty, pg_aty[j]? = some ty) (fun j hj => by
    obtain ⟨ty, hj⟩ := hj
    obtain ⟨a, ha⟩ := ah_arrs hts j ty hj
    exact ⟨a, fun ty' h' => by cases hj.symm.trans h'; exact ha⟩)
  have hflat := flat_of_before _ hgv
  have hZ : va_Zq "java/util/ArrayList" "DEFAULTCAPACITY_EMPTY_ELEMENTDATA" "[Ljava/lang/Object;" (fun q => s.heap.size ≤ q) s s.heap := va_Zqof (hts _ (List.mem_append_right _ (List.mem_append_left _ (List.mem_of_getElem? (l := tables_1_1) (i := 148) (by decide +kernel))))) (htT _ we42) (hflat _ (by decide +kernel)) (fun a ha h => by omega)
  obtain ⟨r, hZr⟩ : ∃ r : Option Nat, va_Z "java/util/ArrayList" "DEFAULTCAPACITY_EMPTY_ELEMENTDATA" "[Ljava/lang/Object;" (va_rf r) (fun q => s.heap.size ≤ q) s s.heap := by
    rcases hZ with h | ⟨t, h⟩
    · exact ⟨none, h⟩
    · exact ⟨some t, h⟩
  obtain ⟨n, u, cc, hlaw, hn, hu⟩ := hpure s.heap.size r hbl
  have C : ah_Cx (fun k => (dC k).1, fun k => (dC k).2, cA, s.heap.size, s.heap, b, L, xs, r) (p, l, e, room_1, s, m, #[Value.ref b], below, meth, c) code 4 "BoundedTypesLaw" 7 160 := by
    refine ⟨hx, hb, hml, hown, htT, ⟨fun ci q hq => hdC ci ⟨q, hq⟩ q hq, fun j ty hj => hcA j ⟨ty, hj⟩ ty hj, fun w hw => ah_nw_of (pg_N_ok w hw) (hts w (List.mem_filter.mp hw).1), hX, hbl, hZr⟩, Nat.le_of_ble_eq_true rfl, Nat.le_of_ble_eq_true rfl⟩
  have k := ok_Law_law (Qf := fun r _ t => r = 1 → lw_Z below #[Value.ref b] s t) C (fun pc lv hd => by
    intro h r' n' u' c' hs H locs ls cells slots g1 g2 g3 g4 g5
    cases hs
    refine va_forget (fun q hq => g2 q hq) ?_
    refine W.widen (k := 600000) (n := 7302250) g4 g5 ?_
    intro T hT Xs
    obtain ⟨t, a1, b1⟩ := lw_ret (b := b) hx hb hr hlocks hd T hT Xs
    exact ⟨t, a1, fun _ => b1⟩) (some b) _ 1 n u cc hlaw s.heap []
  rw [lg_entry_eq]
  have hl := lv_entry [Value.ref b] (n := 4) (Nat.le_of_ble_eq_true rfl)
  have k2 := k _ 0 0 (ah_rel0 (E := (fun k => (dC k).1, fun k => (dC k).2, cA, s.heap.size, s.heap, b, L, xs, r)) rfl rfl hbl) (fun q hq => by cases hq) ⟨hl.1, hl.2.1, fun i v hv => by
    match i, hv with
    | 0, hv => cases hv; exact ⟨hl.2.2 (0, .ref b) List.mem_cons_self, rfl⟩
    | 1, hv => cases hv
    | 2, hv => cases hv
    | 3, hv => cases hv
    | i + 4, hv => cases hv⟩ (by show 0 + n ≤ 600000; omega) (by show 0 + u ≤ 7302250; omega)
  intro T hT Xs
  obtain ⟨t, a1, b1⟩ := k2 T hT Xs
  exact ⟨t, a1, b1 rfl⟩
end AHT
