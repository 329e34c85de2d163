section AHX
abbrev ahX : Type := Program × Launch × Env × Room × State × MethodId × Array Value × List Frame × Method × Code
abbrev ax_p (X : ahX) : Program := X.1
abbrev ax_l (X : ahX) : Launch := X.2.1
abbrev ax_e (X : ahX) : Env := X.2.2.1
abbrev ax_R (X : ahX) : Room := X.2.2.2.1
abbrev ax_s (X : ahX) : State := X.2.2.2.2.1
abbrev ax_m (X : ahX) : MethodId := X.2.2.2.2.2.1
abbrev ax_a (X : ahX) : Array Value := X.2.2.2.2.2.2.1
abbrev ax_b (X : ahX) : List Frame := X.2.2.2.2.2.2.2.1
abbrev ax_M (X : ahX) : Method := X.2.2.2.2.2.2.2.2.1
abbrev ax_c (X : ahX) : Code := X.2.2.2.2.2.2.2.2.2
abbrev ah_W (X : ahX) (H : Heap) (locs : List Loc) (cells slots : Nat) (Q : State → Prop) (g : JFrame) : Prop :=
  W (ax_p X) (ax_l X) (ax_e X) (ax_R X) (ax_s X) (ax_m X) (ax_a X) (ax_b X) (ax_M X) (ax_c X) H locs cells slots Q g
def ah_lv (ls : Array Slot) (lv : List (Option Value)) : Prop := ls.size = lv.length ∧ lv_wf ls ∧ ∀ (i : Nat) (v : Value), lv[i]? = some (some v) → ls[i]? = some (.val v) ∧ v.category = 1
def ah_J (E : ahE) (X : ahX) (Q : State → Prop) (pc : Nat) (lv : List (Option Value)) (st : List Value) (h : ahH) (n u : Nat) : Prop :=
  ∀ (H : Heap) (locs : List Loc) (ls : Array Slot) (cells slots : Nat), ah_Rel E h H → (∀ q ∈ locs, ae_B E ≤ q.base) → ah_lv ls lv → cells + n ≤ (ax_R X).cells → slots + u ≤ (ax_R X).slots →
    ah_W X H locs cells slots Q (F0 (ax_m X) pc ls st)
def ah_S (E : ahE) (X : ahX) {ρ : Type} (Qf : ρ → ahH → State → Prop) (pc : Nat) (lv : List (Option Value)) (st : List Value) (f : ahM ρ) : Prop :=
  ∀ (h : ahH) (r : ρ) (n u : Nat) (c : ahC), f h = some (r, n, u, c) → ah_J E X (Qf r (ah_nx h n u c)) pc lv st h n u
def ah_Cx (E : ahE) (X : ahX) (cc : ByteArray) (nL : Nat) (own : String) (F L : Nat) : Prop :=
  (ax_p X).tables.exec = Jvm.exec ∧ (ax_c X).code = cc ∧ (ax_c X).maxLocals = nL ∧ (ax_s X).vm.findClass own = some (ax_m X).cls ∧ (∀ w ∈ pg_T, w.before (ax_a X) (ax_s X) = true) ∧ ah_K E (ax_s X) ∧ F ≤ (ax_R X).frames ∧ L ≤ (ax_R X).locals
theorem ah_nx0 (h : ahH) : ah_nx h 0 0 h.2.2 = h := rfl
variable {E : ahE} {X : ahX} {ρ : Type} {Qf : ρ → ahH → State → Prop} {cc : ByteArray} {nL : Nat} {own : String} {F L pc : Nat} {lv lv' : List (Option Value)} {st : List Value} {f : ahM ρ}
theorem ah_go {pc' : Nat} {st' : List Value} (g : ∀ (H : Heap) (locs : List Loc) (cells slots : Nat) (Q : State → Prop) (ls : Array Slot), ah_lv ls lv → ah_W X H locs cells slots Q (F0 (ax_m X) pc' ls st') → ah_W X H locs cells slots Q (F0 (ax_m X) pc ls st))
    (kk : ah_S E X Qf pc' lv st' f) : ah_S E X Qf pc lv st f := by
  intro h r n u c hs H locs ls cells slots h1 h2 h3 h4 h5
  exact g H locs cells slots _ ls h3 (kk h r n u c hs H locs ls cells slots h1 h2 h3 h4 h5)
theorem ah_iconst (C : ah_Cx E X cc nL own F L) {n : Int} {v : Int32} (hd : decode cc pc = .ok (.iconst n, 1)) (hv : Int32.ofInt n = v) (kk : ah_S E X Qf (pc + 1) lv (.int v :: st) f) : ah_S E X Qf pc lv st f :=
  ah_go (fun _ _ _ _ _ _ _ k => lv_iconst C.1 C.2.1 hd hv k) kk
theorem ah_bipush (C : ah_Cx E X cc nL own F L) {n : Int} {v : Int32} (hd : decode cc pc = .ok (.bipush n, 2)) (hv : (Int8.ofInt n).toInt32 = v) (kk : ah_S E X Qf (pc + 2) lv (.int v :: st) f) : ah_S E X Qf pc lv st f :=
  ah_go (fun _ _ _ _ _ _ _ k => lv_bipush C.1 C.2.1 hd hv k) kk
theorem ah_sipush (C : ah_Cx E X cc nL own F L) {n : Int} {v : Int32} (hd : decode cc pc = .ok (.sipush n, 3)) (hv : (Int16.ofInt n).toInt32 = v) (kk : ah_S E X Qf (pc + 3) lv (.int v :: st) f) : ah_S E X Qf pc lv st f :=
  ah_go (fun _ _ _ _ _ _ _ k => lv_sipush C.1 C.2.1 hd hv k) kk
theorem ah_ldc (C : ah_Cx E X cc nL own F L) {idx : Nat} {v : Int32} (hw : Cond.constant own idx v ∈ pg_T) (hd : decode cc pc = .ok (.ldc idx, 2)) (kk : ah_S E X Qf (pc + 2) lv (.int v :: st) f) : ah_S E X Qf pc lv st f :=
  ah_go (fun _ _ _ _ _ _ _ k => lv_ldc C.1 C.2.1 C.2.2.2.1 (C.2.2.2.2.1 _ hw) hd k) kk
theorem ah_null (C : ah_Cx E X cc nL own F L) (hd : decode cc pc = .ok (.aconst_null, 1)) (kk : ah_S E X Qf (pc + 1) lv (va_rf none :: st) f) : ah_S E X Qf pc lv st f :=
  ah_go (fun _ _ _ _ _ _ _ k => lv_null C.1 C.2.1 hd k) kk
theorem ah_iload_n (C : ah_Cx E X cc nL own F L) {k : Fin 4} {x : Int32} (hd : decode cc pc = .ok (.iload_n k, 1)) (hl : lv[(k : Nat)]? = some (some (.int x))) (kk : ah_S E X Qf (pc + 1) lv (.int x :: st) f) : ah_S E X Qf pc lv st f :=
  ah_go (fun _ _ _ _ _ _ h3 k => lv_iload_n C.1 C.2.1 hd rfl (h3.2.2 _ _ hl).1 k) kk
theorem ah_iload (C : ah_Cx E X cc nL own F L) {i : Nat} {x : Int32} (hd : decode cc pc = .ok (.iload i, 2)) (hl : lv[i]? = some (some (.int x))) (kk : ah_S E X Qf (pc + 2) lv (.int x :: st) f) : ah_S E X Qf pc lv st f :=
  ah_go (fun _ _ _ _ _ _ h3 k => lv_iload C.1 C.2.1 hd (h3.2.2 _ _ hl).1 k) kk
theorem ah_aload_n (C : ah_Cx E X cc nL own F L) {k : Fin 4} {r : Option Nat} (hd : decode cc pc = .ok (.aload_n k, 1)) (hl : lv[(k : Nat)]? = some (some (va_rf r))) (kk : ah_S E X Qf (pc + 1) lv (va_rf r :: st) f) : ah_S E X Qf pc lv st f :=
  ah_go (fun _ _ _ _ _ _ h3 k => by
    cases r with
    | none => exact lv_aload_nN C.1 C.2.1 hd rfl (h3.2.2 _ _ hl).1 k
    | some a => exact lv_aload_n C.1 C.2.1 hd rfl (h3.2.2 _ _ hl).1 k) kk
theorem ah_aload (C : ah_Cx E X cc nL own F L) {i : Nat} {r : Option Nat} (hd : decode cc pc = .ok (.aload i, 2)) (hl : lv[i]? = some (some (va_rf r))) (kk : ah_S E X Qf (pc + 2) lv (va_rf r :: st) f) : ah_S E X Qf pc lv st f :=
  ah_go (fun _ _ _ _ _ _ h3 k => by
    cases r with
    | none => exact lv_aloadN C.1 C.2.1 hd (h3.2.2 _ _ hl).1 k
    | some a => exact lv_aload C.1 C.2.1 hd (h3.2.2 _ _ hl).1 k) kk
theorem ah_lv_set {ls ls' : Array Slot} {i : Nat} {v : Value} (h : ah_lv ls lv) (hi : i < lv.length) (hc : v.category = 1) (e : storeLocals ls i v = some ls') : ah_lv ls' (lv.set i (some v)) := by
  obtain ⟨h1, h2, h3⟩ := h
  have key : ∀ l : List (Nat × Value), (∀ q ∈ l, ls[q.1]? = some (.val q.2)) → lv_has ls' lv.length ((i, v) :: l.filter (fun q => !(q.1 == i) && !(q.1 + 1 == i && q.2.category == 2))) := by
    intro l hl
    obtain ⟨ls2, e2, h4⟩ := lv_store1 (ls := ls) (nL := lv.length) (l := l) (i := i) (v := v) ⟨h1, h2, hl⟩ hi hc
    cases e.symm.trans e2
    exact h4
  have h0 := key [] (fun q h => by cases h)
  refine ⟨by rw [List.length_set]; exact h0.1, h0.2.1, fun j w hj => ?_⟩
  by_cases hji : j = i
  · subst hji
    rw [List.getElem?_set_self hi] at hj
    cases hj
    exact ⟨h0.2.2 (j, v) List.mem_cons_self, hc⟩
  · rw [List.getElem?_set_ne (Ne.symm hji)] at hj
    obtain ⟨g1, g2⟩ := h3 j w hj
    have h5 := key [(j, w)] (fun q hq => by rw [List.mem_singleton.mp hq]; exact g1)
    refine ⟨h5.2.2 (j, w) (List.mem_cons_of_mem _ ?_), g2⟩
    rw [List.mem_filter]
    refine ⟨List.mem_cons_self, ?_⟩
    simp [hji, g2]
theorem ah_store {pc' i : Nat} {v : Value} (hi : i < lv.length) (hc : v.category = 1) (hl : lv.set i (some v) = lv')
    (g : ∀ (T : State) (locs : List Loc) (cells slots : Nat) (ls ls' : Array Slot), Stand (ax_p X) (ax_l X) (ax_e X) (ax_R X) (ax_s X) (ax_m X) (ax_a X) (ax_b X) (ax_M X) (ax_c X) T locs cells slots → storeLocals ls i v = some ls' → ∀ t, Steps (ax_p X).tables (ax_e X) (ax_b X) (T.setTop (F0 (ax_m X) pc' ls' st)) t → Steps (ax_p X).tables (ax_e X) (ax_b X) (T.setTop (F0 (ax_m X) pc ls (v :: st))) t)
    (kk : ah_S E X Qf pc' lv' st f) : ah_S E X Qf pc lv (v :: st) f := by
  intro h r n u c hs H locs ls cells slots h1 h2 h3 h4 h5 T hT Xs
  subst hl
  obtain ⟨ls', e', -⟩ := lv_store1 (ls := ls) (nL := lv.length) (l := []) (i := i) (v := v) ⟨h3.1, h3.2.1, fun q hq => by cases hq⟩ hi hc
  obtain ⟨t, a, b⟩ := kk h r n u c hs H locs ls' cells slots h1 h2 (ah_lv_set h3 hi hc e') h4 h5 T hT Xs
  exact ⟨t, g T locs cells slots ls ls' Xs e' t a, b⟩
theorem ah_istore_n (C : ah_Cx E X cc nL own F L) {k : Fin 4} {x : Int32} (hd : decode cc pc = .ok (.istore_n k, 1)) (hi : (k : Nat) < lv.length) (hl : lv.set (k : Nat) (some (.int x)) = lv') (kk : ah_S E X Qf (pc + 1) lv' st f) : ah_S E X Qf pc lv (.int x :: st) f :=
  ah_store hi rfl hl (fun T locs cells slots ls ls' Xs e' t a => by
    have hx := C.1
    have hb := C.2.1
    jvm_step Xs.here [Xs.here.top, ↓top_set Xs.here.top, hx, hb, hd, e']
    exact a) kk
theorem ah_istore (C : ah_Cx E X cc nL own F L) {i : Nat} {x : Int32} (hd : decode cc pc = .ok (.istore i, 2)) (hi : i < lv.length) (hl : lv.set i (some (.int x)) = lv') (kk : ah_S E X Qf (pc + 2) lv' st f) : ah_S E X Qf pc lv (.int x :: st) f :=
  ah_store hi rfl hl (fun T locs cells slots ls ls' Xs e' t a => by
    have hx := C.1
    have hb := C.2.1
    jvm_step Xs.here [Xs.here.top, ↓top_set Xs.here.top, hx, hb, hd, e']
    exact a) kk
theorem ah_astore_n (C : ah_Cx E X cc nL own F L) {k : Fin 4} {x : Option Nat} (hd : decode cc pc = .ok (.astore_n k, 1)) (hi : (k : Nat) < lv.length) (hl : lv.set (k : Nat) (some (va_rf x)) = lv') (kk : ah_S E X Qf (pc + 1) lv' st f) : ah_S E X Qf pc lv (va_rf x :: st) f :=
  ah_store hi (ah_rf_cat x) hl (fun T locs cells slots ls ls' Xs e' t a => by
    have hx := C.1
    have hb := C.2.1
    cases x <;> (simp only [va_rf] at e' a ⊢; jvm_step Xs.here [Xs.here.top, ↓top_set Xs.here.top, hx, hb, hd, e', Value.isRef]; exact a)) kk
theorem ah_astore (C : ah_Cx E X cc nL own F L) {i : Nat} {x : Option Nat} (hd : decode cc pc = .ok (.astore i, 2)) (hi : i < lv.length) (hl : lv.set i (some (va_rf x)) = lv') (kk : ah_S E X Qf (pc + 2) lv' st f) : ah_S E X Qf pc lv (va_rf x :: st) f :=
  ah_store hi (ah_rf_cat x) hl (fun T locs cells slots ls ls' Xs e' t a => by
    have hx := C.1
    have hb := C.2.1
    cases x <;> (simp only [va_rf] at e' a ⊢; jvm_step Xs.here [Xs.here.top, ↓top_set Xs.here.top, hx, hb, hd, e', Value.isRef]; exact a)) kk
theorem ah_iinc (C : ah_Cx E X cc nL own F L) {i : Nat} {d : Int} {x v : Int32} (hd : decode cc pc = .ok (.iinc i d, 3)) (hx0 : lv[i]? = some (some (.int x))) (hv : x + Int32.ofInt d = v) (hl : lv.set i (some (.int v)) = lv') (kk : ah_S E X Qf (pc + 3) lv' st f) : ah_S E X Qf pc lv st f := by
  intro h r n u c hs H locs ls cells slots h1 h2 h3 h4 h5 T hT Xs
  subst hl
  subst hv
  have hi : i < lv.length := (List.getElem?_eq_some_iff.mp hx0).1
  have hg := (h3.2.2 _ _ hx0).1
  obtain ⟨ls', e', -⟩ := lv_store1 (ls := ls) (nL := lv.length) (l := []) (i := i) (v := .int (x + Int32.ofInt d)) ⟨h3.1, h3.2.1, fun q hq => by cases hq⟩ hi rfl
  obtain ⟨t, a, b⟩ := kk h r n u c hs H locs ls' cells slots h1 h2 (ah_lv_set h3 hi rfl e') h4 h5 T hT Xs
  refine ⟨t, ?_, b⟩
  have hx := C.1
  have hb := C.2.1
  jvm_step Xs.here [Xs.here.top, ↓top_set Xs.here.top, hx, hb, hd, hg, e']
  exact a
def ah_mk : List Bool → List (Option Value) → List (Option Value)
  | b :: bs, v :: vs => (match b with | true => v | false => none) :: ah_mk bs vs
  | _, vs => vs.map (fun _ => none)
theorem ah_mk_len : ∀ (bs : List Bool) (vs : List (Option Value)), (ah_mk bs vs).length = vs.length
  | [], [] => rfl
  | [], _ :: _ => by simp [ah_mk]
  | _ :: _, [] => by simp [ah_mk]
  | b :: bs, v :: vs => by simp [ah_mk, ah_mk_len bs vs]
theorem ah_mk_get : ∀ (bs : List Bool) (vs : List (Option Value)) (i : Nat) (v : Value), (ah_mk bs vs)[i]? = some (some v) → vs[i]? = some (some v)
  | [], vs, i, v, h => by
    simp only [ah_mk, List.getElem?_map] at h
    cases hv : vs[i]? with
    | none => rw [hv] at h; cases h
    | some w => rw [hv] at h; cases h
  | _ :: _, [], i, v, h => by simp [ah_mk] at h
  | b :: bs, w :: vs, 0, v, h => by
    cases b with
    | true => simpa [ah_mk] using h
    | false => simp [ah_mk] at h
  | b :: bs, w :: vs, i + 1, v, h => by
    have h' : (ah_mk bs vs)[i]? = some (some v) := by simpa [ah_mk] using h
    simpa using ah_mk_get bs vs i v h'
theorem ah_mask (bs : List Bool) (hl : ah_mk bs lv = lv') (kk : ah_S E X Qf pc lv' st f) : ah_S E X Qf pc lv st f := by
  subst hl
  intro h r n u c hs H locs ls cells slots h1 h2 h3 h4 h5
  refine kk h r n u c hs H locs ls cells slots h1 h2 ⟨by rw [ah_mk_len]; exact h3.1, h3.2.1, fun i v hv => h3.2.2 i v (ah_mk_get bs lv i v hv)⟩ h4 h5
theorem ah_iadd (C : ah_Cx E X cc nL own F L) {x y : Int32} (hd : decode cc pc = .ok (.iadd, 1)) (kk : ah_S E X Qf (pc + 1) lv (.int (x + y) :: st) f) : ah_S E X Qf pc lv (.int y :: .int x :: st) f :=
  ah_go (fun _ _ _ _ _ _ _ k => lv_iadd C.1 C.2.1 hd k) kk
theorem ah_isub (C : ah_Cx E X cc nL own F L) {x y : Int32} (hd : decode cc pc = .ok (.isub, 1)) (kk : ah_S E X Qf (pc + 1) lv (.int (x - y) :: st) f) : ah_S E X Qf pc lv (.int y :: .int x :: st) f :=
  ah_go (fun _ _ _ _ _ _ _ k => lv_isub C.1 C.2.1 hd k) kk
theorem ah_imul (C : ah_Cx E X cc nL own F L) {x y : Int32} (hd : decode cc pc = .ok (.imul, 1)) (kk : ah_S E X Qf (pc + 1) lv (.int (x * y) :: st) f) : ah_S E X Qf pc lv (.int y :: .int x :: st) f :=
  ah_go (fun _ _ _ _ _ _ _ k => lv_imul C.1 C.2.1 hd k) kk
theorem ah_iand (C : ah_Cx E X cc nL own F L) {x y : Int32} (hd : decode cc pc = .ok (.iand, 1)) (kk : ah_S E X Qf (pc + 1) lv (.int (x &&& y) :: st) f) : ah_S E X Qf pc lv (.int y :: .int x :: st) f :=
  ah_go (fun _ _ _ _ _ _ _ k => lv_iand C.1 C.2.1 hd k) kk
theorem ah_ior (C : ah_Cx E X cc nL own F L) {x y : Int32} (hd : decode cc pc = .ok (.ior, 1)) (kk : ah_S E X Qf (pc + 1) lv (.int (x ||| y) :: st) f) : ah_S E X Qf pc lv (.int y :: .int x :: st) f :=
  ah_go (fun _ _ _ _ _ _ _ k => lv_ior C.1 C.2.1 hd k) kk
theorem ah_ixor (C : ah_Cx E X cc nL own F L) {x y : Int32} (hd : decode cc pc = .ok (.ixor, 1)) (kk : ah_S E X Qf (pc + 1) lv (.int (x ^^^ y) :: st) f) : ah_S E X Qf pc lv (.int y :: .int x :: st) f :=
  ah_go (fun _ _ _ _ _ _ _ k => lv_ixor C.1 C.2.1 hd k) kk
theorem ah_ineg (C : ah_Cx E X cc nL own F L) {x : Int32} (hd : decode cc pc = .ok (.ineg, 1)) (kk : ah_S E X Qf (pc + 1) lv (.int (-x) :: st) f) : ah_S E X Qf pc lv (.int x :: st) f :=
  ah_go (fun _ _ _ _ _ _ _ k => lv_ineg C.1 C.2.1 hd k) kk
theorem ah_ishl (C : ah_Cx E X cc nL own F L) {x y : Int32} (hd : decode cc pc = .ok (.ishl, 1)) (kk : ah_S E X Qf (pc + 1) lv (.int (x <<< (y &&& 31)) :: st) f) : ah_S E X Qf pc lv (.int y :: .int x :: st) f :=
  ah_go (fun _ _ _ _ _ _ _ k => lv_ishl C.1 C.2.1 hd k) kk
theorem ah_ishr (C : ah_Cx E X cc nL own F L) {x y : Int32} (hd : decode cc pc = .ok (.ishr, 1)) (kk : ah_S E X Qf (pc + 1) lv (.int (x >>> (y &&& 31)) :: st) f) : ah_S E X Qf pc lv (.int y :: .int x :: st) f :=
  ah_go (fun _ _ _ _ _ _ _ k => lv_ishr C.1 C.2.1 hd k) kk
def ah_ush (x y : Int32) : Int32 := (x.toUInt32 >>> (y.toUInt32 &&& Int32.toUInt32 31)).toInt32
theorem ah_iushr (C : ah_Cx E X cc nL own F L) {x y : Int32} (hd : decode cc pc = .ok (.iushr, 1)) (kk : ah_S E X Qf (pc + 1) lv (.int (ah_ush x y) :: st) f) : ah_S E X Qf pc lv (.int y :: .int x :: st) f :=
  ah_go (fun _ _ _ _ _ _ _ k => lv_iushr C.1 C.2.1 hd rfl k) kk
def ah_chr (x : Int32) : Int32 := (x.toUInt32 % 65536).toInt32
theorem ah_i2c (C : ah_Cx E X cc nL own F L) {x : Int32} (hd : decode cc pc = .ok (.i2c, 1)) (kk : ah_S E X Qf (pc + 1) lv (.int (ah_chr x) :: st) f) : ah_S E X Qf pc lv (.int x :: st) f :=
  ah_go (fun _ _ _ _ _ _ _ k => lv_i2c C.1 C.2.1 hd rfl k) kk
theorem ah_dup (C : ah_Cx E X cc nL own F L) {v : Value} (hd : decode cc pc = .ok (.dup, 1)) (hc : v.category = 1) (kk : ah_S E X Qf (pc + 1) lv (v :: v :: st) f) : ah_S E X Qf pc lv (v :: st) f :=
  ah_go (fun _ _ _ _ _ _ _ k => lv_dup C.1 C.2.1 hd hc k) kk
theorem ah_pop (C : ah_Cx E X cc nL own F L) {v : Value} (hd : decode cc pc = .ok (.pop, 1)) (hc : v.category = 1) (kk : ah_S E X Qf (pc + 1) lv st f) : ah_S E X Qf pc lv (v :: st) f :=
  ah_go (fun _ _ _ _ _ _ _ k => lv_pop C.1 C.2.1 hd hc k) kk
theorem ah_dup_x1 (C : ah_Cx E X cc nL own F L) {v w : Value} (hd : decode cc pc = .ok (.dup_x1, 1)) (hc : v.category = 1) (hc2 : w.category = 1) (kk : ah_S E X Qf (pc + 1) lv (v :: w :: v :: st) f) : ah_S E X Qf pc lv (v :: w :: st) f :=
  ah_go (fun _ _ _ _ _ _ _ k => lv_dup_x1 C.1 C.2.1 hd hc hc2 k) kk
theorem ah_dup2 (C : ah_Cx E X cc nL own F L) {v w : Value} (hd : decode cc pc = .ok (.dup2, 1)) (hc : v.category = 1) (hc2 : w.category = 1) (kk : ah_S E X Qf (pc + 1) lv (v :: w :: v :: w :: st) f) : ah_S E X Qf pc lv (v :: w :: st) f :=
  ah_go (fun _ _ _ _ _ _ _ k => lv_dup2_11 C.1 C.2.1 hd hc hc2 k) kk
theorem ah_goto (C : ah_Cx E X cc nL own F L) {off : Int} {tgt : Nat} (hd : decode cc pc = .ok (.goto off, 3)) (ht : (pc : Int) + off = (tgt : Int)) (kk : ah_S E X Qf tgt lv st f) : ah_S E X Qf pc lv st f :=
  ah_go (fun _ _ _ _ _ _ _ k => lv_goto C.1 C.2.1 hd ht k) kk
theorem ah_br {P : Prop} [hP : Decidable P] {tgt nxt : Nat} {st0 : List Value} {A B : ahM ρ} (g : ∀ (H : Heap) (locs : List Loc) (cells slots : Nat) (Q : State → Prop) (ls : Array Slot), (P → ah_W X H locs cells slots Q (F0 (ax_m X) tgt ls st)) → (¬ P → ah_W X H locs cells slots Q (F0 (ax_m X) nxt ls st)) → ah_W X H locs cells slots Q (F0 (ax_m X) pc ls st0))
    (kt : P → ah_S E X Qf tgt lv st A) (kf : ¬ P → ah_S E X Qf nxt lv st B) : ah_S E X Qf pc lv st0 (if P then A else B) := by
  intro h r n u c hs H locs ls cells slots h1 h2 h3 h4 h5
  refine g H locs cells slots _ ls (fun hp => ?_) (fun hp => ?_)
  · rw [if_pos hp] at hs
    exact kt hp h r n u c hs H locs ls cells slots h1 h2 h3 h4 h5
  · rw [if_neg hp] at hs
    exact kf hp h r n u c hs H locs ls cells slots h1 h2 h3 h4 h5
theorem ah_if_eq (C : ah_Cx E X cc nL own F L) {x : Int32} {off : Int} {tgt : Nat} {A B : ahM ρ} (hd : decode cc pc = .ok (.ifCond .eq off, 3)) (ht : (pc : Int) + off = (tgt : Int)) (kt : x = 0 → ah_S E X Qf tgt lv st A) (kf : ¬ x = 0 → ah_S E X Qf (pc + 3) lv st B) : ah_S E X Qf pc lv (.int x :: st) (if x = 0 then A else B) :=
  ah_br (fun _ _ _ _ _ _ a b => lv_if_eq C.1 C.2.1 hd ht a b) kt kf
theorem ah_if_ne (C : ah_Cx E X cc nL own F L) {x : Int32} {off : Int} {tgt : Nat} {A B : ahM ρ} (hd : decode cc pc = .ok (.ifCond .ne off, 3)) (ht : (pc : Int) + off = (tgt : Int)) (kt : ¬ x = 0 → ah_S E X Qf tgt lv st A) (kf : x = 0 → ah_S E X Qf (pc + 3) lv st B) : ah_S E X Qf pc lv (.int x :: st) (if x = 0 then B else A) :=
  ah_br (fun _ _ _ _ _ _ a b => lv_if_ne C.1 C.2.1 hd ht b a) kf kt
theorem ah_if_lt (C : ah_Cx E X cc nL own F L) {x : Int32} {off : Int} {tgt : Nat} {A B : ahM ρ} (hd : decode cc pc = .ok (.ifCond .lt off, 3)) (ht : (pc : Int) + off = (tgt : Int)) (kt : x < 0 → ah_S E X Qf tgt lv st A) (kf : ¬ x < 0 → ah_S E X Qf (pc + 3) lv st B) : ah_S E X Qf pc lv (.int x :: st) (if x < 0 then A else B) :=
  ah_br (fun _ _ _ _ _ _ a b => lv_if_lt C.1 C.2.1 hd ht a b) kt kf
theorem ah_if_ge (C : ah_Cx E X cc nL own F L) {x : Int32} {off : Int} {tgt : Nat} {A B : ahM ρ} (hd : decode cc pc = .ok (.ifCond .ge off, 3)) (ht : (pc : Int) + off = (tgt : Int)) (kt : 0 ≤ x → ah_S E X Qf tgt lv st A) (kf : ¬ 0 ≤ x → ah_S E X Qf (pc + 3) lv st B) : ah_S E X Qf pc lv (.int x :: st) (if 0 ≤ x then A else B) :=
  ah_br (fun _ _ _ _ _ _ a b => lv_if_ge C.1 C.2.1 hd ht a b) kt kf
theorem ah_if_gt (C : ah_Cx E X cc nL own F L) {x : Int32} {off : Int} {tgt : Nat} {A B : ahM ρ} (hd : decode cc pc = .ok (.ifCond .gt off, 3)) (ht : (pc : Int) + off = (tgt : Int)) (kt : 0 < x → ah_S E X Qf tgt lv st A) (kf : ¬ 0 < x → ah_S E X Qf (pc + 3) lv st B) : ah_S E X Qf pc lv (.int x :: st) (if 0 < x then A else B) :=
  ah_br (fun _ _ _ _ _ _ a b => lv_if_gt C.1 C.2.1 hd ht a b) kt kf
theorem ah_if_le (C : ah_Cx E X cc nL own F L) {x : Int32} {off : Int} {tgt : Nat} {A B : ahM ρ} (hd : decode cc pc = .ok (.ifCond .le off, 3)) (ht : (pc : Int) + off = (tgt : Int)) (kt : x ≤ 0 → ah_S E X Qf tgt lv st A) (kf : ¬ x ≤ 0 → ah_S E X Qf (pc + 3) lv st B) : ah_S E X Qf pc lv (.int x :: st) (if x ≤ 0 then A else B) :=
  ah_br (fun _ _ _ _ _ _ a b => lv_if_le C.1 C.2.1 hd ht a b) kt kf
theorem ah_icmp_eq (C : ah_Cx E X cc nL own F L) {x y : Int32} {off : Int} {tgt : Nat} {A B : ahM ρ} (hd : decode cc pc = .ok (.if_icmp .eq off, 3)) (ht : (pc : Int) + off = (tgt : Int)) (kt : x = y → ah_S E X Qf tgt lv st A) (kf : ¬ x = y → ah_S E X Qf (pc + 3) lv st B) : ah_S E X Qf pc lv (.int y :: .int x :: st) (if x = y then A else B) :=
  ah_br (fun _ _ _ _ _ _ a b => lv_icmp_eq C.1 C.2.1 hd ht a b) kt kf
theorem ah_icmp_ne (C : ah_Cx E X cc nL own F L) {x y : Int32} {off : Int} {tgt : Nat} {A B : ahM ρ} (hd : decode cc pc = .ok (.if_icmp .ne off, 3)) (ht : (pc : Int) + off = (tgt : Int)) (kt : ¬ x = y → ah_S E X Qf tgt lv st A) (kf : x = y → ah_S E X Qf (pc + 3) lv st B) : ah_S E X Qf pc lv (.int y :: .int x :: st) (if x = y then B else A) :=
  ah_br (fun _ _ _ _ _ _ a b => lv_icmp_ne C.1 C.2.1 hd ht b a) kf kt
theorem ah_icmp_lt (C : ah_Cx E X cc nL own F L) {x y : Int32} {off : Int} {tgt : Nat} {A B : ahM ρ} (hd : decode cc pc = .ok (.if_icmp .lt off, 3)) (ht : (pc : Int) + off = (tgt : Int)) (kt : x < y → ah_S E X Qf tgt lv st A) (kf : ¬ x < y → ah_S E X Qf (pc + 3) lv st B) : ah_S E X Qf pc lv (.int y :: .int x :: st) (if x < y then A else B) :=
  ah_br (fun _ _ _ _ _ _ a b => lv_icmp_lt C.1 C.2.1 hd ht a b) kt kf
theorem ah_icmp_ge (C : ah_Cx E X cc nL own F L) {x y : Int32} {off : Int} {tgt : Nat} {A B : ahM ρ} (hd : decode cc pc = .ok (.if_icmp .ge off, 3)) (ht : (pc : Int) + off = (tgt : Int)) (kt : y ≤ x → ah_S E X Qf tgt lv st A) (kf : ¬ y ≤ x → ah_S E X Qf (pc + 3) lv st B) : ah_S E X Qf pc lv (.int y :: .int x :: st) (if y ≤ x then A else B) :=
  ah_br (fun _ _ _ _ _ _ a b => lv_icmp_ge C.1 C.2.1 hd ht a b) kt kf
theorem ah_icmp_gt (C : ah_Cx E X cc nL own F L) {x y : Int32} {off : Int} {tgt : Nat} {A B : ahM ρ} (hd : decode cc pc = .ok (.if_icmp .gt off, 3)) (ht : (pc : Int) + off = (tgt : Int)) (kt : y < x → ah_S E X Qf tgt lv st A) (kf : ¬ y < x → ah_S E X Qf (pc + 3) lv st B) : ah_S E X Qf pc lv (.int y :: .int x :: st) (if y < x then A else B) :=
  ah_br (fun _ _ _ _ _ _ a b => lv_icmp_gt C.1 C.2.1 hd ht a b) kt kf
theorem ah_icmp_le (C : ah_Cx E X cc nL own F L) {x y : Int32} {off : Int} {tgt : Nat} {A B : ahM ρ} (hd : decode cc pc = .ok (.if_icmp .le off, 3)) (ht : (pc : Int) + off = (tgt : Int)) (kt : x ≤ y → ah_S E X Qf tgt lv st A) (kf : ¬ x ≤ y → ah_S E X Qf (pc + 3) lv st B) : ah_S E X Qf pc lv (.int y :: .int x :: st) (if x ≤ y then A else B) :=
  ah_br (fun _ _ _ _ _ _ a b => lv_icmp_le C.1 C.2.1 hd ht a b) kt kf
theorem ah_acmp_eq (C : ah_Cx E X cc nL own F L) {x y : Option Nat} {off : Int} {tgt : Nat} {A B : ahM ρ} (hd : decode cc pc = .ok (.if_acmp .eq off, 3)) (ht : (pc : Int) + off = (tgt : Int)) (kt : x = y → ah_S E X Qf tgt lv st A) (kf : ¬ x = y → ah_S E X Qf (pc + 3) lv st B) : ah_S E X Qf pc lv (va_rf y :: va_rf x :: st) (if x = y then A else B) :=
  ah_br (fun _ _ _ _ _ _ a b => lv_acmp_eq C.1 C.2.1 hd ht a b) kt kf
theorem ah_acmp_ne (C : ah_Cx E X cc nL own F L) {x y : Option Nat} {off : Int} {tgt : Nat} {A B : ahM ρ} (hd : decode cc pc = .ok (.if_acmp .ne off, 3)) (ht : (pc : Int) + off = (tgt : Int)) (kt : ¬ x = y → ah_S E X Qf tgt lv st A) (kf : x = y → ah_S E X Qf (pc + 3) lv st B) : ah_S E X Qf pc lv (va_rf y :: va_rf x :: st) (if x = y then B else A) :=
  ah_br (fun _ _ _ _ _ _ a b => lv_acmp_ne C.1 C.2.1 hd ht b a) kf kt
theorem ah_ifnull (C : ah_Cx E X cc nL own F L) {x : Option Nat} {off : Int} {tgt : Nat} {A B : ahM ρ} (hd : decode cc pc = .ok (.ifnull off, 3)) (ht : (pc : Int) + off = (tgt : Int)) (kt : x = none → ah_S E X Qf tgt lv st A) (kf : ¬ x = none → ah_S E X Qf (pc + 3) lv st B) : ah_S E X Qf pc lv (va_rf x :: st) (if x = none then A else B) :=
  ah_br (fun _ _ _ _ _ _ a b => by
    cases x with
    | none => exact lv_ifnullN C.1 C.2.1 hd ht (a rfl)
    | some q => exact lv_ifnull C.1 C.2.1 hd (b (fun z => by cases z))) kt kf
theorem ah_ifnonnull (C : ah_Cx E X cc nL own F L) {x : Option Nat} {off : Int} {tgt : Nat} {A B : ahM ρ} (hd : decode cc pc = .ok (.ifnonnull off, 3)) (ht : (pc : Int) + off = (tgt : Int)) (kt : ¬ x = none → ah_S E X Qf tgt lv st A) (kf : x = none → ah_S E X Qf (pc + 3) lv st B) : ah_S E X Qf pc lv (va_rf x :: st) (if x = none then B else A) :=
  ah_br (fun _ _ _ _ _ _ a b => by
    cases x with
    | none => exact lv_ifnonnullN C.1 C.2.1 hd (a rfl)
    | some q => exact lv_ifnonnull C.1 C.2.1 hd ht (b (fun z => by cases z))) kf kt
end AHX
