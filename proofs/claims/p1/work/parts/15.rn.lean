section AHN
def Rn {ρ : Type} (f : ahM ρ) (h : ahH) (post : ρ → ahH → Prop) : Prop := ∃ r n u c, f h = some (r, n, u, c) ∧ post r (ah_nx h n u c)
def ha_N (h : ahH) (a kd n : Nat) : ahH := (a + 1, h.2.1 + n, va_up h.2.2.1 a (kd, n), va_up (ah_I h) a (fun _ => 0), va_up (ah_P h) a (fun _ => none))
def ha_I (h : ahH) (a k : Nat) (x : Int32) : ahH := (h.1, h.2.1, h.2.2.1, ah_u2 (ah_I h) a k x, ah_P h)
def ha_P (h : ahH) (a k : Nat) (x : Option Nat) : ahH := (h.1, h.2.1, h.2.2.1, ah_I h, ah_u2 (ah_P h) a k x)
def ha_F (h : ahH) (a n : Nat) (x : Int32) : ahH := (h.1, h.2.1, h.2.2.1, va_up (ah_I h) a (fun j => if j < n then x else ah_I h a j), ah_P h)
variable {h : ahH} {a b j k kd n : Nat} {x : Int32} {r : Option Nat}
theorem n_N : (ha_N h a kd n).1 = a + 1 := by
  obtain ⟨_, _, _, _, _⟩ := h
  rfl
theorem n_I : (ha_I h a k x).1 = h.1 := by
  obtain ⟨_, _, _, _, _⟩ := h
  rfl
theorem n_P : (ha_P h a k r).1 = h.1 := by
  obtain ⟨_, _, _, _, _⟩ := h
  rfl
theorem n_F : (ha_F h a n x).1 = h.1 := by
  obtain ⟨_, _, _, _, _⟩ := h
  rfl
theorem u_N : (ha_N h a kd n).2.1 = h.2.1 + n := by
  obtain ⟨_, _, _, _, _⟩ := h
  rfl
theorem u_I : (ha_I h a k x).2.1 = h.2.1 := by
  obtain ⟨_, _, _, _, _⟩ := h
  rfl
theorem u_P : (ha_P h a k r).2.1 = h.2.1 := by
  obtain ⟨_, _, _, _, _⟩ := h
  rfl
theorem u_F : (ha_F h a n x).2.1 = h.2.1 := by
  obtain ⟨_, _, _, _, _⟩ := h
  rfl
theorem kd_N : ah_kd (ha_N h a kd n) b = if b = a then kd else ah_kd h b := by
  show (va_up h.2.2.1 a (kd, n) b).1 = _
  by_cases e : b = a
  · rw [if_pos e, e, va_up_self]
  · rw [if_neg e, va_up_ne _ _ e]; rfl
theorem kd_I : ah_kd (ha_I h a k x) b = ah_kd h b := by
  obtain ⟨_, _, _, _, _⟩ := h
  rfl
theorem kd_P : ah_kd (ha_P h a k r) b = ah_kd h b := by
  obtain ⟨_, _, _, _, _⟩ := h
  rfl
theorem kd_F : ah_kd (ha_F h a n x) b = ah_kd h b := by
  obtain ⟨_, _, _, _, _⟩ := h
  rfl
theorem ln_N : ah_ln (ha_N h a kd n) b = if b = a then n else ah_ln h b := by
  show (va_up h.2.2.1 a (kd, n) b).2 = _
  by_cases e : b = a
  · rw [if_pos e, e, va_up_self]
  · rw [if_neg e, va_up_ne _ _ e]; rfl
theorem ln_I : ah_ln (ha_I h a k x) b = ah_ln h b := by
  obtain ⟨_, _, _, _, _⟩ := h
  rfl
theorem ln_P : ah_ln (ha_P h a k r) b = ah_ln h b := by
  obtain ⟨_, _, _, _, _⟩ := h
  rfl
theorem ln_F : ah_ln (ha_F h a n x) b = ah_ln h b := by
  obtain ⟨_, _, _, _, _⟩ := h
  rfl
theorem I_N : ah_I (ha_N h a kd n) b j = if b = a then 0 else ah_I h b j := by
  show va_up (ah_I h) a (fun _ => 0) b j = _
  by_cases e : b = a
  · rw [if_pos e, e, va_up_self]
  · rw [if_neg e, va_up_ne _ _ e]
theorem I_I : ah_I (ha_I h a k x) b j = if b = a ∧ j = k then x else ah_I h b j := by
  obtain ⟨_, _, _, _, _⟩ := h
  rfl
theorem I_P : ah_I (ha_P h a k r) b j = ah_I h b j := by
  obtain ⟨_, _, _, _, _⟩ := h
  rfl
theorem I_F : ah_I (ha_F h a n x) b j = if b = a then (if j < n then x else ah_I h b j) else ah_I h b j := by
  show va_up (ah_I h) a (fun j => if j < n then x else ah_I h a j) b j = _
  by_cases e : b = a
  · subst e; rw [if_pos rfl, va_up_self]
  · rw [if_neg e, va_up_ne _ _ e]
theorem P_N : ah_P (ha_N h a kd n) b j = if b = a then none else ah_P h b j := by
  show va_up (ah_P h) a (fun _ => none) b j = _
  by_cases e : b = a
  · rw [if_pos e, e, va_up_self]
  · rw [if_neg e, va_up_ne _ _ e]
theorem P_I : ah_P (ha_I h a k x) b j = ah_P h b j := by
  obtain ⟨_, _, _, _, _⟩ := h
  rfl
theorem P_P : ah_P (ha_P h a k r) b j = if b = a ∧ j = k then r else ah_P h b j := by
  obtain ⟨_, _, _, _, _⟩ := h
  rfl
theorem P_F : ah_P (ha_F h a n x) b j = ah_P h b j := by
  obtain ⟨_, _, _, _, _⟩ := h
  rfl
variable {ρ α : Type} {post : ρ → ahH → Prop} {ci : Nat}
theorem rn_cut {f : ahM ρ} {Φ : ahH → Prop} (hΦ : Φ h) (k : ∀ h', Φ h' → Rn f h' post) : Rn f h post := k h hΦ
theorem rn_ret {v : ρ} (hp : post v h) : Rn (ah_ret v) h post := ⟨v, 0, 0, h.2.2, rfl, hp⟩
theorem rn_retZ {post : Int32 → ahH → Prop} {v : Int32} (hv : v = 0 ∨ v = 1) (hp : post v h) : Rn (ah_retZ v) h post := ⟨v, 0, 0, h.2.2, by unfold ah_retZ; rw [if_pos hv], hp⟩
theorem rn_rd {g : ahH → Option α} {f : α → ahM ρ} {v : α} (hg : g h = some v) (k : Rn (f v) h post) : Rn (ah_rd g f) h post := by
  obtain ⟨r, n, u, c, e, hp⟩ := k
  exact ⟨r, n, u, c, by unfold ah_rd; rw [hg]; exact e, hp⟩
theorem rn_wr {g : ahH → Option ahC} {f : ahM ρ} {c : ahC} (hg : g h = some c) (k : Rn f (h.1, h.2.1, c) post) : Rn (ah_wr g f) h post := by
  obtain ⟨r, n, u, c', e, hp⟩ := k
  exact ⟨r, n, u, c', by unfold ah_wr; rw [hg]; exact e, hp⟩
theorem rn_bnd {g : ahM α} {f : α → ahM ρ} (k : Rn g h (fun v h1 => Rn (f v) h1 post)) : Rn (ah_bnd g f) h post := by
  obtain ⟨v, n1, u1, c1, e1, r, n2, u2, c2, e2, hp⟩ := k
  refine ⟨r, n1 + n2, u1 + u2, c2, by unfold ah_bnd; rw [e1]; dsimp only; rw [e2], ?_⟩
  have e : ah_nx h (n1 + n2) (u1 + u2) c2 = ah_nx (ah_nx h n1 u1 c1) n2 u2 c2 := by simp only [ah_nx, Nat.add_assoc]
  rw [e]
  exact hp
theorem Rn.mono {f : ahM ρ} {post2 : ρ → ahH → Prop} (k : Rn f h post) (hi : ∀ v h1, post v h1 → post2 v h1) : Rn f h post2 := by
  obtain ⟨r, n, u, c, e, hp⟩ := k
  exact ⟨r, n, u, c, e, hi _ _ hp⟩
theorem rn_new {post : Option Nat → ahH → Prop} (ha : h.1 = a) (hp : post (some a) (ha_N h a (ci + 1) n)) : Rn (ah_new ci n) h post := by
  subst ha
  exact ⟨some h.1, 1, n, _, rfl, hp⟩
theorem rn_na {post : Option Nat → ahH → Prop} {z : Int32} (ha : h.1 = a) (hz : ¬ z < 0 ∧ z.toNatClampNeg ≤ 16777216) (hn : z.toNatClampNeg = n) (hp : post (some a) (ha_N h a (100 + j) n)) : Rn (ah_na j z) h post := by
  subst ha
  subst hn
  exact ⟨some h.1, 1, z.toNatClampNeg, _, by unfold ah_na; rw [if_pos hz], hp⟩
theorem rn_nl {post : Option Nat → ahH → Prop} {z : Int32} (ha : h.1 = a) (hz : ¬ z < 0 ∧ z.toNatClampNeg ≤ 16777216) (hn : z.toNatClampNeg = n) (hp : post (some a) (ha_N h a (200 + j) n)) : Rn (ah_nl j z) h post := by
  subst ha
  subst hn
  exact ⟨some h.1, 1, z.toNatClampNeg, _, by unfold ah_nl; rw [if_pos hz], hp⟩
theorem rn_cV {g : Nat → ahM ρ} (hk : ah_kd h a = ci + 1) (k : Rn (g a) h post) : Rn (ah_cV ci (some a) g) h post := by
  obtain ⟨r, n, u, c, e, hp⟩ := k
  exact ⟨r, n, u, c, by unfold ah_cV; dsimp only; rw [if_pos hk]; exact e, hp⟩
theorem rn_cI {g : Nat → ahM ρ} (k : Rn (g a) h post) : Rn (ah_cI (some a) g) h post := k
theorem rn_gI {f : Int32 → ahM ρ} (hk : ah_kd h a = ci + 1) (hv : ah_I h a k = x) (kk : Rn (f x) h post) : Rn (ah_rd (ah_gI ci (some a) k) f) h post :=
  rn_rd (by unfold ah_gI; dsimp only; rw [if_pos hk, hv]) kk
theorem rn_gR {f : Option Nat → ahM ρ} (hk : ah_kd h a = ci + 1) (hv : ah_P h a k = r) (kk : Rn (f r) h post) : Rn (ah_rd (ah_gR ci (some a) k) f) h post :=
  rn_rd (by unfold ah_gR; dsimp only; rw [if_pos hk, hv]) kk
theorem rn_pI {f : ahM ρ} (hk : ah_kd h a = ci + 1) (kk : Rn f (ha_I h a k x) post) : Rn (ah_wr (ah_pI ci (some a) k x) f) h post :=
  rn_wr (by unfold ah_pI; dsimp only; rw [if_pos hk]) kk
theorem rn_pR {f : ahM ρ} (hk : ah_kd h a = ci + 1) (kk : Rn f (ha_P h a k r) post) : Rn (ah_wr (ah_pR ci (some a) k r) f) h post :=
  rn_wr (by unfold ah_pR; dsimp only; rw [if_pos hk]) kk
theorem rn_aI {f : Int32 → ahM ρ} {i : Int32} (hk : ah_kd h a = 100 + j) (hl : ah_ln h a = n) (hi : ah_in i n = true) (hj : i.toNatClampNeg = k) (hv : ah_I h a k = x) (kk : Rn (f x) h post) : Rn (ah_rd (ah_aI j (some a) i) f) h post :=
  rn_rd (by unfold ah_aI; dsimp only; rw [if_pos ⟨Or.inl hk, by rw [hl]; exact hi⟩, hj, hv]) kk
theorem rn_aR {f : Option Nat → ahM ρ} {i : Int32} (hk : ah_kd h a = 100 + j) (hl : ah_ln h a = n) (hi : ah_in i n = true) (hj : i.toNatClampNeg = k) (hv : ah_P h a k = r) (kk : Rn (f r) h post) : Rn (ah_rd (ah_aR j (some a) i) f) h post :=
  rn_rd (by unfold ah_aR; dsimp only; rw [if_pos ⟨hk, by rw [hl]; exact hi⟩, hj, hv]) kk
theorem rn_sI {f : ahM ρ} {i : Int32} (hk : ah_kd h a = 100 + j) (hl : ah_ln h a = n) (hi : ah_in i n = true) (hj : i.toNatClampNeg = k) (kk : Rn f (ha_I h a k x) post) : Rn (ah_wr (ah_sI j (some a) i x) f) h post :=
  rn_wr (by unfold ah_sI; dsimp only; rw [if_pos ⟨hk, by rw [hl]; exact hi⟩, hj]) kk
theorem rn_sR {f : ahM ρ} {i : Int32} (hk : ah_kd h a = 100 + j) (hl : ah_ln h a = n) (hi : ah_in i n = true) (hx : ah_isK h ci r = true) (hj : i.toNatClampNeg = k) (kk : Rn f (ha_P h a k r) post) : Rn (ah_wr (ah_sR j ci (some a) i r) f) h post :=
  rn_wr (by unfold ah_sR; dsimp only; rw [if_pos ⟨hk, by rw [hl]; exact hi, hx⟩, hj]) kk
theorem rn_sL {f : Unit → ahM ρ} {i : Int32} (hk : ah_kd h a = 200 + j) (hl : ah_ln h a = n) (hi : ah_in i n = true) (kk : Rn (f ()) h post) : Rn (ah_rd (ah_sL j (some a) i) f) h post :=
  rn_rd (by unfold ah_sL; dsimp only; rw [if_pos ⟨hk, by rw [hl]; exact hi⟩]) kk
theorem rn_al {f : Int32 → ahM ρ} (hk : ah_kd h a = 100 + j) (hl : Int32.ofNat (ah_ln h a) = x) (kk : Rn (f x) h post) : Rn (ah_rd (ah_al j (some a)) f) h post :=
  rn_rd (by unfold ah_al; dsimp only; rw [if_pos (Or.inl hk), hl]) kk
theorem rn_gs {f : Option Nat → ahM ρ} (hv : ah_P h 0 0 = r) (kk : Rn (f r) h post) : Rn (ah_rd ah_gs f) h post :=
  rn_rd (by unfold ah_gs; rw [hv]) kk
theorem rn_t {P : Prop} [hP : Decidable P] {A B : ahM ρ} (hc : P) (kk : Rn A h post) : Rn (if P then A else B) h post := by rw [if_pos hc]; exact kk
theorem rn_f {P : Prop} [hP : Decidable P] {A B : ahM ρ} (hc : ¬ P) (kk : Rn B h post) : Rn (if P then A else B) h post := by rw [if_neg hc]; exact kk
theorem rn_lp {σ : Type} {bd : (σ → ahM ρ) → σ → ahM ρ} {m : Nat} {s : σ} (kk : Rn (bd (ah_lp bd m) s) h post) : Rn (ah_lp bd (m + 1) s) h post := kk
theorem FU_1 : FU = 1999999 + 1 := rfl
theorem ah_same_F0 (h : ahH) (a : Nat) (x : Int32) : ha_F h a 0 x = h := by
  unfold ha_F
  have e : va_up (ah_I h) a (fun j => if j < 0 then x else ah_I h a j) = ah_I h := by
    funext b j
    by_cases e : b = a
    · subst e; rw [va_up_self]; rfl
    · rw [va_up_ne _ _ e]
  rw [e]
  rfl
theorem fill_step (h : ahH) (a i : Nat) (x : Int32) : ha_I (ha_F h a i x) a i x = ha_F h a (i + 1) x := by
  unfold ha_I ha_F
  refine congrArg (fun I => (h.1, h.2.1, h.2.2.1, I, ah_P h)) ?_
  funext b j
  show (if b = a ∧ j = i then x else va_up (ah_I h) a (fun j => if j < i then x else ah_I h a j) b j) = _
  by_cases e : b = a
  · subst e
    rw [va_up_self, va_up_self]
    by_cases ej : j = i
    · subst ej
      rw [if_pos ⟨rfl, rfl⟩, if_pos (by omega)]
    · rw [if_neg (fun z => ej z.2)]
      by_cases e1 : j < i
      · rw [if_pos e1, if_pos (by omega)]
      · rw [if_neg e1, if_neg (by omega)]
  · rw [if_neg (fun z => e z.1), va_up_ne _ _ e, va_up_ne _ _ e]
theorem rn_fill {post : Unit → ahH → Prop} {v : Int32} (hk : ah_kd h a = 100) (hl : ah_ln h a = n) (hn : n < 1000000) (hp : post () (ha_F h a n v)) : Rn (fn_Ar_fill (some a) v) h post := by
  unfold fn_Ar_fill
  refine rn_al (x := nI n) hk (by rw [hl]; rfl) ?_
  have key : ∀ (d i m : Nat), n - i = d → i ≤ n → d < m → Rn (ah_lp (fn_Ar_fill_B5 (some a) v (nI n)) m (nI i)) (ha_F h a i v) post := by
    intro d
    induction d with
    | zero =>
      intro i m h1 h2 h3
      obtain ⟨m', rfl⟩ : ∃ m', m = m' + 1 := ⟨m - 1, by omega⟩
      refine rn_lp ?_
      unfold fn_Ar_fill_B5
      have e : i = n := by omega
      subst e
      exact rn_t (nI_le (Nat.le_refl _) (by omega)) (rn_ret hp)
    | succ d ih =>
      intro i m h1 h2 h3
      obtain ⟨m', rfl⟩ : ∃ m', m = m' + 1 := ⟨m - 1, by omega⟩
      refine rn_lp ?_
      unfold fn_Ar_fill_B5
      refine rn_f (nI_ge (by omega) (by omega)) ?_
      refine rn_sI (j := 0) (n := n) (k := i) hk hl (ah_in_iff.mpr (vp_in_nI (by omega) (by omega))) (nI_clamp (by omega)) ?_
      rw [fill_step]
      have := ih (i + 1) m' (by omega) (by omega) (by omega)
      rw [← nI_1] at this
      exact this
  have := key n 0 FU (by omega) (by omega) (by show n < 2000000; omega)
  rw [ah_same_F0, nI_0] at this
  exact this
end AHN
