theorem le_n {h : ahH} {n0 k : Nat} (e : h.1 = n0 + k) (hk : k ≤ 1000) : h.1 ≤ n0 + 1000 := by omega
theorem le_u {h : ahH} {k : Nat} (e : h.2.1 = k) (hk : k ≤ 1000000) : h.2.1 ≤ 1000000 := by omega
theorem nar_0 : vp_nar .char (0 : Int32) = 0 := by decide
theorem rn_bI {ρ : Type} {f : Int32 → ahM ρ} {post : ρ → ahH → Prop} {h : ahH} {b n k : Nat} {x i : Int32} (hk : ah_kd h b = 99) (hl : ah_ln h b = n) (hi : ah_in i n = true) (hj : i.toNatClampNeg = k) (hv : ah_I h b k = x) (kk : Rn (f x) h post) : Rn (ah_rd (ah_aI 0 (some b) i) f) h post :=
  rn_rd (by unfold ah_aI; dsimp only; rw [if_pos ⟨Or.inr ⟨rfl, hk⟩, by rw [hl]; exact hi⟩, hj, hv]) kk
theorem rn_bl {ρ : Type} {f : Int32 → ahM ρ} {post : ρ → ahH → Prop} {h : ahH} {b : Nat} {x : Int32} (hk : ah_kd h b = 99) (hl : Int32.ofNat (ah_ln h b) = x) (kk : Rn (f x) h post) : Rn (ah_rd (ah_al 0 (some b)) f) h post :=
  rn_rd (by unfold ah_al; dsimp only; rw [if_pos (Or.inr ⟨rfl, hk⟩), hl]) kk

