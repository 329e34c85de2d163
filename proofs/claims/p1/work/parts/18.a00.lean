theorem i_pred {a b v : Int32} (e : a.toInt = b.toInt + 1) (h : a ≤ v) : b < v := by
  rw [Int32.le_iff_toInt_le] at h
  rw [Int32.lt_iff_toInt_lt]
  omega
theorem i_npred {a b v : Int32} (e : a.toInt = b.toInt + 1) (h : b < v) : a ≤ v := by
  rw [Int32.lt_iff_toInt_lt] at h
  rw [Int32.le_iff_toInt_le]
  omega
theorem i_nn {a v : Int32} (e : 0 ≤ a.toInt) (h : a ≤ v) : ¬ v < 0 := by
  rw [Int32.le_iff_toInt_le] at h
  rw [Int32.lt_iff_toInt_lt]
  have : (0 : Int32).toInt = 0 := by decide
  omega
theorem pk8 (x : Int32) : x < 0 ∨ (¬ x < 0 ∧ 8 ≤ x ∧ 7 < x) ∨ x = 0 ∨ ∃ j : Nat, ¬ x < 0 ∧ ¬ 8 ≤ x ∧ ¬ 7 < x ∧ ah_in x 8 = true ∧ x.toNatClampNeg = j + 1 := by
  rcases pk_ix x (n := 8) (by omega) with h1 | h2 | ⟨j, hj, ej⟩
  · exact Or.inl h1
  · exact Or.inr (Or.inl ⟨i_nn (a := 8) (by decide) h2, h2, i_pred (a := 8) (by decide) h2⟩)
  · cases j with
    | zero => exact Or.inr (Or.inr (Or.inl (by rw [ej]; exact nI_0)))
    | succ j =>
      refine Or.inr (Or.inr (Or.inr ⟨j, ?_⟩))
      rw [ej]
      exact ⟨nI_pos (by omega), nI_ge (b := 8) (by omega) (by omega), nI_nlt (a := 7) (by omega) (by omega), ah_in_iff.mpr (vp_in_nI (by omega) (by omega)), nI_clamp (by omega)⟩
theorem pk26 (x : Int32) : x < 0 ∨ (¬ x < 0 ∧ 26 ≤ x ∧ 25 < x) ∨ ∃ j : Nat, ¬ x < 0 ∧ ¬ 26 ≤ x ∧ ¬ 25 < x ∧ ah_in x 26 = true ∧ x.toNatClampNeg = j := by
  rcases pk_ix x (n := 26) (by omega) with h1 | h2 | ⟨j, hj, ej⟩
  · exact Or.inl h1
  · exact Or.inr (Or.inl ⟨i_nn (a := 26) (by decide) h2, h2, i_pred (a := 26) (by decide) h2⟩)
  · refine Or.inr (Or.inr ⟨j, ?_⟩)
    rw [ej]
    exact ⟨nI_pos (by omega), nI_ge (b := 26) (by omega) (by omega), nI_nlt (a := 25) (by omega) (by omega), ah_in_iff.mpr (vp_in_nI (by omega) (by omega)), nI_clamp (by omega)⟩
theorem i_le0 {v : Int32} (h : v < 1) : v ≤ 0 := by
  rw [Int32.lt_iff_toInt_lt] at h
  rw [Int32.le_iff_toInt_le]
  have h0 : (0 : Int32).toInt = 0 := by decide
  have h1 : (1 : Int32).toInt = 1 := by decide
  omega
theorem i_m1 {v : Int32} (h : ¬ v < 0) : ((0 : Int32) - 1) < v := by
  rw [Int32.lt_iff_toInt_lt] at h ⊢
  have h0 : (0 : Int32).toInt = 0 := by decide
  have h1 : ((0 : Int32) - 1).toInt = -1 := by decide
  omega

