/-! rows for loops: a round that ends or goes on; indices of what the model keeps -/
def fd_or {α β : Type} : α ⊕ β → (β → α) → α
  | .inl a, _ => a
  | .inr b, f => f b
theorem fd_or_l {α β : Type} {a : α} {f : β → α} : fd_or (.inl a) f = a := rfl
theorem fd_or_r {α β : Type} {b : β} {f : β → α} : fd_or (.inr b) f = f b := rfl
theorem fm_size {σ : FMS} {i : Int32} {k : Nat} (h : fm_Inv σ) (e : i = nI k) (hk : k ≤ 6) (hc : ¬ fm_mI σ 21 ≤ i) : k < 6 ∧ ∃ m : Nat, k < m ∧ m ≤ 6 ∧ fm_mI σ 21 = nI m := by
  obtain ⟨m, hm, em⟩ := h.2.2.1
  rw [em, e] at hc
  have : k < m := Nat.lt_of_not_le fun q => hc (nI_le q (by omega))
  exact ⟨by omega, m, this, hm, em⟩
theorem fm_idx {σ : FMS} {i : Int32} {n : Nat} (h : fm_Inv σ) (hi : ∃ k : Nat, k ≤ 6 ∧ 7 ≤ n + k ∧ i = nI k) (hc : ¬ fm_mI σ 21 ≤ i) : vp_in i 7 := by
  obtain ⟨k, h1, h2, e⟩ := hi
  have := (fm_size h e h1 hc).1
  rw [e]
  exact vp_in_nI (by omega) (by decide)
theorem fm_idx1 {σ : FMS} {i : Int32} {n : Nat} (h : fm_Inv σ) (hi : ∃ k : Nat, k ≤ 6 ∧ 7 ≤ n + k ∧ i = nI k) (hc : ¬ fm_mI σ 21 ≤ i) : vp_in (i + 1) 7 := by
  obtain ⟨k, h1, h2, e⟩ := hi
  have := (fm_size h e h1 hc).1
  rw [e, nI_1]
  exact vp_in_nI (by omega) (by decide)
theorem fm_lt6 {σ : FMS} {i : Int32} {n : Nat} (h : fm_Inv σ) (hi : ∃ k : Nat, k ≤ 6 ∧ 7 ≤ n + k ∧ i = nI k) (hc : ¬ fm_mI σ 21 ≤ i) : ∃ k : Nat, k < 6 ∧ i = nI k := by
  obtain ⟨k, h1, h2, e⟩ := hi
  exact ⟨k, (fm_size h e h1 hc).1, e⟩
theorem fm_step {σ : FMS} {i : Int32} {n : Nat} (h : fm_Inv σ) (hi : ∃ k : Nat, k ≤ 6 ∧ 7 ≤ n + 1 + k ∧ i = nI k) (hc : ¬ fm_mI σ 21 ≤ i) : ∃ k : Nat, k ≤ 6 ∧ 7 ≤ n + k ∧ i + 1 = nI k := by
  obtain ⟨k, h1, h2, e⟩ := hi
  have := (fm_size h e h1 hc).1
  exact ⟨k + 1, by omega, by omega, by rw [e]; exact nI_1 k⟩
theorem fm_7 {x : Int32} (h : ∃ k : Nat, k < 6 ∧ x = nI k) : vp_in x 7 := by
  obtain ⟨k, hk, rfl⟩ := h
  exact vp_in_nI (by omega) (by decide)
theorem fm_i7 {p : Int32} (h : ∃ k : Nat, k < 6 ∧ p = nI k) : ∃ k : Nat, k ≤ 6 ∧ 7 ≤ 7 + k ∧ p = nI k := by
  obtain ⟨k, hk, rfl⟩ := h
  exact ⟨k, by omega, by omega, rfl⟩
