/-! where find and firstToEnd lead, how drop counts -/
theorem fd_find_l {σ : FDS} (h : fd_Inv σ) : ∀ (n : Nat) (i : Int32), (∃ k : Nat, k ≤ 6 ∧ 7 ≤ n + k ∧ i = nI k) → fv_Mm_find_l2 n σ i = -1 ∨ ∃ k : Nat, k < 6 ∧ fv_Mm_find_l2 n σ i = nI k ∧ ∃ m : Nat, k < m ∧ m ≤ 6 ∧ fd_mS σ = nI m := by
  intro n
  induction n with
  | zero =>
    intro i hi
    obtain ⟨k, h1, h2, -⟩ := hi
    omega
  | succ n ih =>
    intro i hi
    rw [fv_Mm_find_l2]
    by_cases c : fd_mS σ ≤ i
    · rw [if_pos c]
      exact Or.inl rfl
    · rw [if_neg c]
      have st := ih (i + 1) (fd_step h hi c)
      split
      · split
        · split
          · obtain ⟨k, h1, h2, e⟩ := hi
            have q := fd_size h e h1 c
            exact Or.inr ⟨k, q.1, e, q.2⟩
          · exact st
        · exact st
      · exact st
theorem fd_find_all {σ : FDS} (h : fd_Inv σ) (c : ¬ fv_Mm_find σ = -1) : ∃ k : Nat, k < 6 ∧ fv_Mm_find σ = nI k ∧ ∃ m : Nat, k < m ∧ m ≤ 6 ∧ fd_mS σ = nI m := (fd_find_l h 7 0 ⟨0, by decide, by decide, rfl⟩).resolve_left c
theorem fd_find_rng {σ : FDS} (h : fd_Inv σ) (c : ¬ fv_Mm_find σ = -1) : ∃ k : Nat, k < 6 ∧ fv_Mm_find σ = nI k := by
  obtain ⟨k, h1, h2, -⟩ := fd_find_all h c
  exact ⟨k, h1, h2⟩
theorem fd_find_in {σ : FDS} (h : fd_Inv σ) (c : ¬ fv_Mm_find σ = -1) : vp_in (fv_Mm_find σ) 6 := fd_in6 (fd_find_rng h c)
theorem fd_find_sz {σ : FDS} (h : fd_Inv σ) (c : ¬ fv_Mm_find σ = -1) : ∃ n : Nat, n < 6 ∧ fd_mS σ = nI (n + 1) := by
  obtain ⟨k, h1, -, m, h3, h4, h5⟩ := fd_find_all h c
  exact ⟨m - 1, by omega, by rw [h5, show m - 1 + 1 = m by omega]⟩
theorem fd_ft_l {σ : FDS} (h : fd_Inv σ) : ∀ (n : Nat) (f i : Int32), (∃ k : Nat, k < 6 ∧ f = nI k) → (∃ k : Nat, k ≤ 6 ∧ 7 ≤ n + k ∧ i = nI k) → ∃ k : Nat, k < 6 ∧ fv_Mm_firstToEnd_l4 n σ f i = nI k := by
  intro n
  induction n with
  | zero =>
    intro f i hf hi
    obtain ⟨k, h1, h2, -⟩ := hi
    omega
  | succ n ih =>
    intro f i hf hi
    rw [fv_Mm_firstToEnd_l4]
    by_cases c : fd_mS σ ≤ i
    · rw [if_pos c]
      exact hf
    · rw [if_neg c]
      split
      · exact ih f (i + 1) hf (fd_step h hi c)
      · exact ih i (i + 1) (fd_lt6 h hi c) (fd_step h hi c)
theorem fd_ft_rng {σ : FDS} (h : fd_Inv σ) : ∃ k : Nat, k < 6 ∧ fv_Mm_firstToEnd σ = nI k := fd_ft_l h 7 0 1 ⟨0, by decide, rfl⟩ ⟨1, by decide, by decide, rfl⟩
theorem fd_drop_l {σ : FDS} {p1 : Int32} : ∀ (n : Nat) (σ1 : FDS) (k : Int32), fd_Inv σ1 → fd_mS σ1 = fd_mS σ → (∃ i : Nat, 1 ≤ i ∧ i ≤ 6 ∧ 7 ≤ n + i ∧ k = nI i) → fd_mS (fv_Mm_drop_l11 n σ p1 σ1 k) = fd_mS σ - 1 := by
  intro n
  induction n with
  | zero =>
    intro σ1 k h hs hk
    obtain ⟨i, h0, h1, h2, -⟩ := hk
    omega
  | succ n ih =>
    intro σ1 k h hs hk
    rw [fv_Mm_drop_l11]
    by_cases c : fd_mS σ1 ≤ k
    · rw [if_pos c, ← hs]
      rfl
    · rw [if_neg c]
      exact ih _ _ (fd_inv_pF (fd_plt h (fd_idxd h hk c)) h) hs (fd_stepd h hk c)
theorem fd_drop_sz {σ : FDS} {p1 : Int32} (h : fd_Inv σ) (hp : ∃ k : Nat, k < 6 ∧ p1 = nI k) : fd_mS (fv_Mm_drop σ p1) = fd_mS σ - 1 := fd_drop_l 7 σ (p1 + 1) h rfl (fd_k1 hp)
theorem fd_szA {σ : FDS} (h : fd_Inv σ) (c : fd_mS σ = 6) : vp_in (fd_mS (fv_Mm_drop σ (fv_Mm_firstToEnd σ))) 6 := by
  rw [fd_drop_sz h (fd_ft_rng h), c]
  exact fd_in6 ⟨5, by decide, rfl⟩
theorem fd_sec {σ : FDS} {j : Nat} {v : UInt64} (h : fd_Inv σ) (hj : j < 48) (hv : v = (if 0 ≤ (Op.cmpValue (FP.dcmp (fd_rD σ j) 4621819117588971520) .g) then 4621819117588971520 else fd_rD σ j)) : FP.Core.DFin v := by
  rw [hv]
  split
  · exact fd_fin10
  · exact h.2.2.2.2.2 j hj
theorem fd_red {σ : FDS} {j : Nat} (h : fv_Rs_isRedirect σ j = true) : ¬ fd_rI σ j 2 = -1 := by
  intro e
  rw [fv_Rs_isRedirect, if_pos e] at h
  cases h
theorem fd_step5 {r : Int32} {n : Nat} (hr : ∃ i : Nat, i ≤ 5 ∧ 6 ≤ n + 1 + i ∧ r = nI i) (c : ¬ 4 < r) : ∃ i : Nat, i ≤ 5 ∧ 6 ≤ n + i ∧ r + 1 = nI i := by
  obtain ⟨i, h1, h2, rfl⟩ := hr
  have : ¬ 4 < i := fun q => c (nI_lt (a := 4) q (by omega))
  exact ⟨i + 1, by omega, by omega, nI_1 i⟩
theorem fd_write_mS {σ : FDS} {j0 j2 : Nat} {p3 : UInt64} : fd_mS (fv_Pm_write σ j0 j2 p3) = fd_mS σ := rfl
