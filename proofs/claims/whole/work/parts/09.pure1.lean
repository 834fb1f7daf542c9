/-! small rows on indices and sizes -/
theorem fd_in6 {x : Int32} (h : ∃ k : Nat, k < 6 ∧ x = nI k) : vp_in x 6 := by
  obtain ⟨k, hk, rfl⟩ := h
  exact vp_in_nI hk (by decide)
theorem fd_6in {x : Int32} (h : vp_in x 6) : ∃ k : Nat, k < 6 ∧ x = nI k := vp_in_of h (by decide)
theorem fd_size {σ : FDS} {i : Int32} {k : Nat} (h : fd_Inv σ) (e : i = nI k) (hk : k ≤ 6) (hc : ¬ fd_mS σ ≤ i) : k < 6 ∧ ∃ m : Nat, k < m ∧ m ≤ 6 ∧ fd_mS σ = nI m := by
  obtain ⟨m, hm, em⟩ := h.2.2.1
  rw [em, e] at hc
  have : k < m := Nat.lt_of_not_le fun q => hc (nI_le q (by omega))
  exact ⟨by omega, m, this, hm, em⟩
theorem fd_idx {σ : FDS} {i : Int32} {n : Nat} (h : fd_Inv σ) (hi : ∃ k : Nat, k ≤ 6 ∧ 7 ≤ n + k ∧ i = nI k) (hc : ¬ fd_mS σ ≤ i) : vp_in i 6 := by
  obtain ⟨k, h1, h2, e⟩ := hi
  exact fd_in6 ⟨k, (fd_size h e h1 hc).1, e⟩
theorem fd_lt6 {σ : FDS} {i : Int32} {n : Nat} (h : fd_Inv σ) (hi : ∃ k : Nat, k ≤ 6 ∧ 7 ≤ n + k ∧ i = nI k) (hc : ¬ fd_mS σ ≤ i) : ∃ k : Nat, k < 6 ∧ i = nI k := fd_6in (fd_idx h hi hc)
theorem fd_step {σ : FDS} {i : Int32} {n : Nat} (h : fd_Inv σ) (hi : ∃ k : Nat, k ≤ 6 ∧ 7 ≤ n + 1 + k ∧ i = nI k) (hc : ¬ fd_mS σ ≤ i) : ∃ k : Nat, k ≤ 6 ∧ 7 ≤ n + k ∧ i + 1 = nI k := by
  obtain ⟨k, h1, h2, e⟩ := hi
  have := (fd_size h e h1 hc).1
  exact ⟨k + 1, by omega, by omega, by rw [e]; exact nI_1 k⟩
theorem fd_idxd {σ : FDS} {i : Int32} {n : Nat} (h : fd_Inv σ) (hi : ∃ k : Nat, 1 ≤ k ∧ k ≤ 6 ∧ 7 ≤ n + k ∧ i = nI k) (hc : ¬ fd_mS σ ≤ i) : vp_in i 6 := by
  obtain ⟨k, h0, h1, h2, e⟩ := hi
  exact fd_in6 ⟨k, (fd_size h e h1 hc).1, e⟩
theorem fd_idxp {i : Int32} {n : Nat} (hi : ∃ k : Nat, 1 ≤ k ∧ k ≤ 6 ∧ 7 ≤ n + k ∧ i = nI k) : vp_in (i - 1) 6 := by
  obtain ⟨k, h0, h1, h2, e⟩ := hi
  refine fd_in6 ⟨k - 1, by omega, ?_⟩
  rw [e, show (1 : Int32) = nI 1 from rfl, pk_sub h0]
theorem fd_stepd {σ : FDS} {i : Int32} {n : Nat} (h : fd_Inv σ) (hi : ∃ k : Nat, 1 ≤ k ∧ k ≤ 6 ∧ 7 ≤ n + 1 + k ∧ i = nI k) (hc : ¬ fd_mS σ ≤ i) : ∃ k : Nat, 1 ≤ k ∧ k ≤ 6 ∧ 7 ≤ n + k ∧ i + 1 = nI k := by
  obtain ⟨k, h0, h1, h2, e⟩ := hi
  have := (fd_size h e h1 hc).1
  exact ⟨k + 1, by omega, by omega, by omega, by rw [e]; exact nI_1 k⟩
theorem fd_k1 {p : Int32} (h : ∃ k : Nat, k < 6 ∧ p = nI k) : ∃ k : Nat, 1 ≤ k ∧ k ≤ 6 ∧ 7 ≤ 7 + k ∧ p + 1 = nI k := by
  obtain ⟨k, hk, rfl⟩ := h
  exact ⟨k + 1, by omega, by omega, by omega, nI_1 k⟩
theorem fd_dec {x y : Int32} (h : ∃ n : Nat, n < 6 ∧ y = nI (n + 1)) (e : x = y) : ∃ n : Nat, n < 6 ∧ x - 1 = nI n := by
  obtain ⟨n, hn, rfl⟩ := h
  refine ⟨n, hn, ?_⟩
  rw [e, show (1 : Int32) = nI 1 from rfl, pk_sub (by omega)]
  rfl
theorem fd_le6 {x : Int32} (h : ∃ n : Nat, n < 6 ∧ x = nI n) : ∃ n : Nat, n ≤ 6 ∧ x = nI n := by
  obtain ⟨n, hn, e⟩ := h
  exact ⟨n, by omega, e⟩
theorem fd_inc {x : Int32} (h : vp_in x 6) : ∃ n : Nat, n ≤ 6 ∧ x + 1 = nI n := by
  obtain ⟨n, hn, rfl⟩ := fd_6in h
  exact ⟨n + 1, by omega, nI_1 n⟩
theorem fd_szB {σ : FDS} (h : fd_Inv σ) (c : ¬ fd_mS σ = 6) : vp_in (fd_mS σ) 6 := by
  obtain ⟨n, hn, e⟩ := h.2.2.1
  refine fd_in6 ⟨n, ?_, e⟩
  rcases Nat.lt_or_ge n 6 with q | q
  · exact q
  · exact absurd (by rw [e, show n = 6 by omega]; rfl) c
theorem fd_tgt {σ : FDS} {j : Nat} (h : fd_Inv σ) (hj : j < 48) (ht : ¬ fd_rI σ j 2 = -1) : vp_in (fd_rI σ j 2) 48 := (h.2.1 j hj).resolve_left ht
theorem fd_fin10 : FP.Core.DFin 4621819117588971520 := (FP.Core.fin_bits _).mpr (by decide)
