/-! how forget counts; what ask's, go's and fetch's loops rest on -/
theorem fm_forget_inv {σ1 : FMS} {i : Int32} (h : fm_Inv σ1) (h7 : vp_in (i + 1) 7) : fm_Inv (fm_saD (fm_saI (fm_saI (fm_saZ (fm_saI (fm_saI σ1 15 i.toNatClampNeg (fm_aI σ1 15 (i + 1).toNatClampNeg)) 16 i.toNatClampNeg (fm_aI σ1 16 (i + 1).toNatClampNeg)) 12 i.toNatClampNeg (fm_aZ σ1 12 (i + 1).toNatClampNeg)) 17 i.toNatClampNeg (fm_aI σ1 17 (i + 1).toNatClampNeg)) 18 i.toNatClampNeg (fm_aI σ1 18 (i + 1).toNatClampNeg)) 14 i.toNatClampNeg (fm_aD σ1 14 (i + 1).toNatClampNeg)) :=
  fm_inv_end (h.2.2.2.2.2 _ (fd_lt h7)) (fm_inv_saI (by decide) (fm_inv_saI (by decide) (fm_inv_saZ (fm_inv_saI (by decide) (fm_inv_saI (by decide) h)))))
theorem fm_forget_l {σ : FMS} {p : Int32} : ∀ (n : Nat) (σ1 : FMS) (i : Int32), fm_Inv σ1 → (∃ k : Nat, k ≤ 6 ∧ 7 ≤ n + k ∧ i = nI k) → fm_mI (fv_Md_forget_l12 n σ p σ1 i) 21 = fm_mI σ1 21 := by
  intro n
  induction n with
  | zero =>
    intro σ1 i h hi
    obtain ⟨k, h1, h2, -⟩ := hi
    omega
  | succ n ih =>
    intro σ1 i h hi
    rw [fv_Md_forget_l12]
    by_cases c : fm_mI σ1 21 ≤ i
    · rw [if_pos c]
    · rw [if_neg c, ih _ _ (fm_forget_inv h (fm_idx1 h hi c)) (fm_step h hi c)]
      rfl
theorem fm_forget_kept {σ : FMS} {p : Int32} (h : fm_Inv σ) (hp : ∃ k : Nat, k < 6 ∧ p = nI k) (hz : ∃ n : Nat, n < 6 ∧ fm_mI σ 21 = nI (n + 1)) : fm_mI (fv_Md_forget σ p) 21 = fm_mI σ 21 - 1 := by
  rw [fv_Md_forget, fm_forget_l 7 _ _ (fm_inv_kept (fd_le6 (fd_dec hz rfl)) h) (fm_i7 hp)]
  rfl
theorem fm_kincB {σ : FMS} (h : fm_Inv σ) (c : ¬ fm_mI σ 21 = 6) : ∃ n : Nat, n ≤ 6 ∧ fm_mI σ 21 + 1 = nI n := by
  obtain ⟨n, hn, e⟩ := h.2.2.1
  rcases Nat.lt_or_ge n 6 with q | q
  · exact ⟨n + 1, by omega, by rw [e]; exact nI_1 n⟩
  · exact absurd (by rw [e, show n = 6 by omega]; rfl) c
theorem fm_kincA {σ : FMS} {f : Int32} (h : fm_Inv σ) (hf : ∃ k : Nat, k < 6 ∧ f = nI k) (c : fm_mI σ 21 = 6) : ∃ n : Nat, n ≤ 6 ∧ fm_mI (fv_Md_forget σ f) 21 + 1 = nI n := by
  rw [fm_forget_kept h hf ⟨5, by decide, c⟩, c]
  exact ⟨6, by decide, rfl⟩
theorem fm_ask0 {σ : FMS} (h : fm_Inv σ) {v : Int32} : ∃ a m : Nat, a ≤ m ∧ m ≤ 6 ∧ a < 7 ∧ (fm_mI σ 21 - 1) + 1 = nI a ∧ fm_mI (fm_smI σ 25 v) 21 = nI m := by
  obtain ⟨n, hn, e⟩ := h.2.2.1
  refine ⟨n, n, Nat.le_refl _, hn, by omega, ?_, e⟩
  rw [Int32.sub_add_cancel]
  exact e
theorem fm_askp {σ : FMS} {k : Int32} {n : Nat} (hk : ∃ a m : Nat, a ≤ m ∧ m ≤ 6 ∧ a < n ∧ k + 1 = nI a ∧ fm_mI σ 21 = nI m) (c : ¬ k < 0) : ∃ a : Nat, a < 6 ∧ k = nI a ∧ a + 1 < n ∧ ∃ m : Nat, a + 1 ≤ m ∧ m ≤ 6 ∧ fm_mI σ 21 = nI m := by
  obtain ⟨a, m, h1, h2, h3, h4, h5⟩ := hk
  have e : k = nI a - 1 := by rw [← h4, Int32.add_sub_cancel]
  rcases Nat.eq_zero_or_pos a with q | q
  · subst q
    exact absurd (by rw [e]; decide) c
  · have e2 : k = nI (a - 1) := by rw [e, show (1 : Int32) = nI 1 from rfl, pk_sub q]
    exact ⟨a - 1, by omega, e2, by omega, m, by omega, h2, h5⟩
theorem fm_askr {σ : FMS} {k : Int32} {n : Nat} (hk : ∃ a m : Nat, a ≤ m ∧ m ≤ 6 ∧ a < n ∧ k + 1 = nI a ∧ fm_mI σ 21 = nI m) (c : ¬ k < 0) : ∃ a : Nat, a < 6 ∧ k = nI a := by
  obtain ⟨a, h1, h2, -⟩ := fm_askp hk c
  exact ⟨a, h1, h2⟩
theorem fm_askz {σ : FMS} {k : Int32} {n : Nat} (hk : ∃ a m : Nat, a ≤ m ∧ m ≤ 6 ∧ a < n ∧ k + 1 = nI a ∧ fm_mI σ 21 = nI m) (c : ¬ k < 0) : ∃ j : Nat, j < 6 ∧ fm_mI σ 21 = nI (j + 1) := by
  obtain ⟨a, h1, h2, h3, m, h4, h5, h6⟩ := fm_askp hk c
  exact ⟨m - 1, by omega, by rw [h6, show m - 1 + 1 = m by omega]⟩
theorem fm_asks1 {σ : FMS} {k : Int32} {n : Nat} (hk : ∃ a m : Nat, a ≤ m ∧ m ≤ 6 ∧ a < n + 1 ∧ k + 1 = nI a ∧ fm_mI σ 21 = nI m) (c : ¬ k < 0) : ∃ a m : Nat, a ≤ m ∧ m ≤ 6 ∧ a < n ∧ k + (-1) + 1 = nI a ∧ fm_mI σ 21 = nI m := by
  obtain ⟨a, h1, h2, h3, m, h4, h5, h6⟩ := fm_askp hk c
  refine ⟨a, m, by omega, h5, by omega, ?_, h6⟩
  rw [h2, Int32.add_assoc]
  exact Int32.add_zero _
theorem fm_asks2 {σ : FMS} {k : Int32} {n : Nat} (h : fm_Inv σ) (hk : ∃ a m : Nat, a ≤ m ∧ m ≤ 6 ∧ a < n + 1 ∧ k + 1 = nI a ∧ fm_mI σ 21 = nI m) (c : ¬ k < 0) : ∃ a m : Nat, a ≤ m ∧ m ≤ 6 ∧ a < n ∧ k + (-1) + 1 = nI a ∧ fm_mI (fv_Md_forget σ k) 21 = nI m := by
  obtain ⟨a, h1, h2, h3, m, h4, h5, h6⟩ := fm_askp hk c
  refine ⟨a, m - 1, by omega, by omega, by omega, ?_, ?_⟩
  · rw [h2, Int32.add_assoc]
    exact Int32.add_zero _
  · rw [fm_forget_kept h (fm_askr hk c) (fm_askz hk c), h6, show (1 : Int32) = nI 1 from rfl, pk_sub (by omega)]
theorem fm_tgt {σ : FMS} (h : fm_Inv σ) (ht : 0 ≤ fm_aI σ 2 (fm_mI σ 29).toNatClampNeg) : vp_in (fm_aI σ 2 (fm_mI σ 29).toNatClampNeg) 48 := by
  refine (h.2.1 _ (fd_lt h.1)).resolve_left fun e => ?_
  rw [e] at ht
  exact absurd ht (by decide)
theorem fm_stepm {mv : Int32} {n : Nat} (h : ∃ a : Nat, a ≤ 4 ∧ 5 ≤ n + 1 + a ∧ mv = nI a) (c : ¬ mv = 4) : ∃ a : Nat, a ≤ 4 ∧ 5 ≤ n + a ∧ mv + 1 = nI a := by
  obtain ⟨a, h1, h2, rfl⟩ := h
  have : a ≠ 4 := fun q => c (by rw [q]; rfl)
  exact ⟨a + 1, by omega, by omega, nI_1 a⟩
theorem fm_k10 {k : Int32} {n : Nat} (h : ∃ a : Nat, a ≤ 10 ∧ 11 ≤ n + a ∧ k = nI a) (c : ¬ 10 ≤ k) : vp_in k 10 := by
  obtain ⟨a, h1, h2, rfl⟩ := h
  have : ¬ 10 ≤ a := fun q => c (nI_le (a := 10) q (by omega))
  exact vp_in_nI (by omega) (by decide)
theorem fm_k10s {k : Int32} {n : Nat} (h : ∃ a : Nat, a ≤ 10 ∧ 11 ≤ n + 1 + a ∧ k = nI a) (c : ¬ 10 ≤ k) : ∃ a : Nat, a ≤ 10 ∧ 11 ≤ n + a ∧ k + 1 = nI a := by
  obtain ⟨a, h1, h2, rfl⟩ := h
  have : ¬ 10 ≤ a := fun q => c (nI_le (a := 10) q (by omega))
  exact ⟨a + 1, by omega, by omega, nI_1 a⟩
theorem fm_second {v A B C : Bool} (h : v = true) (hv : v = (if A = true then if B = true then C else false else false)) : B = true := by
  subst h
  cases A
  · cases hv
  · cases B
    · cases hv
    · rfl
