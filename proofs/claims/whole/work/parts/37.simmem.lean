/-! desk and model do the same: what is remembered -/
def fs_Q (σ : FDS) (μ : FMS) : Prop := fd_qI σ 0 = fm_mI μ 28 ∧ fd_qI σ 1 = fm_mI μ 29 ∧ fd_qI σ 2 = fm_mI μ 30 ∧ fd_qI σ 3 = fm_mI μ 31 ∧ fd_qB σ 9 = fm_mZ μ
def fs_same (μ : FMS) (i : Nat) : Prop := fm_aI μ 15 i = fm_mI μ 28 ∧ fm_aI μ 16 i = fm_mI μ 29 ∧ fm_aZ μ 12 i = fm_mZ μ
theorem fs_isSame {μ : FMS} {i : Nat} (hi : i < 2 ^ 31) : fv_Md_isSame μ (nI i) = true ↔ fs_same μ i := by
  show (if (fm_aI μ 15 (nI i).toNatClampNeg) = (fm_mI μ 28) then if (fm_aI μ 16 (nI i).toNatClampNeg) = (fm_mI μ 29) then if (fd_bi (fm_aZ μ 12 (nI i).toNatClampNeg)) = (fd_bi (fm_mZ μ)) then true else false else false else false) = true ↔ _
  rw [nI_clamp hi]
  unfold fs_same
  simp only [fs_bi]
  by_cases a : fm_aI μ 15 i = fm_mI μ 28
  · by_cases b : fm_aI μ 16 i = fm_mI μ 29
    · by_cases c : fm_aZ μ 12 i = fm_mZ μ
      · simp [a, b, c]
      · simp [a, b, c]
    · simp [a, b]
  · simp [a]
theorem fs_one {σ : FDS} {μ : FMS} {m i j : Nat} (hM : fs_M σ μ m) (hi : i < m) (hj : j < m) (h1 : fs_same μ i) (h2 : fs_same μ j) : i = j := by
  have hk : fs_K μ i j ∧ fs_K μ j i := ⟨⟨h1.1.trans h2.1.symm, h1.2.1.trans h2.2.1.symm, h1.2.2.trans h2.2.2.symm⟩, ⟨h2.1.trans h1.1.symm, h2.2.1.trans h1.2.1.symm, h2.2.2.trans h1.2.2.symm⟩⟩
  rcases Nat.lt_trichotomy i j with h | h | h
  · exact absurd hk.1 (hM.2.2.2.2.2 i j h hj)
  · exact h
  · exact absurd hk.2 (hM.2.2.2.2.2 j i h hi)
theorem fs_find_l {σ : FDS} {μ : FMS} {m : Nat} (hM : fs_M σ μ m) (hQ : fs_Q σ μ) : ∀ (n k : Nat), k ≤ m → m < k + n → (∀ j, j < k → ¬ fs_same μ j) → (fv_Mm_find_l2 n σ (nI k) = -1 ∧ ∀ i, i < m → ¬ fs_same μ i) ∨ ∃ i, i < m ∧ fv_Mm_find_l2 n σ (nI k) = nI i ∧ fs_same μ i := by
  have hm := hM.1
  intro n
  induction n with
  | zero => intro k h1 h2; omega
  | succ n ih =>
    intro k h1 h2 h3
    by_cases c : k = m
    · subst c
      refine Or.inl ⟨?_, h3⟩
      unfold fv_Mm_find_l2
      rw [hM.2.1, if_pos (nI_le (Nat.le_refl k) (by omega))]
    · have hk : k < m := by omega
      obtain ⟨a0, a1, a2, -⟩ := hM.2.2.2.1 k hk
      have e : fv_Mm_find_l2 (n + 1) σ (nI k) = if fm_aI μ 15 k = fm_mI μ 28 then if fm_aI μ 16 k = fm_mI μ 29 then if fd_bi (fm_aZ μ 12 k) = fd_bi (fm_mZ μ) then nI k else fv_Mm_find_l2 n σ (nI (k + 1)) else fv_Mm_find_l2 n σ (nI (k + 1)) else fv_Mm_find_l2 n σ (nI (k + 1)) := by
        conv => lhs; unfold fv_Mm_find_l2
        rw [hM.2.1, if_neg (nI_ge hk (by omega)), nI_clamp (by omega : k < 2 ^ 31), a0, a1, a2, hQ.1, hQ.2.1, hQ.2.2.2.2, nI_1]
      rw [e]
      by_cases s : fs_same μ k
      · refine Or.inr ⟨k, hk, ?_, s⟩
        rw [if_pos s.1, if_pos s.2.1, if_pos (by rw [s.2.2])]
      · have e2 : (if fm_aI μ 15 k = fm_mI μ 28 then if fm_aI μ 16 k = fm_mI μ 29 then if fd_bi (fm_aZ μ 12 k) = fd_bi (fm_mZ μ) then nI k else fv_Mm_find_l2 n σ (nI (k + 1)) else fv_Mm_find_l2 n σ (nI (k + 1)) else fv_Mm_find_l2 n σ (nI (k + 1))) = fv_Mm_find_l2 n σ (nI (k + 1)) := by
          by_cases b0 : fm_aI μ 15 k = fm_mI μ 28
          · by_cases b1 : fm_aI μ 16 k = fm_mI μ 29
            · by_cases b2 : fd_bi (fm_aZ μ 12 k) = fd_bi (fm_mZ μ)
              · exact absurd ⟨b0, b1, fs_bi.mp b2⟩ s
              · rw [if_pos b0, if_pos b1, if_neg b2]
            · rw [if_pos b0, if_neg b1]
          · rw [if_neg b0]
        rw [e2]
        refine ih (k + 1) hk (by omega) (fun j hj => ?_)
        by_cases q : j = k
        · rw [q]; exact s
        · exact h3 j (by omega)
theorem fs_find {σ : FDS} {μ : FMS} {m : Nat} (hM : fs_M σ μ m) (hQ : fs_Q σ μ) : (fv_Mm_find σ = -1 ∧ ∀ i, i < m → ¬ fs_same μ i) ∨ ∃ i, i < m ∧ fv_Mm_find σ = nI i ∧ fs_same μ i := fs_find_l hM hQ 7 0 (Nat.zero_le _) (by have := hM.1; omega) (fun j hj => absurd hj (Nat.not_lt_zero j))
theorem fs_nIm {i : Nat} (hi : i < 2 ^ 31) : ¬ nI i = -1 := fun h => by
  have h1 := congrArg Int32.toInt h
  rw [nI_toInt hi] at h1
  have h2 : (-1 : Int32).toInt = -1 := by decide
  omega
-- what is let
def fs_lets (μ : FMS) (a b : Int32) : Prop := (¬ 2 ≤ fm_mI μ 30 ∨ ((a >>> (fm_mI μ 30 &&& 31)) &&& 1) = 1) ∧ (fm_mI μ 31 &&& (b ^^^ (-1))) = 0
theorem fs_simple {σ : FDS} {μ : FMS} {p : Int32} (h : vp_in p 4) : fv_Dk_isSimple σ p = fv_Md_isSimple μ p := by
  obtain ⟨k, hk, rfl⟩ := vp_in_of h (by decide)
  show (if nI k = 0 then true else if nI k = 1 then true else false) = (if 2 ≤ nI k then false else true)
  match k, hk with
  | 0, _ => rfl
  | 1, _ => rfl
  | 2, _ => rfl
  | 3, _ => rfl
theorem fs_4to32 {p : Int32} {n : Nat} (h : vp_in p n) (hn : n ≤ 32) : vp_in p 32 := fun q => h (q.imp id (fun r => Nat.le_trans hn r))
theorem fs_letsD {σ : FDS} {μ : FMS} (hQ : fs_Q σ μ) (hm : vp_in (fm_mI μ 30) 4) (a b : Int32) : fv_Dk_lets σ a b = true ↔ fs_lets μ a b := by
  have e : fv_Dk_lets σ a b = (if (if (fv_Dk_isSimple σ (fd_qI σ 2)) = true then true else if (a &&& (1 <<< ((fd_qI σ 2) &&& 31))) = 0 then false else true) = true then if (if ((fd_qI σ 3) &&& (b ^^^ (-1))) = 0 then true else false) = true then true else false else false) := rfl
  rw [e, hQ.2.2.1, hQ.2.2.2.1, fs_simple (μ := μ) hm]
  have hs : fv_Md_isSimple μ (fm_mI μ 30) = true ↔ ¬ 2 ≤ fm_mI μ 30 := by
    show (if 2 ≤ fm_mI μ 30 then false else true) = true ↔ _
    by_cases c : 2 ≤ fm_mI μ 30 <;> simp [c]
  unfold fs_lets
  rw [fs_bit a (fs_4to32 hm (by decide))]
  by_cases s : fv_Md_isSimple μ (fm_mI μ 30) = true
  · have s1 := hs.mp s
    simp [s, s1]
  · have s1 : 2 ≤ fm_mI μ 30 := Classical.not_not.mp (fun q => s (hs.mpr q))
    by_cases t : (a &&& (1 <<< ((fm_mI μ 30) &&& 31))) = 0
    · simp [s, s1, t]
    · simp [s, s1, t]
def fs_ok (μ : FMS) (i : Nat) : Prop := fs_same μ i ∧ Op.cmpValue (FP.dcmp (fm_mT μ) (fm_aD μ 14 i)) .l < 0 ∧ fs_lets μ (fm_aI μ 17 i) (fm_aI μ 18 i)
theorem fs_rem_l {σ : FDS} {μ : FMS} {m : Nat} (hM : fs_M σ μ m) : ∀ (n k : Nat), k ≤ m → m < k + n → (fv_Md_isRemembered_l2 n μ (nI k) = true ↔ ∃ i, k ≤ i ∧ i < m ∧ fs_ok μ i) := by
  have hm := hM.1
  intro n
  induction n with
  | zero => intro k h1 h2; omega
  | succ n ih =>
    intro k h1 h2
    by_cases c : k = m
    · subst c
      unfold fv_Md_isRemembered_l2
      rw [hM.2.2.1, if_pos (nI_le (Nat.le_refl k) (by omega))]
      constructor
      · intro h; cases h
      · rintro ⟨i, a, b, -⟩; omega
    · have hk : k < m := by omega
      have ih1 := ih (k + 1) hk (by omega)
      have e : fv_Md_isRemembered_l2 (n + 1) μ (nI k) = if (fv_Md_isSame μ (nI k)) = true then if (Op.cmpValue (FP.dcmp (fm_mT μ) (fm_aD μ 14 k)) .l) < 0 then if (fv_Md_isSimple μ (fm_mI μ 30)) = true then if ((fm_mI μ 31) &&& ((fm_aI μ 18 k) ^^^ (-1))) = 0 then true else fv_Md_isRemembered_l2 n μ (nI (k + 1)) else if (((fm_aI μ 17 k) >>> ((fm_mI μ 30) &&& 31)) &&& 1) = 1 then if ((fm_mI μ 31) &&& ((fm_aI μ 18 k) ^^^ (-1))) = 0 then true else fv_Md_isRemembered_l2 n μ (nI (k + 1)) else fv_Md_isRemembered_l2 n μ (nI (k + 1)) else fv_Md_isRemembered_l2 n μ (nI (k + 1)) else fv_Md_isRemembered_l2 n μ (nI (k + 1)) := by
        conv => lhs; unfold fv_Md_isRemembered_l2
        rw [hM.2.2.1, if_neg (nI_ge hk (by omega)), nI_clamp (by omega : k < 2 ^ 31), nI_1]
      have hs : fv_Md_isSimple μ (fm_mI μ 30) = true ↔ ¬ 2 ≤ fm_mI μ 30 := by
        show (if 2 ≤ fm_mI μ 30 then false else true) = true ↔ _
        by_cases c : 2 ≤ fm_mI μ 30 <;> simp [c]
      have e2 : fv_Md_isRemembered_l2 (n + 1) μ (nI k) = true ↔ (fs_ok μ k ∨ fv_Md_isRemembered_l2 n μ (nI (k + 1)) = true) := by
        rw [e]
        unfold fs_ok fs_lets
        rw [← fs_isSame (μ := μ) (i := k) (by omega)]
        generalize ((fm_mI μ 31) &&& ((fm_aI μ 18 k) ^^^ (-1))) = X
        by_cases s1 : fv_Md_isSame μ (nI k) = true
        · by_cases s2 : Op.cmpValue (FP.dcmp (fm_mT μ) (fm_aD μ 14 k)) .l < 0
          · by_cases s3 : fv_Md_isSimple μ (fm_mI μ 30) = true
            · have s4 := hs.mp s3
              by_cases s5 : X = 0
              · simp [s1, s2, s3, s4, s5]
              · simp [s1, s2, s3, s5]
            · have s4 : 2 ≤ fm_mI μ 30 := Classical.not_not.mp (fun q => s3 (hs.mpr q))
              by_cases s6 : (((fm_aI μ 17 k) >>> ((fm_mI μ 30) &&& 31)) &&& 1) = 1
              · by_cases s5 : X = 0
                · simp [s1, s2, s3, s5, s6]
                · simp [s1, s2, s3, s5, s6]
              · simp [s1, s2, s3, s4, s6]
          · simp [s1, s2]
        · simp [s1]
      rw [e2, ih1]
      constructor
      · rintro (h | ⟨i, a, b, h⟩)
        · exact ⟨k, Nat.le_refl k, hk, h⟩
        · exact ⟨i, by omega, b, h⟩
      · rintro ⟨i, a, b, h⟩
        by_cases q : i = k
        · subst q; exact Or.inl h
        · exact Or.inr ⟨i, by omega, b, h⟩
theorem fs_covers {σ : FDS} {μ : FMS} {m : Nat} (hM : fs_M σ μ m) (hQ : fs_Q σ μ) (hm : vp_in (fm_mI μ 30) 4) (hT : fd_dT σ = fm_mT μ) (hn : FP.dIsNaN (fm_mT μ) = false) : fv_Mm_covers σ (fd_dT σ) = fv_Md_isRemembered μ := by
  have h6 := hM.1
  have hr := fs_rem_l hM 7 0 (Nat.zero_le _) (by omega)
  rw [Bool.eq_iff_iff]
  refine Iff.trans ?_ hr.symm
  have e : fv_Mm_covers σ (fd_dT σ) = if (fv_Mm_find σ) = (-1) then false else (if 0 ≤ (Op.cmpValue (FP.dcmp (fd_dT σ) (fd_pD σ (fd_pF σ (fv_Mm_find σ).toNatClampNeg))) .g) then false else if (fv_Dk_lets σ (fd_pI σ (fd_pF σ (fv_Mm_find σ).toNatClampNeg) 3) (fd_pI σ (fd_pF σ (fv_Mm_find σ).toNatClampNeg) 4)) = true then true else false) := rfl
  rw [e]
  rcases fs_find hM hQ with ⟨h1, h2⟩ | ⟨i, hi, h1, h2⟩
  · rw [if_pos h1]
    constructor
    · intro h; cases h
    · rintro ⟨i, -, hi, h, -⟩
      exact absurd h (h2 i hi)
  · obtain ⟨-, -, -, a3, a4, a5, a6⟩ := hM.2.2.2.1 i hi
    rw [h1, if_neg (fs_nIm (by omega)), nI_clamp (by omega : i < 2 ^ 31), a3, a4, a5, hT]
    have hl := fs_letsD hQ hm (fm_aI μ 17 i) (fm_aI μ 18 i)
    by_cases c : Op.cmpValue (FP.dcmp (fm_mT μ) (fm_aD μ 14 i)) .l < 0
    · rw [if_neg (fun q => (fs_lt hn a6).mp q c)]
      constructor
      · intro h
        refine ⟨i, Nat.zero_le _, hi, h2, c, hl.mp ?_⟩
        by_cases q : fv_Dk_lets σ (fm_aI μ 17 i) (fm_aI μ 18 i) = true
        · exact q
        · rw [if_neg q] at h; cases h
      · rintro ⟨j, -, hj, g1, g2, g3⟩
        have := fs_one hM hi hj h2 g1
        subst this
        rw [if_pos (hl.mpr g3)]
    · rw [if_pos ((fs_lt hn a6).mpr c)]
      constructor
      · intro h; cases h
      · rintro ⟨j, -, hj, g1, g2, g3⟩
        have := fs_one hM hi hj h2 g1
        subst this
        exact absurd g2 c
-- one is taken out
def fs_g (i m j : Nat) : Nat := if i ≤ j ∧ j + 1 < m then j + 1 else j
theorem fs_drop_l {σ : FDS} {m i : Nat} (hm : m ≤ 6) (hS : fd_mS σ = nI m) (hi : i < m) : ∀ (n k : Nat) (f : Nat → Nat), i < k → k ≤ m → m < k + n → (∀ j, f j = fd_pF σ (fs_g i k j)) → fv_Mm_drop_l11 n σ (nI i) (fd_xpF σ f) (nI k) = fd_xpF (fd_smS σ (nI (m - 1))) (fun j => if j + 1 = m then fd_pF σ i else fd_pF σ (fs_g i m j)) := by
  have hp : nI m - 1 = nI (m - 1) := by
    have := nI_pred (m - 1)
    rwa [show m - 1 + 1 = m by omega] at this
  intro n
  induction n with
  | zero => intro k f h1 h2 h3; omega
  | succ n ih =>
    intro k f h1 h2 h3 h4
    by_cases c : k = m
    · subst c
      have e : fv_Mm_drop_l11 (n + 1) σ (nI i) (fd_xpF σ f) (nI k) = fd_spF (fd_smS (fd_xpF σ f) (nI (k - 1))) (k - 1) (fd_pF σ i) := by
        unfold fv_Mm_drop_l11
        rw [gx_mS, hS, if_pos (nI_le (Nat.le_refl k) (by omega)), hp, nI_clamp (by omega : k - 1 < 2 ^ 31), nI_clamp (by omega : i < 2 ^ 31)]
      rw [e]
      have hf : va_up f (k - 1) (fd_pF σ i) = (fun j => if j + 1 = k then fd_pF σ i else fd_pF σ (fs_g i k j)) := by
        funext j
        show (if j = k - 1 then fd_pF σ i else f j) = _
        by_cases q : j + 1 = k
        · rw [if_pos (by omega), if_pos q]
        · rw [if_neg (by omega), if_neg q, h4]
      rw [← hf]
      rfl
    · have hk : k < m := by omega
      have e : fv_Mm_drop_l11 (n + 1) σ (nI i) (fd_xpF σ f) (nI k) = fv_Mm_drop_l11 n σ (nI i) (fd_xpF σ (va_up f (k - 1) (f k))) (nI (k + 1)) := by
        have hk1 : nI k - 1 = nI (k - 1) := by
          have := nI_pred (k - 1)
          rwa [show k - 1 + 1 = k by omega] at this
        conv => lhs; unfold fv_Mm_drop_l11
        rw [gx_mS, hS, if_neg (nI_ge hk (by omega)), hk1, nI_clamp (by omega : k - 1 < 2 ^ 31), nI_clamp (by omega : k < 2 ^ 31), nI_1]
        rfl
      rw [e]
      refine ih (k + 1) _ (by omega) hk (by omega) (fun j => ?_)
      show (if j = k - 1 then f k else f j) = _
      rw [h4, h4]
      by_cases q : j = k - 1
      · rw [if_pos q]
        congr 1
        unfold fs_g
        rw [if_neg (by omega), if_pos (by omega)]
        omega
      · rw [if_neg q]
        congr 1
        unfold fs_g
        by_cases r : i ≤ j ∧ j + 1 < k
        · rw [if_pos r, if_pos (by omega)]
        · rw [if_neg r, if_neg (by omega)]
theorem fs_drop {σ : FDS} {m i : Nat} (hm : m ≤ 6) (hS : fd_mS σ = nI m) (hi : i < m) : fv_Mm_drop σ (nI i) = fd_xpF (fd_smS σ (nI (m - 1))) (fun j => if j + 1 = m then fd_pF σ i else fd_pF σ (fs_g i m j)) := by
  have h := fs_drop_l hm hS hi 7 (i + 1) (fd_pF σ) (by omega) (by omega) (by omega) (fun j => by
    unfold fs_g
    rw [if_neg (by omega)])
  rw [← h]
  show fv_Mm_drop_l11 7 σ (nI i) σ (nI i + 1) = _
  rw [nI_1]
  rfl
theorem fs_xs_step (μ : FMS) (g : Nat → Nat) (i : Nat) : fm_saD (fm_saI (fm_saI (fm_saZ (fm_saI (fm_saI (fm_xs μ g) 15 i (fm_aI (fm_xs μ g) 15 (i + 1))) 16 i (fm_aI (fm_xs μ g) 16 (i + 1))) 12 i (fm_aZ (fm_xs μ g) 12 (i + 1))) 17 i (fm_aI (fm_xs μ g) 17 (i + 1))) 18 i (fm_aI (fm_xs μ g) 18 (i + 1))) 14 i (fm_aD (fm_xs μ g) 14 (i + 1)) = fm_xs μ (va_up g i (g (i + 1))) := by
  have ext : ∀ a b : FMS, fm_mI a = fm_mI b → fm_mT a = fm_mT b → fm_mZ a = fm_mZ b → fm_aI a = fm_aI b → fm_aZ a = fm_aZ b → fm_aD a = fm_aD b → a = b := by
    rintro ⟨a1, a2, a3, a4, a5, a6⟩ ⟨b1, b2, b3, b4, b5, b6⟩ h1 h2 h3 h4 h5 h6
    cases h1; cases h2; cases h3; cases h4; cases h5; cases h6
    rfl
  have hu : ∀ j, va_up g i (g (i + 1)) j = if j = i then g (i + 1) else g j := fun j => rfl
  refine ext _ _ rfl rfl rfl ?_ ?_ ?_
  · funext k j
    simp only [gs_fmaI_aI, gs_fmaI_aZ, gs_fmaI_aD, gx_aI, hu]
    by_cases q : j = i
    · subst q
      by_cases k15 : k = 15
      · subst k15; simp
      by_cases k16 : k = 16
      · subst k16; simp
      by_cases k17 : k = 17
      · subst k17; simp
      by_cases k18 : k = 18
      · subst k18; simp
      simp [k15, k16, k17, k18]
    · by_cases k15 : k = 15
      · subst k15; simp [q]
      by_cases k16 : k = 16
      · subst k16; simp [q]
      by_cases k17 : k = 17
      · subst k17; simp [q]
      by_cases k18 : k = 18
      · subst k18; simp [q]
      simp [k15, k16, k17, k18]
  · funext k j
    simp only [gs_fmaZ_aI, gs_fmaZ_aZ, gs_fmaZ_aD, gx_aZ, hu]
    by_cases q : j = i
    · subst q
      by_cases k12 : k = 12
      · subst k12; simp
      · simp [k12]
    · by_cases k12 : k = 12
      · subst k12; simp [q]
      · simp [k12]
  · funext k j
    simp only [gs_fmaD_aI, gs_fmaD_aZ, gs_fmaD_aD, gx_aD, hu]
    by_cases q : j = i
    · subst q
      by_cases k12 : k = 14
      · subst k12; simp
      · simp [k12]
    · by_cases k12 : k = 14
      · subst k12; simp [q]
      · simp [k12]
theorem fs_xs_id (μ : FMS) (g : Nat → Nat) (h : ∀ j, g j = j) : fm_xs μ g = μ := by
  obtain ⟨a1, a2, a3, a4, a5, a6⟩ := μ
  have hg : g = fun j => j := funext h
  subst hg
  unfold fm_xs
  simp only [fm_aI, fm_aZ, fm_aD, ite_self]
theorem fs_forget_l {σ μ : FMS} {p : Int32} {M i : Nat} (hm : M ≤ 6) (hS : fm_mI μ 21 = nI M) : ∀ (n k : Nat) (g : Nat → Nat), i ≤ k → k ≤ M → M < k + n → (∀ j, g j = fs_g i (k + 1) j) → fv_Md_forget_l12 n σ p (fm_xs μ g) (nI k) = fm_xs μ (fs_g i (M + 1)) := by
  intro n
  induction n with
  | zero => intro k g h1 h2 h3; omega
  | succ n ih =>
    intro k g h1 h2 h3 h4
    by_cases c : k = M
    · subst c
      unfold fv_Md_forget_l12
      rw [gx_mI, hS, if_pos (nI_le (Nat.le_refl k) (by omega))]
      rw [show g = fs_g i (k + 1) from funext h4]
    · have hk : k < M := by omega
      have e : fv_Md_forget_l12 (n + 1) σ p (fm_xs μ g) (nI k) = fv_Md_forget_l12 n σ p (fm_xs μ (va_up g k (g (k + 1)))) (nI (k + 1)) := by
        conv => lhs; unfold fv_Md_forget_l12
        rw [gx_mI, hS, if_neg (nI_ge hk (by omega)), nI_1, nI_clamp (by omega : k < 2 ^ 31), nI_clamp (by omega : k + 1 < 2 ^ 31)]
        rw [fs_xs_step]
      rw [e]
      refine ih (k + 1) _ (by omega) hk (by omega) (fun j => ?_)
      show (if j = k then g (k + 1) else g j) = _
      rw [h4, h4]
      unfold fs_g
      by_cases q : j = k
      · rw [if_pos q, if_neg (by omega), if_pos (by omega)]
        omega
      · rw [if_neg q]
        by_cases r : i ≤ j ∧ j + 1 < k + 1
        · rw [if_pos r, if_pos (by omega)]
        · rw [if_neg r, if_neg (by omega)]
theorem fs_forget {μ : FMS} {m i : Nat} (hm : m ≤ 6) (hS : fm_mI μ 21 = nI m) (hi : i < m) : fv_Md_forget μ (nI i) = fm_xs (fm_smI μ 21 (nI (m - 1))) (fs_g i m) := by
  have hp : nI m - 1 = nI (m - 1) := by
    have := nI_pred (m - 1)
    rwa [show m - 1 + 1 = m by omega] at this
  have h := fs_forget_l (σ := μ) (μ := fm_smI μ 21 (nI (m - 1))) (p := nI i) (M := m - 1) (i := i) (by omega) rfl 7 i (fun j => j) (Nat.le_refl _) (by omega) (by omega) (fun j => by
    unfold fs_g
    rw [if_neg (by omega)])
  rw [show m - 1 + 1 = m by omega] at h
  rw [← h, fs_xs_id _ _ (fun j => rfl)]
  unfold fv_Md_forget
  rw [hS, hp]
