/-! desk and model do the same: asking -/
theorem fs_passes {σ : FDS} {μ : FMS} {u : Nat} (hQ : fs_Q σ μ) (hR : fs_R σ μ) (hu : u < 48) (hurl : (fm_mI μ 29).toNatClampNeg = u) (ho : vp_in (fm_mI μ 28) 7) : fv_Rq_passes σ u = fv_Md_passes μ := by
  obtain ⟨-, -, -, -, -, r5, r6, -⟩ := hR u hu
  have e1 : fv_Rq_passes σ u = (if (fd_qB σ 9) = true then (if (if ((fd_rI σ u 5) &&& (1 <<< ((fd_qI σ 0) &&& 31))) = 0 then false else true) = true then if (fd_rB σ u 6) = true then true else false else false) else (if (if ((fd_rI σ u 5) &&& (1 <<< ((fd_qI σ 0) &&& 31))) = 0 then false else true) = true then true else if ((fd_rI σ u 5) &&& 128) = 0 then false else true)) := rfl
  have e2 : fv_Md_passes μ = (if (fm_mZ μ) = true then if (if (((fm_aI μ 5 (fm_mI μ 29).toNatClampNeg) >>> ((fm_mI μ 28) &&& 31)) &&& 1) = 1 then true else false) = true then if (fm_aZ μ 10 (fm_mI μ 29).toNatClampNeg) = true then true else false else false else if (if (((fm_aI μ 5 (fm_mI μ 29).toNatClampNeg) >>> ((fm_mI μ 28) &&& 31)) &&& 1) = 1 then true else false) = true then true else if (if (((fm_aI μ 5 (fm_mI μ 29).toNatClampNeg) >>> (7 &&& 31)) &&& 1) = 1 then true else false) = true then true else false) := rfl
  have b1 := fs_bit (fm_aI μ 5 u) (fs_4to32 ho (by decide))
  have b2 := fs_bit7 (fm_aI μ 5 u)
  rw [e1, e2, hurl, hQ.1, hQ.2.2.2.2, r5, r6]
  simp only [b1, b2]
  cases fm_mZ μ
  · by_cases c1 : (fm_aI μ 5 u) &&& (1 <<< ((fm_mI μ 28) &&& 31)) = 0
    · by_cases c2 : (fm_aI μ 5 u) &&& 128 = 0 <;> simp [c1, c2]
    · simp [c1]
  · by_cases c1 : (fm_aI μ 5 u) &&& (1 <<< ((fm_mI μ 28) &&& 31)) = 0
    · simp [c1]
    · simp [c1]
theorem fs_j9 (σ : FDS) (j : Nat) (p v : UInt64) : fv_Mm_remember_j9 σ j p v = fd_rw (fv_Mm_drop σ (fv_Mm_firstToEnd σ)) j (FP.dadd p v) := by
  unfold fv_Mm_remember_j9 fd_rw
  generalize fv_Mm_drop σ (fv_Mm_firstToEnd σ) = τ
  rw [fd_write_mS]
theorem fs_j2 (σ : FDS) (j : Nat) (p v : UInt64) : fv_Mm_remember_j2 σ j p v = fd_rw σ j (FP.dadd p v) := by
  unfold fv_Mm_remember_j2 fd_rw
  rw [fd_write_mS]
theorem fs_rem {σ : FDS} {μ : FMS} {m u : Nat} (hM : fs_M σ μ m) (hQ : fs_Q σ μ) (hR : fs_R σ μ) (hu : u < 48) (hurl : (fm_mI μ 29).toNatClampNeg = u) (hno : ∀ i, i < m → ¬ fs_same μ i) (hT : fd_dT σ = fm_mT μ) (hn : FP.dIsNaN (fm_mT μ) = false) (hf : FP.Core.DFin (fm_aD μ 13 u)) : ∃ m', fs_M (fv_Mm_remember σ u (fd_dT σ)) (fv_Md_keep μ) m' ∧ fd_fr σ (fv_Mm_remember σ u (fd_dT σ)) ∧ fm_fr μ (fv_Md_keep μ) := by
  have h6 := hM.1
  have hfin : ∀ a : UInt64, FP.Core.DFin a → FP.dIsNaN (FP.dadd (fm_mT μ) (if (Op.cmpValue (FP.dcmp a 4621819117588971520) .l) ≤ 0 then a else 4621819117588971520)) = false := fun a ha => by
    refine FP.Core.dadd_out hn ?_
    split
    · exact ha
    · exact fd_fin10
  by_cases c : m = 6
  · subst c
    obtain ⟨f, hf1, e1, e2⟩ := fs_first_l hM 7 0 1 (by omega) (by omega) (by omega)
    have e1' : fv_Mm_firstToEnd σ = nI f := e1
    have hM' := fs_M_drop hM hf1
    have fr1 := fs_fr_drop hM.1 hM.2.1 hf1
    have fr2 := fs_fr_forget hM.1 hM.2.2.1 hf1
    have hQ' := fs_fr_Q hQ fr1 fr2
    have hR' := fs_fr_R hR fr1 fr2
    have hno' : ∀ i, i < 6 - 1 → ¬ fs_same (fv_Md_forget μ (nI f)) i := fun i hi q => hno _ (fs_g_lt (by omega)) ((fs_same_forget hM.1 hM.2.2.1 hf1).mp q)
    have u2 : fm_mI (fv_Md_forget μ (nI f)) 29 = fm_mI μ 29 := fr2.2.2.1 29 (by decide)
    have aD : fm_aD (fv_Md_forget μ (nI f)) 13 u = fm_aD μ 13 u := fr2.2.2.2.2.2 13 u (by decide)
    have k1 : fv_Md_keep μ = fm_kw (fv_Md_forget μ (nI f)) (FP.dadd (fm_mT μ) (if (Op.cmpValue (FP.dcmp (fm_aD μ 13 u) 4621819117588971520) .l) ≤ 0 then fm_aD μ 13 u else 4621819117588971520)) := by
      have : fv_Md_keep μ = fv_Md_keep_l13 7 μ (nI 0) (nI 1) := by
        unfold fv_Md_keep
        rw [if_pos (by rw [hM.2.2.1]; rfl)]
        rfl
      rw [this, e2]
      unfold fm_kq
      rw [u2, hurl, aD, fr2.1]
    have k2 : fv_Mm_remember σ u (fd_dT σ) = fd_rw (fv_Mm_drop σ (nI f)) u (FP.dadd (fm_mT μ) (if (Op.cmpValue (FP.dcmp (fm_aD μ 13 u) 4621819117588971520) .l) ≤ 0 then fm_aD μ 13 u else 4621819117588971520)) := by
      rw [← fs_10 hf.notNaN]
      unfold fv_Mm_remember
      rw [if_pos (by rw [hM.2.1]; rfl), e1', hT]
      have rD : fd_rD (fv_Mm_drop σ (nI f)) u = fm_aD μ 13 u := by
        rw [fr1.2.2.2.2.2.2]
        exact (hR u hu).2.2.2.2.2.2.2.2.2.2.1
      rw [rD, fs_j9, e1']
    rw [k1, k2]
    exact ⟨_, fs_rw hM' (by omega) hQ' hR' hu (by rw [u2]; exact hurl) hno' (hfin _ hf), fd_fr_tr fr1 (fd_rw_fr _ _ _), fm_fr_tr fr2 (fm_kw_fr _ _)⟩
  · have k1 : fv_Md_keep μ = fm_kw μ (FP.dadd (fm_mT μ) (if (Op.cmpValue (FP.dcmp (fm_aD μ 13 u) 4621819117588971520) .l) ≤ 0 then fm_aD μ 13 u else 4621819117588971520)) := by
      rw [fs_keep0 (by rw [hM.2.2.1]; exact fun q => c ((nI_eq (by omega) (by decide)).mp (q.trans (rfl : (6 : Int32) = nI 6))))]
      unfold fm_kq
      rw [hurl]
    have k2 : fv_Mm_remember σ u (fd_dT σ) = fd_rw σ u (FP.dadd (fm_mT μ) (if (Op.cmpValue (FP.dcmp (fm_aD μ 13 u) 4621819117588971520) .l) ≤ 0 then fm_aD μ 13 u else 4621819117588971520)) := by
      rw [← fs_10 hf.notNaN]
      unfold fv_Mm_remember
      rw [if_neg (by rw [hM.2.1]; exact fun q => c ((nI_eq (by omega) (by decide)).mp (q.trans (rfl : (6 : Int32) = nI 6)))), hT]
      have rD : fd_rD σ u = fm_aD μ 13 u := (hR u hu).2.2.2.2.2.2.2.2.2.2.1
      rw [rD, fs_j2]
    rw [k1, k2]
    exact ⟨_, fs_rw hM (by omega) hQ hR hu hurl hno (hfin _ hf), fd_rw_fr _ _ _, fm_kw_fr _ _⟩
-- the end of asking
def fm_at (ν : FMS) : Bool × FMS := if (fm_aZ ν 11 (fm_mI ν 29).toNatClampNeg) = true then if (fv_Md_passes ν) = true then if (fv_Md_isSimple ν (fm_mI ν 30)) = true then if ((fm_mI ν 31) &&& ((fm_aI ν 7 (fm_mI ν 29).toNatClampNeg) ^^^ (-1))) = 0 then if (Op.cmpValue (FP.dcmp (fm_aD ν 13 (fm_mI ν 29).toNatClampNeg) FP.dconst0) .l) ≤ 0 then (true, ν) else if (fm_mI ν 28) = 6 then (true, ν) else (true, (fv_Md_keep ν)) else (false, ν) else if (((fm_aI ν 6 (fm_mI ν 29).toNatClampNeg) >>> ((fm_mI ν 30) &&& 31)) &&& 1) = 1 then if ((fm_mI ν 31) &&& ((fm_aI ν 7 (fm_mI ν 29).toNatClampNeg) ^^^ (-1))) = 0 then if (Op.cmpValue (FP.dcmp (fm_aD ν 13 (fm_mI ν 29).toNatClampNeg) FP.dconst0) .l) ≤ 0 then (true, ν) else if (fm_mI ν 28) = 6 then (true, ν) else (true, (fv_Md_keep ν)) else (false, ν) else (false, ν) else (false, ν) else (false, ν)
theorem fs_ask_s {σ ν : FMS} {n : Nat} {k : Int32} : fv_Md_ask_l17 (n + 1) σ ν k = if k < 0 then fm_at ν else if (fv_Md_isSame ν k) = true then fv_Md_ask_l17 n σ (fv_Md_forget ν k) (k + (-1)) else fv_Md_ask_l17 n σ ν (k + (-1)) := by
  conv => lhs; unfold fv_Md_ask_l17
  rfl
theorem fs_p1 {k : Nat} : nI (k + 1) - 1 = nI k := nI_pred k
theorem fs_m1 {x : Int32} : x + (-1) = x - 1 := (Int32.sub_eq_add_neg x 1).symm
theorem fs_ask_none {σ ν : FMS} : ∀ (n k : Nat), k ≤ 6 → k < n → (∀ j, j < k → ¬ fs_same ν j) → fv_Md_ask_l17 n σ ν (nI k - 1) = fm_at ν := by
  intro n
  induction n with
  | zero => intro k h0 h1; omega
  | succ n ih =>
    intro k h0 h1 h2
    rw [fs_ask_s]
    match k, h0, h1, h2 with
    | 0, _, _, _ => rw [if_pos (by decide)]
    | k + 1, h0, h1, h2 =>
      rw [fs_p1, if_neg (nI_pos (by omega)), if_neg (fun q => h2 k (by omega) ((fs_isSame (by omega)).mp q)), fs_m1]
      exact ih k (by omega) (by omega) (fun j hj => h2 j (by omega))
theorem fs_ask_some {σ ν : FMS} {m i : Nat} (hm : m ≤ 6) (hS : fm_mI ν 21 = nI m) (hs : fs_same ν i) (hone : ∀ j, j < m → fs_same ν j → j = i) : ∀ (n k : Nat), k ≤ m → i < k → k < n → fv_Md_ask_l17 n σ ν (nI k - 1) = fm_at (fv_Md_forget ν (nI i)) := by
  intro n
  induction n with
  | zero => intro k h0 h1; omega
  | succ n ih =>
    intro k h0 h1 h2
    rw [fs_ask_s]
    match k, h0, h1, h2 with
    | k + 1, h0, h1, h2 =>
      rw [fs_p1, if_neg (nI_pos (by omega))]
      by_cases c : k = i
      · subst c
        rw [if_pos ((fs_isSame (by omega)).mpr hs), fs_m1]
        refine fs_ask_none n k (by omega) (by omega) (fun j hj q => ?_)
        rw [fs_same_forget hm hS (by omega)] at q
        have hg : fs_g k m j = j := by
          unfold fs_g
          rw [if_neg (by omega)]
        rw [hg] at q
        have := hone j (by omega) q
        omega
      · rw [if_neg (fun q => c (hone k (by omega) ((fs_isSame (by omega)).mp q))), fs_m1]
        exact ih k (by omega) (by omega) (by omega)
theorem fs_ask0 {σ : FDS} {μ : FMS} {m : Nat} (hM : fs_M σ μ m) (hQ : fs_Q σ μ) : ∃ m' μ1, fs_M (fv_Mm_forget σ) μ1 m' ∧ (∀ j, j < m' → ¬ fs_same μ1 j) ∧ fd_fr σ (fv_Mm_forget σ) ∧ fm_fr μ μ1 ∧ ∀ σ', fv_Md_ask_l17 7 σ' μ (fm_mI μ 21 - 1) = fm_at μ1 := by
  have h6 := hM.1
  rcases fs_find hM hQ with ⟨h1, h2⟩ | ⟨i, hi, h1, h2⟩
  · have e : fv_Mm_forget σ = σ := by
      unfold fv_Mm_forget
      rw [if_pos h1]
    rw [e]
    refine ⟨m, μ, hM, h2, fd_fr_rf _, fm_fr_rf _, fun σ' => ?_⟩
    rw [hM.2.2.1]
    exact fs_ask_none 7 m h6 (by omega) h2
  · have e : fv_Mm_forget σ = fv_Mm_drop σ (nI i) := by
      unfold fv_Mm_forget
      rw [h1, if_neg (fs_nIm (by omega))]
    rw [e]
    have hone : ∀ j, j < m → fs_same μ j → j = i := fun j hj q => fs_one hM hj hi q h2
    refine ⟨m - 1, fv_Md_forget μ (nI i), fs_M_drop hM hi, fun j hj q => ?_, fs_fr_drop h6 hM.2.1 hi, fs_fr_forget h6 hM.2.2.1 hi, fun σ' => ?_⟩
    · rw [fs_same_forget h6 hM.2.2.1 hi] at q
      have := hone _ (fs_g_lt (by omega)) q
      unfold fs_g at this
      split at this <;> omega
    · rw [hM.2.2.1]
      exact fs_ask_some h6 hM.2.2.1 h2 hone 7 m (Nat.le_refl _) hi (by omega)
def fd_at (σ : FDS) (u : Nat) : Bool × FDS := if (if (fd_rB σ u 7) = true then if (fv_Rq_passes σ u) = true then true else false else false) = true then if (fv_Dk_lets σ (fd_rI σ u 8) (fd_rI σ u 9)) = true then if (Op.cmpValue (FP.dcmp (fd_rD σ u) FP.dconst0) .l) ≤ 0 then (true, σ) else if (fd_qI σ 0) = 6 then (true, σ) else (true, (fv_Mm_remember σ u (fd_dT σ))) else (false, σ) else (false, σ)
theorem fs_at {σ : FDS} {μ : FMS} {m u : Nat} (hM : fs_M σ μ m) (hQ : fs_Q σ μ) (hR : fs_R σ μ) (hu : u < 48) (hurl : (fm_mI μ 29).toNatClampNeg = u) (ho : vp_in (fm_mI μ 28) 7) (hme : vp_in (fm_mI μ 30) 4) (hno : ∀ i, i < m → ¬ fs_same μ i) (hT : fd_dT σ = fm_mT μ) (hn : FP.dIsNaN (fm_mT μ) = false) (hf : FP.Core.DFin (fm_aD μ 13 u)) : (fd_at σ u).1 = (fm_at μ).1 ∧ ∃ m', fs_M (fd_at σ u).2 (fm_at μ).2 m' ∧ fd_fr σ (fd_at σ u).2 ∧ fm_fr μ (fm_at μ).2 := by
  obtain ⟨-, -, -, -, -, -, -, r7, r8, r9, r10, -, -⟩ := hR u hu
  have hrem := fs_rem hM hQ hR hu hurl hno hT hn hf
  have hl := fs_letsD hQ hme (fm_aI μ 6 u) (fm_aI μ 7 u)
  have e2 : fm_at μ = if fm_aZ μ 11 u = true then if fv_Md_passes μ = true then if fv_Dk_lets σ (fm_aI μ 6 u) (fm_aI μ 7 u) = true then if (Op.cmpValue (FP.dcmp (fm_aD μ 13 u) FP.dconst0) .l) ≤ 0 then (true, μ) else if (fm_mI μ 28) = 6 then (true, μ) else (true, (fv_Md_keep μ)) else (false, μ) else (false, μ) else (false, μ) := by
    unfold fm_at
    rw [hurl]
    unfold fs_lets at hl
    have hs : fv_Md_isSimple μ (fm_mI μ 30) = true ↔ ¬ 2 ≤ fm_mI μ 30 := by
      show (if 2 ≤ fm_mI μ 30 then false else true) = true ↔ _
      by_cases c : 2 ≤ fm_mI μ 30 <;> simp [c]
    rw [← hs] at hl
    by_cases c1 : fv_Md_isSimple μ (fm_mI μ 30) = true
    · by_cases c2 : (fm_mI μ 31 &&& (fm_aI μ 7 u ^^^ (-1))) = 0
      · simp only [hl.mpr ⟨Or.inl c1, c2⟩, c1, c2, if_true, if_false, Bool.false_eq_true]
      · have : ¬ fv_Dk_lets σ (fm_aI μ 6 u) (fm_aI μ 7 u) = true := fun q => c2 (hl.mp q).2
        simp only [this, c1, c2, if_true, if_false, Bool.false_eq_true]
    · by_cases c3 : ((fm_aI μ 6 u >>> (fm_mI μ 30 &&& 31)) &&& 1) = 1
      · by_cases c2 : (fm_mI μ 31 &&& (fm_aI μ 7 u ^^^ (-1))) = 0
        · simp only [hl.mpr ⟨Or.inr c3, c2⟩, c1, c2, c3, if_true, if_false, Bool.false_eq_true]
        · have : ¬ fv_Dk_lets σ (fm_aI μ 6 u) (fm_aI μ 7 u) = true := fun q => c2 (hl.mp q).2
          simp only [this, c1, c2, c3, if_true, if_false, Bool.false_eq_true]
      · have : ¬ fv_Dk_lets σ (fm_aI μ 6 u) (fm_aI μ 7 u) = true := fun q => (hl.mp q).1.elim c1 c3
        simp only [this, c1, c3, if_true, if_false, Bool.false_eq_true]
  rw [e2]
  unfold fd_at
  rw [r7, r8, r9, r10, hQ.1, fs_passes hQ hR hu hurl ho]
  have st : True ∧ ∃ m', fs_M σ μ m' ∧ fd_fr σ σ ∧ fm_fr μ μ := ⟨trivial, m, hM, fd_fr_rf _, fm_fr_rf _⟩
  by_cases c1 : fm_aZ μ 11 u = true
  · by_cases c2 : fv_Md_passes μ = true
    · by_cases c3 : fv_Dk_lets σ (fm_aI μ 6 u) (fm_aI μ 7 u) = true
      · by_cases c4 : (Op.cmpValue (FP.dcmp (fm_aD μ 13 u) FP.dconst0) .l) ≤ 0
        · simp only [c1, c2, c3, c4, if_true, if_false, Bool.false_eq_true]
          exact st
        · by_cases c5 : fm_mI μ 28 = 6
          · simp only [c1, c2, c3, c4, c5, if_true, if_false, Bool.false_eq_true]
            exact st
          · simp only [c1, c2, c3, c4, c5, if_true, if_false, Bool.false_eq_true]
            exact ⟨trivial, hrem⟩
      · simp only [c1, c2, c3, if_true, if_false, Bool.false_eq_true]
        exact st
    · simp only [c1, c2, if_true, if_false, Bool.false_eq_true]
      exact st
  · simp only [c1, if_true, if_false, Bool.false_eq_true]
    exact st
theorem fs_ask {σ : FDS} {μ : FMS} {m u : Nat} (hM : fs_M σ μ m) (hQ : fs_Q σ μ) (hR : fs_R σ μ) (hu : u < 48) (hurl : (fm_mI μ 29).toNatClampNeg = u) (ho : vp_in (fm_mI μ 28) 7) (hme : vp_in (fm_mI μ 30) 4) (hT : fd_dT σ = fm_mT μ) (hn : FP.dIsNaN (fm_mT μ) = false) (hf : FP.Core.DFin (fm_aD μ 13 u)) : (fv_Dk_ask σ u).1 = (fv_Md_ask μ).1 ∧ ∃ m', fs_M (fv_Dk_ask σ u).2 (fv_Md_ask μ).2 m' ∧ fd_fr (fd_sdI σ 7 (fd_dI σ 7 + 1)) (fv_Dk_ask σ u).2 ∧ fm_fr (fm_smI μ 25 (fm_mI μ 25 + 1)) (fv_Md_ask μ).2 := by
  have hM0 : fs_M (fd_sdI σ 7 (fd_dI σ 7 + 1)) (fm_smI μ 25 (fm_mI μ 25 + 1)) m := by simpa [fs_M, fs_E, fs_K, gs_fddI_dI, gs_fddI_dT, gs_fddI_mS, gs_fddI_pF, gs_fddI_qI, gs_fddI_qB, gs_fddI_rI, gs_fddI_rB, gs_fddI_rD, gs_fddI_pI, gs_fddI_pB, gs_fddI_pD, gs_fddT_dI, gs_fddT_dT, gs_fddT_mS, gs_fddT_pF, gs_fddT_qI, gs_fddT_qB, gs_fddT_rI, gs_fddT_rB, gs_fddT_rD, gs_fddT_pI, gs_fddT_pB, gs_fddT_pD, gs_fdmS_dI, gs_fdmS_dT, gs_fdmS_mS, gs_fdmS_pF, gs_fdmS_qI, gs_fdmS_qB, gs_fdmS_rI, gs_fdmS_rB, gs_fdmS_rD, gs_fdmS_pI, gs_fdmS_pB, gs_fdmS_pD, gs_fdpF_dI, gs_fdpF_dT, gs_fdpF_mS, gs_fdpF_pF, gs_fdpF_qI, gs_fdpF_qB, gs_fdpF_rI, gs_fdpF_rB, gs_fdpF_rD, gs_fdpF_pI, gs_fdpF_pB, gs_fdpF_pD, gs_fdqI_dI, gs_fdqI_dT, gs_fdqI_mS, gs_fdqI_pF, gs_fdqI_qI, gs_fdqI_qB, gs_fdqI_rI, gs_fdqI_rB, gs_fdqI_rD, gs_fdqI_pI, gs_fdqI_pB, gs_fdqI_pD, gs_fdqB_dI, gs_fdqB_dT, gs_fdqB_mS, gs_fdqB_pF, gs_fdqB_qI, gs_fdqB_qB, gs_fdqB_rI, gs_fdqB_rB, gs_fdqB_rD, gs_fdqB_pI, gs_fdqB_pB, gs_fdqB_pD, gs_fdrI_dI, gs_fdrI_dT, gs_fdrI_mS, gs_fdrI_pF, gs_fdrI_qI, gs_fdrI_qB, gs_fdrI_rI, gs_fdrI_rB, gs_fdrI_rD, gs_fdrI_pI, gs_fdrI_pB, gs_fdrI_pD, gs_fdrB_dI, gs_fdrB_dT, gs_fdrB_mS, gs_fdrB_pF, gs_fdrB_qI, gs_fdrB_qB, gs_fdrB_rI, gs_fdrB_rB, gs_fdrB_rD, gs_fdrB_pI, gs_fdrB_pB, gs_fdrB_pD, gs_fdrD_dI, gs_fdrD_dT, gs_fdrD_mS, gs_fdrD_pF, gs_fdrD_qI, gs_fdrD_qB, gs_fdrD_rI, gs_fdrD_rB, gs_fdrD_rD, gs_fdrD_pI, gs_fdrD_pB, gs_fdrD_pD, gs_fdpI_dI, gs_fdpI_dT, gs_fdpI_mS, gs_fdpI_pF, gs_fdpI_qI, gs_fdpI_qB, gs_fdpI_rI, gs_fdpI_rB, gs_fdpI_rD, gs_fdpI_pI, gs_fdpI_pB, gs_fdpI_pD, gs_fdpB_dI, gs_fdpB_dT, gs_fdpB_mS, gs_fdpB_pF, gs_fdpB_qI, gs_fdpB_qB, gs_fdpB_rI, gs_fdpB_rB, gs_fdpB_rD, gs_fdpB_pI, gs_fdpB_pB, gs_fdpB_pD, gs_fdpD_dI, gs_fdpD_dT, gs_fdpD_mS, gs_fdpD_pF, gs_fdpD_qI, gs_fdpD_qB, gs_fdpD_rI, gs_fdpD_rB, gs_fdpD_rD, gs_fdpD_pI, gs_fdpD_pB, gs_fdpD_pD, gx_dI, gx_dT, gx_mS, gx_pF, gx_qI, gx_qB, gx_rI, gx_rB, gx_rD, gx_pI, gx_pB, gx_pD, gs_fmmI_mI, gs_fmmI_mT, gs_fmmI_mZ, gs_fmmI_aI, gs_fmmI_aZ, gs_fmmI_aD, gs_fmmT_mI, gs_fmmT_mT, gs_fmmT_mZ, gs_fmmT_aI, gs_fmmT_aZ, gs_fmmT_aD, gs_fmmZ_mI, gs_fmmZ_mT, gs_fmmZ_mZ, gs_fmmZ_aI, gs_fmmZ_aZ, gs_fmmZ_aD, gs_fmaI_mI, gs_fmaI_mT, gs_fmaI_mZ, gs_fmaI_aI, gs_fmaI_aZ, gs_fmaI_aD, gs_fmaZ_mI, gs_fmaZ_mT, gs_fmaZ_mZ, gs_fmaZ_aI, gs_fmaZ_aZ, gs_fmaZ_aD, gs_fmaD_mI, gs_fmaD_mT, gs_fmaD_mZ, gs_fmaD_aI, gs_fmaD_aZ, gs_fmaD_aD, gx_mI, gx_mT, gx_mZ, gx_aI, gx_aZ, gx_aD, ↓reduceIte] using hM
  have hQ0 : fs_Q (fd_sdI σ 7 (fd_dI σ 7 + 1)) (fm_smI μ 25 (fm_mI μ 25 + 1)) := by simpa [fs_Q, gs_fddI_dI, gs_fddI_dT, gs_fddI_mS, gs_fddI_pF, gs_fddI_qI, gs_fddI_qB, gs_fddI_rI, gs_fddI_rB, gs_fddI_rD, gs_fddI_pI, gs_fddI_pB, gs_fddI_pD, gs_fddT_dI, gs_fddT_dT, gs_fddT_mS, gs_fddT_pF, gs_fddT_qI, gs_fddT_qB, gs_fddT_rI, gs_fddT_rB, gs_fddT_rD, gs_fddT_pI, gs_fddT_pB, gs_fddT_pD, gs_fdmS_dI, gs_fdmS_dT, gs_fdmS_mS, gs_fdmS_pF, gs_fdmS_qI, gs_fdmS_qB, gs_fdmS_rI, gs_fdmS_rB, gs_fdmS_rD, gs_fdmS_pI, gs_fdmS_pB, gs_fdmS_pD, gs_fdpF_dI, gs_fdpF_dT, gs_fdpF_mS, gs_fdpF_pF, gs_fdpF_qI, gs_fdpF_qB, gs_fdpF_rI, gs_fdpF_rB, gs_fdpF_rD, gs_fdpF_pI, gs_fdpF_pB, gs_fdpF_pD, gs_fdqI_dI, gs_fdqI_dT, gs_fdqI_mS, gs_fdqI_pF, gs_fdqI_qI, gs_fdqI_qB, gs_fdqI_rI, gs_fdqI_rB, gs_fdqI_rD, gs_fdqI_pI, gs_fdqI_pB, gs_fdqI_pD, gs_fdqB_dI, gs_fdqB_dT, gs_fdqB_mS, gs_fdqB_pF, gs_fdqB_qI, gs_fdqB_qB, gs_fdqB_rI, gs_fdqB_rB, gs_fdqB_rD, gs_fdqB_pI, gs_fdqB_pB, gs_fdqB_pD, gs_fdrI_dI, gs_fdrI_dT, gs_fdrI_mS, gs_fdrI_pF, gs_fdrI_qI, gs_fdrI_qB, gs_fdrI_rI, gs_fdrI_rB, gs_fdrI_rD, gs_fdrI_pI, gs_fdrI_pB, gs_fdrI_pD, gs_fdrB_dI, gs_fdrB_dT, gs_fdrB_mS, gs_fdrB_pF, gs_fdrB_qI, gs_fdrB_qB, gs_fdrB_rI, gs_fdrB_rB, gs_fdrB_rD, gs_fdrB_pI, gs_fdrB_pB, gs_fdrB_pD, gs_fdrD_dI, gs_fdrD_dT, gs_fdrD_mS, gs_fdrD_pF, gs_fdrD_qI, gs_fdrD_qB, gs_fdrD_rI, gs_fdrD_rB, gs_fdrD_rD, gs_fdrD_pI, gs_fdrD_pB, gs_fdrD_pD, gs_fdpI_dI, gs_fdpI_dT, gs_fdpI_mS, gs_fdpI_pF, gs_fdpI_qI, gs_fdpI_qB, gs_fdpI_rI, gs_fdpI_rB, gs_fdpI_rD, gs_fdpI_pI, gs_fdpI_pB, gs_fdpI_pD, gs_fdpB_dI, gs_fdpB_dT, gs_fdpB_mS, gs_fdpB_pF, gs_fdpB_qI, gs_fdpB_qB, gs_fdpB_rI, gs_fdpB_rB, gs_fdpB_rD, gs_fdpB_pI, gs_fdpB_pB, gs_fdpB_pD, gs_fdpD_dI, gs_fdpD_dT, gs_fdpD_mS, gs_fdpD_pF, gs_fdpD_qI, gs_fdpD_qB, gs_fdpD_rI, gs_fdpD_rB, gs_fdpD_rD, gs_fdpD_pI, gs_fdpD_pB, gs_fdpD_pD, gx_dI, gx_dT, gx_mS, gx_pF, gx_qI, gx_qB, gx_rI, gx_rB, gx_rD, gx_pI, gx_pB, gx_pD, gs_fmmI_mI, gs_fmmI_mT, gs_fmmI_mZ, gs_fmmI_aI, gs_fmmI_aZ, gs_fmmI_aD, gs_fmmT_mI, gs_fmmT_mT, gs_fmmT_mZ, gs_fmmT_aI, gs_fmmT_aZ, gs_fmmT_aD, gs_fmmZ_mI, gs_fmmZ_mT, gs_fmmZ_mZ, gs_fmmZ_aI, gs_fmmZ_aZ, gs_fmmZ_aD, gs_fmaI_mI, gs_fmaI_mT, gs_fmaI_mZ, gs_fmaI_aI, gs_fmaI_aZ, gs_fmaI_aD, gs_fmaZ_mI, gs_fmaZ_mT, gs_fmaZ_mZ, gs_fmaZ_aI, gs_fmaZ_aZ, gs_fmaZ_aD, gs_fmaD_mI, gs_fmaD_mT, gs_fmaD_mZ, gs_fmaD_aI, gs_fmaD_aZ, gs_fmaD_aD, gx_mI, gx_mT, gx_mZ, gx_aI, gx_aZ, gx_aD, ↓reduceIte] using hQ
  have hR0 : fs_R (fd_sdI σ 7 (fd_dI σ 7 + 1)) (fm_smI μ 25 (fm_mI μ 25 + 1)) := by simpa [fs_R, gs_fddI_dI, gs_fddI_dT, gs_fddI_mS, gs_fddI_pF, gs_fddI_qI, gs_fddI_qB, gs_fddI_rI, gs_fddI_rB, gs_fddI_rD, gs_fddI_pI, gs_fddI_pB, gs_fddI_pD, gs_fddT_dI, gs_fddT_dT, gs_fddT_mS, gs_fddT_pF, gs_fddT_qI, gs_fddT_qB, gs_fddT_rI, gs_fddT_rB, gs_fddT_rD, gs_fddT_pI, gs_fddT_pB, gs_fddT_pD, gs_fdmS_dI, gs_fdmS_dT, gs_fdmS_mS, gs_fdmS_pF, gs_fdmS_qI, gs_fdmS_qB, gs_fdmS_rI, gs_fdmS_rB, gs_fdmS_rD, gs_fdmS_pI, gs_fdmS_pB, gs_fdmS_pD, gs_fdpF_dI, gs_fdpF_dT, gs_fdpF_mS, gs_fdpF_pF, gs_fdpF_qI, gs_fdpF_qB, gs_fdpF_rI, gs_fdpF_rB, gs_fdpF_rD, gs_fdpF_pI, gs_fdpF_pB, gs_fdpF_pD, gs_fdqI_dI, gs_fdqI_dT, gs_fdqI_mS, gs_fdqI_pF, gs_fdqI_qI, gs_fdqI_qB, gs_fdqI_rI, gs_fdqI_rB, gs_fdqI_rD, gs_fdqI_pI, gs_fdqI_pB, gs_fdqI_pD, gs_fdqB_dI, gs_fdqB_dT, gs_fdqB_mS, gs_fdqB_pF, gs_fdqB_qI, gs_fdqB_qB, gs_fdqB_rI, gs_fdqB_rB, gs_fdqB_rD, gs_fdqB_pI, gs_fdqB_pB, gs_fdqB_pD, gs_fdrI_dI, gs_fdrI_dT, gs_fdrI_mS, gs_fdrI_pF, gs_fdrI_qI, gs_fdrI_qB, gs_fdrI_rI, gs_fdrI_rB, gs_fdrI_rD, gs_fdrI_pI, gs_fdrI_pB, gs_fdrI_pD, gs_fdrB_dI, gs_fdrB_dT, gs_fdrB_mS, gs_fdrB_pF, gs_fdrB_qI, gs_fdrB_qB, gs_fdrB_rI, gs_fdrB_rB, gs_fdrB_rD, gs_fdrB_pI, gs_fdrB_pB, gs_fdrB_pD, gs_fdrD_dI, gs_fdrD_dT, gs_fdrD_mS, gs_fdrD_pF, gs_fdrD_qI, gs_fdrD_qB, gs_fdrD_rI, gs_fdrD_rB, gs_fdrD_rD, gs_fdrD_pI, gs_fdrD_pB, gs_fdrD_pD, gs_fdpI_dI, gs_fdpI_dT, gs_fdpI_mS, gs_fdpI_pF, gs_fdpI_qI, gs_fdpI_qB, gs_fdpI_rI, gs_fdpI_rB, gs_fdpI_rD, gs_fdpI_pI, gs_fdpI_pB, gs_fdpI_pD, gs_fdpB_dI, gs_fdpB_dT, gs_fdpB_mS, gs_fdpB_pF, gs_fdpB_qI, gs_fdpB_qB, gs_fdpB_rI, gs_fdpB_rB, gs_fdpB_rD, gs_fdpB_pI, gs_fdpB_pB, gs_fdpB_pD, gs_fdpD_dI, gs_fdpD_dT, gs_fdpD_mS, gs_fdpD_pF, gs_fdpD_qI, gs_fdpD_qB, gs_fdpD_rI, gs_fdpD_rB, gs_fdpD_rD, gs_fdpD_pI, gs_fdpD_pB, gs_fdpD_pD, gx_dI, gx_dT, gx_mS, gx_pF, gx_qI, gx_qB, gx_rI, gx_rB, gx_rD, gx_pI, gx_pB, gx_pD, gs_fmmI_mI, gs_fmmI_mT, gs_fmmI_mZ, gs_fmmI_aI, gs_fmmI_aZ, gs_fmmI_aD, gs_fmmT_mI, gs_fmmT_mT, gs_fmmT_mZ, gs_fmmT_aI, gs_fmmT_aZ, gs_fmmT_aD, gs_fmmZ_mI, gs_fmmZ_mT, gs_fmmZ_mZ, gs_fmmZ_aI, gs_fmmZ_aZ, gs_fmmZ_aD, gs_fmaI_mI, gs_fmaI_mT, gs_fmaI_mZ, gs_fmaI_aI, gs_fmaI_aZ, gs_fmaI_aD, gs_fmaZ_mI, gs_fmaZ_mT, gs_fmaZ_mZ, gs_fmaZ_aI, gs_fmaZ_aZ, gs_fmaZ_aD, gs_fmaD_mI, gs_fmaD_mT, gs_fmaD_mZ, gs_fmaD_aI, gs_fmaD_aZ, gs_fmaD_aD, gx_mI, gx_mT, gx_mZ, gx_aI, gx_aZ, gx_aD, ↓reduceIte] using hR
  obtain ⟨m1, μ1, hM1, hno, f1, g1, ha⟩ := fs_ask0 hM0 hQ0
  have hQ1 := fs_fr_Q hQ0 f1 g1
  have hR1 := fs_fr_R hR0 f1 g1
  have i28 : fm_mI μ1 28 = fm_mI μ 28 := g1.2.2.1 28 (by decide)
  have i29 : fm_mI μ1 29 = fm_mI μ 29 := g1.2.2.1 29 (by decide)
  have i30 : fm_mI μ1 30 = fm_mI μ 30 := g1.2.2.1 30 (by decide)
  have i13 : fm_aD μ1 13 u = fm_aD μ 13 u := g1.2.2.2.2.2 13 u (by decide)
  have iT : fm_mT μ1 = fm_mT μ := g1.1
  have iD : fd_dT (fv_Mm_forget (fd_sdI σ 7 (fd_dI σ 7 + 1))) = fd_dT σ := f1.2.1
  have h := fs_at hM1 hQ1 hR1 hu (by rw [i29]; exact hurl) (by rw [i28]; exact ho) (by rw [i30]; exact hme) hno (by rw [iD, iT]; exact hT) (by rw [iT]; exact hn) (by rw [i13]; exact hf)
  have e1 : fv_Dk_ask σ u = fd_at (fv_Mm_forget (fd_sdI σ 7 (fd_dI σ 7 + 1))) u := by
    unfold fv_Dk_ask fv_Dk_ask_j3 fd_at
    rfl
  have e2 : fv_Md_ask μ = fm_at μ1 := ha μ
  rw [e1, e2]
  obtain ⟨h1, m2, h2, h3, h4⟩ := h
  exact ⟨h1, m2, h2, fd_fr_tr f1 h3, fm_fr_tr g1 h4⟩
