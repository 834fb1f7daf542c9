/-! what the model's checks give -/
theorem fm_in {σ : FMS} {p a b : Int32} (h : fv_Md_in σ p a b = true) : a.toInt ≤ p.toInt ∧ p.toInt ≤ b.toInt := by
  rw [fv_Md_in, fv_Md_in_j1] at h
  by_cases c1 : p < a
  · rw [if_pos c1] at h
    cases h
  · rw [if_neg c1] at h
    by_cases c2 : b < p
    · rw [if_pos c2] at h
      cases h
    · rw [Int32.lt_iff_toInt_lt] at c1 c2
      omega
theorem fm_isUrl {σ : FMS} {p : Int32} (h : fv_Md_isUrl σ p = true) : vp_in p 48 := by
  have h := fm_in (show fv_Md_in σ p 0 47 = true from h)
  rw [vp_in_iff]
  have e0 : (0 : Int32).toInt = 0 := rfl
  have e1 : (47 : Int32).toInt = 47 := rfl
  omega
theorem fm_first {v A B : Bool} (h : fd_bi v ≤ 0) (hv : v = (if A = true then B else true)) : A = true ∧ v = B := by
  cases A
  · rw [if_neg (by decide)] at hv
    subst hv
    exact absurd h (by decide)
  · rw [if_pos rfl] at hv
    exact ⟨rfl, hv⟩
theorem fm_tg {σ : FMS} {v : Bool} {p : Int32} (h : fd_bi v ≤ 0) (hv : v = (if p = (-1) then false else if (fv_Md_isUrl σ p) = true then false else true)) : p = -1 ∨ vp_in p 48 := by
  by_cases c1 : p = -1
  · exact Or.inl c1
  · rw [if_neg c1] at hv
    by_cases c2 : fv_Md_isUrl σ p = true
    · exact Or.inr (fm_isUrl c2)
    · rw [if_neg c2] at hv
      subst hv
      exact absurd h (by decide)
theorem fm_agef {p : UInt64} {v : Bool} (h : fd_bi v ≤ 0) (hv : v = (if (Op.cmpValue (FP.dcmp p FP.dconst0) .l) < 0 then true else if 0 < (Op.cmpValue (FP.dcmp p 4636737291354636288) .g) then true else false)) : FP.Core.DFin p := by
  by_cases c1 : (Op.cmpValue (FP.dcmp p FP.dconst0) .l) < 0
  · rw [if_pos c1] at hv
    subst hv
    exact absurd h (by decide)
  · rw [if_neg c1] at hv
    by_cases c2 : 0 < (Op.cmpValue (FP.dcmp p 4636737291354636288) .g)
    · rw [if_pos c2] at hv
      subst hv
      exact absurd h (by decide)
    · exact fd_fin (by decide) (fd_cmpg2 c2) (fd_cmpl c1)
theorem fm_tickn {σ : FMS} {p : UInt64} {v : Bool} (hI : fm_Inv σ) (h : fd_bi v ≤ 0) (hv : v = (if (Op.cmpValue (FP.dcmp p FP.dconst0) .l) ≤ 0 then true else if 0 < (Op.cmpValue (FP.dcmp p 4652007308841189376) .g) then true else false)) : FP.dIsNaN (FP.dadd (fm_mT σ) p) = false := by
  refine FP.Core.dadd_out hI.2.2.2.1 ?_
  by_cases c1 : (Op.cmpValue (FP.dcmp p FP.dconst0) .l) ≤ 0
  · rw [if_pos c1] at hv
    subst hv
    exact absurd h (by decide)
  · rw [if_neg c1] at hv
    by_cases c2 : 0 < (Op.cmpValue (FP.dcmp p 4652007308841189376) .g)
    · rw [if_pos c2] at hv
      subst hv
      exact absurd h (by decide)
    · exact fd_fin (by decide) (fd_cmpg2 c2) (fd_cmpl2 c1)
theorem fm_in10 {σ : FMS} {p : Int32} (h : fv_Md_in σ p 0 9 = true) : vp_in p 10 := by
  have h := fm_in h
  rw [vp_in_iff]
  have e0 : (0 : Int32).toInt = 0 := rfl
  have e1 : (9 : Int32).toInt = 9 := rfl
  omega
theorem fm_ink {σ : FMS} {p : Int32} (hI : fm_Inv σ) (h : fv_Md_in σ p 0 ((fm_mI σ 21) - 1) = true) : vp_in p 7 := by
  have h := fm_in h
  obtain ⟨n, hn, e⟩ := hI.2.2.1
  rw [vp_in_iff]
  have e0 : (0 : Int32).toInt = 0 := rfl
  rw [e, show (1 : Int32) = nI 1 from rfl, pk_sub_toInt (by omega) (by omega)] at h
  omega
theorem fm_leftin {v A : Bool} (h : ¬ 0 < fd_bi v) (hv : v = (if A = true then false else true)) : A = true := by
  cases A
  · rw [if_neg (by decide)] at hv
    subst hv
    exact absurd (by decide) h
  · rfl
theorem fm_leftn {σ : FMS} {p : Int32} (hI : fm_Inv σ) (hp : vp_in p 7) (h : (Op.cmpValue (FP.dcmp (fm_mT σ) (fm_aD σ 14 p.toNatClampNeg)) .l) < 0) : FP.dIsNaN (FP.dsub (fm_aD σ 14 p.toNatClampNeg) (fm_mT σ)) = false := by
  refine FP.Core.dsub_of_lt ?_
  have n1 : FP.Core.val64 (fm_mT σ) ≠ .nan := (FP.Core.notNaN_iff _).mp hI.2.2.2.1
  have n2 : FP.Core.val64 (fm_aD σ 14 p.toNatClampNeg) ≠ .nan := (FP.Core.notNaN_iff _).mp (hI.2.2.2.2.2 _ (fd_lt hp))
  have k := FP.Core.dcmp_key n1 n2
  have h : (Op.cmpValue (FP.Core.dcmp (fm_mT σ) (fm_aD σ 14 p.toNatClampNeg)) .l) < 0 := h
  rw [k] at h ⊢
  cases hc : compare (FP.Core.dkey (fm_mT σ)) (FP.Core.dkey (fm_aD σ 14 p.toNatClampNeg)) with
  | lt => rfl
  | eq => rw [hc] at h; exact absurd h (by decide)
  | gt => rw [hc] at h; exact absurd h (by decide)
theorem fm_cnt60 {σ : FMS} {p a b : Int32} (h : fv_Md_in σ p a b = true) (hb : b.toInt ≤ 107) (h1 : ¬ p ≤ 59) : vp_in (p - 60) 48 := by
  have h := fm_in h
  rw [Int32.le_iff_toInt_le] at h1
  have e1 : (59 : Int32).toInt = 59 := rfl
  obtain ⟨j, hj, rfl⟩ : ∃ j : Nat, j < 108 ∧ p = nI j := vp_in_of (vp_in_iff.mpr ⟨by omega, by omega⟩) (by decide)
  rw [nI_toInt (by omega)] at h1
  rw [show (60 : Int32) = nI 60 from rfl, pk_sub (by omega)]
  exact vp_in_nI (by omega) (by decide)
theorem fm_cnt10 {σ : FMS} {p a b : Int32} (h : fv_Md_in σ p a b = true) (hab : b.toInt ≤ 57 ∨ 60 ≤ a.toInt) (h1 : p ≤ 59) (h2 : ¬ p ≤ 9) : vp_in (p - 10) 48 := by
  have h := fm_in h
  rw [Int32.le_iff_toInt_le] at h1 h2
  have e1 : (59 : Int32).toInt = 59 := rfl
  have e2 : (9 : Int32).toInt = 9 := rfl
  obtain ⟨j, hj, rfl⟩ : ∃ j : Nat, j < 58 ∧ p = nI j := vp_in_of (vp_in_iff.mpr ⟨by omega, by omega⟩) (by decide)
  rw [nI_toInt (by omega)] at h2
  rw [show (10 : Int32) = nI 10 from rfl, pk_sub (by omega)]
  exact vp_in_nI (by omega) (by decide)
