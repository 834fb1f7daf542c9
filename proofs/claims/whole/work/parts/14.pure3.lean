/-! what the checks of the face give -/
theorem fd_url {σ : FDS} {p : Int32} (h : fv_Dk_isUrl σ p = true) : vp_in p 48 := by
  rw [fv_Dk_isUrl, fv_Dk_isUrl_j1] at h
  by_cases c1 : p < 0
  · rw [if_pos c1] at h
    cases h
  · rw [if_neg c1] at h
    by_cases c2 : 48 ≤ p
    · rw [if_pos c2] at h
      cases h
    · rw [vp_in_iff]
      rw [Int32.lt_iff_toInt_lt] at c1
      rw [Int32.le_iff_toInt_le] at c2
      have e0 : (0 : Int32).toInt = 0 := rfl
      have e1 : (48 : Int32).toInt = 48 := rfl
      omega
theorem fd_holds {σ : FDS} {p : Int32} (hI : fd_Inv σ) (h : fv_Mm_holds σ p = true) : vp_in p 6 := by
  rw [fv_Mm_holds, fv_Mm_holds_j1] at h
  by_cases c1 : p < 0
  · rw [if_pos c1] at h
    cases h
  · rw [if_neg c1] at h
    by_cases c2 : fd_mS σ ≤ p
    · rw [if_pos c2] at h
      cases h
    · obtain ⟨n, hn, e⟩ := hI.2.2.1
      rw [e] at c2
      rw [vp_in_iff]
      rw [Int32.lt_iff_toInt_lt] at c1
      rw [Int32.le_iff_toInt_le, nI_toInt (by omega)] at c2
      have e0 : (0 : Int32).toInt = 0 := rfl
      omega
theorem fd_tg {σ : FDS} {p : Int32} {v : Bool} (h : v = true) (hv : v = (if p = (-1) then true else if (fv_Dk_isUrl σ p) = true then true else false)) : p = -1 ∨ vp_in p 48 := by
  by_cases c1 : p = -1
  · exact Or.inl c1
  · rw [if_neg c1, h] at hv
    by_cases c2 : fv_Dk_isUrl σ p = true
    · exact Or.inr (fd_url c2)
    · rw [if_neg c2] at hv
      cases hv
theorem fd_cmpg {o : Option Ordering} (h : ¬ 0 ≤ Op.cmpValue o .g) : o = some .lt := by
  cases o with
  | none => exact absurd (by decide) h
  | some r =>
    cases r with
    | lt => rfl
    | eq => exact absurd (by decide) h
    | gt => exact absurd (by decide) h
theorem fd_cmpg2 {o : Option Ordering} (h : ¬ 0 < Op.cmpValue o .g) : o = some .lt ∨ o = some .eq := by
  cases o with
  | none => exact absurd (by decide) h
  | some r =>
    cases r with
    | lt => exact Or.inl rfl
    | eq => exact Or.inr rfl
    | gt => exact absurd (by decide) h
theorem fd_cmpl {o : Option Ordering} (h : ¬ Op.cmpValue o .l < 0) : o = some .gt ∨ o = some .eq := by
  cases o with
  | none => exact absurd (by decide) h
  | some r =>
    cases r with
    | lt => exact absurd (by decide) h
    | eq => exact Or.inr rfl
    | gt => exact Or.inl rfl
theorem fd_cmpl2 {o : Option Ordering} (h : ¬ Op.cmpValue o .l ≤ 0) : o = some .gt ∨ o = some .eq := by
  cases o with
  | none => exact absurd (by decide) h
  | some r =>
    cases r with
    | lt => exact absurd (by decide) h
    | eq => exact absurd (by decide) h
    | gt => exact Or.inl rfl
theorem fd_fin {a b : UInt64} (hb : b.toNat < 9218868437227405312) (h1 : FP.dcmp a b = some .lt ∨ FP.dcmp a b = some .eq) (h2 : FP.dcmp a FP.dconst0 = some .gt ∨ FP.dcmp a FP.dconst0 = some .eq) : FP.Core.DFin a := by
  have hab : FP.Core.val64 a ≠ .nan ∧ FP.Core.val64 b ≠ .nan := h1.elim FP.Core.dcmp_some FP.Core.dcmp_some
  have h0 : FP.Core.val64 FP.dconst0 ≠ .nan := (h2.elim FP.Core.dcmp_some FP.Core.dcmp_some).2
  have k1 := FP.Core.dcmp_key hab.1 hab.2
  have k2 := FP.Core.dcmp_key hab.1 h0
  have l1 : FP.Core.dkey a ≤ FP.Core.dkey b := by
    rcases h1 with h | h
    · have h : FP.Core.dcmp a b = some .lt := h
      rw [k1, Option.some.injEq, FP.Core.compare_lt_iff] at h
      omega
    · have h : FP.Core.dcmp a b = some .eq := h
      rw [k1, Option.some.injEq, FP.Core.compare_eq_iff] at h
      omega
  have l2 : FP.Core.dkey FP.dconst0 ≤ FP.Core.dkey a := by
    rcases h2 with h | h
    · have h : FP.Core.dcmp a FP.dconst0 = some .gt := h
      rw [k2, Option.some.injEq, FP.Core.compare_gt_iff] at h
      omega
    · have h : FP.Core.dcmp a FP.dconst0 = some .eq := h
      rw [k2, Option.some.injEq, FP.Core.compare_eq_iff] at h
      omega
  have z0 : FP.Core.dkey FP.dconst0 = 0 := by decide
  rw [FP.Core.fin_bits]
  have ha := a.toNat_lt
  rw [z0] at l2
  unfold FP.Core.dkey at l1 l2
  have hb2 : ¬ 2 ^ 63 ≤ b.toNat := by omega
  rw [if_neg hb2] at l1
  by_cases c : 2 ^ 63 ≤ a.toNat
  · rw [if_pos c] at l1 l2
    omega
  · rw [if_neg c] at l1 l2
    omega
theorem fd_agef {p : UInt64} {v : Bool} (h : v = true) (hv : v = (if (Op.cmpValue (FP.dcmp p FP.dconst0) .l) < 0 then false else if 0 < (Op.cmpValue (FP.dcmp p 4636737291354636288) .g) then false else true)) : FP.Core.DFin p := by
  rw [h] at hv
  by_cases c1 : (Op.cmpValue (FP.dcmp p FP.dconst0) .l) < 0
  · rw [if_pos c1] at hv
    cases hv
  · rw [if_neg c1] at hv
    by_cases c2 : 0 < (Op.cmpValue (FP.dcmp p 4636737291354636288) .g)
    · rw [if_pos c2] at hv
      cases hv
    · exact fd_fin (by decide) (fd_cmpg2 c2) (fd_cmpl c1)
theorem fd_tickf {p : UInt64} {v : Bool} (h : v = true) (hv : v = (if (Op.cmpValue (FP.dcmp p FP.dconst0) .l) ≤ 0 then false else if 0 < (Op.cmpValue (FP.dcmp p 4652007308841189376) .g) then false else true)) : FP.Core.DFin p := by
  rw [h] at hv
  by_cases c1 : (Op.cmpValue (FP.dcmp p FP.dconst0) .l) ≤ 0
  · rw [if_pos c1] at hv
    cases hv
  · rw [if_neg c1] at hv
    by_cases c2 : 0 < (Op.cmpValue (FP.dcmp p 4652007308841189376) .g)
    · rw [if_pos c2] at hv
      cases hv
    · exact fd_fin (by decide) (fd_cmpg2 c2) (fd_cmpl2 c1)
theorem fd_tickn {σ : FDS} {p : UInt64} {v : Bool} (hI : fd_Inv σ) (h : v = true) (hv : v = (if (Op.cmpValue (FP.dcmp p FP.dconst0) .l) ≤ 0 then false else if 0 < (Op.cmpValue (FP.dcmp p 4652007308841189376) .g) then false else true)) : FP.dIsNaN (FP.dadd (fd_dT σ) p) = false := FP.Core.dadd_out hI.2.2.2.2.1 (fd_tickf h hv)
