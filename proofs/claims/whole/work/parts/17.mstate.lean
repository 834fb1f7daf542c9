/-! what a state of the model is; the cells that hold it -/
abbrev FMS : Type := (Nat → Int32) × UInt64 × Bool × (Nat → Nat → Int32) × (Nat → Nat → Bool) × (Nat → Nat → UInt64)
def fm_mI (σ : FMS) : Nat → Int32 := σ.1
def fm_mT (σ : FMS) : UInt64 := σ.2.1
def fm_mZ (σ : FMS) : Bool := σ.2.2.1
def fm_aI (σ : FMS) : Nat → Nat → Int32 := σ.2.2.2.1
def fm_aZ (σ : FMS) : Nat → Nat → Bool := σ.2.2.2.2.1
def fm_aD (σ : FMS) : Nat → Nat → UInt64 := σ.2.2.2.2.2
def fm_smI (σ : FMS) (k : Nat) (v : Int32) : FMS := (va_up σ.1 k v, σ.2)
def fm_smT (σ : FMS) (v : UInt64) : FMS := (σ.1, v, σ.2.2)
def fm_smZ (σ : FMS) (v : Bool) : FMS := (σ.1, σ.2.1, v, σ.2.2.2)
def fm_saI (σ : FMS) (k i : Nat) (v : Int32) : FMS := (σ.1, σ.2.1, σ.2.2.1, va_up σ.2.2.2.1 k (upd (σ.2.2.2.1 k) i v), σ.2.2.2.2)
def fm_saZ (σ : FMS) (k i : Nat) (v : Bool) : FMS := (σ.1, σ.2.1, σ.2.2.1, σ.2.2.2.1, va_up σ.2.2.2.2.1 k (va_up (σ.2.2.2.2.1 k) i v), σ.2.2.2.2.2)
def fm_saD (σ : FMS) (k i : Nat) (v : UInt64) : FMS := (σ.1, σ.2.1, σ.2.2.1, σ.2.2.2.1, σ.2.2.2.2.1, va_up σ.2.2.2.2.2 k (vf_upd (σ.2.2.2.2.2 k) i v))
def fm_fs (am : Nat → Nat) (σ : FMS) : List Value := [.ref (am 1), .ref (am 2), .ref (am 3), .ref (am 4), .ref (am 5), .ref (am 6), .ref (am 7), .ref (am 8), .ref (am 9), .ref (am 10), .ref (am 11), .ref (am 12), .ref (am 13), .ref (am 14), .ref (am 15), .ref (am 16), .ref (am 17), .ref (am 18), .ref (am 19), .ref (am 20), .double (fm_mT σ), .int (fm_mI σ 21), .int (fm_mI σ 22), .int (fm_mI σ 23), .int (fm_mI σ 24), .int (fm_mI σ 25), .int (fm_mI σ 26), .int (fm_mI σ 27), .int (fm_mI σ 28), .int (fm_mI σ 29), .int (fm_mI σ 30), .int (fm_mI σ 31), .int (fd_bi (fm_mZ σ))]
def fm_w (ca : Nat → ClassId) (am : Nat → Nat) (σ : FMS) : va_W := [(am 0, .inr (5, fm_fs am σ)), (am 1, .inl (ca 0, 48, .inl (fm_aI σ 0))), (am 2, .inl (ca 1, 48, .inl (fm_aI σ 1))), (am 3, .inl (ca 2, 48, .inl (fm_aI σ 2))), (am 4, .inl (ca 3, 48, .inl (fm_aI σ 3))), (am 5, .inl (ca 4, 48, .inl (fm_aI σ 4))), (am 6, .inl (ca 5, 48, .inl (fm_aI σ 5))), (am 7, .inl (ca 6, 48, .inl (fm_aI σ 6))), (am 8, .inl (ca 7, 48, .inl (fm_aI σ 7))), (am 9, .inl (ca 8, 48, .inl (fm_aI σ 8))), (am 10, .inl (ca 9, 48, .inl (fm_aI σ 9))), (am 11, .inl (ca 10, 48, .inl (fun i => fd_bi (fm_aZ σ 10 i)))), (am 12, .inl (ca 11, 48, .inl (fun i => fd_bi (fm_aZ σ 11 i)))), (am 13, .inl (ca 12, 7, .inl (fun i => fd_bi (fm_aZ σ 12 i)))), (am 14, .inl (ca 13, 48, .inr (.inr (.inr (.inl (fm_aD σ 13)))))), (am 15, .inl (ca 14, 7, .inr (.inr (.inr (.inl (fm_aD σ 14)))))), (am 16, .inl (ca 15, 7, .inl (fm_aI σ 15))), (am 17, .inl (ca 16, 7, .inl (fm_aI σ 16))), (am 18, .inl (ca 17, 7, .inl (fm_aI σ 17))), (am 19, .inl (ca 18, 7, .inl (fm_aI σ 18))), (am 20, .inl (ca 19, 10, .inl (fm_aI σ 19)))]
abbrev fm_tys (ca : Nat → ClassId) : List (ClassId × FieldType) := [(ca 0, .int), (ca 1, .int), (ca 2, .int), (ca 3, .int), (ca 4, .int), (ca 5, .int), (ca 6, .int), (ca 7, .int), (ca 8, .int), (ca 9, .int), (ca 10, .boolean), (ca 11, .boolean), (ca 12, .boolean), (ca 13, .double), (ca 14, .double), (ca 15, .int), (ca 16, .int), (ca 17, .int), (ca 18, .int), (ca 19, .int)]
section FMW
variable {ca : Nat → ClassId} {am : Nat → Nat} {σ : FMS}
theorem fm_set_mT {v : UInt64} : (fm_w ca am σ).set 0 (am 0, .inr (5, (fm_fs am σ).set 20 (.double v))) = fm_w ca am (fm_smT σ v) := rfl
theorem fm_set_mI_21 {v : Int32} : (fm_w ca am σ).set 0 (am 0, .inr (5, (fm_fs am σ).set 21 (.int v))) = fm_w ca am (fm_smI σ 21 v) := rfl
theorem fm_set_mI_22 {v : Int32} : (fm_w ca am σ).set 0 (am 0, .inr (5, (fm_fs am σ).set 22 (.int v))) = fm_w ca am (fm_smI σ 22 v) := rfl
theorem fm_set_mI_23 {v : Int32} : (fm_w ca am σ).set 0 (am 0, .inr (5, (fm_fs am σ).set 23 (.int v))) = fm_w ca am (fm_smI σ 23 v) := rfl
theorem fm_set_mI_24 {v : Int32} : (fm_w ca am σ).set 0 (am 0, .inr (5, (fm_fs am σ).set 24 (.int v))) = fm_w ca am (fm_smI σ 24 v) := rfl
theorem fm_set_mI_25 {v : Int32} : (fm_w ca am σ).set 0 (am 0, .inr (5, (fm_fs am σ).set 25 (.int v))) = fm_w ca am (fm_smI σ 25 v) := rfl
theorem fm_set_mI_26 {v : Int32} : (fm_w ca am σ).set 0 (am 0, .inr (5, (fm_fs am σ).set 26 (.int v))) = fm_w ca am (fm_smI σ 26 v) := rfl
theorem fm_set_mI_27 {v : Int32} : (fm_w ca am σ).set 0 (am 0, .inr (5, (fm_fs am σ).set 27 (.int v))) = fm_w ca am (fm_smI σ 27 v) := rfl
theorem fm_set_mI_28 {v : Int32} : (fm_w ca am σ).set 0 (am 0, .inr (5, (fm_fs am σ).set 28 (.int v))) = fm_w ca am (fm_smI σ 28 v) := rfl
theorem fm_set_mI_29 {v : Int32} : (fm_w ca am σ).set 0 (am 0, .inr (5, (fm_fs am σ).set 29 (.int v))) = fm_w ca am (fm_smI σ 29 v) := rfl
theorem fm_set_mI_30 {v : Int32} : (fm_w ca am σ).set 0 (am 0, .inr (5, (fm_fs am σ).set 30 (.int v))) = fm_w ca am (fm_smI σ 30 v) := rfl
theorem fm_set_mI_31 {v : Int32} : (fm_w ca am σ).set 0 (am 0, .inr (5, (fm_fs am σ).set 31 (.int v))) = fm_w ca am (fm_smI σ 31 v) := rfl
theorem fm_set_mZ {v : Bool} : (fm_w ca am σ).set 0 (am 0, .inr (5, (fm_fs am σ).set 32 (.int (fd_bi v)))) = fm_w ca am (fm_smZ σ v) := rfl
theorem fm_set_a_0 {i : Nat} {v : Int32} : (fm_w ca am σ).set 1 (am 1, .inl (ca 0, 48, .inl (upd (fm_aI σ 0) i v))) = fm_w ca am (fm_saI σ 0 i v) := rfl
theorem fm_set_a_1 {i : Nat} {v : Int32} : (fm_w ca am σ).set 2 (am 2, .inl (ca 1, 48, .inl (upd (fm_aI σ 1) i v))) = fm_w ca am (fm_saI σ 1 i v) := rfl
theorem fm_set_a_2 {i : Nat} {v : Int32} : (fm_w ca am σ).set 3 (am 3, .inl (ca 2, 48, .inl (upd (fm_aI σ 2) i v))) = fm_w ca am (fm_saI σ 2 i v) := rfl
theorem fm_set_a_3 {i : Nat} {v : Int32} : (fm_w ca am σ).set 4 (am 4, .inl (ca 3, 48, .inl (upd (fm_aI σ 3) i v))) = fm_w ca am (fm_saI σ 3 i v) := rfl
theorem fm_set_a_4 {i : Nat} {v : Int32} : (fm_w ca am σ).set 5 (am 5, .inl (ca 4, 48, .inl (upd (fm_aI σ 4) i v))) = fm_w ca am (fm_saI σ 4 i v) := rfl
theorem fm_set_a_5 {i : Nat} {v : Int32} : (fm_w ca am σ).set 6 (am 6, .inl (ca 5, 48, .inl (upd (fm_aI σ 5) i v))) = fm_w ca am (fm_saI σ 5 i v) := rfl
theorem fm_set_a_6 {i : Nat} {v : Int32} : (fm_w ca am σ).set 7 (am 7, .inl (ca 6, 48, .inl (upd (fm_aI σ 6) i v))) = fm_w ca am (fm_saI σ 6 i v) := rfl
theorem fm_set_a_7 {i : Nat} {v : Int32} : (fm_w ca am σ).set 8 (am 8, .inl (ca 7, 48, .inl (upd (fm_aI σ 7) i v))) = fm_w ca am (fm_saI σ 7 i v) := rfl
theorem fm_set_a_8 {i : Nat} {v : Int32} : (fm_w ca am σ).set 9 (am 9, .inl (ca 8, 48, .inl (upd (fm_aI σ 8) i v))) = fm_w ca am (fm_saI σ 8 i v) := rfl
theorem fm_set_a_9 {i : Nat} {v : Int32} : (fm_w ca am σ).set 10 (am 10, .inl (ca 9, 48, .inl (upd (fm_aI σ 9) i v))) = fm_w ca am (fm_saI σ 9 i v) := rfl
theorem fm_set_a_10 {i : Nat} {v : Bool} : (fm_w ca am σ).set 11 (am 11, .inl (ca 10, 48, .inl (upd (fun i => fd_bi (fm_aZ σ 10 i)) i (vp_nar .boolean (fd_bi v))))) = fm_w ca am (fm_saZ σ 10 i v) := by
  have e : upd (fun i => fd_bi (fm_aZ σ 10 i)) i (vp_nar .boolean (fd_bi v)) = (fun j => fd_bi (fm_aZ (fm_saZ σ 10 i v) 10 j)) := by
    funext j
    have h : vp_nar .boolean (fd_bi v) = fd_bi v := by cases v <;> rfl
    rw [h]
    show upd (fun i => fd_bi (fm_aZ σ 10 i)) i (fd_bi v) j = fd_bi (va_up (fm_aZ σ 10) i v j)
    unfold upd va_up
    split <;> rfl
  rw [e]
  rfl
theorem fm_set_a_11 {i : Nat} {v : Bool} : (fm_w ca am σ).set 12 (am 12, .inl (ca 11, 48, .inl (upd (fun i => fd_bi (fm_aZ σ 11 i)) i (vp_nar .boolean (fd_bi v))))) = fm_w ca am (fm_saZ σ 11 i v) := by
  have e : upd (fun i => fd_bi (fm_aZ σ 11 i)) i (vp_nar .boolean (fd_bi v)) = (fun j => fd_bi (fm_aZ (fm_saZ σ 11 i v) 11 j)) := by
    funext j
    have h : vp_nar .boolean (fd_bi v) = fd_bi v := by cases v <;> rfl
    rw [h]
    show upd (fun i => fd_bi (fm_aZ σ 11 i)) i (fd_bi v) j = fd_bi (va_up (fm_aZ σ 11) i v j)
    unfold upd va_up
    split <;> rfl
  rw [e]
  rfl
theorem fm_set_a_12 {i : Nat} {v : Bool} : (fm_w ca am σ).set 13 (am 13, .inl (ca 12, 7, .inl (upd (fun i => fd_bi (fm_aZ σ 12 i)) i (vp_nar .boolean (fd_bi v))))) = fm_w ca am (fm_saZ σ 12 i v) := by
  have e : upd (fun i => fd_bi (fm_aZ σ 12 i)) i (vp_nar .boolean (fd_bi v)) = (fun j => fd_bi (fm_aZ (fm_saZ σ 12 i v) 12 j)) := by
    funext j
    have h : vp_nar .boolean (fd_bi v) = fd_bi v := by cases v <;> rfl
    rw [h]
    show upd (fun i => fd_bi (fm_aZ σ 12 i)) i (fd_bi v) j = fd_bi (va_up (fm_aZ σ 12) i v j)
    unfold upd va_up
    split <;> rfl
  rw [e]
  rfl
theorem fm_set_a_13 {i : Nat} {v : UInt64} : (fm_w ca am σ).set 14 (am 14, .inl (ca 13, 48, .inr (.inr (.inr (.inl (vf_upd (fm_aD σ 13) i v)))))) = fm_w ca am (fm_saD σ 13 i v) := rfl
theorem fm_set_a_14 {i : Nat} {v : UInt64} : (fm_w ca am σ).set 15 (am 15, .inl (ca 14, 7, .inr (.inr (.inr (.inl (vf_upd (fm_aD σ 14) i v)))))) = fm_w ca am (fm_saD σ 14 i v) := rfl
theorem fm_set_a_15 {i : Nat} {v : Int32} : (fm_w ca am σ).set 16 (am 16, .inl (ca 15, 7, .inl (upd (fm_aI σ 15) i v))) = fm_w ca am (fm_saI σ 15 i v) := rfl
theorem fm_set_a_16 {i : Nat} {v : Int32} : (fm_w ca am σ).set 17 (am 17, .inl (ca 16, 7, .inl (upd (fm_aI σ 16) i v))) = fm_w ca am (fm_saI σ 16 i v) := rfl
theorem fm_set_a_17 {i : Nat} {v : Int32} : (fm_w ca am σ).set 18 (am 18, .inl (ca 17, 7, .inl (upd (fm_aI σ 17) i v))) = fm_w ca am (fm_saI σ 17 i v) := rfl
theorem fm_set_a_18 {i : Nat} {v : Int32} : (fm_w ca am σ).set 19 (am 19, .inl (ca 18, 7, .inl (upd (fm_aI σ 18) i v))) = fm_w ca am (fm_saI σ 18 i v) := rfl
theorem fm_set_a_19 {i : Nat} {v : Int32} : (fm_w ca am σ).set 20 (am 20, .inl (ca 19, 10, .inl (upd (fm_aI σ 19) i v))) = fm_w ca am (fm_saI σ 19 i v) := rfl
end FMW
/-- what always holds of the model's state -/
def fm_Inv (σ : FMS) : Prop := vp_in (fm_mI σ 29) 48 ∧ (∀ u, u < 48 → fm_aI σ 2 u = -1 ∨ vp_in (fm_aI σ 2 u) 48) ∧ (∃ n : Nat, n ≤ 6 ∧ fm_mI σ 21 = nI n) ∧ FP.dIsNaN (fm_mT σ) = false ∧ (∀ u, u < 48 → FP.Core.DFin (fm_aD σ 13 u)) ∧ ∀ i, i < 7 → FP.dIsNaN (fm_aD σ 14 i) = false
theorem fm_inv_smI {σ : FMS} {k : Nat} {v : Int32} (h1 : (29 : Nat) ≠ k) (h2 : (21 : Nat) ≠ k) (h : fm_Inv σ) : fm_Inv (fm_smI σ k v) := ⟨by
  show vp_in (va_up (fm_mI σ) k v 29) 48
  rw [va_up_ne _ _ h1]
  exact h.1, h.2.1, by
  show ∃ n : Nat, n ≤ 6 ∧ va_up (fm_mI σ) k v 21 = nI n
  rw [va_up_ne _ _ h2]
  exact h.2.2.1, h.2.2.2⟩
theorem fm_inv_url {σ : FMS} {v : Int32} (hv : vp_in v 48) (h : fm_Inv σ) : fm_Inv (fm_smI σ 29 v) := ⟨by
  show vp_in (va_up (fm_mI σ) 29 v 29) 48
  rw [va_up_self]
  exact hv, h.2.1, by
  show ∃ n : Nat, n ≤ 6 ∧ va_up (fm_mI σ) 29 v 21 = nI n
  rw [va_up_ne _ _ (by decide)]
  exact h.2.2.1, h.2.2.2⟩
theorem fm_inv_kept {σ : FMS} {v : Int32} (hv : ∃ n : Nat, n ≤ 6 ∧ v = nI n) (h : fm_Inv σ) : fm_Inv (fm_smI σ 21 v) := ⟨by
  show vp_in (va_up (fm_mI σ) 21 v 29) 48
  rw [va_up_ne _ _ (by decide)]
  exact h.1, h.2.1, by
  show ∃ n : Nat, n ≤ 6 ∧ va_up (fm_mI σ) 21 v 21 = nI n
  rw [va_up_self]
  exact hv, h.2.2.2⟩
theorem fm_inv_smT {σ : FMS} {v : UInt64} (hv : FP.dIsNaN v = false) (h : fm_Inv σ) : fm_Inv (fm_smT σ v) := ⟨h.1, h.2.1, h.2.2.1, hv, h.2.2.2.2⟩
theorem fm_inv_smZ {σ : FMS} {v : Bool} (h : fm_Inv σ) : fm_Inv (fm_smZ σ v) := h
theorem fm_inv_saZ {σ : FMS} {k i : Nat} {v : Bool} (h : fm_Inv σ) : fm_Inv (fm_saZ σ k i v) := h
theorem fm_inv_saI {σ : FMS} {k i : Nat} {v : Int32} (hk : (2 : Nat) ≠ k) (h : fm_Inv σ) : fm_Inv (fm_saI σ k i v) := ⟨h.1, fun u hu => by
  show va_up (fm_aI σ) k (upd (fm_aI σ k) i v) 2 u = -1 ∨ vp_in (va_up (fm_aI σ) k (upd (fm_aI σ k) i v) 2 u) 48
  rw [va_up_ne _ _ hk]
  exact h.2.1 u hu, h.2.2⟩
theorem fm_inv_target {σ : FMS} {i : Nat} {v : Int32} (hv : v = -1 ∨ vp_in v 48) (h : fm_Inv σ) : fm_Inv (fm_saI σ 2 i v) := ⟨h.1, fun u hu => by
  show va_up (fm_aI σ) 2 (upd (fm_aI σ 2) i v) 2 u = -1 ∨ vp_in (va_up (fm_aI σ) 2 (upd (fm_aI σ 2) i v) 2 u) 48
  rw [va_up_self]
  unfold upd
  split
  · exact hv
  · exact h.2.1 u hu, h.2.2⟩
theorem fm_inv_age {σ : FMS} {i : Nat} {v : UInt64} (hv : FP.Core.DFin v) (h : fm_Inv σ) : fm_Inv (fm_saD σ 13 i v) := ⟨h.1, h.2.1, h.2.2.1, h.2.2.2.1, fun u hu => by
  show FP.Core.DFin (va_up (fm_aD σ) 13 (vf_upd (fm_aD σ 13) i v) 13 u)
  rw [va_up_self]
  unfold vf_upd
  split
  · exact hv
  · exact h.2.2.2.2.1 u hu, fun j hj => by
  show FP.dIsNaN (va_up (fm_aD σ) 13 (vf_upd (fm_aD σ 13) i v) 14 j) = false
  rw [va_up_ne _ _ (by decide)]
  exact h.2.2.2.2.2 j hj⟩
theorem fm_inv_end {σ : FMS} {i : Nat} {v : UInt64} (hv : FP.dIsNaN v = false) (h : fm_Inv σ) : fm_Inv (fm_saD σ 14 i v) := ⟨h.1, h.2.1, h.2.2.1, h.2.2.2.1, fun u hu => by
  show FP.Core.DFin (va_up (fm_aD σ) 14 (vf_upd (fm_aD σ 14) i v) 13 u)
  rw [va_up_ne _ _ (by decide)]
  exact h.2.2.2.2.1 u hu, fun j hj => by
  show FP.dIsNaN (va_up (fm_aD σ) 14 (vf_upd (fm_aD σ 14) i v) 14 j) = false
  rw [va_up_self]
  unfold vf_upd
  split
  · exact hv
  · exact h.2.2.2.2.2 j hj⟩
theorem fm_kin {σ : FMS} (h : fm_Inv σ) : vp_in (fm_mI σ 21) 7 := by
  obtain ⟨n, hn, e⟩ := h.2.2.1
  rw [e]
  exact vp_in_nI (by omega) (by decide)
