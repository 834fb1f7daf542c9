/-! rows for the law's loop -/
section FLQ
variable {p : Program} {l : Launch} {e : Env} {R : Room} {s : State} {H : Heap} {locs : List Loc} {D : va_G} {cR cP cO cE : ClassId} {ad : Nat → Nat} {oa ob : Nat} {ca : Nat → ClassId} {am : Nat → Nat} {σ : FDS} {x : Int64} {y : UInt64} {μ : FMS} {A : Nat → Prop} {As : List Value}
theorem fL_preV (hP : va_P D fn_cl (fL_w cR cP cO cE ad oa ob ca am σ x y μ) H) (hK : va_K D fn_cl (fL_tys cR cP cO cE ca) s) (hD : va_D A (fL_w cR cP cO cE ad oa ob ca am σ x y μ)) (hS : va_S A s.heap H locs) (hA : ∀ q : Nat, s.heap.size ≤ q → A q) (hN : fd_N s) (hX : fd_X s) (hXn : fd_Xn s) (hZ : fd_Zs A s s.heap) : PreS s H (fl_Pc D As (fd_tys cR cP) (fd_w cR cP ad σ ++ ([] : va_W)) H.size) As := by
  rw [fL_eV] at hP hD
  have hF : ∀ q, va_A (fd_w cR cP ad σ ++ ([] : va_W)) H.size q → A q := fd_free (fd_DL hD) hS hA
  exact ⟨fl_blind, fun U hU hW => ⟨rfl, by rw [hU], by rw [hU]; exact fd_PL hP, va_K.moved hW.alike (hK.sub [0, 1] rfl), (fd_DL hD).weaken (fun _ _ _ _ => trivial), fd_N_warm hW hN, fd_X_warm hW hX, fd_Xn_moved hW.alike hXn, by rw [hU]; exact vx_Zq.moved hW.alike ((hZ.1.kept hS.2.1).narrow hF), by rw [hU]; exact vx_Zq.moved hW.alike ((hZ.2.kept hS.2.1).narrow hF)⟩⟩
theorem fL_preL (hP : va_P D fn_cl (fL_w cR cP cO cE ad oa ob ca am σ x y μ) H) (hK : va_K D fn_cl (fL_tys cR cP cO cE ca) s) (hD : va_D A (fL_w cR cP cO cE ad oa ob ca am σ x y μ)) (hS : va_S A s.heap H locs) (hA : ∀ q : Nat, s.heap.size ≤ q → A q) (hN : fd_N s) (hX : fd_X s) (hXn : fd_Xn s) (hZ : fd_Zs A s s.heap) : PreS s H (fl_Pc D As (fd_tys cR cP ++ [(cO, .long)]) (fd_w cR cP ad σ ++ ([(oa, .inl (cO, 1, .inr (.inl (fun _ => x))))] : va_W)) H.size) As := by
  rw [fL_eL] at hP hD
  have hF : ∀ q, va_A (fd_w cR cP ad σ ++ ([(oa, .inl (cO, 1, .inr (.inl (fun _ => x))))] : va_W)) H.size q → A q := fd_free (fd_DL hD) hS hA
  exact ⟨fl_blind, fun U hU hW => ⟨rfl, by rw [hU], by rw [hU]; exact fd_PL hP, va_K.moved hW.alike (hK.sub [0, 1, 2] rfl), (fd_DL hD).weaken (fun _ _ _ _ => trivial), fd_N_warm hW hN, fd_X_warm hW hX, fd_Xn_moved hW.alike hXn, by rw [hU]; exact vx_Zq.moved hW.alike ((hZ.1.kept hS.2.1).narrow hF), by rw [hU]; exact vx_Zq.moved hW.alike ((hZ.2.kept hS.2.1).narrow hF)⟩⟩
theorem fL_preD (hP : va_P D fn_cl (fL_w cR cP cO cE ad oa ob ca am σ x y μ) H) (hK : va_K D fn_cl (fL_tys cR cP cO cE ca) s) (hD : va_D A (fL_w cR cP cO cE ad oa ob ca am σ x y μ)) (hS : va_S A s.heap H locs) (hA : ∀ q : Nat, s.heap.size ≤ q → A q) (hN : fd_N s) (hX : fd_X s) (hXn : fd_Xn s) (hZ : fd_Zs A s s.heap) : PreS s H (fl_Pc D As (fd_tys cR cP ++ [(cE, .double)]) (fd_w cR cP ad σ ++ ([(ob, .inl (cE, 1, .inr (.inr (.inr (.inl (fun _ => y))))))] : va_W)) H.size) As := by
  obtain ⟨hP, hD⟩ := fL_sw hP hD
  unfold fL_w2 at hP hD
  have hF : ∀ q, va_A (fd_w cR cP ad σ ++ ([(ob, .inl (cE, 1, .inr (.inr (.inr (.inl (fun _ => y))))))] : va_W)) H.size q → A q := fd_free (fd_DL hD) hS hA
  exact ⟨fl_blind, fun U hU hW => ⟨rfl, by rw [hU], by rw [hU]; exact fd_PL hP, va_K.moved hW.alike (hK.sub [0, 1, 3] rfl), (fd_DL hD).weaken (fun _ _ _ _ => trivial), fd_N_warm hW hN, fd_X_warm hW hX, fd_Xn_moved hW.alike hXn, by rw [hU]; exact vx_Zq.moved hW.alike ((hZ.1.kept hS.2.1).narrow hF), by rw [hU]; exact vx_Zq.moved hW.alike ((hZ.2.kept hS.2.1).narrow hF)⟩⟩
theorem fL_preM (hP : va_P D fn_cl (fL_w cR cP cO cE ad oa ob ca am σ x y μ) H) (hK : va_K D fn_cl (fL_tys cR cP cO cE ca) s) (hD : va_D A (fL_w cR cP cO cE ad oa ob ca am σ x y μ)) (hN : fd_N s) : PreV s H fn_R_Md (am 0) (fm_Pc D ca am (.ref (am 0) :: As) μ H.size) As := by
  have hK1 : va_K D fn_cl (fm_tys ca) s := hK.sub [4, 5, 6, 7, 8, 9, 10, 11, 12, 13, 14, 15, 16, 17, 18, 19, 20, 21, 22, 23] rfl
  exact fm_preV (fd_PR hP) hK1 (fd_DR hD) hN (va_recv hK1 (fd_PR hP) (ci := 5) (q0 := 0) rfl rfl)
theorem fL_dm (v : Int32) : vf_n64 (FP.dmul (FP.i2d v) 4593671619917905920) := fd_n64 (FP.Core.dmul_out (FP.Core.i2d_fin _) ((FP.Core.fin_bits _).mpr (by decide)))
theorem fL_lc {v : Int64} : lg_cmp v v = 0 := by
  unfold lg_cmp
  simp
theorem fL_dc {v : UInt64} (h : FP.dIsNaN v = false) : Op.cmpValue (FP.dcmp v v) .l = 0 := by
  have hn : FP.Core.val64 v ≠ .nan := fun q => by
    have h1 : FP.Core.dIsNaN v = false := h
    rw [(FP.Core.dIsNaN_iff v).mpr q] at h1
    cases h1
  rw [show FP.dcmp v v = some .eq from FP.Core.dcmp_self hn]
  rfl
theorem fL_at59 : (fL_w cR cP cO cE ad oa ob ca am σ x y μ)[59]? = some (oa, .inl (cO, 1, .inr (.inl (fun _ => x)))) := by
  rw [fL_eL, List.append_assoc]
  exact fl_at59
theorem fL_at60 : (fL_w cR cP cO cE ad oa ob ca am σ x y μ)[60]? = some (ob, .inl (cE, 1, .inr (.inr (.inr (.inl (fun _ => y)))))) := by
  unfold fL_w
  rw [List.append_assoc, List.getElem?_append_right (by simp [fd_w_len])]
  simp [fd_w_len]
end FLQ
