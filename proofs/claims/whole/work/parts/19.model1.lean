/-! the model: small methods -/
def fv_Md_thrown (σ : FMS) : Int32 := fm_mI σ 27
set_option maxHeartbeats 4000000 in
set_option maxRecDepth 100000 in
theorem fc_Md_thrown (l : Launch) (D : va_G) (ca : Nat → ClassId) (am : Nat → Nat) (sz : Nat) (σ : FMS)  (hI : fm_Inv σ)  : Met l fy_Md_thrown (fw_Md_thrown :: fb_tbl) ({ frames := 0, cells := 0, slots := 0, locals := 0 } : Room) (fm_Pc D ca am [.ref (am 0)] σ sz) ((fun A => va_Qi (fun (r : Int32) (u : FMS) => fv_Md_thrown σ = r ∧ u = σ) (fm_B D ca am A) A) (va_A (fm_w ca am σ) sz)) 0 0 (va_A (fm_w ca am σ) sz) := by
  refine fm_ofW (cc := fb_Md_thrown) (maxL := 1) (ret := (some .int)) (Qf := fun A => va_Qi (fun (r : Int32) (u : FMS) => fv_Md_thrown σ = r ∧ u = σ) (fm_B D ca am A) A) (by decide) (Nat.le_of_ble_eq_true rfl) ?_
  intro p e s m args below meth c A Q hQ hx hb hr hts hown hlocks hml hP hK hD hS hA hN ls hl
  have hown : s.vm.findClass fn_R_Md = some m.cls := hown
  have hl : lv_has ls 1 [(0, .ref (am 0))] := hl
  suffices hgo : ∀ (H : Heap) (locs : List Loc), va_P D fn_cl (fm_w ca am σ) H → va_D A (fm_w ca am σ) → va_S A s.heap H locs → W p l e ({ frames := 0, cells := 0, slots := 0, locals := 0 } : Room) s m args below meth c H locs 0 0 Q (F0 m 0 ls []) from hgo _ _ hP hD hS
  clear hP hD hS
  intro H locs hP hD hS
  refine lv_aload_n hx hb fx_Md_thrown_0 rfl (lv_at hl 0 rfl) ?_
  refine va_get (D := D) (ci := 5) (v := .int (fm_mI σ 27)) (C := fn_R_Md) (T := fn_T_Md) (N := 33) hx hb hts fn_j_Md hown hK hP 0 rfl rfl 27 (by decide) (hts _ (List.mem_cons_of_mem _ fq_554)) (fun _ h9 => h9) rfl fx_Md_thrown_1 ?_
  exact fm_iret (r := fm_mI σ 27) (u := σ) hQ hx hb hr ⟨by rw [fv_Md_thrown], rfl⟩ hP hD hS fx_Md_thrown_4 hlocks
def fv_Md_in_j1 (σ : FMS) (p0 : Int32) (p1 : Int32) (p2 : Int32) (v1 : Bool) : Bool := v1
def fv_Md_in (σ : FMS) (p0 : Int32) (p1 : Int32) (p2 : Int32) : Bool := fv_Md_in_j1 σ p0 p1 p2 (if p0 < p1 then false else if p2 < p0 then false else true)
set_option maxHeartbeats 4000000 in
set_option maxRecDepth 100000 in
theorem fc_Md_in (l : Launch) (D : va_G) (ca : Nat → ClassId) (am : Nat → Nat) (sz : Nat) (σ : FMS) (p0 : Int32) (p1 : Int32) (p2 : Int32) (hI : fm_Inv σ)  : Met l fy_Md_in (fw_Md_in :: fb_tbl) ({ frames := 0, cells := 0, slots := 0, locals := 0 } : Room) (fm_Pc D ca am [.int p0, .int p1, .int p2] σ sz) ((fun A => va_Qi (fun (r : Int32) (u : FMS) => fd_bi (fv_Md_in σ p0 p1 p2) = r ∧ u = σ) (fm_B D ca am A) A) (va_A (fm_w ca am σ) sz)) 0 0 (va_A (fm_w ca am σ) sz) := by
  refine fm_ofW (cc := fb_Md_in) (maxL := 3) (ret := (some .boolean)) (Qf := fun A => va_Qi (fun (r : Int32) (u : FMS) => fd_bi (fv_Md_in σ p0 p1 p2) = r ∧ u = σ) (fm_B D ca am A) A) (by decide) (Nat.le_of_ble_eq_true rfl) ?_
  intro p e s m args below meth c A Q hQ hx hb hr hts hown hlocks hml hP hK hD hS hA hN ls hl
  have hown : s.vm.findClass fn_R_Md = some m.cls := hown
  have hl : lv_has ls 3 [(0, .int p0), (1, .int p1), (2, .int p2)] := hl
  suffices hgo : ∀ (H : Heap) (locs : List Loc), va_P D fn_cl (fm_w ca am σ) H → va_D A (fm_w ca am σ) → va_S A s.heap H locs → W p l e ({ frames := 0, cells := 0, slots := 0, locals := 0 } : Room) s m args below meth c H locs 0 0 Q (F0 m 0 ls []) from hgo _ _ hP hD hS
  clear hP hD hS
  intro H locs hP hD hS
  refine lv_iload_n hx hb fx_Md_in_0 rfl (lv_at hl 0 rfl) ?_
  refine lv_iload_n hx hb fx_Md_in_1 rfl (lv_at hl 1 rfl) ?_
  have hJ1 : ∀ (H : Heap) (locs : List Loc), va_P D fn_cl (fm_w ca am σ) H → va_D A (fm_w ca am σ) → va_S A s.heap H locs → ∀ (v1 : Bool), v1 = (if p0 < p1 then false else if p2 < p0 then false else true) → W p l e ({ frames := 0, cells := 0, slots := 0, locals := 0 } : Room) s m args below meth c H locs 0 0 Q (F0 m 15 ls [.int (fd_bi v1)]) := by
    intro H locs hP hD hS v1 hv1
    exact fm_zret (r := v1) (u := σ) hQ hx hb hr ⟨by rw [fv_Md_in, ← hv1, fv_Md_in_j1], rfl⟩ hP hD hS fx_Md_in_15 hlocks
  refine lv_icmp_lt (tgt := 14) hx hb fx_Md_in_2 (by decide) (fun c2 => ?_) (fun c2 => ?_)
  · refine lv_iconst (v := 0) hx hb fx_Md_in_14 (by decide) ?_
    exact hJ1 H locs hP hD hS false (by rw [if_pos c2])
  · refine lv_iload_n hx hb fx_Md_in_5 rfl (lv_at hl 0 rfl) ?_
    refine lv_iload_n hx hb fx_Md_in_6 rfl (lv_at hl 2 rfl) ?_
    refine lv_icmp_gt (tgt := 14) hx hb fx_Md_in_7 (by decide) (fun c3 => ?_) (fun c3 => ?_)
    · refine lv_iconst (v := 0) hx hb fx_Md_in_14 (by decide) ?_
      exact hJ1 H locs hP hD hS false (by rw [if_neg c2, if_pos c3])
    · refine lv_iconst (v := 1) hx hb fx_Md_in_10 (by decide) ?_
      refine lv_goto (tgt := 15) hx hb fx_Md_in_11 (by decide) ?_
      exact hJ1 H locs hP hD hS true (by rw [if_neg c2, if_neg c3])
def fv_Md_fail (σ : FMS) (p1 : Int32) : Int32 × FMS := (0, fm_smI σ 27 p1)
set_option maxHeartbeats 4000000 in
set_option maxRecDepth 100000 in
theorem fc_Md_fail (l : Launch) (D : va_G) (ca : Nat → ClassId) (am : Nat → Nat) (sz : Nat) (σ : FMS) (p1 : Int32) (hI : fm_Inv σ)  : Met l fy_Md_fail (fw_Md_fail :: fb_tbl) ({ frames := 0, cells := 0, slots := 0, locals := 0 } : Room) (fm_Pc D ca am [.ref (am 0), .int p1] σ sz) ((fun A => va_Qi (fun (r : Int32) (u : FMS) => fv_Md_fail σ p1 = (r, u) ∧ fm_Inv u) (fm_B D ca am A) A) (va_A (fm_w ca am σ) sz)) 0 0 (va_A (fm_w ca am σ) sz) := by
  refine fm_ofW (cc := fb_Md_fail) (maxL := 2) (ret := (some .int)) (Qf := fun A => va_Qi (fun (r : Int32) (u : FMS) => fv_Md_fail σ p1 = (r, u) ∧ fm_Inv u) (fm_B D ca am A) A) (by decide) (Nat.le_of_ble_eq_true rfl) ?_
  intro p e s m args below meth c A Q hQ hx hb hr hts hown hlocks hml hP hK hD hS hA hN ls hl
  have hown : s.vm.findClass fn_R_Md = some m.cls := hown
  have hl : lv_has ls 2 [(0, .ref (am 0)), (1, .int p1)] := hl
  suffices hgo : ∀ (H : Heap) (locs : List Loc), va_P D fn_cl (fm_w ca am σ) H → va_D A (fm_w ca am σ) → va_S A s.heap H locs → W p l e ({ frames := 0, cells := 0, slots := 0, locals := 0 } : Room) s m args below meth c H locs 0 0 Q (F0 m 0 ls []) from hgo _ _ hP hD hS
  clear hP hD hS
  intro H locs hP hD hS
  refine lv_aload_n hx hb fx_Md_fail_0 rfl (lv_at hl 0 rfl) ?_
  refine lv_iload_n hx hb fx_Md_fail_1 rfl (lv_at hl 1 rfl) ?_
  refine va_put (D := D) (ci := 5) (v := .int p1) (ty := .int) (C := fn_R_Md) (T := fn_T_Md) (N := 33) hx hb hts fn_j_Md fn_t_Md fn_k_Md fn_n_Md hown hK hP hD hS 0 rfl rfl 27 (by decide) (hts _ (List.mem_cons_of_mem _ fq_554)) (fun _ h9 => h9) rfl (by decide +kernel) rfl rfl (Nat.le_of_ble_eq_true rfl) fx_Md_fail_2 (fun H locs hP hD hS => ?_)
  rw [fm_set_mI_27] at hP hD
  have hI1 : fm_Inv (fm_smI σ 27 p1) := fm_inv_smI (by decide) (by decide) hI
  refine lv_iconst (v := 0) hx hb fx_Md_fail_5 (by decide) ?_
  exact fm_iret (r := 0) (u := fm_smI σ 27 p1) hQ hx hb hr ⟨by rw [fv_Md_fail], hI1⟩ hP hD hS fx_Md_fail_6 hlocks
def fv_Md_isUrl (σ : FMS) (p0 : Int32) : Bool := (fv_Md_in σ p0 0 47)
set_option maxHeartbeats 4000000 in
set_option maxRecDepth 100000 in
theorem fc_Md_isUrl (l : Launch) (D : va_G) (ca : Nat → ClassId) (am : Nat → Nat) (sz : Nat) (σ : FMS) (p0 : Int32) (hI : fm_Inv σ)  : Met l fy_Md_isUrl (fw_Md_isUrl :: fb_tbl) ({ frames := 1, cells := 0, slots := 0, locals := 22 } : Room) (fm_Pc D ca am [.int p0] σ sz) ((fun A => va_Qi (fun (r : Int32) (u : FMS) => fd_bi (fv_Md_isUrl σ p0) = r ∧ u = σ) (fm_B D ca am A) A) (va_A (fm_w ca am σ) sz)) 0 0 (va_A (fm_w ca am σ) sz) := by
  refine fm_ofW (cc := fb_Md_isUrl) (maxL := 1) (ret := (some .boolean)) (Qf := fun A => va_Qi (fun (r : Int32) (u : FMS) => fd_bi (fv_Md_isUrl σ p0) = r ∧ u = σ) (fm_B D ca am A) A) (by decide) (Nat.le_of_ble_eq_true rfl) ?_
  intro p e s m args below meth c A Q hQ hx hb hr hts hown hlocks hml hP hK hD hS hA hN ls hl
  have hown : s.vm.findClass fn_R_Md = some m.cls := hown
  have hl : lv_has ls 1 [(0, .int p0)] := hl
  suffices hgo : ∀ (H : Heap) (locs : List Loc), va_P D fn_cl (fm_w ca am σ) H → va_D A (fm_w ca am σ) → va_S A s.heap H locs → W p l e ({ frames := 1, cells := 0, slots := 0, locals := 22 } : Room) s m args below meth c H locs 0 0 Q (F0 m 0 ls []) from hgo _ _ hP hD hS
  clear hP hD hS
  intro H locs hP hD hS
  refine lv_iload_n hx hb fx_Md_isUrl_0 rfl (lv_at hl 0 rfl) ?_
  refine lv_iconst (v := 0) hx hb fx_Md_isUrl_1 (by decide) ?_
  refine lv_bipush (v := 47) hx hb fx_Md_isUrl_2 (by decide) ?_
  refine fm_callz (va_runS (As := [.int p0, .int 0, .int 47]) (rest := []) ⟨hx, hb, hml, hown, hts⟩ (fc_Md_in l D ca am H.size σ p0 0 47 hI ) ⟨callB_of 3 hts (fb_good fm_Md_in) rfl rfl rfl (hts _ (List.mem_cons_of_mem _ fq_6)) (hts _ (List.mem_cons_of_mem _ fq_641)) (by decide +kernel) ⟨Nat.le_of_ble_eq_true rfl, Nat.le_of_ble_eq_true rfl⟩, (hts _ (List.mem_cons_of_mem _ fq_642))⟩ (fm_preS hP hK hD hN) rfl rfl hl.1 rfl (lv_room (Nat.le_of_ble_eq_true rfl)) fx_Md_isUrl_4 ⟨Nat.le_of_ble_eq_true rfl, Nat.le_of_ble_eq_true rfl⟩) hD hS hA (fun H locs hP hD hS => ?_)
  exact fm_zret (r := (fv_Md_in σ p0 0 47)) (u := σ) hQ hx hb hr ⟨by rw [fv_Md_isUrl], rfl⟩ hP hD hS fx_Md_isUrl_7 hlocks
def fv_Md_isSimple_j1 (σ : FMS) (p0 : Int32) (v1 : Bool) : Bool := v1
def fv_Md_isSimple (σ : FMS) (p0 : Int32) : Bool := fv_Md_isSimple_j1 σ p0 (if 2 ≤ p0 then false else true)
set_option maxHeartbeats 4000000 in
set_option maxRecDepth 100000 in
theorem fc_Md_isSimple (l : Launch) (D : va_G) (ca : Nat → ClassId) (am : Nat → Nat) (sz : Nat) (σ : FMS) (p0 : Int32) (hI : fm_Inv σ)  : Met l fy_Md_isSimple (fw_Md_isSimple :: fb_tbl) ({ frames := 0, cells := 0, slots := 0, locals := 0 } : Room) (fm_Pc D ca am [.int p0] σ sz) ((fun A => va_Qi (fun (r : Int32) (u : FMS) => fd_bi (fv_Md_isSimple σ p0) = r ∧ u = σ) (fm_B D ca am A) A) (va_A (fm_w ca am σ) sz)) 0 0 (va_A (fm_w ca am σ) sz) := by
  refine fm_ofW (cc := fb_Md_isSimple) (maxL := 1) (ret := (some .boolean)) (Qf := fun A => va_Qi (fun (r : Int32) (u : FMS) => fd_bi (fv_Md_isSimple σ p0) = r ∧ u = σ) (fm_B D ca am A) A) (by decide) (Nat.le_of_ble_eq_true rfl) ?_
  intro p e s m args below meth c A Q hQ hx hb hr hts hown hlocks hml hP hK hD hS hA hN ls hl
  have hown : s.vm.findClass fn_R_Md = some m.cls := hown
  have hl : lv_has ls 1 [(0, .int p0)] := hl
  suffices hgo : ∀ (H : Heap) (locs : List Loc), va_P D fn_cl (fm_w ca am σ) H → va_D A (fm_w ca am σ) → va_S A s.heap H locs → W p l e ({ frames := 0, cells := 0, slots := 0, locals := 0 } : Room) s m args below meth c H locs 0 0 Q (F0 m 0 ls []) from hgo _ _ hP hD hS
  clear hP hD hS
  intro H locs hP hD hS
  refine lv_iload_n hx hb fx_Md_isSimple_0 rfl (lv_at hl 0 rfl) ?_
  refine lv_iconst (v := 2) hx hb fx_Md_isSimple_1 (by decide) ?_
  have hJ1 : ∀ (H : Heap) (locs : List Loc), va_P D fn_cl (fm_w ca am σ) H → va_D A (fm_w ca am σ) → va_S A s.heap H locs → ∀ (v1 : Bool), v1 = (if 2 ≤ p0 then false else true) → W p l e ({ frames := 0, cells := 0, slots := 0, locals := 0 } : Room) s m args below meth c H locs 0 0 Q (F0 m 10 ls [.int (fd_bi v1)]) := by
    intro H locs hP hD hS v1 hv1
    exact fm_zret (r := v1) (u := σ) hQ hx hb hr ⟨by rw [fv_Md_isSimple, ← hv1, fv_Md_isSimple_j1], rfl⟩ hP hD hS fx_Md_isSimple_10 hlocks
  refine lv_icmp_ge (tgt := 9) hx hb fx_Md_isSimple_2 (by decide) (fun c2 => ?_) (fun c2 => ?_)
  · refine lv_iconst (v := 0) hx hb fx_Md_isSimple_9 (by decide) ?_
    exact hJ1 H locs hP hD hS false (by rw [if_pos c2])
  · refine lv_iconst (v := 1) hx hb fx_Md_isSimple_5 (by decide) ?_
    refine lv_goto (tgt := 10) hx hb fx_Md_isSimple_6 (by decide) ?_
    exact hJ1 H locs hP hD hS true (by rw [if_neg c2])
def fv_Md_isMoved_j2 (σ : FMS) (p0 : Int32) (v2 : Bool) : Bool := v2
def fv_Md_isMoved (σ : FMS) (p0 : Int32) : Bool := fv_Md_isMoved_j2 σ p0 (if (fv_Md_in σ p0 301 303) = true then true else if p0 = 307 then true else if p0 = 308 then true else false)
set_option maxHeartbeats 4000000 in
set_option maxRecDepth 100000 in
theorem fc_Md_isMoved (l : Launch) (D : va_G) (ca : Nat → ClassId) (am : Nat → Nat) (sz : Nat) (σ : FMS) (p0 : Int32) (hI : fm_Inv σ)  : Met l fy_Md_isMoved (fw_Md_isMoved :: fb_tbl) ({ frames := 1, cells := 0, slots := 0, locals := 22 } : Room) (fm_Pc D ca am [.int p0] σ sz) ((fun A => va_Qi (fun (r : Int32) (u : FMS) => fd_bi (fv_Md_isMoved σ p0) = r ∧ u = σ) (fm_B D ca am A) A) (va_A (fm_w ca am σ) sz)) 0 0 (va_A (fm_w ca am σ) sz) := by
  refine fm_ofW (cc := fb_Md_isMoved) (maxL := 1) (ret := (some .boolean)) (Qf := fun A => va_Qi (fun (r : Int32) (u : FMS) => fd_bi (fv_Md_isMoved σ p0) = r ∧ u = σ) (fm_B D ca am A) A) (by decide) (Nat.le_of_ble_eq_true rfl) ?_
  intro p e s m args below meth c A Q hQ hx hb hr hts hown hlocks hml hP hK hD hS hA hN ls hl
  have hown : s.vm.findClass fn_R_Md = some m.cls := hown
  have hl : lv_has ls 1 [(0, .int p0)] := hl
  suffices hgo : ∀ (H : Heap) (locs : List Loc), va_P D fn_cl (fm_w ca am σ) H → va_D A (fm_w ca am σ) → va_S A s.heap H locs → W p l e ({ frames := 1, cells := 0, slots := 0, locals := 22 } : Room) s m args below meth c H locs 0 0 Q (F0 m 0 ls []) from hgo _ _ hP hD hS
  clear hP hD hS
  intro H locs hP hD hS
  refine lv_iload_n hx hb fx_Md_isMoved_0 rfl (lv_at hl 0 rfl) ?_
  refine lv_sipush (v := 301) hx hb fx_Md_isMoved_1 (by decide) ?_
  refine lv_sipush (v := 303) hx hb fx_Md_isMoved_4 (by decide) ?_
  refine fm_callz (va_runS (As := [.int p0, .int 301, .int 303]) (rest := []) ⟨hx, hb, hml, hown, hts⟩ (fc_Md_in l D ca am H.size σ p0 301 303 hI ) ⟨callB_of 3 hts (fb_good fm_Md_in) rfl rfl rfl (hts _ (List.mem_cons_of_mem _ fq_6)) (hts _ (List.mem_cons_of_mem _ fq_641)) (by decide +kernel) ⟨Nat.le_of_ble_eq_true rfl, Nat.le_of_ble_eq_true rfl⟩, (hts _ (List.mem_cons_of_mem _ fq_642))⟩ (fm_preS hP hK hD hN) rfl rfl hl.1 rfl (lv_room (Nat.le_of_ble_eq_true rfl)) fx_Md_isMoved_7 ⟨Nat.le_of_ble_eq_true rfl, Nat.le_of_ble_eq_true rfl⟩) hD hS hA (fun H locs hP hD hS => ?_)
  have hJ2 : ∀ (H : Heap) (locs : List Loc), va_P D fn_cl (fm_w ca am σ) H → va_D A (fm_w ca am σ) → va_S A s.heap H locs → ∀ (v2 : Bool), v2 = (if (fv_Md_in σ p0 301 303) = true then true else if p0 = 307 then true else if p0 = 308 then true else false) → W p l e ({ frames := 1, cells := 0, slots := 0, locals := 22 } : Room) s m args below meth c H locs 0 0 Q (F0 m 32 ls [.int (fd_bi v2)]) := by
    intro H locs hP hD hS v2 hv2
    exact fm_zret (r := v2) (u := σ) hQ hx hb hr ⟨by rw [fv_Md_isMoved, ← hv2, fv_Md_isMoved_j2], rfl⟩ hP hD hS fx_Md_isMoved_32 hlocks
  refine fd_ifne (tgt := 27) hx hb fx_Md_isMoved_10 (by decide) (fun c3 => ?_) (fun c3 => ?_)
  · refine lv_iconst (v := 1) hx hb fx_Md_isMoved_27 (by decide) ?_
    refine lv_goto (tgt := 32) hx hb fx_Md_isMoved_28 (by decide) ?_
    exact hJ2 H locs hP hD hS true (by rw [if_pos c3])
  · refine lv_iload_n hx hb fx_Md_isMoved_13 rfl (lv_at hl 0 rfl) ?_
    refine lv_sipush (v := 307) hx hb fx_Md_isMoved_14 (by decide) ?_
    refine lv_icmp_eq (tgt := 27) hx hb fx_Md_isMoved_17 (by decide) (fun c4 => ?_) (fun c4 => ?_)
    · refine lv_iconst (v := 1) hx hb fx_Md_isMoved_27 (by decide) ?_
      refine lv_goto (tgt := 32) hx hb fx_Md_isMoved_28 (by decide) ?_
      exact hJ2 H locs hP hD hS true (by rw [if_neg c3, if_pos c4])
    · refine lv_iload_n hx hb fx_Md_isMoved_20 rfl (lv_at hl 0 rfl) ?_
      refine lv_sipush (v := 308) hx hb fx_Md_isMoved_21 (by decide) ?_
      refine lv_icmp_ne (tgt := 31) hx hb fx_Md_isMoved_24 (by decide) (fun c5 => ?_) (fun c5 => ?_)
      · refine lv_iconst (v := 0) hx hb fx_Md_isMoved_31 (by decide) ?_
        exact hJ2 H locs hP hD hS false (by rw [if_neg c3, if_neg c4, if_neg c5])
      · refine lv_iconst (v := 1) hx hb fx_Md_isMoved_27 (by decide) ?_
        refine lv_goto (tgt := 32) hx hb fx_Md_isMoved_28 (by decide) ?_
        exact hJ2 H locs hP hD hS true (by rw [if_neg c3, if_neg c4, if_pos c5])
