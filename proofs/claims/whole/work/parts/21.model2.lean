/-! the model: its face but fetch -/
def fv_Md_isSame_j2 (σ : FMS) (p1 : Int32) (v2 : Bool) : Bool := v2
def fv_Md_isSame (σ : FMS) (p1 : Int32) : Bool := fv_Md_isSame_j2 σ p1 (if (fm_aI σ 15 p1.toNatClampNeg) = (fm_mI σ 28) then if (fm_aI σ 16 p1.toNatClampNeg) = (fm_mI σ 29) then if (fd_bi (fm_aZ σ 12 p1.toNatClampNeg)) = (fd_bi (fm_mZ σ)) then true else false else false else false)
set_option maxHeartbeats 4000000 in
set_option maxRecDepth 100000 in
theorem fc_Md_isSame (l : Launch) (D : va_G) (ca : Nat → ClassId) (am : Nat → Nat) (sz : Nat) (σ : FMS) (p1 : Int32) (hI : fm_Inv σ) (hk : vp_in p1 7) : Met l fy_Md_isSame (fw_Md_isSame :: fb_tbl) ({ frames := 0, cells := 0, slots := 0, locals := 0 } : Room) (fm_Pc D ca am [.ref (am 0), .int p1] σ sz) ((fun A => va_Qi (fun (r : Int32) (u : FMS) => fd_bi (fv_Md_isSame σ p1) = r ∧ u = σ) (fm_B D ca am A) A) (va_A (fm_w ca am σ) sz)) 0 0 (va_A (fm_w ca am σ) sz) := by
  refine fm_ofW (cc := fb_Md_isSame) (maxL := 2) (ret := (some .boolean)) (Qf := fun A => va_Qi (fun (r : Int32) (u : FMS) => fd_bi (fv_Md_isSame σ p1) = r ∧ u = σ) (fm_B D ca am A) A) (by decide) (Nat.le_of_ble_eq_true rfl) ?_
  intro p e s m args below meth c A Q hQ hx hb hr hts hown hlocks hml hP hK hD hS hA hN ls hl
  have hown : s.vm.findClass fn_R_Md = some m.cls := hown
  have hl : lv_has ls 2 [(0, .ref (am 0)), (1, .int p1)] := hl
  suffices hgo : ∀ (H : Heap) (locs : List Loc), va_P D fn_cl (fm_w ca am σ) H → va_D A (fm_w ca am σ) → va_S A s.heap H locs → W p l e ({ frames := 0, cells := 0, slots := 0, locals := 0 } : Room) s m args below meth c H locs 0 0 Q (F0 m 0 ls []) from hgo _ _ hP hD hS
  clear hP hD hS
  intro H locs hP hD hS
  refine lv_aload_n hx hb fx_Md_isSame_0 rfl (lv_at hl 0 rfl) ?_
  refine va_get (D := D) (ci := 5) (v := .ref (am 16)) (C := fn_R_Md) (T := fn_T_Md) (N := 33) hx hb hts fn_j_Md hown hK hP 0 rfl rfl 15 (by decide) (hts _ (List.mem_cons_of_mem _ fq_542)) (fun _ h9 => h9) rfl fx_Md_isSame_1 ?_
  refine lv_iload_n hx hb fx_Md_isSame_4 rfl (lv_at hl 1 rfl) ?_
  have hb1 : vp_in p1 7 := hk
  refine va_iald (D := D) hx hb hK hP 16 15 rfl rfl hb1 fx_Md_isSame_5 ?_
  refine W.eq (g2 := F0 m 6 ls (.int (fm_aI σ 15 p1.toNatClampNeg) :: [])) rfl ?_
  refine lv_aload_n hx hb fx_Md_isSame_6 rfl (lv_at hl 0 rfl) ?_
  refine va_get (D := D) (ci := 5) (v := .int (fm_mI σ 28)) (C := fn_R_Md) (T := fn_T_Md) (N := 33) hx hb hts fn_j_Md hown hK hP 0 rfl rfl 28 (by decide) (hts _ (List.mem_cons_of_mem _ fq_555)) (fun _ h9 => h9) rfl fx_Md_isSame_7 ?_
  have hJ2 : ∀ (H : Heap) (locs : List Loc), va_P D fn_cl (fm_w ca am σ) H → va_D A (fm_w ca am σ) → va_S A s.heap H locs → ∀ (v2 : Bool), v2 = (if (fm_aI σ 15 p1.toNatClampNeg) = (fm_mI σ 28) then if (fm_aI σ 16 p1.toNatClampNeg) = (fm_mI σ 29) then if (fd_bi (fm_aZ σ 12 p1.toNatClampNeg)) = (fd_bi (fm_mZ σ)) then true else false else false else false) → W p l e ({ frames := 0, cells := 0, slots := 0, locals := 0 } : Room) s m args below meth c H locs 0 0 Q (F0 m 44 ls [.int (fd_bi v2)]) := by
    intro H locs hP hD hS v2 hv2
    exact fm_zret (r := v2) (u := σ) hQ hx hb hr ⟨by rw [fv_Md_isSame, ← hv2, fv_Md_isSame_j2], rfl⟩ hP hD hS fx_Md_isSame_44 hlocks
  refine lv_icmp_ne (tgt := 43) hx hb fx_Md_isSame_10 (by decide) (fun c3 => ?_) (fun c3 => ?_)
  · refine lv_iconst (v := 0) hx hb fx_Md_isSame_43 (by decide) ?_
    exact hJ2 H locs hP hD hS false (by rw [if_neg c3])
  · refine lv_aload_n hx hb fx_Md_isSame_13 rfl (lv_at hl 0 rfl) ?_
    refine va_get (D := D) (ci := 5) (v := .ref (am 17)) (C := fn_R_Md) (T := fn_T_Md) (N := 33) hx hb hts fn_j_Md hown hK hP 0 rfl rfl 16 (by decide) (hts _ (List.mem_cons_of_mem _ fq_543)) (fun _ h9 => h9) rfl fx_Md_isSame_14 ?_
    refine lv_iload_n hx hb fx_Md_isSame_17 rfl (lv_at hl 1 rfl) ?_
    have hb4 : vp_in p1 7 := hk
    refine va_iald (D := D) hx hb hK hP 17 16 rfl rfl hb4 fx_Md_isSame_18 ?_
    refine W.eq (g2 := F0 m 19 ls (.int (fm_aI σ 16 p1.toNatClampNeg) :: [])) rfl ?_
    refine lv_aload_n hx hb fx_Md_isSame_19 rfl (lv_at hl 0 rfl) ?_
    refine va_get (D := D) (ci := 5) (v := .int (fm_mI σ 29)) (C := fn_R_Md) (T := fn_T_Md) (N := 33) hx hb hts fn_j_Md hown hK hP 0 rfl rfl 29 (by decide) (hts _ (List.mem_cons_of_mem _ fq_556)) (fun _ h9 => h9) rfl fx_Md_isSame_20 ?_
    refine lv_icmp_ne (tgt := 43) hx hb fx_Md_isSame_23 (by decide) (fun c5 => ?_) (fun c5 => ?_)
    · refine lv_iconst (v := 0) hx hb fx_Md_isSame_43 (by decide) ?_
      exact hJ2 H locs hP hD hS false (by rw [if_pos c3, if_neg c5])
    · refine lv_aload_n hx hb fx_Md_isSame_26 rfl (lv_at hl 0 rfl) ?_
      refine va_get (D := D) (ci := 5) (v := .ref (am 13)) (C := fn_R_Md) (T := fn_T_Md) (N := 33) hx hb hts fn_j_Md hown hK hP 0 rfl rfl 12 (by decide) (hts _ (List.mem_cons_of_mem _ fq_539)) (fun _ h9 => h9) rfl fx_Md_isSame_27 ?_
      refine lv_iload_n hx hb fx_Md_isSame_30 rfl (lv_at hl 1 rfl) ?_
      have hb6 : vp_in p1 7 := hk
      refine va_zald (D := D) hx hb hK hP 13 12 rfl rfl hb6 fx_Md_isSame_31 ?_
      refine W.eq (g2 := F0 m 32 ls (.int (fd_bi (fm_aZ σ 12 p1.toNatClampNeg)) :: [])) rfl ?_
      refine lv_aload_n hx hb fx_Md_isSame_32 rfl (lv_at hl 0 rfl) ?_
      refine va_get (D := D) (ci := 5) (v := .int (fd_bi (fm_mZ σ))) (C := fn_R_Md) (T := fn_T_Md) (N := 33) hx hb hts fn_j_Md hown hK hP 0 rfl rfl 32 (by decide) (hts _ (List.mem_cons_of_mem _ fq_559)) (fun _ h9 => h9) rfl fx_Md_isSame_33 ?_
      refine lv_icmp_ne (tgt := 43) hx hb fx_Md_isSame_36 (by decide) (fun c7 => ?_) (fun c7 => ?_)
      · refine lv_iconst (v := 0) hx hb fx_Md_isSame_43 (by decide) ?_
        exact hJ2 H locs hP hD hS false (by rw [if_pos c3, if_pos c5, if_neg c7])
      · refine lv_iconst (v := 1) hx hb fx_Md_isSame_39 (by decide) ?_
        refine lv_goto (tgt := 44) hx hb fx_Md_isSame_40 (by decide) ?_
        exact hJ2 H locs hP hD hS true (by rw [if_pos c3, if_pos c5, if_pos c7])
def fv_Md_passes_j5 (σ : FMS) (v2 : Bool) (v4 : Bool) (v5 : Bool) : Bool := v5
def fv_Md_passes_j4 (σ : FMS) (v2 : Bool) (v4 : Bool) : Bool := fv_Md_passes_j5 σ v2 v4 (if (fm_mZ σ) = true then if v2 = true then if (fm_aZ σ 10 (fm_mI σ 29).toNatClampNeg) = true then true else false else false else if v2 = true then true else if v4 = true then true else false)
def fv_Md_passes_j2 (σ : FMS) (v2 : Bool) : Bool := fv_Md_passes_j4 σ v2 (if (((fm_aI σ 5 (fm_mI σ 29).toNatClampNeg) >>> (7 &&& 31)) &&& 1) = 1 then true else false)
def fv_Md_passes (σ : FMS) : Bool := fv_Md_passes_j2 σ (if (((fm_aI σ 5 (fm_mI σ 29).toNatClampNeg) >>> ((fm_mI σ 28) &&& 31)) &&& 1) = 1 then true else false)
set_option maxHeartbeats 4000000 in
set_option maxRecDepth 100000 in
theorem fc_Md_passes (l : Launch) (D : va_G) (ca : Nat → ClassId) (am : Nat → Nat) (sz : Nat) (σ : FMS)  (hI : fm_Inv σ)  : Met l fy_Md_passes (fw_Md_passes :: fb_tbl) ({ frames := 0, cells := 0, slots := 0, locals := 0 } : Room) (fm_Pc D ca am [.ref (am 0)] σ sz) ((fun A => va_Qi (fun (r : Int32) (u : FMS) => fd_bi (fv_Md_passes σ) = r ∧ u = σ) (fm_B D ca am A) A) (va_A (fm_w ca am σ) sz)) 0 0 (va_A (fm_w ca am σ) sz) := by
  refine fm_ofW (cc := fb_Md_passes) (maxL := 3) (ret := (some .boolean)) (Qf := fun A => va_Qi (fun (r : Int32) (u : FMS) => fd_bi (fv_Md_passes σ) = r ∧ u = σ) (fm_B D ca am A) A) (by decide) (Nat.le_of_ble_eq_true rfl) ?_
  intro p e s m args below meth c A Q hQ hx hb hr hts hown hlocks hml hP hK hD hS hA hN ls hl
  have hown : s.vm.findClass fn_R_Md = some m.cls := hown
  have hl : lv_has ls 3 [(0, .ref (am 0))] := hl
  suffices hgo : ∀ (H : Heap) (locs : List Loc), va_P D fn_cl (fm_w ca am σ) H → va_D A (fm_w ca am σ) → va_S A s.heap H locs → W p l e ({ frames := 0, cells := 0, slots := 0, locals := 0 } : Room) s m args below meth c H locs 0 0 Q (F0 m 0 ls []) from hgo _ _ hP hD hS
  clear hP hD hS
  intro H locs hP hD hS
  refine lv_aload_n hx hb fx_Md_passes_0 rfl (lv_at hl 0 rfl) ?_
  refine va_get (D := D) (ci := 5) (v := .ref (am 6)) (C := fn_R_Md) (T := fn_T_Md) (N := 33) hx hb hts fn_j_Md hown hK hP 0 rfl rfl 5 (by decide) (hts _ (List.mem_cons_of_mem _ fq_532)) (fun _ h9 => h9) rfl fx_Md_passes_1 ?_
  refine lv_aload_n hx hb fx_Md_passes_4 rfl (lv_at hl 0 rfl) ?_
  refine va_get (D := D) (ci := 5) (v := .int (fm_mI σ 29)) (C := fn_R_Md) (T := fn_T_Md) (N := 33) hx hb hts fn_j_Md hown hK hP 0 rfl rfl 29 (by decide) (hts _ (List.mem_cons_of_mem _ fq_556)) (fun _ h9 => h9) rfl fx_Md_passes_5 ?_
  have hb1 : vp_in (fm_mI σ 29) 48 := hI.1
  refine va_iald (D := D) hx hb hK hP 6 5 rfl rfl hb1 fx_Md_passes_8 ?_
  refine W.eq (g2 := F0 m 9 ls (.int (fm_aI σ 5 (fm_mI σ 29).toNatClampNeg) :: [])) rfl ?_
  refine lv_aload_n hx hb fx_Md_passes_9 rfl (lv_at hl 0 rfl) ?_
  refine va_get (D := D) (ci := 5) (v := .int (fm_mI σ 28)) (C := fn_R_Md) (T := fn_T_Md) (N := 33) hx hb hts fn_j_Md hown hK hP 0 rfl rfl 28 (by decide) (hts _ (List.mem_cons_of_mem _ fq_555)) (fun _ h9 => h9) rfl fx_Md_passes_10 ?_
  refine lv_ishr hx hb fx_Md_passes_13 ?_
  refine lv_iconst (v := 1) hx hb fx_Md_passes_14 (by decide) ?_
  refine lv_iand hx hb fx_Md_passes_15 ?_
  refine lv_iconst (v := 1) hx hb fx_Md_passes_16 (by decide) ?_
  have hJ2 : ∀ (H : Heap) (locs : List Loc), va_P D fn_cl (fm_w ca am σ) H → va_D A (fm_w ca am σ) → va_S A s.heap H locs → ∀ (v2 : Bool), v2 = (if (((fm_aI σ 5 (fm_mI σ 29).toNatClampNeg) >>> ((fm_mI σ 28) &&& 31)) &&& 1) = 1 then true else false) → W p l e ({ frames := 0, cells := 0, slots := 0, locals := 0 } : Room) s m args below meth c H locs 0 0 Q (F0 m 25 ls [.int (fd_bi v2)]) := by
    intro H locs hP hD hS v2 hv2
    refine lv_istore_n (lv' := [(1, .int (fd_bi v2)), (0, .ref (am 0))]) hx hb fx_Md_passes_25 rfl hl (by decide) rfl (fun ls hl => ?_)
    refine lv_aload_n hx hb fx_Md_passes_26 rfl (lv_at hl 1 rfl) ?_
    refine va_get (D := D) (ci := 5) (v := .ref (am 6)) (C := fn_R_Md) (T := fn_T_Md) (N := 33) hx hb hts fn_j_Md hown hK hP 0 rfl rfl 5 (by decide) (hts _ (List.mem_cons_of_mem _ fq_532)) (fun _ h9 => h9) rfl fx_Md_passes_27 ?_
    refine lv_aload_n hx hb fx_Md_passes_30 rfl (lv_at hl 1 rfl) ?_
    refine va_get (D := D) (ci := 5) (v := .int (fm_mI σ 29)) (C := fn_R_Md) (T := fn_T_Md) (N := 33) hx hb hts fn_j_Md hown hK hP 0 rfl rfl 29 (by decide) (hts _ (List.mem_cons_of_mem _ fq_556)) (fun _ h9 => h9) rfl fx_Md_passes_31 ?_
    have hb3 : vp_in (fm_mI σ 29) 48 := hI.1
    refine va_iald (D := D) hx hb hK hP 6 5 rfl rfl hb3 fx_Md_passes_34 ?_
    refine W.eq (g2 := F0 m 35 ls (.int (fm_aI σ 5 (fm_mI σ 29).toNatClampNeg) :: [])) rfl ?_
    refine lv_bipush (v := 7) hx hb fx_Md_passes_35 (by decide) ?_
    refine lv_ishr hx hb fx_Md_passes_37 ?_
    refine lv_iconst (v := 1) hx hb fx_Md_passes_38 (by decide) ?_
    refine lv_iand hx hb fx_Md_passes_39 ?_
    refine lv_iconst (v := 1) hx hb fx_Md_passes_40 (by decide) ?_
    have hJ4 : ∀ (H : Heap) (locs : List Loc), va_P D fn_cl (fm_w ca am σ) H → va_D A (fm_w ca am σ) → va_S A s.heap H locs → ∀ (v4 : Bool), v4 = (if (((fm_aI σ 5 (fm_mI σ 29).toNatClampNeg) >>> (7 &&& 31)) &&& 1) = 1 then true else false) → W p l e ({ frames := 0, cells := 0, slots := 0, locals := 0 } : Room) s m args below meth c H locs 0 0 Q (F0 m 49 ls [.int (fd_bi v4)]) := by
      intro H locs hP hD hS v4 hv4
      refine lv_istore_n (lv' := [(2, .int (fd_bi v4)), (1, .int (fd_bi v2)), (0, .ref (am 0))]) hx hb fx_Md_passes_49 rfl hl (by decide) rfl (fun ls hl => ?_)
      refine lv_aload_n hx hb fx_Md_passes_50 rfl (lv_at hl 2 rfl) ?_
      refine va_get (D := D) (ci := 5) (v := .int (fd_bi (fm_mZ σ))) (C := fn_R_Md) (T := fn_T_Md) (N := 33) hx hb hts fn_j_Md hown hK hP 0 rfl rfl 32 (by decide) (hts _ (List.mem_cons_of_mem _ fq_559)) (fun _ h9 => h9) rfl fx_Md_passes_51 ?_
      have hJ5 : ∀ (H : Heap) (locs : List Loc), va_P D fn_cl (fm_w ca am σ) H → va_D A (fm_w ca am σ) → va_S A s.heap H locs → ∀ (v5 : Bool), v5 = (if (fm_mZ σ) = true then if v2 = true then if (fm_aZ σ 10 (fm_mI σ 29).toNatClampNeg) = true then true else false else false else if v2 = true then true else if v4 = true then true else false) → W p l e ({ frames := 0, cells := 0, slots := 0, locals := 0 } : Room) s m args below meth c H locs 0 0 Q (F0 m 94 ls [.int (fd_bi v5)]) := by
        intro H locs hP hD hS v5 hv5
        exact fm_zret (r := v5) (u := σ) hQ hx hb hr ⟨by rw [fv_Md_passes, ← hv2, fv_Md_passes_j2, ← hv4, fv_Md_passes_j4, ← hv5, fv_Md_passes_j5], rfl⟩ hP hD hS fx_Md_passes_94 hlocks
      refine fd_ifeq (tgt := 81) hx hb fx_Md_passes_54 (by decide) (fun c6 => ?_) (fun c6 => ?_)
      · refine lv_iload_n hx hb fx_Md_passes_81 rfl (lv_at hl 1 rfl) ?_
        refine fd_ifne (tgt := 89) hx hb fx_Md_passes_82 (by decide) (fun c7 => ?_) (fun c7 => ?_)
        · refine lv_iconst (v := 1) hx hb fx_Md_passes_89 (by decide) ?_
          refine lv_goto (tgt := 94) hx hb fx_Md_passes_90 (by decide) ?_
          exact hJ5 H locs hP hD hS true (by rw [if_neg c6, if_pos c7])
        · refine lv_iload_n hx hb fx_Md_passes_85 rfl (lv_at hl 0 rfl) ?_
          refine fd_ifeq (tgt := 93) hx hb fx_Md_passes_86 (by decide) (fun c8 => ?_) (fun c8 => ?_)
          · refine lv_iconst (v := 0) hx hb fx_Md_passes_93 (by decide) ?_
            exact hJ5 H locs hP hD hS false (by rw [if_neg c6, if_neg c7, if_neg c8])
          · refine lv_iconst (v := 1) hx hb fx_Md_passes_89 (by decide) ?_
            refine lv_goto (tgt := 94) hx hb fx_Md_passes_90 (by decide) ?_
            exact hJ5 H locs hP hD hS true (by rw [if_neg c6, if_neg c7, if_pos c8])
      · refine lv_iload_n hx hb fx_Md_passes_57 rfl (lv_at hl 1 rfl) ?_
        refine fd_ifeq (tgt := 77) hx hb fx_Md_passes_58 (by decide) (fun c9 => ?_) (fun c9 => ?_)
        · refine lv_iconst (v := 0) hx hb fx_Md_passes_77 (by decide) ?_
          refine lv_goto (tgt := 94) hx hb fx_Md_passes_78 (by decide) ?_
          exact hJ5 H locs hP hD hS false (by rw [if_pos c6, if_neg c9])
        · refine lv_aload_n hx hb fx_Md_passes_61 rfl (lv_at hl 2 rfl) ?_
          refine va_get (D := D) (ci := 5) (v := .ref (am 11)) (C := fn_R_Md) (T := fn_T_Md) (N := 33) hx hb hts fn_j_Md hown hK hP 0 rfl rfl 10 (by decide) (hts _ (List.mem_cons_of_mem _ fq_537)) (fun _ h9 => h9) rfl fx_Md_passes_62 ?_
          refine lv_aload_n hx hb fx_Md_passes_65 rfl (lv_at hl 2 rfl) ?_
          refine va_get (D := D) (ci := 5) (v := .int (fm_mI σ 29)) (C := fn_R_Md) (T := fn_T_Md) (N := 33) hx hb hts fn_j_Md hown hK hP 0 rfl rfl 29 (by decide) (hts _ (List.mem_cons_of_mem _ fq_556)) (fun _ h9 => h9) rfl fx_Md_passes_66 ?_
          have hb10 : vp_in (fm_mI σ 29) 48 := hI.1
          refine va_zald (D := D) hx hb hK hP 11 10 rfl rfl hb10 fx_Md_passes_69 ?_
          refine W.eq (g2 := F0 m 70 ls (.int (fd_bi (fm_aZ σ 10 (fm_mI σ 29).toNatClampNeg)) :: [])) rfl ?_
          refine fd_ifeq (tgt := 77) hx hb fx_Md_passes_70 (by decide) (fun c11 => ?_) (fun c11 => ?_)
          · refine lv_iconst (v := 0) hx hb fx_Md_passes_77 (by decide) ?_
            refine lv_goto (tgt := 94) hx hb fx_Md_passes_78 (by decide) ?_
            exact hJ5 H locs hP hD hS false (by rw [if_pos c6, if_pos c9, if_neg c11])
          · refine lv_iconst (v := 1) hx hb fx_Md_passes_73 (by decide) ?_
            refine lv_goto (tgt := 94) hx hb fx_Md_passes_74 (by decide) ?_
            exact hJ5 H locs hP hD hS true (by rw [if_pos c6, if_pos c9, if_pos c11])
    refine lv_icmp_ne (tgt := 48) hx hb fx_Md_passes_41 (by decide) (fun c12 => ?_) (fun c12 => ?_)
    · refine lv_iconst (v := 0) hx hb fx_Md_passes_48 (by decide) ?_
      exact hJ4 H locs hP hD hS false (by rw [if_neg c12])
    · refine lv_iconst (v := 1) hx hb fx_Md_passes_44 (by decide) ?_
      refine lv_goto (tgt := 49) hx hb fx_Md_passes_45 (by decide) ?_
      exact hJ4 H locs hP hD hS true (by rw [if_pos c12])
  refine lv_icmp_ne (tgt := 24) hx hb fx_Md_passes_17 (by decide) (fun c13 => ?_) (fun c13 => ?_)
  · refine lv_iconst (v := 0) hx hb fx_Md_passes_24 (by decide) ?_
    exact hJ2 H locs hP hD hS false (by rw [if_neg c13])
  · refine lv_iconst (v := 1) hx hb fx_Md_passes_20 (by decide) ?_
    refine lv_goto (tgt := 25) hx hb fx_Md_passes_21 (by decide) ?_
    exact hJ2 H locs hP hD hS true (by rw [if_pos c13])
def fv_Md_serve_j2 (σ : FMS) (p1 : Int32) (p2 : Int32) (p3 : Int32) (p4 : Int32) (v2 : Bool) : FMS := if (fd_bi v2) ≤ 0 then fm_saI (fm_saI (fm_saI (fm_smI σ 27 (fd_bi v2)) 0 p1.toNatClampNeg p2) 1 p1.toNatClampNeg p3) 2 p1.toNatClampNeg p4 else fm_smI σ 27 (fd_bi v2)
def fv_Md_serve (σ : FMS) (p1 : Int32) (p2 : Int32) (p3 : Int32) (p4 : Int32) : FMS := fv_Md_serve_j2 σ p1 p2 p3 p4 (if (fv_Md_isUrl σ p1) = true then if (fv_Md_in σ p2 200 599) = true then if p4 = (-1) then false else if (fv_Md_isUrl σ p4) = true then false else true else true else true)
set_option maxHeartbeats 4000000 in
set_option maxRecDepth 100000 in
theorem fc_Md_serve (l : Launch) (D : va_G) (ca : Nat → ClassId) (am : Nat → Nat) (sz : Nat) (σ : FMS) (p1 : Int32) (p2 : Int32) (p3 : Int32) (p4 : Int32) (hI : fm_Inv σ)  : Met l fy_Md_serve (fw_Md_serve :: fb_tbl) ({ frames := 2, cells := 0, slots := 0, locals := 42 } : Room) (fm_Pc D ca am [.ref (am 0), .int p1, .int p2, .int p3, .int p4] σ sz) ((fun A => va_Qv (fun u : FMS => fv_Md_serve σ p1 p2 p3 p4 = u ∧ fm_Inv u) (fm_B D ca am A) A) (va_A (fm_w ca am σ) sz)) 0 0 (va_A (fm_w ca am σ) sz) := by
  refine fm_ofW (cc := fb_Md_serve) (maxL := 5) (ret := none) (Qf := fun A => va_Qv (fun u : FMS => fv_Md_serve σ p1 p2 p3 p4 = u ∧ fm_Inv u) (fm_B D ca am A) A) (by decide) (Nat.le_of_ble_eq_true rfl) ?_
  intro p e s m args below meth c A Q hQ hx hb hr hts hown hlocks hml hP hK hD hS hA hN ls hl
  have hown : s.vm.findClass fn_R_Md = some m.cls := hown
  have hl : lv_has ls 5 [(0, .ref (am 0)), (1, .int p1), (2, .int p2), (3, .int p3), (4, .int p4)] := hl
  suffices hgo : ∀ (H : Heap) (locs : List Loc), va_P D fn_cl (fm_w ca am σ) H → va_D A (fm_w ca am σ) → va_S A s.heap H locs → W p l e ({ frames := 2, cells := 0, slots := 0, locals := 42 } : Room) s m args below meth c H locs 0 0 Q (F0 m 0 ls []) from hgo _ _ hP hD hS
  clear hP hD hS
  intro H locs hP hD hS
  refine lv_aload_n hx hb fx_Md_serve_0 rfl (lv_at hl 0 rfl) ?_
  refine lv_iload_n hx hb fx_Md_serve_1 rfl (lv_at hl 1 rfl) ?_
  refine fm_callz (va_runS (As := [.int p1]) (rest := [.ref (am 0)]) ⟨hx, hb, hml, hown, hts⟩ (fc_Md_isUrl l D ca am H.size σ p1 hI ) ⟨callB_of 1 hts (fb_good fm_Md_isUrl) rfl rfl rfl (hts _ (List.mem_cons_of_mem _ fq_6)) (hts _ (List.mem_cons_of_mem _ fq_638)) (by decide +kernel) ⟨Nat.le_of_ble_eq_true rfl, Nat.le_of_ble_eq_true rfl⟩, (hts _ (List.mem_cons_of_mem _ fq_639))⟩ (fm_preS hP hK hD hN) rfl rfl hl.1 rfl (lv_room (Nat.le_of_ble_eq_true rfl)) fx_Md_serve_2 ⟨Nat.le_of_ble_eq_true rfl, Nat.le_of_ble_eq_true rfl⟩) hD hS hA (fun H locs hP hD hS => ?_)
  have hJ2 : ∀ (H : Heap) (locs : List Loc), va_P D fn_cl (fm_w ca am σ) H → va_D A (fm_w ca am σ) → va_S A s.heap H locs → ∀ (v2 : Bool), v2 = (if (fv_Md_isUrl σ p1) = true then if (fv_Md_in σ p2 200 599) = true then if p4 = (-1) then false else if (fv_Md_isUrl σ p4) = true then false else true else true else true) → W p l e ({ frames := 2, cells := 0, slots := 0, locals := 42 } : Room) s m args below meth c H locs 0 0 Q (F0 m 40 ls [.int (fd_bi v2), .ref (am 0)]) := by
    intro H locs hP hD hS v2 hv2
    refine va_put (D := D) (ci := 5) (v := .int (fd_bi v2)) (ty := .int) (C := fn_R_Md) (T := fn_T_Md) (N := 33) hx hb hts fn_j_Md fn_t_Md fn_k_Md fn_n_Md hown hK hP hD hS 0 rfl rfl 27 (by decide) (hts _ (List.mem_cons_of_mem _ fq_554)) (fun _ h9 => h9) rfl (by decide +kernel) rfl rfl (Nat.le_of_ble_eq_true rfl) fx_Md_serve_40 (fun H locs hP hD hS => ?_)
    rw [fm_set_mI_27] at hP hD
    have hI3 : fm_Inv (fm_smI σ 27 (fd_bi v2)) := fm_inv_smI (by decide) (by decide) hI
    refine lv_aload_n hx hb fx_Md_serve_43 rfl (lv_at hl 0 rfl) ?_
    refine va_get (D := D) (ci := 5) (v := .int (fd_bi v2)) (C := fn_R_Md) (T := fn_T_Md) (N := 33) hx hb hts fn_j_Md hown hK hP 0 rfl rfl 27 (by decide) (hts _ (List.mem_cons_of_mem _ fq_554)) (fun _ h9 => h9) rfl fx_Md_serve_44 ?_
    refine lv_if_le (tgt := 51) hx hb fx_Md_serve_47 (by decide) (fun c4 => ?_) (fun c4 => ?_)
    · refine lv_aload_n hx hb fx_Md_serve_51 rfl (lv_at hl 0 rfl) ?_
      refine va_get (D := D) (ci := 5) (v := .ref (am 1)) (C := fn_R_Md) (T := fn_T_Md) (N := 33) hx hb hts fn_j_Md hown hK hP 0 rfl rfl 0 (by decide) (hts _ (List.mem_cons_of_mem _ fq_527)) (fun _ h9 => h9) rfl fx_Md_serve_52 ?_
      refine lv_iload_n hx hb fx_Md_serve_55 rfl (lv_at hl 1 rfl) ?_
      refine lv_iload_n hx hb fx_Md_serve_56 rfl (lv_at hl 2 rfl) ?_
      have hb5 : vp_in p1 48 := fm_isUrl (fm_first c4 hv2).1
      refine va_iast (D := D) (x := p2) hx hb hK hP hD hS 1 0 rfl rfl hb5 fx_Md_serve_57 (fun H locs hP hD hS => ?_)
      rw [fm_set_a_0] at hP hD
      have hI6 : fm_Inv (fm_saI (fm_smI σ 27 (fd_bi v2)) 0 p1.toNatClampNeg p2) := fm_inv_saI (by decide) hI3
      refine lv_aload_n hx hb fx_Md_serve_58 rfl (lv_at hl 0 rfl) ?_
      refine va_get (D := D) (ci := 5) (v := .ref (am 2)) (C := fn_R_Md) (T := fn_T_Md) (N := 33) hx hb hts fn_j_Md hown hK hP 0 rfl rfl 1 (by decide) (hts _ (List.mem_cons_of_mem _ fq_528)) (fun _ h9 => h9) rfl fx_Md_serve_59 ?_
      refine lv_iload_n hx hb fx_Md_serve_62 rfl (lv_at hl 1 rfl) ?_
      refine lv_iload_n hx hb fx_Md_serve_63 rfl (lv_at hl 3 rfl) ?_
      have hb7 : vp_in p1 48 := fm_isUrl (fm_first c4 hv2).1
      refine va_iast (D := D) (x := p3) hx hb hK hP hD hS 2 1 rfl rfl hb7 fx_Md_serve_64 (fun H locs hP hD hS => ?_)
      rw [fm_set_a_1] at hP hD
      have hI8 : fm_Inv (fm_saI (fm_saI (fm_smI σ 27 (fd_bi v2)) 0 p1.toNatClampNeg p2) 1 p1.toNatClampNeg p3) := fm_inv_saI (by decide) hI6
      refine lv_aload_n hx hb fx_Md_serve_65 rfl (lv_at hl 0 rfl) ?_
      refine va_get (D := D) (ci := 5) (v := .ref (am 3)) (C := fn_R_Md) (T := fn_T_Md) (N := 33) hx hb hts fn_j_Md hown hK hP 0 rfl rfl 2 (by decide) (hts _ (List.mem_cons_of_mem _ fq_529)) (fun _ h9 => h9) rfl fx_Md_serve_66 ?_
      refine lv_iload_n hx hb fx_Md_serve_69 rfl (lv_at hl 1 rfl) ?_
      refine lv_iload hx hb fx_Md_serve_70 (lv_at hl 4 rfl) ?_
      have hb9 : vp_in p1 48 := fm_isUrl (fm_first c4 hv2).1
      refine va_iast (D := D) (x := p4) hx hb hK hP hD hS 3 2 rfl rfl hb9 fx_Md_serve_72 (fun H locs hP hD hS => ?_)
      rw [fm_set_a_2] at hP hD
      have hI10 : fm_Inv (fm_saI (fm_saI (fm_saI (fm_smI σ 27 (fd_bi v2)) 0 p1.toNatClampNeg p2) 1 p1.toNatClampNeg p3) 2 p1.toNatClampNeg p4) := fm_inv_target (fm_tg c4 (fm_first c4 (fm_first c4 hv2).2).2) hI8
      exact fm_vret (u := fm_saI (fm_saI (fm_saI (fm_smI σ 27 (fd_bi v2)) 0 p1.toNatClampNeg p2) 1 p1.toNatClampNeg p3) 2 p1.toNatClampNeg p4) hQ hx hb hr ⟨by rw [fv_Md_serve, ← hv2, fv_Md_serve_j2, if_pos c4], hI10⟩ hP hD hS fx_Md_serve_73 hlocks
    · exact fm_vret (u := fm_smI σ 27 (fd_bi v2)) hQ hx hb hr ⟨by rw [fv_Md_serve, ← hv2, fv_Md_serve_j2, if_neg c4], hI3⟩ hP hD hS fx_Md_serve_50 hlocks
  refine fd_ifeq (tgt := 39) hx hb fx_Md_serve_5 (by decide) (fun c11 => ?_) (fun c11 => ?_)
  · refine lv_iconst (v := 1) hx hb fx_Md_serve_39 (by decide) ?_
    exact hJ2 H locs hP hD hS true (by rw [if_neg c11])
  · refine lv_iload_n hx hb fx_Md_serve_8 rfl (lv_at hl 2 rfl) ?_
    refine lv_sipush (v := 200) hx hb fx_Md_serve_9 (by decide) ?_
    refine lv_sipush (v := 599) hx hb fx_Md_serve_12 (by decide) ?_
    refine fm_callz (va_runS (As := [.int p2, .int 200, .int 599]) (rest := [.ref (am 0)]) ⟨hx, hb, hml, hown, hts⟩ (fc_Md_in l D ca am H.size σ p2 200 599 hI ) ⟨callB_of 3 hts (fb_good fm_Md_in) rfl rfl rfl (hts _ (List.mem_cons_of_mem _ fq_6)) (hts _ (List.mem_cons_of_mem _ fq_641)) (by decide +kernel) ⟨Nat.le_of_ble_eq_true rfl, Nat.le_of_ble_eq_true rfl⟩, (hts _ (List.mem_cons_of_mem _ fq_642))⟩ (fm_preS hP hK hD hN) rfl rfl hl.1 rfl (lv_room (Nat.le_of_ble_eq_true rfl)) fx_Md_serve_15 ⟨Nat.le_of_ble_eq_true rfl, Nat.le_of_ble_eq_true rfl⟩) hD hS hA (fun H locs hP hD hS => ?_)
    refine fd_ifeq (tgt := 39) hx hb fx_Md_serve_18 (by decide) (fun c13 => ?_) (fun c13 => ?_)
    · refine lv_iconst (v := 1) hx hb fx_Md_serve_39 (by decide) ?_
      exact hJ2 H locs hP hD hS true (by rw [if_pos c11, if_neg c13])
    · refine lv_iload hx hb fx_Md_serve_21 (lv_at hl 4 rfl) ?_
      refine lv_iconst (v := (-1)) hx hb fx_Md_serve_23 (by decide) ?_
      refine lv_icmp_eq (tgt := 35) hx hb fx_Md_serve_24 (by decide) (fun c14 => ?_) (fun c14 => ?_)
      · refine lv_iconst (v := 0) hx hb fx_Md_serve_35 (by decide) ?_
        refine lv_goto (tgt := 40) hx hb fx_Md_serve_36 (by decide) ?_
        exact hJ2 H locs hP hD hS false (by rw [if_pos c11, if_pos c13, if_pos c14])
      · refine lv_iload hx hb fx_Md_serve_27 (lv_at hl 4 rfl) ?_
        refine fm_callz (va_runS (As := [.int p4]) (rest := [.ref (am 0)]) ⟨hx, hb, hml, hown, hts⟩ (fc_Md_isUrl l D ca am H.size σ p4 hI ) ⟨callB_of 1 hts (fb_good fm_Md_isUrl) rfl rfl rfl (hts _ (List.mem_cons_of_mem _ fq_6)) (hts _ (List.mem_cons_of_mem _ fq_638)) (by decide +kernel) ⟨Nat.le_of_ble_eq_true rfl, Nat.le_of_ble_eq_true rfl⟩, (hts _ (List.mem_cons_of_mem _ fq_639))⟩ (fm_preS hP hK hD hN) rfl rfl hl.1 rfl (lv_room (Nat.le_of_ble_eq_true rfl)) fx_Md_serve_29 ⟨Nat.le_of_ble_eq_true rfl, Nat.le_of_ble_eq_true rfl⟩) hD hS hA (fun H locs hP hD hS => ?_)
        refine fd_ifeq (tgt := 39) hx hb fx_Md_serve_32 (by decide) (fun c16 => ?_) (fun c16 => ?_)
        · refine lv_iconst (v := 1) hx hb fx_Md_serve_39 (by decide) ?_
          exact hJ2 H locs hP hD hS true (by rw [if_pos c11, if_pos c13, if_neg c14, if_neg c16])
        · refine lv_iconst (v := 0) hx hb fx_Md_serve_35 (by decide) ?_
          refine lv_goto (tgt := 40) hx hb fx_Md_serve_36 (by decide) ?_
          exact hJ2 H locs hP hD hS false (by rw [if_pos c11, if_pos c13, if_neg c14, if_pos c16])
def fv_Md_headers_j2 (σ : FMS) (p1 : Int32) (p2 : Int32) (p3 : Int32) (v2 : Bool) : FMS := if (fd_bi v2) ≤ 0 then fm_saI (fm_saI (fm_smI σ 27 (fd_bi v2)) 3 p1.toNatClampNeg p2) 4 p1.toNatClampNeg p3 else fm_smI σ 27 (fd_bi v2)
def fv_Md_headers (σ : FMS) (p1 : Int32) (p2 : Int32) (p3 : Int32) : FMS := fv_Md_headers_j2 σ p1 p2 p3 (if (fv_Md_isUrl σ p1) = true then if (fv_Md_in σ p2 0 15) = true then if (fv_Md_in σ p3 0 15) = true then false else true else true else true)
set_option maxHeartbeats 4000000 in
set_option maxRecDepth 100000 in
theorem fc_Md_headers (l : Launch) (D : va_G) (ca : Nat → ClassId) (am : Nat → Nat) (sz : Nat) (σ : FMS) (p1 : Int32) (p2 : Int32) (p3 : Int32) (hI : fm_Inv σ)  : Met l fy_Md_headers (fw_Md_headers :: fb_tbl) ({ frames := 2, cells := 0, slots := 0, locals := 42 } : Room) (fm_Pc D ca am [.ref (am 0), .int p1, .int p2, .int p3] σ sz) ((fun A => va_Qv (fun u : FMS => fv_Md_headers σ p1 p2 p3 = u ∧ fm_Inv u) (fm_B D ca am A) A) (va_A (fm_w ca am σ) sz)) 0 0 (va_A (fm_w ca am σ) sz) := by
  refine fm_ofW (cc := fb_Md_headers) (maxL := 4) (ret := none) (Qf := fun A => va_Qv (fun u : FMS => fv_Md_headers σ p1 p2 p3 = u ∧ fm_Inv u) (fm_B D ca am A) A) (by decide) (Nat.le_of_ble_eq_true rfl) ?_
  intro p e s m args below meth c A Q hQ hx hb hr hts hown hlocks hml hP hK hD hS hA hN ls hl
  have hown : s.vm.findClass fn_R_Md = some m.cls := hown
  have hl : lv_has ls 4 [(0, .ref (am 0)), (1, .int p1), (2, .int p2), (3, .int p3)] := hl
  suffices hgo : ∀ (H : Heap) (locs : List Loc), va_P D fn_cl (fm_w ca am σ) H → va_D A (fm_w ca am σ) → va_S A s.heap H locs → W p l e ({ frames := 2, cells := 0, slots := 0, locals := 42 } : Room) s m args below meth c H locs 0 0 Q (F0 m 0 ls []) from hgo _ _ hP hD hS
  clear hP hD hS
  intro H locs hP hD hS
  refine lv_aload_n hx hb fx_Md_headers_0 rfl (lv_at hl 0 rfl) ?_
  refine lv_iload_n hx hb fx_Md_headers_1 rfl (lv_at hl 1 rfl) ?_
  refine fm_callz (va_runS (As := [.int p1]) (rest := [.ref (am 0)]) ⟨hx, hb, hml, hown, hts⟩ (fc_Md_isUrl l D ca am H.size σ p1 hI ) ⟨callB_of 1 hts (fb_good fm_Md_isUrl) rfl rfl rfl (hts _ (List.mem_cons_of_mem _ fq_6)) (hts _ (List.mem_cons_of_mem _ fq_638)) (by decide +kernel) ⟨Nat.le_of_ble_eq_true rfl, Nat.le_of_ble_eq_true rfl⟩, (hts _ (List.mem_cons_of_mem _ fq_639))⟩ (fm_preS hP hK hD hN) rfl rfl hl.1 rfl (lv_room (Nat.le_of_ble_eq_true rfl)) fx_Md_headers_2 ⟨Nat.le_of_ble_eq_true rfl, Nat.le_of_ble_eq_true rfl⟩) hD hS hA (fun H locs hP hD hS => ?_)
  have hJ2 : ∀ (H : Heap) (locs : List Loc), va_P D fn_cl (fm_w ca am σ) H → va_D A (fm_w ca am σ) → va_S A s.heap H locs → ∀ (v2 : Bool), v2 = (if (fv_Md_isUrl σ p1) = true then if (fv_Md_in σ p2 0 15) = true then if (fv_Md_in σ p3 0 15) = true then false else true else true else true) → W p l e ({ frames := 2, cells := 0, slots := 0, locals := 42 } : Room) s m args below meth c H locs 0 0 Q (F0 m 33 ls [.int (fd_bi v2), .ref (am 0)]) := by
    intro H locs hP hD hS v2 hv2
    refine va_put (D := D) (ci := 5) (v := .int (fd_bi v2)) (ty := .int) (C := fn_R_Md) (T := fn_T_Md) (N := 33) hx hb hts fn_j_Md fn_t_Md fn_k_Md fn_n_Md hown hK hP hD hS 0 rfl rfl 27 (by decide) (hts _ (List.mem_cons_of_mem _ fq_554)) (fun _ h9 => h9) rfl (by decide +kernel) rfl rfl (Nat.le_of_ble_eq_true rfl) fx_Md_headers_33 (fun H locs hP hD hS => ?_)
    rw [fm_set_mI_27] at hP hD
    have hI3 : fm_Inv (fm_smI σ 27 (fd_bi v2)) := fm_inv_smI (by decide) (by decide) hI
    refine lv_aload_n hx hb fx_Md_headers_36 rfl (lv_at hl 0 rfl) ?_
    refine va_get (D := D) (ci := 5) (v := .int (fd_bi v2)) (C := fn_R_Md) (T := fn_T_Md) (N := 33) hx hb hts fn_j_Md hown hK hP 0 rfl rfl 27 (by decide) (hts _ (List.mem_cons_of_mem _ fq_554)) (fun _ h9 => h9) rfl fx_Md_headers_37 ?_
    refine lv_if_le (tgt := 44) hx hb fx_Md_headers_40 (by decide) (fun c4 => ?_) (fun c4 => ?_)
    · refine lv_aload_n hx hb fx_Md_headers_44 rfl (lv_at hl 0 rfl) ?_
      refine va_get (D := D) (ci := 5) (v := .ref (am 4)) (C := fn_R_Md) (T := fn_T_Md) (N := 33) hx hb hts fn_j_Md hown hK hP 0 rfl rfl 3 (by decide) (hts _ (List.mem_cons_of_mem _ fq_530)) (fun _ h9 => h9) rfl fx_Md_headers_45 ?_
      refine lv_iload_n hx hb fx_Md_headers_48 rfl (lv_at hl 1 rfl) ?_
      refine lv_iload_n hx hb fx_Md_headers_49 rfl (lv_at hl 2 rfl) ?_
      have hb5 : vp_in p1 48 := fm_isUrl (fm_first c4 hv2).1
      refine va_iast (D := D) (x := p2) hx hb hK hP hD hS 4 3 rfl rfl hb5 fx_Md_headers_50 (fun H locs hP hD hS => ?_)
      rw [fm_set_a_3] at hP hD
      have hI6 : fm_Inv (fm_saI (fm_smI σ 27 (fd_bi v2)) 3 p1.toNatClampNeg p2) := fm_inv_saI (by decide) hI3
      refine lv_aload_n hx hb fx_Md_headers_51 rfl (lv_at hl 0 rfl) ?_
      refine va_get (D := D) (ci := 5) (v := .ref (am 5)) (C := fn_R_Md) (T := fn_T_Md) (N := 33) hx hb hts fn_j_Md hown hK hP 0 rfl rfl 4 (by decide) (hts _ (List.mem_cons_of_mem _ fq_531)) (fun _ h9 => h9) rfl fx_Md_headers_52 ?_
      refine lv_iload_n hx hb fx_Md_headers_55 rfl (lv_at hl 1 rfl) ?_
      refine lv_iload_n hx hb fx_Md_headers_56 rfl (lv_at hl 3 rfl) ?_
      have hb7 : vp_in p1 48 := fm_isUrl (fm_first c4 hv2).1
      refine va_iast (D := D) (x := p3) hx hb hK hP hD hS 5 4 rfl rfl hb7 fx_Md_headers_57 (fun H locs hP hD hS => ?_)
      rw [fm_set_a_4] at hP hD
      have hI8 : fm_Inv (fm_saI (fm_saI (fm_smI σ 27 (fd_bi v2)) 3 p1.toNatClampNeg p2) 4 p1.toNatClampNeg p3) := fm_inv_saI (by decide) hI6
      exact fm_vret (u := fm_saI (fm_saI (fm_smI σ 27 (fd_bi v2)) 3 p1.toNatClampNeg p2) 4 p1.toNatClampNeg p3) hQ hx hb hr ⟨by rw [fv_Md_headers, ← hv2, fv_Md_headers_j2, if_pos c4], hI8⟩ hP hD hS fx_Md_headers_58 hlocks
    · exact fm_vret (u := fm_smI σ 27 (fd_bi v2)) hQ hx hb hr ⟨by rw [fv_Md_headers, ← hv2, fv_Md_headers_j2, if_neg c4], hI3⟩ hP hD hS fx_Md_headers_43 hlocks
  refine fd_ifeq (tgt := 32) hx hb fx_Md_headers_5 (by decide) (fun c9 => ?_) (fun c9 => ?_)
  · refine lv_iconst (v := 1) hx hb fx_Md_headers_32 (by decide) ?_
    exact hJ2 H locs hP hD hS true (by rw [if_neg c9])
  · refine lv_iload_n hx hb fx_Md_headers_8 rfl (lv_at hl 2 rfl) ?_
    refine lv_iconst (v := 0) hx hb fx_Md_headers_9 (by decide) ?_
    refine lv_bipush (v := 15) hx hb fx_Md_headers_10 (by decide) ?_
    refine fm_callz (va_runS (As := [.int p2, .int 0, .int 15]) (rest := [.ref (am 0)]) ⟨hx, hb, hml, hown, hts⟩ (fc_Md_in l D ca am H.size σ p2 0 15 hI ) ⟨callB_of 3 hts (fb_good fm_Md_in) rfl rfl rfl (hts _ (List.mem_cons_of_mem _ fq_6)) (hts _ (List.mem_cons_of_mem _ fq_641)) (by decide +kernel) ⟨Nat.le_of_ble_eq_true rfl, Nat.le_of_ble_eq_true rfl⟩, (hts _ (List.mem_cons_of_mem _ fq_642))⟩ (fm_preS hP hK hD hN) rfl rfl hl.1 rfl (lv_room (Nat.le_of_ble_eq_true rfl)) fx_Md_headers_12 ⟨Nat.le_of_ble_eq_true rfl, Nat.le_of_ble_eq_true rfl⟩) hD hS hA (fun H locs hP hD hS => ?_)
    refine fd_ifeq (tgt := 32) hx hb fx_Md_headers_15 (by decide) (fun c11 => ?_) (fun c11 => ?_)
    · refine lv_iconst (v := 1) hx hb fx_Md_headers_32 (by decide) ?_
      exact hJ2 H locs hP hD hS true (by rw [if_pos c9, if_neg c11])
    · refine lv_iload_n hx hb fx_Md_headers_18 rfl (lv_at hl 3 rfl) ?_
      refine lv_iconst (v := 0) hx hb fx_Md_headers_19 (by decide) ?_
      refine lv_bipush (v := 15) hx hb fx_Md_headers_20 (by decide) ?_
      refine fm_callz (va_runS (As := [.int p3, .int 0, .int 15]) (rest := [.ref (am 0)]) ⟨hx, hb, hml, hown, hts⟩ (fc_Md_in l D ca am H.size σ p3 0 15 hI ) ⟨callB_of 3 hts (fb_good fm_Md_in) rfl rfl rfl (hts _ (List.mem_cons_of_mem _ fq_6)) (hts _ (List.mem_cons_of_mem _ fq_641)) (by decide +kernel) ⟨Nat.le_of_ble_eq_true rfl, Nat.le_of_ble_eq_true rfl⟩, (hts _ (List.mem_cons_of_mem _ fq_642))⟩ (fm_preS hP hK hD hN) rfl rfl hl.1 rfl (lv_room (Nat.le_of_ble_eq_true rfl)) fx_Md_headers_22 ⟨Nat.le_of_ble_eq_true rfl, Nat.le_of_ble_eq_true rfl⟩) hD hS hA (fun H locs hP hD hS => ?_)
      refine fd_ifeq (tgt := 32) hx hb fx_Md_headers_25 (by decide) (fun c13 => ?_) (fun c13 => ?_)
      · refine lv_iconst (v := 1) hx hb fx_Md_headers_32 (by decide) ?_
        exact hJ2 H locs hP hD hS true (by rw [if_pos c9, if_pos c11, if_neg c13])
      · refine lv_iconst (v := 0) hx hb fx_Md_headers_28 (by decide) ?_
        refine lv_goto (tgt := 33) hx hb fx_Md_headers_29 (by decide) ?_
        exact hJ2 H locs hP hD hS false (by rw [if_pos c9, if_pos c11, if_pos c13])
def fv_Md_allow (σ : FMS) (p1 : Int32) (p2 : Int32) (p3 : Bool) : Int32 × FMS := if (fv_Md_isUrl σ p1) = true then if (fv_Md_in σ p2 0 255) = true then (fm_aI σ 5 p1.toNatClampNeg, fm_saZ (fm_saI (fm_smI σ 27 0) 5 p1.toNatClampNeg p2) 10 p1.toNatClampNeg p3) else ((fv_Md_fail σ 1).1, (fv_Md_fail σ 1).2) else ((fv_Md_fail σ 1).1, (fv_Md_fail σ 1).2)
set_option maxHeartbeats 4000000 in
set_option maxRecDepth 100000 in
theorem fc_Md_allow (l : Launch) (D : va_G) (ca : Nat → ClassId) (am : Nat → Nat) (sz : Nat) (σ : FMS) (p1 : Int32) (p2 : Int32) (p3 : Bool) (hI : fm_Inv σ)  : Met l fy_Md_allow (fw_Md_allow :: fb_tbl) ({ frames := 2, cells := 0, slots := 0, locals := 42 } : Room) (fm_Pc D ca am [.ref (am 0), .int p1, .int p2, .int (fd_bi p3)] σ sz) ((fun A => va_Qi (fun (r : Int32) (u : FMS) => fv_Md_allow σ p1 p2 p3 = (r, u) ∧ fm_Inv u) (fm_B D ca am A) A) (va_A (fm_w ca am σ) sz)) 0 0 (va_A (fm_w ca am σ) sz) := by
  refine fm_ofW (cc := fb_Md_allow) (maxL := 5) (ret := (some .int)) (Qf := fun A => va_Qi (fun (r : Int32) (u : FMS) => fv_Md_allow σ p1 p2 p3 = (r, u) ∧ fm_Inv u) (fm_B D ca am A) A) (by decide) (Nat.le_of_ble_eq_true rfl) ?_
  intro p e s m args below meth c A Q hQ hx hb hr hts hown hlocks hml hP hK hD hS hA hN ls hl
  have hown : s.vm.findClass fn_R_Md = some m.cls := hown
  have hl : lv_has ls 5 [(0, .ref (am 0)), (1, .int p1), (2, .int p2), (3, .int (fd_bi p3))] := hl
  suffices hgo : ∀ (H : Heap) (locs : List Loc), va_P D fn_cl (fm_w ca am σ) H → va_D A (fm_w ca am σ) → va_S A s.heap H locs → W p l e ({ frames := 2, cells := 0, slots := 0, locals := 42 } : Room) s m args below meth c H locs 0 0 Q (F0 m 0 ls []) from hgo _ _ hP hD hS
  clear hP hD hS
  intro H locs hP hD hS
  refine lv_iload_n hx hb fx_Md_allow_0 rfl (lv_at hl 1 rfl) ?_
  refine fm_callz (va_runS (As := [.int p1]) (rest := []) ⟨hx, hb, hml, hown, hts⟩ (fc_Md_isUrl l D ca am H.size σ p1 hI ) ⟨callB_of 1 hts (fb_good fm_Md_isUrl) rfl rfl rfl (hts _ (List.mem_cons_of_mem _ fq_6)) (hts _ (List.mem_cons_of_mem _ fq_638)) (by decide +kernel) ⟨Nat.le_of_ble_eq_true rfl, Nat.le_of_ble_eq_true rfl⟩, (hts _ (List.mem_cons_of_mem _ fq_639))⟩ (fm_preS hP hK hD hN) rfl rfl hl.1 rfl (lv_room (Nat.le_of_ble_eq_true rfl)) fx_Md_allow_1 ⟨Nat.le_of_ble_eq_true rfl, Nat.le_of_ble_eq_true rfl⟩) hD hS hA (fun H locs hP hD hS => ?_)
  refine fd_ifeq (tgt := 18) hx hb fx_Md_allow_4 (by decide) (fun c2 => ?_) (fun c2 => ?_)
  · refine lv_aload_n hx hb fx_Md_allow_18 rfl (lv_at hl 0 rfl) ?_
    refine lv_iconst (v := 1) hx hb fx_Md_allow_19 (by decide) ?_
    refine fm_callim (va_runV (As := [.int 1]) (rest := []) ⟨hx, hb, hml, hown, hts⟩ (fc_Md_fail l D ca am H.size σ 1 hI ) ⟨callB_of 1 hts (fb_good fm_Md_fail) rfl rfl rfl (hts _ (List.mem_cons_of_mem _ fq_6)) (hts _ (List.mem_cons_of_mem _ fq_652)) (by decide +kernel) ⟨Nat.le_of_ble_eq_true rfl, Nat.le_of_ble_eq_true rfl⟩, (hts _ (List.mem_cons_of_mem _ fq_654)), (hts _ (List.mem_cons_of_mem _ fp_Md_fail))⟩ (fm_preV hP hK hD hN (va_recv hK hP (ci := 5) (q0 := 0) rfl rfl)) rfl rfl hl.1 rfl (lv_room (Nat.le_of_ble_eq_true rfl)) fx_Md_allow_20 ⟨Nat.le_of_ble_eq_true rfl, Nat.le_of_ble_eq_true rfl⟩) hD hS hA (fun H locs hP hD hS hI3 => ?_)
    exact fm_iret (r := (fv_Md_fail σ 1).1) (u := (fv_Md_fail σ 1).2) hQ hx hb hr ⟨by rw [fv_Md_allow, if_neg c2], hI3⟩ hP hD hS fx_Md_allow_23 hlocks
  · refine lv_iload_n hx hb fx_Md_allow_7 rfl (lv_at hl 2 rfl) ?_
    refine lv_iconst (v := 0) hx hb fx_Md_allow_8 (by decide) ?_
    refine lv_sipush (v := 255) hx hb fx_Md_allow_9 (by decide) ?_
    refine fm_callz (va_runS (As := [.int p2, .int 0, .int 255]) (rest := []) ⟨hx, hb, hml, hown, hts⟩ (fc_Md_in l D ca am H.size σ p2 0 255 hI ) ⟨callB_of 3 hts (fb_good fm_Md_in) rfl rfl rfl (hts _ (List.mem_cons_of_mem _ fq_6)) (hts _ (List.mem_cons_of_mem _ fq_641)) (by decide +kernel) ⟨Nat.le_of_ble_eq_true rfl, Nat.le_of_ble_eq_true rfl⟩, (hts _ (List.mem_cons_of_mem _ fq_642))⟩ (fm_preS hP hK hD hN) rfl rfl hl.1 rfl (lv_room (Nat.le_of_ble_eq_true rfl)) fx_Md_allow_12 ⟨Nat.le_of_ble_eq_true rfl, Nat.le_of_ble_eq_true rfl⟩) hD hS hA (fun H locs hP hD hS => ?_)
    refine fd_ifne (tgt := 24) hx hb fx_Md_allow_15 (by decide) (fun c5 => ?_) (fun c5 => ?_)
    · refine lv_aload_n hx hb fx_Md_allow_24 rfl (lv_at hl 0 rfl) ?_
      refine lv_iconst (v := 0) hx hb fx_Md_allow_25 (by decide) ?_
      refine va_put (D := D) (ci := 5) (v := .int 0) (ty := .int) (C := fn_R_Md) (T := fn_T_Md) (N := 33) hx hb hts fn_j_Md fn_t_Md fn_k_Md fn_n_Md hown hK hP hD hS 0 rfl rfl 27 (by decide) (hts _ (List.mem_cons_of_mem _ fq_554)) (fun _ h9 => h9) rfl (by decide +kernel) rfl rfl (Nat.le_of_ble_eq_true rfl) fx_Md_allow_26 (fun H locs hP hD hS => ?_)
      rw [fm_set_mI_27] at hP hD
      have hI6 : fm_Inv (fm_smI σ 27 0) := fm_inv_smI (by decide) (by decide) hI
      refine lv_aload_n hx hb fx_Md_allow_29 rfl (lv_at hl 0 rfl) ?_
      refine va_get (D := D) (ci := 5) (v := .ref (am 6)) (C := fn_R_Md) (T := fn_T_Md) (N := 33) hx hb hts fn_j_Md hown hK hP 0 rfl rfl 5 (by decide) (hts _ (List.mem_cons_of_mem _ fq_532)) (fun _ h9 => h9) rfl fx_Md_allow_30 ?_
      refine lv_iload_n hx hb fx_Md_allow_33 rfl (lv_at hl 1 rfl) ?_
      have hb7 : vp_in p1 48 := fm_isUrl c2
      refine va_iald (D := D) hx hb hK hP 6 5 rfl rfl hb7 fx_Md_allow_34 ?_
      refine W.eq (g2 := F0 m 35 ls (.int (fm_aI σ 5 p1.toNatClampNeg) :: [])) rfl ?_
      refine lv_istore (lv' := [(4, .int (fm_aI σ 5 p1.toNatClampNeg)), (0, .ref (am 0)), (1, .int p1), (2, .int p2), (3, .int (fd_bi p3))]) hx hb fx_Md_allow_35 hl (by decide) rfl (fun ls hl => ?_)
      refine lv_aload_n hx hb fx_Md_allow_37 rfl (lv_at hl 1 rfl) ?_
      refine va_get (D := D) (ci := 5) (v := .ref (am 6)) (C := fn_R_Md) (T := fn_T_Md) (N := 33) hx hb hts fn_j_Md hown hK hP 0 rfl rfl 5 (by decide) (hts _ (List.mem_cons_of_mem _ fq_532)) (fun _ h9 => h9) rfl fx_Md_allow_38 ?_
      refine lv_iload_n hx hb fx_Md_allow_41 rfl (lv_at hl 2 rfl) ?_
      refine lv_iload_n hx hb fx_Md_allow_42 rfl (lv_at hl 3 rfl) ?_
      have hb8 : vp_in p1 48 := fm_isUrl c2
      refine va_iast (D := D) (x := p2) hx hb hK hP hD hS 6 5 rfl rfl hb8 fx_Md_allow_43 (fun H locs hP hD hS => ?_)
      rw [fm_set_a_5] at hP hD
      have hI9 : fm_Inv (fm_saI (fm_smI σ 27 0) 5 p1.toNatClampNeg p2) := fm_inv_saI (by decide) hI6
      refine lv_aload_n hx hb fx_Md_allow_44 rfl (lv_at hl 1 rfl) ?_
      refine va_get (D := D) (ci := 5) (v := .ref (am 11)) (C := fn_R_Md) (T := fn_T_Md) (N := 33) hx hb hts fn_j_Md hown hK hP 0 rfl rfl 10 (by decide) (hts _ (List.mem_cons_of_mem _ fq_537)) (fun _ h9 => h9) rfl fx_Md_allow_45 ?_
      refine lv_iload_n hx hb fx_Md_allow_48 rfl (lv_at hl 2 rfl) ?_
      refine lv_iload_n hx hb fx_Md_allow_49 rfl (lv_at hl 4 rfl) ?_
      have hb10 : vp_in p1 48 := fm_isUrl c2
      refine va_zast (D := D) (x := fd_bi p3) hx hb hK hP hD hS 11 10 rfl rfl hb10 fx_Md_allow_50 (fun H locs hP hD hS => ?_)
      rw [fm_set_a_10] at hP hD
      have hI11 : fm_Inv (fm_saZ (fm_saI (fm_smI σ 27 0) 5 p1.toNatClampNeg p2) 10 p1.toNatClampNeg p3) := fm_inv_saZ hI9
      refine lv_iload hx hb fx_Md_allow_51 (lv_at hl 0 rfl) ?_
      exact fm_iret (r := fm_aI σ 5 p1.toNatClampNeg) (u := fm_saZ (fm_saI (fm_smI σ 27 0) 5 p1.toNatClampNeg p2) 10 p1.toNatClampNeg p3) hQ hx hb hr ⟨by rw [fv_Md_allow, if_pos c2, if_pos c5], hI11⟩ hP hD hS fx_Md_allow_53 hlocks
    · refine lv_aload_n hx hb fx_Md_allow_18 rfl (lv_at hl 0 rfl) ?_
      refine lv_iconst (v := 1) hx hb fx_Md_allow_19 (by decide) ?_
      refine fm_callim (va_runV (As := [.int 1]) (rest := []) ⟨hx, hb, hml, hown, hts⟩ (fc_Md_fail l D ca am H.size σ 1 hI ) ⟨callB_of 1 hts (fb_good fm_Md_fail) rfl rfl rfl (hts _ (List.mem_cons_of_mem _ fq_6)) (hts _ (List.mem_cons_of_mem _ fq_652)) (by decide +kernel) ⟨Nat.le_of_ble_eq_true rfl, Nat.le_of_ble_eq_true rfl⟩, (hts _ (List.mem_cons_of_mem _ fq_654)), (hts _ (List.mem_cons_of_mem _ fp_Md_fail))⟩ (fm_preV hP hK hD hN (va_recv hK hP (ci := 5) (q0 := 0) rfl rfl)) rfl rfl hl.1 rfl (lv_room (Nat.le_of_ble_eq_true rfl)) fx_Md_allow_20 ⟨Nat.le_of_ble_eq_true rfl, Nat.le_of_ble_eq_true rfl⟩) hD hS hA (fun H locs hP hD hS hI12 => ?_)
      exact fm_iret (r := (fv_Md_fail σ 1).1) (u := (fv_Md_fail σ 1).2) hQ hx hb hr ⟨by rw [fv_Md_allow, if_pos c2, if_neg c5], hI12⟩ hP hD hS fx_Md_allow_23 hlocks
def fv_Md_asked_j2 (σ : FMS) (p1 : Int32) (p2 : Bool) (p3 : Int32) (p4 : Int32) (p5 : UInt64) (v2 : Bool) : FMS := if (fd_bi v2) ≤ 0 then fm_saD (fm_saI (fm_saI (fm_saZ (fm_smI σ 27 (fd_bi v2)) 11 p1.toNatClampNeg p2) 6 p1.toNatClampNeg p3) 7 p1.toNatClampNeg p4) 13 p1.toNatClampNeg p5 else fm_smI σ 27 (fd_bi v2)
def fv_Md_asked (σ : FMS) (p1 : Int32) (p2 : Bool) (p3 : Int32) (p4 : Int32) (p5 : UInt64) : FMS := fv_Md_asked_j2 σ p1 p2 p3 p4 p5 (if (fv_Md_isUrl σ p1) = true then if (fv_Md_in σ p3 0 15) = true then if (fv_Md_in σ p4 0 15) = true then if (Op.cmpValue (FP.dcmp p5 FP.dconst0) .l) < 0 then true else if 0 < (Op.cmpValue (FP.dcmp p5 4636737291354636288) .g) then true else false else true else true else true)
set_option maxHeartbeats 4000000 in
set_option maxRecDepth 100000 in
theorem fc_Md_asked (l : Launch) (D : va_G) (ca : Nat → ClassId) (am : Nat → Nat) (sz : Nat) (σ : FMS) (p1 : Int32) (p2 : Bool) (p3 : Int32) (p4 : Int32) (p5 : UInt64) (hI : fm_Inv σ)  : Met l fy_Md_asked (fw_Md_asked :: fb_tbl) ({ frames := 2, cells := 0, slots := 0, locals := 42 } : Room) (fm_Pc D ca am [.ref (am 0), .int p1, .int (fd_bi p2), .int p3, .int p4, .double p5] σ sz) ((fun A => va_Qv (fun u : FMS => fv_Md_asked σ p1 p2 p3 p4 p5 = u ∧ fm_Inv u) (fm_B D ca am A) A) (va_A (fm_w ca am σ) sz)) 0 0 (va_A (fm_w ca am σ) sz) := by
  refine fm_ofW (cc := fb_Md_asked) (maxL := 7) (ret := none) (Qf := fun A => va_Qv (fun u : FMS => fv_Md_asked σ p1 p2 p3 p4 p5 = u ∧ fm_Inv u) (fm_B D ca am A) A) (by decide) (Nat.le_of_ble_eq_true rfl) ?_
  intro p e s m args below meth c A Q hQ hx hb hr hts hown hlocks hml hP hK hD hS hA hN ls hl
  have hown : s.vm.findClass fn_R_Md = some m.cls := hown
  have hl : lv_has ls 7 [(0, .ref (am 0)), (1, .int p1), (2, .int (fd_bi p2)), (3, .int p3), (4, .int p4), (5, .double p5)] := hl
  suffices hgo : ∀ (H : Heap) (locs : List Loc), va_P D fn_cl (fm_w ca am σ) H → va_D A (fm_w ca am σ) → va_S A s.heap H locs → W p l e ({ frames := 2, cells := 0, slots := 0, locals := 42 } : Room) s m args below meth c H locs 0 0 Q (F0 m 0 ls []) from hgo _ _ hP hD hS
  clear hP hD hS
  intro H locs hP hD hS
  refine lv_aload_n hx hb fx_Md_asked_0 rfl (lv_at hl 0 rfl) ?_
  refine lv_iload_n hx hb fx_Md_asked_1 rfl (lv_at hl 1 rfl) ?_
  refine fm_callz (va_runS (As := [.int p1]) (rest := [.ref (am 0)]) ⟨hx, hb, hml, hown, hts⟩ (fc_Md_isUrl l D ca am H.size σ p1 hI ) ⟨callB_of 1 hts (fb_good fm_Md_isUrl) rfl rfl rfl (hts _ (List.mem_cons_of_mem _ fq_6)) (hts _ (List.mem_cons_of_mem _ fq_638)) (by decide +kernel) ⟨Nat.le_of_ble_eq_true rfl, Nat.le_of_ble_eq_true rfl⟩, (hts _ (List.mem_cons_of_mem _ fq_639))⟩ (fm_preS hP hK hD hN) rfl rfl hl.1 rfl (lv_room (Nat.le_of_ble_eq_true rfl)) fx_Md_asked_2 ⟨Nat.le_of_ble_eq_true rfl, Nat.le_of_ble_eq_true rfl⟩) hD hS hA (fun H locs hP hD hS => ?_)
  have hJ2 : ∀ (H : Heap) (locs : List Loc), va_P D fn_cl (fm_w ca am σ) H → va_D A (fm_w ca am σ) → va_S A s.heap H locs → ∀ (v2 : Bool), v2 = (if (fv_Md_isUrl σ p1) = true then if (fv_Md_in σ p3 0 15) = true then if (fv_Md_in σ p4 0 15) = true then if (Op.cmpValue (FP.dcmp p5 FP.dconst0) .l) < 0 then true else if 0 < (Op.cmpValue (FP.dcmp p5 4636737291354636288) .g) then true else false else true else true else true) → W p l e ({ frames := 2, cells := 0, slots := 0, locals := 42 } : Room) s m args below meth c H locs 0 0 Q (F0 m 50 ls [.int (fd_bi v2), .ref (am 0)]) := by
    intro H locs hP hD hS v2 hv2
    refine va_put (D := D) (ci := 5) (v := .int (fd_bi v2)) (ty := .int) (C := fn_R_Md) (T := fn_T_Md) (N := 33) hx hb hts fn_j_Md fn_t_Md fn_k_Md fn_n_Md hown hK hP hD hS 0 rfl rfl 27 (by decide) (hts _ (List.mem_cons_of_mem _ fq_554)) (fun _ h9 => h9) rfl (by decide +kernel) rfl rfl (Nat.le_of_ble_eq_true rfl) fx_Md_asked_50 (fun H locs hP hD hS => ?_)
    rw [fm_set_mI_27] at hP hD
    have hI3 : fm_Inv (fm_smI σ 27 (fd_bi v2)) := fm_inv_smI (by decide) (by decide) hI
    refine lv_aload_n hx hb fx_Md_asked_53 rfl (lv_at hl 0 rfl) ?_
    refine va_get (D := D) (ci := 5) (v := .int (fd_bi v2)) (C := fn_R_Md) (T := fn_T_Md) (N := 33) hx hb hts fn_j_Md hown hK hP 0 rfl rfl 27 (by decide) (hts _ (List.mem_cons_of_mem _ fq_554)) (fun _ h9 => h9) rfl fx_Md_asked_54 ?_
    refine lv_if_le (tgt := 61) hx hb fx_Md_asked_57 (by decide) (fun c4 => ?_) (fun c4 => ?_)
    · refine lv_aload_n hx hb fx_Md_asked_61 rfl (lv_at hl 0 rfl) ?_
      refine va_get (D := D) (ci := 5) (v := .ref (am 12)) (C := fn_R_Md) (T := fn_T_Md) (N := 33) hx hb hts fn_j_Md hown hK hP 0 rfl rfl 11 (by decide) (hts _ (List.mem_cons_of_mem _ fq_538)) (fun _ h9 => h9) rfl fx_Md_asked_62 ?_
      refine lv_iload_n hx hb fx_Md_asked_65 rfl (lv_at hl 1 rfl) ?_
      refine lv_iload_n hx hb fx_Md_asked_66 rfl (lv_at hl 2 rfl) ?_
      have hb5 : vp_in p1 48 := fm_isUrl (fm_first c4 hv2).1
      refine va_zast (D := D) (x := fd_bi p2) hx hb hK hP hD hS 12 11 rfl rfl hb5 fx_Md_asked_67 (fun H locs hP hD hS => ?_)
      rw [fm_set_a_11] at hP hD
      have hI6 : fm_Inv (fm_saZ (fm_smI σ 27 (fd_bi v2)) 11 p1.toNatClampNeg p2) := fm_inv_saZ hI3
      refine lv_aload_n hx hb fx_Md_asked_68 rfl (lv_at hl 0 rfl) ?_
      refine va_get (D := D) (ci := 5) (v := .ref (am 7)) (C := fn_R_Md) (T := fn_T_Md) (N := 33) hx hb hts fn_j_Md hown hK hP 0 rfl rfl 6 (by decide) (hts _ (List.mem_cons_of_mem _ fq_533)) (fun _ h9 => h9) rfl fx_Md_asked_69 ?_
      refine lv_iload_n hx hb fx_Md_asked_72 rfl (lv_at hl 1 rfl) ?_
      refine lv_iload_n hx hb fx_Md_asked_73 rfl (lv_at hl 3 rfl) ?_
      have hb7 : vp_in p1 48 := fm_isUrl (fm_first c4 hv2).1
      refine va_iast (D := D) (x := p3) hx hb hK hP hD hS 7 6 rfl rfl hb7 fx_Md_asked_74 (fun H locs hP hD hS => ?_)
      rw [fm_set_a_6] at hP hD
      have hI8 : fm_Inv (fm_saI (fm_saZ (fm_smI σ 27 (fd_bi v2)) 11 p1.toNatClampNeg p2) 6 p1.toNatClampNeg p3) := fm_inv_saI (by decide) hI6
      refine lv_aload_n hx hb fx_Md_asked_75 rfl (lv_at hl 0 rfl) ?_
      refine va_get (D := D) (ci := 5) (v := .ref (am 8)) (C := fn_R_Md) (T := fn_T_Md) (N := 33) hx hb hts fn_j_Md hown hK hP 0 rfl rfl 7 (by decide) (hts _ (List.mem_cons_of_mem _ fq_534)) (fun _ h9 => h9) rfl fx_Md_asked_76 ?_
      refine lv_iload_n hx hb fx_Md_asked_79 rfl (lv_at hl 1 rfl) ?_
      refine lv_iload hx hb fx_Md_asked_80 (lv_at hl 4 rfl) ?_
      have hb9 : vp_in p1 48 := fm_isUrl (fm_first c4 hv2).1
      refine va_iast (D := D) (x := p4) hx hb hK hP hD hS 8 7 rfl rfl hb9 fx_Md_asked_82 (fun H locs hP hD hS => ?_)
      rw [fm_set_a_7] at hP hD
      have hI10 : fm_Inv (fm_saI (fm_saI (fm_saZ (fm_smI σ 27 (fd_bi v2)) 11 p1.toNatClampNeg p2) 6 p1.toNatClampNeg p3) 7 p1.toNatClampNeg p4) := fm_inv_saI (by decide) hI8
      refine lv_aload_n hx hb fx_Md_asked_83 rfl (lv_at hl 0 rfl) ?_
      refine va_get (D := D) (ci := 5) (v := .ref (am 14)) (C := fn_R_Md) (T := fn_T_Md) (N := 33) hx hb hts fn_j_Md hown hK hP 0 rfl rfl 13 (by decide) (hts _ (List.mem_cons_of_mem _ fq_540)) (fun _ h9 => h9) rfl fx_Md_asked_84 ?_
      refine lv_iload_n hx hb fx_Md_asked_87 rfl (lv_at hl 1 rfl) ?_
      refine lv_dload hx hb fx_Md_asked_88 (lv_at hl 5 rfl) ?_
      have hb11 : vp_in p1 48 := fm_isUrl (fm_first c4 hv2).1
      refine va_dast (D := D) (x := p5) hx hb hK hP hD hS 14 13 rfl rfl hb11 fx_Md_asked_90 (fun H locs hP hD hS => ?_)
      rw [fm_set_a_13] at hP hD
      have hI12 : fm_Inv (fm_saD (fm_saI (fm_saI (fm_saZ (fm_smI σ 27 (fd_bi v2)) 11 p1.toNatClampNeg p2) 6 p1.toNatClampNeg p3) 7 p1.toNatClampNeg p4) 13 p1.toNatClampNeg p5) := fm_inv_age (fm_agef c4 (fm_first c4 (fm_first c4 (fm_first c4 hv2).2).2).2) hI10
      exact fm_vret (u := fm_saD (fm_saI (fm_saI (fm_saZ (fm_smI σ 27 (fd_bi v2)) 11 p1.toNatClampNeg p2) 6 p1.toNatClampNeg p3) 7 p1.toNatClampNeg p4) 13 p1.toNatClampNeg p5) hQ hx hb hr ⟨by rw [fv_Md_asked, ← hv2, fv_Md_asked_j2, if_pos c4], hI12⟩ hP hD hS fx_Md_asked_91 hlocks
    · exact fm_vret (u := fm_smI σ 27 (fd_bi v2)) hQ hx hb hr ⟨by rw [fv_Md_asked, ← hv2, fv_Md_asked_j2, if_neg c4], hI3⟩ hP hD hS fx_Md_asked_60 hlocks
  refine fd_ifeq (tgt := 49) hx hb fx_Md_asked_5 (by decide) (fun c13 => ?_) (fun c13 => ?_)
  · refine lv_iconst (v := 1) hx hb fx_Md_asked_49 (by decide) ?_
    exact hJ2 H locs hP hD hS true (by rw [if_neg c13])
  · refine lv_iload_n hx hb fx_Md_asked_8 rfl (lv_at hl 3 rfl) ?_
    refine lv_iconst (v := 0) hx hb fx_Md_asked_9 (by decide) ?_
    refine lv_bipush (v := 15) hx hb fx_Md_asked_10 (by decide) ?_
    refine fm_callz (va_runS (As := [.int p3, .int 0, .int 15]) (rest := [.ref (am 0)]) ⟨hx, hb, hml, hown, hts⟩ (fc_Md_in l D ca am H.size σ p3 0 15 hI ) ⟨callB_of 3 hts (fb_good fm_Md_in) rfl rfl rfl (hts _ (List.mem_cons_of_mem _ fq_6)) (hts _ (List.mem_cons_of_mem _ fq_641)) (by decide +kernel) ⟨Nat.le_of_ble_eq_true rfl, Nat.le_of_ble_eq_true rfl⟩, (hts _ (List.mem_cons_of_mem _ fq_642))⟩ (fm_preS hP hK hD hN) rfl rfl hl.1 rfl (lv_room (Nat.le_of_ble_eq_true rfl)) fx_Md_asked_12 ⟨Nat.le_of_ble_eq_true rfl, Nat.le_of_ble_eq_true rfl⟩) hD hS hA (fun H locs hP hD hS => ?_)
    refine fd_ifeq (tgt := 49) hx hb fx_Md_asked_15 (by decide) (fun c15 => ?_) (fun c15 => ?_)
    · refine lv_iconst (v := 1) hx hb fx_Md_asked_49 (by decide) ?_
      exact hJ2 H locs hP hD hS true (by rw [if_pos c13, if_neg c15])
    · refine lv_iload hx hb fx_Md_asked_18 (lv_at hl 4 rfl) ?_
      refine lv_iconst (v := 0) hx hb fx_Md_asked_20 (by decide) ?_
      refine lv_bipush (v := 15) hx hb fx_Md_asked_21 (by decide) ?_
      refine fm_callz (va_runS (As := [.int p4, .int 0, .int 15]) (rest := [.ref (am 0)]) ⟨hx, hb, hml, hown, hts⟩ (fc_Md_in l D ca am H.size σ p4 0 15 hI ) ⟨callB_of 3 hts (fb_good fm_Md_in) rfl rfl rfl (hts _ (List.mem_cons_of_mem _ fq_6)) (hts _ (List.mem_cons_of_mem _ fq_641)) (by decide +kernel) ⟨Nat.le_of_ble_eq_true rfl, Nat.le_of_ble_eq_true rfl⟩, (hts _ (List.mem_cons_of_mem _ fq_642))⟩ (fm_preS hP hK hD hN) rfl rfl hl.1 rfl (lv_room (Nat.le_of_ble_eq_true rfl)) fx_Md_asked_23 ⟨Nat.le_of_ble_eq_true rfl, Nat.le_of_ble_eq_true rfl⟩) hD hS hA (fun H locs hP hD hS => ?_)
      refine fd_ifeq (tgt := 49) hx hb fx_Md_asked_26 (by decide) (fun c17 => ?_) (fun c17 => ?_)
      · refine lv_iconst (v := 1) hx hb fx_Md_asked_49 (by decide) ?_
        exact hJ2 H locs hP hD hS true (by rw [if_pos c13, if_pos c15, if_neg c17])
      · refine lv_dload hx hb fx_Md_asked_29 (lv_at hl 5 rfl) ?_
        refine lv_dconst0 hx hb fx_Md_asked_31 ?_
        refine lv_dcmp hx hb fx_Md_asked_32 ?_
        refine lv_if_lt (tgt := 49) hx hb fx_Md_asked_33 (by decide) (fun c18 => ?_) (fun c18 => ?_)
        · refine lv_iconst (v := 1) hx hb fx_Md_asked_49 (by decide) ?_
          exact hJ2 H locs hP hD hS true (by rw [if_pos c13, if_pos c15, if_pos c17, if_pos c18])
        · refine lv_dload hx hb fx_Md_asked_36 (lv_at hl 5 rfl) ?_
          refine lv_ldc2d (v := 4636737291354636288) hx hb hown (hts _ (List.mem_cons_of_mem _ fq_660)) fx_Md_asked_38 ?_
          refine lv_dcmp hx hb fx_Md_asked_41 ?_
          refine lv_if_gt (tgt := 49) hx hb fx_Md_asked_42 (by decide) (fun c19 => ?_) (fun c19 => ?_)
          · refine lv_iconst (v := 1) hx hb fx_Md_asked_49 (by decide) ?_
            exact hJ2 H locs hP hD hS true (by rw [if_pos c13, if_pos c15, if_pos c17, if_neg c18, if_pos c19])
          · refine lv_iconst (v := 0) hx hb fx_Md_asked_45 (by decide) ?_
            refine lv_goto (tgt := 50) hx hb fx_Md_asked_46 (by decide) ?_
            exact hJ2 H locs hP hD hS false (by rw [if_pos c13, if_pos c15, if_pos c17, if_neg c18, if_neg c19])
def fv_Md_tick_j1 (σ : FMS) (p1 : UInt64) (v1 : Bool) : UInt64 × FMS := if (fd_bi v1) ≤ 0 then (FP.dadd (fm_mT σ) p1, fm_smT (fm_smI σ 27 (fd_bi v1)) (FP.dadd (fm_mT σ) p1)) else (FP.dconst0, fm_smI σ 27 (fd_bi v1))
def fv_Md_tick (σ : FMS) (p1 : UInt64) : UInt64 × FMS := fv_Md_tick_j1 σ p1 (if (Op.cmpValue (FP.dcmp p1 FP.dconst0) .l) ≤ 0 then true else if 0 < (Op.cmpValue (FP.dcmp p1 4652007308841189376) .g) then true else false)
set_option maxHeartbeats 4000000 in
set_option maxRecDepth 100000 in
theorem fc_Md_tick (l : Launch) (D : va_G) (ca : Nat → ClassId) (am : Nat → Nat) (sz : Nat) (σ : FMS) (p1 : UInt64) (hI : fm_Inv σ)  : Met l fy_Md_tick (fw_Md_tick :: fb_tbl) ({ frames := 0, cells := 0, slots := 0, locals := 0 } : Room) (fm_Pc D ca am [.ref (am 0), .double p1] σ sz) ((fun A => va_Qd (fun (r : UInt64) (u : FMS) => fv_Md_tick σ p1 = (r, u) ∧ fm_Inv u) (fm_B D ca am A) A) (va_A (fm_w ca am σ) sz)) 0 0 (va_A (fm_w ca am σ) sz) := by
  refine fm_ofW (cc := fb_Md_tick) (maxL := 3) (ret := (some .double)) (Qf := fun A => va_Qd (fun (r : UInt64) (u : FMS) => fv_Md_tick σ p1 = (r, u) ∧ fm_Inv u) (fm_B D ca am A) A) (by decide) (Nat.le_of_ble_eq_true rfl) ?_
  intro p e s m args below meth c A Q hQ hx hb hr hts hown hlocks hml hP hK hD hS hA hN ls hl
  have hown : s.vm.findClass fn_R_Md = some m.cls := hown
  have hl : lv_has ls 3 [(0, .ref (am 0)), (1, .double p1)] := hl
  suffices hgo : ∀ (H : Heap) (locs : List Loc), va_P D fn_cl (fm_w ca am σ) H → va_D A (fm_w ca am σ) → va_S A s.heap H locs → W p l e ({ frames := 0, cells := 0, slots := 0, locals := 0 } : Room) s m args below meth c H locs 0 0 Q (F0 m 0 ls []) from hgo _ _ hP hD hS
  clear hP hD hS
  intro H locs hP hD hS
  refine lv_aload_n hx hb fx_Md_tick_0 rfl (lv_at hl 0 rfl) ?_
  refine lv_dload_n hx hb fx_Md_tick_1 rfl (lv_at hl 1 rfl) ?_
  refine lv_dconst0 hx hb fx_Md_tick_2 ?_
  refine lv_dcmp hx hb fx_Md_tick_3 ?_
  have hJ1 : ∀ (H : Heap) (locs : List Loc), va_P D fn_cl (fm_w ca am σ) H → va_D A (fm_w ca am σ) → va_S A s.heap H locs → ∀ (v1 : Bool), v1 = (if (Op.cmpValue (FP.dcmp p1 FP.dconst0) .l) ≤ 0 then true else if 0 < (Op.cmpValue (FP.dcmp p1 4652007308841189376) .g) then true else false) → W p l e ({ frames := 0, cells := 0, slots := 0, locals := 0 } : Room) s m args below meth c H locs 0 0 Q (F0 m 20 ls [.int (fd_bi v1), .ref (am 0)]) := by
    intro H locs hP hD hS v1 hv1
    refine va_put (D := D) (ci := 5) (v := .int (fd_bi v1)) (ty := .int) (C := fn_R_Md) (T := fn_T_Md) (N := 33) hx hb hts fn_j_Md fn_t_Md fn_k_Md fn_n_Md hown hK hP hD hS 0 rfl rfl 27 (by decide) (hts _ (List.mem_cons_of_mem _ fq_554)) (fun _ h9 => h9) rfl (by decide +kernel) rfl rfl (Nat.le_of_ble_eq_true rfl) fx_Md_tick_20 (fun H locs hP hD hS => ?_)
    rw [fm_set_mI_27] at hP hD
    have hI2 : fm_Inv (fm_smI σ 27 (fd_bi v1)) := fm_inv_smI (by decide) (by decide) hI
    refine lv_aload_n hx hb fx_Md_tick_23 rfl (lv_at hl 0 rfl) ?_
    refine va_get (D := D) (ci := 5) (v := .int (fd_bi v1)) (C := fn_R_Md) (T := fn_T_Md) (N := 33) hx hb hts fn_j_Md hown hK hP 0 rfl rfl 27 (by decide) (hts _ (List.mem_cons_of_mem _ fq_554)) (fun _ h9 => h9) rfl fx_Md_tick_24 ?_
    refine lv_if_le (tgt := 32) hx hb fx_Md_tick_27 (by decide) (fun c3 => ?_) (fun c3 => ?_)
    · refine lv_aload_n hx hb fx_Md_tick_32 rfl (lv_at hl 0 rfl) ?_
      refine lv_aload_n hx hb fx_Md_tick_33 rfl (lv_at hl 0 rfl) ?_
      refine va_get (D := D) (ci := 5) (v := .double (fm_mT σ)) (C := fn_R_Md) (T := fn_T_Md) (N := 33) hx hb hts fn_j_Md hown hK hP 0 rfl rfl 20 (by decide) (hts _ (List.mem_cons_of_mem _ fq_547)) (fun _ h9 => h9) rfl fx_Md_tick_34 ?_
      refine lv_dload_n hx hb fx_Md_tick_37 rfl (lv_at hl 1 rfl) ?_
      refine lv_dadd hx hb fx_Md_tick_38 (fd_n64 (fm_tickn hI c3 hv1)) ?_
      refine va_put (D := D) (ci := 5) (v := .double (FP.dadd (fm_mT σ) p1)) (ty := .double) (C := fn_R_Md) (T := fn_T_Md) (N := 33) hx hb hts fn_j_Md fn_t_Md fn_k_Md fn_n_Md hown hK hP hD hS 0 rfl rfl 20 (by decide) (hts _ (List.mem_cons_of_mem _ fq_547)) (fun _ h9 => h9) rfl (by decide +kernel) rfl rfl (Nat.le_of_ble_eq_true rfl) fx_Md_tick_39 (fun H locs hP hD hS => ?_)
      rw [fm_set_mT] at hP hD
      have hI4 : fm_Inv (fm_smT (fm_smI σ 27 (fd_bi v1)) (FP.dadd (fm_mT σ) p1)) := fm_inv_smT (fm_tickn hI c3 hv1) hI2
      refine lv_aload_n hx hb fx_Md_tick_42 rfl (lv_at hl 0 rfl) ?_
      refine va_get (D := D) (ci := 5) (v := .double (FP.dadd (fm_mT σ) p1)) (C := fn_R_Md) (T := fn_T_Md) (N := 33) hx hb hts fn_j_Md hown hK hP 0 rfl rfl 20 (by decide) (hts _ (List.mem_cons_of_mem _ fq_547)) (fun _ h9 => h9) rfl fx_Md_tick_43 ?_
      exact fm_dret (r := FP.dadd (fm_mT σ) p1) (u := fm_smT (fm_smI σ 27 (fd_bi v1)) (FP.dadd (fm_mT σ) p1)) hQ hx hb hr ⟨by rw [fv_Md_tick, ← hv1, fv_Md_tick_j1, if_pos c3], hI4⟩ hP hD hS fx_Md_tick_46 hlocks
    · refine lv_dconst0 hx hb fx_Md_tick_30 ?_
      exact fm_dret (r := FP.dconst0) (u := fm_smI σ 27 (fd_bi v1)) hQ hx hb hr ⟨by rw [fv_Md_tick, ← hv1, fv_Md_tick_j1, if_neg c3], hI2⟩ hP hD hS fx_Md_tick_31 hlocks
  refine lv_if_le (tgt := 19) hx hb fx_Md_tick_4 (by decide) (fun c5 => ?_) (fun c5 => ?_)
  · refine lv_iconst (v := 1) hx hb fx_Md_tick_19 (by decide) ?_
    exact hJ1 H locs hP hD hS true (by rw [if_pos c5])
  · refine lv_dload_n hx hb fx_Md_tick_7 rfl (lv_at hl 1 rfl) ?_
    refine lv_ldc2d (v := 4652007308841189376) hx hb hown (hts _ (List.mem_cons_of_mem _ fq_665)) fx_Md_tick_8 ?_
    refine lv_dcmp hx hb fx_Md_tick_11 ?_
    refine lv_if_gt (tgt := 19) hx hb fx_Md_tick_12 (by decide) (fun c6 => ?_) (fun c6 => ?_)
    · refine lv_iconst (v := 1) hx hb fx_Md_tick_19 (by decide) ?_
      exact hJ1 H locs hP hD hS true (by rw [if_neg c5, if_pos c6])
    · refine lv_iconst (v := 0) hx hb fx_Md_tick_15 (by decide) ?_
      refine lv_goto (tgt := 20) hx hb fx_Md_tick_16 (by decide) ?_
      exact hJ1 H locs hP hD hS false (by rw [if_neg c5, if_neg c6])
def fv_Md_told (σ : FMS) (p1 : Int32) : Int32 × FMS := if (fv_Md_in σ p1 0 9) = true then (fm_aI σ 19 p1.toNatClampNeg, fm_smI σ 27 0) else ((fv_Md_fail σ 1).1, (fv_Md_fail σ 1).2)
set_option maxHeartbeats 4000000 in
set_option maxRecDepth 100000 in
theorem fc_Md_told (l : Launch) (D : va_G) (ca : Nat → ClassId) (am : Nat → Nat) (sz : Nat) (σ : FMS) (p1 : Int32) (hI : fm_Inv σ)  : Met l fy_Md_told (fw_Md_told :: fb_tbl) ({ frames := 1, cells := 0, slots := 0, locals := 22 } : Room) (fm_Pc D ca am [.ref (am 0), .int p1] σ sz) ((fun A => va_Qi (fun (r : Int32) (u : FMS) => fv_Md_told σ p1 = (r, u) ∧ fm_Inv u) (fm_B D ca am A) A) (va_A (fm_w ca am σ) sz)) 0 0 (va_A (fm_w ca am σ) sz) := by
  refine fm_ofW (cc := fb_Md_told) (maxL := 2) (ret := (some .int)) (Qf := fun A => va_Qi (fun (r : Int32) (u : FMS) => fv_Md_told σ p1 = (r, u) ∧ fm_Inv u) (fm_B D ca am A) A) (by decide) (Nat.le_of_ble_eq_true rfl) ?_
  intro p e s m args below meth c A Q hQ hx hb hr hts hown hlocks hml hP hK hD hS hA hN ls hl
  have hown : s.vm.findClass fn_R_Md = some m.cls := hown
  have hl : lv_has ls 2 [(0, .ref (am 0)), (1, .int p1)] := hl
  suffices hgo : ∀ (H : Heap) (locs : List Loc), va_P D fn_cl (fm_w ca am σ) H → va_D A (fm_w ca am σ) → va_S A s.heap H locs → W p l e ({ frames := 1, cells := 0, slots := 0, locals := 22 } : Room) s m args below meth c H locs 0 0 Q (F0 m 0 ls []) from hgo _ _ hP hD hS
  clear hP hD hS
  intro H locs hP hD hS
  refine lv_iload_n hx hb fx_Md_told_0 rfl (lv_at hl 1 rfl) ?_
  refine lv_iconst (v := 0) hx hb fx_Md_told_1 (by decide) ?_
  refine lv_bipush (v := 9) hx hb fx_Md_told_2 (by decide) ?_
  refine fm_callz (va_runS (As := [.int p1, .int 0, .int 9]) (rest := []) ⟨hx, hb, hml, hown, hts⟩ (fc_Md_in l D ca am H.size σ p1 0 9 hI ) ⟨callB_of 3 hts (fb_good fm_Md_in) rfl rfl rfl (hts _ (List.mem_cons_of_mem _ fq_6)) (hts _ (List.mem_cons_of_mem _ fq_641)) (by decide +kernel) ⟨Nat.le_of_ble_eq_true rfl, Nat.le_of_ble_eq_true rfl⟩, (hts _ (List.mem_cons_of_mem _ fq_642))⟩ (fm_preS hP hK hD hN) rfl rfl hl.1 rfl (lv_room (Nat.le_of_ble_eq_true rfl)) fx_Md_told_4 ⟨Nat.le_of_ble_eq_true rfl, Nat.le_of_ble_eq_true rfl⟩) hD hS hA (fun H locs hP hD hS => ?_)
  refine fd_ifne (tgt := 16) hx hb fx_Md_told_7 (by decide) (fun c2 => ?_) (fun c2 => ?_)
  · refine lv_aload_n hx hb fx_Md_told_16 rfl (lv_at hl 0 rfl) ?_
    refine lv_iconst (v := 0) hx hb fx_Md_told_17 (by decide) ?_
    refine va_put (D := D) (ci := 5) (v := .int 0) (ty := .int) (C := fn_R_Md) (T := fn_T_Md) (N := 33) hx hb hts fn_j_Md fn_t_Md fn_k_Md fn_n_Md hown hK hP hD hS 0 rfl rfl 27 (by decide) (hts _ (List.mem_cons_of_mem _ fq_554)) (fun _ h9 => h9) rfl (by decide +kernel) rfl rfl (Nat.le_of_ble_eq_true rfl) fx_Md_told_18 (fun H locs hP hD hS => ?_)
    rw [fm_set_mI_27] at hP hD
    have hI3 : fm_Inv (fm_smI σ 27 0) := fm_inv_smI (by decide) (by decide) hI
    refine lv_aload_n hx hb fx_Md_told_21 rfl (lv_at hl 0 rfl) ?_
    refine va_get (D := D) (ci := 5) (v := .ref (am 20)) (C := fn_R_Md) (T := fn_T_Md) (N := 33) hx hb hts fn_j_Md hown hK hP 0 rfl rfl 19 (by decide) (hts _ (List.mem_cons_of_mem _ fq_546)) (fun _ h9 => h9) rfl fx_Md_told_22 ?_
    refine lv_iload_n hx hb fx_Md_told_25 rfl (lv_at hl 1 rfl) ?_
    have hb4 : vp_in p1 10 := fm_in10 c2
    refine va_iald (D := D) hx hb hK hP 20 19 rfl rfl hb4 fx_Md_told_26 ?_
    refine W.eq (g2 := F0 m 27 ls (.int (fm_aI σ 19 p1.toNatClampNeg) :: [])) rfl ?_
    exact fm_iret (r := fm_aI σ 19 p1.toNatClampNeg) (u := fm_smI σ 27 0) hQ hx hb hr ⟨by rw [fv_Md_told, if_pos c2], hI3⟩ hP hD hS fx_Md_told_27 hlocks
  · refine lv_aload_n hx hb fx_Md_told_10 rfl (lv_at hl 0 rfl) ?_
    refine lv_iconst (v := 1) hx hb fx_Md_told_11 (by decide) ?_
    refine fm_callim (va_runV (As := [.int 1]) (rest := []) ⟨hx, hb, hml, hown, hts⟩ (fc_Md_fail l D ca am H.size σ 1 hI ) ⟨callB_of 1 hts (fb_good fm_Md_fail) rfl rfl rfl (hts _ (List.mem_cons_of_mem _ fq_6)) (hts _ (List.mem_cons_of_mem _ fq_652)) (by decide +kernel) ⟨Nat.le_of_ble_eq_true rfl, Nat.le_of_ble_eq_true rfl⟩, (hts _ (List.mem_cons_of_mem _ fq_654)), (hts _ (List.mem_cons_of_mem _ fp_Md_fail))⟩ (fm_preV hP hK hD hN (va_recv hK hP (ci := 5) (q0 := 0) rfl rfl)) rfl rfl hl.1 rfl (lv_room (Nat.le_of_ble_eq_true rfl)) fx_Md_told_12 ⟨Nat.le_of_ble_eq_true rfl, Nat.le_of_ble_eq_true rfl⟩) hD hS hA (fun H locs hP hD hS hI5 => ?_)
    exact fm_iret (r := (fv_Md_fail σ 1).1) (u := (fv_Md_fail σ 1).2) hQ hx hb hr ⟨by rw [fv_Md_told, if_neg c2], hI5⟩ hP hD hS fx_Md_told_15 hlocks
def fv_Md_kept_j12 (σ : FMS) (p1 : Int32) (p2 : Int32) (v12 : Bool) : Int32 × FMS := (fd_bi v12, fm_smI σ 27 0)
def fv_Md_kept_j19 (σ : FMS) (p1 : Int32) (p2 : Int32) (v19 : Bool) : Int32 × FMS := (fd_bi v19, fm_smI σ 27 0)
def fv_Md_kept (σ : FMS) (p1 : Int32) (p2 : Int32) : Int32 × FMS := if (fv_Md_in σ p2 0 5) = true then if (fv_Md_in σ p1 0 ((fm_mI σ 21) - 1)) = true then if p2 = 0 then (fm_aI σ 15 p1.toNatClampNeg, fm_smI σ 27 0) else if p2 = 1 then (fm_aI σ 16 p1.toNatClampNeg, fm_smI σ 27 0) else if p2 = 2 then fv_Md_kept_j12 σ p1 p2 (if (fm_aZ σ 12 p1.toNatClampNeg) = true then true else false) else if p2 = 3 then (fm_aI σ 17 p1.toNatClampNeg, fm_smI σ 27 0) else if p2 = 4 then (fm_aI σ 18 p1.toNatClampNeg, fm_smI σ 27 0) else fv_Md_kept_j19 σ p1 p2 (if 0 ≤ (Op.cmpValue (FP.dcmp (fm_mT σ) (fm_aD σ 14 p1.toNatClampNeg)) .g) then false else true) else ((fv_Md_fail σ 2).1, (fv_Md_fail σ 2).2) else ((fv_Md_fail σ 1).1, (fv_Md_fail σ 1).2)
set_option maxHeartbeats 4000000 in
set_option maxRecDepth 100000 in
theorem fc_Md_kept (l : Launch) (D : va_G) (ca : Nat → ClassId) (am : Nat → Nat) (sz : Nat) (σ : FMS) (p1 : Int32) (p2 : Int32) (hI : fm_Inv σ)  : Met l fy_Md_kept (fw_Md_kept :: fb_tbl) ({ frames := 1, cells := 0, slots := 0, locals := 22 } : Room) (fm_Pc D ca am [.ref (am 0), .int p1, .int p2] σ sz) ((fun A => va_Qi (fun (r : Int32) (u : FMS) => fv_Md_kept σ p1 p2 = (r, u) ∧ fm_Inv u) (fm_B D ca am A) A) (va_A (fm_w ca am σ) sz)) 0 0 (va_A (fm_w ca am σ) sz) := by
  refine fm_ofW (cc := fb_Md_kept) (maxL := 3) (ret := (some .int)) (Qf := fun A => va_Qi (fun (r : Int32) (u : FMS) => fv_Md_kept σ p1 p2 = (r, u) ∧ fm_Inv u) (fm_B D ca am A) A) (by decide) (Nat.le_of_ble_eq_true rfl) ?_
  intro p e s m args below meth c A Q hQ hx hb hr hts hown hlocks hml hP hK hD hS hA hN ls hl
  have hown : s.vm.findClass fn_R_Md = some m.cls := hown
  have hl : lv_has ls 3 [(0, .ref (am 0)), (1, .int p1), (2, .int p2)] := hl
  suffices hgo : ∀ (H : Heap) (locs : List Loc), va_P D fn_cl (fm_w ca am σ) H → va_D A (fm_w ca am σ) → va_S A s.heap H locs → W p l e ({ frames := 1, cells := 0, slots := 0, locals := 22 } : Room) s m args below meth c H locs 0 0 Q (F0 m 0 ls []) from hgo _ _ hP hD hS
  clear hP hD hS
  intro H locs hP hD hS
  refine lv_iload_n hx hb fx_Md_kept_0 rfl (lv_at hl 2 rfl) ?_
  refine lv_iconst (v := 0) hx hb fx_Md_kept_1 (by decide) ?_
  refine lv_iconst (v := 5) hx hb fx_Md_kept_2 (by decide) ?_
  refine fm_callz (va_runS (As := [.int p2, .int 0, .int 5]) (rest := []) ⟨hx, hb, hml, hown, hts⟩ (fc_Md_in l D ca am H.size σ p2 0 5 hI ) ⟨callB_of 3 hts (fb_good fm_Md_in) rfl rfl rfl (hts _ (List.mem_cons_of_mem _ fq_6)) (hts _ (List.mem_cons_of_mem _ fq_641)) (by decide +kernel) ⟨Nat.le_of_ble_eq_true rfl, Nat.le_of_ble_eq_true rfl⟩, (hts _ (List.mem_cons_of_mem _ fq_642))⟩ (fm_preS hP hK hD hN) rfl rfl hl.1 rfl (lv_room (Nat.le_of_ble_eq_true rfl)) fx_Md_kept_3 ⟨Nat.le_of_ble_eq_true rfl, Nat.le_of_ble_eq_true rfl⟩) hD hS hA (fun H locs hP hD hS => ?_)
  refine fd_ifne (tgt := 15) hx hb fx_Md_kept_6 (by decide) (fun c2 => ?_) (fun c2 => ?_)
  · refine lv_iload_n hx hb fx_Md_kept_15 rfl (lv_at hl 1 rfl) ?_
    refine lv_iconst (v := 0) hx hb fx_Md_kept_16 (by decide) ?_
    refine lv_aload_n hx hb fx_Md_kept_17 rfl (lv_at hl 0 rfl) ?_
    refine va_get (D := D) (ci := 5) (v := .int (fm_mI σ 21)) (C := fn_R_Md) (T := fn_T_Md) (N := 33) hx hb hts fn_j_Md hown hK hP 0 rfl rfl 21 (by decide) (hts _ (List.mem_cons_of_mem _ fq_548)) (fun _ h9 => h9) rfl fx_Md_kept_18 ?_
    refine lv_iconst (v := 1) hx hb fx_Md_kept_21 (by decide) ?_
    refine lv_isub hx hb fx_Md_kept_22 ?_
    refine fm_callz (va_runS (As := [.int p1, .int 0, .int ((fm_mI σ 21) - 1)]) (rest := []) ⟨hx, hb, hml, hown, hts⟩ (fc_Md_in l D ca am H.size σ p1 0 ((fm_mI σ 21) - 1) hI ) ⟨callB_of 3 hts (fb_good fm_Md_in) rfl rfl rfl (hts _ (List.mem_cons_of_mem _ fq_6)) (hts _ (List.mem_cons_of_mem _ fq_641)) (by decide +kernel) ⟨Nat.le_of_ble_eq_true rfl, Nat.le_of_ble_eq_true rfl⟩, (hts _ (List.mem_cons_of_mem _ fq_642))⟩ (fm_preS hP hK hD hN) rfl rfl hl.1 rfl (lv_room (Nat.le_of_ble_eq_true rfl)) fx_Md_kept_23 ⟨Nat.le_of_ble_eq_true rfl, Nat.le_of_ble_eq_true rfl⟩) hD hS hA (fun H locs hP hD hS => ?_)
    refine fd_ifne (tgt := 35) hx hb fx_Md_kept_26 (by decide) (fun c4 => ?_) (fun c4 => ?_)
    · refine lv_aload_n hx hb fx_Md_kept_35 rfl (lv_at hl 0 rfl) ?_
      refine lv_iconst (v := 0) hx hb fx_Md_kept_36 (by decide) ?_
      refine va_put (D := D) (ci := 5) (v := .int 0) (ty := .int) (C := fn_R_Md) (T := fn_T_Md) (N := 33) hx hb hts fn_j_Md fn_t_Md fn_k_Md fn_n_Md hown hK hP hD hS 0 rfl rfl 27 (by decide) (hts _ (List.mem_cons_of_mem _ fq_554)) (fun _ h9 => h9) rfl (by decide +kernel) rfl rfl (Nat.le_of_ble_eq_true rfl) fx_Md_kept_37 (fun H locs hP hD hS => ?_)
      rw [fm_set_mI_27] at hP hD
      have hI5 : fm_Inv (fm_smI σ 27 0) := fm_inv_smI (by decide) (by decide) hI
      refine lv_iload_n hx hb fx_Md_kept_40 rfl (lv_at hl 2 rfl) ?_
      by_cases c6 : p2 = 0
      · refine lv_tableIn (tgt := 76) hx hb fx_Md_kept_41 (by rw [c6]; decide) (by rw [c6]; decide) (by rw [c6]; rfl) (by decide) ?_
        refine lv_aload_n hx hb fx_Md_kept_76 rfl (lv_at hl 0 rfl) ?_
        refine va_get (D := D) (ci := 5) (v := .ref (am 16)) (C := fn_R_Md) (T := fn_T_Md) (N := 33) hx hb hts fn_j_Md hown hK hP 0 rfl rfl 15 (by decide) (hts _ (List.mem_cons_of_mem _ fq_542)) (fun _ h9 => h9) rfl fx_Md_kept_77 ?_
        refine lv_iload_n hx hb fx_Md_kept_80 rfl (lv_at hl 1 rfl) ?_
        have hb7 : vp_in p1 7 := fm_ink hI c4
        refine va_iald (D := D) hx hb hK hP 16 15 rfl rfl hb7 fx_Md_kept_81 ?_
        refine W.eq (g2 := F0 m 82 ls (.int (fm_aI σ 15 p1.toNatClampNeg) :: [])) rfl ?_
        exact fm_iret (r := fm_aI σ 15 p1.toNatClampNeg) (u := fm_smI σ 27 0) hQ hx hb hr ⟨by rw [fv_Md_kept, if_pos c2, if_pos c4, if_pos c6], hI5⟩ hP hD hS fx_Md_kept_82 hlocks
      · by_cases c8 : p2 = 1
        · refine lv_tableIn (tgt := 83) hx hb fx_Md_kept_41 (by rw [c8]; decide) (by rw [c8]; decide) (by rw [c8]; rfl) (by decide) ?_
          refine lv_aload_n hx hb fx_Md_kept_83 rfl (lv_at hl 0 rfl) ?_
          refine va_get (D := D) (ci := 5) (v := .ref (am 17)) (C := fn_R_Md) (T := fn_T_Md) (N := 33) hx hb hts fn_j_Md hown hK hP 0 rfl rfl 16 (by decide) (hts _ (List.mem_cons_of_mem _ fq_543)) (fun _ h9 => h9) rfl fx_Md_kept_84 ?_
          refine lv_iload_n hx hb fx_Md_kept_87 rfl (lv_at hl 1 rfl) ?_
          have hb9 : vp_in p1 7 := fm_ink hI c4
          refine va_iald (D := D) hx hb hK hP 17 16 rfl rfl hb9 fx_Md_kept_88 ?_
          refine W.eq (g2 := F0 m 89 ls (.int (fm_aI σ 16 p1.toNatClampNeg) :: [])) rfl ?_
          exact fm_iret (r := fm_aI σ 16 p1.toNatClampNeg) (u := fm_smI σ 27 0) hQ hx hb hr ⟨by rw [fv_Md_kept, if_pos c2, if_pos c4, if_neg c6, if_pos c8], hI5⟩ hP hD hS fx_Md_kept_89 hlocks
        · by_cases c10 : p2 = 2
          · refine lv_tableIn (tgt := 90) hx hb fx_Md_kept_41 (by rw [c10]; decide) (by rw [c10]; decide) (by rw [c10]; rfl) (by decide) ?_
            refine lv_aload_n hx hb fx_Md_kept_90 rfl (lv_at hl 0 rfl) ?_
            refine va_get (D := D) (ci := 5) (v := .ref (am 13)) (C := fn_R_Md) (T := fn_T_Md) (N := 33) hx hb hts fn_j_Md hown hK hP 0 rfl rfl 12 (by decide) (hts _ (List.mem_cons_of_mem _ fq_539)) (fun _ h9 => h9) rfl fx_Md_kept_91 ?_
            refine lv_iload_n hx hb fx_Md_kept_94 rfl (lv_at hl 1 rfl) ?_
            have hb11 : vp_in p1 7 := fm_ink hI c4
            refine va_zald (D := D) hx hb hK hP 13 12 rfl rfl hb11 fx_Md_kept_95 ?_
            refine W.eq (g2 := F0 m 96 ls (.int (fd_bi (fm_aZ σ 12 p1.toNatClampNeg)) :: [])) rfl ?_
            have hJ12 : ∀ (H : Heap) (locs : List Loc), va_P D fn_cl (fm_w ca am (fm_smI σ 27 0)) H → va_D A (fm_w ca am (fm_smI σ 27 0)) → va_S A s.heap H locs → ∀ (v12 : Bool), v12 = (if (fm_aZ σ 12 p1.toNatClampNeg) = true then true else false) → W p l e ({ frames := 1, cells := 0, slots := 0, locals := 22 } : Room) s m args below meth c H locs 0 0 Q (F0 m 104 ls [.int (fd_bi v12)]) := by
              intro H locs hP hD hS v12 hv12
              exact fm_iret (r := fd_bi v12) (u := fm_smI σ 27 0) hQ hx hb hr ⟨by rw [fv_Md_kept, if_pos c2, if_pos c4, if_neg c6, if_neg c8, if_pos c10, ← hv12, fv_Md_kept_j12], hI5⟩ hP hD hS fx_Md_kept_104 hlocks
            refine fd_ifeq (tgt := 103) hx hb fx_Md_kept_96 (by decide) (fun c13 => ?_) (fun c13 => ?_)
            · refine lv_iconst (v := 0) hx hb fx_Md_kept_103 (by decide) ?_
              exact hJ12 H locs hP hD hS false (by rw [if_neg c13])
            · refine lv_iconst (v := 1) hx hb fx_Md_kept_99 (by decide) ?_
              refine lv_goto (tgt := 104) hx hb fx_Md_kept_100 (by decide) ?_
              exact hJ12 H locs hP hD hS true (by rw [if_pos c13])
          · by_cases c14 : p2 = 3
            · refine lv_tableIn (tgt := 105) hx hb fx_Md_kept_41 (by rw [c14]; decide) (by rw [c14]; decide) (by rw [c14]; rfl) (by decide) ?_
              refine lv_aload_n hx hb fx_Md_kept_105 rfl (lv_at hl 0 rfl) ?_
              refine va_get (D := D) (ci := 5) (v := .ref (am 18)) (C := fn_R_Md) (T := fn_T_Md) (N := 33) hx hb hts fn_j_Md hown hK hP 0 rfl rfl 17 (by decide) (hts _ (List.mem_cons_of_mem _ fq_544)) (fun _ h9 => h9) rfl fx_Md_kept_106 ?_
              refine lv_iload_n hx hb fx_Md_kept_109 rfl (lv_at hl 1 rfl) ?_
              have hb15 : vp_in p1 7 := fm_ink hI c4
              refine va_iald (D := D) hx hb hK hP 18 17 rfl rfl hb15 fx_Md_kept_110 ?_
              refine W.eq (g2 := F0 m 111 ls (.int (fm_aI σ 17 p1.toNatClampNeg) :: [])) rfl ?_
              exact fm_iret (r := fm_aI σ 17 p1.toNatClampNeg) (u := fm_smI σ 27 0) hQ hx hb hr ⟨by rw [fv_Md_kept, if_pos c2, if_pos c4, if_neg c6, if_neg c8, if_neg c10, if_pos c14], hI5⟩ hP hD hS fx_Md_kept_111 hlocks
            · by_cases c16 : p2 = 4
              · refine lv_tableIn (tgt := 112) hx hb fx_Md_kept_41 (by rw [c16]; decide) (by rw [c16]; decide) (by rw [c16]; rfl) (by decide) ?_
                refine lv_aload_n hx hb fx_Md_kept_112 rfl (lv_at hl 0 rfl) ?_
                refine va_get (D := D) (ci := 5) (v := .ref (am 19)) (C := fn_R_Md) (T := fn_T_Md) (N := 33) hx hb hts fn_j_Md hown hK hP 0 rfl rfl 18 (by decide) (hts _ (List.mem_cons_of_mem _ fq_545)) (fun _ h9 => h9) rfl fx_Md_kept_113 ?_
                refine lv_iload_n hx hb fx_Md_kept_116 rfl (lv_at hl 1 rfl) ?_
                have hb17 : vp_in p1 7 := fm_ink hI c4
                refine va_iald (D := D) hx hb hK hP 19 18 rfl rfl hb17 fx_Md_kept_117 ?_
                refine W.eq (g2 := F0 m 118 ls (.int (fm_aI σ 18 p1.toNatClampNeg) :: [])) rfl ?_
                exact fm_iret (r := fm_aI σ 18 p1.toNatClampNeg) (u := fm_smI σ 27 0) hQ hx hb hr ⟨by rw [fv_Md_kept, if_pos c2, if_pos c4, if_neg c6, if_neg c8, if_neg c10, if_neg c14, if_pos c16], hI5⟩ hP hD hS fx_Md_kept_118 hlocks
              · refine lv_tableOut (tgt := 119) hx hb fx_Md_kept_41 (by have n0 := lv_neT c6 (a := 0) (by decide); have n1 := lv_neT c8 (a := 1) (by decide); have n2 := lv_neT c10 (a := 2) (by decide); have n3 := lv_neT c14 (a := 3) (by decide); have n4 := lv_neT c16 (a := 4) (by decide); omega) (by decide) ?_
                refine lv_aload_n hx hb fx_Md_kept_119 rfl (lv_at hl 0 rfl) ?_
                refine va_get (D := D) (ci := 5) (v := .double (fm_mT σ)) (C := fn_R_Md) (T := fn_T_Md) (N := 33) hx hb hts fn_j_Md hown hK hP 0 rfl rfl 20 (by decide) (hts _ (List.mem_cons_of_mem _ fq_547)) (fun _ h9 => h9) rfl fx_Md_kept_120 ?_
                refine lv_aload_n hx hb fx_Md_kept_123 rfl (lv_at hl 0 rfl) ?_
                refine va_get (D := D) (ci := 5) (v := .ref (am 15)) (C := fn_R_Md) (T := fn_T_Md) (N := 33) hx hb hts fn_j_Md hown hK hP 0 rfl rfl 14 (by decide) (hts _ (List.mem_cons_of_mem _ fq_541)) (fun _ h9 => h9) rfl fx_Md_kept_124 ?_
                refine lv_iload_n hx hb fx_Md_kept_127 rfl (lv_at hl 1 rfl) ?_
                have hb18 : vp_in p1 7 := fm_ink hI c4
                refine va_dald (D := D) hx hb hK hP 15 14 rfl rfl hb18 fx_Md_kept_128 ?_
                refine W.eq (g2 := F0 m 129 ls (.double (fm_aD σ 14 p1.toNatClampNeg) :: [.double (fm_mT σ)])) rfl ?_
                refine lv_dcmp hx hb fx_Md_kept_129 ?_
                have hJ19 : ∀ (H : Heap) (locs : List Loc), va_P D fn_cl (fm_w ca am (fm_smI σ 27 0)) H → va_D A (fm_w ca am (fm_smI σ 27 0)) → va_S A s.heap H locs → ∀ (v19 : Bool), v19 = (if 0 ≤ (Op.cmpValue (FP.dcmp (fm_mT σ) (fm_aD σ 14 p1.toNatClampNeg)) .g) then false else true) → W p l e ({ frames := 1, cells := 0, slots := 0, locals := 22 } : Room) s m args below meth c H locs 0 0 Q (F0 m 138 ls [.int (fd_bi v19)]) := by
                  intro H locs hP hD hS v19 hv19
                  exact fm_iret (r := fd_bi v19) (u := fm_smI σ 27 0) hQ hx hb hr ⟨by rw [fv_Md_kept, if_pos c2, if_pos c4, if_neg c6, if_neg c8, if_neg c10, if_neg c14, if_neg c16, ← hv19, fv_Md_kept_j19], hI5⟩ hP hD hS fx_Md_kept_138 hlocks
                refine lv_if_ge (tgt := 137) hx hb fx_Md_kept_130 (by decide) (fun c20 => ?_) (fun c20 => ?_)
                · refine lv_iconst (v := 0) hx hb fx_Md_kept_137 (by decide) ?_
                  exact hJ19 H locs hP hD hS false (by rw [if_pos c20])
                · refine lv_iconst (v := 1) hx hb fx_Md_kept_133 (by decide) ?_
                  refine lv_goto (tgt := 138) hx hb fx_Md_kept_134 (by decide) ?_
                  exact hJ19 H locs hP hD hS true (by rw [if_neg c20])
    · refine lv_aload_n hx hb fx_Md_kept_29 rfl (lv_at hl 0 rfl) ?_
      refine lv_iconst (v := 2) hx hb fx_Md_kept_30 (by decide) ?_
      refine fm_callim (va_runV (As := [.int 2]) (rest := []) ⟨hx, hb, hml, hown, hts⟩ (fc_Md_fail l D ca am H.size σ 2 hI ) ⟨callB_of 1 hts (fb_good fm_Md_fail) rfl rfl rfl (hts _ (List.mem_cons_of_mem _ fq_6)) (hts _ (List.mem_cons_of_mem _ fq_652)) (by decide +kernel) ⟨Nat.le_of_ble_eq_true rfl, Nat.le_of_ble_eq_true rfl⟩, (hts _ (List.mem_cons_of_mem _ fq_654)), (hts _ (List.mem_cons_of_mem _ fp_Md_fail))⟩ (fm_preV hP hK hD hN (va_recv hK hP (ci := 5) (q0 := 0) rfl rfl)) rfl rfl hl.1 rfl (lv_room (Nat.le_of_ble_eq_true rfl)) fx_Md_kept_31 ⟨Nat.le_of_ble_eq_true rfl, Nat.le_of_ble_eq_true rfl⟩) hD hS hA (fun H locs hP hD hS hI21 => ?_)
      exact fm_iret (r := (fv_Md_fail σ 2).1) (u := (fv_Md_fail σ 2).2) hQ hx hb hr ⟨by rw [fv_Md_kept, if_pos c2, if_neg c4], hI21⟩ hP hD hS fx_Md_kept_34 hlocks
  · refine lv_aload_n hx hb fx_Md_kept_9 rfl (lv_at hl 0 rfl) ?_
    refine lv_iconst (v := 1) hx hb fx_Md_kept_10 (by decide) ?_
    refine fm_callim (va_runV (As := [.int 1]) (rest := []) ⟨hx, hb, hml, hown, hts⟩ (fc_Md_fail l D ca am H.size σ 1 hI ) ⟨callB_of 1 hts (fb_good fm_Md_fail) rfl rfl rfl (hts _ (List.mem_cons_of_mem _ fq_6)) (hts _ (List.mem_cons_of_mem _ fq_652)) (by decide +kernel) ⟨Nat.le_of_ble_eq_true rfl, Nat.le_of_ble_eq_true rfl⟩, (hts _ (List.mem_cons_of_mem _ fq_654)), (hts _ (List.mem_cons_of_mem _ fp_Md_fail))⟩ (fm_preV hP hK hD hN (va_recv hK hP (ci := 5) (q0 := 0) rfl rfl)) rfl rfl hl.1 rfl (lv_room (Nat.le_of_ble_eq_true rfl)) fx_Md_kept_11 ⟨Nat.le_of_ble_eq_true rfl, Nat.le_of_ble_eq_true rfl⟩) hD hS hA (fun H locs hP hD hS hI22 => ?_)
    exact fm_iret (r := (fv_Md_fail σ 1).1) (u := (fv_Md_fail σ 1).2) hQ hx hb hr ⟨by rw [fv_Md_kept, if_neg c2], hI22⟩ hP hD hS fx_Md_kept_14 hlocks
def fv_Md_left_j4 (σ : FMS) (p1 : Int32) (v2 : Bool) (v4 : UInt64) : UInt64 × FMS := (v4, fm_smI σ 27 (fd_bi v2))
def fv_Md_left_j2 (σ : FMS) (p1 : Int32) (v2 : Bool) : UInt64 × FMS := fv_Md_left_j4 σ p1 v2 (if 0 < (fd_bi v2) then FP.dconst0 else if (Op.cmpValue (FP.dcmp (fm_mT σ) (fm_aD σ 14 p1.toNatClampNeg)) .l) < 0 then FP.dsub (fm_aD σ 14 p1.toNatClampNeg) (fm_mT σ) else FP.dconst0)
def fv_Md_left (σ : FMS) (p1 : Int32) : UInt64 × FMS := fv_Md_left_j2 σ p1 (if (fv_Md_in σ p1 0 ((fm_mI σ 21) - 1)) = true then false else true)
set_option maxHeartbeats 4000000 in
set_option maxRecDepth 100000 in
theorem fc_Md_left (l : Launch) (D : va_G) (ca : Nat → ClassId) (am : Nat → Nat) (sz : Nat) (σ : FMS) (p1 : Int32) (hI : fm_Inv σ)  : Met l fy_Md_left (fw_Md_left :: fb_tbl) ({ frames := 1, cells := 0, slots := 0, locals := 22 } : Room) (fm_Pc D ca am [.ref (am 0), .int p1] σ sz) ((fun A => va_Qd (fun (r : UInt64) (u : FMS) => fv_Md_left σ p1 = (r, u) ∧ fm_Inv u) (fm_B D ca am A) A) (va_A (fm_w ca am σ) sz)) 0 0 (va_A (fm_w ca am σ) sz) := by
  refine fm_ofW (cc := fb_Md_left) (maxL := 2) (ret := (some .double)) (Qf := fun A => va_Qd (fun (r : UInt64) (u : FMS) => fv_Md_left σ p1 = (r, u) ∧ fm_Inv u) (fm_B D ca am A) A) (by decide) (Nat.le_of_ble_eq_true rfl) ?_
  intro p e s m args below meth c A Q hQ hx hb hr hts hown hlocks hml hP hK hD hS hA hN ls hl
  have hown : s.vm.findClass fn_R_Md = some m.cls := hown
  have hl : lv_has ls 2 [(0, .ref (am 0)), (1, .int p1)] := hl
  suffices hgo : ∀ (H : Heap) (locs : List Loc), va_P D fn_cl (fm_w ca am σ) H → va_D A (fm_w ca am σ) → va_S A s.heap H locs → W p l e ({ frames := 1, cells := 0, slots := 0, locals := 22 } : Room) s m args below meth c H locs 0 0 Q (F0 m 0 ls []) from hgo _ _ hP hD hS
  clear hP hD hS
  intro H locs hP hD hS
  refine lv_aload_n hx hb fx_Md_left_0 rfl (lv_at hl 0 rfl) ?_
  refine lv_iload_n hx hb fx_Md_left_1 rfl (lv_at hl 1 rfl) ?_
  refine lv_iconst (v := 0) hx hb fx_Md_left_2 (by decide) ?_
  refine lv_aload_n hx hb fx_Md_left_3 rfl (lv_at hl 0 rfl) ?_
  refine va_get (D := D) (ci := 5) (v := .int (fm_mI σ 21)) (C := fn_R_Md) (T := fn_T_Md) (N := 33) hx hb hts fn_j_Md hown hK hP 0 rfl rfl 21 (by decide) (hts _ (List.mem_cons_of_mem _ fq_548)) (fun _ h9 => h9) rfl fx_Md_left_4 ?_
  refine lv_iconst (v := 1) hx hb fx_Md_left_7 (by decide) ?_
  refine lv_isub hx hb fx_Md_left_8 ?_
  refine fm_callz (va_runS (As := [.int p1, .int 0, .int ((fm_mI σ 21) - 1)]) (rest := [.ref (am 0)]) ⟨hx, hb, hml, hown, hts⟩ (fc_Md_in l D ca am H.size σ p1 0 ((fm_mI σ 21) - 1) hI ) ⟨callB_of 3 hts (fb_good fm_Md_in) rfl rfl rfl (hts _ (List.mem_cons_of_mem _ fq_6)) (hts _ (List.mem_cons_of_mem _ fq_641)) (by decide +kernel) ⟨Nat.le_of_ble_eq_true rfl, Nat.le_of_ble_eq_true rfl⟩, (hts _ (List.mem_cons_of_mem _ fq_642))⟩ (fm_preS hP hK hD hN) rfl rfl hl.1 rfl (lv_room (Nat.le_of_ble_eq_true rfl)) fx_Md_left_9 ⟨Nat.le_of_ble_eq_true rfl, Nat.le_of_ble_eq_true rfl⟩) hD hS hA (fun H locs hP hD hS => ?_)
  have hJ2 : ∀ (H : Heap) (locs : List Loc), va_P D fn_cl (fm_w ca am σ) H → va_D A (fm_w ca am σ) → va_S A s.heap H locs → ∀ (v2 : Bool), v2 = (if (fv_Md_in σ p1 0 ((fm_mI σ 21) - 1)) = true then false else true) → W p l e ({ frames := 1, cells := 0, slots := 0, locals := 22 } : Room) s m args below meth c H locs 0 0 Q (F0 m 20 ls [.int (fd_bi v2), .ref (am 0)]) := by
    intro H locs hP hD hS v2 hv2
    refine va_put (D := D) (ci := 5) (v := .int (fd_bi v2)) (ty := .int) (C := fn_R_Md) (T := fn_T_Md) (N := 33) hx hb hts fn_j_Md fn_t_Md fn_k_Md fn_n_Md hown hK hP hD hS 0 rfl rfl 27 (by decide) (hts _ (List.mem_cons_of_mem _ fq_554)) (fun _ h9 => h9) rfl (by decide +kernel) rfl rfl (Nat.le_of_ble_eq_true rfl) fx_Md_left_20 (fun H locs hP hD hS => ?_)
    rw [fm_set_mI_27] at hP hD
    have hI3 : fm_Inv (fm_smI σ 27 (fd_bi v2)) := fm_inv_smI (by decide) (by decide) hI
    refine lv_aload_n hx hb fx_Md_left_23 rfl (lv_at hl 0 rfl) ?_
    refine va_get (D := D) (ci := 5) (v := .int (fd_bi v2)) (C := fn_R_Md) (T := fn_T_Md) (N := 33) hx hb hts fn_j_Md hown hK hP 0 rfl rfl 27 (by decide) (hts _ (List.mem_cons_of_mem _ fq_554)) (fun _ h9 => h9) rfl fx_Md_left_24 ?_
    have hJ4 : ∀ (H : Heap) (locs : List Loc), va_P D fn_cl (fm_w ca am (fm_smI σ 27 (fd_bi v2))) H → va_D A (fm_w ca am (fm_smI σ 27 (fd_bi v2))) → va_S A s.heap H locs → ∀ (v4 : UInt64), v4 = (if 0 < (fd_bi v2) then FP.dconst0 else if (Op.cmpValue (FP.dcmp (fm_mT σ) (fm_aD σ 14 p1.toNatClampNeg)) .l) < 0 then FP.dsub (fm_aD σ 14 p1.toNatClampNeg) (fm_mT σ) else FP.dconst0) → W p l e ({ frames := 1, cells := 0, slots := 0, locals := 22 } : Room) s m args below meth c H locs 0 0 Q (F0 m 59 ls [.double v4]) := by
      intro H locs hP hD hS v4 hv4
      exact fm_dret (r := v4) (u := fm_smI σ 27 (fd_bi v2)) hQ hx hb hr ⟨by rw [fv_Md_left, ← hv2, fv_Md_left_j2, ← hv4, fv_Md_left_j4], hI3⟩ hP hD hS fx_Md_left_59 hlocks
    refine lv_if_gt (tgt := 44) hx hb fx_Md_left_27 (by decide) (fun c5 => ?_) (fun c5 => ?_)
    · refine lv_dconst0 hx hb fx_Md_left_44 ?_
      refine lv_goto (tgt := 59) hx hb fx_Md_left_45 (by decide) ?_
      exact hJ4 H locs hP hD hS FP.dconst0 (by rw [if_pos c5])
    · refine lv_aload_n hx hb fx_Md_left_30 rfl (lv_at hl 0 rfl) ?_
      refine va_get (D := D) (ci := 5) (v := .double (fm_mT σ)) (C := fn_R_Md) (T := fn_T_Md) (N := 33) hx hb hts fn_j_Md hown hK hP 0 rfl rfl 20 (by decide) (hts _ (List.mem_cons_of_mem _ fq_547)) (fun _ h9 => h9) rfl fx_Md_left_31 ?_
      refine lv_aload_n hx hb fx_Md_left_34 rfl (lv_at hl 0 rfl) ?_
      refine va_get (D := D) (ci := 5) (v := .ref (am 15)) (C := fn_R_Md) (T := fn_T_Md) (N := 33) hx hb hts fn_j_Md hown hK hP 0 rfl rfl 14 (by decide) (hts _ (List.mem_cons_of_mem _ fq_541)) (fun _ h9 => h9) rfl fx_Md_left_35 ?_
      refine lv_iload_n hx hb fx_Md_left_38 rfl (lv_at hl 1 rfl) ?_
      have hb6 : vp_in p1 7 := fm_ink hI (fm_leftin c5 hv2)
      refine va_dald (D := D) hx hb hK hP 15 14 rfl rfl hb6 fx_Md_left_39 ?_
      refine W.eq (g2 := F0 m 40 ls (.double (fm_aD σ 14 p1.toNatClampNeg) :: [.double (fm_mT σ)])) rfl ?_
      refine lv_dcmp hx hb fx_Md_left_40 ?_
      refine lv_if_lt (tgt := 48) hx hb fx_Md_left_41 (by decide) (fun c7 => ?_) (fun c7 => ?_)
      · refine lv_aload_n hx hb fx_Md_left_48 rfl (lv_at hl 0 rfl) ?_
        refine va_get (D := D) (ci := 5) (v := .ref (am 15)) (C := fn_R_Md) (T := fn_T_Md) (N := 33) hx hb hts fn_j_Md hown hK hP 0 rfl rfl 14 (by decide) (hts _ (List.mem_cons_of_mem _ fq_541)) (fun _ h9 => h9) rfl fx_Md_left_49 ?_
        refine lv_iload_n hx hb fx_Md_left_52 rfl (lv_at hl 1 rfl) ?_
        have hb8 : vp_in p1 7 := fm_ink hI (fm_leftin c5 hv2)
        refine va_dald (D := D) hx hb hK hP 15 14 rfl rfl hb8 fx_Md_left_53 ?_
        refine W.eq (g2 := F0 m 54 ls (.double (fm_aD σ 14 p1.toNatClampNeg) :: [])) rfl ?_
        refine lv_aload_n hx hb fx_Md_left_54 rfl (lv_at hl 0 rfl) ?_
        refine va_get (D := D) (ci := 5) (v := .double (fm_mT σ)) (C := fn_R_Md) (T := fn_T_Md) (N := 33) hx hb hts fn_j_Md hown hK hP 0 rfl rfl 20 (by decide) (hts _ (List.mem_cons_of_mem _ fq_547)) (fun _ h9 => h9) rfl fx_Md_left_55 ?_
        refine lv_dsub hx hb fx_Md_left_58 (fd_n64 (fm_leftn hI (fm_ink hI (fm_leftin c5 hv2)) c7)) ?_
        exact hJ4 H locs hP hD hS (FP.dsub (fm_aD σ 14 p1.toNatClampNeg) (fm_mT σ)) (by rw [if_neg c5, if_pos c7])
      · refine lv_dconst0 hx hb fx_Md_left_44 ?_
        refine lv_goto (tgt := 59) hx hb fx_Md_left_45 (by decide) ?_
        exact hJ4 H locs hP hD hS FP.dconst0 (by rw [if_neg c5, if_neg c7])
  refine fd_ifeq (tgt := 19) hx hb fx_Md_left_12 (by decide) (fun c9 => ?_) (fun c9 => ?_)
  · refine lv_iconst (v := 1) hx hb fx_Md_left_19 (by decide) ?_
    exact hJ2 H locs hP hD hS true (by rw [if_neg c9])
  · refine lv_iconst (v := 0) hx hb fx_Md_left_15 (by decide) ?_
    refine lv_goto (tgt := 20) hx hb fx_Md_left_16 (by decide) ?_
    exact hJ2 H locs hP hD hS false (by rw [if_pos c9])
def fv_Md_count_j6 (σ : FMS) (p1 : Int32) (v6 : Int32) : Int32 × FMS := (v6, fm_smI σ 27 0)
def fv_Md_count_j19 (σ : FMS) (p1 : Int32) (v19 : Int32) : Int32 × FMS := (v19, fm_smI σ 27 0)
def fv_Md_count_j32 (σ : FMS) (p1 : Int32) (v32 : Int32) : Int32 × FMS := (v32, fm_smI σ 27 0)
def fv_Md_count (σ : FMS) (p1 : Int32) : Int32 × FMS := if (fv_Md_in σ p1 0 5) = true then if p1 ≤ 59 then if p1 ≤ 9 then fv_Md_count_j6 σ p1 (if p1 = 0 then fm_mI σ 22 else if p1 = 1 then fm_mI σ 23 else if p1 = 2 then fm_mI σ 24 else if p1 = 3 then fm_mI σ 25 else if p1 = 4 then fm_mI σ 26 else fm_mI σ 21) else (fm_aI σ 8 (p1 - 10).toNatClampNeg, fm_smI σ 27 0) else (fm_aI σ 9 (p1 - 60).toNatClampNeg, fm_smI σ 27 0) else if (fv_Md_in σ p1 10 57) = true then if p1 ≤ 59 then if p1 ≤ 9 then fv_Md_count_j19 σ p1 (if p1 = 0 then fm_mI σ 22 else if p1 = 1 then fm_mI σ 23 else if p1 = 2 then fm_mI σ 24 else if p1 = 3 then fm_mI σ 25 else if p1 = 4 then fm_mI σ 26 else fm_mI σ 21) else (fm_aI σ 8 (p1 - 10).toNatClampNeg, fm_smI σ 27 0) else (fm_aI σ 9 (p1 - 60).toNatClampNeg, fm_smI σ 27 0) else if (fv_Md_in σ p1 60 107) = true then if p1 ≤ 59 then if p1 ≤ 9 then fv_Md_count_j32 σ p1 (if p1 = 0 then fm_mI σ 22 else if p1 = 1 then fm_mI σ 23 else if p1 = 2 then fm_mI σ 24 else if p1 = 3 then fm_mI σ 25 else if p1 = 4 then fm_mI σ 26 else fm_mI σ 21) else (fm_aI σ 8 (p1 - 10).toNatClampNeg, fm_smI σ 27 0) else (fm_aI σ 9 (p1 - 60).toNatClampNeg, fm_smI σ 27 0) else ((fv_Md_fail σ 1).1, (fv_Md_fail σ 1).2)
set_option maxHeartbeats 4000000 in
set_option maxRecDepth 100000 in
theorem fc_Md_count (l : Launch) (D : va_G) (ca : Nat → ClassId) (am : Nat → Nat) (sz : Nat) (σ : FMS) (p1 : Int32) (hI : fm_Inv σ)  : Met l fy_Md_count (fw_Md_count :: fb_tbl) ({ frames := 1, cells := 0, slots := 0, locals := 22 } : Room) (fm_Pc D ca am [.ref (am 0), .int p1] σ sz) ((fun A => va_Qi (fun (r : Int32) (u : FMS) => fv_Md_count σ p1 = (r, u) ∧ fm_Inv u) (fm_B D ca am A) A) (va_A (fm_w ca am σ) sz)) 0 0 (va_A (fm_w ca am σ) sz) := by
  refine fm_ofW (cc := fb_Md_count) (maxL := 2) (ret := (some .int)) (Qf := fun A => va_Qi (fun (r : Int32) (u : FMS) => fv_Md_count σ p1 = (r, u) ∧ fm_Inv u) (fm_B D ca am A) A) (by decide) (Nat.le_of_ble_eq_true rfl) ?_
  intro p e s m args below meth c A Q hQ hx hb hr hts hown hlocks hml hP hK hD hS hA hN ls hl
  have hown : s.vm.findClass fn_R_Md = some m.cls := hown
  have hl : lv_has ls 2 [(0, .ref (am 0)), (1, .int p1)] := hl
  suffices hgo : ∀ (H : Heap) (locs : List Loc), va_P D fn_cl (fm_w ca am σ) H → va_D A (fm_w ca am σ) → va_S A s.heap H locs → W p l e ({ frames := 1, cells := 0, slots := 0, locals := 22 } : Room) s m args below meth c H locs 0 0 Q (F0 m 0 ls []) from hgo _ _ hP hD hS
  clear hP hD hS
  intro H locs hP hD hS
  refine lv_iload_n hx hb fx_Md_count_0 rfl (lv_at hl 1 rfl) ?_
  refine lv_iconst (v := 0) hx hb fx_Md_count_1 (by decide) ?_
  refine lv_iconst (v := 5) hx hb fx_Md_count_2 (by decide) ?_
  refine fm_callz (va_runS (As := [.int p1, .int 0, .int 5]) (rest := []) ⟨hx, hb, hml, hown, hts⟩ (fc_Md_in l D ca am H.size σ p1 0 5 hI ) ⟨callB_of 3 hts (fb_good fm_Md_in) rfl rfl rfl (hts _ (List.mem_cons_of_mem _ fq_6)) (hts _ (List.mem_cons_of_mem _ fq_641)) (by decide +kernel) ⟨Nat.le_of_ble_eq_true rfl, Nat.le_of_ble_eq_true rfl⟩, (hts _ (List.mem_cons_of_mem _ fq_642))⟩ (fm_preS hP hK hD hN) rfl rfl hl.1 rfl (lv_room (Nat.le_of_ble_eq_true rfl)) fx_Md_count_3 ⟨Nat.le_of_ble_eq_true rfl, Nat.le_of_ble_eq_true rfl⟩) hD hS hA (fun H locs hP hD hS => ?_)
  refine fd_ifne (tgt := 37) hx hb fx_Md_count_6 (by decide) (fun c2 => ?_) (fun c2 => ?_)
  · refine lv_aload_n hx hb fx_Md_count_37 rfl (lv_at hl 0 rfl) ?_
    refine lv_iconst (v := 0) hx hb fx_Md_count_38 (by decide) ?_
    refine va_put (D := D) (ci := 5) (v := .int 0) (ty := .int) (C := fn_R_Md) (T := fn_T_Md) (N := 33) hx hb hts fn_j_Md fn_t_Md fn_k_Md fn_n_Md hown hK hP hD hS 0 rfl rfl 27 (by decide) (hts _ (List.mem_cons_of_mem _ fq_554)) (fun _ h9 => h9) rfl (by decide +kernel) rfl rfl (Nat.le_of_ble_eq_true rfl) fx_Md_count_39 (fun H locs hP hD hS => ?_)
    rw [fm_set_mI_27] at hP hD
    have hI3 : fm_Inv (fm_smI σ 27 0) := fm_inv_smI (by decide) (by decide) hI
    refine lv_iload_n hx hb fx_Md_count_42 rfl (lv_at hl 1 rfl) ?_
    refine lv_bipush (v := 59) hx hb fx_Md_count_43 (by decide) ?_
    refine lv_icmp_le (tgt := 58) hx hb fx_Md_count_45 (by decide) (fun c4 => ?_) (fun c4 => ?_)
    · refine lv_iload_n hx hb fx_Md_count_58 rfl (lv_at hl 1 rfl) ?_
      refine lv_bipush (v := 9) hx hb fx_Md_count_59 (by decide) ?_
      refine lv_icmp_le (tgt := 74) hx hb fx_Md_count_61 (by decide) (fun c5 => ?_) (fun c5 => ?_)
      · refine lv_iload_n hx hb fx_Md_count_74 rfl (lv_at hl 1 rfl) ?_
        have hJ6 : ∀ (H : Heap) (locs : List Loc), va_P D fn_cl (fm_w ca am (fm_smI σ 27 0)) H → va_D A (fm_w ca am (fm_smI σ 27 0)) → va_S A s.heap H locs → ∀ (v6 : Int32), v6 = (if p1 = 0 then fm_mI σ 22 else if p1 = 1 then fm_mI σ 23 else if p1 = 2 then fm_mI σ 24 else if p1 = 3 then fm_mI σ 25 else if p1 = 4 then fm_mI σ 26 else fm_mI σ 21) → W p l e ({ frames := 1, cells := 0, slots := 0, locals := 22 } : Room) s m args below meth c H locs 0 0 Q (F0 m 137 ls [.int v6]) := by
          intro H locs hP hD hS v6 hv6
          exact fm_iret (r := v6) (u := fm_smI σ 27 0) hQ hx hb hr ⟨by rw [fv_Md_count, if_pos c2, if_pos c4, if_pos c5, ← hv6, fv_Md_count_j6], hI3⟩ hP hD hS fx_Md_count_137 hlocks
        refine lv_if_ne (tgt := 85) hx hb fx_Md_count_75 (by decide) (fun c7 => ?_) (fun c7 => ?_)
        · refine lv_iload_n hx hb fx_Md_count_85 rfl (lv_at hl 1 rfl) ?_
          refine lv_iconst (v := 1) hx hb fx_Md_count_86 (by decide) ?_
          refine lv_icmp_ne (tgt := 97) hx hb fx_Md_count_87 (by decide) (fun c8 => ?_) (fun c8 => ?_)
          · refine lv_iload_n hx hb fx_Md_count_97 rfl (lv_at hl 1 rfl) ?_
            refine lv_iconst (v := 2) hx hb fx_Md_count_98 (by decide) ?_
            refine lv_icmp_ne (tgt := 109) hx hb fx_Md_count_99 (by decide) (fun c9 => ?_) (fun c9 => ?_)
            · refine lv_iload_n hx hb fx_Md_count_109 rfl (lv_at hl 1 rfl) ?_
              refine lv_iconst (v := 3) hx hb fx_Md_count_110 (by decide) ?_
              refine lv_icmp_ne (tgt := 121) hx hb fx_Md_count_111 (by decide) (fun c10 => ?_) (fun c10 => ?_)
              · refine lv_iload_n hx hb fx_Md_count_121 rfl (lv_at hl 1 rfl) ?_
                refine lv_iconst (v := 4) hx hb fx_Md_count_122 (by decide) ?_
                refine lv_icmp_ne (tgt := 133) hx hb fx_Md_count_123 (by decide) (fun c11 => ?_) (fun c11 => ?_)
                · refine lv_aload_n hx hb fx_Md_count_133 rfl (lv_at hl 0 rfl) ?_
                  refine va_get (D := D) (ci := 5) (v := .int (fm_mI σ 21)) (C := fn_R_Md) (T := fn_T_Md) (N := 33) hx hb hts fn_j_Md hown hK hP 0 rfl rfl 21 (by decide) (hts _ (List.mem_cons_of_mem _ fq_548)) (fun _ h9 => h9) rfl fx_Md_count_134 ?_
                  exact hJ6 H locs hP hD hS (fm_mI σ 21) (by rw [if_neg c7, if_neg c8, if_neg c9, if_neg c10, if_neg c11])
                · refine lv_aload_n hx hb fx_Md_count_126 rfl (lv_at hl 0 rfl) ?_
                  refine va_get (D := D) (ci := 5) (v := .int (fm_mI σ 26)) (C := fn_R_Md) (T := fn_T_Md) (N := 33) hx hb hts fn_j_Md hown hK hP 0 rfl rfl 26 (by decide) (hts _ (List.mem_cons_of_mem _ fq_553)) (fun _ h9 => h9) rfl fx_Md_count_127 ?_
                  refine lv_goto (tgt := 137) hx hb fx_Md_count_130 (by decide) ?_
                  exact hJ6 H locs hP hD hS (fm_mI σ 26) (by rw [if_neg c7, if_neg c8, if_neg c9, if_neg c10, if_pos c11])
              · refine lv_aload_n hx hb fx_Md_count_114 rfl (lv_at hl 0 rfl) ?_
                refine va_get (D := D) (ci := 5) (v := .int (fm_mI σ 25)) (C := fn_R_Md) (T := fn_T_Md) (N := 33) hx hb hts fn_j_Md hown hK hP 0 rfl rfl 25 (by decide) (hts _ (List.mem_cons_of_mem _ fq_552)) (fun _ h9 => h9) rfl fx_Md_count_115 ?_
                refine lv_goto (tgt := 137) hx hb fx_Md_count_118 (by decide) ?_
                exact hJ6 H locs hP hD hS (fm_mI σ 25) (by rw [if_neg c7, if_neg c8, if_neg c9, if_pos c10])
            · refine lv_aload_n hx hb fx_Md_count_102 rfl (lv_at hl 0 rfl) ?_
              refine va_get (D := D) (ci := 5) (v := .int (fm_mI σ 24)) (C := fn_R_Md) (T := fn_T_Md) (N := 33) hx hb hts fn_j_Md hown hK hP 0 rfl rfl 24 (by decide) (hts _ (List.mem_cons_of_mem _ fq_551)) (fun _ h9 => h9) rfl fx_Md_count_103 ?_
              refine lv_goto (tgt := 137) hx hb fx_Md_count_106 (by decide) ?_
              exact hJ6 H locs hP hD hS (fm_mI σ 24) (by rw [if_neg c7, if_neg c8, if_pos c9])
          · refine lv_aload_n hx hb fx_Md_count_90 rfl (lv_at hl 0 rfl) ?_
            refine va_get (D := D) (ci := 5) (v := .int (fm_mI σ 23)) (C := fn_R_Md) (T := fn_T_Md) (N := 33) hx hb hts fn_j_Md hown hK hP 0 rfl rfl 23 (by decide) (hts _ (List.mem_cons_of_mem _ fq_550)) (fun _ h9 => h9) rfl fx_Md_count_91 ?_
            refine lv_goto (tgt := 137) hx hb fx_Md_count_94 (by decide) ?_
            exact hJ6 H locs hP hD hS (fm_mI σ 23) (by rw [if_neg c7, if_pos c8])
        · refine lv_aload_n hx hb fx_Md_count_78 rfl (lv_at hl 0 rfl) ?_
          refine va_get (D := D) (ci := 5) (v := .int (fm_mI σ 22)) (C := fn_R_Md) (T := fn_T_Md) (N := 33) hx hb hts fn_j_Md hown hK hP 0 rfl rfl 22 (by decide) (hts _ (List.mem_cons_of_mem _ fq_549)) (fun _ h9 => h9) rfl fx_Md_count_79 ?_
          refine lv_goto (tgt := 137) hx hb fx_Md_count_82 (by decide) ?_
          exact hJ6 H locs hP hD hS (fm_mI σ 22) (by rw [if_pos c7])
      · refine lv_aload_n hx hb fx_Md_count_64 rfl (lv_at hl 0 rfl) ?_
        refine va_get (D := D) (ci := 5) (v := .ref (am 9)) (C := fn_R_Md) (T := fn_T_Md) (N := 33) hx hb hts fn_j_Md hown hK hP 0 rfl rfl 8 (by decide) (hts _ (List.mem_cons_of_mem _ fq_535)) (fun _ h9 => h9) rfl fx_Md_count_65 ?_
        refine lv_iload_n hx hb fx_Md_count_68 rfl (lv_at hl 1 rfl) ?_
        refine lv_bipush (v := 10) hx hb fx_Md_count_69 (by decide) ?_
        refine lv_isub hx hb fx_Md_count_71 ?_
        have hb12 : vp_in (p1 - 10) 48 := fm_cnt10 c2 (by decide) c4 c5
        refine va_iald (D := D) hx hb hK hP 9 8 rfl rfl hb12 fx_Md_count_72 ?_
        refine W.eq (g2 := F0 m 73 ls (.int (fm_aI σ 8 (p1 - 10).toNatClampNeg) :: [])) rfl ?_
        exact fm_iret (r := fm_aI σ 8 (p1 - 10).toNatClampNeg) (u := fm_smI σ 27 0) hQ hx hb hr ⟨by rw [fv_Md_count, if_pos c2, if_pos c4, if_neg c5], hI3⟩ hP hD hS fx_Md_count_73 hlocks
    · refine lv_aload_n hx hb fx_Md_count_48 rfl (lv_at hl 0 rfl) ?_
      refine va_get (D := D) (ci := 5) (v := .ref (am 10)) (C := fn_R_Md) (T := fn_T_Md) (N := 33) hx hb hts fn_j_Md hown hK hP 0 rfl rfl 9 (by decide) (hts _ (List.mem_cons_of_mem _ fq_536)) (fun _ h9 => h9) rfl fx_Md_count_49 ?_
      refine lv_iload_n hx hb fx_Md_count_52 rfl (lv_at hl 1 rfl) ?_
      refine lv_bipush (v := 60) hx hb fx_Md_count_53 (by decide) ?_
      refine lv_isub hx hb fx_Md_count_55 ?_
      have hb13 : vp_in (p1 - 60) 48 := fm_cnt60 c2 (by decide) c4
      refine va_iald (D := D) hx hb hK hP 10 9 rfl rfl hb13 fx_Md_count_56 ?_
      refine W.eq (g2 := F0 m 57 ls (.int (fm_aI σ 9 (p1 - 60).toNatClampNeg) :: [])) rfl ?_
      exact fm_iret (r := fm_aI σ 9 (p1 - 60).toNatClampNeg) (u := fm_smI σ 27 0) hQ hx hb hr ⟨by rw [fv_Md_count, if_pos c2, if_neg c4], hI3⟩ hP hD hS fx_Md_count_57 hlocks
  · refine lv_iload_n hx hb fx_Md_count_9 rfl (lv_at hl 1 rfl) ?_
    refine lv_bipush (v := 10) hx hb fx_Md_count_10 (by decide) ?_
    refine lv_bipush (v := 57) hx hb fx_Md_count_12 (by decide) ?_
    refine fm_callz (va_runS (As := [.int p1, .int 10, .int 57]) (rest := []) ⟨hx, hb, hml, hown, hts⟩ (fc_Md_in l D ca am H.size σ p1 10 57 hI ) ⟨callB_of 3 hts (fb_good fm_Md_in) rfl rfl rfl (hts _ (List.mem_cons_of_mem _ fq_6)) (hts _ (List.mem_cons_of_mem _ fq_641)) (by decide +kernel) ⟨Nat.le_of_ble_eq_true rfl, Nat.le_of_ble_eq_true rfl⟩, (hts _ (List.mem_cons_of_mem _ fq_642))⟩ (fm_preS hP hK hD hN) rfl rfl hl.1 rfl (lv_room (Nat.le_of_ble_eq_true rfl)) fx_Md_count_14 ⟨Nat.le_of_ble_eq_true rfl, Nat.le_of_ble_eq_true rfl⟩) hD hS hA (fun H locs hP hD hS => ?_)
    refine fd_ifne (tgt := 37) hx hb fx_Md_count_17 (by decide) (fun c15 => ?_) (fun c15 => ?_)
    · refine lv_aload_n hx hb fx_Md_count_37 rfl (lv_at hl 0 rfl) ?_
      refine lv_iconst (v := 0) hx hb fx_Md_count_38 (by decide) ?_
      refine va_put (D := D) (ci := 5) (v := .int 0) (ty := .int) (C := fn_R_Md) (T := fn_T_Md) (N := 33) hx hb hts fn_j_Md fn_t_Md fn_k_Md fn_n_Md hown hK hP hD hS 0 rfl rfl 27 (by decide) (hts _ (List.mem_cons_of_mem _ fq_554)) (fun _ h9 => h9) rfl (by decide +kernel) rfl rfl (Nat.le_of_ble_eq_true rfl) fx_Md_count_39 (fun H locs hP hD hS => ?_)
      rw [fm_set_mI_27] at hP hD
      have hI16 : fm_Inv (fm_smI σ 27 0) := fm_inv_smI (by decide) (by decide) hI
      refine lv_iload_n hx hb fx_Md_count_42 rfl (lv_at hl 1 rfl) ?_
      refine lv_bipush (v := 59) hx hb fx_Md_count_43 (by decide) ?_
      refine lv_icmp_le (tgt := 58) hx hb fx_Md_count_45 (by decide) (fun c17 => ?_) (fun c17 => ?_)
      · refine lv_iload_n hx hb fx_Md_count_58 rfl (lv_at hl 1 rfl) ?_
        refine lv_bipush (v := 9) hx hb fx_Md_count_59 (by decide) ?_
        refine lv_icmp_le (tgt := 74) hx hb fx_Md_count_61 (by decide) (fun c18 => ?_) (fun c18 => ?_)
        · refine lv_iload_n hx hb fx_Md_count_74 rfl (lv_at hl 1 rfl) ?_
          have hJ19 : ∀ (H : Heap) (locs : List Loc), va_P D fn_cl (fm_w ca am (fm_smI σ 27 0)) H → va_D A (fm_w ca am (fm_smI σ 27 0)) → va_S A s.heap H locs → ∀ (v19 : Int32), v19 = (if p1 = 0 then fm_mI σ 22 else if p1 = 1 then fm_mI σ 23 else if p1 = 2 then fm_mI σ 24 else if p1 = 3 then fm_mI σ 25 else if p1 = 4 then fm_mI σ 26 else fm_mI σ 21) → W p l e ({ frames := 1, cells := 0, slots := 0, locals := 22 } : Room) s m args below meth c H locs 0 0 Q (F0 m 137 ls [.int v19]) := by
            intro H locs hP hD hS v19 hv19
            exact fm_iret (r := v19) (u := fm_smI σ 27 0) hQ hx hb hr ⟨by rw [fv_Md_count, if_neg c2, if_pos c15, if_pos c17, if_pos c18, ← hv19, fv_Md_count_j19], hI16⟩ hP hD hS fx_Md_count_137 hlocks
          refine lv_if_ne (tgt := 85) hx hb fx_Md_count_75 (by decide) (fun c20 => ?_) (fun c20 => ?_)
          · refine lv_iload_n hx hb fx_Md_count_85 rfl (lv_at hl 1 rfl) ?_
            refine lv_iconst (v := 1) hx hb fx_Md_count_86 (by decide) ?_
            refine lv_icmp_ne (tgt := 97) hx hb fx_Md_count_87 (by decide) (fun c21 => ?_) (fun c21 => ?_)
            · refine lv_iload_n hx hb fx_Md_count_97 rfl (lv_at hl 1 rfl) ?_
              refine lv_iconst (v := 2) hx hb fx_Md_count_98 (by decide) ?_
              refine lv_icmp_ne (tgt := 109) hx hb fx_Md_count_99 (by decide) (fun c22 => ?_) (fun c22 => ?_)
              · refine lv_iload_n hx hb fx_Md_count_109 rfl (lv_at hl 1 rfl) ?_
                refine lv_iconst (v := 3) hx hb fx_Md_count_110 (by decide) ?_
                refine lv_icmp_ne (tgt := 121) hx hb fx_Md_count_111 (by decide) (fun c23 => ?_) (fun c23 => ?_)
                · refine lv_iload_n hx hb fx_Md_count_121 rfl (lv_at hl 1 rfl) ?_
                  refine lv_iconst (v := 4) hx hb fx_Md_count_122 (by decide) ?_
                  refine lv_icmp_ne (tgt := 133) hx hb fx_Md_count_123 (by decide) (fun c24 => ?_) (fun c24 => ?_)
                  · refine lv_aload_n hx hb fx_Md_count_133 rfl (lv_at hl 0 rfl) ?_
                    refine va_get (D := D) (ci := 5) (v := .int (fm_mI σ 21)) (C := fn_R_Md) (T := fn_T_Md) (N := 33) hx hb hts fn_j_Md hown hK hP 0 rfl rfl 21 (by decide) (hts _ (List.mem_cons_of_mem _ fq_548)) (fun _ h9 => h9) rfl fx_Md_count_134 ?_
                    exact hJ19 H locs hP hD hS (fm_mI σ 21) (by rw [if_neg c20, if_neg c21, if_neg c22, if_neg c23, if_neg c24])
                  · refine lv_aload_n hx hb fx_Md_count_126 rfl (lv_at hl 0 rfl) ?_
                    refine va_get (D := D) (ci := 5) (v := .int (fm_mI σ 26)) (C := fn_R_Md) (T := fn_T_Md) (N := 33) hx hb hts fn_j_Md hown hK hP 0 rfl rfl 26 (by decide) (hts _ (List.mem_cons_of_mem _ fq_553)) (fun _ h9 => h9) rfl fx_Md_count_127 ?_
                    refine lv_goto (tgt := 137) hx hb fx_Md_count_130 (by decide) ?_
                    exact hJ19 H locs hP hD hS (fm_mI σ 26) (by rw [if_neg c20, if_neg c21, if_neg c22, if_neg c23, if_pos c24])
                · refine lv_aload_n hx hb fx_Md_count_114 rfl (lv_at hl 0 rfl) ?_
                  refine va_get (D := D) (ci := 5) (v := .int (fm_mI σ 25)) (C := fn_R_Md) (T := fn_T_Md) (N := 33) hx hb hts fn_j_Md hown hK hP 0 rfl rfl 25 (by decide) (hts _ (List.mem_cons_of_mem _ fq_552)) (fun _ h9 => h9) rfl fx_Md_count_115 ?_
                  refine lv_goto (tgt := 137) hx hb fx_Md_count_118 (by decide) ?_
                  exact hJ19 H locs hP hD hS (fm_mI σ 25) (by rw [if_neg c20, if_neg c21, if_neg c22, if_pos c23])
              · refine lv_aload_n hx hb fx_Md_count_102 rfl (lv_at hl 0 rfl) ?_
                refine va_get (D := D) (ci := 5) (v := .int (fm_mI σ 24)) (C := fn_R_Md) (T := fn_T_Md) (N := 33) hx hb hts fn_j_Md hown hK hP 0 rfl rfl 24 (by decide) (hts _ (List.mem_cons_of_mem _ fq_551)) (fun _ h9 => h9) rfl fx_Md_count_103 ?_
                refine lv_goto (tgt := 137) hx hb fx_Md_count_106 (by decide) ?_
                exact hJ19 H locs hP hD hS (fm_mI σ 24) (by rw [if_neg c20, if_neg c21, if_pos c22])
            · refine lv_aload_n hx hb fx_Md_count_90 rfl (lv_at hl 0 rfl) ?_
              refine va_get (D := D) (ci := 5) (v := .int (fm_mI σ 23)) (C := fn_R_Md) (T := fn_T_Md) (N := 33) hx hb hts fn_j_Md hown hK hP 0 rfl rfl 23 (by decide) (hts _ (List.mem_cons_of_mem _ fq_550)) (fun _ h9 => h9) rfl fx_Md_count_91 ?_
              refine lv_goto (tgt := 137) hx hb fx_Md_count_94 (by decide) ?_
              exact hJ19 H locs hP hD hS (fm_mI σ 23) (by rw [if_neg c20, if_pos c21])
          · refine lv_aload_n hx hb fx_Md_count_78 rfl (lv_at hl 0 rfl) ?_
            refine va_get (D := D) (ci := 5) (v := .int (fm_mI σ 22)) (C := fn_R_Md) (T := fn_T_Md) (N := 33) hx hb hts fn_j_Md hown hK hP 0 rfl rfl 22 (by decide) (hts _ (List.mem_cons_of_mem _ fq_549)) (fun _ h9 => h9) rfl fx_Md_count_79 ?_
            refine lv_goto (tgt := 137) hx hb fx_Md_count_82 (by decide) ?_
            exact hJ19 H locs hP hD hS (fm_mI σ 22) (by rw [if_pos c20])
        · refine lv_aload_n hx hb fx_Md_count_64 rfl (lv_at hl 0 rfl) ?_
          refine va_get (D := D) (ci := 5) (v := .ref (am 9)) (C := fn_R_Md) (T := fn_T_Md) (N := 33) hx hb hts fn_j_Md hown hK hP 0 rfl rfl 8 (by decide) (hts _ (List.mem_cons_of_mem _ fq_535)) (fun _ h9 => h9) rfl fx_Md_count_65 ?_
          refine lv_iload_n hx hb fx_Md_count_68 rfl (lv_at hl 1 rfl) ?_
          refine lv_bipush (v := 10) hx hb fx_Md_count_69 (by decide) ?_
          refine lv_isub hx hb fx_Md_count_71 ?_
          have hb25 : vp_in (p1 - 10) 48 := fm_cnt10 c15 (by decide) c17 c18
          refine va_iald (D := D) hx hb hK hP 9 8 rfl rfl hb25 fx_Md_count_72 ?_
          refine W.eq (g2 := F0 m 73 ls (.int (fm_aI σ 8 (p1 - 10).toNatClampNeg) :: [])) rfl ?_
          exact fm_iret (r := fm_aI σ 8 (p1 - 10).toNatClampNeg) (u := fm_smI σ 27 0) hQ hx hb hr ⟨by rw [fv_Md_count, if_neg c2, if_pos c15, if_pos c17, if_neg c18], hI16⟩ hP hD hS fx_Md_count_73 hlocks
      · refine lv_aload_n hx hb fx_Md_count_48 rfl (lv_at hl 0 rfl) ?_
        refine va_get (D := D) (ci := 5) (v := .ref (am 10)) (C := fn_R_Md) (T := fn_T_Md) (N := 33) hx hb hts fn_j_Md hown hK hP 0 rfl rfl 9 (by decide) (hts _ (List.mem_cons_of_mem _ fq_536)) (fun _ h9 => h9) rfl fx_Md_count_49 ?_
        refine lv_iload_n hx hb fx_Md_count_52 rfl (lv_at hl 1 rfl) ?_
        refine lv_bipush (v := 60) hx hb fx_Md_count_53 (by decide) ?_
        refine lv_isub hx hb fx_Md_count_55 ?_
        have hb26 : vp_in (p1 - 60) 48 := fm_cnt60 c15 (by decide) c17
        refine va_iald (D := D) hx hb hK hP 10 9 rfl rfl hb26 fx_Md_count_56 ?_
        refine W.eq (g2 := F0 m 57 ls (.int (fm_aI σ 9 (p1 - 60).toNatClampNeg) :: [])) rfl ?_
        exact fm_iret (r := fm_aI σ 9 (p1 - 60).toNatClampNeg) (u := fm_smI σ 27 0) hQ hx hb hr ⟨by rw [fv_Md_count, if_neg c2, if_pos c15, if_neg c17], hI16⟩ hP hD hS fx_Md_count_57 hlocks
    · refine lv_iload_n hx hb fx_Md_count_20 rfl (lv_at hl 1 rfl) ?_
      refine lv_bipush (v := 60) hx hb fx_Md_count_21 (by decide) ?_
      refine lv_bipush (v := 107) hx hb fx_Md_count_23 (by decide) ?_
      refine fm_callz (va_runS (As := [.int p1, .int 60, .int 107]) (rest := []) ⟨hx, hb, hml, hown, hts⟩ (fc_Md_in l D ca am H.size σ p1 60 107 hI ) ⟨callB_of 3 hts (fb_good fm_Md_in) rfl rfl rfl (hts _ (List.mem_cons_of_mem _ fq_6)) (hts _ (List.mem_cons_of_mem _ fq_641)) (by decide +kernel) ⟨Nat.le_of_ble_eq_true rfl, Nat.le_of_ble_eq_true rfl⟩, (hts _ (List.mem_cons_of_mem _ fq_642))⟩ (fm_preS hP hK hD hN) rfl rfl hl.1 rfl (lv_room (Nat.le_of_ble_eq_true rfl)) fx_Md_count_25 ⟨Nat.le_of_ble_eq_true rfl, Nat.le_of_ble_eq_true rfl⟩) hD hS hA (fun H locs hP hD hS => ?_)
      refine fd_ifne (tgt := 37) hx hb fx_Md_count_28 (by decide) (fun c28 => ?_) (fun c28 => ?_)
      · refine lv_aload_n hx hb fx_Md_count_37 rfl (lv_at hl 0 rfl) ?_
        refine lv_iconst (v := 0) hx hb fx_Md_count_38 (by decide) ?_
        refine va_put (D := D) (ci := 5) (v := .int 0) (ty := .int) (C := fn_R_Md) (T := fn_T_Md) (N := 33) hx hb hts fn_j_Md fn_t_Md fn_k_Md fn_n_Md hown hK hP hD hS 0 rfl rfl 27 (by decide) (hts _ (List.mem_cons_of_mem _ fq_554)) (fun _ h9 => h9) rfl (by decide +kernel) rfl rfl (Nat.le_of_ble_eq_true rfl) fx_Md_count_39 (fun H locs hP hD hS => ?_)
        rw [fm_set_mI_27] at hP hD
        have hI29 : fm_Inv (fm_smI σ 27 0) := fm_inv_smI (by decide) (by decide) hI
        refine lv_iload_n hx hb fx_Md_count_42 rfl (lv_at hl 1 rfl) ?_
        refine lv_bipush (v := 59) hx hb fx_Md_count_43 (by decide) ?_
        refine lv_icmp_le (tgt := 58) hx hb fx_Md_count_45 (by decide) (fun c30 => ?_) (fun c30 => ?_)
        · refine lv_iload_n hx hb fx_Md_count_58 rfl (lv_at hl 1 rfl) ?_
          refine lv_bipush (v := 9) hx hb fx_Md_count_59 (by decide) ?_
          refine lv_icmp_le (tgt := 74) hx hb fx_Md_count_61 (by decide) (fun c31 => ?_) (fun c31 => ?_)
          · refine lv_iload_n hx hb fx_Md_count_74 rfl (lv_at hl 1 rfl) ?_
            have hJ32 : ∀ (H : Heap) (locs : List Loc), va_P D fn_cl (fm_w ca am (fm_smI σ 27 0)) H → va_D A (fm_w ca am (fm_smI σ 27 0)) → va_S A s.heap H locs → ∀ (v32 : Int32), v32 = (if p1 = 0 then fm_mI σ 22 else if p1 = 1 then fm_mI σ 23 else if p1 = 2 then fm_mI σ 24 else if p1 = 3 then fm_mI σ 25 else if p1 = 4 then fm_mI σ 26 else fm_mI σ 21) → W p l e ({ frames := 1, cells := 0, slots := 0, locals := 22 } : Room) s m args below meth c H locs 0 0 Q (F0 m 137 ls [.int v32]) := by
              intro H locs hP hD hS v32 hv32
              exact fm_iret (r := v32) (u := fm_smI σ 27 0) hQ hx hb hr ⟨by rw [fv_Md_count, if_neg c2, if_neg c15, if_pos c28, if_pos c30, if_pos c31, ← hv32, fv_Md_count_j32], hI29⟩ hP hD hS fx_Md_count_137 hlocks
            refine lv_if_ne (tgt := 85) hx hb fx_Md_count_75 (by decide) (fun c33 => ?_) (fun c33 => ?_)
            · refine lv_iload_n hx hb fx_Md_count_85 rfl (lv_at hl 1 rfl) ?_
              refine lv_iconst (v := 1) hx hb fx_Md_count_86 (by decide) ?_
              refine lv_icmp_ne (tgt := 97) hx hb fx_Md_count_87 (by decide) (fun c34 => ?_) (fun c34 => ?_)
              · refine lv_iload_n hx hb fx_Md_count_97 rfl (lv_at hl 1 rfl) ?_
                refine lv_iconst (v := 2) hx hb fx_Md_count_98 (by decide) ?_
                refine lv_icmp_ne (tgt := 109) hx hb fx_Md_count_99 (by decide) (fun c35 => ?_) (fun c35 => ?_)
                · refine lv_iload_n hx hb fx_Md_count_109 rfl (lv_at hl 1 rfl) ?_
                  refine lv_iconst (v := 3) hx hb fx_Md_count_110 (by decide) ?_
                  refine lv_icmp_ne (tgt := 121) hx hb fx_Md_count_111 (by decide) (fun c36 => ?_) (fun c36 => ?_)
                  · refine lv_iload_n hx hb fx_Md_count_121 rfl (lv_at hl 1 rfl) ?_
                    refine lv_iconst (v := 4) hx hb fx_Md_count_122 (by decide) ?_
                    refine lv_icmp_ne (tgt := 133) hx hb fx_Md_count_123 (by decide) (fun c37 => ?_) (fun c37 => ?_)
                    · refine lv_aload_n hx hb fx_Md_count_133 rfl (lv_at hl 0 rfl) ?_
                      refine va_get (D := D) (ci := 5) (v := .int (fm_mI σ 21)) (C := fn_R_Md) (T := fn_T_Md) (N := 33) hx hb hts fn_j_Md hown hK hP 0 rfl rfl 21 (by decide) (hts _ (List.mem_cons_of_mem _ fq_548)) (fun _ h9 => h9) rfl fx_Md_count_134 ?_
                      exact hJ32 H locs hP hD hS (fm_mI σ 21) (by rw [if_neg c33, if_neg c34, if_neg c35, if_neg c36, if_neg c37])
                    · refine lv_aload_n hx hb fx_Md_count_126 rfl (lv_at hl 0 rfl) ?_
                      refine va_get (D := D) (ci := 5) (v := .int (fm_mI σ 26)) (C := fn_R_Md) (T := fn_T_Md) (N := 33) hx hb hts fn_j_Md hown hK hP 0 rfl rfl 26 (by decide) (hts _ (List.mem_cons_of_mem _ fq_553)) (fun _ h9 => h9) rfl fx_Md_count_127 ?_
                      refine lv_goto (tgt := 137) hx hb fx_Md_count_130 (by decide) ?_
                      exact hJ32 H locs hP hD hS (fm_mI σ 26) (by rw [if_neg c33, if_neg c34, if_neg c35, if_neg c36, if_pos c37])
                  · refine lv_aload_n hx hb fx_Md_count_114 rfl (lv_at hl 0 rfl) ?_
                    refine va_get (D := D) (ci := 5) (v := .int (fm_mI σ 25)) (C := fn_R_Md) (T := fn_T_Md) (N := 33) hx hb hts fn_j_Md hown hK hP 0 rfl rfl 25 (by decide) (hts _ (List.mem_cons_of_mem _ fq_552)) (fun _ h9 => h9) rfl fx_Md_count_115 ?_
                    refine lv_goto (tgt := 137) hx hb fx_Md_count_118 (by decide) ?_
                    exact hJ32 H locs hP hD hS (fm_mI σ 25) (by rw [if_neg c33, if_neg c34, if_neg c35, if_pos c36])
                · refine lv_aload_n hx hb fx_Md_count_102 rfl (lv_at hl 0 rfl) ?_
                  refine va_get (D := D) (ci := 5) (v := .int (fm_mI σ 24)) (C := fn_R_Md) (T := fn_T_Md) (N := 33) hx hb hts fn_j_Md hown hK hP 0 rfl rfl 24 (by decide) (hts _ (List.mem_cons_of_mem _ fq_551)) (fun _ h9 => h9) rfl fx_Md_count_103 ?_
                  refine lv_goto (tgt := 137) hx hb fx_Md_count_106 (by decide) ?_
                  exact hJ32 H locs hP hD hS (fm_mI σ 24) (by rw [if_neg c33, if_neg c34, if_pos c35])
              · refine lv_aload_n hx hb fx_Md_count_90 rfl (lv_at hl 0 rfl) ?_
                refine va_get (D := D) (ci := 5) (v := .int (fm_mI σ 23)) (C := fn_R_Md) (T := fn_T_Md) (N := 33) hx hb hts fn_j_Md hown hK hP 0 rfl rfl 23 (by decide) (hts _ (List.mem_cons_of_mem _ fq_550)) (fun _ h9 => h9) rfl fx_Md_count_91 ?_
                refine lv_goto (tgt := 137) hx hb fx_Md_count_94 (by decide) ?_
                exact hJ32 H locs hP hD hS (fm_mI σ 23) (by rw [if_neg c33, if_pos c34])
            · refine lv_aload_n hx hb fx_Md_count_78 rfl (lv_at hl 0 rfl) ?_
              refine va_get (D := D) (ci := 5) (v := .int (fm_mI σ 22)) (C := fn_R_Md) (T := fn_T_Md) (N := 33) hx hb hts fn_j_Md hown hK hP 0 rfl rfl 22 (by decide) (hts _ (List.mem_cons_of_mem _ fq_549)) (fun _ h9 => h9) rfl fx_Md_count_79 ?_
              refine lv_goto (tgt := 137) hx hb fx_Md_count_82 (by decide) ?_
              exact hJ32 H locs hP hD hS (fm_mI σ 22) (by rw [if_pos c33])
          · refine lv_aload_n hx hb fx_Md_count_64 rfl (lv_at hl 0 rfl) ?_
            refine va_get (D := D) (ci := 5) (v := .ref (am 9)) (C := fn_R_Md) (T := fn_T_Md) (N := 33) hx hb hts fn_j_Md hown hK hP 0 rfl rfl 8 (by decide) (hts _ (List.mem_cons_of_mem _ fq_535)) (fun _ h9 => h9) rfl fx_Md_count_65 ?_
            refine lv_iload_n hx hb fx_Md_count_68 rfl (lv_at hl 1 rfl) ?_
            refine lv_bipush (v := 10) hx hb fx_Md_count_69 (by decide) ?_
            refine lv_isub hx hb fx_Md_count_71 ?_
            have hb38 : vp_in (p1 - 10) 48 := fm_cnt10 c28 (by decide) c30 c31
            refine va_iald (D := D) hx hb hK hP 9 8 rfl rfl hb38 fx_Md_count_72 ?_
            refine W.eq (g2 := F0 m 73 ls (.int (fm_aI σ 8 (p1 - 10).toNatClampNeg) :: [])) rfl ?_
            exact fm_iret (r := fm_aI σ 8 (p1 - 10).toNatClampNeg) (u := fm_smI σ 27 0) hQ hx hb hr ⟨by rw [fv_Md_count, if_neg c2, if_neg c15, if_pos c28, if_pos c30, if_neg c31], hI29⟩ hP hD hS fx_Md_count_73 hlocks
        · refine lv_aload_n hx hb fx_Md_count_48 rfl (lv_at hl 0 rfl) ?_
          refine va_get (D := D) (ci := 5) (v := .ref (am 10)) (C := fn_R_Md) (T := fn_T_Md) (N := 33) hx hb hts fn_j_Md hown hK hP 0 rfl rfl 9 (by decide) (hts _ (List.mem_cons_of_mem _ fq_536)) (fun _ h9 => h9) rfl fx_Md_count_49 ?_
          refine lv_iload_n hx hb fx_Md_count_52 rfl (lv_at hl 1 rfl) ?_
          refine lv_bipush (v := 60) hx hb fx_Md_count_53 (by decide) ?_
          refine lv_isub hx hb fx_Md_count_55 ?_
          have hb39 : vp_in (p1 - 60) 48 := fm_cnt60 c28 (by decide) c30
          refine va_iald (D := D) hx hb hK hP 10 9 rfl rfl hb39 fx_Md_count_56 ?_
          refine W.eq (g2 := F0 m 57 ls (.int (fm_aI σ 9 (p1 - 60).toNatClampNeg) :: [])) rfl ?_
          exact fm_iret (r := fm_aI σ 9 (p1 - 60).toNatClampNeg) (u := fm_smI σ 27 0) hQ hx hb hr ⟨by rw [fv_Md_count, if_neg c2, if_neg c15, if_pos c28, if_neg c30], hI29⟩ hP hD hS fx_Md_count_57 hlocks
      · refine lv_aload_n hx hb fx_Md_count_31 rfl (lv_at hl 0 rfl) ?_
        refine lv_iconst (v := 1) hx hb fx_Md_count_32 (by decide) ?_
        refine fm_callim (va_runV (As := [.int 1]) (rest := []) ⟨hx, hb, hml, hown, hts⟩ (fc_Md_fail l D ca am H.size σ 1 hI ) ⟨callB_of 1 hts (fb_good fm_Md_fail) rfl rfl rfl (hts _ (List.mem_cons_of_mem _ fq_6)) (hts _ (List.mem_cons_of_mem _ fq_652)) (by decide +kernel) ⟨Nat.le_of_ble_eq_true rfl, Nat.le_of_ble_eq_true rfl⟩, (hts _ (List.mem_cons_of_mem _ fq_654)), (hts _ (List.mem_cons_of_mem _ fp_Md_fail))⟩ (fm_preV hP hK hD hN (va_recv hK hP (ci := 5) (q0 := 0) rfl rfl)) rfl rfl hl.1 rfl (lv_room (Nat.le_of_ble_eq_true rfl)) fx_Md_count_33 ⟨Nat.le_of_ble_eq_true rfl, Nat.le_of_ble_eq_true rfl⟩) hD hS hA (fun H locs hP hD hS hI40 => ?_)
        exact fm_iret (r := (fv_Md_fail σ 1).1) (u := (fv_Md_fail σ 1).2) hQ hx hb hr ⟨by rw [fv_Md_count, if_neg c2, if_neg c15, if_neg c28], hI40⟩ hP hD hS fx_Md_count_36 hlocks
