/-! the model: keep, ask, move, answer, go -/
def fv_Md_keep_l13 : Nat → FMS → Int32 → Int32 → FMS
  | 0 , σ , f , i => σ
  | n + 1 , σ , f , i => if (fm_mI σ 21) ≤ i then if (Op.cmpValue (FP.dcmp (fm_aD (fv_Md_forget σ f) 13 (fm_mI (fv_Md_forget σ f) 29).toNatClampNeg) 4621819117588971520) .l) ≤ 0 then fm_smI (fm_saD (fm_saI (fm_saI (fm_saZ (fm_saI (fm_saI (fv_Md_forget σ f) 15 (fm_mI (fv_Md_forget σ f) 21).toNatClampNeg (fm_mI (fv_Md_forget σ f) 28)) 16 (fm_mI (fv_Md_forget σ f) 21).toNatClampNeg (fm_mI (fv_Md_forget σ f) 29)) 12 (fm_mI (fv_Md_forget σ f) 21).toNatClampNeg (fm_mZ (fv_Md_forget σ f))) 17 (fm_mI (fv_Md_forget σ f) 21).toNatClampNeg (fm_aI (fv_Md_forget σ f) 6 (fm_mI (fv_Md_forget σ f) 29).toNatClampNeg)) 18 (fm_mI (fv_Md_forget σ f) 21).toNatClampNeg (fm_aI (fv_Md_forget σ f) 7 (fm_mI (fv_Md_forget σ f) 29).toNatClampNeg)) 14 (fm_mI (fv_Md_forget σ f) 21).toNatClampNeg (FP.dadd (fm_mT (fv_Md_forget σ f)) (fm_aD (fv_Md_forget σ f) 13 (fm_mI (fv_Md_forget σ f) 29).toNatClampNeg))) 21 ((fm_mI (fv_Md_forget σ f) 21) + 1) else fm_smI (fm_saD (fm_saI (fm_saI (fm_saZ (fm_saI (fm_saI (fv_Md_forget σ f) 15 (fm_mI (fv_Md_forget σ f) 21).toNatClampNeg (fm_mI (fv_Md_forget σ f) 28)) 16 (fm_mI (fv_Md_forget σ f) 21).toNatClampNeg (fm_mI (fv_Md_forget σ f) 29)) 12 (fm_mI (fv_Md_forget σ f) 21).toNatClampNeg (fm_mZ (fv_Md_forget σ f))) 17 (fm_mI (fv_Md_forget σ f) 21).toNatClampNeg (fm_aI (fv_Md_forget σ f) 6 (fm_mI (fv_Md_forget σ f) 29).toNatClampNeg)) 18 (fm_mI (fv_Md_forget σ f) 21).toNatClampNeg (fm_aI (fv_Md_forget σ f) 7 (fm_mI (fv_Md_forget σ f) 29).toNatClampNeg)) 14 (fm_mI (fv_Md_forget σ f) 21).toNatClampNeg (FP.dadd (fm_mT (fv_Md_forget σ f)) 4621819117588971520)) 21 ((fm_mI (fv_Md_forget σ f) 21) + 1) else if 0 ≤ (Op.cmpValue (FP.dcmp (fm_aD σ 14 i.toNatClampNeg) (fm_aD σ 14 f.toNatClampNeg)) .g) then fv_Md_keep_l13 n σ f (i + 1) else fv_Md_keep_l13 n σ i (i + 1)
def fv_Md_keep (σ : FMS) : FMS := if (fm_mI σ 21) = 6 then fv_Md_keep_l13 7 σ 0 1 else if (Op.cmpValue (FP.dcmp (fm_aD σ 13 (fm_mI σ 29).toNatClampNeg) 4621819117588971520) .l) ≤ 0 then fm_smI (fm_saD (fm_saI (fm_saI (fm_saZ (fm_saI (fm_saI σ 15 (fm_mI σ 21).toNatClampNeg (fm_mI σ 28)) 16 (fm_mI σ 21).toNatClampNeg (fm_mI σ 29)) 12 (fm_mI σ 21).toNatClampNeg (fm_mZ σ)) 17 (fm_mI σ 21).toNatClampNeg (fm_aI σ 6 (fm_mI σ 29).toNatClampNeg)) 18 (fm_mI σ 21).toNatClampNeg (fm_aI σ 7 (fm_mI σ 29).toNatClampNeg)) 14 (fm_mI σ 21).toNatClampNeg (FP.dadd (fm_mT σ) (fm_aD σ 13 (fm_mI σ 29).toNatClampNeg))) 21 ((fm_mI σ 21) + 1) else fm_smI (fm_saD (fm_saI (fm_saI (fm_saZ (fm_saI (fm_saI σ 15 (fm_mI σ 21).toNatClampNeg (fm_mI σ 28)) 16 (fm_mI σ 21).toNatClampNeg (fm_mI σ 29)) 12 (fm_mI σ 21).toNatClampNeg (fm_mZ σ)) 17 (fm_mI σ 21).toNatClampNeg (fm_aI σ 6 (fm_mI σ 29).toNatClampNeg)) 18 (fm_mI σ 21).toNatClampNeg (fm_aI σ 7 (fm_mI σ 29).toNatClampNeg)) 14 (fm_mI σ 21).toNatClampNeg (FP.dadd (fm_mT σ) 4621819117588971520)) 21 ((fm_mI σ 21) + 1)
set_option maxHeartbeats 4000000 in
set_option maxRecDepth 100000 in
theorem fc_Md_keep (l : Launch) (D : va_G) (ca : Nat → ClassId) (am : Nat → Nat) (sz : Nat) (σ : FMS)  (hI : fm_Inv σ)  : Met l fy_Md_keep (fw_Md_keep :: fb_tbl) ({ frames := 1, cells := 0, slots := 0, locals := 22 } : Room) (fm_Pc D ca am [.ref (am 0)] σ sz) ((fun A => va_Qv (fun u : FMS => fv_Md_keep σ = u ∧ fm_Inv u) (fm_B D ca am A) A) (va_A (fm_w ca am σ) sz)) 0 0 (va_A (fm_w ca am σ) sz) := by
  refine fm_ofW (cc := fb_Md_keep) (maxL := 3) (ret := none) (Qf := fun A => va_Qv (fun u : FMS => fv_Md_keep σ = u ∧ fm_Inv u) (fm_B D ca am A) A) (by decide) (Nat.le_of_ble_eq_true rfl) ?_
  intro p e s m args below meth c A Q hQ hx hb hr hts hown hlocks hml hP hK hD hS hA hN ls hl
  have hown : s.vm.findClass fn_R_Md = some m.cls := hown
  have hl : lv_has ls 3 [(0, .ref (am 0))] := hl
  suffices hgo : ∀ (H : Heap) (locs : List Loc), va_P D fn_cl (fm_w ca am σ) H → va_D A (fm_w ca am σ) → va_S A s.heap H locs → W p l e ({ frames := 1, cells := 0, slots := 0, locals := 22 } : Room) s m args below meth c H locs 0 0 Q (F0 m 0 ls []) from hgo _ _ hP hD hS
  clear hP hD hS
  intro H locs hP hD hS
  refine lv_aload_n hx hb fx_Md_keep_0 rfl (lv_at hl 0 rfl) ?_
  refine va_get (D := D) (ci := 5) (v := .int (fm_mI σ 21)) (C := fn_R_Md) (T := fn_T_Md) (N := 33) hx hb hts fn_j_Md hown hK hP 0 rfl rfl 21 (by decide) (hts _ (List.mem_cons_of_mem _ fq_548)) (fun _ h9 => h9) rfl fx_Md_keep_1 ?_
  refine lv_bipush (v := 6) hx hb fx_Md_keep_4 (by decide) ?_
  refine lv_icmp_ne (tgt := 50) hx hb fx_Md_keep_6 (by decide) (fun c1 => ?_) (fun c1 => ?_)
  · refine lv_aload_n hx hb fx_Md_keep_50 rfl (lv_at hl 0 rfl) ?_
    refine va_get (D := D) (ci := 5) (v := .ref (am 16)) (C := fn_R_Md) (T := fn_T_Md) (N := 33) hx hb hts fn_j_Md hown hK hP 0 rfl rfl 15 (by decide) (hts _ (List.mem_cons_of_mem _ fq_542)) (fun _ h9 => h9) rfl fx_Md_keep_51 ?_
    refine lv_aload_n hx hb fx_Md_keep_54 rfl (lv_at hl 0 rfl) ?_
    refine va_get (D := D) (ci := 5) (v := .int (fm_mI σ 21)) (C := fn_R_Md) (T := fn_T_Md) (N := 33) hx hb hts fn_j_Md hown hK hP 0 rfl rfl 21 (by decide) (hts _ (List.mem_cons_of_mem _ fq_548)) (fun _ h9 => h9) rfl fx_Md_keep_55 ?_
    refine lv_aload_n hx hb fx_Md_keep_58 rfl (lv_at hl 0 rfl) ?_
    refine va_get (D := D) (ci := 5) (v := .int (fm_mI σ 28)) (C := fn_R_Md) (T := fn_T_Md) (N := 33) hx hb hts fn_j_Md hown hK hP 0 rfl rfl 28 (by decide) (hts _ (List.mem_cons_of_mem _ fq_555)) (fun _ h9 => h9) rfl fx_Md_keep_59 ?_
    have hb2 : vp_in (fm_mI σ 21) 7 := fm_kin hI
    refine va_iast (D := D) (x := fm_mI σ 28) hx hb hK hP hD hS 16 15 rfl rfl hb2 fx_Md_keep_62 (fun H locs hP hD hS => ?_)
    rw [fm_set_a_15] at hP hD
    have hI3 : fm_Inv (fm_saI σ 15 (fm_mI σ 21).toNatClampNeg (fm_mI σ 28)) := fm_inv_saI (by decide) hI
    refine lv_aload_n hx hb fx_Md_keep_63 rfl (lv_at hl 0 rfl) ?_
    refine va_get (D := D) (ci := 5) (v := .ref (am 17)) (C := fn_R_Md) (T := fn_T_Md) (N := 33) hx hb hts fn_j_Md hown hK hP 0 rfl rfl 16 (by decide) (hts _ (List.mem_cons_of_mem _ fq_543)) (fun _ h9 => h9) rfl fx_Md_keep_64 ?_
    refine lv_aload_n hx hb fx_Md_keep_67 rfl (lv_at hl 0 rfl) ?_
    refine va_get (D := D) (ci := 5) (v := .int (fm_mI σ 21)) (C := fn_R_Md) (T := fn_T_Md) (N := 33) hx hb hts fn_j_Md hown hK hP 0 rfl rfl 21 (by decide) (hts _ (List.mem_cons_of_mem _ fq_548)) (fun _ h9 => h9) rfl fx_Md_keep_68 ?_
    refine lv_aload_n hx hb fx_Md_keep_71 rfl (lv_at hl 0 rfl) ?_
    refine va_get (D := D) (ci := 5) (v := .int (fm_mI σ 29)) (C := fn_R_Md) (T := fn_T_Md) (N := 33) hx hb hts fn_j_Md hown hK hP 0 rfl rfl 29 (by decide) (hts _ (List.mem_cons_of_mem _ fq_556)) (fun _ h9 => h9) rfl fx_Md_keep_72 ?_
    have hb4 : vp_in (fm_mI σ 21) 7 := fm_kin hI3
    refine va_iast (D := D) (x := fm_mI σ 29) hx hb hK hP hD hS 17 16 rfl rfl hb4 fx_Md_keep_75 (fun H locs hP hD hS => ?_)
    rw [fm_set_a_16] at hP hD
    have hI5 : fm_Inv (fm_saI (fm_saI σ 15 (fm_mI σ 21).toNatClampNeg (fm_mI σ 28)) 16 (fm_mI σ 21).toNatClampNeg (fm_mI σ 29)) := fm_inv_saI (by decide) hI3
    refine lv_aload_n hx hb fx_Md_keep_76 rfl (lv_at hl 0 rfl) ?_
    refine va_get (D := D) (ci := 5) (v := .ref (am 13)) (C := fn_R_Md) (T := fn_T_Md) (N := 33) hx hb hts fn_j_Md hown hK hP 0 rfl rfl 12 (by decide) (hts _ (List.mem_cons_of_mem _ fq_539)) (fun _ h9 => h9) rfl fx_Md_keep_77 ?_
    refine lv_aload_n hx hb fx_Md_keep_80 rfl (lv_at hl 0 rfl) ?_
    refine va_get (D := D) (ci := 5) (v := .int (fm_mI σ 21)) (C := fn_R_Md) (T := fn_T_Md) (N := 33) hx hb hts fn_j_Md hown hK hP 0 rfl rfl 21 (by decide) (hts _ (List.mem_cons_of_mem _ fq_548)) (fun _ h9 => h9) rfl fx_Md_keep_81 ?_
    refine lv_aload_n hx hb fx_Md_keep_84 rfl (lv_at hl 0 rfl) ?_
    refine va_get (D := D) (ci := 5) (v := .int (fd_bi (fm_mZ σ))) (C := fn_R_Md) (T := fn_T_Md) (N := 33) hx hb hts fn_j_Md hown hK hP 0 rfl rfl 32 (by decide) (hts _ (List.mem_cons_of_mem _ fq_559)) (fun _ h9 => h9) rfl fx_Md_keep_85 ?_
    have hb6 : vp_in (fm_mI σ 21) 7 := fm_kin hI5
    refine va_zast (D := D) (x := fd_bi (fm_mZ σ)) hx hb hK hP hD hS 13 12 rfl rfl hb6 fx_Md_keep_88 (fun H locs hP hD hS => ?_)
    rw [fm_set_a_12] at hP hD
    have hI7 : fm_Inv (fm_saZ (fm_saI (fm_saI σ 15 (fm_mI σ 21).toNatClampNeg (fm_mI σ 28)) 16 (fm_mI σ 21).toNatClampNeg (fm_mI σ 29)) 12 (fm_mI σ 21).toNatClampNeg (fm_mZ σ)) := fm_inv_saZ hI5
    refine lv_aload_n hx hb fx_Md_keep_89 rfl (lv_at hl 0 rfl) ?_
    refine va_get (D := D) (ci := 5) (v := .ref (am 18)) (C := fn_R_Md) (T := fn_T_Md) (N := 33) hx hb hts fn_j_Md hown hK hP 0 rfl rfl 17 (by decide) (hts _ (List.mem_cons_of_mem _ fq_544)) (fun _ h9 => h9) rfl fx_Md_keep_90 ?_
    refine lv_aload_n hx hb fx_Md_keep_93 rfl (lv_at hl 0 rfl) ?_
    refine va_get (D := D) (ci := 5) (v := .int (fm_mI σ 21)) (C := fn_R_Md) (T := fn_T_Md) (N := 33) hx hb hts fn_j_Md hown hK hP 0 rfl rfl 21 (by decide) (hts _ (List.mem_cons_of_mem _ fq_548)) (fun _ h9 => h9) rfl fx_Md_keep_94 ?_
    refine lv_aload_n hx hb fx_Md_keep_97 rfl (lv_at hl 0 rfl) ?_
    refine va_get (D := D) (ci := 5) (v := .ref (am 7)) (C := fn_R_Md) (T := fn_T_Md) (N := 33) hx hb hts fn_j_Md hown hK hP 0 rfl rfl 6 (by decide) (hts _ (List.mem_cons_of_mem _ fq_533)) (fun _ h9 => h9) rfl fx_Md_keep_98 ?_
    refine lv_aload_n hx hb fx_Md_keep_101 rfl (lv_at hl 0 rfl) ?_
    refine va_get (D := D) (ci := 5) (v := .int (fm_mI σ 29)) (C := fn_R_Md) (T := fn_T_Md) (N := 33) hx hb hts fn_j_Md hown hK hP 0 rfl rfl 29 (by decide) (hts _ (List.mem_cons_of_mem _ fq_556)) (fun _ h9 => h9) rfl fx_Md_keep_102 ?_
    have hb8 : vp_in (fm_mI σ 29) 48 := hI7.1
    refine va_iald (D := D) hx hb hK hP 7 6 rfl rfl hb8 fx_Md_keep_105 ?_
    refine W.eq (g2 := F0 m 106 ls (.int (fm_aI σ 6 (fm_mI σ 29).toNatClampNeg) :: [.int (fm_mI σ 21), .ref (am 18)])) rfl ?_
    have hb9 : vp_in (fm_mI σ 21) 7 := fm_kin hI7
    refine va_iast (D := D) (x := fm_aI σ 6 (fm_mI σ 29).toNatClampNeg) hx hb hK hP hD hS 18 17 rfl rfl hb9 fx_Md_keep_106 (fun H locs hP hD hS => ?_)
    rw [fm_set_a_17] at hP hD
    have hI10 : fm_Inv (fm_saI (fm_saZ (fm_saI (fm_saI σ 15 (fm_mI σ 21).toNatClampNeg (fm_mI σ 28)) 16 (fm_mI σ 21).toNatClampNeg (fm_mI σ 29)) 12 (fm_mI σ 21).toNatClampNeg (fm_mZ σ)) 17 (fm_mI σ 21).toNatClampNeg (fm_aI σ 6 (fm_mI σ 29).toNatClampNeg)) := fm_inv_saI (by decide) hI7
    refine lv_aload_n hx hb fx_Md_keep_107 rfl (lv_at hl 0 rfl) ?_
    refine va_get (D := D) (ci := 5) (v := .ref (am 19)) (C := fn_R_Md) (T := fn_T_Md) (N := 33) hx hb hts fn_j_Md hown hK hP 0 rfl rfl 18 (by decide) (hts _ (List.mem_cons_of_mem _ fq_545)) (fun _ h9 => h9) rfl fx_Md_keep_108 ?_
    refine lv_aload_n hx hb fx_Md_keep_111 rfl (lv_at hl 0 rfl) ?_
    refine va_get (D := D) (ci := 5) (v := .int (fm_mI σ 21)) (C := fn_R_Md) (T := fn_T_Md) (N := 33) hx hb hts fn_j_Md hown hK hP 0 rfl rfl 21 (by decide) (hts _ (List.mem_cons_of_mem _ fq_548)) (fun _ h9 => h9) rfl fx_Md_keep_112 ?_
    refine lv_aload_n hx hb fx_Md_keep_115 rfl (lv_at hl 0 rfl) ?_
    refine va_get (D := D) (ci := 5) (v := .ref (am 8)) (C := fn_R_Md) (T := fn_T_Md) (N := 33) hx hb hts fn_j_Md hown hK hP 0 rfl rfl 7 (by decide) (hts _ (List.mem_cons_of_mem _ fq_534)) (fun _ h9 => h9) rfl fx_Md_keep_116 ?_
    refine lv_aload_n hx hb fx_Md_keep_119 rfl (lv_at hl 0 rfl) ?_
    refine va_get (D := D) (ci := 5) (v := .int (fm_mI σ 29)) (C := fn_R_Md) (T := fn_T_Md) (N := 33) hx hb hts fn_j_Md hown hK hP 0 rfl rfl 29 (by decide) (hts _ (List.mem_cons_of_mem _ fq_556)) (fun _ h9 => h9) rfl fx_Md_keep_120 ?_
    have hb11 : vp_in (fm_mI σ 29) 48 := hI10.1
    refine va_iald (D := D) hx hb hK hP 8 7 rfl rfl hb11 fx_Md_keep_123 ?_
    refine W.eq (g2 := F0 m 124 ls (.int (fm_aI σ 7 (fm_mI σ 29).toNatClampNeg) :: [.int (fm_mI σ 21), .ref (am 19)])) rfl ?_
    have hb12 : vp_in (fm_mI σ 21) 7 := fm_kin hI10
    refine va_iast (D := D) (x := fm_aI σ 7 (fm_mI σ 29).toNatClampNeg) hx hb hK hP hD hS 19 18 rfl rfl hb12 fx_Md_keep_124 (fun H locs hP hD hS => ?_)
    rw [fm_set_a_18] at hP hD
    have hI13 : fm_Inv (fm_saI (fm_saI (fm_saZ (fm_saI (fm_saI σ 15 (fm_mI σ 21).toNatClampNeg (fm_mI σ 28)) 16 (fm_mI σ 21).toNatClampNeg (fm_mI σ 29)) 12 (fm_mI σ 21).toNatClampNeg (fm_mZ σ)) 17 (fm_mI σ 21).toNatClampNeg (fm_aI σ 6 (fm_mI σ 29).toNatClampNeg)) 18 (fm_mI σ 21).toNatClampNeg (fm_aI σ 7 (fm_mI σ 29).toNatClampNeg)) := fm_inv_saI (by decide) hI10
    refine lv_aload_n hx hb fx_Md_keep_125 rfl (lv_at hl 0 rfl) ?_
    refine va_get (D := D) (ci := 5) (v := .ref (am 15)) (C := fn_R_Md) (T := fn_T_Md) (N := 33) hx hb hts fn_j_Md hown hK hP 0 rfl rfl 14 (by decide) (hts _ (List.mem_cons_of_mem _ fq_541)) (fun _ h9 => h9) rfl fx_Md_keep_126 ?_
    refine lv_aload_n hx hb fx_Md_keep_129 rfl (lv_at hl 0 rfl) ?_
    refine va_get (D := D) (ci := 5) (v := .int (fm_mI σ 21)) (C := fn_R_Md) (T := fn_T_Md) (N := 33) hx hb hts fn_j_Md hown hK hP 0 rfl rfl 21 (by decide) (hts _ (List.mem_cons_of_mem _ fq_548)) (fun _ h9 => h9) rfl fx_Md_keep_130 ?_
    refine lv_aload_n hx hb fx_Md_keep_133 rfl (lv_at hl 0 rfl) ?_
    refine va_get (D := D) (ci := 5) (v := .double (fm_mT σ)) (C := fn_R_Md) (T := fn_T_Md) (N := 33) hx hb hts fn_j_Md hown hK hP 0 rfl rfl 20 (by decide) (hts _ (List.mem_cons_of_mem _ fq_547)) (fun _ h9 => h9) rfl fx_Md_keep_134 ?_
    refine lv_aload_n hx hb fx_Md_keep_137 rfl (lv_at hl 0 rfl) ?_
    refine va_get (D := D) (ci := 5) (v := .ref (am 14)) (C := fn_R_Md) (T := fn_T_Md) (N := 33) hx hb hts fn_j_Md hown hK hP 0 rfl rfl 13 (by decide) (hts _ (List.mem_cons_of_mem _ fq_540)) (fun _ h9 => h9) rfl fx_Md_keep_138 ?_
    refine lv_aload_n hx hb fx_Md_keep_141 rfl (lv_at hl 0 rfl) ?_
    refine va_get (D := D) (ci := 5) (v := .int (fm_mI σ 29)) (C := fn_R_Md) (T := fn_T_Md) (N := 33) hx hb hts fn_j_Md hown hK hP 0 rfl rfl 29 (by decide) (hts _ (List.mem_cons_of_mem _ fq_556)) (fun _ h9 => h9) rfl fx_Md_keep_142 ?_
    have hb14 : vp_in (fm_mI σ 29) 48 := hI13.1
    refine va_dald (D := D) hx hb hK hP 14 13 rfl rfl hb14 fx_Md_keep_145 ?_
    refine W.eq (g2 := F0 m 146 ls (.double (fm_aD σ 13 (fm_mI σ 29).toNatClampNeg) :: [.double (fm_mT σ), .int (fm_mI σ 21), .ref (am 15)])) rfl ?_
    refine lv_ldc2d (v := 4621819117588971520) hx hb hown (hts _ (List.mem_cons_of_mem _ fq_701)) fx_Md_keep_146 ?_
    refine lv_dcmp hx hb fx_Md_keep_149 ?_
    refine lv_if_le (tgt := 159) hx hb fx_Md_keep_150 (by decide) (fun c15 => ?_) (fun c15 => ?_)
    · refine lv_aload_n hx hb fx_Md_keep_159 rfl (lv_at hl 0 rfl) ?_
      refine va_get (D := D) (ci := 5) (v := .ref (am 14)) (C := fn_R_Md) (T := fn_T_Md) (N := 33) hx hb hts fn_j_Md hown hK hP 0 rfl rfl 13 (by decide) (hts _ (List.mem_cons_of_mem _ fq_540)) (fun _ h9 => h9) rfl fx_Md_keep_160 ?_
      refine lv_aload_n hx hb fx_Md_keep_163 rfl (lv_at hl 0 rfl) ?_
      refine va_get (D := D) (ci := 5) (v := .int (fm_mI σ 29)) (C := fn_R_Md) (T := fn_T_Md) (N := 33) hx hb hts fn_j_Md hown hK hP 0 rfl rfl 29 (by decide) (hts _ (List.mem_cons_of_mem _ fq_556)) (fun _ h9 => h9) rfl fx_Md_keep_164 ?_
      have hb16 : vp_in (fm_mI σ 29) 48 := hI13.1
      refine va_dald (D := D) hx hb hK hP 14 13 rfl rfl hb16 fx_Md_keep_167 ?_
      refine W.eq (g2 := F0 m 168 ls (.double (fm_aD σ 13 (fm_mI σ 29).toNatClampNeg) :: [.double (fm_mT σ), .int (fm_mI σ 21), .ref (am 15)])) rfl ?_
      refine lv_dadd hx hb fx_Md_keep_168 (fd_n64 (FP.Core.dadd_out hI13.2.2.2.1 (by first | exact fd_fin10 | exact hI13.2.2.2.2.1 _ (fd_lt hI13.1)))) ?_
      have hb17 : vp_in (fm_mI σ 21) 7 := fm_kin hI13
      refine va_dast (D := D) (x := FP.dadd (fm_mT σ) (fm_aD σ 13 (fm_mI σ 29).toNatClampNeg)) hx hb hK hP hD hS 15 14 rfl rfl hb17 fx_Md_keep_169 (fun H locs hP hD hS => ?_)
      rw [fm_set_a_14] at hP hD
      have hI18 : fm_Inv (fm_saD (fm_saI (fm_saI (fm_saZ (fm_saI (fm_saI σ 15 (fm_mI σ 21).toNatClampNeg (fm_mI σ 28)) 16 (fm_mI σ 21).toNatClampNeg (fm_mI σ 29)) 12 (fm_mI σ 21).toNatClampNeg (fm_mZ σ)) 17 (fm_mI σ 21).toNatClampNeg (fm_aI σ 6 (fm_mI σ 29).toNatClampNeg)) 18 (fm_mI σ 21).toNatClampNeg (fm_aI σ 7 (fm_mI σ 29).toNatClampNeg)) 14 (fm_mI σ 21).toNatClampNeg (FP.dadd (fm_mT σ) (fm_aD σ 13 (fm_mI σ 29).toNatClampNeg))) := fm_inv_end (FP.Core.dadd_out hI13.2.2.2.1 (by first | exact fd_fin10 | exact hI13.2.2.2.2.1 _ (fd_lt hI13.1))) hI13
      refine lv_aload_n hx hb fx_Md_keep_170 rfl (lv_at hl 0 rfl) ?_
      refine lv_dup hx hb fx_Md_keep_171 rfl ?_
      refine va_get (D := D) (ci := 5) (v := .int (fm_mI σ 21)) (C := fn_R_Md) (T := fn_T_Md) (N := 33) hx hb hts fn_j_Md hown hK hP 0 rfl rfl 21 (by decide) (hts _ (List.mem_cons_of_mem _ fq_548)) (fun _ h9 => h9) rfl fx_Md_keep_172 ?_
      refine lv_iconst (v := 1) hx hb fx_Md_keep_175 (by decide) ?_
      refine lv_iadd hx hb fx_Md_keep_176 ?_
      refine va_put (D := D) (ci := 5) (v := .int ((fm_mI σ 21) + 1)) (ty := .int) (C := fn_R_Md) (T := fn_T_Md) (N := 33) hx hb hts fn_j_Md fn_t_Md fn_k_Md fn_n_Md hown hK hP hD hS 0 rfl rfl 21 (by decide) (hts _ (List.mem_cons_of_mem _ fq_548)) (fun _ h9 => h9) rfl (by decide +kernel) rfl rfl (Nat.le_of_ble_eq_true rfl) fx_Md_keep_177 (fun H locs hP hD hS => ?_)
      rw [fm_set_mI_21] at hP hD
      have hI19 : fm_Inv (fm_smI (fm_saD (fm_saI (fm_saI (fm_saZ (fm_saI (fm_saI σ 15 (fm_mI σ 21).toNatClampNeg (fm_mI σ 28)) 16 (fm_mI σ 21).toNatClampNeg (fm_mI σ 29)) 12 (fm_mI σ 21).toNatClampNeg (fm_mZ σ)) 17 (fm_mI σ 21).toNatClampNeg (fm_aI σ 6 (fm_mI σ 29).toNatClampNeg)) 18 (fm_mI σ 21).toNatClampNeg (fm_aI σ 7 (fm_mI σ 29).toNatClampNeg)) 14 (fm_mI σ 21).toNatClampNeg (FP.dadd (fm_mT σ) (fm_aD σ 13 (fm_mI σ 29).toNatClampNeg))) 21 ((fm_mI σ 21) + 1)) := fm_inv_kept (by first | exact fm_kincB hI c1 | exact fm_kincA hI hf c1) hI18
      exact fm_vret (u := fm_smI (fm_saD (fm_saI (fm_saI (fm_saZ (fm_saI (fm_saI σ 15 (fm_mI σ 21).toNatClampNeg (fm_mI σ 28)) 16 (fm_mI σ 21).toNatClampNeg (fm_mI σ 29)) 12 (fm_mI σ 21).toNatClampNeg (fm_mZ σ)) 17 (fm_mI σ 21).toNatClampNeg (fm_aI σ 6 (fm_mI σ 29).toNatClampNeg)) 18 (fm_mI σ 21).toNatClampNeg (fm_aI σ 7 (fm_mI σ 29).toNatClampNeg)) 14 (fm_mI σ 21).toNatClampNeg (FP.dadd (fm_mT σ) (fm_aD σ 13 (fm_mI σ 29).toNatClampNeg))) 21 ((fm_mI σ 21) + 1)) hQ hx hb hr ⟨by rw [fv_Md_keep, if_neg c1, if_pos c15], hI19⟩ hP hD hS fx_Md_keep_180 hlocks
    · refine lv_ldc2d (v := 4621819117588971520) hx hb hown (hts _ (List.mem_cons_of_mem _ fq_701)) fx_Md_keep_153 ?_
      refine lv_goto (tgt := 168) hx hb fx_Md_keep_156 (by decide) ?_
      refine lv_dadd hx hb fx_Md_keep_168 (fd_n64 (FP.Core.dadd_out hI13.2.2.2.1 (by first | exact fd_fin10 | exact hI13.2.2.2.2.1 _ (fd_lt hI13.1)))) ?_
      have hb20 : vp_in (fm_mI σ 21) 7 := fm_kin hI13
      refine va_dast (D := D) (x := FP.dadd (fm_mT σ) 4621819117588971520) hx hb hK hP hD hS 15 14 rfl rfl hb20 fx_Md_keep_169 (fun H locs hP hD hS => ?_)
      rw [fm_set_a_14] at hP hD
      have hI21 : fm_Inv (fm_saD (fm_saI (fm_saI (fm_saZ (fm_saI (fm_saI σ 15 (fm_mI σ 21).toNatClampNeg (fm_mI σ 28)) 16 (fm_mI σ 21).toNatClampNeg (fm_mI σ 29)) 12 (fm_mI σ 21).toNatClampNeg (fm_mZ σ)) 17 (fm_mI σ 21).toNatClampNeg (fm_aI σ 6 (fm_mI σ 29).toNatClampNeg)) 18 (fm_mI σ 21).toNatClampNeg (fm_aI σ 7 (fm_mI σ 29).toNatClampNeg)) 14 (fm_mI σ 21).toNatClampNeg (FP.dadd (fm_mT σ) 4621819117588971520)) := fm_inv_end (FP.Core.dadd_out hI13.2.2.2.1 (by first | exact fd_fin10 | exact hI13.2.2.2.2.1 _ (fd_lt hI13.1))) hI13
      refine lv_aload_n hx hb fx_Md_keep_170 rfl (lv_at hl 0 rfl) ?_
      refine lv_dup hx hb fx_Md_keep_171 rfl ?_
      refine va_get (D := D) (ci := 5) (v := .int (fm_mI σ 21)) (C := fn_R_Md) (T := fn_T_Md) (N := 33) hx hb hts fn_j_Md hown hK hP 0 rfl rfl 21 (by decide) (hts _ (List.mem_cons_of_mem _ fq_548)) (fun _ h9 => h9) rfl fx_Md_keep_172 ?_
      refine lv_iconst (v := 1) hx hb fx_Md_keep_175 (by decide) ?_
      refine lv_iadd hx hb fx_Md_keep_176 ?_
      refine va_put (D := D) (ci := 5) (v := .int ((fm_mI σ 21) + 1)) (ty := .int) (C := fn_R_Md) (T := fn_T_Md) (N := 33) hx hb hts fn_j_Md fn_t_Md fn_k_Md fn_n_Md hown hK hP hD hS 0 rfl rfl 21 (by decide) (hts _ (List.mem_cons_of_mem _ fq_548)) (fun _ h9 => h9) rfl (by decide +kernel) rfl rfl (Nat.le_of_ble_eq_true rfl) fx_Md_keep_177 (fun H locs hP hD hS => ?_)
      rw [fm_set_mI_21] at hP hD
      have hI22 : fm_Inv (fm_smI (fm_saD (fm_saI (fm_saI (fm_saZ (fm_saI (fm_saI σ 15 (fm_mI σ 21).toNatClampNeg (fm_mI σ 28)) 16 (fm_mI σ 21).toNatClampNeg (fm_mI σ 29)) 12 (fm_mI σ 21).toNatClampNeg (fm_mZ σ)) 17 (fm_mI σ 21).toNatClampNeg (fm_aI σ 6 (fm_mI σ 29).toNatClampNeg)) 18 (fm_mI σ 21).toNatClampNeg (fm_aI σ 7 (fm_mI σ 29).toNatClampNeg)) 14 (fm_mI σ 21).toNatClampNeg (FP.dadd (fm_mT σ) 4621819117588971520)) 21 ((fm_mI σ 21) + 1)) := fm_inv_kept (by first | exact fm_kincB hI c1 | exact fm_kincA hI hf c1) hI21
      exact fm_vret (u := fm_smI (fm_saD (fm_saI (fm_saI (fm_saZ (fm_saI (fm_saI σ 15 (fm_mI σ 21).toNatClampNeg (fm_mI σ 28)) 16 (fm_mI σ 21).toNatClampNeg (fm_mI σ 29)) 12 (fm_mI σ 21).toNatClampNeg (fm_mZ σ)) 17 (fm_mI σ 21).toNatClampNeg (fm_aI σ 6 (fm_mI σ 29).toNatClampNeg)) 18 (fm_mI σ 21).toNatClampNeg (fm_aI σ 7 (fm_mI σ 29).toNatClampNeg)) 14 (fm_mI σ 21).toNatClampNeg (FP.dadd (fm_mT σ) 4621819117588971520)) 21 ((fm_mI σ 21) + 1)) hQ hx hb hr ⟨by rw [fv_Md_keep, if_neg c1, if_neg c15], hI22⟩ hP hD hS fx_Md_keep_180 hlocks
  · refine lv_iconst (v := 0) hx hb fx_Md_keep_9 (by decide) ?_
    refine lv_istore_n (lv' := [(1, .int 0), (0, .ref (am 0))]) hx hb fx_Md_keep_10 rfl hl (by decide) rfl (fun ls hl => ?_)
    refine lv_iconst (v := 1) hx hb fx_Md_keep_11 (by decide) ?_
    refine lv_istore_n (lv' := [(2, .int 1), (1, .int 0), (0, .ref (am 0))]) hx hb fx_Md_keep_12 rfl hl (by decide) rfl (fun ls hl => ?_)
    have hL13 : ∀ (n : Nat) (f : Int32) (i : Int32), (∃ k : Nat, k < 6 ∧ f = nI k) → (∃ k : Nat, k ≤ 6 ∧ 7 ≤ n + k ∧ i = nI k) → fv_Md_keep σ = fv_Md_keep_l13 n σ f i → ∀ (H : Heap) (locs : List Loc), va_P D fn_cl (fm_w ca am σ) H → va_D A (fm_w ca am σ) → va_S A s.heap H locs → ∀ (ls : Array Slot), lv_has ls 3 [(2, .int i), (1, .int f), (0, .ref (am 0))] → W p l e ({ frames := 1, cells := 0, slots := 0, locals := 22 } : Room) s m args below meth c H locs 0 0 Q (F0 m 13 ls []) := by
      intro n
      induction n with
      | zero =>
        intro f i hf hi
        obtain ⟨k, h1, h2, -⟩ := hi; omega
      | succ n ih =>
        intro f i hf hi hm13 H locs hP hD hS ls hl
        refine lv_iload_n hx hb fx_Md_keep_13 rfl (lv_at hl 0 rfl) ?_
        refine lv_aload_n hx hb fx_Md_keep_14 rfl (lv_at hl 2 rfl) ?_
        refine va_get (D := D) (ci := 5) (v := .int (fm_mI σ 21)) (C := fn_R_Md) (T := fn_T_Md) (N := 33) hx hb hts fn_j_Md hown hK hP 0 rfl rfl 21 (by decide) (hts _ (List.mem_cons_of_mem _ fq_548)) (fun _ h9 => h9) rfl fx_Md_keep_15 ?_
        refine lv_icmp_ge (tgt := 45) hx hb fx_Md_keep_18 (by decide) (fun c23 => ?_) (fun c23 => ?_)
        · refine lv_aload_n hx hb fx_Md_keep_45 rfl (lv_at hl 2 rfl) ?_
          refine lv_iload_n hx hb fx_Md_keep_46 rfl (lv_at hl 1 rfl) ?_
          refine fm_callvm (va_runV (As := [.int f]) (rest := []) ⟨hx, hb, hml, hown, hts⟩ (fc_Md_forget l D ca am H.size σ f hI hf (⟨5, by decide, c1⟩)) ⟨callB_of 1 hts (fb_good fm_Md_forget) rfl rfl rfl (hts _ (List.mem_cons_of_mem _ fq_6)) (hts _ (List.mem_cons_of_mem _ fq_689)) (by decide +kernel) ⟨Nat.le_of_ble_eq_true rfl, Nat.le_of_ble_eq_true rfl⟩, (hts _ (List.mem_cons_of_mem _ fq_691)), (hts _ (List.mem_cons_of_mem _ fp_Md_forget))⟩ (fm_preV hP hK hD hN (va_recv hK hP (ci := 5) (q0 := 0) rfl rfl)) rfl rfl hl.1 rfl (lv_room (Nat.le_of_ble_eq_true rfl)) fx_Md_keep_47 ⟨Nat.le_of_ble_eq_true rfl, Nat.le_of_ble_eq_true rfl⟩) hD hS hA (fun H locs hP hD hS hI24 => ?_)
          refine lv_aload_n hx hb fx_Md_keep_50 rfl (lv_at hl 2 rfl) ?_
          refine va_get (D := D) (ci := 5) (v := .ref (am 16)) (C := fn_R_Md) (T := fn_T_Md) (N := 33) hx hb hts fn_j_Md hown hK hP 0 rfl rfl 15 (by decide) (hts _ (List.mem_cons_of_mem _ fq_542)) (fun _ h9 => h9) rfl fx_Md_keep_51 ?_
          refine lv_aload_n hx hb fx_Md_keep_54 rfl (lv_at hl 2 rfl) ?_
          refine va_get (D := D) (ci := 5) (v := .int (fm_mI (fv_Md_forget σ f) 21)) (C := fn_R_Md) (T := fn_T_Md) (N := 33) hx hb hts fn_j_Md hown hK hP 0 rfl rfl 21 (by decide) (hts _ (List.mem_cons_of_mem _ fq_548)) (fun _ h9 => h9) rfl fx_Md_keep_55 ?_
          refine lv_aload_n hx hb fx_Md_keep_58 rfl (lv_at hl 2 rfl) ?_
          refine va_get (D := D) (ci := 5) (v := .int (fm_mI (fv_Md_forget σ f) 28)) (C := fn_R_Md) (T := fn_T_Md) (N := 33) hx hb hts fn_j_Md hown hK hP 0 rfl rfl 28 (by decide) (hts _ (List.mem_cons_of_mem _ fq_555)) (fun _ h9 => h9) rfl fx_Md_keep_59 ?_
          have hb25 : vp_in (fm_mI (fv_Md_forget σ f) 21) 7 := fm_kin hI24
          refine va_iast (D := D) (x := fm_mI (fv_Md_forget σ f) 28) hx hb hK hP hD hS 16 15 rfl rfl hb25 fx_Md_keep_62 (fun H locs hP hD hS => ?_)
          rw [fm_set_a_15] at hP hD
          have hI26 : fm_Inv (fm_saI (fv_Md_forget σ f) 15 (fm_mI (fv_Md_forget σ f) 21).toNatClampNeg (fm_mI (fv_Md_forget σ f) 28)) := fm_inv_saI (by decide) hI24
          refine lv_aload_n hx hb fx_Md_keep_63 rfl (lv_at hl 2 rfl) ?_
          refine va_get (D := D) (ci := 5) (v := .ref (am 17)) (C := fn_R_Md) (T := fn_T_Md) (N := 33) hx hb hts fn_j_Md hown hK hP 0 rfl rfl 16 (by decide) (hts _ (List.mem_cons_of_mem _ fq_543)) (fun _ h9 => h9) rfl fx_Md_keep_64 ?_
          refine lv_aload_n hx hb fx_Md_keep_67 rfl (lv_at hl 2 rfl) ?_
          refine va_get (D := D) (ci := 5) (v := .int (fm_mI (fv_Md_forget σ f) 21)) (C := fn_R_Md) (T := fn_T_Md) (N := 33) hx hb hts fn_j_Md hown hK hP 0 rfl rfl 21 (by decide) (hts _ (List.mem_cons_of_mem _ fq_548)) (fun _ h9 => h9) rfl fx_Md_keep_68 ?_
          refine lv_aload_n hx hb fx_Md_keep_71 rfl (lv_at hl 2 rfl) ?_
          refine va_get (D := D) (ci := 5) (v := .int (fm_mI (fv_Md_forget σ f) 29)) (C := fn_R_Md) (T := fn_T_Md) (N := 33) hx hb hts fn_j_Md hown hK hP 0 rfl rfl 29 (by decide) (hts _ (List.mem_cons_of_mem _ fq_556)) (fun _ h9 => h9) rfl fx_Md_keep_72 ?_
          have hb27 : vp_in (fm_mI (fv_Md_forget σ f) 21) 7 := fm_kin hI26
          refine va_iast (D := D) (x := fm_mI (fv_Md_forget σ f) 29) hx hb hK hP hD hS 17 16 rfl rfl hb27 fx_Md_keep_75 (fun H locs hP hD hS => ?_)
          rw [fm_set_a_16] at hP hD
          have hI28 : fm_Inv (fm_saI (fm_saI (fv_Md_forget σ f) 15 (fm_mI (fv_Md_forget σ f) 21).toNatClampNeg (fm_mI (fv_Md_forget σ f) 28)) 16 (fm_mI (fv_Md_forget σ f) 21).toNatClampNeg (fm_mI (fv_Md_forget σ f) 29)) := fm_inv_saI (by decide) hI26
          refine lv_aload_n hx hb fx_Md_keep_76 rfl (lv_at hl 2 rfl) ?_
          refine va_get (D := D) (ci := 5) (v := .ref (am 13)) (C := fn_R_Md) (T := fn_T_Md) (N := 33) hx hb hts fn_j_Md hown hK hP 0 rfl rfl 12 (by decide) (hts _ (List.mem_cons_of_mem _ fq_539)) (fun _ h9 => h9) rfl fx_Md_keep_77 ?_
          refine lv_aload_n hx hb fx_Md_keep_80 rfl (lv_at hl 2 rfl) ?_
          refine va_get (D := D) (ci := 5) (v := .int (fm_mI (fv_Md_forget σ f) 21)) (C := fn_R_Md) (T := fn_T_Md) (N := 33) hx hb hts fn_j_Md hown hK hP 0 rfl rfl 21 (by decide) (hts _ (List.mem_cons_of_mem _ fq_548)) (fun _ h9 => h9) rfl fx_Md_keep_81 ?_
          refine lv_aload_n hx hb fx_Md_keep_84 rfl (lv_at hl 2 rfl) ?_
          refine va_get (D := D) (ci := 5) (v := .int (fd_bi (fm_mZ (fv_Md_forget σ f)))) (C := fn_R_Md) (T := fn_T_Md) (N := 33) hx hb hts fn_j_Md hown hK hP 0 rfl rfl 32 (by decide) (hts _ (List.mem_cons_of_mem _ fq_559)) (fun _ h9 => h9) rfl fx_Md_keep_85 ?_
          have hb29 : vp_in (fm_mI (fv_Md_forget σ f) 21) 7 := fm_kin hI28
          refine va_zast (D := D) (x := fd_bi (fm_mZ (fv_Md_forget σ f))) hx hb hK hP hD hS 13 12 rfl rfl hb29 fx_Md_keep_88 (fun H locs hP hD hS => ?_)
          rw [fm_set_a_12] at hP hD
          have hI30 : fm_Inv (fm_saZ (fm_saI (fm_saI (fv_Md_forget σ f) 15 (fm_mI (fv_Md_forget σ f) 21).toNatClampNeg (fm_mI (fv_Md_forget σ f) 28)) 16 (fm_mI (fv_Md_forget σ f) 21).toNatClampNeg (fm_mI (fv_Md_forget σ f) 29)) 12 (fm_mI (fv_Md_forget σ f) 21).toNatClampNeg (fm_mZ (fv_Md_forget σ f))) := fm_inv_saZ hI28
          refine lv_aload_n hx hb fx_Md_keep_89 rfl (lv_at hl 2 rfl) ?_
          refine va_get (D := D) (ci := 5) (v := .ref (am 18)) (C := fn_R_Md) (T := fn_T_Md) (N := 33) hx hb hts fn_j_Md hown hK hP 0 rfl rfl 17 (by decide) (hts _ (List.mem_cons_of_mem _ fq_544)) (fun _ h9 => h9) rfl fx_Md_keep_90 ?_
          refine lv_aload_n hx hb fx_Md_keep_93 rfl (lv_at hl 2 rfl) ?_
          refine va_get (D := D) (ci := 5) (v := .int (fm_mI (fv_Md_forget σ f) 21)) (C := fn_R_Md) (T := fn_T_Md) (N := 33) hx hb hts fn_j_Md hown hK hP 0 rfl rfl 21 (by decide) (hts _ (List.mem_cons_of_mem _ fq_548)) (fun _ h9 => h9) rfl fx_Md_keep_94 ?_
          refine lv_aload_n hx hb fx_Md_keep_97 rfl (lv_at hl 2 rfl) ?_
          refine va_get (D := D) (ci := 5) (v := .ref (am 7)) (C := fn_R_Md) (T := fn_T_Md) (N := 33) hx hb hts fn_j_Md hown hK hP 0 rfl rfl 6 (by decide) (hts _ (List.mem_cons_of_mem _ fq_533)) (fun _ h9 => h9) rfl fx_Md_keep_98 ?_
          refine lv_aload_n hx hb fx_Md_keep_101 rfl (lv_at hl 2 rfl) ?_
          refine va_get (D := D) (ci := 5) (v := .int (fm_mI (fv_Md_forget σ f) 29)) (C := fn_R_Md) (T := fn_T_Md) (N := 33) hx hb hts fn_j_Md hown hK hP 0 rfl rfl 29 (by decide) (hts _ (List.mem_cons_of_mem _ fq_556)) (fun _ h9 => h9) rfl fx_Md_keep_102 ?_
          have hb31 : vp_in (fm_mI (fv_Md_forget σ f) 29) 48 := hI30.1
          refine va_iald (D := D) hx hb hK hP 7 6 rfl rfl hb31 fx_Md_keep_105 ?_
          refine W.eq (g2 := F0 m 106 ls (.int (fm_aI (fv_Md_forget σ f) 6 (fm_mI (fv_Md_forget σ f) 29).toNatClampNeg) :: [.int (fm_mI (fv_Md_forget σ f) 21), .ref (am 18)])) rfl ?_
          have hb32 : vp_in (fm_mI (fv_Md_forget σ f) 21) 7 := fm_kin hI30
          refine va_iast (D := D) (x := fm_aI (fv_Md_forget σ f) 6 (fm_mI (fv_Md_forget σ f) 29).toNatClampNeg) hx hb hK hP hD hS 18 17 rfl rfl hb32 fx_Md_keep_106 (fun H locs hP hD hS => ?_)
          rw [fm_set_a_17] at hP hD
          have hI33 : fm_Inv (fm_saI (fm_saZ (fm_saI (fm_saI (fv_Md_forget σ f) 15 (fm_mI (fv_Md_forget σ f) 21).toNatClampNeg (fm_mI (fv_Md_forget σ f) 28)) 16 (fm_mI (fv_Md_forget σ f) 21).toNatClampNeg (fm_mI (fv_Md_forget σ f) 29)) 12 (fm_mI (fv_Md_forget σ f) 21).toNatClampNeg (fm_mZ (fv_Md_forget σ f))) 17 (fm_mI (fv_Md_forget σ f) 21).toNatClampNeg (fm_aI (fv_Md_forget σ f) 6 (fm_mI (fv_Md_forget σ f) 29).toNatClampNeg)) := fm_inv_saI (by decide) hI30
          refine lv_aload_n hx hb fx_Md_keep_107 rfl (lv_at hl 2 rfl) ?_
          refine va_get (D := D) (ci := 5) (v := .ref (am 19)) (C := fn_R_Md) (T := fn_T_Md) (N := 33) hx hb hts fn_j_Md hown hK hP 0 rfl rfl 18 (by decide) (hts _ (List.mem_cons_of_mem _ fq_545)) (fun _ h9 => h9) rfl fx_Md_keep_108 ?_
          refine lv_aload_n hx hb fx_Md_keep_111 rfl (lv_at hl 2 rfl) ?_
          refine va_get (D := D) (ci := 5) (v := .int (fm_mI (fv_Md_forget σ f) 21)) (C := fn_R_Md) (T := fn_T_Md) (N := 33) hx hb hts fn_j_Md hown hK hP 0 rfl rfl 21 (by decide) (hts _ (List.mem_cons_of_mem _ fq_548)) (fun _ h9 => h9) rfl fx_Md_keep_112 ?_
          refine lv_aload_n hx hb fx_Md_keep_115 rfl (lv_at hl 2 rfl) ?_
          refine va_get (D := D) (ci := 5) (v := .ref (am 8)) (C := fn_R_Md) (T := fn_T_Md) (N := 33) hx hb hts fn_j_Md hown hK hP 0 rfl rfl 7 (by decide) (hts _ (List.mem_cons_of_mem _ fq_534)) (fun _ h9 => h9) rfl fx_Md_keep_116 ?_
          refine lv_aload_n hx hb fx_Md_keep_119 rfl (lv_at hl 2 rfl) ?_
          refine va_get (D := D) (ci := 5) (v := .int (fm_mI (fv_Md_forget σ f) 29)) (C := fn_R_Md) (T := fn_T_Md) (N := 33) hx hb hts fn_j_Md hown hK hP 0 rfl rfl 29 (by decide) (hts _ (List.mem_cons_of_mem _ fq_556)) (fun _ h9 => h9) rfl fx_Md_keep_120 ?_
          have hb34 : vp_in (fm_mI (fv_Md_forget σ f) 29) 48 := hI33.1
          refine va_iald (D := D) hx hb hK hP 8 7 rfl rfl hb34 fx_Md_keep_123 ?_
          refine W.eq (g2 := F0 m 124 ls (.int (fm_aI (fv_Md_forget σ f) 7 (fm_mI (fv_Md_forget σ f) 29).toNatClampNeg) :: [.int (fm_mI (fv_Md_forget σ f) 21), .ref (am 19)])) rfl ?_
          have hb35 : vp_in (fm_mI (fv_Md_forget σ f) 21) 7 := fm_kin hI33
          refine va_iast (D := D) (x := fm_aI (fv_Md_forget σ f) 7 (fm_mI (fv_Md_forget σ f) 29).toNatClampNeg) hx hb hK hP hD hS 19 18 rfl rfl hb35 fx_Md_keep_124 (fun H locs hP hD hS => ?_)
          rw [fm_set_a_18] at hP hD
          have hI36 : fm_Inv (fm_saI (fm_saI (fm_saZ (fm_saI (fm_saI (fv_Md_forget σ f) 15 (fm_mI (fv_Md_forget σ f) 21).toNatClampNeg (fm_mI (fv_Md_forget σ f) 28)) 16 (fm_mI (fv_Md_forget σ f) 21).toNatClampNeg (fm_mI (fv_Md_forget σ f) 29)) 12 (fm_mI (fv_Md_forget σ f) 21).toNatClampNeg (fm_mZ (fv_Md_forget σ f))) 17 (fm_mI (fv_Md_forget σ f) 21).toNatClampNeg (fm_aI (fv_Md_forget σ f) 6 (fm_mI (fv_Md_forget σ f) 29).toNatClampNeg)) 18 (fm_mI (fv_Md_forget σ f) 21).toNatClampNeg (fm_aI (fv_Md_forget σ f) 7 (fm_mI (fv_Md_forget σ f) 29).toNatClampNeg)) := fm_inv_saI (by decide) hI33
          refine lv_aload_n hx hb fx_Md_keep_125 rfl (lv_at hl 2 rfl) ?_
          refine va_get (D := D) (ci := 5) (v := .ref (am 15)) (C := fn_R_Md) (T := fn_T_Md) (N := 33) hx hb hts fn_j_Md hown hK hP 0 rfl rfl 14 (by decide) (hts _ (List.mem_cons_of_mem _ fq_541)) (fun _ h9 => h9) rfl fx_Md_keep_126 ?_
          refine lv_aload_n hx hb fx_Md_keep_129 rfl (lv_at hl 2 rfl) ?_
          refine va_get (D := D) (ci := 5) (v := .int (fm_mI (fv_Md_forget σ f) 21)) (C := fn_R_Md) (T := fn_T_Md) (N := 33) hx hb hts fn_j_Md hown hK hP 0 rfl rfl 21 (by decide) (hts _ (List.mem_cons_of_mem _ fq_548)) (fun _ h9 => h9) rfl fx_Md_keep_130 ?_
          refine lv_aload_n hx hb fx_Md_keep_133 rfl (lv_at hl 2 rfl) ?_
          refine va_get (D := D) (ci := 5) (v := .double (fm_mT (fv_Md_forget σ f))) (C := fn_R_Md) (T := fn_T_Md) (N := 33) hx hb hts fn_j_Md hown hK hP 0 rfl rfl 20 (by decide) (hts _ (List.mem_cons_of_mem _ fq_547)) (fun _ h9 => h9) rfl fx_Md_keep_134 ?_
          refine lv_aload_n hx hb fx_Md_keep_137 rfl (lv_at hl 2 rfl) ?_
          refine va_get (D := D) (ci := 5) (v := .ref (am 14)) (C := fn_R_Md) (T := fn_T_Md) (N := 33) hx hb hts fn_j_Md hown hK hP 0 rfl rfl 13 (by decide) (hts _ (List.mem_cons_of_mem _ fq_540)) (fun _ h9 => h9) rfl fx_Md_keep_138 ?_
          refine lv_aload_n hx hb fx_Md_keep_141 rfl (lv_at hl 2 rfl) ?_
          refine va_get (D := D) (ci := 5) (v := .int (fm_mI (fv_Md_forget σ f) 29)) (C := fn_R_Md) (T := fn_T_Md) (N := 33) hx hb hts fn_j_Md hown hK hP 0 rfl rfl 29 (by decide) (hts _ (List.mem_cons_of_mem _ fq_556)) (fun _ h9 => h9) rfl fx_Md_keep_142 ?_
          have hb37 : vp_in (fm_mI (fv_Md_forget σ f) 29) 48 := hI36.1
          refine va_dald (D := D) hx hb hK hP 14 13 rfl rfl hb37 fx_Md_keep_145 ?_
          refine W.eq (g2 := F0 m 146 ls (.double (fm_aD (fv_Md_forget σ f) 13 (fm_mI (fv_Md_forget σ f) 29).toNatClampNeg) :: [.double (fm_mT (fv_Md_forget σ f)), .int (fm_mI (fv_Md_forget σ f) 21), .ref (am 15)])) rfl ?_
          refine lv_ldc2d (v := 4621819117588971520) hx hb hown (hts _ (List.mem_cons_of_mem _ fq_701)) fx_Md_keep_146 ?_
          refine lv_dcmp hx hb fx_Md_keep_149 ?_
          refine lv_if_le (tgt := 159) hx hb fx_Md_keep_150 (by decide) (fun c38 => ?_) (fun c38 => ?_)
          · refine lv_aload_n hx hb fx_Md_keep_159 rfl (lv_at hl 2 rfl) ?_
            refine va_get (D := D) (ci := 5) (v := .ref (am 14)) (C := fn_R_Md) (T := fn_T_Md) (N := 33) hx hb hts fn_j_Md hown hK hP 0 rfl rfl 13 (by decide) (hts _ (List.mem_cons_of_mem _ fq_540)) (fun _ h9 => h9) rfl fx_Md_keep_160 ?_
            refine lv_aload_n hx hb fx_Md_keep_163 rfl (lv_at hl 2 rfl) ?_
            refine va_get (D := D) (ci := 5) (v := .int (fm_mI (fv_Md_forget σ f) 29)) (C := fn_R_Md) (T := fn_T_Md) (N := 33) hx hb hts fn_j_Md hown hK hP 0 rfl rfl 29 (by decide) (hts _ (List.mem_cons_of_mem _ fq_556)) (fun _ h9 => h9) rfl fx_Md_keep_164 ?_
            have hb39 : vp_in (fm_mI (fv_Md_forget σ f) 29) 48 := hI36.1
            refine va_dald (D := D) hx hb hK hP 14 13 rfl rfl hb39 fx_Md_keep_167 ?_
            refine W.eq (g2 := F0 m 168 ls (.double (fm_aD (fv_Md_forget σ f) 13 (fm_mI (fv_Md_forget σ f) 29).toNatClampNeg) :: [.double (fm_mT (fv_Md_forget σ f)), .int (fm_mI (fv_Md_forget σ f) 21), .ref (am 15)])) rfl ?_
            refine lv_dadd hx hb fx_Md_keep_168 (fd_n64 (FP.Core.dadd_out hI36.2.2.2.1 (by first | exact fd_fin10 | exact hI36.2.2.2.2.1 _ (fd_lt hI36.1)))) ?_
            have hb40 : vp_in (fm_mI (fv_Md_forget σ f) 21) 7 := fm_kin hI36
            refine va_dast (D := D) (x := FP.dadd (fm_mT (fv_Md_forget σ f)) (fm_aD (fv_Md_forget σ f) 13 (fm_mI (fv_Md_forget σ f) 29).toNatClampNeg)) hx hb hK hP hD hS 15 14 rfl rfl hb40 fx_Md_keep_169 (fun H locs hP hD hS => ?_)
            rw [fm_set_a_14] at hP hD
            have hI41 : fm_Inv (fm_saD (fm_saI (fm_saI (fm_saZ (fm_saI (fm_saI (fv_Md_forget σ f) 15 (fm_mI (fv_Md_forget σ f) 21).toNatClampNeg (fm_mI (fv_Md_forget σ f) 28)) 16 (fm_mI (fv_Md_forget σ f) 21).toNatClampNeg (fm_mI (fv_Md_forget σ f) 29)) 12 (fm_mI (fv_Md_forget σ f) 21).toNatClampNeg (fm_mZ (fv_Md_forget σ f))) 17 (fm_mI (fv_Md_forget σ f) 21).toNatClampNeg (fm_aI (fv_Md_forget σ f) 6 (fm_mI (fv_Md_forget σ f) 29).toNatClampNeg)) 18 (fm_mI (fv_Md_forget σ f) 21).toNatClampNeg (fm_aI (fv_Md_forget σ f) 7 (fm_mI (fv_Md_forget σ f) 29).toNatClampNeg)) 14 (fm_mI (fv_Md_forget σ f) 21).toNatClampNeg (FP.dadd (fm_mT (fv_Md_forget σ f)) (fm_aD (fv_Md_forget σ f) 13 (fm_mI (fv_Md_forget σ f) 29).toNatClampNeg))) := fm_inv_end (FP.Core.dadd_out hI36.2.2.2.1 (by first | exact fd_fin10 | exact hI36.2.2.2.2.1 _ (fd_lt hI36.1))) hI36
            refine lv_aload_n hx hb fx_Md_keep_170 rfl (lv_at hl 2 rfl) ?_
            refine lv_dup hx hb fx_Md_keep_171 rfl ?_
            refine va_get (D := D) (ci := 5) (v := .int (fm_mI (fv_Md_forget σ f) 21)) (C := fn_R_Md) (T := fn_T_Md) (N := 33) hx hb hts fn_j_Md hown hK hP 0 rfl rfl 21 (by decide) (hts _ (List.mem_cons_of_mem _ fq_548)) (fun _ h9 => h9) rfl fx_Md_keep_172 ?_
            refine lv_iconst (v := 1) hx hb fx_Md_keep_175 (by decide) ?_
            refine lv_iadd hx hb fx_Md_keep_176 ?_
            refine va_put (D := D) (ci := 5) (v := .int ((fm_mI (fv_Md_forget σ f) 21) + 1)) (ty := .int) (C := fn_R_Md) (T := fn_T_Md) (N := 33) hx hb hts fn_j_Md fn_t_Md fn_k_Md fn_n_Md hown hK hP hD hS 0 rfl rfl 21 (by decide) (hts _ (List.mem_cons_of_mem _ fq_548)) (fun _ h9 => h9) rfl (by decide +kernel) rfl rfl (Nat.le_of_ble_eq_true rfl) fx_Md_keep_177 (fun H locs hP hD hS => ?_)
            rw [fm_set_mI_21] at hP hD
            have hI42 : fm_Inv (fm_smI (fm_saD (fm_saI (fm_saI (fm_saZ (fm_saI (fm_saI (fv_Md_forget σ f) 15 (fm_mI (fv_Md_forget σ f) 21).toNatClampNeg (fm_mI (fv_Md_forget σ f) 28)) 16 (fm_mI (fv_Md_forget σ f) 21).toNatClampNeg (fm_mI (fv_Md_forget σ f) 29)) 12 (fm_mI (fv_Md_forget σ f) 21).toNatClampNeg (fm_mZ (fv_Md_forget σ f))) 17 (fm_mI (fv_Md_forget σ f) 21).toNatClampNeg (fm_aI (fv_Md_forget σ f) 6 (fm_mI (fv_Md_forget σ f) 29).toNatClampNeg)) 18 (fm_mI (fv_Md_forget σ f) 21).toNatClampNeg (fm_aI (fv_Md_forget σ f) 7 (fm_mI (fv_Md_forget σ f) 29).toNatClampNeg)) 14 (fm_mI (fv_Md_forget σ f) 21).toNatClampNeg (FP.dadd (fm_mT (fv_Md_forget σ f)) (fm_aD (fv_Md_forget σ f) 13 (fm_mI (fv_Md_forget σ f) 29).toNatClampNeg))) 21 ((fm_mI (fv_Md_forget σ f) 21) + 1)) := fm_inv_kept (by first | exact fm_kincB hI c1 | exact fm_kincA hI hf c1) hI41
            exact fm_vret (u := fm_smI (fm_saD (fm_saI (fm_saI (fm_saZ (fm_saI (fm_saI (fv_Md_forget σ f) 15 (fm_mI (fv_Md_forget σ f) 21).toNatClampNeg (fm_mI (fv_Md_forget σ f) 28)) 16 (fm_mI (fv_Md_forget σ f) 21).toNatClampNeg (fm_mI (fv_Md_forget σ f) 29)) 12 (fm_mI (fv_Md_forget σ f) 21).toNatClampNeg (fm_mZ (fv_Md_forget σ f))) 17 (fm_mI (fv_Md_forget σ f) 21).toNatClampNeg (fm_aI (fv_Md_forget σ f) 6 (fm_mI (fv_Md_forget σ f) 29).toNatClampNeg)) 18 (fm_mI (fv_Md_forget σ f) 21).toNatClampNeg (fm_aI (fv_Md_forget σ f) 7 (fm_mI (fv_Md_forget σ f) 29).toNatClampNeg)) 14 (fm_mI (fv_Md_forget σ f) 21).toNatClampNeg (FP.dadd (fm_mT (fv_Md_forget σ f)) (fm_aD (fv_Md_forget σ f) 13 (fm_mI (fv_Md_forget σ f) 29).toNatClampNeg))) 21 ((fm_mI (fv_Md_forget σ f) 21) + 1)) hQ hx hb hr ⟨by rw [hm13, fv_Md_keep_l13, if_pos c23, if_pos c38], hI42⟩ hP hD hS fx_Md_keep_180 hlocks
          · refine lv_ldc2d (v := 4621819117588971520) hx hb hown (hts _ (List.mem_cons_of_mem _ fq_701)) fx_Md_keep_153 ?_
            refine lv_goto (tgt := 168) hx hb fx_Md_keep_156 (by decide) ?_
            refine lv_dadd hx hb fx_Md_keep_168 (fd_n64 (FP.Core.dadd_out hI36.2.2.2.1 (by first | exact fd_fin10 | exact hI36.2.2.2.2.1 _ (fd_lt hI36.1)))) ?_
            have hb43 : vp_in (fm_mI (fv_Md_forget σ f) 21) 7 := fm_kin hI36
            refine va_dast (D := D) (x := FP.dadd (fm_mT (fv_Md_forget σ f)) 4621819117588971520) hx hb hK hP hD hS 15 14 rfl rfl hb43 fx_Md_keep_169 (fun H locs hP hD hS => ?_)
            rw [fm_set_a_14] at hP hD
            have hI44 : fm_Inv (fm_saD (fm_saI (fm_saI (fm_saZ (fm_saI (fm_saI (fv_Md_forget σ f) 15 (fm_mI (fv_Md_forget σ f) 21).toNatClampNeg (fm_mI (fv_Md_forget σ f) 28)) 16 (fm_mI (fv_Md_forget σ f) 21).toNatClampNeg (fm_mI (fv_Md_forget σ f) 29)) 12 (fm_mI (fv_Md_forget σ f) 21).toNatClampNeg (fm_mZ (fv_Md_forget σ f))) 17 (fm_mI (fv_Md_forget σ f) 21).toNatClampNeg (fm_aI (fv_Md_forget σ f) 6 (fm_mI (fv_Md_forget σ f) 29).toNatClampNeg)) 18 (fm_mI (fv_Md_forget σ f) 21).toNatClampNeg (fm_aI (fv_Md_forget σ f) 7 (fm_mI (fv_Md_forget σ f) 29).toNatClampNeg)) 14 (fm_mI (fv_Md_forget σ f) 21).toNatClampNeg (FP.dadd (fm_mT (fv_Md_forget σ f)) 4621819117588971520)) := fm_inv_end (FP.Core.dadd_out hI36.2.2.2.1 (by first | exact fd_fin10 | exact hI36.2.2.2.2.1 _ (fd_lt hI36.1))) hI36
            refine lv_aload_n hx hb fx_Md_keep_170 rfl (lv_at hl 2 rfl) ?_
            refine lv_dup hx hb fx_Md_keep_171 rfl ?_
            refine va_get (D := D) (ci := 5) (v := .int (fm_mI (fv_Md_forget σ f) 21)) (C := fn_R_Md) (T := fn_T_Md) (N := 33) hx hb hts fn_j_Md hown hK hP 0 rfl rfl 21 (by decide) (hts _ (List.mem_cons_of_mem _ fq_548)) (fun _ h9 => h9) rfl fx_Md_keep_172 ?_
            refine lv_iconst (v := 1) hx hb fx_Md_keep_175 (by decide) ?_
            refine lv_iadd hx hb fx_Md_keep_176 ?_
            refine va_put (D := D) (ci := 5) (v := .int ((fm_mI (fv_Md_forget σ f) 21) + 1)) (ty := .int) (C := fn_R_Md) (T := fn_T_Md) (N := 33) hx hb hts fn_j_Md fn_t_Md fn_k_Md fn_n_Md hown hK hP hD hS 0 rfl rfl 21 (by decide) (hts _ (List.mem_cons_of_mem _ fq_548)) (fun _ h9 => h9) rfl (by decide +kernel) rfl rfl (Nat.le_of_ble_eq_true rfl) fx_Md_keep_177 (fun H locs hP hD hS => ?_)
            rw [fm_set_mI_21] at hP hD
            have hI45 : fm_Inv (fm_smI (fm_saD (fm_saI (fm_saI (fm_saZ (fm_saI (fm_saI (fv_Md_forget σ f) 15 (fm_mI (fv_Md_forget σ f) 21).toNatClampNeg (fm_mI (fv_Md_forget σ f) 28)) 16 (fm_mI (fv_Md_forget σ f) 21).toNatClampNeg (fm_mI (fv_Md_forget σ f) 29)) 12 (fm_mI (fv_Md_forget σ f) 21).toNatClampNeg (fm_mZ (fv_Md_forget σ f))) 17 (fm_mI (fv_Md_forget σ f) 21).toNatClampNeg (fm_aI (fv_Md_forget σ f) 6 (fm_mI (fv_Md_forget σ f) 29).toNatClampNeg)) 18 (fm_mI (fv_Md_forget σ f) 21).toNatClampNeg (fm_aI (fv_Md_forget σ f) 7 (fm_mI (fv_Md_forget σ f) 29).toNatClampNeg)) 14 (fm_mI (fv_Md_forget σ f) 21).toNatClampNeg (FP.dadd (fm_mT (fv_Md_forget σ f)) 4621819117588971520)) 21 ((fm_mI (fv_Md_forget σ f) 21) + 1)) := fm_inv_kept (by first | exact fm_kincB hI c1 | exact fm_kincA hI hf c1) hI44
            exact fm_vret (u := fm_smI (fm_saD (fm_saI (fm_saI (fm_saZ (fm_saI (fm_saI (fv_Md_forget σ f) 15 (fm_mI (fv_Md_forget σ f) 21).toNatClampNeg (fm_mI (fv_Md_forget σ f) 28)) 16 (fm_mI (fv_Md_forget σ f) 21).toNatClampNeg (fm_mI (fv_Md_forget σ f) 29)) 12 (fm_mI (fv_Md_forget σ f) 21).toNatClampNeg (fm_mZ (fv_Md_forget σ f))) 17 (fm_mI (fv_Md_forget σ f) 21).toNatClampNeg (fm_aI (fv_Md_forget σ f) 6 (fm_mI (fv_Md_forget σ f) 29).toNatClampNeg)) 18 (fm_mI (fv_Md_forget σ f) 21).toNatClampNeg (fm_aI (fv_Md_forget σ f) 7 (fm_mI (fv_Md_forget σ f) 29).toNatClampNeg)) 14 (fm_mI (fv_Md_forget σ f) 21).toNatClampNeg (FP.dadd (fm_mT (fv_Md_forget σ f)) 4621819117588971520)) 21 ((fm_mI (fv_Md_forget σ f) 21) + 1)) hQ hx hb hr ⟨by rw [hm13, fv_Md_keep_l13, if_pos c23, if_neg c38], hI45⟩ hP hD hS fx_Md_keep_180 hlocks
        · refine lv_aload_n hx hb fx_Md_keep_21 rfl (lv_at hl 2 rfl) ?_
          refine va_get (D := D) (ci := 5) (v := .ref (am 15)) (C := fn_R_Md) (T := fn_T_Md) (N := 33) hx hb hts fn_j_Md hown hK hP 0 rfl rfl 14 (by decide) (hts _ (List.mem_cons_of_mem _ fq_541)) (fun _ h9 => h9) rfl fx_Md_keep_22 ?_
          refine lv_iload_n hx hb fx_Md_keep_25 rfl (lv_at hl 0 rfl) ?_
          have hb46 : vp_in i 7 := fm_idx hI hi c23
          refine va_dald (D := D) hx hb hK hP 15 14 rfl rfl hb46 fx_Md_keep_26 ?_
          refine W.eq (g2 := F0 m 27 ls (.double (fm_aD σ 14 i.toNatClampNeg) :: [])) rfl ?_
          refine lv_aload_n hx hb fx_Md_keep_27 rfl (lv_at hl 2 rfl) ?_
          refine va_get (D := D) (ci := 5) (v := .ref (am 15)) (C := fn_R_Md) (T := fn_T_Md) (N := 33) hx hb hts fn_j_Md hown hK hP 0 rfl rfl 14 (by decide) (hts _ (List.mem_cons_of_mem _ fq_541)) (fun _ h9 => h9) rfl fx_Md_keep_28 ?_
          refine lv_iload_n hx hb fx_Md_keep_31 rfl (lv_at hl 1 rfl) ?_
          have hb47 : vp_in f 7 := fm_7 hf
          refine va_dald (D := D) hx hb hK hP 15 14 rfl rfl hb47 fx_Md_keep_32 ?_
          refine W.eq (g2 := F0 m 33 ls (.double (fm_aD σ 14 f.toNatClampNeg) :: [.double (fm_aD σ 14 i.toNatClampNeg)])) rfl ?_
          refine lv_dcmp hx hb fx_Md_keep_33 ?_
          refine lv_if_ge (tgt := 39) hx hb fx_Md_keep_34 (by decide) (fun c48 => ?_) (fun c48 => ?_)
          · refine lv_iinc (v := i + 1) (lv' := [(2, .int (i + 1)), (1, .int f), (0, .ref (am 0))]) hx hb fx_Md_keep_39 hl (k := 0) rfl rfl (by decide) rfl (fun ls hl => ?_)
            refine lv_goto (tgt := 13) hx hb fx_Md_keep_42 (by decide) ?_
            exact ih f (i + 1) (by first | exact hf | exact fm_lt6 hI hi c23) (fm_step hI hi c23) (by rw [hm13, fv_Md_keep_l13, if_neg c23, if_pos c48]) H locs hP hD hS ls (lv_sub hl [0, 1, 2] rfl)
          · refine lv_iload_n hx hb fx_Md_keep_37 rfl (lv_at hl 0 rfl) ?_
            refine lv_istore_n (lv' := [(1, .int i), (2, .int i), (0, .ref (am 0))]) hx hb fx_Md_keep_38 rfl hl (by decide) rfl (fun ls hl => ?_)
            refine lv_iinc (v := i + 1) (lv' := [(2, .int (i + 1)), (1, .int i), (0, .ref (am 0))]) hx hb fx_Md_keep_39 hl (k := 1) rfl rfl (by decide) rfl (fun ls hl => ?_)
            refine lv_goto (tgt := 13) hx hb fx_Md_keep_42 (by decide) ?_
            exact ih i (i + 1) (by first | exact hf | exact fm_lt6 hI hi c23) (fm_step hI hi c23) (by rw [hm13, fv_Md_keep_l13, if_neg c23, if_neg c48]) H locs hP hD hS ls (lv_sub hl [0, 1, 2] rfl)
    exact hL13 7 0 1 (⟨0, by decide, rfl⟩) (⟨1, by decide, by decide, rfl⟩) (by rw [fv_Md_keep, if_pos c1]) H locs hP hD hS ls (lv_sub hl [0, 1, 2] rfl)
def fv_Md_ask_l17 : Nat → FMS → FMS → Int32 → Bool × FMS
  | 0 , σ , σ1 , k => (false, σ)
  | n + 1 , σ , σ1 , k => if k < 0 then if (fm_aZ σ1 11 (fm_mI σ1 29).toNatClampNeg) = true then if (fv_Md_passes σ1) = true then if (fv_Md_isSimple σ1 (fm_mI σ1 30)) = true then if ((fm_mI σ1 31) &&& ((fm_aI σ1 7 (fm_mI σ1 29).toNatClampNeg) ^^^ (-1))) = 0 then if (Op.cmpValue (FP.dcmp (fm_aD σ1 13 (fm_mI σ1 29).toNatClampNeg) FP.dconst0) .l) ≤ 0 then (true, σ1) else if (fm_mI σ1 28) = 6 then (true, σ1) else (true, (fv_Md_keep σ1)) else (false, σ1) else if (((fm_aI σ1 6 (fm_mI σ1 29).toNatClampNeg) >>> ((fm_mI σ1 30) &&& 31)) &&& 1) = 1 then if ((fm_mI σ1 31) &&& ((fm_aI σ1 7 (fm_mI σ1 29).toNatClampNeg) ^^^ (-1))) = 0 then if (Op.cmpValue (FP.dcmp (fm_aD σ1 13 (fm_mI σ1 29).toNatClampNeg) FP.dconst0) .l) ≤ 0 then (true, σ1) else if (fm_mI σ1 28) = 6 then (true, σ1) else (true, (fv_Md_keep σ1)) else (false, σ1) else (false, σ1) else (false, σ1) else (false, σ1) else if (fv_Md_isSame σ1 k) = true then fv_Md_ask_l17 n σ (fv_Md_forget σ1 k) (k + (-1)) else fv_Md_ask_l17 n σ σ1 (k + (-1))
def fv_Md_ask (σ : FMS) : Bool × FMS := fv_Md_ask_l17 7 σ (fm_smI σ 25 ((fm_mI σ 25) + 1)) ((fm_mI σ 21) - 1)
set_option maxHeartbeats 4000000 in
set_option maxRecDepth 100000 in
theorem fc_Md_ask (l : Launch) (D : va_G) (ca : Nat → ClassId) (am : Nat → Nat) (sz : Nat) (σ : FMS)  (hI : fm_Inv σ)  : Met l fy_Md_ask (fw_Md_ask :: fb_tbl) ({ frames := 2, cells := 0, slots := 0, locals := 44 } : Room) (fm_Pc D ca am [.ref (am 0)] σ sz) ((fun A => va_Qi (fun (r : Int32) (u : FMS) => (fd_bi (fv_Md_ask σ).1, (fv_Md_ask σ).2) = (r, u) ∧ fm_Inv u) (fm_B D ca am A) A) (va_A (fm_w ca am σ) sz)) 0 0 (va_A (fm_w ca am σ) sz) := by
  refine fm_ofW (cc := fb_Md_ask) (maxL := 3) (ret := (some .boolean)) (Qf := fun A => va_Qi (fun (r : Int32) (u : FMS) => (fd_bi (fv_Md_ask σ).1, (fv_Md_ask σ).2) = (r, u) ∧ fm_Inv u) (fm_B D ca am A) A) (by decide) (Nat.le_of_ble_eq_true rfl) ?_
  intro p e s m args below meth c A Q hQ hx hb hr hts hown hlocks hml hP hK hD hS hA hN ls hl
  have hown : s.vm.findClass fn_R_Md = some m.cls := hown
  have hl : lv_has ls 3 [(0, .ref (am 0))] := hl
  suffices hgo : ∀ (H : Heap) (locs : List Loc), va_P D fn_cl (fm_w ca am σ) H → va_D A (fm_w ca am σ) → va_S A s.heap H locs → W p l e ({ frames := 2, cells := 0, slots := 0, locals := 44 } : Room) s m args below meth c H locs 0 0 Q (F0 m 0 ls []) from hgo _ _ hP hD hS
  clear hP hD hS
  intro H locs hP hD hS
  refine lv_aload_n hx hb fx_Md_ask_0 rfl (lv_at hl 0 rfl) ?_
  refine lv_dup hx hb fx_Md_ask_1 rfl ?_
  refine va_get (D := D) (ci := 5) (v := .int (fm_mI σ 25)) (C := fn_R_Md) (T := fn_T_Md) (N := 33) hx hb hts fn_j_Md hown hK hP 0 rfl rfl 25 (by decide) (hts _ (List.mem_cons_of_mem _ fq_552)) (fun _ h9 => h9) rfl fx_Md_ask_2 ?_
  refine lv_iconst (v := 1) hx hb fx_Md_ask_5 (by decide) ?_
  refine lv_iadd hx hb fx_Md_ask_6 ?_
  refine va_put (D := D) (ci := 5) (v := .int ((fm_mI σ 25) + 1)) (ty := .int) (C := fn_R_Md) (T := fn_T_Md) (N := 33) hx hb hts fn_j_Md fn_t_Md fn_k_Md fn_n_Md hown hK hP hD hS 0 rfl rfl 25 (by decide) (hts _ (List.mem_cons_of_mem _ fq_552)) (fun _ h9 => h9) rfl (by decide +kernel) rfl rfl (Nat.le_of_ble_eq_true rfl) fx_Md_ask_7 (fun H locs hP hD hS => ?_)
  rw [fm_set_mI_25] at hP hD
  have hI1 : fm_Inv (fm_smI σ 25 ((fm_mI σ 25) + 1)) := fm_inv_smI (by decide) (by decide) hI
  refine lv_aload_n hx hb fx_Md_ask_10 rfl (lv_at hl 0 rfl) ?_
  refine va_get (D := D) (ci := 5) (v := .int (fm_mI σ 21)) (C := fn_R_Md) (T := fn_T_Md) (N := 33) hx hb hts fn_j_Md hown hK hP 0 rfl rfl 21 (by decide) (hts _ (List.mem_cons_of_mem _ fq_548)) (fun _ h9 => h9) rfl fx_Md_ask_11 ?_
  refine lv_iconst (v := 1) hx hb fx_Md_ask_14 (by decide) ?_
  refine lv_isub hx hb fx_Md_ask_15 ?_
  refine lv_istore_n (lv' := [(1, .int ((fm_mI σ 21) - 1)), (0, .ref (am 0))]) hx hb fx_Md_ask_16 rfl hl (by decide) rfl (fun ls hl => ?_)
  have hL17 : ∀ (n : Nat) (σ1 : FMS) (k : Int32), (∃ a m : Nat, a ≤ m ∧ m ≤ 6 ∧ a < n ∧ k + 1 = nI a ∧ fm_mI σ1 21 = nI m) → fm_Inv σ1 → fv_Md_ask σ = fv_Md_ask_l17 n σ σ1 k → ∀ (H : Heap) (locs : List Loc), va_P D fn_cl (fm_w ca am σ1) H → va_D A (fm_w ca am σ1) → va_S A s.heap H locs → ∀ (ls : Array Slot), lv_has ls 3 [(1, .int k), (0, .ref (am 0))] → W p l e ({ frames := 2, cells := 0, slots := 0, locals := 44 } : Room) s m args below meth c H locs 0 0 Q (F0 m 17 ls []) := by
    intro n
    induction n with
    | zero =>
      intro σ1 k hk
      obtain ⟨a, m, h1, h2, h3, -⟩ := hk; omega
    | succ n ih =>
      intro σ1 k hk hI17 hm17 H locs hP hD hS ls hl
      refine lv_iload_n hx hb fx_Md_ask_17 rfl (lv_at hl 0 rfl) ?_
      refine lv_if_lt (tgt := 42) hx hb fx_Md_ask_18 (by decide) (fun c2 => ?_) (fun c2 => ?_)
      · refine lv_aload_n hx hb fx_Md_ask_42 rfl (lv_at hl 1 rfl) ?_
        refine va_get (D := D) (ci := 5) (v := .ref (am 12)) (C := fn_R_Md) (T := fn_T_Md) (N := 33) hx hb hts fn_j_Md hown hK hP 0 rfl rfl 11 (by decide) (hts _ (List.mem_cons_of_mem _ fq_538)) (fun _ h9 => h9) rfl fx_Md_ask_43 ?_
        refine lv_aload_n hx hb fx_Md_ask_46 rfl (lv_at hl 1 rfl) ?_
        refine va_get (D := D) (ci := 5) (v := .int (fm_mI σ1 29)) (C := fn_R_Md) (T := fn_T_Md) (N := 33) hx hb hts fn_j_Md hown hK hP 0 rfl rfl 29 (by decide) (hts _ (List.mem_cons_of_mem _ fq_556)) (fun _ h9 => h9) rfl fx_Md_ask_47 ?_
        have hb3 : vp_in (fm_mI σ1 29) 48 := hI17.1
        refine va_zald (D := D) hx hb hK hP 12 11 rfl rfl hb3 fx_Md_ask_50 ?_
        refine W.eq (g2 := F0 m 51 ls (.int (fd_bi (fm_aZ σ1 11 (fm_mI σ1 29).toNatClampNeg)) :: [])) rfl ?_
        refine fd_ifeq (tgt := 114) hx hb fx_Md_ask_51 (by decide) (fun c4 => ?_) (fun c4 => ?_)
        · refine lv_iconst (v := 0) hx hb fx_Md_ask_114 (by decide) ?_
          refine lv_istore_n (lv' := [(1, .int 0), (0, .ref (am 0))]) hx hb fx_Md_ask_115 rfl hl (by decide) rfl (fun ls hl => ?_)
          refine lv_iload_n hx hb fx_Md_ask_116 rfl (lv_at hl 0 rfl) ?_
          refine lv_if_eq (tgt := 147) hx hb fx_Md_ask_117 (by decide) (fun _ => ?_) (fun c5 => absurd (by decide) c5)
          refine lv_iload_n hx hb fx_Md_ask_147 rfl (lv_at hl 0 rfl) ?_
          exact fm_zret (r := false) (u := σ1) hQ hx hb hr ⟨by rw [hm17, fv_Md_ask_l17, if_pos c2, if_neg c4], hI17⟩ hP hD hS fx_Md_ask_148 hlocks
        · refine lv_aload_n hx hb fx_Md_ask_54 rfl (lv_at hl 1 rfl) ?_
          refine fm_callz (va_runV (As := []) (rest := []) ⟨hx, hb, hml, hown, hts⟩ (fc_Md_passes l D ca am H.size σ1  hI17 ) ⟨callB_of 0 hts (fb_good fm_Md_passes) rfl rfl rfl (hts _ (List.mem_cons_of_mem _ fq_6)) (hts _ (List.mem_cons_of_mem _ fq_693)) (by decide +kernel) ⟨Nat.le_of_ble_eq_true rfl, Nat.le_of_ble_eq_true rfl⟩, (hts _ (List.mem_cons_of_mem _ fq_695)), (hts _ (List.mem_cons_of_mem _ fp_Md_passes))⟩ (fm_preV hP hK hD hN (va_recv hK hP (ci := 5) (q0 := 0) rfl rfl)) rfl rfl hl.1 rfl (lv_room (Nat.le_of_ble_eq_true rfl)) fx_Md_ask_55 ⟨Nat.le_of_ble_eq_true rfl, Nat.le_of_ble_eq_true rfl⟩) hD hS hA (fun H locs hP hD hS => ?_)
          refine fd_ifeq (tgt := 114) hx hb fx_Md_ask_58 (by decide) (fun c7 => ?_) (fun c7 => ?_)
          · refine lv_iconst (v := 0) hx hb fx_Md_ask_114 (by decide) ?_
            refine lv_istore_n (lv' := [(1, .int 0), (0, .ref (am 0))]) hx hb fx_Md_ask_115 rfl hl (by decide) rfl (fun ls hl => ?_)
            refine lv_iload_n hx hb fx_Md_ask_116 rfl (lv_at hl 0 rfl) ?_
            refine lv_if_eq (tgt := 147) hx hb fx_Md_ask_117 (by decide) (fun _ => ?_) (fun c8 => absurd (by decide) c8)
            refine lv_iload_n hx hb fx_Md_ask_147 rfl (lv_at hl 0 rfl) ?_
            exact fm_zret (r := false) (u := σ1) hQ hx hb hr ⟨by rw [hm17, fv_Md_ask_l17, if_pos c2, if_pos c4, if_neg c7], hI17⟩ hP hD hS fx_Md_ask_148 hlocks
          · refine lv_aload_n hx hb fx_Md_ask_61 rfl (lv_at hl 1 rfl) ?_
            refine va_get (D := D) (ci := 5) (v := .int (fm_mI σ1 30)) (C := fn_R_Md) (T := fn_T_Md) (N := 33) hx hb hts fn_j_Md hown hK hP 0 rfl rfl 30 (by decide) (hts _ (List.mem_cons_of_mem _ fq_557)) (fun _ h9 => h9) rfl fx_Md_ask_62 ?_
            refine fm_callz (va_runS (As := [.int (fm_mI σ1 30)]) (rest := []) ⟨hx, hb, hml, hown, hts⟩ (fc_Md_isSimple l D ca am H.size σ1 (fm_mI σ1 30) hI17 ) ⟨callB_of 1 hts (fb_good fm_Md_isSimple) rfl rfl rfl (hts _ (List.mem_cons_of_mem _ fq_6)) (hts _ (List.mem_cons_of_mem _ fq_670)) (by decide +kernel) ⟨Nat.le_of_ble_eq_true rfl, Nat.le_of_ble_eq_true rfl⟩, (hts _ (List.mem_cons_of_mem _ fq_671))⟩ (fm_preS hP hK hD hN) rfl rfl hl.1 rfl (lv_room (Nat.le_of_ble_eq_true rfl)) fx_Md_ask_65 ⟨Nat.le_of_ble_eq_true rfl, Nat.le_of_ble_eq_true rfl⟩) hD hS hA (fun H locs hP hD hS => ?_)
            refine fd_ifne (tgt := 91) hx hb fx_Md_ask_68 (by decide) (fun c10 => ?_) (fun c10 => ?_)
            · refine lv_aload_n hx hb fx_Md_ask_91 rfl (lv_at hl 1 rfl) ?_
              refine va_get (D := D) (ci := 5) (v := .int (fm_mI σ1 31)) (C := fn_R_Md) (T := fn_T_Md) (N := 33) hx hb hts fn_j_Md hown hK hP 0 rfl rfl 31 (by decide) (hts _ (List.mem_cons_of_mem _ fq_558)) (fun _ h9 => h9) rfl fx_Md_ask_92 ?_
              refine lv_aload_n hx hb fx_Md_ask_95 rfl (lv_at hl 1 rfl) ?_
              refine va_get (D := D) (ci := 5) (v := .ref (am 8)) (C := fn_R_Md) (T := fn_T_Md) (N := 33) hx hb hts fn_j_Md hown hK hP 0 rfl rfl 7 (by decide) (hts _ (List.mem_cons_of_mem _ fq_534)) (fun _ h9 => h9) rfl fx_Md_ask_96 ?_
              refine lv_aload_n hx hb fx_Md_ask_99 rfl (lv_at hl 1 rfl) ?_
              refine va_get (D := D) (ci := 5) (v := .int (fm_mI σ1 29)) (C := fn_R_Md) (T := fn_T_Md) (N := 33) hx hb hts fn_j_Md hown hK hP 0 rfl rfl 29 (by decide) (hts _ (List.mem_cons_of_mem _ fq_556)) (fun _ h9 => h9) rfl fx_Md_ask_100 ?_
              have hb11 : vp_in (fm_mI σ1 29) 48 := hI17.1
              refine va_iald (D := D) hx hb hK hP 8 7 rfl rfl hb11 fx_Md_ask_103 ?_
              refine W.eq (g2 := F0 m 104 ls (.int (fm_aI σ1 7 (fm_mI σ1 29).toNatClampNeg) :: [.int (fm_mI σ1 31)])) rfl ?_
              refine lv_iconst (v := (-1)) hx hb fx_Md_ask_104 (by decide) ?_
              refine lv_ixor hx hb fx_Md_ask_105 ?_
              refine lv_iand hx hb fx_Md_ask_106 ?_
              refine lv_if_ne (tgt := 114) hx hb fx_Md_ask_107 (by decide) (fun c12 => ?_) (fun c12 => ?_)
              · refine lv_iconst (v := 0) hx hb fx_Md_ask_114 (by decide) ?_
                refine lv_istore_n (lv' := [(1, .int 0), (0, .ref (am 0))]) hx hb fx_Md_ask_115 rfl hl (by decide) rfl (fun ls hl => ?_)
                refine lv_iload_n hx hb fx_Md_ask_116 rfl (lv_at hl 0 rfl) ?_
                refine lv_if_eq (tgt := 147) hx hb fx_Md_ask_117 (by decide) (fun _ => ?_) (fun c13 => absurd (by decide) c13)
                refine lv_iload_n hx hb fx_Md_ask_147 rfl (lv_at hl 0 rfl) ?_
                exact fm_zret (r := false) (u := σ1) hQ hx hb hr ⟨by rw [hm17, fv_Md_ask_l17, if_pos c2, if_pos c4, if_pos c7, if_pos c10, if_neg c12], hI17⟩ hP hD hS fx_Md_ask_148 hlocks
              · refine lv_iconst (v := 1) hx hb fx_Md_ask_110 (by decide) ?_
                refine lv_goto (tgt := 115) hx hb fx_Md_ask_111 (by decide) ?_
                refine lv_istore_n (lv' := [(1, .int 1), (0, .ref (am 0))]) hx hb fx_Md_ask_115 rfl hl (by decide) rfl (fun ls hl => ?_)
                refine lv_iload_n hx hb fx_Md_ask_116 rfl (lv_at hl 0 rfl) ?_
                refine lv_if_eq (tgt := 147) hx hb fx_Md_ask_117 (by decide) (fun c14 => absurd c14 (by decide)) (fun _ => ?_)
                refine lv_aload_n hx hb fx_Md_ask_120 rfl (lv_at hl 1 rfl) ?_
                refine va_get (D := D) (ci := 5) (v := .ref (am 14)) (C := fn_R_Md) (T := fn_T_Md) (N := 33) hx hb hts fn_j_Md hown hK hP 0 rfl rfl 13 (by decide) (hts _ (List.mem_cons_of_mem _ fq_540)) (fun _ h9 => h9) rfl fx_Md_ask_121 ?_
                refine lv_aload_n hx hb fx_Md_ask_124 rfl (lv_at hl 1 rfl) ?_
                refine va_get (D := D) (ci := 5) (v := .int (fm_mI σ1 29)) (C := fn_R_Md) (T := fn_T_Md) (N := 33) hx hb hts fn_j_Md hown hK hP 0 rfl rfl 29 (by decide) (hts _ (List.mem_cons_of_mem _ fq_556)) (fun _ h9 => h9) rfl fx_Md_ask_125 ?_
                have hb15 : vp_in (fm_mI σ1 29) 48 := hI17.1
                refine va_dald (D := D) hx hb hK hP 14 13 rfl rfl hb15 fx_Md_ask_128 ?_
                refine W.eq (g2 := F0 m 129 ls (.double (fm_aD σ1 13 (fm_mI σ1 29).toNatClampNeg) :: [])) rfl ?_
                refine lv_dconst0 hx hb fx_Md_ask_129 ?_
                refine lv_dcmp hx hb fx_Md_ask_130 ?_
                refine lv_if_le (tgt := 147) hx hb fx_Md_ask_131 (by decide) (fun c16 => ?_) (fun c16 => ?_)
                · refine lv_iload_n hx hb fx_Md_ask_147 rfl (lv_at hl 0 rfl) ?_
                  exact fm_zret (r := true) (u := σ1) hQ hx hb hr ⟨by rw [hm17, fv_Md_ask_l17, if_pos c2, if_pos c4, if_pos c7, if_pos c10, if_pos c12, if_pos c16], hI17⟩ hP hD hS fx_Md_ask_148 hlocks
                · refine lv_aload_n hx hb fx_Md_ask_134 rfl (lv_at hl 1 rfl) ?_
                  refine va_get (D := D) (ci := 5) (v := .int (fm_mI σ1 28)) (C := fn_R_Md) (T := fn_T_Md) (N := 33) hx hb hts fn_j_Md hown hK hP 0 rfl rfl 28 (by decide) (hts _ (List.mem_cons_of_mem _ fq_555)) (fun _ h9 => h9) rfl fx_Md_ask_135 ?_
                  refine lv_bipush (v := 6) hx hb fx_Md_ask_138 (by decide) ?_
                  refine lv_icmp_eq (tgt := 147) hx hb fx_Md_ask_140 (by decide) (fun c17 => ?_) (fun c17 => ?_)
                  · refine lv_iload_n hx hb fx_Md_ask_147 rfl (lv_at hl 0 rfl) ?_
                    exact fm_zret (r := true) (u := σ1) hQ hx hb hr ⟨by rw [hm17, fv_Md_ask_l17, if_pos c2, if_pos c4, if_pos c7, if_pos c10, if_pos c12, if_neg c16, if_pos c17], hI17⟩ hP hD hS fx_Md_ask_148 hlocks
                  · refine lv_aload_n hx hb fx_Md_ask_143 rfl (lv_at hl 1 rfl) ?_
                    refine fm_callvm (va_runV (As := []) (rest := []) ⟨hx, hb, hml, hown, hts⟩ (fc_Md_keep l D ca am H.size σ1  hI17 ) ⟨callB_of 0 hts (fb_good fm_Md_keep) rfl rfl rfl (hts _ (List.mem_cons_of_mem _ fq_6)) (hts _ (List.mem_cons_of_mem _ fq_697)) (by decide +kernel) ⟨Nat.le_of_ble_eq_true rfl, Nat.le_of_ble_eq_true rfl⟩, (hts _ (List.mem_cons_of_mem _ fq_699)), (hts _ (List.mem_cons_of_mem _ fp_Md_keep))⟩ (fm_preV hP hK hD hN (va_recv hK hP (ci := 5) (q0 := 0) rfl rfl)) rfl rfl hl.1 rfl (lv_room (Nat.le_of_ble_eq_true rfl)) fx_Md_ask_144 ⟨Nat.le_of_ble_eq_true rfl, Nat.le_of_ble_eq_true rfl⟩) hD hS hA (fun H locs hP hD hS hI18 => ?_)
                    refine lv_iload_n hx hb fx_Md_ask_147 rfl (lv_at hl 0 rfl) ?_
                    exact fm_zret (r := true) (u := (fv_Md_keep σ1)) hQ hx hb hr ⟨by rw [hm17, fv_Md_ask_l17, if_pos c2, if_pos c4, if_pos c7, if_pos c10, if_pos c12, if_neg c16, if_neg c17], hI18⟩ hP hD hS fx_Md_ask_148 hlocks
            · refine lv_aload_n hx hb fx_Md_ask_71 rfl (lv_at hl 1 rfl) ?_
              refine va_get (D := D) (ci := 5) (v := .ref (am 7)) (C := fn_R_Md) (T := fn_T_Md) (N := 33) hx hb hts fn_j_Md hown hK hP 0 rfl rfl 6 (by decide) (hts _ (List.mem_cons_of_mem _ fq_533)) (fun _ h9 => h9) rfl fx_Md_ask_72 ?_
              refine lv_aload_n hx hb fx_Md_ask_75 rfl (lv_at hl 1 rfl) ?_
              refine va_get (D := D) (ci := 5) (v := .int (fm_mI σ1 29)) (C := fn_R_Md) (T := fn_T_Md) (N := 33) hx hb hts fn_j_Md hown hK hP 0 rfl rfl 29 (by decide) (hts _ (List.mem_cons_of_mem _ fq_556)) (fun _ h9 => h9) rfl fx_Md_ask_76 ?_
              have hb19 : vp_in (fm_mI σ1 29) 48 := hI17.1
              refine va_iald (D := D) hx hb hK hP 7 6 rfl rfl hb19 fx_Md_ask_79 ?_
              refine W.eq (g2 := F0 m 80 ls (.int (fm_aI σ1 6 (fm_mI σ1 29).toNatClampNeg) :: [])) rfl ?_
              refine lv_aload_n hx hb fx_Md_ask_80 rfl (lv_at hl 1 rfl) ?_
              refine va_get (D := D) (ci := 5) (v := .int (fm_mI σ1 30)) (C := fn_R_Md) (T := fn_T_Md) (N := 33) hx hb hts fn_j_Md hown hK hP 0 rfl rfl 30 (by decide) (hts _ (List.mem_cons_of_mem _ fq_557)) (fun _ h9 => h9) rfl fx_Md_ask_81 ?_
              refine lv_ishr hx hb fx_Md_ask_84 ?_
              refine lv_iconst (v := 1) hx hb fx_Md_ask_85 (by decide) ?_
              refine lv_iand hx hb fx_Md_ask_86 ?_
              refine lv_iconst (v := 1) hx hb fx_Md_ask_87 (by decide) ?_
              refine lv_icmp_ne (tgt := 114) hx hb fx_Md_ask_88 (by decide) (fun c20 => ?_) (fun c20 => ?_)
              · refine lv_iconst (v := 0) hx hb fx_Md_ask_114 (by decide) ?_
                refine lv_istore_n (lv' := [(1, .int 0), (0, .ref (am 0))]) hx hb fx_Md_ask_115 rfl hl (by decide) rfl (fun ls hl => ?_)
                refine lv_iload_n hx hb fx_Md_ask_116 rfl (lv_at hl 0 rfl) ?_
                refine lv_if_eq (tgt := 147) hx hb fx_Md_ask_117 (by decide) (fun _ => ?_) (fun c21 => absurd (by decide) c21)
                refine lv_iload_n hx hb fx_Md_ask_147 rfl (lv_at hl 0 rfl) ?_
                exact fm_zret (r := false) (u := σ1) hQ hx hb hr ⟨by rw [hm17, fv_Md_ask_l17, if_pos c2, if_pos c4, if_pos c7, if_neg c10, if_neg c20], hI17⟩ hP hD hS fx_Md_ask_148 hlocks
              · refine lv_aload_n hx hb fx_Md_ask_91 rfl (lv_at hl 1 rfl) ?_
                refine va_get (D := D) (ci := 5) (v := .int (fm_mI σ1 31)) (C := fn_R_Md) (T := fn_T_Md) (N := 33) hx hb hts fn_j_Md hown hK hP 0 rfl rfl 31 (by decide) (hts _ (List.mem_cons_of_mem _ fq_558)) (fun _ h9 => h9) rfl fx_Md_ask_92 ?_
                refine lv_aload_n hx hb fx_Md_ask_95 rfl (lv_at hl 1 rfl) ?_
                refine va_get (D := D) (ci := 5) (v := .ref (am 8)) (C := fn_R_Md) (T := fn_T_Md) (N := 33) hx hb hts fn_j_Md hown hK hP 0 rfl rfl 7 (by decide) (hts _ (List.mem_cons_of_mem _ fq_534)) (fun _ h9 => h9) rfl fx_Md_ask_96 ?_
                refine lv_aload_n hx hb fx_Md_ask_99 rfl (lv_at hl 1 rfl) ?_
                refine va_get (D := D) (ci := 5) (v := .int (fm_mI σ1 29)) (C := fn_R_Md) (T := fn_T_Md) (N := 33) hx hb hts fn_j_Md hown hK hP 0 rfl rfl 29 (by decide) (hts _ (List.mem_cons_of_mem _ fq_556)) (fun _ h9 => h9) rfl fx_Md_ask_100 ?_
                have hb22 : vp_in (fm_mI σ1 29) 48 := hI17.1
                refine va_iald (D := D) hx hb hK hP 8 7 rfl rfl hb22 fx_Md_ask_103 ?_
                refine W.eq (g2 := F0 m 104 ls (.int (fm_aI σ1 7 (fm_mI σ1 29).toNatClampNeg) :: [.int (fm_mI σ1 31)])) rfl ?_
                refine lv_iconst (v := (-1)) hx hb fx_Md_ask_104 (by decide) ?_
                refine lv_ixor hx hb fx_Md_ask_105 ?_
                refine lv_iand hx hb fx_Md_ask_106 ?_
                refine lv_if_ne (tgt := 114) hx hb fx_Md_ask_107 (by decide) (fun c23 => ?_) (fun c23 => ?_)
                · refine lv_iconst (v := 0) hx hb fx_Md_ask_114 (by decide) ?_
                  refine lv_istore_n (lv' := [(1, .int 0), (0, .ref (am 0))]) hx hb fx_Md_ask_115 rfl hl (by decide) rfl (fun ls hl => ?_)
                  refine lv_iload_n hx hb fx_Md_ask_116 rfl (lv_at hl 0 rfl) ?_
                  refine lv_if_eq (tgt := 147) hx hb fx_Md_ask_117 (by decide) (fun _ => ?_) (fun c24 => absurd (by decide) c24)
                  refine lv_iload_n hx hb fx_Md_ask_147 rfl (lv_at hl 0 rfl) ?_
                  exact fm_zret (r := false) (u := σ1) hQ hx hb hr ⟨by rw [hm17, fv_Md_ask_l17, if_pos c2, if_pos c4, if_pos c7, if_neg c10, if_pos c20, if_neg c23], hI17⟩ hP hD hS fx_Md_ask_148 hlocks
                · refine lv_iconst (v := 1) hx hb fx_Md_ask_110 (by decide) ?_
                  refine lv_goto (tgt := 115) hx hb fx_Md_ask_111 (by decide) ?_
                  refine lv_istore_n (lv' := [(1, .int 1), (0, .ref (am 0))]) hx hb fx_Md_ask_115 rfl hl (by decide) rfl (fun ls hl => ?_)
                  refine lv_iload_n hx hb fx_Md_ask_116 rfl (lv_at hl 0 rfl) ?_
                  refine lv_if_eq (tgt := 147) hx hb fx_Md_ask_117 (by decide) (fun c25 => absurd c25 (by decide)) (fun _ => ?_)
                  refine lv_aload_n hx hb fx_Md_ask_120 rfl (lv_at hl 1 rfl) ?_
                  refine va_get (D := D) (ci := 5) (v := .ref (am 14)) (C := fn_R_Md) (T := fn_T_Md) (N := 33) hx hb hts fn_j_Md hown hK hP 0 rfl rfl 13 (by decide) (hts _ (List.mem_cons_of_mem _ fq_540)) (fun _ h9 => h9) rfl fx_Md_ask_121 ?_
                  refine lv_aload_n hx hb fx_Md_ask_124 rfl (lv_at hl 1 rfl) ?_
                  refine va_get (D := D) (ci := 5) (v := .int (fm_mI σ1 29)) (C := fn_R_Md) (T := fn_T_Md) (N := 33) hx hb hts fn_j_Md hown hK hP 0 rfl rfl 29 (by decide) (hts _ (List.mem_cons_of_mem _ fq_556)) (fun _ h9 => h9) rfl fx_Md_ask_125 ?_
                  have hb26 : vp_in (fm_mI σ1 29) 48 := hI17.1
                  refine va_dald (D := D) hx hb hK hP 14 13 rfl rfl hb26 fx_Md_ask_128 ?_
                  refine W.eq (g2 := F0 m 129 ls (.double (fm_aD σ1 13 (fm_mI σ1 29).toNatClampNeg) :: [])) rfl ?_
                  refine lv_dconst0 hx hb fx_Md_ask_129 ?_
                  refine lv_dcmp hx hb fx_Md_ask_130 ?_
                  refine lv_if_le (tgt := 147) hx hb fx_Md_ask_131 (by decide) (fun c27 => ?_) (fun c27 => ?_)
                  · refine lv_iload_n hx hb fx_Md_ask_147 rfl (lv_at hl 0 rfl) ?_
                    exact fm_zret (r := true) (u := σ1) hQ hx hb hr ⟨by rw [hm17, fv_Md_ask_l17, if_pos c2, if_pos c4, if_pos c7, if_neg c10, if_pos c20, if_pos c23, if_pos c27], hI17⟩ hP hD hS fx_Md_ask_148 hlocks
                  · refine lv_aload_n hx hb fx_Md_ask_134 rfl (lv_at hl 1 rfl) ?_
                    refine va_get (D := D) (ci := 5) (v := .int (fm_mI σ1 28)) (C := fn_R_Md) (T := fn_T_Md) (N := 33) hx hb hts fn_j_Md hown hK hP 0 rfl rfl 28 (by decide) (hts _ (List.mem_cons_of_mem _ fq_555)) (fun _ h9 => h9) rfl fx_Md_ask_135 ?_
                    refine lv_bipush (v := 6) hx hb fx_Md_ask_138 (by decide) ?_
                    refine lv_icmp_eq (tgt := 147) hx hb fx_Md_ask_140 (by decide) (fun c28 => ?_) (fun c28 => ?_)
                    · refine lv_iload_n hx hb fx_Md_ask_147 rfl (lv_at hl 0 rfl) ?_
                      exact fm_zret (r := true) (u := σ1) hQ hx hb hr ⟨by rw [hm17, fv_Md_ask_l17, if_pos c2, if_pos c4, if_pos c7, if_neg c10, if_pos c20, if_pos c23, if_neg c27, if_pos c28], hI17⟩ hP hD hS fx_Md_ask_148 hlocks
                    · refine lv_aload_n hx hb fx_Md_ask_143 rfl (lv_at hl 1 rfl) ?_
                      refine fm_callvm (va_runV (As := []) (rest := []) ⟨hx, hb, hml, hown, hts⟩ (fc_Md_keep l D ca am H.size σ1  hI17 ) ⟨callB_of 0 hts (fb_good fm_Md_keep) rfl rfl rfl (hts _ (List.mem_cons_of_mem _ fq_6)) (hts _ (List.mem_cons_of_mem _ fq_697)) (by decide +kernel) ⟨Nat.le_of_ble_eq_true rfl, Nat.le_of_ble_eq_true rfl⟩, (hts _ (List.mem_cons_of_mem _ fq_699)), (hts _ (List.mem_cons_of_mem _ fp_Md_keep))⟩ (fm_preV hP hK hD hN (va_recv hK hP (ci := 5) (q0 := 0) rfl rfl)) rfl rfl hl.1 rfl (lv_room (Nat.le_of_ble_eq_true rfl)) fx_Md_ask_144 ⟨Nat.le_of_ble_eq_true rfl, Nat.le_of_ble_eq_true rfl⟩) hD hS hA (fun H locs hP hD hS hI29 => ?_)
                      refine lv_iload_n hx hb fx_Md_ask_147 rfl (lv_at hl 0 rfl) ?_
                      exact fm_zret (r := true) (u := (fv_Md_keep σ1)) hQ hx hb hr ⟨by rw [hm17, fv_Md_ask_l17, if_pos c2, if_pos c4, if_pos c7, if_neg c10, if_pos c20, if_pos c23, if_neg c27, if_neg c28], hI29⟩ hP hD hS fx_Md_ask_148 hlocks
      · refine lv_aload_n hx hb fx_Md_ask_21 rfl (lv_at hl 1 rfl) ?_
        refine lv_iload_n hx hb fx_Md_ask_22 rfl (lv_at hl 0 rfl) ?_
        refine fm_callz (va_runV (As := [.int k]) (rest := []) ⟨hx, hb, hml, hown, hts⟩ (fc_Md_isSame l D ca am H.size σ1 k hI17 (fm_7 (fm_askr hk c2))) ⟨callB_of 1 hts (fb_good fm_Md_isSame) rfl rfl rfl (hts _ (List.mem_cons_of_mem _ fq_6)) (hts _ (List.mem_cons_of_mem _ fq_681)) (by decide +kernel) ⟨Nat.le_of_ble_eq_true rfl, Nat.le_of_ble_eq_true rfl⟩, (hts _ (List.mem_cons_of_mem _ fq_683)), (hts _ (List.mem_cons_of_mem _ fp_Md_isSame))⟩ (fm_preV hP hK hD hN (va_recv hK hP (ci := 5) (q0 := 0) rfl rfl)) rfl rfl hl.1 rfl (lv_room (Nat.le_of_ble_eq_true rfl)) fx_Md_ask_23 ⟨Nat.le_of_ble_eq_true rfl, Nat.le_of_ble_eq_true rfl⟩) hD hS hA (fun H locs hP hD hS => ?_)
        refine lv_istore_n (lv' := [(2, .int (fd_bi (fv_Md_isSame σ1 k))), (1, .int k), (0, .ref (am 0))]) hx hb fx_Md_ask_26 rfl hl (by decide) rfl (fun ls hl => ?_)
        refine lv_iload_n hx hb fx_Md_ask_27 rfl (lv_at hl 0 rfl) ?_
        refine fd_ifeq (tgt := 36) hx hb fx_Md_ask_28 (by decide) (fun c31 => ?_) (fun c31 => ?_)
        · refine lv_iinc (v := k + (-1)) (lv' := [(1, .int (k + (-1))), (2, .int (fd_bi (fv_Md_isSame σ1 k))), (0, .ref (am 0))]) hx hb fx_Md_ask_36 hl (k := 1) rfl rfl (by decide) rfl (fun ls hl => ?_)
          refine lv_goto (tgt := 17) hx hb fx_Md_ask_39 (by decide) ?_
          exact ih σ1 (k + (-1)) (by first | exact fm_asks1 hk c2 | exact fm_asks2 hI17 hk c2) hI17 (by rw [hm17, fv_Md_ask_l17, if_neg c2, if_neg c31]) H locs hP hD hS ls (lv_sub hl [0, 2] rfl)
        · refine lv_aload_n hx hb fx_Md_ask_31 rfl (lv_at hl 2 rfl) ?_
          refine lv_iload_n hx hb fx_Md_ask_32 rfl (lv_at hl 1 rfl) ?_
          refine fm_callvm (va_runV (As := [.int k]) (rest := []) ⟨hx, hb, hml, hown, hts⟩ (fc_Md_forget l D ca am H.size σ1 k hI17 (fm_askr hk c2) (fm_askz hk c2)) ⟨callB_of 1 hts (fb_good fm_Md_forget) rfl rfl rfl (hts _ (List.mem_cons_of_mem _ fq_6)) (hts _ (List.mem_cons_of_mem _ fq_689)) (by decide +kernel) ⟨Nat.le_of_ble_eq_true rfl, Nat.le_of_ble_eq_true rfl⟩, (hts _ (List.mem_cons_of_mem _ fq_691)), (hts _ (List.mem_cons_of_mem _ fp_Md_forget))⟩ (fm_preV hP hK hD hN (va_recv hK hP (ci := 5) (q0 := 0) rfl rfl)) rfl rfl hl.1 rfl (lv_room (Nat.le_of_ble_eq_true rfl)) fx_Md_ask_33 ⟨Nat.le_of_ble_eq_true rfl, Nat.le_of_ble_eq_true rfl⟩) hD hS hA (fun H locs hP hD hS hI32 => ?_)
          refine lv_iinc (v := k + (-1)) (lv' := [(1, .int (k + (-1))), (2, .int (fd_bi (fv_Md_isSame σ1 k))), (0, .ref (am 0))]) hx hb fx_Md_ask_36 hl (k := 1) rfl rfl (by decide) rfl (fun ls hl => ?_)
          refine lv_goto (tgt := 17) hx hb fx_Md_ask_39 (by decide) ?_
          exact ih (fv_Md_forget σ1 k) (k + (-1)) (by first | exact fm_asks1 hk c2 | exact fm_asks2 hI17 hk c2) hI32 (by rw [hm17, fv_Md_ask_l17, if_neg c2, if_pos c31]) H locs hP hD hS ls (lv_sub hl [0, 2] rfl)
  exact hL17 7 (fm_smI σ 25 ((fm_mI σ 25) + 1)) ((fm_mI σ 21) - 1) (fm_ask0 hI) hI1 (by rw [fv_Md_ask]) H locs hP hD hS ls (lv_sub hl [0, 1] rfl)
def fv_Md_move (σ : FMS) : FMS := if ((fm_aI σ 2 (fm_mI σ 29).toNatClampNeg) / 8) = ((fm_mI σ 29) / 8) then if 303 ≤ (fm_aI σ 0 (fm_mI σ 29).toNatClampNeg) then if (fm_aI σ 0 (fm_mI σ 29).toNatClampNeg) = 303 then if (fm_mI σ 30) = 0 then fm_smI σ 29 (fm_aI σ 2 (fm_mI σ 29).toNatClampNeg) else fm_smI (fm_smI (fm_smI σ 30 0) 31 0) 29 (fm_aI σ 2 (fm_mI σ 29).toNatClampNeg) else fm_smI σ 29 (fm_aI σ 2 (fm_mI σ 29).toNatClampNeg) else if (fm_mI σ 30) = 1 then fm_smI (fm_smI (fm_smI σ 30 0) 31 0) 29 (fm_aI σ 2 (fm_mI σ 29).toNatClampNeg) else if (fm_aI σ 0 (fm_mI σ 29).toNatClampNeg) = 303 then if (fm_mI σ 30) = 0 then fm_smI σ 29 (fm_aI σ 2 (fm_mI σ 29).toNatClampNeg) else fm_smI (fm_smI (fm_smI σ 30 0) 31 0) 29 (fm_aI σ 2 (fm_mI σ 29).toNatClampNeg) else fm_smI σ 29 (fm_aI σ 2 (fm_mI σ 29).toNatClampNeg) else if ((fm_mI σ 29) / 8) = (fm_mI σ 28) then if 303 ≤ (fm_aI σ 0 (fm_mI σ 29).toNatClampNeg) then if (fm_aI σ 0 (fm_mI σ 29).toNatClampNeg) = 303 then if (fm_mI σ 30) = 0 then fm_smI σ 29 (fm_aI σ 2 (fm_mI σ 29).toNatClampNeg) else fm_smI (fm_smI (fm_smI σ 30 0) 31 0) 29 (fm_aI σ 2 (fm_mI σ 29).toNatClampNeg) else fm_smI σ 29 (fm_aI σ 2 (fm_mI σ 29).toNatClampNeg) else if (fm_mI σ 30) = 1 then fm_smI (fm_smI (fm_smI σ 30 0) 31 0) 29 (fm_aI σ 2 (fm_mI σ 29).toNatClampNeg) else if (fm_aI σ 0 (fm_mI σ 29).toNatClampNeg) = 303 then if (fm_mI σ 30) = 0 then fm_smI σ 29 (fm_aI σ 2 (fm_mI σ 29).toNatClampNeg) else fm_smI (fm_smI (fm_smI σ 30 0) 31 0) 29 (fm_aI σ 2 (fm_mI σ 29).toNatClampNeg) else fm_smI σ 29 (fm_aI σ 2 (fm_mI σ 29).toNatClampNeg) else if 303 ≤ (fm_aI σ 0 (fm_mI σ 29).toNatClampNeg) then if (fm_aI σ 0 (fm_mI σ 29).toNatClampNeg) = 303 then if (fm_mI σ 30) = 0 then fm_smI (fm_smI σ 28 6) 29 (fm_aI σ 2 (fm_mI σ 29).toNatClampNeg) else fm_smI (fm_smI (fm_smI (fm_smI σ 28 6) 30 0) 31 0) 29 (fm_aI σ 2 (fm_mI σ 29).toNatClampNeg) else fm_smI (fm_smI σ 28 6) 29 (fm_aI σ 2 (fm_mI σ 29).toNatClampNeg) else if (fm_mI σ 30) = 1 then fm_smI (fm_smI (fm_smI (fm_smI σ 28 6) 30 0) 31 0) 29 (fm_aI σ 2 (fm_mI σ 29).toNatClampNeg) else if (fm_aI σ 0 (fm_mI σ 29).toNatClampNeg) = 303 then if (fm_mI σ 30) = 0 then fm_smI (fm_smI σ 28 6) 29 (fm_aI σ 2 (fm_mI σ 29).toNatClampNeg) else fm_smI (fm_smI (fm_smI (fm_smI σ 28 6) 30 0) 31 0) 29 (fm_aI σ 2 (fm_mI σ 29).toNatClampNeg) else fm_smI (fm_smI σ 28 6) 29 (fm_aI σ 2 (fm_mI σ 29).toNatClampNeg)
set_option maxHeartbeats 4000000 in
set_option maxRecDepth 100000 in
theorem fc_Md_move (l : Launch) (D : va_G) (ca : Nat → ClassId) (am : Nat → Nat) (sz : Nat) (σ : FMS)  (hI : fm_Inv σ) (ht : 0 ≤ fm_aI σ 2 (fm_mI σ 29).toNatClampNeg) : Met l fy_Md_move (fw_Md_move :: fb_tbl) ({ frames := 0, cells := 0, slots := 0, locals := 0 } : Room) (fm_Pc D ca am [.ref (am 0)] σ sz) ((fun A => va_Qv (fun u : FMS => fv_Md_move σ = u ∧ fm_Inv u) (fm_B D ca am A) A) (va_A (fm_w ca am σ) sz)) 0 0 (va_A (fm_w ca am σ) sz) := by
  refine fm_ofW (cc := fb_Md_move) (maxL := 3) (ret := none) (Qf := fun A => va_Qv (fun u : FMS => fv_Md_move σ = u ∧ fm_Inv u) (fm_B D ca am A) A) (by decide) (Nat.le_of_ble_eq_true rfl) ?_
  intro p e s m args below meth c A Q hQ hx hb hr hts hown hlocks hml hP hK hD hS hA hN ls hl
  have hown : s.vm.findClass fn_R_Md = some m.cls := hown
  have hl : lv_has ls 3 [(0, .ref (am 0))] := hl
  suffices hgo : ∀ (H : Heap) (locs : List Loc), va_P D fn_cl (fm_w ca am σ) H → va_D A (fm_w ca am σ) → va_S A s.heap H locs → W p l e ({ frames := 0, cells := 0, slots := 0, locals := 0 } : Room) s m args below meth c H locs 0 0 Q (F0 m 0 ls []) from hgo _ _ hP hD hS
  clear hP hD hS
  intro H locs hP hD hS
  refine lv_aload_n hx hb fx_Md_move_0 rfl (lv_at hl 0 rfl) ?_
  refine va_get (D := D) (ci := 5) (v := .ref (am 1)) (C := fn_R_Md) (T := fn_T_Md) (N := 33) hx hb hts fn_j_Md hown hK hP 0 rfl rfl 0 (by decide) (hts _ (List.mem_cons_of_mem _ fq_527)) (fun _ h9 => h9) rfl fx_Md_move_1 ?_
  refine lv_aload_n hx hb fx_Md_move_4 rfl (lv_at hl 0 rfl) ?_
  refine va_get (D := D) (ci := 5) (v := .int (fm_mI σ 29)) (C := fn_R_Md) (T := fn_T_Md) (N := 33) hx hb hts fn_j_Md hown hK hP 0 rfl rfl 29 (by decide) (hts _ (List.mem_cons_of_mem _ fq_556)) (fun _ h9 => h9) rfl fx_Md_move_5 ?_
  have hb1 : vp_in (fm_mI σ 29) 48 := hI.1
  refine va_iald (D := D) hx hb hK hP 1 0 rfl rfl hb1 fx_Md_move_8 ?_
  refine W.eq (g2 := F0 m 9 ls (.int (fm_aI σ 0 (fm_mI σ 29).toNatClampNeg) :: [])) rfl ?_
  refine lv_istore_n (lv' := [(1, .int (fm_aI σ 0 (fm_mI σ 29).toNatClampNeg)), (0, .ref (am 0))]) hx hb fx_Md_move_9 rfl hl (by decide) rfl (fun ls hl => ?_)
  refine lv_aload_n hx hb fx_Md_move_10 rfl (lv_at hl 1 rfl) ?_
  refine va_get (D := D) (ci := 5) (v := .ref (am 3)) (C := fn_R_Md) (T := fn_T_Md) (N := 33) hx hb hts fn_j_Md hown hK hP 0 rfl rfl 2 (by decide) (hts _ (List.mem_cons_of_mem _ fq_529)) (fun _ h9 => h9) rfl fx_Md_move_11 ?_
  refine lv_aload_n hx hb fx_Md_move_14 rfl (lv_at hl 1 rfl) ?_
  refine va_get (D := D) (ci := 5) (v := .int (fm_mI σ 29)) (C := fn_R_Md) (T := fn_T_Md) (N := 33) hx hb hts fn_j_Md hown hK hP 0 rfl rfl 29 (by decide) (hts _ (List.mem_cons_of_mem _ fq_556)) (fun _ h9 => h9) rfl fx_Md_move_15 ?_
  have hb2 : vp_in (fm_mI σ 29) 48 := hI.1
  refine va_iald (D := D) hx hb hK hP 3 2 rfl rfl hb2 fx_Md_move_18 ?_
  refine W.eq (g2 := F0 m 19 ls (.int (fm_aI σ 2 (fm_mI σ 29).toNatClampNeg) :: [])) rfl ?_
  refine lv_istore_n (lv' := [(2, .int (fm_aI σ 2 (fm_mI σ 29).toNatClampNeg)), (1, .int (fm_aI σ 0 (fm_mI σ 29).toNatClampNeg)), (0, .ref (am 0))]) hx hb fx_Md_move_19 rfl hl (by decide) rfl (fun ls hl => ?_)
  refine lv_iload_n hx hb fx_Md_move_20 rfl (lv_at hl 0 rfl) ?_
  refine lv_bipush (v := 8) hx hb fx_Md_move_21 (by decide) ?_
  refine lv_idiv hx hb fx_Md_move_23 (by decide) ?_
  refine lv_aload_n hx hb fx_Md_move_24 rfl (lv_at hl 2 rfl) ?_
  refine va_get (D := D) (ci := 5) (v := .int (fm_mI σ 29)) (C := fn_R_Md) (T := fn_T_Md) (N := 33) hx hb hts fn_j_Md hown hK hP 0 rfl rfl 29 (by decide) (hts _ (List.mem_cons_of_mem _ fq_556)) (fun _ h9 => h9) rfl fx_Md_move_25 ?_
  refine lv_bipush (v := 8) hx hb fx_Md_move_28 (by decide) ?_
  refine lv_idiv hx hb fx_Md_move_30 (by decide) ?_
  refine lv_icmp_eq (tgt := 54) hx hb fx_Md_move_31 (by decide) (fun c3 => ?_) (fun c3 => ?_)
  · refine lv_iload_n hx hb fx_Md_move_54 rfl (lv_at hl 1 rfl) ?_
    refine lv_sipush (v := 303) hx hb fx_Md_move_55 (by decide) ?_
    refine lv_icmp_ge (tgt := 69) hx hb fx_Md_move_58 (by decide) (fun c4 => ?_) (fun c4 => ?_)
    · refine lv_iload_n hx hb fx_Md_move_69 rfl (lv_at hl 1 rfl) ?_
      refine lv_sipush (v := 303) hx hb fx_Md_move_70 (by decide) ?_
      refine lv_icmp_ne (tgt := 93) hx hb fx_Md_move_73 (by decide) (fun c5 => ?_) (fun c5 => ?_)
      · refine lv_aload_n hx hb fx_Md_move_93 rfl (lv_at hl 2 rfl) ?_
        refine lv_iload_n hx hb fx_Md_move_94 rfl (lv_at hl 0 rfl) ?_
        refine va_put (D := D) (ci := 5) (v := .int (fm_aI σ 2 (fm_mI σ 29).toNatClampNeg)) (ty := .int) (C := fn_R_Md) (T := fn_T_Md) (N := 33) hx hb hts fn_j_Md fn_t_Md fn_k_Md fn_n_Md hown hK hP hD hS 0 rfl rfl 29 (by decide) (hts _ (List.mem_cons_of_mem _ fq_556)) (fun _ h9 => h9) rfl (by decide +kernel) rfl rfl (Nat.le_of_ble_eq_true rfl) fx_Md_move_95 (fun H locs hP hD hS => ?_)
        rw [fm_set_mI_29] at hP hD
        have hI6 : fm_Inv (fm_smI σ 29 (fm_aI σ 2 (fm_mI σ 29).toNatClampNeg)) := fm_inv_url (fm_tgt hI ht) hI
        exact fm_vret (u := fm_smI σ 29 (fm_aI σ 2 (fm_mI σ 29).toNatClampNeg)) hQ hx hb hr ⟨by rw [fv_Md_move, if_pos c3, if_pos c4, if_neg c5], hI6⟩ hP hD hS fx_Md_move_98 hlocks
      · refine lv_aload_n hx hb fx_Md_move_76 rfl (lv_at hl 2 rfl) ?_
        refine va_get (D := D) (ci := 5) (v := .int (fm_mI σ 30)) (C := fn_R_Md) (T := fn_T_Md) (N := 33) hx hb hts fn_j_Md hown hK hP 0 rfl rfl 30 (by decide) (hts _ (List.mem_cons_of_mem _ fq_557)) (fun _ h9 => h9) rfl fx_Md_move_77 ?_
        refine lv_if_eq (tgt := 93) hx hb fx_Md_move_80 (by decide) (fun c7 => ?_) (fun c7 => ?_)
        · refine lv_aload_n hx hb fx_Md_move_93 rfl (lv_at hl 2 rfl) ?_
          refine lv_iload_n hx hb fx_Md_move_94 rfl (lv_at hl 0 rfl) ?_
          refine va_put (D := D) (ci := 5) (v := .int (fm_aI σ 2 (fm_mI σ 29).toNatClampNeg)) (ty := .int) (C := fn_R_Md) (T := fn_T_Md) (N := 33) hx hb hts fn_j_Md fn_t_Md fn_k_Md fn_n_Md hown hK hP hD hS 0 rfl rfl 29 (by decide) (hts _ (List.mem_cons_of_mem _ fq_556)) (fun _ h9 => h9) rfl (by decide +kernel) rfl rfl (Nat.le_of_ble_eq_true rfl) fx_Md_move_95 (fun H locs hP hD hS => ?_)
          rw [fm_set_mI_29] at hP hD
          have hI8 : fm_Inv (fm_smI σ 29 (fm_aI σ 2 (fm_mI σ 29).toNatClampNeg)) := fm_inv_url (fm_tgt hI ht) hI
          exact fm_vret (u := fm_smI σ 29 (fm_aI σ 2 (fm_mI σ 29).toNatClampNeg)) hQ hx hb hr ⟨by rw [fv_Md_move, if_pos c3, if_pos c4, if_pos c5, if_pos c7], hI8⟩ hP hD hS fx_Md_move_98 hlocks
        · refine lv_aload_n hx hb fx_Md_move_83 rfl (lv_at hl 2 rfl) ?_
          refine lv_iconst (v := 0) hx hb fx_Md_move_84 (by decide) ?_
          refine va_put (D := D) (ci := 5) (v := .int 0) (ty := .int) (C := fn_R_Md) (T := fn_T_Md) (N := 33) hx hb hts fn_j_Md fn_t_Md fn_k_Md fn_n_Md hown hK hP hD hS 0 rfl rfl 30 (by decide) (hts _ (List.mem_cons_of_mem _ fq_557)) (fun _ h9 => h9) rfl (by decide +kernel) rfl rfl (Nat.le_of_ble_eq_true rfl) fx_Md_move_85 (fun H locs hP hD hS => ?_)
          rw [fm_set_mI_30] at hP hD
          have hI9 : fm_Inv (fm_smI σ 30 0) := fm_inv_smI (by decide) (by decide) hI
          refine lv_aload_n hx hb fx_Md_move_88 rfl (lv_at hl 2 rfl) ?_
          refine lv_iconst (v := 0) hx hb fx_Md_move_89 (by decide) ?_
          refine va_put (D := D) (ci := 5) (v := .int 0) (ty := .int) (C := fn_R_Md) (T := fn_T_Md) (N := 33) hx hb hts fn_j_Md fn_t_Md fn_k_Md fn_n_Md hown hK hP hD hS 0 rfl rfl 31 (by decide) (hts _ (List.mem_cons_of_mem _ fq_558)) (fun _ h9 => h9) rfl (by decide +kernel) rfl rfl (Nat.le_of_ble_eq_true rfl) fx_Md_move_90 (fun H locs hP hD hS => ?_)
          rw [fm_set_mI_31] at hP hD
          have hI10 : fm_Inv (fm_smI (fm_smI σ 30 0) 31 0) := fm_inv_smI (by decide) (by decide) hI9
          refine lv_aload_n hx hb fx_Md_move_93 rfl (lv_at hl 2 rfl) ?_
          refine lv_iload_n hx hb fx_Md_move_94 rfl (lv_at hl 0 rfl) ?_
          refine va_put (D := D) (ci := 5) (v := .int (fm_aI σ 2 (fm_mI σ 29).toNatClampNeg)) (ty := .int) (C := fn_R_Md) (T := fn_T_Md) (N := 33) hx hb hts fn_j_Md fn_t_Md fn_k_Md fn_n_Md hown hK hP hD hS 0 rfl rfl 29 (by decide) (hts _ (List.mem_cons_of_mem _ fq_556)) (fun _ h9 => h9) rfl (by decide +kernel) rfl rfl (Nat.le_of_ble_eq_true rfl) fx_Md_move_95 (fun H locs hP hD hS => ?_)
          rw [fm_set_mI_29] at hP hD
          have hI11 : fm_Inv (fm_smI (fm_smI (fm_smI σ 30 0) 31 0) 29 (fm_aI σ 2 (fm_mI σ 29).toNatClampNeg)) := fm_inv_url (fm_tgt hI ht) hI10
          exact fm_vret (u := fm_smI (fm_smI (fm_smI σ 30 0) 31 0) 29 (fm_aI σ 2 (fm_mI σ 29).toNatClampNeg)) hQ hx hb hr ⟨by rw [fv_Md_move, if_pos c3, if_pos c4, if_pos c5, if_neg c7], hI11⟩ hP hD hS fx_Md_move_98 hlocks
    · refine lv_aload_n hx hb fx_Md_move_61 rfl (lv_at hl 2 rfl) ?_
      refine va_get (D := D) (ci := 5) (v := .int (fm_mI σ 30)) (C := fn_R_Md) (T := fn_T_Md) (N := 33) hx hb hts fn_j_Md hown hK hP 0 rfl rfl 30 (by decide) (hts _ (List.mem_cons_of_mem _ fq_557)) (fun _ h9 => h9) rfl fx_Md_move_62 ?_
      refine lv_iconst (v := 1) hx hb fx_Md_move_65 (by decide) ?_
      refine lv_icmp_eq (tgt := 83) hx hb fx_Md_move_66 (by decide) (fun c12 => ?_) (fun c12 => ?_)
      · refine lv_aload_n hx hb fx_Md_move_83 rfl (lv_at hl 2 rfl) ?_
        refine lv_iconst (v := 0) hx hb fx_Md_move_84 (by decide) ?_
        refine va_put (D := D) (ci := 5) (v := .int 0) (ty := .int) (C := fn_R_Md) (T := fn_T_Md) (N := 33) hx hb hts fn_j_Md fn_t_Md fn_k_Md fn_n_Md hown hK hP hD hS 0 rfl rfl 30 (by decide) (hts _ (List.mem_cons_of_mem _ fq_557)) (fun _ h9 => h9) rfl (by decide +kernel) rfl rfl (Nat.le_of_ble_eq_true rfl) fx_Md_move_85 (fun H locs hP hD hS => ?_)
        rw [fm_set_mI_30] at hP hD
        have hI13 : fm_Inv (fm_smI σ 30 0) := fm_inv_smI (by decide) (by decide) hI
        refine lv_aload_n hx hb fx_Md_move_88 rfl (lv_at hl 2 rfl) ?_
        refine lv_iconst (v := 0) hx hb fx_Md_move_89 (by decide) ?_
        refine va_put (D := D) (ci := 5) (v := .int 0) (ty := .int) (C := fn_R_Md) (T := fn_T_Md) (N := 33) hx hb hts fn_j_Md fn_t_Md fn_k_Md fn_n_Md hown hK hP hD hS 0 rfl rfl 31 (by decide) (hts _ (List.mem_cons_of_mem _ fq_558)) (fun _ h9 => h9) rfl (by decide +kernel) rfl rfl (Nat.le_of_ble_eq_true rfl) fx_Md_move_90 (fun H locs hP hD hS => ?_)
        rw [fm_set_mI_31] at hP hD
        have hI14 : fm_Inv (fm_smI (fm_smI σ 30 0) 31 0) := fm_inv_smI (by decide) (by decide) hI13
        refine lv_aload_n hx hb fx_Md_move_93 rfl (lv_at hl 2 rfl) ?_
        refine lv_iload_n hx hb fx_Md_move_94 rfl (lv_at hl 0 rfl) ?_
        refine va_put (D := D) (ci := 5) (v := .int (fm_aI σ 2 (fm_mI σ 29).toNatClampNeg)) (ty := .int) (C := fn_R_Md) (T := fn_T_Md) (N := 33) hx hb hts fn_j_Md fn_t_Md fn_k_Md fn_n_Md hown hK hP hD hS 0 rfl rfl 29 (by decide) (hts _ (List.mem_cons_of_mem _ fq_556)) (fun _ h9 => h9) rfl (by decide +kernel) rfl rfl (Nat.le_of_ble_eq_true rfl) fx_Md_move_95 (fun H locs hP hD hS => ?_)
        rw [fm_set_mI_29] at hP hD
        have hI15 : fm_Inv (fm_smI (fm_smI (fm_smI σ 30 0) 31 0) 29 (fm_aI σ 2 (fm_mI σ 29).toNatClampNeg)) := fm_inv_url (fm_tgt hI ht) hI14
        exact fm_vret (u := fm_smI (fm_smI (fm_smI σ 30 0) 31 0) 29 (fm_aI σ 2 (fm_mI σ 29).toNatClampNeg)) hQ hx hb hr ⟨by rw [fv_Md_move, if_pos c3, if_neg c4, if_pos c12], hI15⟩ hP hD hS fx_Md_move_98 hlocks
      · refine lv_iload_n hx hb fx_Md_move_69 rfl (lv_at hl 1 rfl) ?_
        refine lv_sipush (v := 303) hx hb fx_Md_move_70 (by decide) ?_
        refine lv_icmp_ne (tgt := 93) hx hb fx_Md_move_73 (by decide) (fun c16 => ?_) (fun c16 => ?_)
        · refine lv_aload_n hx hb fx_Md_move_93 rfl (lv_at hl 2 rfl) ?_
          refine lv_iload_n hx hb fx_Md_move_94 rfl (lv_at hl 0 rfl) ?_
          refine va_put (D := D) (ci := 5) (v := .int (fm_aI σ 2 (fm_mI σ 29).toNatClampNeg)) (ty := .int) (C := fn_R_Md) (T := fn_T_Md) (N := 33) hx hb hts fn_j_Md fn_t_Md fn_k_Md fn_n_Md hown hK hP hD hS 0 rfl rfl 29 (by decide) (hts _ (List.mem_cons_of_mem _ fq_556)) (fun _ h9 => h9) rfl (by decide +kernel) rfl rfl (Nat.le_of_ble_eq_true rfl) fx_Md_move_95 (fun H locs hP hD hS => ?_)
          rw [fm_set_mI_29] at hP hD
          have hI17 : fm_Inv (fm_smI σ 29 (fm_aI σ 2 (fm_mI σ 29).toNatClampNeg)) := fm_inv_url (fm_tgt hI ht) hI
          exact fm_vret (u := fm_smI σ 29 (fm_aI σ 2 (fm_mI σ 29).toNatClampNeg)) hQ hx hb hr ⟨by rw [fv_Md_move, if_pos c3, if_neg c4, if_neg c12, if_neg c16], hI17⟩ hP hD hS fx_Md_move_98 hlocks
        · refine lv_aload_n hx hb fx_Md_move_76 rfl (lv_at hl 2 rfl) ?_
          refine va_get (D := D) (ci := 5) (v := .int (fm_mI σ 30)) (C := fn_R_Md) (T := fn_T_Md) (N := 33) hx hb hts fn_j_Md hown hK hP 0 rfl rfl 30 (by decide) (hts _ (List.mem_cons_of_mem _ fq_557)) (fun _ h9 => h9) rfl fx_Md_move_77 ?_
          refine lv_if_eq (tgt := 93) hx hb fx_Md_move_80 (by decide) (fun c18 => ?_) (fun c18 => ?_)
          · refine lv_aload_n hx hb fx_Md_move_93 rfl (lv_at hl 2 rfl) ?_
            refine lv_iload_n hx hb fx_Md_move_94 rfl (lv_at hl 0 rfl) ?_
            refine va_put (D := D) (ci := 5) (v := .int (fm_aI σ 2 (fm_mI σ 29).toNatClampNeg)) (ty := .int) (C := fn_R_Md) (T := fn_T_Md) (N := 33) hx hb hts fn_j_Md fn_t_Md fn_k_Md fn_n_Md hown hK hP hD hS 0 rfl rfl 29 (by decide) (hts _ (List.mem_cons_of_mem _ fq_556)) (fun _ h9 => h9) rfl (by decide +kernel) rfl rfl (Nat.le_of_ble_eq_true rfl) fx_Md_move_95 (fun H locs hP hD hS => ?_)
            rw [fm_set_mI_29] at hP hD
            have hI19 : fm_Inv (fm_smI σ 29 (fm_aI σ 2 (fm_mI σ 29).toNatClampNeg)) := fm_inv_url (fm_tgt hI ht) hI
            exact fm_vret (u := fm_smI σ 29 (fm_aI σ 2 (fm_mI σ 29).toNatClampNeg)) hQ hx hb hr ⟨by rw [fv_Md_move, if_pos c3, if_neg c4, if_neg c12, if_pos c16, if_pos c18], hI19⟩ hP hD hS fx_Md_move_98 hlocks
          · refine lv_aload_n hx hb fx_Md_move_83 rfl (lv_at hl 2 rfl) ?_
            refine lv_iconst (v := 0) hx hb fx_Md_move_84 (by decide) ?_
            refine va_put (D := D) (ci := 5) (v := .int 0) (ty := .int) (C := fn_R_Md) (T := fn_T_Md) (N := 33) hx hb hts fn_j_Md fn_t_Md fn_k_Md fn_n_Md hown hK hP hD hS 0 rfl rfl 30 (by decide) (hts _ (List.mem_cons_of_mem _ fq_557)) (fun _ h9 => h9) rfl (by decide +kernel) rfl rfl (Nat.le_of_ble_eq_true rfl) fx_Md_move_85 (fun H locs hP hD hS => ?_)
            rw [fm_set_mI_30] at hP hD
            have hI20 : fm_Inv (fm_smI σ 30 0) := fm_inv_smI (by decide) (by decide) hI
            refine lv_aload_n hx hb fx_Md_move_88 rfl (lv_at hl 2 rfl) ?_
            refine lv_iconst (v := 0) hx hb fx_Md_move_89 (by decide) ?_
            refine va_put (D := D) (ci := 5) (v := .int 0) (ty := .int) (C := fn_R_Md) (T := fn_T_Md) (N := 33) hx hb hts fn_j_Md fn_t_Md fn_k_Md fn_n_Md hown hK hP hD hS 0 rfl rfl 31 (by decide) (hts _ (List.mem_cons_of_mem _ fq_558)) (fun _ h9 => h9) rfl (by decide +kernel) rfl rfl (Nat.le_of_ble_eq_true rfl) fx_Md_move_90 (fun H locs hP hD hS => ?_)
            rw [fm_set_mI_31] at hP hD
            have hI21 : fm_Inv (fm_smI (fm_smI σ 30 0) 31 0) := fm_inv_smI (by decide) (by decide) hI20
            refine lv_aload_n hx hb fx_Md_move_93 rfl (lv_at hl 2 rfl) ?_
            refine lv_iload_n hx hb fx_Md_move_94 rfl (lv_at hl 0 rfl) ?_
            refine va_put (D := D) (ci := 5) (v := .int (fm_aI σ 2 (fm_mI σ 29).toNatClampNeg)) (ty := .int) (C := fn_R_Md) (T := fn_T_Md) (N := 33) hx hb hts fn_j_Md fn_t_Md fn_k_Md fn_n_Md hown hK hP hD hS 0 rfl rfl 29 (by decide) (hts _ (List.mem_cons_of_mem _ fq_556)) (fun _ h9 => h9) rfl (by decide +kernel) rfl rfl (Nat.le_of_ble_eq_true rfl) fx_Md_move_95 (fun H locs hP hD hS => ?_)
            rw [fm_set_mI_29] at hP hD
            have hI22 : fm_Inv (fm_smI (fm_smI (fm_smI σ 30 0) 31 0) 29 (fm_aI σ 2 (fm_mI σ 29).toNatClampNeg)) := fm_inv_url (fm_tgt hI ht) hI21
            exact fm_vret (u := fm_smI (fm_smI (fm_smI σ 30 0) 31 0) 29 (fm_aI σ 2 (fm_mI σ 29).toNatClampNeg)) hQ hx hb hr ⟨by rw [fv_Md_move, if_pos c3, if_neg c4, if_neg c12, if_pos c16, if_neg c18], hI22⟩ hP hD hS fx_Md_move_98 hlocks
  · refine lv_aload_n hx hb fx_Md_move_34 rfl (lv_at hl 2 rfl) ?_
    refine va_get (D := D) (ci := 5) (v := .int (fm_mI σ 29)) (C := fn_R_Md) (T := fn_T_Md) (N := 33) hx hb hts fn_j_Md hown hK hP 0 rfl rfl 29 (by decide) (hts _ (List.mem_cons_of_mem _ fq_556)) (fun _ h9 => h9) rfl fx_Md_move_35 ?_
    refine lv_bipush (v := 8) hx hb fx_Md_move_38 (by decide) ?_
    refine lv_idiv hx hb fx_Md_move_40 (by decide) ?_
    refine lv_aload_n hx hb fx_Md_move_41 rfl (lv_at hl 2 rfl) ?_
    refine va_get (D := D) (ci := 5) (v := .int (fm_mI σ 28)) (C := fn_R_Md) (T := fn_T_Md) (N := 33) hx hb hts fn_j_Md hown hK hP 0 rfl rfl 28 (by decide) (hts _ (List.mem_cons_of_mem _ fq_555)) (fun _ h9 => h9) rfl fx_Md_move_42 ?_
    refine lv_icmp_eq (tgt := 54) hx hb fx_Md_move_45 (by decide) (fun c23 => ?_) (fun c23 => ?_)
    · refine lv_iload_n hx hb fx_Md_move_54 rfl (lv_at hl 1 rfl) ?_
      refine lv_sipush (v := 303) hx hb fx_Md_move_55 (by decide) ?_
      refine lv_icmp_ge (tgt := 69) hx hb fx_Md_move_58 (by decide) (fun c24 => ?_) (fun c24 => ?_)
      · refine lv_iload_n hx hb fx_Md_move_69 rfl (lv_at hl 1 rfl) ?_
        refine lv_sipush (v := 303) hx hb fx_Md_move_70 (by decide) ?_
        refine lv_icmp_ne (tgt := 93) hx hb fx_Md_move_73 (by decide) (fun c25 => ?_) (fun c25 => ?_)
        · refine lv_aload_n hx hb fx_Md_move_93 rfl (lv_at hl 2 rfl) ?_
          refine lv_iload_n hx hb fx_Md_move_94 rfl (lv_at hl 0 rfl) ?_
          refine va_put (D := D) (ci := 5) (v := .int (fm_aI σ 2 (fm_mI σ 29).toNatClampNeg)) (ty := .int) (C := fn_R_Md) (T := fn_T_Md) (N := 33) hx hb hts fn_j_Md fn_t_Md fn_k_Md fn_n_Md hown hK hP hD hS 0 rfl rfl 29 (by decide) (hts _ (List.mem_cons_of_mem _ fq_556)) (fun _ h9 => h9) rfl (by decide +kernel) rfl rfl (Nat.le_of_ble_eq_true rfl) fx_Md_move_95 (fun H locs hP hD hS => ?_)
          rw [fm_set_mI_29] at hP hD
          have hI26 : fm_Inv (fm_smI σ 29 (fm_aI σ 2 (fm_mI σ 29).toNatClampNeg)) := fm_inv_url (fm_tgt hI ht) hI
          exact fm_vret (u := fm_smI σ 29 (fm_aI σ 2 (fm_mI σ 29).toNatClampNeg)) hQ hx hb hr ⟨by rw [fv_Md_move, if_neg c3, if_pos c23, if_pos c24, if_neg c25], hI26⟩ hP hD hS fx_Md_move_98 hlocks
        · refine lv_aload_n hx hb fx_Md_move_76 rfl (lv_at hl 2 rfl) ?_
          refine va_get (D := D) (ci := 5) (v := .int (fm_mI σ 30)) (C := fn_R_Md) (T := fn_T_Md) (N := 33) hx hb hts fn_j_Md hown hK hP 0 rfl rfl 30 (by decide) (hts _ (List.mem_cons_of_mem _ fq_557)) (fun _ h9 => h9) rfl fx_Md_move_77 ?_
          refine lv_if_eq (tgt := 93) hx hb fx_Md_move_80 (by decide) (fun c27 => ?_) (fun c27 => ?_)
          · refine lv_aload_n hx hb fx_Md_move_93 rfl (lv_at hl 2 rfl) ?_
            refine lv_iload_n hx hb fx_Md_move_94 rfl (lv_at hl 0 rfl) ?_
            refine va_put (D := D) (ci := 5) (v := .int (fm_aI σ 2 (fm_mI σ 29).toNatClampNeg)) (ty := .int) (C := fn_R_Md) (T := fn_T_Md) (N := 33) hx hb hts fn_j_Md fn_t_Md fn_k_Md fn_n_Md hown hK hP hD hS 0 rfl rfl 29 (by decide) (hts _ (List.mem_cons_of_mem _ fq_556)) (fun _ h9 => h9) rfl (by decide +kernel) rfl rfl (Nat.le_of_ble_eq_true rfl) fx_Md_move_95 (fun H locs hP hD hS => ?_)
            rw [fm_set_mI_29] at hP hD
            have hI28 : fm_Inv (fm_smI σ 29 (fm_aI σ 2 (fm_mI σ 29).toNatClampNeg)) := fm_inv_url (fm_tgt hI ht) hI
            exact fm_vret (u := fm_smI σ 29 (fm_aI σ 2 (fm_mI σ 29).toNatClampNeg)) hQ hx hb hr ⟨by rw [fv_Md_move, if_neg c3, if_pos c23, if_pos c24, if_pos c25, if_pos c27], hI28⟩ hP hD hS fx_Md_move_98 hlocks
          · refine lv_aload_n hx hb fx_Md_move_83 rfl (lv_at hl 2 rfl) ?_
            refine lv_iconst (v := 0) hx hb fx_Md_move_84 (by decide) ?_
            refine va_put (D := D) (ci := 5) (v := .int 0) (ty := .int) (C := fn_R_Md) (T := fn_T_Md) (N := 33) hx hb hts fn_j_Md fn_t_Md fn_k_Md fn_n_Md hown hK hP hD hS 0 rfl rfl 30 (by decide) (hts _ (List.mem_cons_of_mem _ fq_557)) (fun _ h9 => h9) rfl (by decide +kernel) rfl rfl (Nat.le_of_ble_eq_true rfl) fx_Md_move_85 (fun H locs hP hD hS => ?_)
            rw [fm_set_mI_30] at hP hD
            have hI29 : fm_Inv (fm_smI σ 30 0) := fm_inv_smI (by decide) (by decide) hI
            refine lv_aload_n hx hb fx_Md_move_88 rfl (lv_at hl 2 rfl) ?_
            refine lv_iconst (v := 0) hx hb fx_Md_move_89 (by decide) ?_
            refine va_put (D := D) (ci := 5) (v := .int 0) (ty := .int) (C := fn_R_Md) (T := fn_T_Md) (N := 33) hx hb hts fn_j_Md fn_t_Md fn_k_Md fn_n_Md hown hK hP hD hS 0 rfl rfl 31 (by decide) (hts _ (List.mem_cons_of_mem _ fq_558)) (fun _ h9 => h9) rfl (by decide +kernel) rfl rfl (Nat.le_of_ble_eq_true rfl) fx_Md_move_90 (fun H locs hP hD hS => ?_)
            rw [fm_set_mI_31] at hP hD
            have hI30 : fm_Inv (fm_smI (fm_smI σ 30 0) 31 0) := fm_inv_smI (by decide) (by decide) hI29
            refine lv_aload_n hx hb fx_Md_move_93 rfl (lv_at hl 2 rfl) ?_
            refine lv_iload_n hx hb fx_Md_move_94 rfl (lv_at hl 0 rfl) ?_
            refine va_put (D := D) (ci := 5) (v := .int (fm_aI σ 2 (fm_mI σ 29).toNatClampNeg)) (ty := .int) (C := fn_R_Md) (T := fn_T_Md) (N := 33) hx hb hts fn_j_Md fn_t_Md fn_k_Md fn_n_Md hown hK hP hD hS 0 rfl rfl 29 (by decide) (hts _ (List.mem_cons_of_mem _ fq_556)) (fun _ h9 => h9) rfl (by decide +kernel) rfl rfl (Nat.le_of_ble_eq_true rfl) fx_Md_move_95 (fun H locs hP hD hS => ?_)
            rw [fm_set_mI_29] at hP hD
            have hI31 : fm_Inv (fm_smI (fm_smI (fm_smI σ 30 0) 31 0) 29 (fm_aI σ 2 (fm_mI σ 29).toNatClampNeg)) := fm_inv_url (fm_tgt hI ht) hI30
            exact fm_vret (u := fm_smI (fm_smI (fm_smI σ 30 0) 31 0) 29 (fm_aI σ 2 (fm_mI σ 29).toNatClampNeg)) hQ hx hb hr ⟨by rw [fv_Md_move, if_neg c3, if_pos c23, if_pos c24, if_pos c25, if_neg c27], hI31⟩ hP hD hS fx_Md_move_98 hlocks
      · refine lv_aload_n hx hb fx_Md_move_61 rfl (lv_at hl 2 rfl) ?_
        refine va_get (D := D) (ci := 5) (v := .int (fm_mI σ 30)) (C := fn_R_Md) (T := fn_T_Md) (N := 33) hx hb hts fn_j_Md hown hK hP 0 rfl rfl 30 (by decide) (hts _ (List.mem_cons_of_mem _ fq_557)) (fun _ h9 => h9) rfl fx_Md_move_62 ?_
        refine lv_iconst (v := 1) hx hb fx_Md_move_65 (by decide) ?_
        refine lv_icmp_eq (tgt := 83) hx hb fx_Md_move_66 (by decide) (fun c32 => ?_) (fun c32 => ?_)
        · refine lv_aload_n hx hb fx_Md_move_83 rfl (lv_at hl 2 rfl) ?_
          refine lv_iconst (v := 0) hx hb fx_Md_move_84 (by decide) ?_
          refine va_put (D := D) (ci := 5) (v := .int 0) (ty := .int) (C := fn_R_Md) (T := fn_T_Md) (N := 33) hx hb hts fn_j_Md fn_t_Md fn_k_Md fn_n_Md hown hK hP hD hS 0 rfl rfl 30 (by decide) (hts _ (List.mem_cons_of_mem _ fq_557)) (fun _ h9 => h9) rfl (by decide +kernel) rfl rfl (Nat.le_of_ble_eq_true rfl) fx_Md_move_85 (fun H locs hP hD hS => ?_)
          rw [fm_set_mI_30] at hP hD
          have hI33 : fm_Inv (fm_smI σ 30 0) := fm_inv_smI (by decide) (by decide) hI
          refine lv_aload_n hx hb fx_Md_move_88 rfl (lv_at hl 2 rfl) ?_
          refine lv_iconst (v := 0) hx hb fx_Md_move_89 (by decide) ?_
          refine va_put (D := D) (ci := 5) (v := .int 0) (ty := .int) (C := fn_R_Md) (T := fn_T_Md) (N := 33) hx hb hts fn_j_Md fn_t_Md fn_k_Md fn_n_Md hown hK hP hD hS 0 rfl rfl 31 (by decide) (hts _ (List.mem_cons_of_mem _ fq_558)) (fun _ h9 => h9) rfl (by decide +kernel) rfl rfl (Nat.le_of_ble_eq_true rfl) fx_Md_move_90 (fun H locs hP hD hS => ?_)
          rw [fm_set_mI_31] at hP hD
          have hI34 : fm_Inv (fm_smI (fm_smI σ 30 0) 31 0) := fm_inv_smI (by decide) (by decide) hI33
          refine lv_aload_n hx hb fx_Md_move_93 rfl (lv_at hl 2 rfl) ?_
          refine lv_iload_n hx hb fx_Md_move_94 rfl (lv_at hl 0 rfl) ?_
          refine va_put (D := D) (ci := 5) (v := .int (fm_aI σ 2 (fm_mI σ 29).toNatClampNeg)) (ty := .int) (C := fn_R_Md) (T := fn_T_Md) (N := 33) hx hb hts fn_j_Md fn_t_Md fn_k_Md fn_n_Md hown hK hP hD hS 0 rfl rfl 29 (by decide) (hts _ (List.mem_cons_of_mem _ fq_556)) (fun _ h9 => h9) rfl (by decide +kernel) rfl rfl (Nat.le_of_ble_eq_true rfl) fx_Md_move_95 (fun H locs hP hD hS => ?_)
          rw [fm_set_mI_29] at hP hD
          have hI35 : fm_Inv (fm_smI (fm_smI (fm_smI σ 30 0) 31 0) 29 (fm_aI σ 2 (fm_mI σ 29).toNatClampNeg)) := fm_inv_url (fm_tgt hI ht) hI34
          exact fm_vret (u := fm_smI (fm_smI (fm_smI σ 30 0) 31 0) 29 (fm_aI σ 2 (fm_mI σ 29).toNatClampNeg)) hQ hx hb hr ⟨by rw [fv_Md_move, if_neg c3, if_pos c23, if_neg c24, if_pos c32], hI35⟩ hP hD hS fx_Md_move_98 hlocks
        · refine lv_iload_n hx hb fx_Md_move_69 rfl (lv_at hl 1 rfl) ?_
          refine lv_sipush (v := 303) hx hb fx_Md_move_70 (by decide) ?_
          refine lv_icmp_ne (tgt := 93) hx hb fx_Md_move_73 (by decide) (fun c36 => ?_) (fun c36 => ?_)
          · refine lv_aload_n hx hb fx_Md_move_93 rfl (lv_at hl 2 rfl) ?_
            refine lv_iload_n hx hb fx_Md_move_94 rfl (lv_at hl 0 rfl) ?_
            refine va_put (D := D) (ci := 5) (v := .int (fm_aI σ 2 (fm_mI σ 29).toNatClampNeg)) (ty := .int) (C := fn_R_Md) (T := fn_T_Md) (N := 33) hx hb hts fn_j_Md fn_t_Md fn_k_Md fn_n_Md hown hK hP hD hS 0 rfl rfl 29 (by decide) (hts _ (List.mem_cons_of_mem _ fq_556)) (fun _ h9 => h9) rfl (by decide +kernel) rfl rfl (Nat.le_of_ble_eq_true rfl) fx_Md_move_95 (fun H locs hP hD hS => ?_)
            rw [fm_set_mI_29] at hP hD
            have hI37 : fm_Inv (fm_smI σ 29 (fm_aI σ 2 (fm_mI σ 29).toNatClampNeg)) := fm_inv_url (fm_tgt hI ht) hI
            exact fm_vret (u := fm_smI σ 29 (fm_aI σ 2 (fm_mI σ 29).toNatClampNeg)) hQ hx hb hr ⟨by rw [fv_Md_move, if_neg c3, if_pos c23, if_neg c24, if_neg c32, if_neg c36], hI37⟩ hP hD hS fx_Md_move_98 hlocks
          · refine lv_aload_n hx hb fx_Md_move_76 rfl (lv_at hl 2 rfl) ?_
            refine va_get (D := D) (ci := 5) (v := .int (fm_mI σ 30)) (C := fn_R_Md) (T := fn_T_Md) (N := 33) hx hb hts fn_j_Md hown hK hP 0 rfl rfl 30 (by decide) (hts _ (List.mem_cons_of_mem _ fq_557)) (fun _ h9 => h9) rfl fx_Md_move_77 ?_
            refine lv_if_eq (tgt := 93) hx hb fx_Md_move_80 (by decide) (fun c38 => ?_) (fun c38 => ?_)
            · refine lv_aload_n hx hb fx_Md_move_93 rfl (lv_at hl 2 rfl) ?_
              refine lv_iload_n hx hb fx_Md_move_94 rfl (lv_at hl 0 rfl) ?_
              refine va_put (D := D) (ci := 5) (v := .int (fm_aI σ 2 (fm_mI σ 29).toNatClampNeg)) (ty := .int) (C := fn_R_Md) (T := fn_T_Md) (N := 33) hx hb hts fn_j_Md fn_t_Md fn_k_Md fn_n_Md hown hK hP hD hS 0 rfl rfl 29 (by decide) (hts _ (List.mem_cons_of_mem _ fq_556)) (fun _ h9 => h9) rfl (by decide +kernel) rfl rfl (Nat.le_of_ble_eq_true rfl) fx_Md_move_95 (fun H locs hP hD hS => ?_)
              rw [fm_set_mI_29] at hP hD
              have hI39 : fm_Inv (fm_smI σ 29 (fm_aI σ 2 (fm_mI σ 29).toNatClampNeg)) := fm_inv_url (fm_tgt hI ht) hI
              exact fm_vret (u := fm_smI σ 29 (fm_aI σ 2 (fm_mI σ 29).toNatClampNeg)) hQ hx hb hr ⟨by rw [fv_Md_move, if_neg c3, if_pos c23, if_neg c24, if_neg c32, if_pos c36, if_pos c38], hI39⟩ hP hD hS fx_Md_move_98 hlocks
            · refine lv_aload_n hx hb fx_Md_move_83 rfl (lv_at hl 2 rfl) ?_
              refine lv_iconst (v := 0) hx hb fx_Md_move_84 (by decide) ?_
              refine va_put (D := D) (ci := 5) (v := .int 0) (ty := .int) (C := fn_R_Md) (T := fn_T_Md) (N := 33) hx hb hts fn_j_Md fn_t_Md fn_k_Md fn_n_Md hown hK hP hD hS 0 rfl rfl 30 (by decide) (hts _ (List.mem_cons_of_mem _ fq_557)) (fun _ h9 => h9) rfl (by decide +kernel) rfl rfl (Nat.le_of_ble_eq_true rfl) fx_Md_move_85 (fun H locs hP hD hS => ?_)
              rw [fm_set_mI_30] at hP hD
              have hI40 : fm_Inv (fm_smI σ 30 0) := fm_inv_smI (by decide) (by decide) hI
              refine lv_aload_n hx hb fx_Md_move_88 rfl (lv_at hl 2 rfl) ?_
              refine lv_iconst (v := 0) hx hb fx_Md_move_89 (by decide) ?_
              refine va_put (D := D) (ci := 5) (v := .int 0) (ty := .int) (C := fn_R_Md) (T := fn_T_Md) (N := 33) hx hb hts fn_j_Md fn_t_Md fn_k_Md fn_n_Md hown hK hP hD hS 0 rfl rfl 31 (by decide) (hts _ (List.mem_cons_of_mem _ fq_558)) (fun _ h9 => h9) rfl (by decide +kernel) rfl rfl (Nat.le_of_ble_eq_true rfl) fx_Md_move_90 (fun H locs hP hD hS => ?_)
              rw [fm_set_mI_31] at hP hD
              have hI41 : fm_Inv (fm_smI (fm_smI σ 30 0) 31 0) := fm_inv_smI (by decide) (by decide) hI40
              refine lv_aload_n hx hb fx_Md_move_93 rfl (lv_at hl 2 rfl) ?_
              refine lv_iload_n hx hb fx_Md_move_94 rfl (lv_at hl 0 rfl) ?_
              refine va_put (D := D) (ci := 5) (v := .int (fm_aI σ 2 (fm_mI σ 29).toNatClampNeg)) (ty := .int) (C := fn_R_Md) (T := fn_T_Md) (N := 33) hx hb hts fn_j_Md fn_t_Md fn_k_Md fn_n_Md hown hK hP hD hS 0 rfl rfl 29 (by decide) (hts _ (List.mem_cons_of_mem _ fq_556)) (fun _ h9 => h9) rfl (by decide +kernel) rfl rfl (Nat.le_of_ble_eq_true rfl) fx_Md_move_95 (fun H locs hP hD hS => ?_)
              rw [fm_set_mI_29] at hP hD
              have hI42 : fm_Inv (fm_smI (fm_smI (fm_smI σ 30 0) 31 0) 29 (fm_aI σ 2 (fm_mI σ 29).toNatClampNeg)) := fm_inv_url (fm_tgt hI ht) hI41
              exact fm_vret (u := fm_smI (fm_smI (fm_smI σ 30 0) 31 0) 29 (fm_aI σ 2 (fm_mI σ 29).toNatClampNeg)) hQ hx hb hr ⟨by rw [fv_Md_move, if_neg c3, if_pos c23, if_neg c24, if_neg c32, if_pos c36, if_neg c38], hI42⟩ hP hD hS fx_Md_move_98 hlocks
    · refine lv_aload_n hx hb fx_Md_move_48 rfl (lv_at hl 2 rfl) ?_
      refine lv_bipush (v := 6) hx hb fx_Md_move_49 (by decide) ?_
      refine va_put (D := D) (ci := 5) (v := .int 6) (ty := .int) (C := fn_R_Md) (T := fn_T_Md) (N := 33) hx hb hts fn_j_Md fn_t_Md fn_k_Md fn_n_Md hown hK hP hD hS 0 rfl rfl 28 (by decide) (hts _ (List.mem_cons_of_mem _ fq_555)) (fun _ h9 => h9) rfl (by decide +kernel) rfl rfl (Nat.le_of_ble_eq_true rfl) fx_Md_move_51 (fun H locs hP hD hS => ?_)
      rw [fm_set_mI_28] at hP hD
      have hI43 : fm_Inv (fm_smI σ 28 6) := fm_inv_smI (by decide) (by decide) hI
      refine lv_iload_n hx hb fx_Md_move_54 rfl (lv_at hl 1 rfl) ?_
      refine lv_sipush (v := 303) hx hb fx_Md_move_55 (by decide) ?_
      refine lv_icmp_ge (tgt := 69) hx hb fx_Md_move_58 (by decide) (fun c44 => ?_) (fun c44 => ?_)
      · refine lv_iload_n hx hb fx_Md_move_69 rfl (lv_at hl 1 rfl) ?_
        refine lv_sipush (v := 303) hx hb fx_Md_move_70 (by decide) ?_
        refine lv_icmp_ne (tgt := 93) hx hb fx_Md_move_73 (by decide) (fun c45 => ?_) (fun c45 => ?_)
        · refine lv_aload_n hx hb fx_Md_move_93 rfl (lv_at hl 2 rfl) ?_
          refine lv_iload_n hx hb fx_Md_move_94 rfl (lv_at hl 0 rfl) ?_
          refine va_put (D := D) (ci := 5) (v := .int (fm_aI σ 2 (fm_mI σ 29).toNatClampNeg)) (ty := .int) (C := fn_R_Md) (T := fn_T_Md) (N := 33) hx hb hts fn_j_Md fn_t_Md fn_k_Md fn_n_Md hown hK hP hD hS 0 rfl rfl 29 (by decide) (hts _ (List.mem_cons_of_mem _ fq_556)) (fun _ h9 => h9) rfl (by decide +kernel) rfl rfl (Nat.le_of_ble_eq_true rfl) fx_Md_move_95 (fun H locs hP hD hS => ?_)
          rw [fm_set_mI_29] at hP hD
          have hI46 : fm_Inv (fm_smI (fm_smI σ 28 6) 29 (fm_aI σ 2 (fm_mI σ 29).toNatClampNeg)) := fm_inv_url (fm_tgt hI ht) hI43
          exact fm_vret (u := fm_smI (fm_smI σ 28 6) 29 (fm_aI σ 2 (fm_mI σ 29).toNatClampNeg)) hQ hx hb hr ⟨by rw [fv_Md_move, if_neg c3, if_neg c23, if_pos c44, if_neg c45], hI46⟩ hP hD hS fx_Md_move_98 hlocks
        · refine lv_aload_n hx hb fx_Md_move_76 rfl (lv_at hl 2 rfl) ?_
          refine va_get (D := D) (ci := 5) (v := .int (fm_mI σ 30)) (C := fn_R_Md) (T := fn_T_Md) (N := 33) hx hb hts fn_j_Md hown hK hP 0 rfl rfl 30 (by decide) (hts _ (List.mem_cons_of_mem _ fq_557)) (fun _ h9 => h9) rfl fx_Md_move_77 ?_
          refine lv_if_eq (tgt := 93) hx hb fx_Md_move_80 (by decide) (fun c47 => ?_) (fun c47 => ?_)
          · refine lv_aload_n hx hb fx_Md_move_93 rfl (lv_at hl 2 rfl) ?_
            refine lv_iload_n hx hb fx_Md_move_94 rfl (lv_at hl 0 rfl) ?_
            refine va_put (D := D) (ci := 5) (v := .int (fm_aI σ 2 (fm_mI σ 29).toNatClampNeg)) (ty := .int) (C := fn_R_Md) (T := fn_T_Md) (N := 33) hx hb hts fn_j_Md fn_t_Md fn_k_Md fn_n_Md hown hK hP hD hS 0 rfl rfl 29 (by decide) (hts _ (List.mem_cons_of_mem _ fq_556)) (fun _ h9 => h9) rfl (by decide +kernel) rfl rfl (Nat.le_of_ble_eq_true rfl) fx_Md_move_95 (fun H locs hP hD hS => ?_)
            rw [fm_set_mI_29] at hP hD
            have hI48 : fm_Inv (fm_smI (fm_smI σ 28 6) 29 (fm_aI σ 2 (fm_mI σ 29).toNatClampNeg)) := fm_inv_url (fm_tgt hI ht) hI43
            exact fm_vret (u := fm_smI (fm_smI σ 28 6) 29 (fm_aI σ 2 (fm_mI σ 29).toNatClampNeg)) hQ hx hb hr ⟨by rw [fv_Md_move, if_neg c3, if_neg c23, if_pos c44, if_pos c45, if_pos c47], hI48⟩ hP hD hS fx_Md_move_98 hlocks
          · refine lv_aload_n hx hb fx_Md_move_83 rfl (lv_at hl 2 rfl) ?_
            refine lv_iconst (v := 0) hx hb fx_Md_move_84 (by decide) ?_
            refine va_put (D := D) (ci := 5) (v := .int 0) (ty := .int) (C := fn_R_Md) (T := fn_T_Md) (N := 33) hx hb hts fn_j_Md fn_t_Md fn_k_Md fn_n_Md hown hK hP hD hS 0 rfl rfl 30 (by decide) (hts _ (List.mem_cons_of_mem _ fq_557)) (fun _ h9 => h9) rfl (by decide +kernel) rfl rfl (Nat.le_of_ble_eq_true rfl) fx_Md_move_85 (fun H locs hP hD hS => ?_)
            rw [fm_set_mI_30] at hP hD
            have hI49 : fm_Inv (fm_smI (fm_smI σ 28 6) 30 0) := fm_inv_smI (by decide) (by decide) hI43
            refine lv_aload_n hx hb fx_Md_move_88 rfl (lv_at hl 2 rfl) ?_
            refine lv_iconst (v := 0) hx hb fx_Md_move_89 (by decide) ?_
            refine va_put (D := D) (ci := 5) (v := .int 0) (ty := .int) (C := fn_R_Md) (T := fn_T_Md) (N := 33) hx hb hts fn_j_Md fn_t_Md fn_k_Md fn_n_Md hown hK hP hD hS 0 rfl rfl 31 (by decide) (hts _ (List.mem_cons_of_mem _ fq_558)) (fun _ h9 => h9) rfl (by decide +kernel) rfl rfl (Nat.le_of_ble_eq_true rfl) fx_Md_move_90 (fun H locs hP hD hS => ?_)
            rw [fm_set_mI_31] at hP hD
            have hI50 : fm_Inv (fm_smI (fm_smI (fm_smI σ 28 6) 30 0) 31 0) := fm_inv_smI (by decide) (by decide) hI49
            refine lv_aload_n hx hb fx_Md_move_93 rfl (lv_at hl 2 rfl) ?_
            refine lv_iload_n hx hb fx_Md_move_94 rfl (lv_at hl 0 rfl) ?_
            refine va_put (D := D) (ci := 5) (v := .int (fm_aI σ 2 (fm_mI σ 29).toNatClampNeg)) (ty := .int) (C := fn_R_Md) (T := fn_T_Md) (N := 33) hx hb hts fn_j_Md fn_t_Md fn_k_Md fn_n_Md hown hK hP hD hS 0 rfl rfl 29 (by decide) (hts _ (List.mem_cons_of_mem _ fq_556)) (fun _ h9 => h9) rfl (by decide +kernel) rfl rfl (Nat.le_of_ble_eq_true rfl) fx_Md_move_95 (fun H locs hP hD hS => ?_)
            rw [fm_set_mI_29] at hP hD
            have hI51 : fm_Inv (fm_smI (fm_smI (fm_smI (fm_smI σ 28 6) 30 0) 31 0) 29 (fm_aI σ 2 (fm_mI σ 29).toNatClampNeg)) := fm_inv_url (fm_tgt hI ht) hI50
            exact fm_vret (u := fm_smI (fm_smI (fm_smI (fm_smI σ 28 6) 30 0) 31 0) 29 (fm_aI σ 2 (fm_mI σ 29).toNatClampNeg)) hQ hx hb hr ⟨by rw [fv_Md_move, if_neg c3, if_neg c23, if_pos c44, if_pos c45, if_neg c47], hI51⟩ hP hD hS fx_Md_move_98 hlocks
      · refine lv_aload_n hx hb fx_Md_move_61 rfl (lv_at hl 2 rfl) ?_
        refine va_get (D := D) (ci := 5) (v := .int (fm_mI σ 30)) (C := fn_R_Md) (T := fn_T_Md) (N := 33) hx hb hts fn_j_Md hown hK hP 0 rfl rfl 30 (by decide) (hts _ (List.mem_cons_of_mem _ fq_557)) (fun _ h9 => h9) rfl fx_Md_move_62 ?_
        refine lv_iconst (v := 1) hx hb fx_Md_move_65 (by decide) ?_
        refine lv_icmp_eq (tgt := 83) hx hb fx_Md_move_66 (by decide) (fun c52 => ?_) (fun c52 => ?_)
        · refine lv_aload_n hx hb fx_Md_move_83 rfl (lv_at hl 2 rfl) ?_
          refine lv_iconst (v := 0) hx hb fx_Md_move_84 (by decide) ?_
          refine va_put (D := D) (ci := 5) (v := .int 0) (ty := .int) (C := fn_R_Md) (T := fn_T_Md) (N := 33) hx hb hts fn_j_Md fn_t_Md fn_k_Md fn_n_Md hown hK hP hD hS 0 rfl rfl 30 (by decide) (hts _ (List.mem_cons_of_mem _ fq_557)) (fun _ h9 => h9) rfl (by decide +kernel) rfl rfl (Nat.le_of_ble_eq_true rfl) fx_Md_move_85 (fun H locs hP hD hS => ?_)
          rw [fm_set_mI_30] at hP hD
          have hI53 : fm_Inv (fm_smI (fm_smI σ 28 6) 30 0) := fm_inv_smI (by decide) (by decide) hI43
          refine lv_aload_n hx hb fx_Md_move_88 rfl (lv_at hl 2 rfl) ?_
          refine lv_iconst (v := 0) hx hb fx_Md_move_89 (by decide) ?_
          refine va_put (D := D) (ci := 5) (v := .int 0) (ty := .int) (C := fn_R_Md) (T := fn_T_Md) (N := 33) hx hb hts fn_j_Md fn_t_Md fn_k_Md fn_n_Md hown hK hP hD hS 0 rfl rfl 31 (by decide) (hts _ (List.mem_cons_of_mem _ fq_558)) (fun _ h9 => h9) rfl (by decide +kernel) rfl rfl (Nat.le_of_ble_eq_true rfl) fx_Md_move_90 (fun H locs hP hD hS => ?_)
          rw [fm_set_mI_31] at hP hD
          have hI54 : fm_Inv (fm_smI (fm_smI (fm_smI σ 28 6) 30 0) 31 0) := fm_inv_smI (by decide) (by decide) hI53
          refine lv_aload_n hx hb fx_Md_move_93 rfl (lv_at hl 2 rfl) ?_
          refine lv_iload_n hx hb fx_Md_move_94 rfl (lv_at hl 0 rfl) ?_
          refine va_put (D := D) (ci := 5) (v := .int (fm_aI σ 2 (fm_mI σ 29).toNatClampNeg)) (ty := .int) (C := fn_R_Md) (T := fn_T_Md) (N := 33) hx hb hts fn_j_Md fn_t_Md fn_k_Md fn_n_Md hown hK hP hD hS 0 rfl rfl 29 (by decide) (hts _ (List.mem_cons_of_mem _ fq_556)) (fun _ h9 => h9) rfl (by decide +kernel) rfl rfl (Nat.le_of_ble_eq_true rfl) fx_Md_move_95 (fun H locs hP hD hS => ?_)
          rw [fm_set_mI_29] at hP hD
          have hI55 : fm_Inv (fm_smI (fm_smI (fm_smI (fm_smI σ 28 6) 30 0) 31 0) 29 (fm_aI σ 2 (fm_mI σ 29).toNatClampNeg)) := fm_inv_url (fm_tgt hI ht) hI54
          exact fm_vret (u := fm_smI (fm_smI (fm_smI (fm_smI σ 28 6) 30 0) 31 0) 29 (fm_aI σ 2 (fm_mI σ 29).toNatClampNeg)) hQ hx hb hr ⟨by rw [fv_Md_move, if_neg c3, if_neg c23, if_neg c44, if_pos c52], hI55⟩ hP hD hS fx_Md_move_98 hlocks
        · refine lv_iload_n hx hb fx_Md_move_69 rfl (lv_at hl 1 rfl) ?_
          refine lv_sipush (v := 303) hx hb fx_Md_move_70 (by decide) ?_
          refine lv_icmp_ne (tgt := 93) hx hb fx_Md_move_73 (by decide) (fun c56 => ?_) (fun c56 => ?_)
          · refine lv_aload_n hx hb fx_Md_move_93 rfl (lv_at hl 2 rfl) ?_
            refine lv_iload_n hx hb fx_Md_move_94 rfl (lv_at hl 0 rfl) ?_
            refine va_put (D := D) (ci := 5) (v := .int (fm_aI σ 2 (fm_mI σ 29).toNatClampNeg)) (ty := .int) (C := fn_R_Md) (T := fn_T_Md) (N := 33) hx hb hts fn_j_Md fn_t_Md fn_k_Md fn_n_Md hown hK hP hD hS 0 rfl rfl 29 (by decide) (hts _ (List.mem_cons_of_mem _ fq_556)) (fun _ h9 => h9) rfl (by decide +kernel) rfl rfl (Nat.le_of_ble_eq_true rfl) fx_Md_move_95 (fun H locs hP hD hS => ?_)
            rw [fm_set_mI_29] at hP hD
            have hI57 : fm_Inv (fm_smI (fm_smI σ 28 6) 29 (fm_aI σ 2 (fm_mI σ 29).toNatClampNeg)) := fm_inv_url (fm_tgt hI ht) hI43
            exact fm_vret (u := fm_smI (fm_smI σ 28 6) 29 (fm_aI σ 2 (fm_mI σ 29).toNatClampNeg)) hQ hx hb hr ⟨by rw [fv_Md_move, if_neg c3, if_neg c23, if_neg c44, if_neg c52, if_neg c56], hI57⟩ hP hD hS fx_Md_move_98 hlocks
          · refine lv_aload_n hx hb fx_Md_move_76 rfl (lv_at hl 2 rfl) ?_
            refine va_get (D := D) (ci := 5) (v := .int (fm_mI σ 30)) (C := fn_R_Md) (T := fn_T_Md) (N := 33) hx hb hts fn_j_Md hown hK hP 0 rfl rfl 30 (by decide) (hts _ (List.mem_cons_of_mem _ fq_557)) (fun _ h9 => h9) rfl fx_Md_move_77 ?_
            refine lv_if_eq (tgt := 93) hx hb fx_Md_move_80 (by decide) (fun c58 => ?_) (fun c58 => ?_)
            · refine lv_aload_n hx hb fx_Md_move_93 rfl (lv_at hl 2 rfl) ?_
              refine lv_iload_n hx hb fx_Md_move_94 rfl (lv_at hl 0 rfl) ?_
              refine va_put (D := D) (ci := 5) (v := .int (fm_aI σ 2 (fm_mI σ 29).toNatClampNeg)) (ty := .int) (C := fn_R_Md) (T := fn_T_Md) (N := 33) hx hb hts fn_j_Md fn_t_Md fn_k_Md fn_n_Md hown hK hP hD hS 0 rfl rfl 29 (by decide) (hts _ (List.mem_cons_of_mem _ fq_556)) (fun _ h9 => h9) rfl (by decide +kernel) rfl rfl (Nat.le_of_ble_eq_true rfl) fx_Md_move_95 (fun H locs hP hD hS => ?_)
              rw [fm_set_mI_29] at hP hD
              have hI59 : fm_Inv (fm_smI (fm_smI σ 28 6) 29 (fm_aI σ 2 (fm_mI σ 29).toNatClampNeg)) := fm_inv_url (fm_tgt hI ht) hI43
              exact fm_vret (u := fm_smI (fm_smI σ 28 6) 29 (fm_aI σ 2 (fm_mI σ 29).toNatClampNeg)) hQ hx hb hr ⟨by rw [fv_Md_move, if_neg c3, if_neg c23, if_neg c44, if_neg c52, if_pos c56, if_pos c58], hI59⟩ hP hD hS fx_Md_move_98 hlocks
            · refine lv_aload_n hx hb fx_Md_move_83 rfl (lv_at hl 2 rfl) ?_
              refine lv_iconst (v := 0) hx hb fx_Md_move_84 (by decide) ?_
              refine va_put (D := D) (ci := 5) (v := .int 0) (ty := .int) (C := fn_R_Md) (T := fn_T_Md) (N := 33) hx hb hts fn_j_Md fn_t_Md fn_k_Md fn_n_Md hown hK hP hD hS 0 rfl rfl 30 (by decide) (hts _ (List.mem_cons_of_mem _ fq_557)) (fun _ h9 => h9) rfl (by decide +kernel) rfl rfl (Nat.le_of_ble_eq_true rfl) fx_Md_move_85 (fun H locs hP hD hS => ?_)
              rw [fm_set_mI_30] at hP hD
              have hI60 : fm_Inv (fm_smI (fm_smI σ 28 6) 30 0) := fm_inv_smI (by decide) (by decide) hI43
              refine lv_aload_n hx hb fx_Md_move_88 rfl (lv_at hl 2 rfl) ?_
              refine lv_iconst (v := 0) hx hb fx_Md_move_89 (by decide) ?_
              refine va_put (D := D) (ci := 5) (v := .int 0) (ty := .int) (C := fn_R_Md) (T := fn_T_Md) (N := 33) hx hb hts fn_j_Md fn_t_Md fn_k_Md fn_n_Md hown hK hP hD hS 0 rfl rfl 31 (by decide) (hts _ (List.mem_cons_of_mem _ fq_558)) (fun _ h9 => h9) rfl (by decide +kernel) rfl rfl (Nat.le_of_ble_eq_true rfl) fx_Md_move_90 (fun H locs hP hD hS => ?_)
              rw [fm_set_mI_31] at hP hD
              have hI61 : fm_Inv (fm_smI (fm_smI (fm_smI σ 28 6) 30 0) 31 0) := fm_inv_smI (by decide) (by decide) hI60
              refine lv_aload_n hx hb fx_Md_move_93 rfl (lv_at hl 2 rfl) ?_
              refine lv_iload_n hx hb fx_Md_move_94 rfl (lv_at hl 0 rfl) ?_
              refine va_put (D := D) (ci := 5) (v := .int (fm_aI σ 2 (fm_mI σ 29).toNatClampNeg)) (ty := .int) (C := fn_R_Md) (T := fn_T_Md) (N := 33) hx hb hts fn_j_Md fn_t_Md fn_k_Md fn_n_Md hown hK hP hD hS 0 rfl rfl 29 (by decide) (hts _ (List.mem_cons_of_mem _ fq_556)) (fun _ h9 => h9) rfl (by decide +kernel) rfl rfl (Nat.le_of_ble_eq_true rfl) fx_Md_move_95 (fun H locs hP hD hS => ?_)
              rw [fm_set_mI_29] at hP hD
              have hI62 : fm_Inv (fm_smI (fm_smI (fm_smI (fm_smI σ 28 6) 30 0) 31 0) 29 (fm_aI σ 2 (fm_mI σ 29).toNatClampNeg)) := fm_inv_url (fm_tgt hI ht) hI61
              exact fm_vret (u := fm_smI (fm_smI (fm_smI (fm_smI σ 28 6) 30 0) 31 0) 29 (fm_aI σ 2 (fm_mI σ 29).toNatClampNeg)) hQ hx hb hr ⟨by rw [fv_Md_move, if_neg c3, if_neg c23, if_neg c44, if_neg c52, if_pos c56, if_neg c58], hI62⟩ hP hD hS fx_Md_move_98 hlocks
def fv_Md_answer_j10 (σ : FMS) (p1 : Int32) (v10 : Int32) : FMS := fm_saI (fm_saI (fm_saI (fm_saI σ 19 (9 : Int32).toNatClampNeg p1) 19 (6 : Int32).toNatClampNeg (fm_aI σ 0 (fm_mI σ 29).toNatClampNeg)) 19 (7 : Int32).toNatClampNeg (fm_aI σ 1 (fm_mI σ 29).toNatClampNeg)) 19 (8 : Int32).toNatClampNeg v10
def fv_Md_answer (σ : FMS) (p1 : Int32) : FMS := if p1 ≤ 1 then fv_Md_answer_j10 σ p1 (if p1 = 0 then fm_aI σ 3 (fm_mI σ 29).toNatClampNeg else (fm_aI σ 3 (fm_mI σ 29).toNatClampNeg) &&& (fm_aI σ 4 (fm_mI σ 29).toNatClampNeg)) else fm_saI σ 19 (9 : Int32).toNatClampNeg p1
set_option maxHeartbeats 4000000 in
set_option maxRecDepth 100000 in
theorem fc_Md_answer (l : Launch) (D : va_G) (ca : Nat → ClassId) (am : Nat → Nat) (sz : Nat) (σ : FMS) (p1 : Int32) (hI : fm_Inv σ)  : Met l fy_Md_answer (fw_Md_answer :: fb_tbl) ({ frames := 0, cells := 0, slots := 0, locals := 0 } : Room) (fm_Pc D ca am [.ref (am 0), .int p1] σ sz) ((fun A => va_Qv (fun u : FMS => fv_Md_answer σ p1 = u ∧ fm_Inv u) (fm_B D ca am A) A) (va_A (fm_w ca am σ) sz)) 0 0 (va_A (fm_w ca am σ) sz) := by
  refine fm_ofW (cc := fb_Md_answer) (maxL := 2) (ret := none) (Qf := fun A => va_Qv (fun u : FMS => fv_Md_answer σ p1 = u ∧ fm_Inv u) (fm_B D ca am A) A) (by decide) (Nat.le_of_ble_eq_true rfl) ?_
  intro p e s m args below meth c A Q hQ hx hb hr hts hown hlocks hml hP hK hD hS hA hN ls hl
  have hown : s.vm.findClass fn_R_Md = some m.cls := hown
  have hl : lv_has ls 2 [(0, .ref (am 0)), (1, .int p1)] := hl
  suffices hgo : ∀ (H : Heap) (locs : List Loc), va_P D fn_cl (fm_w ca am σ) H → va_D A (fm_w ca am σ) → va_S A s.heap H locs → W p l e ({ frames := 0, cells := 0, slots := 0, locals := 0 } : Room) s m args below meth c H locs 0 0 Q (F0 m 0 ls []) from hgo _ _ hP hD hS
  clear hP hD hS
  intro H locs hP hD hS
  refine lv_aload_n hx hb fx_Md_answer_0 rfl (lv_at hl 0 rfl) ?_
  refine va_get (D := D) (ci := 5) (v := .ref (am 20)) (C := fn_R_Md) (T := fn_T_Md) (N := 33) hx hb hts fn_j_Md hown hK hP 0 rfl rfl 19 (by decide) (hts _ (List.mem_cons_of_mem _ fq_546)) (fun _ h9 => h9) rfl fx_Md_answer_1 ?_
  refine lv_bipush (v := 9) hx hb fx_Md_answer_4 (by decide) ?_
  refine lv_iload_n hx hb fx_Md_answer_6 rfl (lv_at hl 1 rfl) ?_
  have hb1 : vp_in (9 : Int32) 10 := vp_in_nI (n := 9) (N := 10) (by decide) (by decide)
  refine va_iast (D := D) (x := p1) hx hb hK hP hD hS 20 19 rfl rfl hb1 fx_Md_answer_7 (fun H locs hP hD hS => ?_)
  rw [fm_set_a_19] at hP hD
  have hI2 : fm_Inv (fm_saI σ 19 (9 : Int32).toNatClampNeg p1) := fm_inv_saI (by decide) hI
  refine lv_iload_n hx hb fx_Md_answer_8 rfl (lv_at hl 1 rfl) ?_
  refine lv_iconst (v := 1) hx hb fx_Md_answer_9 (by decide) ?_
  refine lv_icmp_le (tgt := 14) hx hb fx_Md_answer_10 (by decide) (fun c3 => ?_) (fun c3 => ?_)
  · refine lv_aload_n hx hb fx_Md_answer_14 rfl (lv_at hl 0 rfl) ?_
    refine va_get (D := D) (ci := 5) (v := .ref (am 20)) (C := fn_R_Md) (T := fn_T_Md) (N := 33) hx hb hts fn_j_Md hown hK hP 0 rfl rfl 19 (by decide) (hts _ (List.mem_cons_of_mem _ fq_546)) (fun _ h9 => h9) rfl fx_Md_answer_15 ?_
    refine lv_bipush (v := 6) hx hb fx_Md_answer_18 (by decide) ?_
    refine lv_aload_n hx hb fx_Md_answer_20 rfl (lv_at hl 0 rfl) ?_
    refine va_get (D := D) (ci := 5) (v := .ref (am 1)) (C := fn_R_Md) (T := fn_T_Md) (N := 33) hx hb hts fn_j_Md hown hK hP 0 rfl rfl 0 (by decide) (hts _ (List.mem_cons_of_mem _ fq_527)) (fun _ h9 => h9) rfl fx_Md_answer_21 ?_
    refine lv_aload_n hx hb fx_Md_answer_24 rfl (lv_at hl 0 rfl) ?_
    refine va_get (D := D) (ci := 5) (v := .int (fm_mI σ 29)) (C := fn_R_Md) (T := fn_T_Md) (N := 33) hx hb hts fn_j_Md hown hK hP 0 rfl rfl 29 (by decide) (hts _ (List.mem_cons_of_mem _ fq_556)) (fun _ h9 => h9) rfl fx_Md_answer_25 ?_
    have hb4 : vp_in (fm_mI σ 29) 48 := hI2.1
    refine va_iald (D := D) hx hb hK hP 1 0 rfl rfl hb4 fx_Md_answer_28 ?_
    refine W.eq (g2 := F0 m 29 ls (.int (fm_aI σ 0 (fm_mI σ 29).toNatClampNeg) :: [.int 6, .ref (am 20)])) rfl ?_
    have hb5 : vp_in (6 : Int32) 10 := vp_in_nI (n := 6) (N := 10) (by decide) (by decide)
    refine va_iast (D := D) (x := fm_aI σ 0 (fm_mI σ 29).toNatClampNeg) hx hb hK hP hD hS 20 19 rfl rfl hb5 fx_Md_answer_29 (fun H locs hP hD hS => ?_)
    rw [fm_set_a_19] at hP hD
    have hI6 : fm_Inv (fm_saI (fm_saI σ 19 (9 : Int32).toNatClampNeg p1) 19 (6 : Int32).toNatClampNeg (fm_aI σ 0 (fm_mI σ 29).toNatClampNeg)) := fm_inv_saI (by decide) hI2
    refine lv_aload_n hx hb fx_Md_answer_30 rfl (lv_at hl 0 rfl) ?_
    refine va_get (D := D) (ci := 5) (v := .ref (am 20)) (C := fn_R_Md) (T := fn_T_Md) (N := 33) hx hb hts fn_j_Md hown hK hP 0 rfl rfl 19 (by decide) (hts _ (List.mem_cons_of_mem _ fq_546)) (fun _ h9 => h9) rfl fx_Md_answer_31 ?_
    refine lv_bipush (v := 7) hx hb fx_Md_answer_34 (by decide) ?_
    refine lv_aload_n hx hb fx_Md_answer_36 rfl (lv_at hl 0 rfl) ?_
    refine va_get (D := D) (ci := 5) (v := .ref (am 2)) (C := fn_R_Md) (T := fn_T_Md) (N := 33) hx hb hts fn_j_Md hown hK hP 0 rfl rfl 1 (by decide) (hts _ (List.mem_cons_of_mem _ fq_528)) (fun _ h9 => h9) rfl fx_Md_answer_37 ?_
    refine lv_aload_n hx hb fx_Md_answer_40 rfl (lv_at hl 0 rfl) ?_
    refine va_get (D := D) (ci := 5) (v := .int (fm_mI σ 29)) (C := fn_R_Md) (T := fn_T_Md) (N := 33) hx hb hts fn_j_Md hown hK hP 0 rfl rfl 29 (by decide) (hts _ (List.mem_cons_of_mem _ fq_556)) (fun _ h9 => h9) rfl fx_Md_answer_41 ?_
    have hb7 : vp_in (fm_mI σ 29) 48 := hI6.1
    refine va_iald (D := D) hx hb hK hP 2 1 rfl rfl hb7 fx_Md_answer_44 ?_
    refine W.eq (g2 := F0 m 45 ls (.int (fm_aI σ 1 (fm_mI σ 29).toNatClampNeg) :: [.int 7, .ref (am 20)])) rfl ?_
    have hb8 : vp_in (7 : Int32) 10 := vp_in_nI (n := 7) (N := 10) (by decide) (by decide)
    refine va_iast (D := D) (x := fm_aI σ 1 (fm_mI σ 29).toNatClampNeg) hx hb hK hP hD hS 20 19 rfl rfl hb8 fx_Md_answer_45 (fun H locs hP hD hS => ?_)
    rw [fm_set_a_19] at hP hD
    have hI9 : fm_Inv (fm_saI (fm_saI (fm_saI σ 19 (9 : Int32).toNatClampNeg p1) 19 (6 : Int32).toNatClampNeg (fm_aI σ 0 (fm_mI σ 29).toNatClampNeg)) 19 (7 : Int32).toNatClampNeg (fm_aI σ 1 (fm_mI σ 29).toNatClampNeg)) := fm_inv_saI (by decide) hI6
    refine lv_aload_n hx hb fx_Md_answer_46 rfl (lv_at hl 0 rfl) ?_
    refine va_get (D := D) (ci := 5) (v := .ref (am 20)) (C := fn_R_Md) (T := fn_T_Md) (N := 33) hx hb hts fn_j_Md hown hK hP 0 rfl rfl 19 (by decide) (hts _ (List.mem_cons_of_mem _ fq_546)) (fun _ h9 => h9) rfl fx_Md_answer_47 ?_
    refine lv_bipush (v := 8) hx hb fx_Md_answer_50 (by decide) ?_
    refine lv_iload_n hx hb fx_Md_answer_52 rfl (lv_at hl 1 rfl) ?_
    have hJ10 : ∀ (H : Heap) (locs : List Loc), va_P D fn_cl (fm_w ca am (fm_saI (fm_saI (fm_saI σ 19 (9 : Int32).toNatClampNeg p1) 19 (6 : Int32).toNatClampNeg (fm_aI σ 0 (fm_mI σ 29).toNatClampNeg)) 19 (7 : Int32).toNatClampNeg (fm_aI σ 1 (fm_mI σ 29).toNatClampNeg))) H → va_D A (fm_w ca am (fm_saI (fm_saI (fm_saI σ 19 (9 : Int32).toNatClampNeg p1) 19 (6 : Int32).toNatClampNeg (fm_aI σ 0 (fm_mI σ 29).toNatClampNeg)) 19 (7 : Int32).toNatClampNeg (fm_aI σ 1 (fm_mI σ 29).toNatClampNeg))) → va_S A s.heap H locs → ∀ (v10 : Int32), v10 = (if p1 = 0 then fm_aI σ 3 (fm_mI σ 29).toNatClampNeg else (fm_aI σ 3 (fm_mI σ 29).toNatClampNeg) &&& (fm_aI σ 4 (fm_mI σ 29).toNatClampNeg)) → W p l e ({ frames := 0, cells := 0, slots := 0, locals := 0 } : Room) s m args below meth c H locs 0 0 Q (F0 m 87 ls [.int v10, .int 8, .ref (am 20)]) := by
      intro H locs hP hD hS v10 hv10
      have hb11 : vp_in (8 : Int32) 10 := vp_in_nI (n := 8) (N := 10) (by decide) (by decide)
      refine va_iast (D := D) (x := v10) hx hb hK hP hD hS 20 19 rfl rfl hb11 fx_Md_answer_87 (fun H locs hP hD hS => ?_)
      rw [fm_set_a_19] at hP hD
      have hI12 : fm_Inv (fm_saI (fm_saI (fm_saI (fm_saI σ 19 (9 : Int32).toNatClampNeg p1) 19 (6 : Int32).toNatClampNeg (fm_aI σ 0 (fm_mI σ 29).toNatClampNeg)) 19 (7 : Int32).toNatClampNeg (fm_aI σ 1 (fm_mI σ 29).toNatClampNeg)) 19 (8 : Int32).toNatClampNeg v10) := fm_inv_saI (by decide) hI9
      exact fm_vret (u := fm_saI (fm_saI (fm_saI (fm_saI σ 19 (9 : Int32).toNatClampNeg p1) 19 (6 : Int32).toNatClampNeg (fm_aI σ 0 (fm_mI σ 29).toNatClampNeg)) 19 (7 : Int32).toNatClampNeg (fm_aI σ 1 (fm_mI σ 29).toNatClampNeg)) 19 (8 : Int32).toNatClampNeg v10) hQ hx hb hr ⟨by rw [fv_Md_answer, if_pos c3, ← hv10, fv_Md_answer_j10], hI12⟩ hP hD hS fx_Md_answer_88 hlocks
    refine lv_if_ne (tgt := 68) hx hb fx_Md_answer_53 (by decide) (fun c13 => ?_) (fun c13 => ?_)
    · refine lv_aload_n hx hb fx_Md_answer_68 rfl (lv_at hl 0 rfl) ?_
      refine va_get (D := D) (ci := 5) (v := .ref (am 4)) (C := fn_R_Md) (T := fn_T_Md) (N := 33) hx hb hts fn_j_Md hown hK hP 0 rfl rfl 3 (by decide) (hts _ (List.mem_cons_of_mem _ fq_530)) (fun _ h9 => h9) rfl fx_Md_answer_69 ?_
      refine lv_aload_n hx hb fx_Md_answer_72 rfl (lv_at hl 0 rfl) ?_
      refine va_get (D := D) (ci := 5) (v := .int (fm_mI σ 29)) (C := fn_R_Md) (T := fn_T_Md) (N := 33) hx hb hts fn_j_Md hown hK hP 0 rfl rfl 29 (by decide) (hts _ (List.mem_cons_of_mem _ fq_556)) (fun _ h9 => h9) rfl fx_Md_answer_73 ?_
      have hb14 : vp_in (fm_mI σ 29) 48 := hI9.1
      refine va_iald (D := D) hx hb hK hP 4 3 rfl rfl hb14 fx_Md_answer_76 ?_
      refine W.eq (g2 := F0 m 77 ls (.int (fm_aI σ 3 (fm_mI σ 29).toNatClampNeg) :: [.int 8, .ref (am 20)])) rfl ?_
      refine lv_aload_n hx hb fx_Md_answer_77 rfl (lv_at hl 0 rfl) ?_
      refine va_get (D := D) (ci := 5) (v := .ref (am 5)) (C := fn_R_Md) (T := fn_T_Md) (N := 33) hx hb hts fn_j_Md hown hK hP 0 rfl rfl 4 (by decide) (hts _ (List.mem_cons_of_mem _ fq_531)) (fun _ h9 => h9) rfl fx_Md_answer_78 ?_
      refine lv_aload_n hx hb fx_Md_answer_81 rfl (lv_at hl 0 rfl) ?_
      refine va_get (D := D) (ci := 5) (v := .int (fm_mI σ 29)) (C := fn_R_Md) (T := fn_T_Md) (N := 33) hx hb hts fn_j_Md hown hK hP 0 rfl rfl 29 (by decide) (hts _ (List.mem_cons_of_mem _ fq_556)) (fun _ h9 => h9) rfl fx_Md_answer_82 ?_
      have hb15 : vp_in (fm_mI σ 29) 48 := hI9.1
      refine va_iald (D := D) hx hb hK hP 5 4 rfl rfl hb15 fx_Md_answer_85 ?_
      refine W.eq (g2 := F0 m 86 ls (.int (fm_aI σ 4 (fm_mI σ 29).toNatClampNeg) :: [.int (fm_aI σ 3 (fm_mI σ 29).toNatClampNeg), .int 8, .ref (am 20)])) rfl ?_
      refine lv_iand hx hb fx_Md_answer_86 ?_
      exact hJ10 H locs hP hD hS ((fm_aI σ 3 (fm_mI σ 29).toNatClampNeg) &&& (fm_aI σ 4 (fm_mI σ 29).toNatClampNeg)) (by rw [if_neg c13])
    · refine lv_aload_n hx hb fx_Md_answer_56 rfl (lv_at hl 0 rfl) ?_
      refine va_get (D := D) (ci := 5) (v := .ref (am 4)) (C := fn_R_Md) (T := fn_T_Md) (N := 33) hx hb hts fn_j_Md hown hK hP 0 rfl rfl 3 (by decide) (hts _ (List.mem_cons_of_mem _ fq_530)) (fun _ h9 => h9) rfl fx_Md_answer_57 ?_
      refine lv_aload_n hx hb fx_Md_answer_60 rfl (lv_at hl 0 rfl) ?_
      refine va_get (D := D) (ci := 5) (v := .int (fm_mI σ 29)) (C := fn_R_Md) (T := fn_T_Md) (N := 33) hx hb hts fn_j_Md hown hK hP 0 rfl rfl 29 (by decide) (hts _ (List.mem_cons_of_mem _ fq_556)) (fun _ h9 => h9) rfl fx_Md_answer_61 ?_
      have hb16 : vp_in (fm_mI σ 29) 48 := hI9.1
      refine va_iald (D := D) hx hb hK hP 4 3 rfl rfl hb16 fx_Md_answer_64 ?_
      refine W.eq (g2 := F0 m 65 ls (.int (fm_aI σ 3 (fm_mI σ 29).toNatClampNeg) :: [.int 8, .ref (am 20)])) rfl ?_
      refine lv_goto (tgt := 87) hx hb fx_Md_answer_65 (by decide) ?_
      exact hJ10 H locs hP hD hS (fm_aI σ 3 (fm_mI σ 29).toNatClampNeg) (by rw [if_pos c13])
  · exact fm_vret (u := fm_saI σ 19 (9 : Int32).toNatClampNeg p1) hQ hx hb hr ⟨by rw [fv_Md_answer, if_neg c3], hI2⟩ hP hD hS fx_Md_answer_13 hlocks
def fv_Md_go_c163 (σ : FMS) (p1 : Int32) (p2 : Int32) (p3 : Int32) (σ1 : FMS) (far : Bool) (mv : Int32) (v1 : Bool) (v2 : Bool) (v3 : Bool) (σ2 : FMS) : (Int32 × FMS) ⊕ (FMS × Bool × Int32) := if (fm_mZ σ2) = true then if v2 = true then if p1 = 1 then if (fv_Md_passes (fm_saI (fm_saI (fm_smI σ2 24 ((fm_mI σ2 24) + 1)) 8 (fm_mI σ2 29).toNatClampNeg ((fm_aI σ2 8 (fm_mI σ2 29).toNatClampNeg) + 1)) 9 (fm_mI σ2 29).toNatClampNeg ((fm_aI σ2 9 (fm_mI σ2 29).toNatClampNeg) + 1))) = true then if (fv_Md_isMoved (fm_saI (fm_saI (fm_smI σ2 24 ((fm_mI σ2 24) + 1)) 8 (fm_mI σ2 29).toNatClampNeg ((fm_aI σ2 8 (fm_mI σ2 29).toNatClampNeg) + 1)) 9 (fm_mI σ2 29).toNatClampNeg ((fm_aI σ2 9 (fm_mI σ2 29).toNatClampNeg) + 1)) (fm_aI σ2 0 (fm_mI σ2 29).toNatClampNeg)) = true then if 0 ≤ (fm_aI σ2 2 (fm_mI σ2 29).toNatClampNeg) then if p3 = 1 then .inl (4, fm_saI (fm_saI (fm_smI σ2 24 ((fm_mI σ2 24) + 1)) 8 (fm_mI σ2 29).toNatClampNeg ((fm_aI σ2 8 (fm_mI σ2 29).toNatClampNeg) + 1)) 9 (fm_mI σ2 29).toNatClampNeg ((fm_aI σ2 9 (fm_mI σ2 29).toNatClampNeg) + 1)) else if p3 = 2 then .inl (0, (fv_Md_answer (fm_saI (fm_saI (fm_smI σ2 24 ((fm_mI σ2 24) + 1)) 8 (fm_mI σ2 29).toNatClampNeg ((fm_aI σ2 8 (fm_mI σ2 29).toNatClampNeg) + 1)) 9 (fm_mI σ2 29).toNatClampNeg ((fm_aI σ2 9 (fm_mI σ2 29).toNatClampNeg) + 1)) 3)) else if mv = 4 then .inl (5, fm_saI (fm_saI (fm_smI σ2 24 ((fm_mI σ2 24) + 1)) 8 (fm_mI σ2 29).toNatClampNeg ((fm_aI σ2 8 (fm_mI σ2 29).toNatClampNeg) + 1)) 9 (fm_mI σ2 29).toNatClampNeg ((fm_aI σ2 9 (fm_mI σ2 29).toNatClampNeg) + 1)) else .inr ((fv_Md_move (fm_saI (fm_saI (fm_smI σ2 24 ((fm_mI σ2 24) + 1)) 8 (fm_mI σ2 29).toNatClampNeg ((fm_aI σ2 8 (fm_mI σ2 29).toNatClampNeg) + 1)) 9 (fm_mI σ2 29).toNatClampNeg ((fm_aI σ2 9 (fm_mI σ2 29).toNatClampNeg) + 1))), v2, mv + 1) else .inl (0, (fv_Md_answer (fm_saI (fm_saI (fm_smI σ2 24 ((fm_mI σ2 24) + 1)) 8 (fm_mI σ2 29).toNatClampNeg ((fm_aI σ2 8 (fm_mI σ2 29).toNatClampNeg) + 1)) 9 (fm_mI σ2 29).toNatClampNeg ((fm_aI σ2 9 (fm_mI σ2 29).toNatClampNeg) + 1)) p1)) else .inl (0, (fv_Md_answer (fm_saI (fm_saI (fm_smI σ2 24 ((fm_mI σ2 24) + 1)) 8 (fm_mI σ2 29).toNatClampNeg ((fm_aI σ2 8 (fm_mI σ2 29).toNatClampNeg) + 1)) 9 (fm_mI σ2 29).toNatClampNeg ((fm_aI σ2 9 (fm_mI σ2 29).toNatClampNeg) + 1)) p1)) else .inl (3, fm_saI (fm_saI (fm_smI σ2 24 ((fm_mI σ2 24) + 1)) 8 (fm_mI σ2 29).toNatClampNeg ((fm_aI σ2 8 (fm_mI σ2 29).toNatClampNeg) + 1)) 9 (fm_mI σ2 29).toNatClampNeg ((fm_aI σ2 9 (fm_mI σ2 29).toNatClampNeg) + 1)) else if (fv_Md_isMoved (fm_saI (fm_saI (fm_smI σ2 24 ((fm_mI σ2 24) + 1)) 8 (fm_mI σ2 29).toNatClampNeg ((fm_aI σ2 8 (fm_mI σ2 29).toNatClampNeg) + 1)) 9 (fm_mI σ2 29).toNatClampNeg ((fm_aI σ2 9 (fm_mI σ2 29).toNatClampNeg) + 1)) (fm_aI σ2 0 (fm_mI σ2 29).toNatClampNeg)) = true then if 0 ≤ (fm_aI σ2 2 (fm_mI σ2 29).toNatClampNeg) then if p3 = 1 then .inl (4, fm_saI (fm_saI (fm_smI σ2 24 ((fm_mI σ2 24) + 1)) 8 (fm_mI σ2 29).toNatClampNeg ((fm_aI σ2 8 (fm_mI σ2 29).toNatClampNeg) + 1)) 9 (fm_mI σ2 29).toNatClampNeg ((fm_aI σ2 9 (fm_mI σ2 29).toNatClampNeg) + 1)) else if p3 = 2 then .inl (0, (fv_Md_answer (fm_saI (fm_saI (fm_smI σ2 24 ((fm_mI σ2 24) + 1)) 8 (fm_mI σ2 29).toNatClampNeg ((fm_aI σ2 8 (fm_mI σ2 29).toNatClampNeg) + 1)) 9 (fm_mI σ2 29).toNatClampNeg ((fm_aI σ2 9 (fm_mI σ2 29).toNatClampNeg) + 1)) 3)) else if mv = 4 then .inl (5, fm_saI (fm_saI (fm_smI σ2 24 ((fm_mI σ2 24) + 1)) 8 (fm_mI σ2 29).toNatClampNeg ((fm_aI σ2 8 (fm_mI σ2 29).toNatClampNeg) + 1)) 9 (fm_mI σ2 29).toNatClampNeg ((fm_aI σ2 9 (fm_mI σ2 29).toNatClampNeg) + 1)) else .inr ((fv_Md_move (fm_saI (fm_saI (fm_smI σ2 24 ((fm_mI σ2 24) + 1)) 8 (fm_mI σ2 29).toNatClampNeg ((fm_aI σ2 8 (fm_mI σ2 29).toNatClampNeg) + 1)) 9 (fm_mI σ2 29).toNatClampNeg ((fm_aI σ2 9 (fm_mI σ2 29).toNatClampNeg) + 1))), v2, mv + 1) else .inl (0, (fv_Md_answer (fm_saI (fm_saI (fm_smI σ2 24 ((fm_mI σ2 24) + 1)) 8 (fm_mI σ2 29).toNatClampNeg ((fm_aI σ2 8 (fm_mI σ2 29).toNatClampNeg) + 1)) 9 (fm_mI σ2 29).toNatClampNeg ((fm_aI σ2 9 (fm_mI σ2 29).toNatClampNeg) + 1)) p1)) else .inl (0, (fv_Md_answer (fm_saI (fm_saI (fm_smI σ2 24 ((fm_mI σ2 24) + 1)) 8 (fm_mI σ2 29).toNatClampNeg ((fm_aI σ2 8 (fm_mI σ2 29).toNatClampNeg) + 1)) 9 (fm_mI σ2 29).toNatClampNeg ((fm_aI σ2 9 (fm_mI σ2 29).toNatClampNeg) + 1)) p1)) else if (fv_Md_isMoved (fm_saI (fm_saI (fm_smI σ2 24 ((fm_mI σ2 24) + 1)) 8 (fm_mI σ2 29).toNatClampNeg ((fm_aI σ2 8 (fm_mI σ2 29).toNatClampNeg) + 1)) 9 (fm_mI σ2 29).toNatClampNeg ((fm_aI σ2 9 (fm_mI σ2 29).toNatClampNeg) + 1)) (fm_aI σ2 0 (fm_mI σ2 29).toNatClampNeg)) = true then if 0 ≤ (fm_aI σ2 2 (fm_mI σ2 29).toNatClampNeg) then if p3 = 1 then .inl (4, fm_saI (fm_saI (fm_smI σ2 24 ((fm_mI σ2 24) + 1)) 8 (fm_mI σ2 29).toNatClampNeg ((fm_aI σ2 8 (fm_mI σ2 29).toNatClampNeg) + 1)) 9 (fm_mI σ2 29).toNatClampNeg ((fm_aI σ2 9 (fm_mI σ2 29).toNatClampNeg) + 1)) else if p3 = 2 then .inl (0, (fv_Md_answer (fm_saI (fm_saI (fm_smI σ2 24 ((fm_mI σ2 24) + 1)) 8 (fm_mI σ2 29).toNatClampNeg ((fm_aI σ2 8 (fm_mI σ2 29).toNatClampNeg) + 1)) 9 (fm_mI σ2 29).toNatClampNeg ((fm_aI σ2 9 (fm_mI σ2 29).toNatClampNeg) + 1)) 3)) else if mv = 4 then .inl (5, fm_saI (fm_saI (fm_smI σ2 24 ((fm_mI σ2 24) + 1)) 8 (fm_mI σ2 29).toNatClampNeg ((fm_aI σ2 8 (fm_mI σ2 29).toNatClampNeg) + 1)) 9 (fm_mI σ2 29).toNatClampNeg ((fm_aI σ2 9 (fm_mI σ2 29).toNatClampNeg) + 1)) else .inr ((fv_Md_move (fm_saI (fm_saI (fm_smI σ2 24 ((fm_mI σ2 24) + 1)) 8 (fm_mI σ2 29).toNatClampNeg ((fm_aI σ2 8 (fm_mI σ2 29).toNatClampNeg) + 1)) 9 (fm_mI σ2 29).toNatClampNeg ((fm_aI σ2 9 (fm_mI σ2 29).toNatClampNeg) + 1))), v2, mv + 1) else .inl (0, (fv_Md_answer (fm_saI (fm_saI (fm_smI σ2 24 ((fm_mI σ2 24) + 1)) 8 (fm_mI σ2 29).toNatClampNeg ((fm_aI σ2 8 (fm_mI σ2 29).toNatClampNeg) + 1)) 9 (fm_mI σ2 29).toNatClampNeg ((fm_aI σ2 9 (fm_mI σ2 29).toNatClampNeg) + 1)) 0)) else .inl (0, (fv_Md_answer (fm_saI (fm_saI (fm_smI σ2 24 ((fm_mI σ2 24) + 1)) 8 (fm_mI σ2 29).toNatClampNeg ((fm_aI σ2 8 (fm_mI σ2 29).toNatClampNeg) + 1)) 9 (fm_mI σ2 29).toNatClampNeg ((fm_aI σ2 9 (fm_mI σ2 29).toNatClampNeg) + 1)) 0)) else if v2 = true then if p1 = 1 then if (fv_Md_passes (fm_saI (fm_smI σ2 24 ((fm_mI σ2 24) + 1)) 8 (fm_mI σ2 29).toNatClampNeg ((fm_aI σ2 8 (fm_mI σ2 29).toNatClampNeg) + 1))) = true then if (fv_Md_isMoved (fm_saI (fm_smI σ2 24 ((fm_mI σ2 24) + 1)) 8 (fm_mI σ2 29).toNatClampNeg ((fm_aI σ2 8 (fm_mI σ2 29).toNatClampNeg) + 1)) (fm_aI σ2 0 (fm_mI σ2 29).toNatClampNeg)) = true then if 0 ≤ (fm_aI σ2 2 (fm_mI σ2 29).toNatClampNeg) then if p3 = 1 then .inl (4, fm_saI (fm_smI σ2 24 ((fm_mI σ2 24) + 1)) 8 (fm_mI σ2 29).toNatClampNeg ((fm_aI σ2 8 (fm_mI σ2 29).toNatClampNeg) + 1)) else if p3 = 2 then .inl (0, (fv_Md_answer (fm_saI (fm_smI σ2 24 ((fm_mI σ2 24) + 1)) 8 (fm_mI σ2 29).toNatClampNeg ((fm_aI σ2 8 (fm_mI σ2 29).toNatClampNeg) + 1)) 3)) else if mv = 4 then .inl (5, fm_saI (fm_smI σ2 24 ((fm_mI σ2 24) + 1)) 8 (fm_mI σ2 29).toNatClampNeg ((fm_aI σ2 8 (fm_mI σ2 29).toNatClampNeg) + 1)) else .inr ((fv_Md_move (fm_saI (fm_smI σ2 24 ((fm_mI σ2 24) + 1)) 8 (fm_mI σ2 29).toNatClampNeg ((fm_aI σ2 8 (fm_mI σ2 29).toNatClampNeg) + 1))), v2, mv + 1) else .inl (0, (fv_Md_answer (fm_saI (fm_smI σ2 24 ((fm_mI σ2 24) + 1)) 8 (fm_mI σ2 29).toNatClampNeg ((fm_aI σ2 8 (fm_mI σ2 29).toNatClampNeg) + 1)) p1)) else .inl (0, (fv_Md_answer (fm_saI (fm_smI σ2 24 ((fm_mI σ2 24) + 1)) 8 (fm_mI σ2 29).toNatClampNeg ((fm_aI σ2 8 (fm_mI σ2 29).toNatClampNeg) + 1)) p1)) else .inl (3, fm_saI (fm_smI σ2 24 ((fm_mI σ2 24) + 1)) 8 (fm_mI σ2 29).toNatClampNeg ((fm_aI σ2 8 (fm_mI σ2 29).toNatClampNeg) + 1)) else if (fv_Md_isMoved (fm_saI (fm_smI σ2 24 ((fm_mI σ2 24) + 1)) 8 (fm_mI σ2 29).toNatClampNeg ((fm_aI σ2 8 (fm_mI σ2 29).toNatClampNeg) + 1)) (fm_aI σ2 0 (fm_mI σ2 29).toNatClampNeg)) = true then if 0 ≤ (fm_aI σ2 2 (fm_mI σ2 29).toNatClampNeg) then if p3 = 1 then .inl (4, fm_saI (fm_smI σ2 24 ((fm_mI σ2 24) + 1)) 8 (fm_mI σ2 29).toNatClampNeg ((fm_aI σ2 8 (fm_mI σ2 29).toNatClampNeg) + 1)) else if p3 = 2 then .inl (0, (fv_Md_answer (fm_saI (fm_smI σ2 24 ((fm_mI σ2 24) + 1)) 8 (fm_mI σ2 29).toNatClampNeg ((fm_aI σ2 8 (fm_mI σ2 29).toNatClampNeg) + 1)) 3)) else if mv = 4 then .inl (5, fm_saI (fm_smI σ2 24 ((fm_mI σ2 24) + 1)) 8 (fm_mI σ2 29).toNatClampNeg ((fm_aI σ2 8 (fm_mI σ2 29).toNatClampNeg) + 1)) else .inr ((fv_Md_move (fm_saI (fm_smI σ2 24 ((fm_mI σ2 24) + 1)) 8 (fm_mI σ2 29).toNatClampNeg ((fm_aI σ2 8 (fm_mI σ2 29).toNatClampNeg) + 1))), v2, mv + 1) else .inl (0, (fv_Md_answer (fm_saI (fm_smI σ2 24 ((fm_mI σ2 24) + 1)) 8 (fm_mI σ2 29).toNatClampNeg ((fm_aI σ2 8 (fm_mI σ2 29).toNatClampNeg) + 1)) p1)) else .inl (0, (fv_Md_answer (fm_saI (fm_smI σ2 24 ((fm_mI σ2 24) + 1)) 8 (fm_mI σ2 29).toNatClampNeg ((fm_aI σ2 8 (fm_mI σ2 29).toNatClampNeg) + 1)) p1)) else if (fv_Md_isMoved (fm_saI (fm_smI σ2 24 ((fm_mI σ2 24) + 1)) 8 (fm_mI σ2 29).toNatClampNeg ((fm_aI σ2 8 (fm_mI σ2 29).toNatClampNeg) + 1)) (fm_aI σ2 0 (fm_mI σ2 29).toNatClampNeg)) = true then if 0 ≤ (fm_aI σ2 2 (fm_mI σ2 29).toNatClampNeg) then if p3 = 1 then .inl (4, fm_saI (fm_smI σ2 24 ((fm_mI σ2 24) + 1)) 8 (fm_mI σ2 29).toNatClampNeg ((fm_aI σ2 8 (fm_mI σ2 29).toNatClampNeg) + 1)) else if p3 = 2 then .inl (0, (fv_Md_answer (fm_saI (fm_smI σ2 24 ((fm_mI σ2 24) + 1)) 8 (fm_mI σ2 29).toNatClampNeg ((fm_aI σ2 8 (fm_mI σ2 29).toNatClampNeg) + 1)) 3)) else if mv = 4 then .inl (5, fm_saI (fm_smI σ2 24 ((fm_mI σ2 24) + 1)) 8 (fm_mI σ2 29).toNatClampNeg ((fm_aI σ2 8 (fm_mI σ2 29).toNatClampNeg) + 1)) else .inr ((fv_Md_move (fm_saI (fm_smI σ2 24 ((fm_mI σ2 24) + 1)) 8 (fm_mI σ2 29).toNatClampNeg ((fm_aI σ2 8 (fm_mI σ2 29).toNatClampNeg) + 1))), v2, mv + 1) else .inl (0, (fv_Md_answer (fm_saI (fm_smI σ2 24 ((fm_mI σ2 24) + 1)) 8 (fm_mI σ2 29).toNatClampNeg ((fm_aI σ2 8 (fm_mI σ2 29).toNatClampNeg) + 1)) 0)) else .inl (0, (fv_Md_answer (fm_saI (fm_smI σ2 24 ((fm_mI σ2 24) + 1)) 8 (fm_mI σ2 29).toNatClampNeg ((fm_aI σ2 8 (fm_mI σ2 29).toNatClampNeg) + 1)) 0))
def fv_Md_go_j119 (σ : FMS) (p1 : Int32) (p2 : Int32) (p3 : Int32) (σ1 : FMS) (far : Bool) (mv : Int32) (v1 : Bool) (v2 : Bool) (v3 : Bool) (v119 : Bool) : (Int32 × FMS) ⊕ (FMS × Bool × Int32) := if v119 = true then fv_Md_go_c163 σ p1 p2 p3 σ1 far mv v1 v2 v3 ((fv_Md_ask (fm_saI (fm_smZ σ1 v3) 19 (1 : Int32).toNatClampNeg ((fm_aI σ1 19 (1 : Int32).toNatClampNeg) + 1))).2) else .inl (2, (fv_Md_ask (fm_saI (fm_smZ σ1 v3) 19 (1 : Int32).toNatClampNeg ((fm_aI σ1 19 (1 : Int32).toNatClampNeg) + 1))).2)
def fv_Md_go_j130 (σ : FMS) (p1 : Int32) (p2 : Int32) (p3 : Int32) (σ1 : FMS) (far : Bool) (mv : Int32) (v1 : Bool) (v2 : Bool) (v3 : Bool) (v130 : Bool) : (Int32 × FMS) ⊕ (FMS × Bool × Int32) := if v130 = true then fv_Md_go_c163 σ p1 p2 p3 σ1 far mv v1 v2 v3 ((fv_Md_ask (fm_saI (fm_smZ σ1 v3) 19 (1 : Int32).toNatClampNeg ((fm_aI σ1 19 (1 : Int32).toNatClampNeg) + 1))).2) else .inl (2, (fv_Md_ask (fm_saI (fm_smZ σ1 v3) 19 (1 : Int32).toNatClampNeg ((fm_aI σ1 19 (1 : Int32).toNatClampNeg) + 1))).2)
def fv_Md_go_j3 (σ : FMS) (p1 : Int32) (p2 : Int32) (p3 : Int32) (σ1 : FMS) (far : Bool) (mv : Int32) (v1 : Bool) (v2 : Bool) (v3 : Bool) : (Int32 × FMS) ⊕ (FMS × Bool × Int32) := if v2 = true then if p1 = 0 then .inl (1, fm_saI (fm_smZ σ1 v3) 19 (1 : Int32).toNatClampNeg ((fm_aI σ1 19 (1 : Int32).toNatClampNeg) + 1)) else if p1 = 1 then if (fv_Md_isSimple (fm_saI (fm_smZ σ1 v3) 19 (1 : Int32).toNatClampNeg ((fm_aI σ1 19 (1 : Int32).toNatClampNeg) + 1)) (fm_mI σ1 30)) = true then if (fm_mI σ1 31) = 0 then fv_Md_go_c163 σ p1 p2 p3 σ1 far mv v1 v2 v3 (fm_saI (fm_smZ σ1 v3) 19 (1 : Int32).toNatClampNeg ((fm_aI σ1 19 (1 : Int32).toNatClampNeg) + 1)) else if (fv_Md_isRemembered (fm_saI (fm_smZ σ1 v3) 19 (1 : Int32).toNatClampNeg ((fm_aI σ1 19 (1 : Int32).toNatClampNeg) + 1))) = true then fv_Md_go_c163 σ p1 p2 p3 σ1 far mv v1 v2 v3 (fm_smI (fm_saI (fm_smZ σ1 v3) 19 (1 : Int32).toNatClampNeg ((fm_aI σ1 19 (1 : Int32).toNatClampNeg) + 1)) 26 ((fm_mI σ1 26) + 1)) else fv_Md_go_j130 σ p1 p2 p3 σ1 far mv v1 v2 v3 (if ((fv_Md_ask (fm_saI (fm_smZ σ1 v3) 19 (1 : Int32).toNatClampNeg ((fm_aI σ1 19 (1 : Int32).toNatClampNeg) + 1))).1) = true then true else false) else if (fv_Md_isRemembered (fm_saI (fm_smZ σ1 v3) 19 (1 : Int32).toNatClampNeg ((fm_aI σ1 19 (1 : Int32).toNatClampNeg) + 1))) = true then fv_Md_go_c163 σ p1 p2 p3 σ1 far mv v1 v2 v3 (fm_smI (fm_saI (fm_smZ σ1 v3) 19 (1 : Int32).toNatClampNeg ((fm_aI σ1 19 (1 : Int32).toNatClampNeg) + 1)) 26 ((fm_mI σ1 26) + 1)) else fv_Md_go_j119 σ p1 p2 p3 σ1 far mv v1 v2 v3 (if ((fv_Md_ask (fm_saI (fm_smZ σ1 v3) 19 (1 : Int32).toNatClampNeg ((fm_aI σ1 19 (1 : Int32).toNatClampNeg) + 1))).1) = true then true else false) else fv_Md_go_c163 σ p1 p2 p3 σ1 far mv v1 v2 v3 (fm_saI (fm_smZ σ1 v3) 19 (1 : Int32).toNatClampNeg ((fm_aI σ1 19 (1 : Int32).toNatClampNeg) + 1)) else fv_Md_go_c163 σ p1 p2 p3 σ1 far mv v1 v2 v3 (fm_saI (fm_smZ σ1 v3) 19 (1 : Int32).toNatClampNeg ((fm_aI σ1 19 (1 : Int32).toNatClampNeg) + 1))
def fv_Md_go_j2 (σ : FMS) (p1 : Int32) (p2 : Int32) (p3 : Int32) (σ1 : FMS) (far : Bool) (mv : Int32) (v1 : Bool) (v2 : Bool) : (Int32 × FMS) ⊕ (FMS × Bool × Int32) := fv_Md_go_j3 σ p1 p2 p3 σ1 far mv v1 v2 (if p2 = 2 then true else if p2 = 1 then if v1 = true then true else false else false)
def fv_Md_go_j1 (σ : FMS) (p1 : Int32) (p2 : Int32) (p3 : Int32) (σ1 : FMS) (far : Bool) (mv : Int32) (v1 : Bool) : (Int32 × FMS) ⊕ (FMS × Bool × Int32) := fv_Md_go_j2 σ p1 p2 p3 σ1 far mv v1 (if v1 = true then false else true)
def fv_Md_go_l6s (σ : FMS) (p1 : Int32) (p2 : Int32) (p3 : Int32) (σ1 : FMS) (far : Bool) (mv : Int32) : (Int32 × FMS) ⊕ (FMS × Bool × Int32) := fv_Md_go_j1 σ p1 p2 p3 σ1 far mv (if ((fm_mI σ1 29) / 8) = (fm_mI σ1 28) then if far = true then false else true else false)
def fv_Md_go_l6 : Nat → FMS → Int32 → Int32 → Int32 → FMS → Bool → Int32 → Int32 × FMS
  | 0 , σ , p1 , p2 , p3 , σ1 , far , mv => (0, σ)
  | n + 1 , σ , p1 , p2 , p3 , σ1 , far , mv => fd_or (fv_Md_go_l6s σ p1 p2 p3 σ1 far mv) (fun q => fv_Md_go_l6 n σ p1 p2 p3 q.1 q.2.1 q.2.2)
def fv_Md_go (σ : FMS) (p1 : Int32) (p2 : Int32) (p3 : Int32) : Int32 × FMS := fv_Md_go_l6 5 σ p1 p2 p3 σ false 0
set_option maxHeartbeats 4000000 in
set_option maxRecDepth 100000 in
theorem fc_Md_go (l : Launch) (D : va_G) (ca : Nat → ClassId) (am : Nat → Nat) (sz : Nat) (σ : FMS) (p1 : Int32) (p2 : Int32) (p3 : Int32) (hI : fm_Inv σ)  : Met l fy_Md_go (fw_Md_go :: fb_tbl) ({ frames := 3, cells := 0, slots := 0, locals := 66 } : Room) (fm_Pc D ca am [.ref (am 0), .int p1, .int p2, .int p3] σ sz) ((fun A => va_Qi (fun (r : Int32) (u : FMS) => fv_Md_go σ p1 p2 p3 = (r, u) ∧ fm_Inv u) (fm_B D ca am A) A) (va_A (fm_w ca am σ) sz)) 0 0 (va_A (fm_w ca am σ) sz) := by
  refine fm_ofW (cc := fb_Md_go) (maxL := 9) (ret := (some .int)) (Qf := fun A => va_Qi (fun (r : Int32) (u : FMS) => fv_Md_go σ p1 p2 p3 = (r, u) ∧ fm_Inv u) (fm_B D ca am A) A) (by decide) (Nat.le_of_ble_eq_true rfl) ?_
  intro p e s m args below meth c A Q hQ hx hb hr hts hown hlocks hml hP hK hD hS hA hN ls hl
  have hown : s.vm.findClass fn_R_Md = some m.cls := hown
  have hl : lv_has ls 9 [(0, .ref (am 0)), (1, .int p1), (2, .int p2), (3, .int p3)] := hl
  suffices hgo : ∀ (H : Heap) (locs : List Loc), va_P D fn_cl (fm_w ca am σ) H → va_D A (fm_w ca am σ) → va_S A s.heap H locs → W p l e ({ frames := 3, cells := 0, slots := 0, locals := 66 } : Room) s m args below meth c H locs 0 0 Q (F0 m 0 ls []) from hgo _ _ hP hD hS
  clear hP hD hS
  intro H locs hP hD hS
  refine lv_iconst (v := 0) hx hb fx_Md_go_0 (by decide) ?_
  refine lv_istore (lv' := [(4, .int 0), (0, .ref (am 0)), (1, .int p1), (2, .int p2), (3, .int p3)]) hx hb fx_Md_go_1 hl (by decide) rfl (fun ls hl => ?_)
  refine lv_iconst (v := 0) hx hb fx_Md_go_3 (by decide) ?_
  refine lv_istore (lv' := [(5, .int 0), (4, .int 0), (0, .ref (am 0)), (1, .int p1), (2, .int p2), (3, .int p3)]) hx hb fx_Md_go_4 hl (by decide) rfl (fun ls hl => ?_)
  have hL6 : ∀ (n : Nat) (σ1 : FMS) (far : Bool) (mv : Int32), (∃ a : Nat, a ≤ 4 ∧ 5 ≤ n + a ∧ mv = nI a) → fm_Inv σ1 → fv_Md_go σ p1 p2 p3 = fv_Md_go_l6 n σ p1 p2 p3 σ1 far mv → ∀ (H : Heap) (locs : List Loc), va_P D fn_cl (fm_w ca am σ1) H → va_D A (fm_w ca am σ1) → va_S A s.heap H locs → ∀ (ls : Array Slot), lv_has ls 9 [(5, .int mv), (4, .int (fd_bi far)), (0, .ref (am 0)), (1, .int p1), (2, .int p2), (3, .int p3)] → W p l e ({ frames := 3, cells := 0, slots := 0, locals := 66 } : Room) s m args below meth c H locs 0 0 Q (F0 m 6 ls []) := by
    intro n
    induction n with
    | zero =>
      intro σ1 far mv hmv
      obtain ⟨a, h1, h2, -⟩ := hmv; omega
    | succ n ih =>
      intro σ1 far mv hmv hI6 hm6 H locs hP hD hS ls hl
      refine lv_aload_n hx hb fx_Md_go_6 rfl (lv_at hl 2 rfl) ?_
      refine va_get (D := D) (ci := 5) (v := .int (fm_mI σ1 29)) (C := fn_R_Md) (T := fn_T_Md) (N := 33) hx hb hts fn_j_Md hown hK hP 0 rfl rfl 29 (by decide) (hts _ (List.mem_cons_of_mem _ fq_556)) (fun _ h9 => h9) rfl fx_Md_go_7 ?_
      refine lv_bipush (v := 8) hx hb fx_Md_go_10 (by decide) ?_
      refine lv_idiv hx hb fx_Md_go_12 (by decide) ?_
      refine lv_aload_n hx hb fx_Md_go_13 rfl (lv_at hl 2 rfl) ?_
      refine va_get (D := D) (ci := 5) (v := .int (fm_mI σ1 28)) (C := fn_R_Md) (T := fn_T_Md) (N := 33) hx hb hts fn_j_Md hown hK hP 0 rfl rfl 28 (by decide) (hts _ (List.mem_cons_of_mem _ fq_555)) (fun _ h9 => h9) rfl fx_Md_go_14 ?_
      have hJ1 : ∀ (H : Heap) (locs : List Loc), va_P D fn_cl (fm_w ca am σ1) H → va_D A (fm_w ca am σ1) → va_S A s.heap H locs → ∀ (v1 : Bool), v1 = (if ((fm_mI σ1 29) / 8) = (fm_mI σ1 28) then if far = true then false else true else false) → W p l e ({ frames := 3, cells := 0, slots := 0, locals := 66 } : Room) s m args below meth c H locs 0 0 Q (F0 m 30 ls [.int (fd_bi v1)]) := by
        intro H locs hP hD hS v1 hv1
        refine lv_istore (lv' := [(6, .int (fd_bi v1)), (5, .int mv), (4, .int (fd_bi far)), (0, .ref (am 0)), (1, .int p1), (2, .int p2), (3, .int p3)]) hx hb fx_Md_go_30 hl (by decide) rfl (fun ls hl => ?_)
        refine lv_iload hx hb fx_Md_go_32 (lv_at hl 0 rfl) ?_
        have hJ2 : ∀ (H : Heap) (locs : List Loc), va_P D fn_cl (fm_w ca am σ1) H → va_D A (fm_w ca am σ1) → va_S A s.heap H locs → ∀ (v2 : Bool), v2 = (if v1 = true then false else true) → W p l e ({ frames := 3, cells := 0, slots := 0, locals := 66 } : Room) s m args below meth c H locs 0 0 Q (F0 m 42 ls [.int (fd_bi v2)]) := by
          intro H locs hP hD hS v2 hv2
          refine lv_istore (lv' := [(4, .int (fd_bi v2)), (6, .int (fd_bi v1)), (5, .int mv), (0, .ref (am 0)), (1, .int p1), (2, .int p2), (3, .int p3)]) hx hb fx_Md_go_42 hl (by decide) rfl (fun ls hl => ?_)
          refine lv_aload_n hx hb fx_Md_go_44 rfl (lv_at hl 3 rfl) ?_
          refine lv_iload_n hx hb fx_Md_go_45 rfl (lv_at hl 5 rfl) ?_
          refine lv_iconst (v := 2) hx hb fx_Md_go_46 (by decide) ?_
          have hJ3 : ∀ (H : Heap) (locs : List Loc), va_P D fn_cl (fm_w ca am σ1) H → va_D A (fm_w ca am σ1) → va_S A s.heap H locs → ∀ (v3 : Bool), v3 = (if p2 = 2 then true else if p2 = 1 then if v1 = true then true else false else false) → W p l e ({ frames := 3, cells := 0, slots := 0, locals := 66 } : Room) s m args below meth c H locs 0 0 Q (F0 m 65 ls [.int (fd_bi v3), .ref (am 0)]) := by
            intro H locs hP hD hS v3 hv3
            refine va_put (D := D) (ci := 5) (v := .int (fd_bi v3)) (ty := .boolean) (C := fn_R_Md) (T := fn_T_Md) (N := 33) hx hb hts fn_j_Md fn_t_Md fn_k_Md fn_n_Md hown hK hP hD hS 0 rfl rfl 32 (by decide) (hts _ (List.mem_cons_of_mem _ fq_559)) (fun _ h9 => h9) rfl (by decide +kernel) (fd_nar _) (fd_fit _) (Nat.le_of_ble_eq_true rfl) fx_Md_go_65 (fun H locs hP hD hS => ?_)
            rw [fm_set_mZ] at hP hD
            have hI4 : fm_Inv (fm_smZ σ1 v3) := fm_inv_smZ hI6
            refine lv_aload_n hx hb fx_Md_go_68 rfl (lv_at hl 3 rfl) ?_
            refine va_get (D := D) (ci := 5) (v := .ref (am 20)) (C := fn_R_Md) (T := fn_T_Md) (N := 33) hx hb hts fn_j_Md hown hK hP 0 rfl rfl 19 (by decide) (hts _ (List.mem_cons_of_mem _ fq_546)) (fun _ h9 => h9) rfl fx_Md_go_69 ?_
            refine lv_iconst (v := 1) hx hb fx_Md_go_72 (by decide) ?_
            refine lv_dup2_11 hx hb fx_Md_go_73 rfl rfl ?_
            have hb5 : vp_in (1 : Int32) 10 := vp_in_nI (n := 1) (N := 10) (by decide) (by decide)
            refine va_iald (D := D) hx hb hK hP 20 19 rfl rfl hb5 fx_Md_go_74 ?_
            refine W.eq (g2 := F0 m 75 ls (.int (fm_aI σ1 19 (1 : Int32).toNatClampNeg) :: [.int 1, .ref (am 20)])) rfl ?_
            refine lv_iconst (v := 1) hx hb fx_Md_go_75 (by decide) ?_
            refine lv_iadd hx hb fx_Md_go_76 ?_
            have hb6 : vp_in (1 : Int32) 10 := vp_in_nI (n := 1) (N := 10) (by decide) (by decide)
            refine va_iast (D := D) (x := (fm_aI σ1 19 (1 : Int32).toNatClampNeg) + 1) hx hb hK hP hD hS 20 19 rfl rfl hb6 fx_Md_go_77 (fun H locs hP hD hS => ?_)
            rw [fm_set_a_19] at hP hD
            have hI7 : fm_Inv (fm_saI (fm_smZ σ1 v3) 19 (1 : Int32).toNatClampNeg ((fm_aI σ1 19 (1 : Int32).toNatClampNeg) + 1)) := fm_inv_saI (by decide) hI4
            have hC163 : ∀ (σ2 : FMS) (H : Heap) (locs : List Loc), va_P D fn_cl (fm_w ca am σ2) H → va_D A (fm_w ca am σ2) → va_S A s.heap H locs → fm_Inv σ2 → fv_Md_go σ p1 p2 p3 = fd_or (fv_Md_go_c163 σ p1 p2 p3 σ1 far mv v1 v2 v3 σ2) (fun q => fv_Md_go_l6 n σ p1 p2 p3 q.1 q.2.1 q.2.2) → ∀ (ls : Array Slot), lv_has ls 9 [(4, .int (fd_bi v2)), (5, .int mv), (0, .ref (am 0)), (1, .int p1), (2, .int p2), (3, .int p3)] → W p l e ({ frames := 3, cells := 0, slots := 0, locals := 66 } : Room) s m args below meth c H locs 0 0 Q (F0 m 163 ls []) := by
              intro σ2 H locs hP hD hS hIc163 hc163 ls hl
              refine lv_aload_n hx hb fx_Md_go_163 rfl (lv_at hl 2 rfl) ?_
              refine lv_dup hx hb fx_Md_go_164 rfl ?_
              refine va_get (D := D) (ci := 5) (v := .int (fm_mI σ2 24)) (C := fn_R_Md) (T := fn_T_Md) (N := 33) hx hb hts fn_j_Md hown hK hP 0 rfl rfl 24 (by decide) (hts _ (List.mem_cons_of_mem _ fq_551)) (fun _ h9 => h9) rfl fx_Md_go_165 ?_
              refine lv_iconst (v := 1) hx hb fx_Md_go_168 (by decide) ?_
              refine lv_iadd hx hb fx_Md_go_169 ?_
              refine va_put (D := D) (ci := 5) (v := .int ((fm_mI σ2 24) + 1)) (ty := .int) (C := fn_R_Md) (T := fn_T_Md) (N := 33) hx hb hts fn_j_Md fn_t_Md fn_k_Md fn_n_Md hown hK hP hD hS 0 rfl rfl 24 (by decide) (hts _ (List.mem_cons_of_mem _ fq_551)) (fun _ h9 => h9) rfl (by decide +kernel) rfl rfl (Nat.le_of_ble_eq_true rfl) fx_Md_go_170 (fun H locs hP hD hS => ?_)
              rw [fm_set_mI_24] at hP hD
              have hI8 : fm_Inv (fm_smI σ2 24 ((fm_mI σ2 24) + 1)) := fm_inv_smI (by decide) (by decide) hIc163
              refine lv_aload_n hx hb fx_Md_go_173 rfl (lv_at hl 2 rfl) ?_
              refine va_get (D := D) (ci := 5) (v := .ref (am 9)) (C := fn_R_Md) (T := fn_T_Md) (N := 33) hx hb hts fn_j_Md hown hK hP 0 rfl rfl 8 (by decide) (hts _ (List.mem_cons_of_mem _ fq_535)) (fun _ h9 => h9) rfl fx_Md_go_174 ?_
              refine lv_aload_n hx hb fx_Md_go_177 rfl (lv_at hl 2 rfl) ?_
              refine va_get (D := D) (ci := 5) (v := .int (fm_mI σ2 29)) (C := fn_R_Md) (T := fn_T_Md) (N := 33) hx hb hts fn_j_Md hown hK hP 0 rfl rfl 29 (by decide) (hts _ (List.mem_cons_of_mem _ fq_556)) (fun _ h9 => h9) rfl fx_Md_go_178 ?_
              refine lv_dup2_11 hx hb fx_Md_go_181 rfl rfl ?_
              have hb9 : vp_in (fm_mI σ2 29) 48 := hI8.1
              refine va_iald (D := D) hx hb hK hP 9 8 rfl rfl hb9 fx_Md_go_182 ?_
              refine W.eq (g2 := F0 m 183 ls (.int (fm_aI σ2 8 (fm_mI σ2 29).toNatClampNeg) :: [.int (fm_mI σ2 29), .ref (am 9)])) rfl ?_
              refine lv_iconst (v := 1) hx hb fx_Md_go_183 (by decide) ?_
              refine lv_iadd hx hb fx_Md_go_184 ?_
              have hb10 : vp_in (fm_mI σ2 29) 48 := hI8.1
              refine va_iast (D := D) (x := (fm_aI σ2 8 (fm_mI σ2 29).toNatClampNeg) + 1) hx hb hK hP hD hS 9 8 rfl rfl hb10 fx_Md_go_185 (fun H locs hP hD hS => ?_)
              rw [fm_set_a_8] at hP hD
              have hI11 : fm_Inv (fm_saI (fm_smI σ2 24 ((fm_mI σ2 24) + 1)) 8 (fm_mI σ2 29).toNatClampNeg ((fm_aI σ2 8 (fm_mI σ2 29).toNatClampNeg) + 1)) := fm_inv_saI (by decide) hI8
              refine lv_aload_n hx hb fx_Md_go_186 rfl (lv_at hl 2 rfl) ?_
              refine va_get (D := D) (ci := 5) (v := .int (fd_bi (fm_mZ σ2))) (C := fn_R_Md) (T := fn_T_Md) (N := 33) hx hb hts fn_j_Md hown hK hP 0 rfl rfl 32 (by decide) (hts _ (List.mem_cons_of_mem _ fq_559)) (fun _ h9 => h9) rfl fx_Md_go_187 ?_
              refine fd_ifeq (tgt := 206) hx hb fx_Md_go_190 (by decide) (fun c12 => ?_) (fun c12 => ?_)
              · refine lv_iload hx hb fx_Md_go_206 (lv_at hl 0 rfl) ?_
                refine fd_ifeq (tgt := 229) hx hb fx_Md_go_208 (by decide) (fun c13 => ?_) (fun c13 => ?_)
                · refine lv_aload_n hx hb fx_Md_go_229 rfl (lv_at hl 2 rfl) ?_
                  refine va_get (D := D) (ci := 5) (v := .ref (am 1)) (C := fn_R_Md) (T := fn_T_Md) (N := 33) hx hb hts fn_j_Md hown hK hP 0 rfl rfl 0 (by decide) (hts _ (List.mem_cons_of_mem _ fq_527)) (fun _ h9 => h9) rfl fx_Md_go_230 ?_
                  refine lv_aload_n hx hb fx_Md_go_233 rfl (lv_at hl 2 rfl) ?_
                  refine va_get (D := D) (ci := 5) (v := .int (fm_mI σ2 29)) (C := fn_R_Md) (T := fn_T_Md) (N := 33) hx hb hts fn_j_Md hown hK hP 0 rfl rfl 29 (by decide) (hts _ (List.mem_cons_of_mem _ fq_556)) (fun _ h9 => h9) rfl fx_Md_go_234 ?_
                  have hb14 : vp_in (fm_mI σ2 29) 48 := hI11.1
                  refine va_iald (D := D) hx hb hK hP 1 0 rfl rfl hb14 fx_Md_go_237 ?_
                  refine W.eq (g2 := F0 m 238 ls (.int (fm_aI σ2 0 (fm_mI σ2 29).toNatClampNeg) :: [])) rfl ?_
                  refine fm_callz (va_runS (As := [.int (fm_aI σ2 0 (fm_mI σ2 29).toNatClampNeg)]) (rest := []) ⟨hx, hb, hml, hown, hts⟩ (fc_Md_isMoved l D ca am H.size (fm_saI (fm_smI σ2 24 ((fm_mI σ2 24) + 1)) 8 (fm_mI σ2 29).toNatClampNeg ((fm_aI σ2 8 (fm_mI σ2 29).toNatClampNeg) + 1)) (fm_aI σ2 0 (fm_mI σ2 29).toNatClampNeg) hI11 ) ⟨callB_of 1 hts (fb_good fm_Md_isMoved) rfl rfl rfl (hts _ (List.mem_cons_of_mem _ fq_6)) (hts _ (List.mem_cons_of_mem _ fq_702)) (by decide +kernel) ⟨Nat.le_of_ble_eq_true rfl, Nat.le_of_ble_eq_true rfl⟩, (hts _ (List.mem_cons_of_mem _ fq_703))⟩ (fm_preS hP hK hD hN) rfl rfl hl.1 rfl (lv_room (Nat.le_of_ble_eq_true rfl)) fx_Md_go_238 ⟨Nat.le_of_ble_eq_true rfl, Nat.le_of_ble_eq_true rfl⟩) hD hS hA (fun H locs hP hD hS => ?_)
                  refine fd_ifeq (tgt := 256) hx hb fx_Md_go_241 (by decide) (fun c16 => ?_) (fun c16 => ?_)
                  · refine lv_aload_n hx hb fx_Md_go_256 rfl (lv_at hl 2 rfl) ?_
                    refine lv_iload hx hb fx_Md_go_257 (lv_at hl 0 rfl) ?_
                    refine fd_ifeq (tgt := 266) hx hb fx_Md_go_259 (by decide) (fun _ => ?_) (fun c17 => absurd c17 c13)
                    refine lv_iconst (v := 0) hx hb fx_Md_go_266 (by decide) ?_
                    refine fm_callvm (va_runV (As := [.int 0]) (rest := []) ⟨hx, hb, hml, hown, hts⟩ (fc_Md_answer l D ca am H.size (fm_saI (fm_smI σ2 24 ((fm_mI σ2 24) + 1)) 8 (fm_mI σ2 29).toNatClampNeg ((fm_aI σ2 8 (fm_mI σ2 29).toNatClampNeg) + 1)) 0 hI11 ) ⟨callB_of 1 hts (fb_good fm_Md_answer) rfl rfl rfl (hts _ (List.mem_cons_of_mem _ fq_6)) (hts _ (List.mem_cons_of_mem _ fq_705)) (by decide +kernel) ⟨Nat.le_of_ble_eq_true rfl, Nat.le_of_ble_eq_true rfl⟩, (hts _ (List.mem_cons_of_mem _ fq_707)), (hts _ (List.mem_cons_of_mem _ fp_Md_answer))⟩ (fm_preV hP hK hD hN (va_recv hK hP (ci := 5) (q0 := 0) rfl rfl)) rfl rfl hl.1 rfl (lv_room (Nat.le_of_ble_eq_true rfl)) fx_Md_go_267 ⟨Nat.le_of_ble_eq_true rfl, Nat.le_of_ble_eq_true rfl⟩) hD hS hA (fun H locs hP hD hS hI18 => ?_)
                    refine lv_iconst (v := 0) hx hb fx_Md_go_270 (by decide) ?_
                    exact fm_iret (r := 0) (u := (fv_Md_answer (fm_saI (fm_smI σ2 24 ((fm_mI σ2 24) + 1)) 8 (fm_mI σ2 29).toNatClampNeg ((fm_aI σ2 8 (fm_mI σ2 29).toNatClampNeg) + 1)) 0)) hQ hx hb hr ⟨by rw [hc163, fv_Md_go_c163, if_neg c12, if_neg c13, if_neg c16, fd_or_l], hI18⟩ hP hD hS fx_Md_go_271 hlocks
                  · refine lv_aload_n hx hb fx_Md_go_244 rfl (lv_at hl 2 rfl) ?_
                    refine va_get (D := D) (ci := 5) (v := .ref (am 3)) (C := fn_R_Md) (T := fn_T_Md) (N := 33) hx hb hts fn_j_Md hown hK hP 0 rfl rfl 2 (by decide) (hts _ (List.mem_cons_of_mem _ fq_529)) (fun _ h9 => h9) rfl fx_Md_go_245 ?_
                    refine lv_aload_n hx hb fx_Md_go_248 rfl (lv_at hl 2 rfl) ?_
                    refine va_get (D := D) (ci := 5) (v := .int (fm_mI σ2 29)) (C := fn_R_Md) (T := fn_T_Md) (N := 33) hx hb hts fn_j_Md hown hK hP 0 rfl rfl 29 (by decide) (hts _ (List.mem_cons_of_mem _ fq_556)) (fun _ h9 => h9) rfl fx_Md_go_249 ?_
                    have hb19 : vp_in (fm_mI σ2 29) 48 := hI11.1
                    refine va_iald (D := D) hx hb hK hP 3 2 rfl rfl hb19 fx_Md_go_252 ?_
                    refine W.eq (g2 := F0 m 253 ls (.int (fm_aI σ2 2 (fm_mI σ2 29).toNatClampNeg) :: [])) rfl ?_
                    refine lv_if_ge (tgt := 272) hx hb fx_Md_go_253 (by decide) (fun c20 => ?_) (fun c20 => ?_)
                    · refine lv_iload_n hx hb fx_Md_go_272 rfl (lv_at hl 5 rfl) ?_
                      refine lv_iconst (v := 1) hx hb fx_Md_go_273 (by decide) ?_
                      refine lv_icmp_ne (tgt := 279) hx hb fx_Md_go_274 (by decide) (fun c21 => ?_) (fun c21 => ?_)
                      · refine lv_iload_n hx hb fx_Md_go_279 rfl (lv_at hl 5 rfl) ?_
                        refine lv_iconst (v := 2) hx hb fx_Md_go_280 (by decide) ?_
                        refine lv_icmp_ne (tgt := 291) hx hb fx_Md_go_281 (by decide) (fun c22 => ?_) (fun c22 => ?_)
                        · refine lv_iload hx hb fx_Md_go_291 (lv_at hl 1 rfl) ?_
                          refine lv_iconst (v := 4) hx hb fx_Md_go_293 (by decide) ?_
                          refine lv_icmp_ne (tgt := 299) hx hb fx_Md_go_294 (by decide) (fun c23 => ?_) (fun c23 => ?_)
                          · refine lv_iinc (v := mv + 1) (lv' := [(5, .int (mv + 1)), (4, .int (fd_bi v2)), (0, .ref (am 0)), (1, .int p1), (2, .int p2), (3, .int p3)]) hx hb fx_Md_go_299 hl (k := 1) rfl rfl (by decide) rfl (fun ls hl => ?_)
                            refine lv_aload_n hx hb fx_Md_go_302 rfl (lv_at hl 2 rfl) ?_
                            refine fm_callvm (va_runV (As := []) (rest := []) ⟨hx, hb, hml, hown, hts⟩ (fc_Md_move l D ca am H.size (fm_saI (fm_smI σ2 24 ((fm_mI σ2 24) + 1)) 8 (fm_mI σ2 29).toNatClampNeg ((fm_aI σ2 8 (fm_mI σ2 29).toNatClampNeg) + 1))  hI11 c20) ⟨callB_of 0 hts (fb_good fm_Md_move) rfl rfl rfl (hts _ (List.mem_cons_of_mem _ fq_6)) (hts _ (List.mem_cons_of_mem _ fq_709)) (by decide +kernel) ⟨Nat.le_of_ble_eq_true rfl, Nat.le_of_ble_eq_true rfl⟩, (hts _ (List.mem_cons_of_mem _ fq_711)), (hts _ (List.mem_cons_of_mem _ fp_Md_move))⟩ (fm_preV hP hK hD hN (va_recv hK hP (ci := 5) (q0 := 0) rfl rfl)) rfl rfl hl.1 rfl (lv_room (Nat.le_of_ble_eq_true rfl)) fx_Md_go_303 ⟨Nat.le_of_ble_eq_true rfl, Nat.le_of_ble_eq_true rfl⟩) hD hS hA (fun H locs hP hD hS hI24 => ?_)
                            refine lv_goto (tgt := 6) hx hb fx_Md_go_306 (by decide) ?_
                            exact ih (fv_Md_move (fm_saI (fm_smI σ2 24 ((fm_mI σ2 24) + 1)) 8 (fm_mI σ2 29).toNatClampNeg ((fm_aI σ2 8 (fm_mI σ2 29).toNatClampNeg) + 1))) v2 (mv + 1) (fm_stepm hmv c23) hI24 (by rw [hc163, fv_Md_go_c163, if_neg c12, if_neg c13, if_pos c16, if_pos c20, if_neg c21, if_neg c22, if_neg c23, fd_or_r]) H locs hP hD hS ls (lv_sub hl [0, 1, 2, 3, 4, 5] rfl)
                          · refine lv_iconst (v := 5) hx hb fx_Md_go_297 (by decide) ?_
                            exact fm_iret (r := 5) (u := fm_saI (fm_smI σ2 24 ((fm_mI σ2 24) + 1)) 8 (fm_mI σ2 29).toNatClampNeg ((fm_aI σ2 8 (fm_mI σ2 29).toNatClampNeg) + 1)) hQ hx hb hr ⟨by rw [hc163, fv_Md_go_c163, if_neg c12, if_neg c13, if_pos c16, if_pos c20, if_neg c21, if_neg c22, if_pos c23, fd_or_l], hI11⟩ hP hD hS fx_Md_go_298 hlocks
                        · refine lv_aload_n hx hb fx_Md_go_284 rfl (lv_at hl 2 rfl) ?_
                          refine lv_iconst (v := 3) hx hb fx_Md_go_285 (by decide) ?_
                          refine fm_callvm (va_runV (As := [.int 3]) (rest := []) ⟨hx, hb, hml, hown, hts⟩ (fc_Md_answer l D ca am H.size (fm_saI (fm_smI σ2 24 ((fm_mI σ2 24) + 1)) 8 (fm_mI σ2 29).toNatClampNeg ((fm_aI σ2 8 (fm_mI σ2 29).toNatClampNeg) + 1)) 3 hI11 ) ⟨callB_of 1 hts (fb_good fm_Md_answer) rfl rfl rfl (hts _ (List.mem_cons_of_mem _ fq_6)) (hts _ (List.mem_cons_of_mem _ fq_705)) (by decide +kernel) ⟨Nat.le_of_ble_eq_true rfl, Nat.le_of_ble_eq_true rfl⟩, (hts _ (List.mem_cons_of_mem _ fq_707)), (hts _ (List.mem_cons_of_mem _ fp_Md_answer))⟩ (fm_preV hP hK hD hN (va_recv hK hP (ci := 5) (q0 := 0) rfl rfl)) rfl rfl hl.1 rfl (lv_room (Nat.le_of_ble_eq_true rfl)) fx_Md_go_286 ⟨Nat.le_of_ble_eq_true rfl, Nat.le_of_ble_eq_true rfl⟩) hD hS hA (fun H locs hP hD hS hI25 => ?_)
                          refine lv_iconst (v := 0) hx hb fx_Md_go_289 (by decide) ?_
                          exact fm_iret (r := 0) (u := (fv_Md_answer (fm_saI (fm_smI σ2 24 ((fm_mI σ2 24) + 1)) 8 (fm_mI σ2 29).toNatClampNeg ((fm_aI σ2 8 (fm_mI σ2 29).toNatClampNeg) + 1)) 3)) hQ hx hb hr ⟨by rw [hc163, fv_Md_go_c163, if_neg c12, if_neg c13, if_pos c16, if_pos c20, if_neg c21, if_pos c22, fd_or_l], hI25⟩ hP hD hS fx_Md_go_290 hlocks
                      · refine lv_iconst (v := 4) hx hb fx_Md_go_277 (by decide) ?_
                        exact fm_iret (r := 4) (u := fm_saI (fm_smI σ2 24 ((fm_mI σ2 24) + 1)) 8 (fm_mI σ2 29).toNatClampNeg ((fm_aI σ2 8 (fm_mI σ2 29).toNatClampNeg) + 1)) hQ hx hb hr ⟨by rw [hc163, fv_Md_go_c163, if_neg c12, if_neg c13, if_pos c16, if_pos c20, if_pos c21, fd_or_l], hI11⟩ hP hD hS fx_Md_go_278 hlocks
                    · refine lv_aload_n hx hb fx_Md_go_256 rfl (lv_at hl 2 rfl) ?_
                      refine lv_iload hx hb fx_Md_go_257 (lv_at hl 0 rfl) ?_
                      refine fd_ifeq (tgt := 266) hx hb fx_Md_go_259 (by decide) (fun _ => ?_) (fun c26 => absurd c26 c13)
                      refine lv_iconst (v := 0) hx hb fx_Md_go_266 (by decide) ?_
                      refine fm_callvm (va_runV (As := [.int 0]) (rest := []) ⟨hx, hb, hml, hown, hts⟩ (fc_Md_answer l D ca am H.size (fm_saI (fm_smI σ2 24 ((fm_mI σ2 24) + 1)) 8 (fm_mI σ2 29).toNatClampNeg ((fm_aI σ2 8 (fm_mI σ2 29).toNatClampNeg) + 1)) 0 hI11 ) ⟨callB_of 1 hts (fb_good fm_Md_answer) rfl rfl rfl (hts _ (List.mem_cons_of_mem _ fq_6)) (hts _ (List.mem_cons_of_mem _ fq_705)) (by decide +kernel) ⟨Nat.le_of_ble_eq_true rfl, Nat.le_of_ble_eq_true rfl⟩, (hts _ (List.mem_cons_of_mem _ fq_707)), (hts _ (List.mem_cons_of_mem _ fp_Md_answer))⟩ (fm_preV hP hK hD hN (va_recv hK hP (ci := 5) (q0 := 0) rfl rfl)) rfl rfl hl.1 rfl (lv_room (Nat.le_of_ble_eq_true rfl)) fx_Md_go_267 ⟨Nat.le_of_ble_eq_true rfl, Nat.le_of_ble_eq_true rfl⟩) hD hS hA (fun H locs hP hD hS hI27 => ?_)
                      refine lv_iconst (v := 0) hx hb fx_Md_go_270 (by decide) ?_
                      exact fm_iret (r := 0) (u := (fv_Md_answer (fm_saI (fm_smI σ2 24 ((fm_mI σ2 24) + 1)) 8 (fm_mI σ2 29).toNatClampNeg ((fm_aI σ2 8 (fm_mI σ2 29).toNatClampNeg) + 1)) 0)) hQ hx hb hr ⟨by rw [hc163, fv_Md_go_c163, if_neg c12, if_neg c13, if_pos c16, if_neg c20, fd_or_l], hI27⟩ hP hD hS fx_Md_go_271 hlocks
                · refine lv_iload_n hx hb fx_Md_go_211 rfl (lv_at hl 3 rfl) ?_
                  refine lv_iconst (v := 1) hx hb fx_Md_go_212 (by decide) ?_
                  refine lv_icmp_ne (tgt := 229) hx hb fx_Md_go_213 (by decide) (fun c28 => ?_) (fun c28 => ?_)
                  · refine lv_aload_n hx hb fx_Md_go_229 rfl (lv_at hl 2 rfl) ?_
                    refine va_get (D := D) (ci := 5) (v := .ref (am 1)) (C := fn_R_Md) (T := fn_T_Md) (N := 33) hx hb hts fn_j_Md hown hK hP 0 rfl rfl 0 (by decide) (hts _ (List.mem_cons_of_mem _ fq_527)) (fun _ h9 => h9) rfl fx_Md_go_230 ?_
                    refine lv_aload_n hx hb fx_Md_go_233 rfl (lv_at hl 2 rfl) ?_
                    refine va_get (D := D) (ci := 5) (v := .int (fm_mI σ2 29)) (C := fn_R_Md) (T := fn_T_Md) (N := 33) hx hb hts fn_j_Md hown hK hP 0 rfl rfl 29 (by decide) (hts _ (List.mem_cons_of_mem _ fq_556)) (fun _ h9 => h9) rfl fx_Md_go_234 ?_
                    have hb29 : vp_in (fm_mI σ2 29) 48 := hI11.1
                    refine va_iald (D := D) hx hb hK hP 1 0 rfl rfl hb29 fx_Md_go_237 ?_
                    refine W.eq (g2 := F0 m 238 ls (.int (fm_aI σ2 0 (fm_mI σ2 29).toNatClampNeg) :: [])) rfl ?_
                    refine fm_callz (va_runS (As := [.int (fm_aI σ2 0 (fm_mI σ2 29).toNatClampNeg)]) (rest := []) ⟨hx, hb, hml, hown, hts⟩ (fc_Md_isMoved l D ca am H.size (fm_saI (fm_smI σ2 24 ((fm_mI σ2 24) + 1)) 8 (fm_mI σ2 29).toNatClampNeg ((fm_aI σ2 8 (fm_mI σ2 29).toNatClampNeg) + 1)) (fm_aI σ2 0 (fm_mI σ2 29).toNatClampNeg) hI11 ) ⟨callB_of 1 hts (fb_good fm_Md_isMoved) rfl rfl rfl (hts _ (List.mem_cons_of_mem _ fq_6)) (hts _ (List.mem_cons_of_mem _ fq_702)) (by decide +kernel) ⟨Nat.le_of_ble_eq_true rfl, Nat.le_of_ble_eq_true rfl⟩, (hts _ (List.mem_cons_of_mem _ fq_703))⟩ (fm_preS hP hK hD hN) rfl rfl hl.1 rfl (lv_room (Nat.le_of_ble_eq_true rfl)) fx_Md_go_238 ⟨Nat.le_of_ble_eq_true rfl, Nat.le_of_ble_eq_true rfl⟩) hD hS hA (fun H locs hP hD hS => ?_)
                    refine fd_ifeq (tgt := 256) hx hb fx_Md_go_241 (by decide) (fun c31 => ?_) (fun c31 => ?_)
                    · refine lv_aload_n hx hb fx_Md_go_256 rfl (lv_at hl 2 rfl) ?_
                      refine lv_iload hx hb fx_Md_go_257 (lv_at hl 0 rfl) ?_
                      refine fd_ifeq (tgt := 266) hx hb fx_Md_go_259 (by decide) (fun c32 => absurd c13 c32) (fun _ => ?_)
                      refine lv_iload_n hx hb fx_Md_go_262 rfl (lv_at hl 3 rfl) ?_
                      refine lv_goto (tgt := 267) hx hb fx_Md_go_263 (by decide) ?_
                      refine fm_callvm (va_runV (As := [.int p1]) (rest := []) ⟨hx, hb, hml, hown, hts⟩ (fc_Md_answer l D ca am H.size (fm_saI (fm_smI σ2 24 ((fm_mI σ2 24) + 1)) 8 (fm_mI σ2 29).toNatClampNeg ((fm_aI σ2 8 (fm_mI σ2 29).toNatClampNeg) + 1)) p1 hI11 ) ⟨callB_of 1 hts (fb_good fm_Md_answer) rfl rfl rfl (hts _ (List.mem_cons_of_mem _ fq_6)) (hts _ (List.mem_cons_of_mem _ fq_705)) (by decide +kernel) ⟨Nat.le_of_ble_eq_true rfl, Nat.le_of_ble_eq_true rfl⟩, (hts _ (List.mem_cons_of_mem _ fq_707)), (hts _ (List.mem_cons_of_mem _ fp_Md_answer))⟩ (fm_preV hP hK hD hN (va_recv hK hP (ci := 5) (q0 := 0) rfl rfl)) rfl rfl hl.1 rfl (lv_room (Nat.le_of_ble_eq_true rfl)) fx_Md_go_267 ⟨Nat.le_of_ble_eq_true rfl, Nat.le_of_ble_eq_true rfl⟩) hD hS hA (fun H locs hP hD hS hI33 => ?_)
                      refine lv_iconst (v := 0) hx hb fx_Md_go_270 (by decide) ?_
                      exact fm_iret (r := 0) (u := (fv_Md_answer (fm_saI (fm_smI σ2 24 ((fm_mI σ2 24) + 1)) 8 (fm_mI σ2 29).toNatClampNeg ((fm_aI σ2 8 (fm_mI σ2 29).toNatClampNeg) + 1)) p1)) hQ hx hb hr ⟨by rw [hc163, fv_Md_go_c163, if_neg c12, if_pos c13, if_neg c28, if_neg c31, fd_or_l], hI33⟩ hP hD hS fx_Md_go_271 hlocks
                    · refine lv_aload_n hx hb fx_Md_go_244 rfl (lv_at hl 2 rfl) ?_
                      refine va_get (D := D) (ci := 5) (v := .ref (am 3)) (C := fn_R_Md) (T := fn_T_Md) (N := 33) hx hb hts fn_j_Md hown hK hP 0 rfl rfl 2 (by decide) (hts _ (List.mem_cons_of_mem _ fq_529)) (fun _ h9 => h9) rfl fx_Md_go_245 ?_
                      refine lv_aload_n hx hb fx_Md_go_248 rfl (lv_at hl 2 rfl) ?_
                      refine va_get (D := D) (ci := 5) (v := .int (fm_mI σ2 29)) (C := fn_R_Md) (T := fn_T_Md) (N := 33) hx hb hts fn_j_Md hown hK hP 0 rfl rfl 29 (by decide) (hts _ (List.mem_cons_of_mem _ fq_556)) (fun _ h9 => h9) rfl fx_Md_go_249 ?_
                      have hb34 : vp_in (fm_mI σ2 29) 48 := hI11.1
                      refine va_iald (D := D) hx hb hK hP 3 2 rfl rfl hb34 fx_Md_go_252 ?_
                      refine W.eq (g2 := F0 m 253 ls (.int (fm_aI σ2 2 (fm_mI σ2 29).toNatClampNeg) :: [])) rfl ?_
                      refine lv_if_ge (tgt := 272) hx hb fx_Md_go_253 (by decide) (fun c35 => ?_) (fun c35 => ?_)
                      · refine lv_iload_n hx hb fx_Md_go_272 rfl (lv_at hl 5 rfl) ?_
                        refine lv_iconst (v := 1) hx hb fx_Md_go_273 (by decide) ?_
                        refine lv_icmp_ne (tgt := 279) hx hb fx_Md_go_274 (by decide) (fun c36 => ?_) (fun c36 => ?_)
                        · refine lv_iload_n hx hb fx_Md_go_279 rfl (lv_at hl 5 rfl) ?_
                          refine lv_iconst (v := 2) hx hb fx_Md_go_280 (by decide) ?_
                          refine lv_icmp_ne (tgt := 291) hx hb fx_Md_go_281 (by decide) (fun c37 => ?_) (fun c37 => ?_)
                          · refine lv_iload hx hb fx_Md_go_291 (lv_at hl 1 rfl) ?_
                            refine lv_iconst (v := 4) hx hb fx_Md_go_293 (by decide) ?_
                            refine lv_icmp_ne (tgt := 299) hx hb fx_Md_go_294 (by decide) (fun c38 => ?_) (fun c38 => ?_)
                            · refine lv_iinc (v := mv + 1) (lv' := [(5, .int (mv + 1)), (4, .int (fd_bi v2)), (0, .ref (am 0)), (1, .int p1), (2, .int p2), (3, .int p3)]) hx hb fx_Md_go_299 hl (k := 1) rfl rfl (by decide) rfl (fun ls hl => ?_)
                              refine lv_aload_n hx hb fx_Md_go_302 rfl (lv_at hl 2 rfl) ?_
                              refine fm_callvm (va_runV (As := []) (rest := []) ⟨hx, hb, hml, hown, hts⟩ (fc_Md_move l D ca am H.size (fm_saI (fm_smI σ2 24 ((fm_mI σ2 24) + 1)) 8 (fm_mI σ2 29).toNatClampNeg ((fm_aI σ2 8 (fm_mI σ2 29).toNatClampNeg) + 1))  hI11 c35) ⟨callB_of 0 hts (fb_good fm_Md_move) rfl rfl rfl (hts _ (List.mem_cons_of_mem _ fq_6)) (hts _ (List.mem_cons_of_mem _ fq_709)) (by decide +kernel) ⟨Nat.le_of_ble_eq_true rfl, Nat.le_of_ble_eq_true rfl⟩, (hts _ (List.mem_cons_of_mem _ fq_711)), (hts _ (List.mem_cons_of_mem _ fp_Md_move))⟩ (fm_preV hP hK hD hN (va_recv hK hP (ci := 5) (q0 := 0) rfl rfl)) rfl rfl hl.1 rfl (lv_room (Nat.le_of_ble_eq_true rfl)) fx_Md_go_303 ⟨Nat.le_of_ble_eq_true rfl, Nat.le_of_ble_eq_true rfl⟩) hD hS hA (fun H locs hP hD hS hI39 => ?_)
                              refine lv_goto (tgt := 6) hx hb fx_Md_go_306 (by decide) ?_
                              exact ih (fv_Md_move (fm_saI (fm_smI σ2 24 ((fm_mI σ2 24) + 1)) 8 (fm_mI σ2 29).toNatClampNeg ((fm_aI σ2 8 (fm_mI σ2 29).toNatClampNeg) + 1))) v2 (mv + 1) (fm_stepm hmv c38) hI39 (by rw [hc163, fv_Md_go_c163, if_neg c12, if_pos c13, if_neg c28, if_pos c31, if_pos c35, if_neg c36, if_neg c37, if_neg c38, fd_or_r]) H locs hP hD hS ls (lv_sub hl [0, 1, 2, 3, 4, 5] rfl)
                            · refine lv_iconst (v := 5) hx hb fx_Md_go_297 (by decide) ?_
                              exact fm_iret (r := 5) (u := fm_saI (fm_smI σ2 24 ((fm_mI σ2 24) + 1)) 8 (fm_mI σ2 29).toNatClampNeg ((fm_aI σ2 8 (fm_mI σ2 29).toNatClampNeg) + 1)) hQ hx hb hr ⟨by rw [hc163, fv_Md_go_c163, if_neg c12, if_pos c13, if_neg c28, if_pos c31, if_pos c35, if_neg c36, if_neg c37, if_pos c38, fd_or_l], hI11⟩ hP hD hS fx_Md_go_298 hlocks
                          · refine lv_aload_n hx hb fx_Md_go_284 rfl (lv_at hl 2 rfl) ?_
                            refine lv_iconst (v := 3) hx hb fx_Md_go_285 (by decide) ?_
                            refine fm_callvm (va_runV (As := [.int 3]) (rest := []) ⟨hx, hb, hml, hown, hts⟩ (fc_Md_answer l D ca am H.size (fm_saI (fm_smI σ2 24 ((fm_mI σ2 24) + 1)) 8 (fm_mI σ2 29).toNatClampNeg ((fm_aI σ2 8 (fm_mI σ2 29).toNatClampNeg) + 1)) 3 hI11 ) ⟨callB_of 1 hts (fb_good fm_Md_answer) rfl rfl rfl (hts _ (List.mem_cons_of_mem _ fq_6)) (hts _ (List.mem_cons_of_mem _ fq_705)) (by decide +kernel) ⟨Nat.le_of_ble_eq_true rfl, Nat.le_of_ble_eq_true rfl⟩, (hts _ (List.mem_cons_of_mem _ fq_707)), (hts _ (List.mem_cons_of_mem _ fp_Md_answer))⟩ (fm_preV hP hK hD hN (va_recv hK hP (ci := 5) (q0 := 0) rfl rfl)) rfl rfl hl.1 rfl (lv_room (Nat.le_of_ble_eq_true rfl)) fx_Md_go_286 ⟨Nat.le_of_ble_eq_true rfl, Nat.le_of_ble_eq_true rfl⟩) hD hS hA (fun H locs hP hD hS hI40 => ?_)
                            refine lv_iconst (v := 0) hx hb fx_Md_go_289 (by decide) ?_
                            exact fm_iret (r := 0) (u := (fv_Md_answer (fm_saI (fm_smI σ2 24 ((fm_mI σ2 24) + 1)) 8 (fm_mI σ2 29).toNatClampNeg ((fm_aI σ2 8 (fm_mI σ2 29).toNatClampNeg) + 1)) 3)) hQ hx hb hr ⟨by rw [hc163, fv_Md_go_c163, if_neg c12, if_pos c13, if_neg c28, if_pos c31, if_pos c35, if_neg c36, if_pos c37, fd_or_l], hI40⟩ hP hD hS fx_Md_go_290 hlocks
                        · refine lv_iconst (v := 4) hx hb fx_Md_go_277 (by decide) ?_
                          exact fm_iret (r := 4) (u := fm_saI (fm_smI σ2 24 ((fm_mI σ2 24) + 1)) 8 (fm_mI σ2 29).toNatClampNeg ((fm_aI σ2 8 (fm_mI σ2 29).toNatClampNeg) + 1)) hQ hx hb hr ⟨by rw [hc163, fv_Md_go_c163, if_neg c12, if_pos c13, if_neg c28, if_pos c31, if_pos c35, if_pos c36, fd_or_l], hI11⟩ hP hD hS fx_Md_go_278 hlocks
                      · refine lv_aload_n hx hb fx_Md_go_256 rfl (lv_at hl 2 rfl) ?_
                        refine lv_iload hx hb fx_Md_go_257 (lv_at hl 0 rfl) ?_
                        refine fd_ifeq (tgt := 266) hx hb fx_Md_go_259 (by decide) (fun c41 => absurd c13 c41) (fun _ => ?_)
                        refine lv_iload_n hx hb fx_Md_go_262 rfl (lv_at hl 3 rfl) ?_
                        refine lv_goto (tgt := 267) hx hb fx_Md_go_263 (by decide) ?_
                        refine fm_callvm (va_runV (As := [.int p1]) (rest := []) ⟨hx, hb, hml, hown, hts⟩ (fc_Md_answer l D ca am H.size (fm_saI (fm_smI σ2 24 ((fm_mI σ2 24) + 1)) 8 (fm_mI σ2 29).toNatClampNeg ((fm_aI σ2 8 (fm_mI σ2 29).toNatClampNeg) + 1)) p1 hI11 ) ⟨callB_of 1 hts (fb_good fm_Md_answer) rfl rfl rfl (hts _ (List.mem_cons_of_mem _ fq_6)) (hts _ (List.mem_cons_of_mem _ fq_705)) (by decide +kernel) ⟨Nat.le_of_ble_eq_true rfl, Nat.le_of_ble_eq_true rfl⟩, (hts _ (List.mem_cons_of_mem _ fq_707)), (hts _ (List.mem_cons_of_mem _ fp_Md_answer))⟩ (fm_preV hP hK hD hN (va_recv hK hP (ci := 5) (q0 := 0) rfl rfl)) rfl rfl hl.1 rfl (lv_room (Nat.le_of_ble_eq_true rfl)) fx_Md_go_267 ⟨Nat.le_of_ble_eq_true rfl, Nat.le_of_ble_eq_true rfl⟩) hD hS hA (fun H locs hP hD hS hI42 => ?_)
                        refine lv_iconst (v := 0) hx hb fx_Md_go_270 (by decide) ?_
                        exact fm_iret (r := 0) (u := (fv_Md_answer (fm_saI (fm_smI σ2 24 ((fm_mI σ2 24) + 1)) 8 (fm_mI σ2 29).toNatClampNeg ((fm_aI σ2 8 (fm_mI σ2 29).toNatClampNeg) + 1)) p1)) hQ hx hb hr ⟨by rw [hc163, fv_Md_go_c163, if_neg c12, if_pos c13, if_neg c28, if_pos c31, if_neg c35, fd_or_l], hI42⟩ hP hD hS fx_Md_go_271 hlocks
                  · refine lv_aload_n hx hb fx_Md_go_216 rfl (lv_at hl 2 rfl) ?_
                    refine fm_callz (va_runV (As := []) (rest := []) ⟨hx, hb, hml, hown, hts⟩ (fc_Md_passes l D ca am H.size (fm_saI (fm_smI σ2 24 ((fm_mI σ2 24) + 1)) 8 (fm_mI σ2 29).toNatClampNeg ((fm_aI σ2 8 (fm_mI σ2 29).toNatClampNeg) + 1))  hI11 ) ⟨callB_of 0 hts (fb_good fm_Md_passes) rfl rfl rfl (hts _ (List.mem_cons_of_mem _ fq_6)) (hts _ (List.mem_cons_of_mem _ fq_693)) (by decide +kernel) ⟨Nat.le_of_ble_eq_true rfl, Nat.le_of_ble_eq_true rfl⟩, (hts _ (List.mem_cons_of_mem _ fq_695)), (hts _ (List.mem_cons_of_mem _ fp_Md_passes))⟩ (fm_preV hP hK hD hN (va_recv hK hP (ci := 5) (q0 := 0) rfl rfl)) rfl rfl hl.1 rfl (lv_room (Nat.le_of_ble_eq_true rfl)) fx_Md_go_217 ⟨Nat.le_of_ble_eq_true rfl, Nat.le_of_ble_eq_true rfl⟩) hD hS hA (fun H locs hP hD hS => ?_)
                    refine lv_istore (lv' := [(7, .int (fd_bi (fv_Md_passes (fm_saI (fm_smI σ2 24 ((fm_mI σ2 24) + 1)) 8 (fm_mI σ2 29).toNatClampNeg ((fm_aI σ2 8 (fm_mI σ2 29).toNatClampNeg) + 1))))), (4, .int (fd_bi v2)), (5, .int mv), (0, .ref (am 0)), (1, .int p1), (2, .int p2), (3, .int p3)]) hx hb fx_Md_go_220 hl (by decide) rfl (fun ls hl => ?_)
                    refine lv_iload hx hb fx_Md_go_222 (lv_at hl 0 rfl) ?_
                    refine fd_ifne (tgt := 229) hx hb fx_Md_go_224 (by decide) (fun c44 => ?_) (fun c44 => ?_)
                    · refine lv_aload_n hx hb fx_Md_go_229 rfl (lv_at hl 3 rfl) ?_
                      refine va_get (D := D) (ci := 5) (v := .ref (am 1)) (C := fn_R_Md) (T := fn_T_Md) (N := 33) hx hb hts fn_j_Md hown hK hP 0 rfl rfl 0 (by decide) (hts _ (List.mem_cons_of_mem _ fq_527)) (fun _ h9 => h9) rfl fx_Md_go_230 ?_
                      refine lv_aload_n hx hb fx_Md_go_233 rfl (lv_at hl 3 rfl) ?_
                      refine va_get (D := D) (ci := 5) (v := .int (fm_mI σ2 29)) (C := fn_R_Md) (T := fn_T_Md) (N := 33) hx hb hts fn_j_Md hown hK hP 0 rfl rfl 29 (by decide) (hts _ (List.mem_cons_of_mem _ fq_556)) (fun _ h9 => h9) rfl fx_Md_go_234 ?_
                      have hb45 : vp_in (fm_mI σ2 29) 48 := hI11.1
                      refine va_iald (D := D) hx hb hK hP 1 0 rfl rfl hb45 fx_Md_go_237 ?_
                      refine W.eq (g2 := F0 m 238 ls (.int (fm_aI σ2 0 (fm_mI σ2 29).toNatClampNeg) :: [])) rfl ?_
                      refine fm_callz (va_runS (As := [.int (fm_aI σ2 0 (fm_mI σ2 29).toNatClampNeg)]) (rest := []) ⟨hx, hb, hml, hown, hts⟩ (fc_Md_isMoved l D ca am H.size (fm_saI (fm_smI σ2 24 ((fm_mI σ2 24) + 1)) 8 (fm_mI σ2 29).toNatClampNeg ((fm_aI σ2 8 (fm_mI σ2 29).toNatClampNeg) + 1)) (fm_aI σ2 0 (fm_mI σ2 29).toNatClampNeg) hI11 ) ⟨callB_of 1 hts (fb_good fm_Md_isMoved) rfl rfl rfl (hts _ (List.mem_cons_of_mem _ fq_6)) (hts _ (List.mem_cons_of_mem _ fq_702)) (by decide +kernel) ⟨Nat.le_of_ble_eq_true rfl, Nat.le_of_ble_eq_true rfl⟩, (hts _ (List.mem_cons_of_mem _ fq_703))⟩ (fm_preS hP hK hD hN) rfl rfl hl.1 rfl (lv_room (Nat.le_of_ble_eq_true rfl)) fx_Md_go_238 ⟨Nat.le_of_ble_eq_true rfl, Nat.le_of_ble_eq_true rfl⟩) hD hS hA (fun H locs hP hD hS => ?_)
                      refine fd_ifeq (tgt := 256) hx hb fx_Md_go_241 (by decide) (fun c47 => ?_) (fun c47 => ?_)
                      · refine lv_aload_n hx hb fx_Md_go_256 rfl (lv_at hl 3 rfl) ?_
                        refine lv_iload hx hb fx_Md_go_257 (lv_at hl 1 rfl) ?_
                        refine fd_ifeq (tgt := 266) hx hb fx_Md_go_259 (by decide) (fun c48 => absurd c13 c48) (fun _ => ?_)
                        refine lv_iload_n hx hb fx_Md_go_262 rfl (lv_at hl 4 rfl) ?_
                        refine lv_goto (tgt := 267) hx hb fx_Md_go_263 (by decide) ?_
                        refine fm_callvm (va_runV (As := [.int p1]) (rest := []) ⟨hx, hb, hml, hown, hts⟩ (fc_Md_answer l D ca am H.size (fm_saI (fm_smI σ2 24 ((fm_mI σ2 24) + 1)) 8 (fm_mI σ2 29).toNatClampNeg ((fm_aI σ2 8 (fm_mI σ2 29).toNatClampNeg) + 1)) p1 hI11 ) ⟨callB_of 1 hts (fb_good fm_Md_answer) rfl rfl rfl (hts _ (List.mem_cons_of_mem _ fq_6)) (hts _ (List.mem_cons_of_mem _ fq_705)) (by decide +kernel) ⟨Nat.le_of_ble_eq_true rfl, Nat.le_of_ble_eq_true rfl⟩, (hts _ (List.mem_cons_of_mem _ fq_707)), (hts _ (List.mem_cons_of_mem _ fp_Md_answer))⟩ (fm_preV hP hK hD hN (va_recv hK hP (ci := 5) (q0 := 0) rfl rfl)) rfl rfl hl.1 rfl (lv_room (Nat.le_of_ble_eq_true rfl)) fx_Md_go_267 ⟨Nat.le_of_ble_eq_true rfl, Nat.le_of_ble_eq_true rfl⟩) hD hS hA (fun H locs hP hD hS hI49 => ?_)
                        refine lv_iconst (v := 0) hx hb fx_Md_go_270 (by decide) ?_
                        exact fm_iret (r := 0) (u := (fv_Md_answer (fm_saI (fm_smI σ2 24 ((fm_mI σ2 24) + 1)) 8 (fm_mI σ2 29).toNatClampNeg ((fm_aI σ2 8 (fm_mI σ2 29).toNatClampNeg) + 1)) p1)) hQ hx hb hr ⟨by rw [hc163, fv_Md_go_c163, if_neg c12, if_pos c13, if_pos c28, if_pos c44, if_neg c47, fd_or_l], hI49⟩ hP hD hS fx_Md_go_271 hlocks
                      · refine lv_aload_n hx hb fx_Md_go_244 rfl (lv_at hl 3 rfl) ?_
                        refine va_get (D := D) (ci := 5) (v := .ref (am 3)) (C := fn_R_Md) (T := fn_T_Md) (N := 33) hx hb hts fn_j_Md hown hK hP 0 rfl rfl 2 (by decide) (hts _ (List.mem_cons_of_mem _ fq_529)) (fun _ h9 => h9) rfl fx_Md_go_245 ?_
                        refine lv_aload_n hx hb fx_Md_go_248 rfl (lv_at hl 3 rfl) ?_
                        refine va_get (D := D) (ci := 5) (v := .int (fm_mI σ2 29)) (C := fn_R_Md) (T := fn_T_Md) (N := 33) hx hb hts fn_j_Md hown hK hP 0 rfl rfl 29 (by decide) (hts _ (List.mem_cons_of_mem _ fq_556)) (fun _ h9 => h9) rfl fx_Md_go_249 ?_
                        have hb50 : vp_in (fm_mI σ2 29) 48 := hI11.1
                        refine va_iald (D := D) hx hb hK hP 3 2 rfl rfl hb50 fx_Md_go_252 ?_
                        refine W.eq (g2 := F0 m 253 ls (.int (fm_aI σ2 2 (fm_mI σ2 29).toNatClampNeg) :: [])) rfl ?_
                        refine lv_if_ge (tgt := 272) hx hb fx_Md_go_253 (by decide) (fun c51 => ?_) (fun c51 => ?_)
                        · refine lv_iload_n hx hb fx_Md_go_272 rfl (lv_at hl 6 rfl) ?_
                          refine lv_iconst (v := 1) hx hb fx_Md_go_273 (by decide) ?_
                          refine lv_icmp_ne (tgt := 279) hx hb fx_Md_go_274 (by decide) (fun c52 => ?_) (fun c52 => ?_)
                          · refine lv_iload_n hx hb fx_Md_go_279 rfl (lv_at hl 6 rfl) ?_
                            refine lv_iconst (v := 2) hx hb fx_Md_go_280 (by decide) ?_
                            refine lv_icmp_ne (tgt := 291) hx hb fx_Md_go_281 (by decide) (fun c53 => ?_) (fun c53 => ?_)
                            · refine lv_iload hx hb fx_Md_go_291 (lv_at hl 2 rfl) ?_
                              refine lv_iconst (v := 4) hx hb fx_Md_go_293 (by decide) ?_
                              refine lv_icmp_ne (tgt := 299) hx hb fx_Md_go_294 (by decide) (fun c54 => ?_) (fun c54 => ?_)
                              · refine lv_iinc (v := mv + 1) (lv' := [(5, .int (mv + 1)), (7, .int (fd_bi (fv_Md_passes (fm_saI (fm_smI σ2 24 ((fm_mI σ2 24) + 1)) 8 (fm_mI σ2 29).toNatClampNeg ((fm_aI σ2 8 (fm_mI σ2 29).toNatClampNeg) + 1))))), (4, .int (fd_bi v2)), (0, .ref (am 0)), (1, .int p1), (2, .int p2), (3, .int p3)]) hx hb fx_Md_go_299 hl (k := 2) rfl rfl (by decide) rfl (fun ls hl => ?_)
                                refine lv_aload_n hx hb fx_Md_go_302 rfl (lv_at hl 3 rfl) ?_
                                refine fm_callvm (va_runV (As := []) (rest := []) ⟨hx, hb, hml, hown, hts⟩ (fc_Md_move l D ca am H.size (fm_saI (fm_smI σ2 24 ((fm_mI σ2 24) + 1)) 8 (fm_mI σ2 29).toNatClampNeg ((fm_aI σ2 8 (fm_mI σ2 29).toNatClampNeg) + 1))  hI11 c51) ⟨callB_of 0 hts (fb_good fm_Md_move) rfl rfl rfl (hts _ (List.mem_cons_of_mem _ fq_6)) (hts _ (List.mem_cons_of_mem _ fq_709)) (by decide +kernel) ⟨Nat.le_of_ble_eq_true rfl, Nat.le_of_ble_eq_true rfl⟩, (hts _ (List.mem_cons_of_mem _ fq_711)), (hts _ (List.mem_cons_of_mem _ fp_Md_move))⟩ (fm_preV hP hK hD hN (va_recv hK hP (ci := 5) (q0 := 0) rfl rfl)) rfl rfl hl.1 rfl (lv_room (Nat.le_of_ble_eq_true rfl)) fx_Md_go_303 ⟨Nat.le_of_ble_eq_true rfl, Nat.le_of_ble_eq_true rfl⟩) hD hS hA (fun H locs hP hD hS hI55 => ?_)
                                refine lv_goto (tgt := 6) hx hb fx_Md_go_306 (by decide) ?_
                                exact ih (fv_Md_move (fm_saI (fm_smI σ2 24 ((fm_mI σ2 24) + 1)) 8 (fm_mI σ2 29).toNatClampNeg ((fm_aI σ2 8 (fm_mI σ2 29).toNatClampNeg) + 1))) v2 (mv + 1) (fm_stepm hmv c54) hI55 (by rw [hc163, fv_Md_go_c163, if_neg c12, if_pos c13, if_pos c28, if_pos c44, if_pos c47, if_pos c51, if_neg c52, if_neg c53, if_neg c54, fd_or_r]) H locs hP hD hS ls (lv_sub hl [0, 2, 3, 4, 5, 6] rfl)
                              · refine lv_iconst (v := 5) hx hb fx_Md_go_297 (by decide) ?_
                                exact fm_iret (r := 5) (u := fm_saI (fm_smI σ2 24 ((fm_mI σ2 24) + 1)) 8 (fm_mI σ2 29).toNatClampNeg ((fm_aI σ2 8 (fm_mI σ2 29).toNatClampNeg) + 1)) hQ hx hb hr ⟨by rw [hc163, fv_Md_go_c163, if_neg c12, if_pos c13, if_pos c28, if_pos c44, if_pos c47, if_pos c51, if_neg c52, if_neg c53, if_pos c54, fd_or_l], hI11⟩ hP hD hS fx_Md_go_298 hlocks
                            · refine lv_aload_n hx hb fx_Md_go_284 rfl (lv_at hl 3 rfl) ?_
                              refine lv_iconst (v := 3) hx hb fx_Md_go_285 (by decide) ?_
                              refine fm_callvm (va_runV (As := [.int 3]) (rest := []) ⟨hx, hb, hml, hown, hts⟩ (fc_Md_answer l D ca am H.size (fm_saI (fm_smI σ2 24 ((fm_mI σ2 24) + 1)) 8 (fm_mI σ2 29).toNatClampNeg ((fm_aI σ2 8 (fm_mI σ2 29).toNatClampNeg) + 1)) 3 hI11 ) ⟨callB_of 1 hts (fb_good fm_Md_answer) rfl rfl rfl (hts _ (List.mem_cons_of_mem _ fq_6)) (hts _ (List.mem_cons_of_mem _ fq_705)) (by decide +kernel) ⟨Nat.le_of_ble_eq_true rfl, Nat.le_of_ble_eq_true rfl⟩, (hts _ (List.mem_cons_of_mem _ fq_707)), (hts _ (List.mem_cons_of_mem _ fp_Md_answer))⟩ (fm_preV hP hK hD hN (va_recv hK hP (ci := 5) (q0 := 0) rfl rfl)) rfl rfl hl.1 rfl (lv_room (Nat.le_of_ble_eq_true rfl)) fx_Md_go_286 ⟨Nat.le_of_ble_eq_true rfl, Nat.le_of_ble_eq_true rfl⟩) hD hS hA (fun H locs hP hD hS hI56 => ?_)
                              refine lv_iconst (v := 0) hx hb fx_Md_go_289 (by decide) ?_
                              exact fm_iret (r := 0) (u := (fv_Md_answer (fm_saI (fm_smI σ2 24 ((fm_mI σ2 24) + 1)) 8 (fm_mI σ2 29).toNatClampNeg ((fm_aI σ2 8 (fm_mI σ2 29).toNatClampNeg) + 1)) 3)) hQ hx hb hr ⟨by rw [hc163, fv_Md_go_c163, if_neg c12, if_pos c13, if_pos c28, if_pos c44, if_pos c47, if_pos c51, if_neg c52, if_pos c53, fd_or_l], hI56⟩ hP hD hS fx_Md_go_290 hlocks
                          · refine lv_iconst (v := 4) hx hb fx_Md_go_277 (by decide) ?_
                            exact fm_iret (r := 4) (u := fm_saI (fm_smI σ2 24 ((fm_mI σ2 24) + 1)) 8 (fm_mI σ2 29).toNatClampNeg ((fm_aI σ2 8 (fm_mI σ2 29).toNatClampNeg) + 1)) hQ hx hb hr ⟨by rw [hc163, fv_Md_go_c163, if_neg c12, if_pos c13, if_pos c28, if_pos c44, if_pos c47, if_pos c51, if_pos c52, fd_or_l], hI11⟩ hP hD hS fx_Md_go_278 hlocks
                        · refine lv_aload_n hx hb fx_Md_go_256 rfl (lv_at hl 3 rfl) ?_
                          refine lv_iload hx hb fx_Md_go_257 (lv_at hl 1 rfl) ?_
                          refine fd_ifeq (tgt := 266) hx hb fx_Md_go_259 (by decide) (fun c57 => absurd c13 c57) (fun _ => ?_)
                          refine lv_iload_n hx hb fx_Md_go_262 rfl (lv_at hl 4 rfl) ?_
                          refine lv_goto (tgt := 267) hx hb fx_Md_go_263 (by decide) ?_
                          refine fm_callvm (va_runV (As := [.int p1]) (rest := []) ⟨hx, hb, hml, hown, hts⟩ (fc_Md_answer l D ca am H.size (fm_saI (fm_smI σ2 24 ((fm_mI σ2 24) + 1)) 8 (fm_mI σ2 29).toNatClampNeg ((fm_aI σ2 8 (fm_mI σ2 29).toNatClampNeg) + 1)) p1 hI11 ) ⟨callB_of 1 hts (fb_good fm_Md_answer) rfl rfl rfl (hts _ (List.mem_cons_of_mem _ fq_6)) (hts _ (List.mem_cons_of_mem _ fq_705)) (by decide +kernel) ⟨Nat.le_of_ble_eq_true rfl, Nat.le_of_ble_eq_true rfl⟩, (hts _ (List.mem_cons_of_mem _ fq_707)), (hts _ (List.mem_cons_of_mem _ fp_Md_answer))⟩ (fm_preV hP hK hD hN (va_recv hK hP (ci := 5) (q0 := 0) rfl rfl)) rfl rfl hl.1 rfl (lv_room (Nat.le_of_ble_eq_true rfl)) fx_Md_go_267 ⟨Nat.le_of_ble_eq_true rfl, Nat.le_of_ble_eq_true rfl⟩) hD hS hA (fun H locs hP hD hS hI58 => ?_)
                          refine lv_iconst (v := 0) hx hb fx_Md_go_270 (by decide) ?_
                          exact fm_iret (r := 0) (u := (fv_Md_answer (fm_saI (fm_smI σ2 24 ((fm_mI σ2 24) + 1)) 8 (fm_mI σ2 29).toNatClampNeg ((fm_aI σ2 8 (fm_mI σ2 29).toNatClampNeg) + 1)) p1)) hQ hx hb hr ⟨by rw [hc163, fv_Md_go_c163, if_neg c12, if_pos c13, if_pos c28, if_pos c44, if_pos c47, if_neg c51, fd_or_l], hI58⟩ hP hD hS fx_Md_go_271 hlocks
                    · refine lv_iconst (v := 3) hx hb fx_Md_go_227 (by decide) ?_
                      exact fm_iret (r := 3) (u := fm_saI (fm_smI σ2 24 ((fm_mI σ2 24) + 1)) 8 (fm_mI σ2 29).toNatClampNeg ((fm_aI σ2 8 (fm_mI σ2 29).toNatClampNeg) + 1)) hQ hx hb hr ⟨by rw [hc163, fv_Md_go_c163, if_neg c12, if_pos c13, if_pos c28, if_neg c44, fd_or_l], hI11⟩ hP hD hS fx_Md_go_228 hlocks
              · refine lv_aload_n hx hb fx_Md_go_193 rfl (lv_at hl 2 rfl) ?_
                refine va_get (D := D) (ci := 5) (v := .ref (am 10)) (C := fn_R_Md) (T := fn_T_Md) (N := 33) hx hb hts fn_j_Md hown hK hP 0 rfl rfl 9 (by decide) (hts _ (List.mem_cons_of_mem _ fq_536)) (fun _ h9 => h9) rfl fx_Md_go_194 ?_
                refine lv_aload_n hx hb fx_Md_go_197 rfl (lv_at hl 2 rfl) ?_
                refine va_get (D := D) (ci := 5) (v := .int (fm_mI σ2 29)) (C := fn_R_Md) (T := fn_T_Md) (N := 33) hx hb hts fn_j_Md hown hK hP 0 rfl rfl 29 (by decide) (hts _ (List.mem_cons_of_mem _ fq_556)) (fun _ h9 => h9) rfl fx_Md_go_198 ?_
                refine lv_dup2_11 hx hb fx_Md_go_201 rfl rfl ?_
                have hb59 : vp_in (fm_mI σ2 29) 48 := hI11.1
                refine va_iald (D := D) hx hb hK hP 10 9 rfl rfl hb59 fx_Md_go_202 ?_
                refine W.eq (g2 := F0 m 203 ls (.int (fm_aI σ2 9 (fm_mI σ2 29).toNatClampNeg) :: [.int (fm_mI σ2 29), .ref (am 10)])) rfl ?_
                refine lv_iconst (v := 1) hx hb fx_Md_go_203 (by decide) ?_
                refine lv_iadd hx hb fx_Md_go_204 ?_
                have hb60 : vp_in (fm_mI σ2 29) 48 := hI11.1
                refine va_iast (D := D) (x := (fm_aI σ2 9 (fm_mI σ2 29).toNatClampNeg) + 1) hx hb hK hP hD hS 10 9 rfl rfl hb60 fx_Md_go_205 (fun H locs hP hD hS => ?_)
                rw [fm_set_a_9] at hP hD
                have hI61 : fm_Inv (fm_saI (fm_saI (fm_smI σ2 24 ((fm_mI σ2 24) + 1)) 8 (fm_mI σ2 29).toNatClampNeg ((fm_aI σ2 8 (fm_mI σ2 29).toNatClampNeg) + 1)) 9 (fm_mI σ2 29).toNatClampNeg ((fm_aI σ2 9 (fm_mI σ2 29).toNatClampNeg) + 1)) := fm_inv_saI (by decide) hI11
                refine lv_iload hx hb fx_Md_go_206 (lv_at hl 0 rfl) ?_
                refine fd_ifeq (tgt := 229) hx hb fx_Md_go_208 (by decide) (fun c62 => ?_) (fun c62 => ?_)
                · refine lv_aload_n hx hb fx_Md_go_229 rfl (lv_at hl 2 rfl) ?_
                  refine va_get (D := D) (ci := 5) (v := .ref (am 1)) (C := fn_R_Md) (T := fn_T_Md) (N := 33) hx hb hts fn_j_Md hown hK hP 0 rfl rfl 0 (by decide) (hts _ (List.mem_cons_of_mem _ fq_527)) (fun _ h9 => h9) rfl fx_Md_go_230 ?_
                  refine lv_aload_n hx hb fx_Md_go_233 rfl (lv_at hl 2 rfl) ?_
                  refine va_get (D := D) (ci := 5) (v := .int (fm_mI σ2 29)) (C := fn_R_Md) (T := fn_T_Md) (N := 33) hx hb hts fn_j_Md hown hK hP 0 rfl rfl 29 (by decide) (hts _ (List.mem_cons_of_mem _ fq_556)) (fun _ h9 => h9) rfl fx_Md_go_234 ?_
                  have hb63 : vp_in (fm_mI σ2 29) 48 := hI61.1
                  refine va_iald (D := D) hx hb hK hP 1 0 rfl rfl hb63 fx_Md_go_237 ?_
                  refine W.eq (g2 := F0 m 238 ls (.int (fm_aI σ2 0 (fm_mI σ2 29).toNatClampNeg) :: [])) rfl ?_
                  refine fm_callz (va_runS (As := [.int (fm_aI σ2 0 (fm_mI σ2 29).toNatClampNeg)]) (rest := []) ⟨hx, hb, hml, hown, hts⟩ (fc_Md_isMoved l D ca am H.size (fm_saI (fm_saI (fm_smI σ2 24 ((fm_mI σ2 24) + 1)) 8 (fm_mI σ2 29).toNatClampNeg ((fm_aI σ2 8 (fm_mI σ2 29).toNatClampNeg) + 1)) 9 (fm_mI σ2 29).toNatClampNeg ((fm_aI σ2 9 (fm_mI σ2 29).toNatClampNeg) + 1)) (fm_aI σ2 0 (fm_mI σ2 29).toNatClampNeg) hI61 ) ⟨callB_of 1 hts (fb_good fm_Md_isMoved) rfl rfl rfl (hts _ (List.mem_cons_of_mem _ fq_6)) (hts _ (List.mem_cons_of_mem _ fq_702)) (by decide +kernel) ⟨Nat.le_of_ble_eq_true rfl, Nat.le_of_ble_eq_true rfl⟩, (hts _ (List.mem_cons_of_mem _ fq_703))⟩ (fm_preS hP hK hD hN) rfl rfl hl.1 rfl (lv_room (Nat.le_of_ble_eq_true rfl)) fx_Md_go_238 ⟨Nat.le_of_ble_eq_true rfl, Nat.le_of_ble_eq_true rfl⟩) hD hS hA (fun H locs hP hD hS => ?_)
                  refine fd_ifeq (tgt := 256) hx hb fx_Md_go_241 (by decide) (fun c65 => ?_) (fun c65 => ?_)
                  · refine lv_aload_n hx hb fx_Md_go_256 rfl (lv_at hl 2 rfl) ?_
                    refine lv_iload hx hb fx_Md_go_257 (lv_at hl 0 rfl) ?_
                    refine fd_ifeq (tgt := 266) hx hb fx_Md_go_259 (by decide) (fun _ => ?_) (fun c66 => absurd c66 c62)
                    refine lv_iconst (v := 0) hx hb fx_Md_go_266 (by decide) ?_
                    refine fm_callvm (va_runV (As := [.int 0]) (rest := []) ⟨hx, hb, hml, hown, hts⟩ (fc_Md_answer l D ca am H.size (fm_saI (fm_saI (fm_smI σ2 24 ((fm_mI σ2 24) + 1)) 8 (fm_mI σ2 29).toNatClampNeg ((fm_aI σ2 8 (fm_mI σ2 29).toNatClampNeg) + 1)) 9 (fm_mI σ2 29).toNatClampNeg ((fm_aI σ2 9 (fm_mI σ2 29).toNatClampNeg) + 1)) 0 hI61 ) ⟨callB_of 1 hts (fb_good fm_Md_answer) rfl rfl rfl (hts _ (List.mem_cons_of_mem _ fq_6)) (hts _ (List.mem_cons_of_mem _ fq_705)) (by decide +kernel) ⟨Nat.le_of_ble_eq_true rfl, Nat.le_of_ble_eq_true rfl⟩, (hts _ (List.mem_cons_of_mem _ fq_707)), (hts _ (List.mem_cons_of_mem _ fp_Md_answer))⟩ (fm_preV hP hK hD hN (va_recv hK hP (ci := 5) (q0 := 0) rfl rfl)) rfl rfl hl.1 rfl (lv_room (Nat.le_of_ble_eq_true rfl)) fx_Md_go_267 ⟨Nat.le_of_ble_eq_true rfl, Nat.le_of_ble_eq_true rfl⟩) hD hS hA (fun H locs hP hD hS hI67 => ?_)
                    refine lv_iconst (v := 0) hx hb fx_Md_go_270 (by decide) ?_
                    exact fm_iret (r := 0) (u := (fv_Md_answer (fm_saI (fm_saI (fm_smI σ2 24 ((fm_mI σ2 24) + 1)) 8 (fm_mI σ2 29).toNatClampNeg ((fm_aI σ2 8 (fm_mI σ2 29).toNatClampNeg) + 1)) 9 (fm_mI σ2 29).toNatClampNeg ((fm_aI σ2 9 (fm_mI σ2 29).toNatClampNeg) + 1)) 0)) hQ hx hb hr ⟨by rw [hc163, fv_Md_go_c163, if_pos c12, if_neg c62, if_neg c65, fd_or_l], hI67⟩ hP hD hS fx_Md_go_271 hlocks
                  · refine lv_aload_n hx hb fx_Md_go_244 rfl (lv_at hl 2 rfl) ?_
                    refine va_get (D := D) (ci := 5) (v := .ref (am 3)) (C := fn_R_Md) (T := fn_T_Md) (N := 33) hx hb hts fn_j_Md hown hK hP 0 rfl rfl 2 (by decide) (hts _ (List.mem_cons_of_mem _ fq_529)) (fun _ h9 => h9) rfl fx_Md_go_245 ?_
                    refine lv_aload_n hx hb fx_Md_go_248 rfl (lv_at hl 2 rfl) ?_
                    refine va_get (D := D) (ci := 5) (v := .int (fm_mI σ2 29)) (C := fn_R_Md) (T := fn_T_Md) (N := 33) hx hb hts fn_j_Md hown hK hP 0 rfl rfl 29 (by decide) (hts _ (List.mem_cons_of_mem _ fq_556)) (fun _ h9 => h9) rfl fx_Md_go_249 ?_
                    have hb68 : vp_in (fm_mI σ2 29) 48 := hI61.1
                    refine va_iald (D := D) hx hb hK hP 3 2 rfl rfl hb68 fx_Md_go_252 ?_
                    refine W.eq (g2 := F0 m 253 ls (.int (fm_aI σ2 2 (fm_mI σ2 29).toNatClampNeg) :: [])) rfl ?_
                    refine lv_if_ge (tgt := 272) hx hb fx_Md_go_253 (by decide) (fun c69 => ?_) (fun c69 => ?_)
                    · refine lv_iload_n hx hb fx_Md_go_272 rfl (lv_at hl 5 rfl) ?_
                      refine lv_iconst (v := 1) hx hb fx_Md_go_273 (by decide) ?_
                      refine lv_icmp_ne (tgt := 279) hx hb fx_Md_go_274 (by decide) (fun c70 => ?_) (fun c70 => ?_)
                      · refine lv_iload_n hx hb fx_Md_go_279 rfl (lv_at hl 5 rfl) ?_
                        refine lv_iconst (v := 2) hx hb fx_Md_go_280 (by decide) ?_
                        refine lv_icmp_ne (tgt := 291) hx hb fx_Md_go_281 (by decide) (fun c71 => ?_) (fun c71 => ?_)
                        · refine lv_iload hx hb fx_Md_go_291 (lv_at hl 1 rfl) ?_
                          refine lv_iconst (v := 4) hx hb fx_Md_go_293 (by decide) ?_
                          refine lv_icmp_ne (tgt := 299) hx hb fx_Md_go_294 (by decide) (fun c72 => ?_) (fun c72 => ?_)
                          · refine lv_iinc (v := mv + 1) (lv' := [(5, .int (mv + 1)), (4, .int (fd_bi v2)), (0, .ref (am 0)), (1, .int p1), (2, .int p2), (3, .int p3)]) hx hb fx_Md_go_299 hl (k := 1) rfl rfl (by decide) rfl (fun ls hl => ?_)
                            refine lv_aload_n hx hb fx_Md_go_302 rfl (lv_at hl 2 rfl) ?_
                            refine fm_callvm (va_runV (As := []) (rest := []) ⟨hx, hb, hml, hown, hts⟩ (fc_Md_move l D ca am H.size (fm_saI (fm_saI (fm_smI σ2 24 ((fm_mI σ2 24) + 1)) 8 (fm_mI σ2 29).toNatClampNeg ((fm_aI σ2 8 (fm_mI σ2 29).toNatClampNeg) + 1)) 9 (fm_mI σ2 29).toNatClampNeg ((fm_aI σ2 9 (fm_mI σ2 29).toNatClampNeg) + 1))  hI61 c69) ⟨callB_of 0 hts (fb_good fm_Md_move) rfl rfl rfl (hts _ (List.mem_cons_of_mem _ fq_6)) (hts _ (List.mem_cons_of_mem _ fq_709)) (by decide +kernel) ⟨Nat.le_of_ble_eq_true rfl, Nat.le_of_ble_eq_true rfl⟩, (hts _ (List.mem_cons_of_mem _ fq_711)), (hts _ (List.mem_cons_of_mem _ fp_Md_move))⟩ (fm_preV hP hK hD hN (va_recv hK hP (ci := 5) (q0 := 0) rfl rfl)) rfl rfl hl.1 rfl (lv_room (Nat.le_of_ble_eq_true rfl)) fx_Md_go_303 ⟨Nat.le_of_ble_eq_true rfl, Nat.le_of_ble_eq_true rfl⟩) hD hS hA (fun H locs hP hD hS hI73 => ?_)
                            refine lv_goto (tgt := 6) hx hb fx_Md_go_306 (by decide) ?_
                            exact ih (fv_Md_move (fm_saI (fm_saI (fm_smI σ2 24 ((fm_mI σ2 24) + 1)) 8 (fm_mI σ2 29).toNatClampNeg ((fm_aI σ2 8 (fm_mI σ2 29).toNatClampNeg) + 1)) 9 (fm_mI σ2 29).toNatClampNeg ((fm_aI σ2 9 (fm_mI σ2 29).toNatClampNeg) + 1))) v2 (mv + 1) (fm_stepm hmv c72) hI73 (by rw [hc163, fv_Md_go_c163, if_pos c12, if_neg c62, if_pos c65, if_pos c69, if_neg c70, if_neg c71, if_neg c72, fd_or_r]) H locs hP hD hS ls (lv_sub hl [0, 1, 2, 3, 4, 5] rfl)
                          · refine lv_iconst (v := 5) hx hb fx_Md_go_297 (by decide) ?_
                            exact fm_iret (r := 5) (u := fm_saI (fm_saI (fm_smI σ2 24 ((fm_mI σ2 24) + 1)) 8 (fm_mI σ2 29).toNatClampNeg ((fm_aI σ2 8 (fm_mI σ2 29).toNatClampNeg) + 1)) 9 (fm_mI σ2 29).toNatClampNeg ((fm_aI σ2 9 (fm_mI σ2 29).toNatClampNeg) + 1)) hQ hx hb hr ⟨by rw [hc163, fv_Md_go_c163, if_pos c12, if_neg c62, if_pos c65, if_pos c69, if_neg c70, if_neg c71, if_pos c72, fd_or_l], hI61⟩ hP hD hS fx_Md_go_298 hlocks
                        · refine lv_aload_n hx hb fx_Md_go_284 rfl (lv_at hl 2 rfl) ?_
                          refine lv_iconst (v := 3) hx hb fx_Md_go_285 (by decide) ?_
                          refine fm_callvm (va_runV (As := [.int 3]) (rest := []) ⟨hx, hb, hml, hown, hts⟩ (fc_Md_answer l D ca am H.size (fm_saI (fm_saI (fm_smI σ2 24 ((fm_mI σ2 24) + 1)) 8 (fm_mI σ2 29).toNatClampNeg ((fm_aI σ2 8 (fm_mI σ2 29).toNatClampNeg) + 1)) 9 (fm_mI σ2 29).toNatClampNeg ((fm_aI σ2 9 (fm_mI σ2 29).toNatClampNeg) + 1)) 3 hI61 ) ⟨callB_of 1 hts (fb_good fm_Md_answer) rfl rfl rfl (hts _ (List.mem_cons_of_mem _ fq_6)) (hts _ (List.mem_cons_of_mem _ fq_705)) (by decide +kernel) ⟨Nat.le_of_ble_eq_true rfl, Nat.le_of_ble_eq_true rfl⟩, (hts _ (List.mem_cons_of_mem _ fq_707)), (hts _ (List.mem_cons_of_mem _ fp_Md_answer))⟩ (fm_preV hP hK hD hN (va_recv hK hP (ci := 5) (q0 := 0) rfl rfl)) rfl rfl hl.1 rfl (lv_room (Nat.le_of_ble_eq_true rfl)) fx_Md_go_286 ⟨Nat.le_of_ble_eq_true rfl, Nat.le_of_ble_eq_true rfl⟩) hD hS hA (fun H locs hP hD hS hI74 => ?_)
                          refine lv_iconst (v := 0) hx hb fx_Md_go_289 (by decide) ?_
                          exact fm_iret (r := 0) (u := (fv_Md_answer (fm_saI (fm_saI (fm_smI σ2 24 ((fm_mI σ2 24) + 1)) 8 (fm_mI σ2 29).toNatClampNeg ((fm_aI σ2 8 (fm_mI σ2 29).toNatClampNeg) + 1)) 9 (fm_mI σ2 29).toNatClampNeg ((fm_aI σ2 9 (fm_mI σ2 29).toNatClampNeg) + 1)) 3)) hQ hx hb hr ⟨by rw [hc163, fv_Md_go_c163, if_pos c12, if_neg c62, if_pos c65, if_pos c69, if_neg c70, if_pos c71, fd_or_l], hI74⟩ hP hD hS fx_Md_go_290 hlocks
                      · refine lv_iconst (v := 4) hx hb fx_Md_go_277 (by decide) ?_
                        exact fm_iret (r := 4) (u := fm_saI (fm_saI (fm_smI σ2 24 ((fm_mI σ2 24) + 1)) 8 (fm_mI σ2 29).toNatClampNeg ((fm_aI σ2 8 (fm_mI σ2 29).toNatClampNeg) + 1)) 9 (fm_mI σ2 29).toNatClampNeg ((fm_aI σ2 9 (fm_mI σ2 29).toNatClampNeg) + 1)) hQ hx hb hr ⟨by rw [hc163, fv_Md_go_c163, if_pos c12, if_neg c62, if_pos c65, if_pos c69, if_pos c70, fd_or_l], hI61⟩ hP hD hS fx_Md_go_278 hlocks
                    · refine lv_aload_n hx hb fx_Md_go_256 rfl (lv_at hl 2 rfl) ?_
                      refine lv_iload hx hb fx_Md_go_257 (lv_at hl 0 rfl) ?_
                      refine fd_ifeq (tgt := 266) hx hb fx_Md_go_259 (by decide) (fun _ => ?_) (fun c75 => absurd c75 c62)
                      refine lv_iconst (v := 0) hx hb fx_Md_go_266 (by decide) ?_
                      refine fm_callvm (va_runV (As := [.int 0]) (rest := []) ⟨hx, hb, hml, hown, hts⟩ (fc_Md_answer l D ca am H.size (fm_saI (fm_saI (fm_smI σ2 24 ((fm_mI σ2 24) + 1)) 8 (fm_mI σ2 29).toNatClampNeg ((fm_aI σ2 8 (fm_mI σ2 29).toNatClampNeg) + 1)) 9 (fm_mI σ2 29).toNatClampNeg ((fm_aI σ2 9 (fm_mI σ2 29).toNatClampNeg) + 1)) 0 hI61 ) ⟨callB_of 1 hts (fb_good fm_Md_answer) rfl rfl rfl (hts _ (List.mem_cons_of_mem _ fq_6)) (hts _ (List.mem_cons_of_mem _ fq_705)) (by decide +kernel) ⟨Nat.le_of_ble_eq_true rfl, Nat.le_of_ble_eq_true rfl⟩, (hts _ (List.mem_cons_of_mem _ fq_707)), (hts _ (List.mem_cons_of_mem _ fp_Md_answer))⟩ (fm_preV hP hK hD hN (va_recv hK hP (ci := 5) (q0 := 0) rfl rfl)) rfl rfl hl.1 rfl (lv_room (Nat.le_of_ble_eq_true rfl)) fx_Md_go_267 ⟨Nat.le_of_ble_eq_true rfl, Nat.le_of_ble_eq_true rfl⟩) hD hS hA (fun H locs hP hD hS hI76 => ?_)
                      refine lv_iconst (v := 0) hx hb fx_Md_go_270 (by decide) ?_
                      exact fm_iret (r := 0) (u := (fv_Md_answer (fm_saI (fm_saI (fm_smI σ2 24 ((fm_mI σ2 24) + 1)) 8 (fm_mI σ2 29).toNatClampNeg ((fm_aI σ2 8 (fm_mI σ2 29).toNatClampNeg) + 1)) 9 (fm_mI σ2 29).toNatClampNeg ((fm_aI σ2 9 (fm_mI σ2 29).toNatClampNeg) + 1)) 0)) hQ hx hb hr ⟨by rw [hc163, fv_Md_go_c163, if_pos c12, if_neg c62, if_pos c65, if_neg c69, fd_or_l], hI76⟩ hP hD hS fx_Md_go_271 hlocks
                · refine lv_iload_n hx hb fx_Md_go_211 rfl (lv_at hl 3 rfl) ?_
                  refine lv_iconst (v := 1) hx hb fx_Md_go_212 (by decide) ?_
                  refine lv_icmp_ne (tgt := 229) hx hb fx_Md_go_213 (by decide) (fun c77 => ?_) (fun c77 => ?_)
                  · refine lv_aload_n hx hb fx_Md_go_229 rfl (lv_at hl 2 rfl) ?_
                    refine va_get (D := D) (ci := 5) (v := .ref (am 1)) (C := fn_R_Md) (T := fn_T_Md) (N := 33) hx hb hts fn_j_Md hown hK hP 0 rfl rfl 0 (by decide) (hts _ (List.mem_cons_of_mem _ fq_527)) (fun _ h9 => h9) rfl fx_Md_go_230 ?_
                    refine lv_aload_n hx hb fx_Md_go_233 rfl (lv_at hl 2 rfl) ?_
                    refine va_get (D := D) (ci := 5) (v := .int (fm_mI σ2 29)) (C := fn_R_Md) (T := fn_T_Md) (N := 33) hx hb hts fn_j_Md hown hK hP 0 rfl rfl 29 (by decide) (hts _ (List.mem_cons_of_mem _ fq_556)) (fun _ h9 => h9) rfl fx_Md_go_234 ?_
                    have hb78 : vp_in (fm_mI σ2 29) 48 := hI61.1
                    refine va_iald (D := D) hx hb hK hP 1 0 rfl rfl hb78 fx_Md_go_237 ?_
                    refine W.eq (g2 := F0 m 238 ls (.int (fm_aI σ2 0 (fm_mI σ2 29).toNatClampNeg) :: [])) rfl ?_
                    refine fm_callz (va_runS (As := [.int (fm_aI σ2 0 (fm_mI σ2 29).toNatClampNeg)]) (rest := []) ⟨hx, hb, hml, hown, hts⟩ (fc_Md_isMoved l D ca am H.size (fm_saI (fm_saI (fm_smI σ2 24 ((fm_mI σ2 24) + 1)) 8 (fm_mI σ2 29).toNatClampNeg ((fm_aI σ2 8 (fm_mI σ2 29).toNatClampNeg) + 1)) 9 (fm_mI σ2 29).toNatClampNeg ((fm_aI σ2 9 (fm_mI σ2 29).toNatClampNeg) + 1)) (fm_aI σ2 0 (fm_mI σ2 29).toNatClampNeg) hI61 ) ⟨callB_of 1 hts (fb_good fm_Md_isMoved) rfl rfl rfl (hts _ (List.mem_cons_of_mem _ fq_6)) (hts _ (List.mem_cons_of_mem _ fq_702)) (by decide +kernel) ⟨Nat.le_of_ble_eq_true rfl, Nat.le_of_ble_eq_true rfl⟩, (hts _ (List.mem_cons_of_mem _ fq_703))⟩ (fm_preS hP hK hD hN) rfl rfl hl.1 rfl (lv_room (Nat.le_of_ble_eq_true rfl)) fx_Md_go_238 ⟨Nat.le_of_ble_eq_true rfl, Nat.le_of_ble_eq_true rfl⟩) hD hS hA (fun H locs hP hD hS => ?_)
                    refine fd_ifeq (tgt := 256) hx hb fx_Md_go_241 (by decide) (fun c80 => ?_) (fun c80 => ?_)
                    · refine lv_aload_n hx hb fx_Md_go_256 rfl (lv_at hl 2 rfl) ?_
                      refine lv_iload hx hb fx_Md_go_257 (lv_at hl 0 rfl) ?_
                      refine fd_ifeq (tgt := 266) hx hb fx_Md_go_259 (by decide) (fun c81 => absurd c62 c81) (fun _ => ?_)
                      refine lv_iload_n hx hb fx_Md_go_262 rfl (lv_at hl 3 rfl) ?_
                      refine lv_goto (tgt := 267) hx hb fx_Md_go_263 (by decide) ?_
                      refine fm_callvm (va_runV (As := [.int p1]) (rest := []) ⟨hx, hb, hml, hown, hts⟩ (fc_Md_answer l D ca am H.size (fm_saI (fm_saI (fm_smI σ2 24 ((fm_mI σ2 24) + 1)) 8 (fm_mI σ2 29).toNatClampNeg ((fm_aI σ2 8 (fm_mI σ2 29).toNatClampNeg) + 1)) 9 (fm_mI σ2 29).toNatClampNeg ((fm_aI σ2 9 (fm_mI σ2 29).toNatClampNeg) + 1)) p1 hI61 ) ⟨callB_of 1 hts (fb_good fm_Md_answer) rfl rfl rfl (hts _ (List.mem_cons_of_mem _ fq_6)) (hts _ (List.mem_cons_of_mem _ fq_705)) (by decide +kernel) ⟨Nat.le_of_ble_eq_true rfl, Nat.le_of_ble_eq_true rfl⟩, (hts _ (List.mem_cons_of_mem _ fq_707)), (hts _ (List.mem_cons_of_mem _ fp_Md_answer))⟩ (fm_preV hP hK hD hN (va_recv hK hP (ci := 5) (q0 := 0) rfl rfl)) rfl rfl hl.1 rfl (lv_room (Nat.le_of_ble_eq_true rfl)) fx_Md_go_267 ⟨Nat.le_of_ble_eq_true rfl, Nat.le_of_ble_eq_true rfl⟩) hD hS hA (fun H locs hP hD hS hI82 => ?_)
                      refine lv_iconst (v := 0) hx hb fx_Md_go_270 (by decide) ?_
                      exact fm_iret (r := 0) (u := (fv_Md_answer (fm_saI (fm_saI (fm_smI σ2 24 ((fm_mI σ2 24) + 1)) 8 (fm_mI σ2 29).toNatClampNeg ((fm_aI σ2 8 (fm_mI σ2 29).toNatClampNeg) + 1)) 9 (fm_mI σ2 29).toNatClampNeg ((fm_aI σ2 9 (fm_mI σ2 29).toNatClampNeg) + 1)) p1)) hQ hx hb hr ⟨by rw [hc163, fv_Md_go_c163, if_pos c12, if_pos c62, if_neg c77, if_neg c80, fd_or_l], hI82⟩ hP hD hS fx_Md_go_271 hlocks
                    · refine lv_aload_n hx hb fx_Md_go_244 rfl (lv_at hl 2 rfl) ?_
                      refine va_get (D := D) (ci := 5) (v := .ref (am 3)) (C := fn_R_Md) (T := fn_T_Md) (N := 33) hx hb hts fn_j_Md hown hK hP 0 rfl rfl 2 (by decide) (hts _ (List.mem_cons_of_mem _ fq_529)) (fun _ h9 => h9) rfl fx_Md_go_245 ?_
                      refine lv_aload_n hx hb fx_Md_go_248 rfl (lv_at hl 2 rfl) ?_
                      refine va_get (D := D) (ci := 5) (v := .int (fm_mI σ2 29)) (C := fn_R_Md) (T := fn_T_Md) (N := 33) hx hb hts fn_j_Md hown hK hP 0 rfl rfl 29 (by decide) (hts _ (List.mem_cons_of_mem _ fq_556)) (fun _ h9 => h9) rfl fx_Md_go_249 ?_
                      have hb83 : vp_in (fm_mI σ2 29) 48 := hI61.1
                      refine va_iald (D := D) hx hb hK hP 3 2 rfl rfl hb83 fx_Md_go_252 ?_
                      refine W.eq (g2 := F0 m 253 ls (.int (fm_aI σ2 2 (fm_mI σ2 29).toNatClampNeg) :: [])) rfl ?_
                      refine lv_if_ge (tgt := 272) hx hb fx_Md_go_253 (by decide) (fun c84 => ?_) (fun c84 => ?_)
                      · refine lv_iload_n hx hb fx_Md_go_272 rfl (lv_at hl 5 rfl) ?_
                        refine lv_iconst (v := 1) hx hb fx_Md_go_273 (by decide) ?_
                        refine lv_icmp_ne (tgt := 279) hx hb fx_Md_go_274 (by decide) (fun c85 => ?_) (fun c85 => ?_)
                        · refine lv_iload_n hx hb fx_Md_go_279 rfl (lv_at hl 5 rfl) ?_
                          refine lv_iconst (v := 2) hx hb fx_Md_go_280 (by decide) ?_
                          refine lv_icmp_ne (tgt := 291) hx hb fx_Md_go_281 (by decide) (fun c86 => ?_) (fun c86 => ?_)
                          · refine lv_iload hx hb fx_Md_go_291 (lv_at hl 1 rfl) ?_
                            refine lv_iconst (v := 4) hx hb fx_Md_go_293 (by decide) ?_
                            refine lv_icmp_ne (tgt := 299) hx hb fx_Md_go_294 (by decide) (fun c87 => ?_) (fun c87 => ?_)
                            · refine lv_iinc (v := mv + 1) (lv' := [(5, .int (mv + 1)), (4, .int (fd_bi v2)), (0, .ref (am 0)), (1, .int p1), (2, .int p2), (3, .int p3)]) hx hb fx_Md_go_299 hl (k := 1) rfl rfl (by decide) rfl (fun ls hl => ?_)
                              refine lv_aload_n hx hb fx_Md_go_302 rfl (lv_at hl 2 rfl) ?_
                              refine fm_callvm (va_runV (As := []) (rest := []) ⟨hx, hb, hml, hown, hts⟩ (fc_Md_move l D ca am H.size (fm_saI (fm_saI (fm_smI σ2 24 ((fm_mI σ2 24) + 1)) 8 (fm_mI σ2 29).toNatClampNeg ((fm_aI σ2 8 (fm_mI σ2 29).toNatClampNeg) + 1)) 9 (fm_mI σ2 29).toNatClampNeg ((fm_aI σ2 9 (fm_mI σ2 29).toNatClampNeg) + 1))  hI61 c84) ⟨callB_of 0 hts (fb_good fm_Md_move) rfl rfl rfl (hts _ (List.mem_cons_of_mem _ fq_6)) (hts _ (List.mem_cons_of_mem _ fq_709)) (by decide +kernel) ⟨Nat.le_of_ble_eq_true rfl, Nat.le_of_ble_eq_true rfl⟩, (hts _ (List.mem_cons_of_mem _ fq_711)), (hts _ (List.mem_cons_of_mem _ fp_Md_move))⟩ (fm_preV hP hK hD hN (va_recv hK hP (ci := 5) (q0 := 0) rfl rfl)) rfl rfl hl.1 rfl (lv_room (Nat.le_of_ble_eq_true rfl)) fx_Md_go_303 ⟨Nat.le_of_ble_eq_true rfl, Nat.le_of_ble_eq_true rfl⟩) hD hS hA (fun H locs hP hD hS hI88 => ?_)
                              refine lv_goto (tgt := 6) hx hb fx_Md_go_306 (by decide) ?_
                              exact ih (fv_Md_move (fm_saI (fm_saI (fm_smI σ2 24 ((fm_mI σ2 24) + 1)) 8 (fm_mI σ2 29).toNatClampNeg ((fm_aI σ2 8 (fm_mI σ2 29).toNatClampNeg) + 1)) 9 (fm_mI σ2 29).toNatClampNeg ((fm_aI σ2 9 (fm_mI σ2 29).toNatClampNeg) + 1))) v2 (mv + 1) (fm_stepm hmv c87) hI88 (by rw [hc163, fv_Md_go_c163, if_pos c12, if_pos c62, if_neg c77, if_pos c80, if_pos c84, if_neg c85, if_neg c86, if_neg c87, fd_or_r]) H locs hP hD hS ls (lv_sub hl [0, 1, 2, 3, 4, 5] rfl)
                            · refine lv_iconst (v := 5) hx hb fx_Md_go_297 (by decide) ?_
                              exact fm_iret (r := 5) (u := fm_saI (fm_saI (fm_smI σ2 24 ((fm_mI σ2 24) + 1)) 8 (fm_mI σ2 29).toNatClampNeg ((fm_aI σ2 8 (fm_mI σ2 29).toNatClampNeg) + 1)) 9 (fm_mI σ2 29).toNatClampNeg ((fm_aI σ2 9 (fm_mI σ2 29).toNatClampNeg) + 1)) hQ hx hb hr ⟨by rw [hc163, fv_Md_go_c163, if_pos c12, if_pos c62, if_neg c77, if_pos c80, if_pos c84, if_neg c85, if_neg c86, if_pos c87, fd_or_l], hI61⟩ hP hD hS fx_Md_go_298 hlocks
                          · refine lv_aload_n hx hb fx_Md_go_284 rfl (lv_at hl 2 rfl) ?_
                            refine lv_iconst (v := 3) hx hb fx_Md_go_285 (by decide) ?_
                            refine fm_callvm (va_runV (As := [.int 3]) (rest := []) ⟨hx, hb, hml, hown, hts⟩ (fc_Md_answer l D ca am H.size (fm_saI (fm_saI (fm_smI σ2 24 ((fm_mI σ2 24) + 1)) 8 (fm_mI σ2 29).toNatClampNeg ((fm_aI σ2 8 (fm_mI σ2 29).toNatClampNeg) + 1)) 9 (fm_mI σ2 29).toNatClampNeg ((fm_aI σ2 9 (fm_mI σ2 29).toNatClampNeg) + 1)) 3 hI61 ) ⟨callB_of 1 hts (fb_good fm_Md_answer) rfl rfl rfl (hts _ (List.mem_cons_of_mem _ fq_6)) (hts _ (List.mem_cons_of_mem _ fq_705)) (by decide +kernel) ⟨Nat.le_of_ble_eq_true rfl, Nat.le_of_ble_eq_true rfl⟩, (hts _ (List.mem_cons_of_mem _ fq_707)), (hts _ (List.mem_cons_of_mem _ fp_Md_answer))⟩ (fm_preV hP hK hD hN (va_recv hK hP (ci := 5) (q0 := 0) rfl rfl)) rfl rfl hl.1 rfl (lv_room (Nat.le_of_ble_eq_true rfl)) fx_Md_go_286 ⟨Nat.le_of_ble_eq_true rfl, Nat.le_of_ble_eq_true rfl⟩) hD hS hA (fun H locs hP hD hS hI89 => ?_)
                            refine lv_iconst (v := 0) hx hb fx_Md_go_289 (by decide) ?_
                            exact fm_iret (r := 0) (u := (fv_Md_answer (fm_saI (fm_saI (fm_smI σ2 24 ((fm_mI σ2 24) + 1)) 8 (fm_mI σ2 29).toNatClampNeg ((fm_aI σ2 8 (fm_mI σ2 29).toNatClampNeg) + 1)) 9 (fm_mI σ2 29).toNatClampNeg ((fm_aI σ2 9 (fm_mI σ2 29).toNatClampNeg) + 1)) 3)) hQ hx hb hr ⟨by rw [hc163, fv_Md_go_c163, if_pos c12, if_pos c62, if_neg c77, if_pos c80, if_pos c84, if_neg c85, if_pos c86, fd_or_l], hI89⟩ hP hD hS fx_Md_go_290 hlocks
                        · refine lv_iconst (v := 4) hx hb fx_Md_go_277 (by decide) ?_
                          exact fm_iret (r := 4) (u := fm_saI (fm_saI (fm_smI σ2 24 ((fm_mI σ2 24) + 1)) 8 (fm_mI σ2 29).toNatClampNeg ((fm_aI σ2 8 (fm_mI σ2 29).toNatClampNeg) + 1)) 9 (fm_mI σ2 29).toNatClampNeg ((fm_aI σ2 9 (fm_mI σ2 29).toNatClampNeg) + 1)) hQ hx hb hr ⟨by rw [hc163, fv_Md_go_c163, if_pos c12, if_pos c62, if_neg c77, if_pos c80, if_pos c84, if_pos c85, fd_or_l], hI61⟩ hP hD hS fx_Md_go_278 hlocks
                      · refine lv_aload_n hx hb fx_Md_go_256 rfl (lv_at hl 2 rfl) ?_
                        refine lv_iload hx hb fx_Md_go_257 (lv_at hl 0 rfl) ?_
                        refine fd_ifeq (tgt := 266) hx hb fx_Md_go_259 (by decide) (fun c90 => absurd c62 c90) (fun _ => ?_)
                        refine lv_iload_n hx hb fx_Md_go_262 rfl (lv_at hl 3 rfl) ?_
                        refine lv_goto (tgt := 267) hx hb fx_Md_go_263 (by decide) ?_
                        refine fm_callvm (va_runV (As := [.int p1]) (rest := []) ⟨hx, hb, hml, hown, hts⟩ (fc_Md_answer l D ca am H.size (fm_saI (fm_saI (fm_smI σ2 24 ((fm_mI σ2 24) + 1)) 8 (fm_mI σ2 29).toNatClampNeg ((fm_aI σ2 8 (fm_mI σ2 29).toNatClampNeg) + 1)) 9 (fm_mI σ2 29).toNatClampNeg ((fm_aI σ2 9 (fm_mI σ2 29).toNatClampNeg) + 1)) p1 hI61 ) ⟨callB_of 1 hts (fb_good fm_Md_answer) rfl rfl rfl (hts _ (List.mem_cons_of_mem _ fq_6)) (hts _ (List.mem_cons_of_mem _ fq_705)) (by decide +kernel) ⟨Nat.le_of_ble_eq_true rfl, Nat.le_of_ble_eq_true rfl⟩, (hts _ (List.mem_cons_of_mem _ fq_707)), (hts _ (List.mem_cons_of_mem _ fp_Md_answer))⟩ (fm_preV hP hK hD hN (va_recv hK hP (ci := 5) (q0 := 0) rfl rfl)) rfl rfl hl.1 rfl (lv_room (Nat.le_of_ble_eq_true rfl)) fx_Md_go_267 ⟨Nat.le_of_ble_eq_true rfl, Nat.le_of_ble_eq_true rfl⟩) hD hS hA (fun H locs hP hD hS hI91 => ?_)
                        refine lv_iconst (v := 0) hx hb fx_Md_go_270 (by decide) ?_
                        exact fm_iret (r := 0) (u := (fv_Md_answer (fm_saI (fm_saI (fm_smI σ2 24 ((fm_mI σ2 24) + 1)) 8 (fm_mI σ2 29).toNatClampNeg ((fm_aI σ2 8 (fm_mI σ2 29).toNatClampNeg) + 1)) 9 (fm_mI σ2 29).toNatClampNeg ((fm_aI σ2 9 (fm_mI σ2 29).toNatClampNeg) + 1)) p1)) hQ hx hb hr ⟨by rw [hc163, fv_Md_go_c163, if_pos c12, if_pos c62, if_neg c77, if_pos c80, if_neg c84, fd_or_l], hI91⟩ hP hD hS fx_Md_go_271 hlocks
                  · refine lv_aload_n hx hb fx_Md_go_216 rfl (lv_at hl 2 rfl) ?_
                    refine fm_callz (va_runV (As := []) (rest := []) ⟨hx, hb, hml, hown, hts⟩ (fc_Md_passes l D ca am H.size (fm_saI (fm_saI (fm_smI σ2 24 ((fm_mI σ2 24) + 1)) 8 (fm_mI σ2 29).toNatClampNeg ((fm_aI σ2 8 (fm_mI σ2 29).toNatClampNeg) + 1)) 9 (fm_mI σ2 29).toNatClampNeg ((fm_aI σ2 9 (fm_mI σ2 29).toNatClampNeg) + 1))  hI61 ) ⟨callB_of 0 hts (fb_good fm_Md_passes) rfl rfl rfl (hts _ (List.mem_cons_of_mem _ fq_6)) (hts _ (List.mem_cons_of_mem _ fq_693)) (by decide +kernel) ⟨Nat.le_of_ble_eq_true rfl, Nat.le_of_ble_eq_true rfl⟩, (hts _ (List.mem_cons_of_mem _ fq_695)), (hts _ (List.mem_cons_of_mem _ fp_Md_passes))⟩ (fm_preV hP hK hD hN (va_recv hK hP (ci := 5) (q0 := 0) rfl rfl)) rfl rfl hl.1 rfl (lv_room (Nat.le_of_ble_eq_true rfl)) fx_Md_go_217 ⟨Nat.le_of_ble_eq_true rfl, Nat.le_of_ble_eq_true rfl⟩) hD hS hA (fun H locs hP hD hS => ?_)
                    refine lv_istore (lv' := [(7, .int (fd_bi (fv_Md_passes (fm_saI (fm_saI (fm_smI σ2 24 ((fm_mI σ2 24) + 1)) 8 (fm_mI σ2 29).toNatClampNeg ((fm_aI σ2 8 (fm_mI σ2 29).toNatClampNeg) + 1)) 9 (fm_mI σ2 29).toNatClampNeg ((fm_aI σ2 9 (fm_mI σ2 29).toNatClampNeg) + 1))))), (4, .int (fd_bi v2)), (5, .int mv), (0, .ref (am 0)), (1, .int p1), (2, .int p2), (3, .int p3)]) hx hb fx_Md_go_220 hl (by decide) rfl (fun ls hl => ?_)
                    refine lv_iload hx hb fx_Md_go_222 (lv_at hl 0 rfl) ?_
                    refine fd_ifne (tgt := 229) hx hb fx_Md_go_224 (by decide) (fun c93 => ?_) (fun c93 => ?_)
                    · refine lv_aload_n hx hb fx_Md_go_229 rfl (lv_at hl 3 rfl) ?_
                      refine va_get (D := D) (ci := 5) (v := .ref (am 1)) (C := fn_R_Md) (T := fn_T_Md) (N := 33) hx hb hts fn_j_Md hown hK hP 0 rfl rfl 0 (by decide) (hts _ (List.mem_cons_of_mem _ fq_527)) (fun _ h9 => h9) rfl fx_Md_go_230 ?_
                      refine lv_aload_n hx hb fx_Md_go_233 rfl (lv_at hl 3 rfl) ?_
                      refine va_get (D := D) (ci := 5) (v := .int (fm_mI σ2 29)) (C := fn_R_Md) (T := fn_T_Md) (N := 33) hx hb hts fn_j_Md hown hK hP 0 rfl rfl 29 (by decide) (hts _ (List.mem_cons_of_mem _ fq_556)) (fun _ h9 => h9) rfl fx_Md_go_234 ?_
                      have hb94 : vp_in (fm_mI σ2 29) 48 := hI61.1
                      refine va_iald (D := D) hx hb hK hP 1 0 rfl rfl hb94 fx_Md_go_237 ?_
                      refine W.eq (g2 := F0 m 238 ls (.int (fm_aI σ2 0 (fm_mI σ2 29).toNatClampNeg) :: [])) rfl ?_
                      refine fm_callz (va_runS (As := [.int (fm_aI σ2 0 (fm_mI σ2 29).toNatClampNeg)]) (rest := []) ⟨hx, hb, hml, hown, hts⟩ (fc_Md_isMoved l D ca am H.size (fm_saI (fm_saI (fm_smI σ2 24 ((fm_mI σ2 24) + 1)) 8 (fm_mI σ2 29).toNatClampNeg ((fm_aI σ2 8 (fm_mI σ2 29).toNatClampNeg) + 1)) 9 (fm_mI σ2 29).toNatClampNeg ((fm_aI σ2 9 (fm_mI σ2 29).toNatClampNeg) + 1)) (fm_aI σ2 0 (fm_mI σ2 29).toNatClampNeg) hI61 ) ⟨callB_of 1 hts (fb_good fm_Md_isMoved) rfl rfl rfl (hts _ (List.mem_cons_of_mem _ fq_6)) (hts _ (List.mem_cons_of_mem _ fq_702)) (by decide +kernel) ⟨Nat.le_of_ble_eq_true rfl, Nat.le_of_ble_eq_true rfl⟩, (hts _ (List.mem_cons_of_mem _ fq_703))⟩ (fm_preS hP hK hD hN) rfl rfl hl.1 rfl (lv_room (Nat.le_of_ble_eq_true rfl)) fx_Md_go_238 ⟨Nat.le_of_ble_eq_true rfl, Nat.le_of_ble_eq_true rfl⟩) hD hS hA (fun H locs hP hD hS => ?_)
                      refine fd_ifeq (tgt := 256) hx hb fx_Md_go_241 (by decide) (fun c96 => ?_) (fun c96 => ?_)
                      · refine lv_aload_n hx hb fx_Md_go_256 rfl (lv_at hl 3 rfl) ?_
                        refine lv_iload hx hb fx_Md_go_257 (lv_at hl 1 rfl) ?_
                        refine fd_ifeq (tgt := 266) hx hb fx_Md_go_259 (by decide) (fun c97 => absurd c62 c97) (fun _ => ?_)
                        refine lv_iload_n hx hb fx_Md_go_262 rfl (lv_at hl 4 rfl) ?_
                        refine lv_goto (tgt := 267) hx hb fx_Md_go_263 (by decide) ?_
                        refine fm_callvm (va_runV (As := [.int p1]) (rest := []) ⟨hx, hb, hml, hown, hts⟩ (fc_Md_answer l D ca am H.size (fm_saI (fm_saI (fm_smI σ2 24 ((fm_mI σ2 24) + 1)) 8 (fm_mI σ2 29).toNatClampNeg ((fm_aI σ2 8 (fm_mI σ2 29).toNatClampNeg) + 1)) 9 (fm_mI σ2 29).toNatClampNeg ((fm_aI σ2 9 (fm_mI σ2 29).toNatClampNeg) + 1)) p1 hI61 ) ⟨callB_of 1 hts (fb_good fm_Md_answer) rfl rfl rfl (hts _ (List.mem_cons_of_mem _ fq_6)) (hts _ (List.mem_cons_of_mem _ fq_705)) (by decide +kernel) ⟨Nat.le_of_ble_eq_true rfl, Nat.le_of_ble_eq_true rfl⟩, (hts _ (List.mem_cons_of_mem _ fq_707)), (hts _ (List.mem_cons_of_mem _ fp_Md_answer))⟩ (fm_preV hP hK hD hN (va_recv hK hP (ci := 5) (q0 := 0) rfl rfl)) rfl rfl hl.1 rfl (lv_room (Nat.le_of_ble_eq_true rfl)) fx_Md_go_267 ⟨Nat.le_of_ble_eq_true rfl, Nat.le_of_ble_eq_true rfl⟩) hD hS hA (fun H locs hP hD hS hI98 => ?_)
                        refine lv_iconst (v := 0) hx hb fx_Md_go_270 (by decide) ?_
                        exact fm_iret (r := 0) (u := (fv_Md_answer (fm_saI (fm_saI (fm_smI σ2 24 ((fm_mI σ2 24) + 1)) 8 (fm_mI σ2 29).toNatClampNeg ((fm_aI σ2 8 (fm_mI σ2 29).toNatClampNeg) + 1)) 9 (fm_mI σ2 29).toNatClampNeg ((fm_aI σ2 9 (fm_mI σ2 29).toNatClampNeg) + 1)) p1)) hQ hx hb hr ⟨by rw [hc163, fv_Md_go_c163, if_pos c12, if_pos c62, if_pos c77, if_pos c93, if_neg c96, fd_or_l], hI98⟩ hP hD hS fx_Md_go_271 hlocks
                      · refine lv_aload_n hx hb fx_Md_go_244 rfl (lv_at hl 3 rfl) ?_
                        refine va_get (D := D) (ci := 5) (v := .ref (am 3)) (C := fn_R_Md) (T := fn_T_Md) (N := 33) hx hb hts fn_j_Md hown hK hP 0 rfl rfl 2 (by decide) (hts _ (List.mem_cons_of_mem _ fq_529)) (fun _ h9 => h9) rfl fx_Md_go_245 ?_
                        refine lv_aload_n hx hb fx_Md_go_248 rfl (lv_at hl 3 rfl) ?_
                        refine va_get (D := D) (ci := 5) (v := .int (fm_mI σ2 29)) (C := fn_R_Md) (T := fn_T_Md) (N := 33) hx hb hts fn_j_Md hown hK hP 0 rfl rfl 29 (by decide) (hts _ (List.mem_cons_of_mem _ fq_556)) (fun _ h9 => h9) rfl fx_Md_go_249 ?_
                        have hb99 : vp_in (fm_mI σ2 29) 48 := hI61.1
                        refine va_iald (D := D) hx hb hK hP 3 2 rfl rfl hb99 fx_Md_go_252 ?_
                        refine W.eq (g2 := F0 m 253 ls (.int (fm_aI σ2 2 (fm_mI σ2 29).toNatClampNeg) :: [])) rfl ?_
                        refine lv_if_ge (tgt := 272) hx hb fx_Md_go_253 (by decide) (fun c100 => ?_) (fun c100 => ?_)
                        · refine lv_iload_n hx hb fx_Md_go_272 rfl (lv_at hl 6 rfl) ?_
                          refine lv_iconst (v := 1) hx hb fx_Md_go_273 (by decide) ?_
                          refine lv_icmp_ne (tgt := 279) hx hb fx_Md_go_274 (by decide) (fun c101 => ?_) (fun c101 => ?_)
                          · refine lv_iload_n hx hb fx_Md_go_279 rfl (lv_at hl 6 rfl) ?_
                            refine lv_iconst (v := 2) hx hb fx_Md_go_280 (by decide) ?_
                            refine lv_icmp_ne (tgt := 291) hx hb fx_Md_go_281 (by decide) (fun c102 => ?_) (fun c102 => ?_)
                            · refine lv_iload hx hb fx_Md_go_291 (lv_at hl 2 rfl) ?_
                              refine lv_iconst (v := 4) hx hb fx_Md_go_293 (by decide) ?_
                              refine lv_icmp_ne (tgt := 299) hx hb fx_Md_go_294 (by decide) (fun c103 => ?_) (fun c103 => ?_)
                              · refine lv_iinc (v := mv + 1) (lv' := [(5, .int (mv + 1)), (7, .int (fd_bi (fv_Md_passes (fm_saI (fm_saI (fm_smI σ2 24 ((fm_mI σ2 24) + 1)) 8 (fm_mI σ2 29).toNatClampNeg ((fm_aI σ2 8 (fm_mI σ2 29).toNatClampNeg) + 1)) 9 (fm_mI σ2 29).toNatClampNeg ((fm_aI σ2 9 (fm_mI σ2 29).toNatClampNeg) + 1))))), (4, .int (fd_bi v2)), (0, .ref (am 0)), (1, .int p1), (2, .int p2), (3, .int p3)]) hx hb fx_Md_go_299 hl (k := 2) rfl rfl (by decide) rfl (fun ls hl => ?_)
                                refine lv_aload_n hx hb fx_Md_go_302 rfl (lv_at hl 3 rfl) ?_
                                refine fm_callvm (va_runV (As := []) (rest := []) ⟨hx, hb, hml, hown, hts⟩ (fc_Md_move l D ca am H.size (fm_saI (fm_saI (fm_smI σ2 24 ((fm_mI σ2 24) + 1)) 8 (fm_mI σ2 29).toNatClampNeg ((fm_aI σ2 8 (fm_mI σ2 29).toNatClampNeg) + 1)) 9 (fm_mI σ2 29).toNatClampNeg ((fm_aI σ2 9 (fm_mI σ2 29).toNatClampNeg) + 1))  hI61 c100) ⟨callB_of 0 hts (fb_good fm_Md_move) rfl rfl rfl (hts _ (List.mem_cons_of_mem _ fq_6)) (hts _ (List.mem_cons_of_mem _ fq_709)) (by decide +kernel) ⟨Nat.le_of_ble_eq_true rfl, Nat.le_of_ble_eq_true rfl⟩, (hts _ (List.mem_cons_of_mem _ fq_711)), (hts _ (List.mem_cons_of_mem _ fp_Md_move))⟩ (fm_preV hP hK hD hN (va_recv hK hP (ci := 5) (q0 := 0) rfl rfl)) rfl rfl hl.1 rfl (lv_room (Nat.le_of_ble_eq_true rfl)) fx_Md_go_303 ⟨Nat.le_of_ble_eq_true rfl, Nat.le_of_ble_eq_true rfl⟩) hD hS hA (fun H locs hP hD hS hI104 => ?_)
                                refine lv_goto (tgt := 6) hx hb fx_Md_go_306 (by decide) ?_
                                exact ih (fv_Md_move (fm_saI (fm_saI (fm_smI σ2 24 ((fm_mI σ2 24) + 1)) 8 (fm_mI σ2 29).toNatClampNeg ((fm_aI σ2 8 (fm_mI σ2 29).toNatClampNeg) + 1)) 9 (fm_mI σ2 29).toNatClampNeg ((fm_aI σ2 9 (fm_mI σ2 29).toNatClampNeg) + 1))) v2 (mv + 1) (fm_stepm hmv c103) hI104 (by rw [hc163, fv_Md_go_c163, if_pos c12, if_pos c62, if_pos c77, if_pos c93, if_pos c96, if_pos c100, if_neg c101, if_neg c102, if_neg c103, fd_or_r]) H locs hP hD hS ls (lv_sub hl [0, 2, 3, 4, 5, 6] rfl)
                              · refine lv_iconst (v := 5) hx hb fx_Md_go_297 (by decide) ?_
                                exact fm_iret (r := 5) (u := fm_saI (fm_saI (fm_smI σ2 24 ((fm_mI σ2 24) + 1)) 8 (fm_mI σ2 29).toNatClampNeg ((fm_aI σ2 8 (fm_mI σ2 29).toNatClampNeg) + 1)) 9 (fm_mI σ2 29).toNatClampNeg ((fm_aI σ2 9 (fm_mI σ2 29).toNatClampNeg) + 1)) hQ hx hb hr ⟨by rw [hc163, fv_Md_go_c163, if_pos c12, if_pos c62, if_pos c77, if_pos c93, if_pos c96, if_pos c100, if_neg c101, if_neg c102, if_pos c103, fd_or_l], hI61⟩ hP hD hS fx_Md_go_298 hlocks
                            · refine lv_aload_n hx hb fx_Md_go_284 rfl (lv_at hl 3 rfl) ?_
                              refine lv_iconst (v := 3) hx hb fx_Md_go_285 (by decide) ?_
                              refine fm_callvm (va_runV (As := [.int 3]) (rest := []) ⟨hx, hb, hml, hown, hts⟩ (fc_Md_answer l D ca am H.size (fm_saI (fm_saI (fm_smI σ2 24 ((fm_mI σ2 24) + 1)) 8 (fm_mI σ2 29).toNatClampNeg ((fm_aI σ2 8 (fm_mI σ2 29).toNatClampNeg) + 1)) 9 (fm_mI σ2 29).toNatClampNeg ((fm_aI σ2 9 (fm_mI σ2 29).toNatClampNeg) + 1)) 3 hI61 ) ⟨callB_of 1 hts (fb_good fm_Md_answer) rfl rfl rfl (hts _ (List.mem_cons_of_mem _ fq_6)) (hts _ (List.mem_cons_of_mem _ fq_705)) (by decide +kernel) ⟨Nat.le_of_ble_eq_true rfl, Nat.le_of_ble_eq_true rfl⟩, (hts _ (List.mem_cons_of_mem _ fq_707)), (hts _ (List.mem_cons_of_mem _ fp_Md_answer))⟩ (fm_preV hP hK hD hN (va_recv hK hP (ci := 5) (q0 := 0) rfl rfl)) rfl rfl hl.1 rfl (lv_room (Nat.le_of_ble_eq_true rfl)) fx_Md_go_286 ⟨Nat.le_of_ble_eq_true rfl, Nat.le_of_ble_eq_true rfl⟩) hD hS hA (fun H locs hP hD hS hI105 => ?_)
                              refine lv_iconst (v := 0) hx hb fx_Md_go_289 (by decide) ?_
                              exact fm_iret (r := 0) (u := (fv_Md_answer (fm_saI (fm_saI (fm_smI σ2 24 ((fm_mI σ2 24) + 1)) 8 (fm_mI σ2 29).toNatClampNeg ((fm_aI σ2 8 (fm_mI σ2 29).toNatClampNeg) + 1)) 9 (fm_mI σ2 29).toNatClampNeg ((fm_aI σ2 9 (fm_mI σ2 29).toNatClampNeg) + 1)) 3)) hQ hx hb hr ⟨by rw [hc163, fv_Md_go_c163, if_pos c12, if_pos c62, if_pos c77, if_pos c93, if_pos c96, if_pos c100, if_neg c101, if_pos c102, fd_or_l], hI105⟩ hP hD hS fx_Md_go_290 hlocks
                          · refine lv_iconst (v := 4) hx hb fx_Md_go_277 (by decide) ?_
                            exact fm_iret (r := 4) (u := fm_saI (fm_saI (fm_smI σ2 24 ((fm_mI σ2 24) + 1)) 8 (fm_mI σ2 29).toNatClampNeg ((fm_aI σ2 8 (fm_mI σ2 29).toNatClampNeg) + 1)) 9 (fm_mI σ2 29).toNatClampNeg ((fm_aI σ2 9 (fm_mI σ2 29).toNatClampNeg) + 1)) hQ hx hb hr ⟨by rw [hc163, fv_Md_go_c163, if_pos c12, if_pos c62, if_pos c77, if_pos c93, if_pos c96, if_pos c100, if_pos c101, fd_or_l], hI61⟩ hP hD hS fx_Md_go_278 hlocks
                        · refine lv_aload_n hx hb fx_Md_go_256 rfl (lv_at hl 3 rfl) ?_
                          refine lv_iload hx hb fx_Md_go_257 (lv_at hl 1 rfl) ?_
                          refine fd_ifeq (tgt := 266) hx hb fx_Md_go_259 (by decide) (fun c106 => absurd c62 c106) (fun _ => ?_)
                          refine lv_iload_n hx hb fx_Md_go_262 rfl (lv_at hl 4 rfl) ?_
                          refine lv_goto (tgt := 267) hx hb fx_Md_go_263 (by decide) ?_
                          refine fm_callvm (va_runV (As := [.int p1]) (rest := []) ⟨hx, hb, hml, hown, hts⟩ (fc_Md_answer l D ca am H.size (fm_saI (fm_saI (fm_smI σ2 24 ((fm_mI σ2 24) + 1)) 8 (fm_mI σ2 29).toNatClampNeg ((fm_aI σ2 8 (fm_mI σ2 29).toNatClampNeg) + 1)) 9 (fm_mI σ2 29).toNatClampNeg ((fm_aI σ2 9 (fm_mI σ2 29).toNatClampNeg) + 1)) p1 hI61 ) ⟨callB_of 1 hts (fb_good fm_Md_answer) rfl rfl rfl (hts _ (List.mem_cons_of_mem _ fq_6)) (hts _ (List.mem_cons_of_mem _ fq_705)) (by decide +kernel) ⟨Nat.le_of_ble_eq_true rfl, Nat.le_of_ble_eq_true rfl⟩, (hts _ (List.mem_cons_of_mem _ fq_707)), (hts _ (List.mem_cons_of_mem _ fp_Md_answer))⟩ (fm_preV hP hK hD hN (va_recv hK hP (ci := 5) (q0 := 0) rfl rfl)) rfl rfl hl.1 rfl (lv_room (Nat.le_of_ble_eq_true rfl)) fx_Md_go_267 ⟨Nat.le_of_ble_eq_true rfl, Nat.le_of_ble_eq_true rfl⟩) hD hS hA (fun H locs hP hD hS hI107 => ?_)
                          refine lv_iconst (v := 0) hx hb fx_Md_go_270 (by decide) ?_
                          exact fm_iret (r := 0) (u := (fv_Md_answer (fm_saI (fm_saI (fm_smI σ2 24 ((fm_mI σ2 24) + 1)) 8 (fm_mI σ2 29).toNatClampNeg ((fm_aI σ2 8 (fm_mI σ2 29).toNatClampNeg) + 1)) 9 (fm_mI σ2 29).toNatClampNeg ((fm_aI σ2 9 (fm_mI σ2 29).toNatClampNeg) + 1)) p1)) hQ hx hb hr ⟨by rw [hc163, fv_Md_go_c163, if_pos c12, if_pos c62, if_pos c77, if_pos c93, if_pos c96, if_neg c100, fd_or_l], hI107⟩ hP hD hS fx_Md_go_271 hlocks
                    · refine lv_iconst (v := 3) hx hb fx_Md_go_227 (by decide) ?_
                      exact fm_iret (r := 3) (u := fm_saI (fm_saI (fm_smI σ2 24 ((fm_mI σ2 24) + 1)) 8 (fm_mI σ2 29).toNatClampNeg ((fm_aI σ2 8 (fm_mI σ2 29).toNatClampNeg) + 1)) 9 (fm_mI σ2 29).toNatClampNeg ((fm_aI σ2 9 (fm_mI σ2 29).toNatClampNeg) + 1)) hQ hx hb hr ⟨by rw [hc163, fv_Md_go_c163, if_pos c12, if_pos c62, if_pos c77, if_neg c93, fd_or_l], hI61⟩ hP hD hS fx_Md_go_228 hlocks
            refine lv_iload hx hb fx_Md_go_78 (lv_at hl 0 rfl) ?_
            refine fd_ifeq (tgt := 89) hx hb fx_Md_go_80 (by decide) (fun c108 => ?_) (fun c108 => ?_)
            · refine lv_iload hx hb fx_Md_go_89 (lv_at hl 0 rfl) ?_
              refine fd_ifeq (tgt := 163) hx hb fx_Md_go_91 (by decide) (fun _ => ?_) (fun c109 => absurd c109 c108)
              exact hC163 (fm_saI (fm_smZ σ1 v3) 19 (1 : Int32).toNatClampNeg ((fm_aI σ1 19 (1 : Int32).toNatClampNeg) + 1)) H locs hP hD hS hI7 (by rw [hm6, fv_Md_go_l6, fv_Md_go_l6s, ← hv1, fv_Md_go_j1, ← hv2, fv_Md_go_j2, ← hv3, fv_Md_go_j3, if_neg c108]) ls (lv_sub hl [0, 2, 3, 4, 5, 6] rfl)
            · refine lv_iload_n hx hb fx_Md_go_83 rfl (lv_at hl 4 rfl) ?_
              refine lv_if_ne (tgt := 89) hx hb fx_Md_go_84 (by decide) (fun c110 => ?_) (fun c110 => ?_)
              · refine lv_iload hx hb fx_Md_go_89 (lv_at hl 0 rfl) ?_
                refine fd_ifeq (tgt := 163) hx hb fx_Md_go_91 (by decide) (fun c111 => absurd c108 c111) (fun _ => ?_)
                refine lv_iload_n hx hb fx_Md_go_94 rfl (lv_at hl 4 rfl) ?_
                refine lv_iconst (v := 1) hx hb fx_Md_go_95 (by decide) ?_
                refine lv_icmp_ne (tgt := 163) hx hb fx_Md_go_96 (by decide) (fun c112 => ?_) (fun c112 => ?_)
                · exact hC163 (fm_saI (fm_smZ σ1 v3) 19 (1 : Int32).toNatClampNeg ((fm_aI σ1 19 (1 : Int32).toNatClampNeg) + 1)) H locs hP hD hS hI7 (by rw [hm6, fv_Md_go_l6, fv_Md_go_l6s, ← hv1, fv_Md_go_j1, ← hv2, fv_Md_go_j2, ← hv3, fv_Md_go_j3, if_pos c108, if_neg c110, if_neg c112]) ls (lv_sub hl [0, 2, 3, 4, 5, 6] rfl)
                · refine lv_aload_n hx hb fx_Md_go_99 rfl (lv_at hl 3 rfl) ?_
                  refine va_get (D := D) (ci := 5) (v := .int (fm_mI σ1 30)) (C := fn_R_Md) (T := fn_T_Md) (N := 33) hx hb hts fn_j_Md hown hK hP 0 rfl rfl 30 (by decide) (hts _ (List.mem_cons_of_mem _ fq_557)) (fun _ h9 => h9) rfl fx_Md_go_100 ?_
                  refine fm_callz (va_runS (As := [.int (fm_mI σ1 30)]) (rest := []) ⟨hx, hb, hml, hown, hts⟩ (fc_Md_isSimple l D ca am H.size (fm_saI (fm_smZ σ1 v3) 19 (1 : Int32).toNatClampNeg ((fm_aI σ1 19 (1 : Int32).toNatClampNeg) + 1)) (fm_mI σ1 30) hI7 ) ⟨callB_of 1 hts (fb_good fm_Md_isSimple) rfl rfl rfl (hts _ (List.mem_cons_of_mem _ fq_6)) (hts _ (List.mem_cons_of_mem _ fq_670)) (by decide +kernel) ⟨Nat.le_of_ble_eq_true rfl, Nat.le_of_ble_eq_true rfl⟩, (hts _ (List.mem_cons_of_mem _ fq_671))⟩ (fm_preS hP hK hD hN) rfl rfl hl.1 rfl (lv_room (Nat.le_of_ble_eq_true rfl)) fx_Md_go_103 ⟨Nat.le_of_ble_eq_true rfl, Nat.le_of_ble_eq_true rfl⟩) hD hS hA (fun H locs hP hD hS => ?_)
                  refine fd_ifeq (tgt := 116) hx hb fx_Md_go_106 (by decide) (fun c114 => ?_) (fun c114 => ?_)
                  · refine lv_aload_n hx hb fx_Md_go_116 rfl (lv_at hl 3 rfl) ?_
                    refine fm_callz (va_runV (As := []) (rest := []) ⟨hx, hb, hml, hown, hts⟩ (fc_Md_isRemembered l D ca am H.size (fm_saI (fm_smZ σ1 v3) 19 (1 : Int32).toNatClampNeg ((fm_aI σ1 19 (1 : Int32).toNatClampNeg) + 1))  hI7 ) ⟨callB_of 0 hts (fb_good fm_Md_isRemembered) rfl rfl rfl (hts _ (List.mem_cons_of_mem _ fq_6)) (hts _ (List.mem_cons_of_mem _ fq_677)) (by decide +kernel) ⟨Nat.le_of_ble_eq_true rfl, Nat.le_of_ble_eq_true rfl⟩, (hts _ (List.mem_cons_of_mem _ fq_679)), (hts _ (List.mem_cons_of_mem _ fp_Md_isRemembered))⟩ (fm_preV hP hK hD hN (va_recv hK hP (ci := 5) (q0 := 0) rfl rfl)) rfl rfl hl.1 rfl (lv_room (Nat.le_of_ble_eq_true rfl)) fx_Md_go_117 ⟨Nat.le_of_ble_eq_true rfl, Nat.le_of_ble_eq_true rfl⟩) hD hS hA (fun H locs hP hD hS => ?_)
                    refine lv_istore (lv' := [(7, .int (fd_bi (fv_Md_isRemembered (fm_saI (fm_smZ σ1 v3) 19 (1 : Int32).toNatClampNeg ((fm_aI σ1 19 (1 : Int32).toNatClampNeg) + 1))))), (4, .int (fd_bi v2)), (6, .int (fd_bi v1)), (5, .int mv), (0, .ref (am 0)), (1, .int p1), (2, .int p2), (3, .int p3)]) hx hb fx_Md_go_120 hl (by decide) rfl (fun ls hl => ?_)
                    refine lv_iload hx hb fx_Md_go_122 (lv_at hl 0 rfl) ?_
                    refine fd_ifeq (tgt := 137) hx hb fx_Md_go_124 (by decide) (fun c116 => ?_) (fun c116 => ?_)
                    · refine lv_iload hx hb fx_Md_go_137 (lv_at hl 0 rfl) ?_
                      refine fd_ifne (tgt := 149) hx hb fx_Md_go_139 (by decide) (fun c117 => absurd c117 c116) (fun _ => ?_)
                      refine lv_aload_n hx hb fx_Md_go_142 rfl (lv_at hl 4 rfl) ?_
                      refine fm_callzm (va_runV (As := []) (rest := []) ⟨hx, hb, hml, hown, hts⟩ (fc_Md_ask l D ca am H.size (fm_saI (fm_smZ σ1 v3) 19 (1 : Int32).toNatClampNeg ((fm_aI σ1 19 (1 : Int32).toNatClampNeg) + 1))  hI7 ) ⟨callB_of 0 hts (fb_good fm_Md_ask) rfl rfl rfl (hts _ (List.mem_cons_of_mem _ fq_6)) (hts _ (List.mem_cons_of_mem _ fq_685)) (by decide +kernel) ⟨Nat.le_of_ble_eq_true rfl, Nat.le_of_ble_eq_true rfl⟩, (hts _ (List.mem_cons_of_mem _ fq_687)), (hts _ (List.mem_cons_of_mem _ fp_Md_ask))⟩ (fm_preV hP hK hD hN (va_recv hK hP (ci := 5) (q0 := 0) rfl rfl)) rfl rfl hl.1 rfl (lv_room (Nat.le_of_ble_eq_true rfl)) fx_Md_go_143 ⟨Nat.le_of_ble_eq_true rfl, Nat.le_of_ble_eq_true rfl⟩) hD hS hA (fun H locs hP hD hS hI118 => ?_)
                      have hJ119 : ∀ (H : Heap) (locs : List Loc), va_P D fn_cl (fm_w ca am ((fv_Md_ask (fm_saI (fm_smZ σ1 v3) 19 (1 : Int32).toNatClampNeg ((fm_aI σ1 19 (1 : Int32).toNatClampNeg) + 1))).2)) H → va_D A (fm_w ca am ((fv_Md_ask (fm_saI (fm_smZ σ1 v3) 19 (1 : Int32).toNatClampNeg ((fm_aI σ1 19 (1 : Int32).toNatClampNeg) + 1))).2)) → va_S A s.heap H locs → ∀ (v119 : Bool), v119 = (if ((fv_Md_ask (fm_saI (fm_smZ σ1 v3) 19 (1 : Int32).toNatClampNeg ((fm_aI σ1 19 (1 : Int32).toNatClampNeg) + 1))).1) = true then true else false) → W p l e ({ frames := 3, cells := 0, slots := 0, locals := 66 } : Room) s m args below meth c H locs 0 0 Q (F0 m 154 ls [.int (fd_bi v119)]) := by
                        intro H locs hP hD hS v119 hv119
                        refine lv_istore (lv' := [(8, .int (fd_bi v119)), (7, .int (fd_bi (fv_Md_isRemembered (fm_saI (fm_smZ σ1 v3) 19 (1 : Int32).toNatClampNeg ((fm_aI σ1 19 (1 : Int32).toNatClampNeg) + 1))))), (4, .int (fd_bi v2)), (6, .int (fd_bi v1)), (5, .int mv), (0, .ref (am 0)), (1, .int p1), (2, .int p2), (3, .int p3)]) hx hb fx_Md_go_154 hl (by decide) rfl (fun ls hl => ?_)
                        refine lv_iload hx hb fx_Md_go_156 (lv_at hl 0 rfl) ?_
                        refine fd_ifne (tgt := 163) hx hb fx_Md_go_158 (by decide) (fun c120 => ?_) (fun c120 => ?_)
                        · exact hC163 ((fv_Md_ask (fm_saI (fm_smZ σ1 v3) 19 (1 : Int32).toNatClampNeg ((fm_aI σ1 19 (1 : Int32).toNatClampNeg) + 1))).2) H locs hP hD hS hI118 (by rw [hm6, fv_Md_go_l6, fv_Md_go_l6s, ← hv1, fv_Md_go_j1, ← hv2, fv_Md_go_j2, ← hv3, fv_Md_go_j3, if_pos c108, if_neg c110, if_pos c112, if_neg c114, if_neg c116, ← hv119, fv_Md_go_j119, if_pos c120]) ls (lv_sub hl [2, 4, 5, 6, 7, 8] rfl)
                        · refine lv_iconst (v := 2) hx hb fx_Md_go_161 (by decide) ?_
                          exact fm_iret (r := 2) (u := (fv_Md_ask (fm_saI (fm_smZ σ1 v3) 19 (1 : Int32).toNatClampNeg ((fm_aI σ1 19 (1 : Int32).toNatClampNeg) + 1))).2) hQ hx hb hr ⟨by rw [hm6, fv_Md_go_l6, fv_Md_go_l6s, ← hv1, fv_Md_go_j1, ← hv2, fv_Md_go_j2, ← hv3, fv_Md_go_j3, if_pos c108, if_neg c110, if_pos c112, if_neg c114, if_neg c116, ← hv119, fv_Md_go_j119, if_neg c120, fd_or_l], hI118⟩ hP hD hS fx_Md_go_162 hlocks
                      refine fd_ifeq (tgt := 153) hx hb fx_Md_go_146 (by decide) (fun c121 => ?_) (fun c121 => ?_)
                      · refine lv_iconst (v := 0) hx hb fx_Md_go_153 (by decide) ?_
                        exact hJ119 H locs hP hD hS false (by rw [if_neg c121])
                      · refine lv_iconst (v := 1) hx hb fx_Md_go_149 (by decide) ?_
                        refine lv_goto (tgt := 154) hx hb fx_Md_go_150 (by decide) ?_
                        exact hJ119 H locs hP hD hS true (by rw [if_pos c121])
                    · refine lv_aload_n hx hb fx_Md_go_127 rfl (lv_at hl 4 rfl) ?_
                      refine lv_dup hx hb fx_Md_go_128 rfl ?_
                      refine va_get (D := D) (ci := 5) (v := .int (fm_mI σ1 26)) (C := fn_R_Md) (T := fn_T_Md) (N := 33) hx hb hts fn_j_Md hown hK hP 0 rfl rfl 26 (by decide) (hts _ (List.mem_cons_of_mem _ fq_553)) (fun _ h9 => h9) rfl fx_Md_go_129 ?_
                      refine lv_iconst (v := 1) hx hb fx_Md_go_132 (by decide) ?_
                      refine lv_iadd hx hb fx_Md_go_133 ?_
                      refine va_put (D := D) (ci := 5) (v := .int ((fm_mI σ1 26) + 1)) (ty := .int) (C := fn_R_Md) (T := fn_T_Md) (N := 33) hx hb hts fn_j_Md fn_t_Md fn_k_Md fn_n_Md hown hK hP hD hS 0 rfl rfl 26 (by decide) (hts _ (List.mem_cons_of_mem _ fq_553)) (fun _ h9 => h9) rfl (by decide +kernel) rfl rfl (Nat.le_of_ble_eq_true rfl) fx_Md_go_134 (fun H locs hP hD hS => ?_)
                      rw [fm_set_mI_26] at hP hD
                      have hI122 : fm_Inv (fm_smI (fm_saI (fm_smZ σ1 v3) 19 (1 : Int32).toNatClampNeg ((fm_aI σ1 19 (1 : Int32).toNatClampNeg) + 1)) 26 ((fm_mI σ1 26) + 1)) := fm_inv_smI (by decide) (by decide) hI7
                      refine lv_iload hx hb fx_Md_go_137 (lv_at hl 0 rfl) ?_
                      refine fd_ifne (tgt := 149) hx hb fx_Md_go_139 (by decide) (fun _ => ?_) (fun c123 => absurd c116 c123)
                      refine lv_iconst (v := 1) hx hb fx_Md_go_149 (by decide) ?_
                      refine lv_goto (tgt := 154) hx hb fx_Md_go_150 (by decide) ?_
                      refine lv_istore (lv' := [(8, .int 1), (7, .int (fd_bi (fv_Md_isRemembered (fm_saI (fm_smZ σ1 v3) 19 (1 : Int32).toNatClampNeg ((fm_aI σ1 19 (1 : Int32).toNatClampNeg) + 1))))), (4, .int (fd_bi v2)), (6, .int (fd_bi v1)), (5, .int mv), (0, .ref (am 0)), (1, .int p1), (2, .int p2), (3, .int p3)]) hx hb fx_Md_go_154 hl (by decide) rfl (fun ls hl => ?_)
                      refine lv_iload hx hb fx_Md_go_156 (lv_at hl 0 rfl) ?_
                      refine lv_if_ne (tgt := 163) hx hb fx_Md_go_158 (by decide) (fun _ => ?_) (fun c124 => absurd c124 (by decide))
                      exact hC163 (fm_smI (fm_saI (fm_smZ σ1 v3) 19 (1 : Int32).toNatClampNeg ((fm_aI σ1 19 (1 : Int32).toNatClampNeg) + 1)) 26 ((fm_mI σ1 26) + 1)) H locs hP hD hS hI122 (by rw [hm6, fv_Md_go_l6, fv_Md_go_l6s, ← hv1, fv_Md_go_j1, ← hv2, fv_Md_go_j2, ← hv3, fv_Md_go_j3, if_pos c108, if_neg c110, if_pos c112, if_neg c114, if_pos c116]) ls (lv_sub hl [2, 4, 5, 6, 7, 8] rfl)
                  · refine lv_aload_n hx hb fx_Md_go_109 rfl (lv_at hl 3 rfl) ?_
                    refine va_get (D := D) (ci := 5) (v := .int (fm_mI σ1 31)) (C := fn_R_Md) (T := fn_T_Md) (N := 33) hx hb hts fn_j_Md hown hK hP 0 rfl rfl 31 (by decide) (hts _ (List.mem_cons_of_mem _ fq_558)) (fun _ h9 => h9) rfl fx_Md_go_110 ?_
                    refine lv_if_eq (tgt := 163) hx hb fx_Md_go_113 (by decide) (fun c125 => ?_) (fun c125 => ?_)
                    · exact hC163 (fm_saI (fm_smZ σ1 v3) 19 (1 : Int32).toNatClampNeg ((fm_aI σ1 19 (1 : Int32).toNatClampNeg) + 1)) H locs hP hD hS hI7 (by rw [hm6, fv_Md_go_l6, fv_Md_go_l6s, ← hv1, fv_Md_go_j1, ← hv2, fv_Md_go_j2, ← hv3, fv_Md_go_j3, if_pos c108, if_neg c110, if_pos c112, if_pos c114, if_pos c125]) ls (lv_sub hl [0, 2, 3, 4, 5, 6] rfl)
                    · refine lv_aload_n hx hb fx_Md_go_116 rfl (lv_at hl 3 rfl) ?_
                      refine fm_callz (va_runV (As := []) (rest := []) ⟨hx, hb, hml, hown, hts⟩ (fc_Md_isRemembered l D ca am H.size (fm_saI (fm_smZ σ1 v3) 19 (1 : Int32).toNatClampNeg ((fm_aI σ1 19 (1 : Int32).toNatClampNeg) + 1))  hI7 ) ⟨callB_of 0 hts (fb_good fm_Md_isRemembered) rfl rfl rfl (hts _ (List.mem_cons_of_mem _ fq_6)) (hts _ (List.mem_cons_of_mem _ fq_677)) (by decide +kernel) ⟨Nat.le_of_ble_eq_true rfl, Nat.le_of_ble_eq_true rfl⟩, (hts _ (List.mem_cons_of_mem _ fq_679)), (hts _ (List.mem_cons_of_mem _ fp_Md_isRemembered))⟩ (fm_preV hP hK hD hN (va_recv hK hP (ci := 5) (q0 := 0) rfl rfl)) rfl rfl hl.1 rfl (lv_room (Nat.le_of_ble_eq_true rfl)) fx_Md_go_117 ⟨Nat.le_of_ble_eq_true rfl, Nat.le_of_ble_eq_true rfl⟩) hD hS hA (fun H locs hP hD hS => ?_)
                      refine lv_istore (lv' := [(7, .int (fd_bi (fv_Md_isRemembered (fm_saI (fm_smZ σ1 v3) 19 (1 : Int32).toNatClampNeg ((fm_aI σ1 19 (1 : Int32).toNatClampNeg) + 1))))), (4, .int (fd_bi v2)), (6, .int (fd_bi v1)), (5, .int mv), (0, .ref (am 0)), (1, .int p1), (2, .int p2), (3, .int p3)]) hx hb fx_Md_go_120 hl (by decide) rfl (fun ls hl => ?_)
                      refine lv_iload hx hb fx_Md_go_122 (lv_at hl 0 rfl) ?_
                      refine fd_ifeq (tgt := 137) hx hb fx_Md_go_124 (by decide) (fun c127 => ?_) (fun c127 => ?_)
                      · refine lv_iload hx hb fx_Md_go_137 (lv_at hl 0 rfl) ?_
                        refine fd_ifne (tgt := 149) hx hb fx_Md_go_139 (by decide) (fun c128 => absurd c128 c127) (fun _ => ?_)
                        refine lv_aload_n hx hb fx_Md_go_142 rfl (lv_at hl 4 rfl) ?_
                        refine fm_callzm (va_runV (As := []) (rest := []) ⟨hx, hb, hml, hown, hts⟩ (fc_Md_ask l D ca am H.size (fm_saI (fm_smZ σ1 v3) 19 (1 : Int32).toNatClampNeg ((fm_aI σ1 19 (1 : Int32).toNatClampNeg) + 1))  hI7 ) ⟨callB_of 0 hts (fb_good fm_Md_ask) rfl rfl rfl (hts _ (List.mem_cons_of_mem _ fq_6)) (hts _ (List.mem_cons_of_mem _ fq_685)) (by decide +kernel) ⟨Nat.le_of_ble_eq_true rfl, Nat.le_of_ble_eq_true rfl⟩, (hts _ (List.mem_cons_of_mem _ fq_687)), (hts _ (List.mem_cons_of_mem _ fp_Md_ask))⟩ (fm_preV hP hK hD hN (va_recv hK hP (ci := 5) (q0 := 0) rfl rfl)) rfl rfl hl.1 rfl (lv_room (Nat.le_of_ble_eq_true rfl)) fx_Md_go_143 ⟨Nat.le_of_ble_eq_true rfl, Nat.le_of_ble_eq_true rfl⟩) hD hS hA (fun H locs hP hD hS hI129 => ?_)
                        have hJ130 : ∀ (H : Heap) (locs : List Loc), va_P D fn_cl (fm_w ca am ((fv_Md_ask (fm_saI (fm_smZ σ1 v3) 19 (1 : Int32).toNatClampNeg ((fm_aI σ1 19 (1 : Int32).toNatClampNeg) + 1))).2)) H → va_D A (fm_w ca am ((fv_Md_ask (fm_saI (fm_smZ σ1 v3) 19 (1 : Int32).toNatClampNeg ((fm_aI σ1 19 (1 : Int32).toNatClampNeg) + 1))).2)) → va_S A s.heap H locs → ∀ (v130 : Bool), v130 = (if ((fv_Md_ask (fm_saI (fm_smZ σ1 v3) 19 (1 : Int32).toNatClampNeg ((fm_aI σ1 19 (1 : Int32).toNatClampNeg) + 1))).1) = true then true else false) → W p l e ({ frames := 3, cells := 0, slots := 0, locals := 66 } : Room) s m args below meth c H locs 0 0 Q (F0 m 154 ls [.int (fd_bi v130)]) := by
                          intro H locs hP hD hS v130 hv130
                          refine lv_istore (lv' := [(8, .int (fd_bi v130)), (7, .int (fd_bi (fv_Md_isRemembered (fm_saI (fm_smZ σ1 v3) 19 (1 : Int32).toNatClampNeg ((fm_aI σ1 19 (1 : Int32).toNatClampNeg) + 1))))), (4, .int (fd_bi v2)), (6, .int (fd_bi v1)), (5, .int mv), (0, .ref (am 0)), (1, .int p1), (2, .int p2), (3, .int p3)]) hx hb fx_Md_go_154 hl (by decide) rfl (fun ls hl => ?_)
                          refine lv_iload hx hb fx_Md_go_156 (lv_at hl 0 rfl) ?_
                          refine fd_ifne (tgt := 163) hx hb fx_Md_go_158 (by decide) (fun c131 => ?_) (fun c131 => ?_)
                          · exact hC163 ((fv_Md_ask (fm_saI (fm_smZ σ1 v3) 19 (1 : Int32).toNatClampNeg ((fm_aI σ1 19 (1 : Int32).toNatClampNeg) + 1))).2) H locs hP hD hS hI129 (by rw [hm6, fv_Md_go_l6, fv_Md_go_l6s, ← hv1, fv_Md_go_j1, ← hv2, fv_Md_go_j2, ← hv3, fv_Md_go_j3, if_pos c108, if_neg c110, if_pos c112, if_pos c114, if_neg c125, if_neg c127, ← hv130, fv_Md_go_j130, if_pos c131]) ls (lv_sub hl [2, 4, 5, 6, 7, 8] rfl)
                          · refine lv_iconst (v := 2) hx hb fx_Md_go_161 (by decide) ?_
                            exact fm_iret (r := 2) (u := (fv_Md_ask (fm_saI (fm_smZ σ1 v3) 19 (1 : Int32).toNatClampNeg ((fm_aI σ1 19 (1 : Int32).toNatClampNeg) + 1))).2) hQ hx hb hr ⟨by rw [hm6, fv_Md_go_l6, fv_Md_go_l6s, ← hv1, fv_Md_go_j1, ← hv2, fv_Md_go_j2, ← hv3, fv_Md_go_j3, if_pos c108, if_neg c110, if_pos c112, if_pos c114, if_neg c125, if_neg c127, ← hv130, fv_Md_go_j130, if_neg c131, fd_or_l], hI129⟩ hP hD hS fx_Md_go_162 hlocks
                        refine fd_ifeq (tgt := 153) hx hb fx_Md_go_146 (by decide) (fun c132 => ?_) (fun c132 => ?_)
                        · refine lv_iconst (v := 0) hx hb fx_Md_go_153 (by decide) ?_
                          exact hJ130 H locs hP hD hS false (by rw [if_neg c132])
                        · refine lv_iconst (v := 1) hx hb fx_Md_go_149 (by decide) ?_
                          refine lv_goto (tgt := 154) hx hb fx_Md_go_150 (by decide) ?_
                          exact hJ130 H locs hP hD hS true (by rw [if_pos c132])
                      · refine lv_aload_n hx hb fx_Md_go_127 rfl (lv_at hl 4 rfl) ?_
                        refine lv_dup hx hb fx_Md_go_128 rfl ?_
                        refine va_get (D := D) (ci := 5) (v := .int (fm_mI σ1 26)) (C := fn_R_Md) (T := fn_T_Md) (N := 33) hx hb hts fn_j_Md hown hK hP 0 rfl rfl 26 (by decide) (hts _ (List.mem_cons_of_mem _ fq_553)) (fun _ h9 => h9) rfl fx_Md_go_129 ?_
                        refine lv_iconst (v := 1) hx hb fx_Md_go_132 (by decide) ?_
                        refine lv_iadd hx hb fx_Md_go_133 ?_
                        refine va_put (D := D) (ci := 5) (v := .int ((fm_mI σ1 26) + 1)) (ty := .int) (C := fn_R_Md) (T := fn_T_Md) (N := 33) hx hb hts fn_j_Md fn_t_Md fn_k_Md fn_n_Md hown hK hP hD hS 0 rfl rfl 26 (by decide) (hts _ (List.mem_cons_of_mem _ fq_553)) (fun _ h9 => h9) rfl (by decide +kernel) rfl rfl (Nat.le_of_ble_eq_true rfl) fx_Md_go_134 (fun H locs hP hD hS => ?_)
                        rw [fm_set_mI_26] at hP hD
                        have hI133 : fm_Inv (fm_smI (fm_saI (fm_smZ σ1 v3) 19 (1 : Int32).toNatClampNeg ((fm_aI σ1 19 (1 : Int32).toNatClampNeg) + 1)) 26 ((fm_mI σ1 26) + 1)) := fm_inv_smI (by decide) (by decide) hI7
                        refine lv_iload hx hb fx_Md_go_137 (lv_at hl 0 rfl) ?_
                        refine fd_ifne (tgt := 149) hx hb fx_Md_go_139 (by decide) (fun _ => ?_) (fun c134 => absurd c127 c134)
                        refine lv_iconst (v := 1) hx hb fx_Md_go_149 (by decide) ?_
                        refine lv_goto (tgt := 154) hx hb fx_Md_go_150 (by decide) ?_
                        refine lv_istore (lv' := [(8, .int 1), (7, .int (fd_bi (fv_Md_isRemembered (fm_saI (fm_smZ σ1 v3) 19 (1 : Int32).toNatClampNeg ((fm_aI σ1 19 (1 : Int32).toNatClampNeg) + 1))))), (4, .int (fd_bi v2)), (6, .int (fd_bi v1)), (5, .int mv), (0, .ref (am 0)), (1, .int p1), (2, .int p2), (3, .int p3)]) hx hb fx_Md_go_154 hl (by decide) rfl (fun ls hl => ?_)
                        refine lv_iload hx hb fx_Md_go_156 (lv_at hl 0 rfl) ?_
                        refine lv_if_ne (tgt := 163) hx hb fx_Md_go_158 (by decide) (fun _ => ?_) (fun c135 => absurd c135 (by decide))
                        exact hC163 (fm_smI (fm_saI (fm_smZ σ1 v3) 19 (1 : Int32).toNatClampNeg ((fm_aI σ1 19 (1 : Int32).toNatClampNeg) + 1)) 26 ((fm_mI σ1 26) + 1)) H locs hP hD hS hI133 (by rw [hm6, fv_Md_go_l6, fv_Md_go_l6s, ← hv1, fv_Md_go_j1, ← hv2, fv_Md_go_j2, ← hv3, fv_Md_go_j3, if_pos c108, if_neg c110, if_pos c112, if_pos c114, if_neg c125, if_pos c127]) ls (lv_sub hl [2, 4, 5, 6, 7, 8] rfl)
              · refine lv_iconst (v := 1) hx hb fx_Md_go_87 (by decide) ?_
                exact fm_iret (r := 1) (u := fm_saI (fm_smZ σ1 v3) 19 (1 : Int32).toNatClampNeg ((fm_aI σ1 19 (1 : Int32).toNatClampNeg) + 1)) hQ hx hb hr ⟨by rw [hm6, fv_Md_go_l6, fv_Md_go_l6s, ← hv1, fv_Md_go_j1, ← hv2, fv_Md_go_j2, ← hv3, fv_Md_go_j3, if_pos c108, if_pos c110, fd_or_l], hI7⟩ hP hD hS fx_Md_go_88 hlocks
          refine lv_icmp_eq (tgt := 60) hx hb fx_Md_go_47 (by decide) (fun c136 => ?_) (fun c136 => ?_)
          · refine lv_iconst (v := 1) hx hb fx_Md_go_60 (by decide) ?_
            refine lv_goto (tgt := 65) hx hb fx_Md_go_61 (by decide) ?_
            exact hJ3 H locs hP hD hS true (by rw [if_pos c136])
          · refine lv_iload_n hx hb fx_Md_go_50 rfl (lv_at hl 5 rfl) ?_
            refine lv_iconst (v := 1) hx hb fx_Md_go_51 (by decide) ?_
            refine lv_icmp_ne (tgt := 64) hx hb fx_Md_go_52 (by decide) (fun c137 => ?_) (fun c137 => ?_)
            · refine lv_iconst (v := 0) hx hb fx_Md_go_64 (by decide) ?_
              exact hJ3 H locs hP hD hS false (by rw [if_neg c136, if_neg c137])
            · refine lv_iload hx hb fx_Md_go_55 (lv_at hl 1 rfl) ?_
              refine fd_ifeq (tgt := 64) hx hb fx_Md_go_57 (by decide) (fun c138 => ?_) (fun c138 => ?_)
              · refine lv_iconst (v := 0) hx hb fx_Md_go_64 (by decide) ?_
                exact hJ3 H locs hP hD hS false (by rw [if_neg c136, if_pos c137, if_neg c138])
              · refine lv_iconst (v := 1) hx hb fx_Md_go_60 (by decide) ?_
                refine lv_goto (tgt := 65) hx hb fx_Md_go_61 (by decide) ?_
                exact hJ3 H locs hP hD hS true (by rw [if_neg c136, if_pos c137, if_pos c138])
        refine fd_ifne (tgt := 41) hx hb fx_Md_go_34 (by decide) (fun c139 => ?_) (fun c139 => ?_)
        · refine lv_iconst (v := 0) hx hb fx_Md_go_41 (by decide) ?_
          exact hJ2 H locs hP hD hS false (by rw [if_pos c139])
        · refine lv_iconst (v := 1) hx hb fx_Md_go_37 (by decide) ?_
          refine lv_goto (tgt := 42) hx hb fx_Md_go_38 (by decide) ?_
          exact hJ2 H locs hP hD hS true (by rw [if_neg c139])
      refine lv_icmp_ne (tgt := 29) hx hb fx_Md_go_17 (by decide) (fun c140 => ?_) (fun c140 => ?_)
      · refine lv_iconst (v := 0) hx hb fx_Md_go_29 (by decide) ?_
        exact hJ1 H locs hP hD hS false (by rw [if_neg c140])
      · refine lv_iload hx hb fx_Md_go_20 (lv_at hl 1 rfl) ?_
        refine fd_ifne (tgt := 29) hx hb fx_Md_go_22 (by decide) (fun c141 => ?_) (fun c141 => ?_)
        · refine lv_iconst (v := 0) hx hb fx_Md_go_29 (by decide) ?_
          exact hJ1 H locs hP hD hS false (by rw [if_pos c140, if_pos c141])
        · refine lv_iconst (v := 1) hx hb fx_Md_go_25 (by decide) ?_
          refine lv_goto (tgt := 30) hx hb fx_Md_go_26 (by decide) ?_
          exact hJ1 H locs hP hD hS true (by rw [if_pos c140, if_neg c141])
  exact hL6 5 σ false 0 (⟨0, by decide, by decide, rfl⟩) hI (by rw [fv_Md_go]) H locs hP hD hS ls (lv_sub hl [0, 1, 2, 3, 4, 5] rfl)
