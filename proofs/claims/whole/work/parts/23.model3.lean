/-! the model: forget, isRemembered -/
def fv_Md_forget_l12 : Nat → FMS → Int32 → FMS → Int32 → FMS
  | 0 , σ , p1 , σ1 , i => σ
  | n + 1 , σ , p1 , σ1 , i => if (fm_mI σ1 21) ≤ i then σ1 else fv_Md_forget_l12 n σ p1 (fm_saD (fm_saI (fm_saI (fm_saZ (fm_saI (fm_saI σ1 15 i.toNatClampNeg (fm_aI σ1 15 (i + 1).toNatClampNeg)) 16 i.toNatClampNeg (fm_aI σ1 16 (i + 1).toNatClampNeg)) 12 i.toNatClampNeg (fm_aZ σ1 12 (i + 1).toNatClampNeg)) 17 i.toNatClampNeg (fm_aI σ1 17 (i + 1).toNatClampNeg)) 18 i.toNatClampNeg (fm_aI σ1 18 (i + 1).toNatClampNeg)) 14 i.toNatClampNeg (fm_aD σ1 14 (i + 1).toNatClampNeg)) (i + 1)
def fv_Md_forget (σ : FMS) (p1 : Int32) : FMS := fv_Md_forget_l12 7 σ p1 (fm_smI σ 21 ((fm_mI σ 21) - 1)) p1
set_option maxHeartbeats 4000000 in
set_option maxRecDepth 100000 in
theorem fc_Md_forget (l : Launch) (D : va_G) (ca : Nat → ClassId) (am : Nat → Nat) (sz : Nat) (σ : FMS) (p1 : Int32) (hI : fm_Inv σ) (hp : ∃ k : Nat, k < 6 ∧ p1 = nI k) (hz : ∃ n : Nat, n < 6 ∧ fm_mI σ 21 = nI (n + 1)) : Met l fy_Md_forget (fw_Md_forget :: fb_tbl) ({ frames := 0, cells := 0, slots := 0, locals := 0 } : Room) (fm_Pc D ca am [.ref (am 0), .int p1] σ sz) ((fun A => va_Qv (fun u : FMS => fv_Md_forget σ p1 = u ∧ fm_Inv u) (fm_B D ca am A) A) (va_A (fm_w ca am σ) sz)) 0 0 (va_A (fm_w ca am σ) sz) := by
  refine fm_ofW (cc := fb_Md_forget) (maxL := 3) (ret := none) (Qf := fun A => va_Qv (fun u : FMS => fv_Md_forget σ p1 = u ∧ fm_Inv u) (fm_B D ca am A) A) (by decide) (Nat.le_of_ble_eq_true rfl) ?_
  intro p e s m args below meth c A Q hQ hx hb hr hts hown hlocks hml hP hK hD hS hA hN ls hl
  have hown : s.vm.findClass fn_R_Md = some m.cls := hown
  have hl : lv_has ls 3 [(0, .ref (am 0)), (1, .int p1)] := hl
  suffices hgo : ∀ (H : Heap) (locs : List Loc), va_P D fn_cl (fm_w ca am σ) H → va_D A (fm_w ca am σ) → va_S A s.heap H locs → W p l e ({ frames := 0, cells := 0, slots := 0, locals := 0 } : Room) s m args below meth c H locs 0 0 Q (F0 m 0 ls []) from hgo _ _ hP hD hS
  clear hP hD hS
  intro H locs hP hD hS
  refine lv_aload_n hx hb fx_Md_forget_0 rfl (lv_at hl 0 rfl) ?_
  refine lv_dup hx hb fx_Md_forget_1 rfl ?_
  refine va_get (D := D) (ci := 5) (v := .int (fm_mI σ 21)) (C := fn_R_Md) (T := fn_T_Md) (N := 33) hx hb hts fn_j_Md hown hK hP 0 rfl rfl 21 (by decide) (hts _ (List.mem_cons_of_mem _ fq_548)) (fun _ h9 => h9) rfl fx_Md_forget_2 ?_
  refine lv_iconst (v := 1) hx hb fx_Md_forget_5 (by decide) ?_
  refine lv_isub hx hb fx_Md_forget_6 ?_
  refine va_put (D := D) (ci := 5) (v := .int ((fm_mI σ 21) - 1)) (ty := .int) (C := fn_R_Md) (T := fn_T_Md) (N := 33) hx hb hts fn_j_Md fn_t_Md fn_k_Md fn_n_Md hown hK hP hD hS 0 rfl rfl 21 (by decide) (hts _ (List.mem_cons_of_mem _ fq_548)) (fun _ h9 => h9) rfl (by decide +kernel) rfl rfl (Nat.le_of_ble_eq_true rfl) fx_Md_forget_7 (fun H locs hP hD hS => ?_)
  rw [fm_set_mI_21] at hP hD
  have hI1 : fm_Inv (fm_smI σ 21 ((fm_mI σ 21) - 1)) := fm_inv_kept (fd_le6 (fd_dec hz rfl)) hI
  refine lv_iload_n hx hb fx_Md_forget_10 rfl (lv_at hl 1 rfl) ?_
  refine lv_istore_n (lv' := [(2, .int p1), (0, .ref (am 0)), (1, .int p1)]) hx hb fx_Md_forget_11 rfl hl (by decide) rfl (fun ls hl => ?_)
  have hL12 : ∀ (n : Nat) (σ1 : FMS) (i : Int32), (∃ k : Nat, k ≤ 6 ∧ 7 ≤ n + k ∧ i = nI k) → fm_Inv σ1 → fv_Md_forget σ p1 = fv_Md_forget_l12 n σ p1 σ1 i → ∀ (H : Heap) (locs : List Loc), va_P D fn_cl (fm_w ca am σ1) H → va_D A (fm_w ca am σ1) → va_S A s.heap H locs → ∀ (ls : Array Slot), lv_has ls 3 [(2, .int i), (0, .ref (am 0)), (1, .int p1)] → W p l e ({ frames := 0, cells := 0, slots := 0, locals := 0 } : Room) s m args below meth c H locs 0 0 Q (F0 m 12 ls []) := by
    intro n
    induction n with
    | zero =>
      intro σ1 i hi
      obtain ⟨k, h1, h2, -⟩ := hi; omega
    | succ n ih =>
      intro σ1 i hi hI12 hm12 H locs hP hD hS ls hl
      refine lv_iload_n hx hb fx_Md_forget_12 rfl (lv_at hl 0 rfl) ?_
      refine lv_aload_n hx hb fx_Md_forget_13 rfl (lv_at hl 1 rfl) ?_
      refine va_get (D := D) (ci := 5) (v := .int (fm_mI σ1 21)) (C := fn_R_Md) (T := fn_T_Md) (N := 33) hx hb hts fn_j_Md hown hK hP 0 rfl rfl 21 (by decide) (hts _ (List.mem_cons_of_mem _ fq_548)) (fun _ h9 => h9) rfl fx_Md_forget_14 ?_
      refine lv_icmp_ge (tgt := 110) hx hb fx_Md_forget_17 (by decide) (fun c2 => ?_) (fun c2 => ?_)
      · exact fm_vret (u := σ1) hQ hx hb hr ⟨by rw [hm12, fv_Md_forget_l12, if_pos c2], hI12⟩ hP hD hS fx_Md_forget_110 hlocks
      · refine lv_aload_n hx hb fx_Md_forget_20 rfl (lv_at hl 1 rfl) ?_
        refine va_get (D := D) (ci := 5) (v := .ref (am 16)) (C := fn_R_Md) (T := fn_T_Md) (N := 33) hx hb hts fn_j_Md hown hK hP 0 rfl rfl 15 (by decide) (hts _ (List.mem_cons_of_mem _ fq_542)) (fun _ h9 => h9) rfl fx_Md_forget_21 ?_
        refine lv_iload_n hx hb fx_Md_forget_24 rfl (lv_at hl 0 rfl) ?_
        refine lv_aload_n hx hb fx_Md_forget_25 rfl (lv_at hl 1 rfl) ?_
        refine va_get (D := D) (ci := 5) (v := .ref (am 16)) (C := fn_R_Md) (T := fn_T_Md) (N := 33) hx hb hts fn_j_Md hown hK hP 0 rfl rfl 15 (by decide) (hts _ (List.mem_cons_of_mem _ fq_542)) (fun _ h9 => h9) rfl fx_Md_forget_26 ?_
        refine lv_iload_n hx hb fx_Md_forget_29 rfl (lv_at hl 0 rfl) ?_
        refine lv_iconst (v := 1) hx hb fx_Md_forget_30 (by decide) ?_
        refine lv_iadd hx hb fx_Md_forget_31 ?_
        have hb3 : vp_in (i + 1) 7 := fm_idx1 hI12 hi c2
        refine va_iald (D := D) hx hb hK hP 16 15 rfl rfl hb3 fx_Md_forget_32 ?_
        refine W.eq (g2 := F0 m 33 ls (.int (fm_aI σ1 15 (i + 1).toNatClampNeg) :: [.int i, .ref (am 16)])) rfl ?_
        have hb4 : vp_in i 7 := fm_idx hI12 hi c2
        refine va_iast (D := D) (x := fm_aI σ1 15 (i + 1).toNatClampNeg) hx hb hK hP hD hS 16 15 rfl rfl hb4 fx_Md_forget_33 (fun H locs hP hD hS => ?_)
        rw [fm_set_a_15] at hP hD
        have hI5 : fm_Inv (fm_saI σ1 15 i.toNatClampNeg (fm_aI σ1 15 (i + 1).toNatClampNeg)) := fm_inv_saI (by decide) hI12
        refine lv_aload_n hx hb fx_Md_forget_34 rfl (lv_at hl 1 rfl) ?_
        refine va_get (D := D) (ci := 5) (v := .ref (am 17)) (C := fn_R_Md) (T := fn_T_Md) (N := 33) hx hb hts fn_j_Md hown hK hP 0 rfl rfl 16 (by decide) (hts _ (List.mem_cons_of_mem _ fq_543)) (fun _ h9 => h9) rfl fx_Md_forget_35 ?_
        refine lv_iload_n hx hb fx_Md_forget_38 rfl (lv_at hl 0 rfl) ?_
        refine lv_aload_n hx hb fx_Md_forget_39 rfl (lv_at hl 1 rfl) ?_
        refine va_get (D := D) (ci := 5) (v := .ref (am 17)) (C := fn_R_Md) (T := fn_T_Md) (N := 33) hx hb hts fn_j_Md hown hK hP 0 rfl rfl 16 (by decide) (hts _ (List.mem_cons_of_mem _ fq_543)) (fun _ h9 => h9) rfl fx_Md_forget_40 ?_
        refine lv_iload_n hx hb fx_Md_forget_43 rfl (lv_at hl 0 rfl) ?_
        refine lv_iconst (v := 1) hx hb fx_Md_forget_44 (by decide) ?_
        refine lv_iadd hx hb fx_Md_forget_45 ?_
        have hb6 : vp_in (i + 1) 7 := fm_idx1 hI12 hi c2
        refine va_iald (D := D) hx hb hK hP 17 16 rfl rfl hb6 fx_Md_forget_46 ?_
        refine W.eq (g2 := F0 m 47 ls (.int (fm_aI σ1 16 (i + 1).toNatClampNeg) :: [.int i, .ref (am 17)])) rfl ?_
        have hb7 : vp_in i 7 := fm_idx hI12 hi c2
        refine va_iast (D := D) (x := fm_aI σ1 16 (i + 1).toNatClampNeg) hx hb hK hP hD hS 17 16 rfl rfl hb7 fx_Md_forget_47 (fun H locs hP hD hS => ?_)
        rw [fm_set_a_16] at hP hD
        have hI8 : fm_Inv (fm_saI (fm_saI σ1 15 i.toNatClampNeg (fm_aI σ1 15 (i + 1).toNatClampNeg)) 16 i.toNatClampNeg (fm_aI σ1 16 (i + 1).toNatClampNeg)) := fm_inv_saI (by decide) hI5
        refine lv_aload_n hx hb fx_Md_forget_48 rfl (lv_at hl 1 rfl) ?_
        refine va_get (D := D) (ci := 5) (v := .ref (am 13)) (C := fn_R_Md) (T := fn_T_Md) (N := 33) hx hb hts fn_j_Md hown hK hP 0 rfl rfl 12 (by decide) (hts _ (List.mem_cons_of_mem _ fq_539)) (fun _ h9 => h9) rfl fx_Md_forget_49 ?_
        refine lv_iload_n hx hb fx_Md_forget_52 rfl (lv_at hl 0 rfl) ?_
        refine lv_aload_n hx hb fx_Md_forget_53 rfl (lv_at hl 1 rfl) ?_
        refine va_get (D := D) (ci := 5) (v := .ref (am 13)) (C := fn_R_Md) (T := fn_T_Md) (N := 33) hx hb hts fn_j_Md hown hK hP 0 rfl rfl 12 (by decide) (hts _ (List.mem_cons_of_mem _ fq_539)) (fun _ h9 => h9) rfl fx_Md_forget_54 ?_
        refine lv_iload_n hx hb fx_Md_forget_57 rfl (lv_at hl 0 rfl) ?_
        refine lv_iconst (v := 1) hx hb fx_Md_forget_58 (by decide) ?_
        refine lv_iadd hx hb fx_Md_forget_59 ?_
        have hb9 : vp_in (i + 1) 7 := fm_idx1 hI12 hi c2
        refine va_zald (D := D) hx hb hK hP 13 12 rfl rfl hb9 fx_Md_forget_60 ?_
        refine W.eq (g2 := F0 m 61 ls (.int (fd_bi (fm_aZ σ1 12 (i + 1).toNatClampNeg)) :: [.int i, .ref (am 13)])) rfl ?_
        have hb10 : vp_in i 7 := fm_idx hI12 hi c2
        refine va_zast (D := D) (x := fd_bi (fm_aZ σ1 12 (i + 1).toNatClampNeg)) hx hb hK hP hD hS 13 12 rfl rfl hb10 fx_Md_forget_61 (fun H locs hP hD hS => ?_)
        rw [fm_set_a_12] at hP hD
        have hI11 : fm_Inv (fm_saZ (fm_saI (fm_saI σ1 15 i.toNatClampNeg (fm_aI σ1 15 (i + 1).toNatClampNeg)) 16 i.toNatClampNeg (fm_aI σ1 16 (i + 1).toNatClampNeg)) 12 i.toNatClampNeg (fm_aZ σ1 12 (i + 1).toNatClampNeg)) := fm_inv_saZ hI8
        refine lv_aload_n hx hb fx_Md_forget_62 rfl (lv_at hl 1 rfl) ?_
        refine va_get (D := D) (ci := 5) (v := .ref (am 18)) (C := fn_R_Md) (T := fn_T_Md) (N := 33) hx hb hts fn_j_Md hown hK hP 0 rfl rfl 17 (by decide) (hts _ (List.mem_cons_of_mem _ fq_544)) (fun _ h9 => h9) rfl fx_Md_forget_63 ?_
        refine lv_iload_n hx hb fx_Md_forget_66 rfl (lv_at hl 0 rfl) ?_
        refine lv_aload_n hx hb fx_Md_forget_67 rfl (lv_at hl 1 rfl) ?_
        refine va_get (D := D) (ci := 5) (v := .ref (am 18)) (C := fn_R_Md) (T := fn_T_Md) (N := 33) hx hb hts fn_j_Md hown hK hP 0 rfl rfl 17 (by decide) (hts _ (List.mem_cons_of_mem _ fq_544)) (fun _ h9 => h9) rfl fx_Md_forget_68 ?_
        refine lv_iload_n hx hb fx_Md_forget_71 rfl (lv_at hl 0 rfl) ?_
        refine lv_iconst (v := 1) hx hb fx_Md_forget_72 (by decide) ?_
        refine lv_iadd hx hb fx_Md_forget_73 ?_
        have hb12 : vp_in (i + 1) 7 := fm_idx1 hI12 hi c2
        refine va_iald (D := D) hx hb hK hP 18 17 rfl rfl hb12 fx_Md_forget_74 ?_
        refine W.eq (g2 := F0 m 75 ls (.int (fm_aI σ1 17 (i + 1).toNatClampNeg) :: [.int i, .ref (am 18)])) rfl ?_
        have hb13 : vp_in i 7 := fm_idx hI12 hi c2
        refine va_iast (D := D) (x := fm_aI σ1 17 (i + 1).toNatClampNeg) hx hb hK hP hD hS 18 17 rfl rfl hb13 fx_Md_forget_75 (fun H locs hP hD hS => ?_)
        rw [fm_set_a_17] at hP hD
        have hI14 : fm_Inv (fm_saI (fm_saZ (fm_saI (fm_saI σ1 15 i.toNatClampNeg (fm_aI σ1 15 (i + 1).toNatClampNeg)) 16 i.toNatClampNeg (fm_aI σ1 16 (i + 1).toNatClampNeg)) 12 i.toNatClampNeg (fm_aZ σ1 12 (i + 1).toNatClampNeg)) 17 i.toNatClampNeg (fm_aI σ1 17 (i + 1).toNatClampNeg)) := fm_inv_saI (by decide) hI11
        refine lv_aload_n hx hb fx_Md_forget_76 rfl (lv_at hl 1 rfl) ?_
        refine va_get (D := D) (ci := 5) (v := .ref (am 19)) (C := fn_R_Md) (T := fn_T_Md) (N := 33) hx hb hts fn_j_Md hown hK hP 0 rfl rfl 18 (by decide) (hts _ (List.mem_cons_of_mem _ fq_545)) (fun _ h9 => h9) rfl fx_Md_forget_77 ?_
        refine lv_iload_n hx hb fx_Md_forget_80 rfl (lv_at hl 0 rfl) ?_
        refine lv_aload_n hx hb fx_Md_forget_81 rfl (lv_at hl 1 rfl) ?_
        refine va_get (D := D) (ci := 5) (v := .ref (am 19)) (C := fn_R_Md) (T := fn_T_Md) (N := 33) hx hb hts fn_j_Md hown hK hP 0 rfl rfl 18 (by decide) (hts _ (List.mem_cons_of_mem _ fq_545)) (fun _ h9 => h9) rfl fx_Md_forget_82 ?_
        refine lv_iload_n hx hb fx_Md_forget_85 rfl (lv_at hl 0 rfl) ?_
        refine lv_iconst (v := 1) hx hb fx_Md_forget_86 (by decide) ?_
        refine lv_iadd hx hb fx_Md_forget_87 ?_
        have hb15 : vp_in (i + 1) 7 := fm_idx1 hI12 hi c2
        refine va_iald (D := D) hx hb hK hP 19 18 rfl rfl hb15 fx_Md_forget_88 ?_
        refine W.eq (g2 := F0 m 89 ls (.int (fm_aI σ1 18 (i + 1).toNatClampNeg) :: [.int i, .ref (am 19)])) rfl ?_
        have hb16 : vp_in i 7 := fm_idx hI12 hi c2
        refine va_iast (D := D) (x := fm_aI σ1 18 (i + 1).toNatClampNeg) hx hb hK hP hD hS 19 18 rfl rfl hb16 fx_Md_forget_89 (fun H locs hP hD hS => ?_)
        rw [fm_set_a_18] at hP hD
        have hI17 : fm_Inv (fm_saI (fm_saI (fm_saZ (fm_saI (fm_saI σ1 15 i.toNatClampNeg (fm_aI σ1 15 (i + 1).toNatClampNeg)) 16 i.toNatClampNeg (fm_aI σ1 16 (i + 1).toNatClampNeg)) 12 i.toNatClampNeg (fm_aZ σ1 12 (i + 1).toNatClampNeg)) 17 i.toNatClampNeg (fm_aI σ1 17 (i + 1).toNatClampNeg)) 18 i.toNatClampNeg (fm_aI σ1 18 (i + 1).toNatClampNeg)) := fm_inv_saI (by decide) hI14
        refine lv_aload_n hx hb fx_Md_forget_90 rfl (lv_at hl 1 rfl) ?_
        refine va_get (D := D) (ci := 5) (v := .ref (am 15)) (C := fn_R_Md) (T := fn_T_Md) (N := 33) hx hb hts fn_j_Md hown hK hP 0 rfl rfl 14 (by decide) (hts _ (List.mem_cons_of_mem _ fq_541)) (fun _ h9 => h9) rfl fx_Md_forget_91 ?_
        refine lv_iload_n hx hb fx_Md_forget_94 rfl (lv_at hl 0 rfl) ?_
        refine lv_aload_n hx hb fx_Md_forget_95 rfl (lv_at hl 1 rfl) ?_
        refine va_get (D := D) (ci := 5) (v := .ref (am 15)) (C := fn_R_Md) (T := fn_T_Md) (N := 33) hx hb hts fn_j_Md hown hK hP 0 rfl rfl 14 (by decide) (hts _ (List.mem_cons_of_mem _ fq_541)) (fun _ h9 => h9) rfl fx_Md_forget_96 ?_
        refine lv_iload_n hx hb fx_Md_forget_99 rfl (lv_at hl 0 rfl) ?_
        refine lv_iconst (v := 1) hx hb fx_Md_forget_100 (by decide) ?_
        refine lv_iadd hx hb fx_Md_forget_101 ?_
        have hb18 : vp_in (i + 1) 7 := fm_idx1 hI12 hi c2
        refine va_dald (D := D) hx hb hK hP 15 14 rfl rfl hb18 fx_Md_forget_102 ?_
        refine W.eq (g2 := F0 m 103 ls (.double (fm_aD σ1 14 (i + 1).toNatClampNeg) :: [.int i, .ref (am 15)])) rfl ?_
        have hb19 : vp_in i 7 := fm_idx hI12 hi c2
        refine va_dast (D := D) (x := fm_aD σ1 14 (i + 1).toNatClampNeg) hx hb hK hP hD hS 15 14 rfl rfl hb19 fx_Md_forget_103 (fun H locs hP hD hS => ?_)
        rw [fm_set_a_14] at hP hD
        have hI20 : fm_Inv (fm_saD (fm_saI (fm_saI (fm_saZ (fm_saI (fm_saI σ1 15 i.toNatClampNeg (fm_aI σ1 15 (i + 1).toNatClampNeg)) 16 i.toNatClampNeg (fm_aI σ1 16 (i + 1).toNatClampNeg)) 12 i.toNatClampNeg (fm_aZ σ1 12 (i + 1).toNatClampNeg)) 17 i.toNatClampNeg (fm_aI σ1 17 (i + 1).toNatClampNeg)) 18 i.toNatClampNeg (fm_aI σ1 18 (i + 1).toNatClampNeg)) 14 i.toNatClampNeg (fm_aD σ1 14 (i + 1).toNatClampNeg)) := fm_inv_end (hI12.2.2.2.2.2 _ (fd_lt hb18)) hI17
        refine lv_iinc (v := i + 1) (lv' := [(2, .int (i + 1)), (0, .ref (am 0)), (1, .int p1)]) hx hb fx_Md_forget_104 hl (k := 0) rfl rfl (by decide) rfl (fun ls hl => ?_)
        refine lv_goto (tgt := 12) hx hb fx_Md_forget_107 (by decide) ?_
        exact ih (fm_saD (fm_saI (fm_saI (fm_saZ (fm_saI (fm_saI σ1 15 i.toNatClampNeg (fm_aI σ1 15 (i + 1).toNatClampNeg)) 16 i.toNatClampNeg (fm_aI σ1 16 (i + 1).toNatClampNeg)) 12 i.toNatClampNeg (fm_aZ σ1 12 (i + 1).toNatClampNeg)) 17 i.toNatClampNeg (fm_aI σ1 17 (i + 1).toNatClampNeg)) 18 i.toNatClampNeg (fm_aI σ1 18 (i + 1).toNatClampNeg)) 14 i.toNatClampNeg (fm_aD σ1 14 (i + 1).toNatClampNeg)) (i + 1) (fm_step hI12 hi c2) hI20 (by rw [hm12, fv_Md_forget_l12, if_neg c2]) H locs hP hD hS ls (lv_sub hl [0, 1, 2] rfl)
  exact hL12 7 (fm_smI σ 21 ((fm_mI σ 21) - 1)) p1 (fm_i7 hp) hI1 (by rw [fv_Md_forget]) H locs hP hD hS ls (lv_sub hl [0, 1, 2] rfl)
def fv_Md_isRemembered_l2 : Nat → FMS → Int32 → Bool
  | 0 , σ , i => false
  | n + 1 , σ , i => if (fm_mI σ 21) ≤ i then false else if (fv_Md_isSame σ i) = true then if (Op.cmpValue (FP.dcmp (fm_mT σ) (fm_aD σ 14 i.toNatClampNeg)) .l) < 0 then if (fv_Md_isSimple σ (fm_mI σ 30)) = true then if ((fm_mI σ 31) &&& ((fm_aI σ 18 i.toNatClampNeg) ^^^ (-1))) = 0 then true else fv_Md_isRemembered_l2 n σ (i + 1) else if (((fm_aI σ 17 i.toNatClampNeg) >>> ((fm_mI σ 30) &&& 31)) &&& 1) = 1 then if ((fm_mI σ 31) &&& ((fm_aI σ 18 i.toNatClampNeg) ^^^ (-1))) = 0 then true else fv_Md_isRemembered_l2 n σ (i + 1) else fv_Md_isRemembered_l2 n σ (i + 1) else fv_Md_isRemembered_l2 n σ (i + 1) else fv_Md_isRemembered_l2 n σ (i + 1)
def fv_Md_isRemembered (σ : FMS) : Bool := fv_Md_isRemembered_l2 7 σ 0
set_option maxHeartbeats 4000000 in
set_option maxRecDepth 100000 in
theorem fc_Md_isRemembered (l : Launch) (D : va_G) (ca : Nat → ClassId) (am : Nat → Nat) (sz : Nat) (σ : FMS)  (hI : fm_Inv σ)  : Met l fy_Md_isRemembered (fw_Md_isRemembered :: fb_tbl) ({ frames := 1, cells := 0, slots := 0, locals := 21 } : Room) (fm_Pc D ca am [.ref (am 0)] σ sz) ((fun A => va_Qi (fun (r : Int32) (u : FMS) => fd_bi (fv_Md_isRemembered σ) = r ∧ u = σ) (fm_B D ca am A) A) (va_A (fm_w ca am σ) sz)) 0 0 (va_A (fm_w ca am σ) sz) := by
  refine fm_ofW (cc := fb_Md_isRemembered) (maxL := 2) (ret := (some .boolean)) (Qf := fun A => va_Qi (fun (r : Int32) (u : FMS) => fd_bi (fv_Md_isRemembered σ) = r ∧ u = σ) (fm_B D ca am A) A) (by decide) (Nat.le_of_ble_eq_true rfl) ?_
  intro p e s m args below meth c A Q hQ hx hb hr hts hown hlocks hml hP hK hD hS hA hN ls hl
  have hown : s.vm.findClass fn_R_Md = some m.cls := hown
  have hl : lv_has ls 2 [(0, .ref (am 0))] := hl
  suffices hgo : ∀ (H : Heap) (locs : List Loc), va_P D fn_cl (fm_w ca am σ) H → va_D A (fm_w ca am σ) → va_S A s.heap H locs → W p l e ({ frames := 1, cells := 0, slots := 0, locals := 21 } : Room) s m args below meth c H locs 0 0 Q (F0 m 0 ls []) from hgo _ _ hP hD hS
  clear hP hD hS
  intro H locs hP hD hS
  refine lv_iconst (v := 0) hx hb fx_Md_isRemembered_0 (by decide) ?_
  refine lv_istore_n (lv' := [(1, .int 0), (0, .ref (am 0))]) hx hb fx_Md_isRemembered_1 rfl hl (by decide) rfl (fun ls hl => ?_)
  have hL2 : ∀ (n : Nat) (i : Int32), (∃ k : Nat, k ≤ 6 ∧ 7 ≤ n + k ∧ i = nI k) → fv_Md_isRemembered σ = fv_Md_isRemembered_l2 n σ i → ∀ (H : Heap) (locs : List Loc), va_P D fn_cl (fm_w ca am σ) H → va_D A (fm_w ca am σ) → va_S A s.heap H locs → ∀ (ls : Array Slot), lv_has ls 2 [(1, .int i), (0, .ref (am 0))] → W p l e ({ frames := 1, cells := 0, slots := 0, locals := 21 } : Room) s m args below meth c H locs 0 0 Q (F0 m 2 ls []) := by
    intro n
    induction n with
    | zero =>
      intro i hi
      obtain ⟨k, h1, h2, -⟩ := hi; omega
    | succ n ih =>
      intro i hi hm2 H locs hP hD hS ls hl
      refine lv_iload_n hx hb fx_Md_isRemembered_2 rfl (lv_at hl 0 rfl) ?_
      refine lv_aload_n hx hb fx_Md_isRemembered_3 rfl (lv_at hl 1 rfl) ?_
      refine va_get (D := D) (ci := 5) (v := .int (fm_mI σ 21)) (C := fn_R_Md) (T := fn_T_Md) (N := 33) hx hb hts fn_j_Md hown hK hP 0 rfl rfl 21 (by decide) (hts _ (List.mem_cons_of_mem _ fq_548)) (fun _ h9 => h9) rfl fx_Md_isRemembered_4 ?_
      refine lv_icmp_ge (tgt := 86) hx hb fx_Md_isRemembered_7 (by decide) (fun c1 => ?_) (fun c1 => ?_)
      · refine lv_iconst (v := 0) hx hb fx_Md_isRemembered_86 (by decide) ?_
        exact fm_zret (r := false) (u := σ) hQ hx hb hr ⟨by rw [hm2, fv_Md_isRemembered_l2, if_pos c1], rfl⟩ hP hD hS fx_Md_isRemembered_87 hlocks
      · refine lv_aload_n hx hb fx_Md_isRemembered_10 rfl (lv_at hl 1 rfl) ?_
        refine lv_iload_n hx hb fx_Md_isRemembered_11 rfl (lv_at hl 0 rfl) ?_
        refine fm_callz (va_runV (As := [.int i]) (rest := []) ⟨hx, hb, hml, hown, hts⟩ (fc_Md_isSame l D ca am H.size σ i hI (fm_idx hI hi c1)) ⟨callB_of 1 hts (fb_good fm_Md_isSame) rfl rfl rfl (hts _ (List.mem_cons_of_mem _ fq_6)) (hts _ (List.mem_cons_of_mem _ fq_681)) (by decide +kernel) ⟨Nat.le_of_ble_eq_true rfl, Nat.le_of_ble_eq_true rfl⟩, (hts _ (List.mem_cons_of_mem _ fq_683)), (hts _ (List.mem_cons_of_mem _ fp_Md_isSame))⟩ (fm_preV hP hK hD hN (va_recv hK hP (ci := 5) (q0 := 0) rfl rfl)) rfl rfl hl.1 rfl (lv_room (Nat.le_of_ble_eq_true rfl)) fx_Md_isRemembered_12 ⟨Nat.le_of_ble_eq_true rfl, Nat.le_of_ble_eq_true rfl⟩) hD hS hA (fun H locs hP hD hS => ?_)
        refine fd_ifeq (tgt := 80) hx hb fx_Md_isRemembered_15 (by decide) (fun c3 => ?_) (fun c3 => ?_)
        · refine lv_iinc (v := i + 1) (lv' := [(1, .int (i + 1)), (0, .ref (am 0))]) hx hb fx_Md_isRemembered_80 hl (k := 0) rfl rfl (by decide) rfl (fun ls hl => ?_)
          refine lv_goto (tgt := 2) hx hb fx_Md_isRemembered_83 (by decide) ?_
          exact ih (i + 1) (fm_step hI hi c1) (by rw [hm2, fv_Md_isRemembered_l2, if_neg c1, if_neg c3]) H locs hP hD hS ls (lv_sub hl [0, 1] rfl)
        · refine lv_aload_n hx hb fx_Md_isRemembered_18 rfl (lv_at hl 1 rfl) ?_
          refine va_get (D := D) (ci := 5) (v := .double (fm_mT σ)) (C := fn_R_Md) (T := fn_T_Md) (N := 33) hx hb hts fn_j_Md hown hK hP 0 rfl rfl 20 (by decide) (hts _ (List.mem_cons_of_mem _ fq_547)) (fun _ h9 => h9) rfl fx_Md_isRemembered_19 ?_
          refine lv_aload_n hx hb fx_Md_isRemembered_22 rfl (lv_at hl 1 rfl) ?_
          refine va_get (D := D) (ci := 5) (v := .ref (am 15)) (C := fn_R_Md) (T := fn_T_Md) (N := 33) hx hb hts fn_j_Md hown hK hP 0 rfl rfl 14 (by decide) (hts _ (List.mem_cons_of_mem _ fq_541)) (fun _ h9 => h9) rfl fx_Md_isRemembered_23 ?_
          refine lv_iload_n hx hb fx_Md_isRemembered_26 rfl (lv_at hl 0 rfl) ?_
          have hb4 : vp_in i 7 := fm_idx hI hi c1
          refine va_dald (D := D) hx hb hK hP 15 14 rfl rfl hb4 fx_Md_isRemembered_27 ?_
          refine W.eq (g2 := F0 m 28 ls (.double (fm_aD σ 14 i.toNatClampNeg) :: [.double (fm_mT σ)])) rfl ?_
          refine lv_dcmp hx hb fx_Md_isRemembered_28 ?_
          refine lv_if_lt (tgt := 35) hx hb fx_Md_isRemembered_29 (by decide) (fun c5 => ?_) (fun c5 => ?_)
          · refine lv_aload_n hx hb fx_Md_isRemembered_35 rfl (lv_at hl 1 rfl) ?_
            refine va_get (D := D) (ci := 5) (v := .int (fm_mI σ 30)) (C := fn_R_Md) (T := fn_T_Md) (N := 33) hx hb hts fn_j_Md hown hK hP 0 rfl rfl 30 (by decide) (hts _ (List.mem_cons_of_mem _ fq_557)) (fun _ h9 => h9) rfl fx_Md_isRemembered_36 ?_
            refine fm_callz (va_runS (As := [.int (fm_mI σ 30)]) (rest := []) ⟨hx, hb, hml, hown, hts⟩ (fc_Md_isSimple l D ca am H.size σ (fm_mI σ 30) hI ) ⟨callB_of 1 hts (fb_good fm_Md_isSimple) rfl rfl rfl (hts _ (List.mem_cons_of_mem _ fq_6)) (hts _ (List.mem_cons_of_mem _ fq_670)) (by decide +kernel) ⟨Nat.le_of_ble_eq_true rfl, Nat.le_of_ble_eq_true rfl⟩, (hts _ (List.mem_cons_of_mem _ fq_671))⟩ (fm_preS hP hK hD hN) rfl rfl hl.1 rfl (lv_room (Nat.le_of_ble_eq_true rfl)) fx_Md_isRemembered_39 ⟨Nat.le_of_ble_eq_true rfl, Nat.le_of_ble_eq_true rfl⟩) hD hS hA (fun H locs hP hD hS => ?_)
            refine fd_ifne (tgt := 62) hx hb fx_Md_isRemembered_42 (by decide) (fun c7 => ?_) (fun c7 => ?_)
            · refine lv_aload_n hx hb fx_Md_isRemembered_62 rfl (lv_at hl 1 rfl) ?_
              refine va_get (D := D) (ci := 5) (v := .int (fm_mI σ 31)) (C := fn_R_Md) (T := fn_T_Md) (N := 33) hx hb hts fn_j_Md hown hK hP 0 rfl rfl 31 (by decide) (hts _ (List.mem_cons_of_mem _ fq_558)) (fun _ h9 => h9) rfl fx_Md_isRemembered_63 ?_
              refine lv_aload_n hx hb fx_Md_isRemembered_66 rfl (lv_at hl 1 rfl) ?_
              refine va_get (D := D) (ci := 5) (v := .ref (am 19)) (C := fn_R_Md) (T := fn_T_Md) (N := 33) hx hb hts fn_j_Md hown hK hP 0 rfl rfl 18 (by decide) (hts _ (List.mem_cons_of_mem _ fq_545)) (fun _ h9 => h9) rfl fx_Md_isRemembered_67 ?_
              refine lv_iload_n hx hb fx_Md_isRemembered_70 rfl (lv_at hl 0 rfl) ?_
              have hb8 : vp_in i 7 := fm_idx hI hi c1
              refine va_iald (D := D) hx hb hK hP 19 18 rfl rfl hb8 fx_Md_isRemembered_71 ?_
              refine W.eq (g2 := F0 m 72 ls (.int (fm_aI σ 18 i.toNatClampNeg) :: [.int (fm_mI σ 31)])) rfl ?_
              refine lv_iconst (v := (-1)) hx hb fx_Md_isRemembered_72 (by decide) ?_
              refine lv_ixor hx hb fx_Md_isRemembered_73 ?_
              refine lv_iand hx hb fx_Md_isRemembered_74 ?_
              refine lv_if_ne (tgt := 80) hx hb fx_Md_isRemembered_75 (by decide) (fun c9 => ?_) (fun c9 => ?_)
              · refine lv_iinc (v := i + 1) (lv' := [(1, .int (i + 1)), (0, .ref (am 0))]) hx hb fx_Md_isRemembered_80 hl (k := 0) rfl rfl (by decide) rfl (fun ls hl => ?_)
                refine lv_goto (tgt := 2) hx hb fx_Md_isRemembered_83 (by decide) ?_
                exact ih (i + 1) (fm_step hI hi c1) (by rw [hm2, fv_Md_isRemembered_l2, if_neg c1, if_pos c3, if_pos c5, if_pos c7, if_neg c9]) H locs hP hD hS ls (lv_sub hl [0, 1] rfl)
              · refine lv_iconst (v := 1) hx hb fx_Md_isRemembered_78 (by decide) ?_
                exact fm_zret (r := true) (u := σ) hQ hx hb hr ⟨by rw [hm2, fv_Md_isRemembered_l2, if_neg c1, if_pos c3, if_pos c5, if_pos c7, if_pos c9], rfl⟩ hP hD hS fx_Md_isRemembered_79 hlocks
            · refine lv_aload_n hx hb fx_Md_isRemembered_45 rfl (lv_at hl 1 rfl) ?_
              refine va_get (D := D) (ci := 5) (v := .ref (am 18)) (C := fn_R_Md) (T := fn_T_Md) (N := 33) hx hb hts fn_j_Md hown hK hP 0 rfl rfl 17 (by decide) (hts _ (List.mem_cons_of_mem _ fq_544)) (fun _ h9 => h9) rfl fx_Md_isRemembered_46 ?_
              refine lv_iload_n hx hb fx_Md_isRemembered_49 rfl (lv_at hl 0 rfl) ?_
              have hb10 : vp_in i 7 := fm_idx hI hi c1
              refine va_iald (D := D) hx hb hK hP 18 17 rfl rfl hb10 fx_Md_isRemembered_50 ?_
              refine W.eq (g2 := F0 m 51 ls (.int (fm_aI σ 17 i.toNatClampNeg) :: [])) rfl ?_
              refine lv_aload_n hx hb fx_Md_isRemembered_51 rfl (lv_at hl 1 rfl) ?_
              refine va_get (D := D) (ci := 5) (v := .int (fm_mI σ 30)) (C := fn_R_Md) (T := fn_T_Md) (N := 33) hx hb hts fn_j_Md hown hK hP 0 rfl rfl 30 (by decide) (hts _ (List.mem_cons_of_mem _ fq_557)) (fun _ h9 => h9) rfl fx_Md_isRemembered_52 ?_
              refine lv_ishr hx hb fx_Md_isRemembered_55 ?_
              refine lv_iconst (v := 1) hx hb fx_Md_isRemembered_56 (by decide) ?_
              refine lv_iand hx hb fx_Md_isRemembered_57 ?_
              refine lv_iconst (v := 1) hx hb fx_Md_isRemembered_58 (by decide) ?_
              refine lv_icmp_ne (tgt := 80) hx hb fx_Md_isRemembered_59 (by decide) (fun c11 => ?_) (fun c11 => ?_)
              · refine lv_iinc (v := i + 1) (lv' := [(1, .int (i + 1)), (0, .ref (am 0))]) hx hb fx_Md_isRemembered_80 hl (k := 0) rfl rfl (by decide) rfl (fun ls hl => ?_)
                refine lv_goto (tgt := 2) hx hb fx_Md_isRemembered_83 (by decide) ?_
                exact ih (i + 1) (fm_step hI hi c1) (by rw [hm2, fv_Md_isRemembered_l2, if_neg c1, if_pos c3, if_pos c5, if_neg c7, if_neg c11]) H locs hP hD hS ls (lv_sub hl [0, 1] rfl)
              · refine lv_aload_n hx hb fx_Md_isRemembered_62 rfl (lv_at hl 1 rfl) ?_
                refine va_get (D := D) (ci := 5) (v := .int (fm_mI σ 31)) (C := fn_R_Md) (T := fn_T_Md) (N := 33) hx hb hts fn_j_Md hown hK hP 0 rfl rfl 31 (by decide) (hts _ (List.mem_cons_of_mem _ fq_558)) (fun _ h9 => h9) rfl fx_Md_isRemembered_63 ?_
                refine lv_aload_n hx hb fx_Md_isRemembered_66 rfl (lv_at hl 1 rfl) ?_
                refine va_get (D := D) (ci := 5) (v := .ref (am 19)) (C := fn_R_Md) (T := fn_T_Md) (N := 33) hx hb hts fn_j_Md hown hK hP 0 rfl rfl 18 (by decide) (hts _ (List.mem_cons_of_mem _ fq_545)) (fun _ h9 => h9) rfl fx_Md_isRemembered_67 ?_
                refine lv_iload_n hx hb fx_Md_isRemembered_70 rfl (lv_at hl 0 rfl) ?_
                have hb12 : vp_in i 7 := fm_idx hI hi c1
                refine va_iald (D := D) hx hb hK hP 19 18 rfl rfl hb12 fx_Md_isRemembered_71 ?_
                refine W.eq (g2 := F0 m 72 ls (.int (fm_aI σ 18 i.toNatClampNeg) :: [.int (fm_mI σ 31)])) rfl ?_
                refine lv_iconst (v := (-1)) hx hb fx_Md_isRemembered_72 (by decide) ?_
                refine lv_ixor hx hb fx_Md_isRemembered_73 ?_
                refine lv_iand hx hb fx_Md_isRemembered_74 ?_
                refine lv_if_ne (tgt := 80) hx hb fx_Md_isRemembered_75 (by decide) (fun c13 => ?_) (fun c13 => ?_)
                · refine lv_iinc (v := i + 1) (lv' := [(1, .int (i + 1)), (0, .ref (am 0))]) hx hb fx_Md_isRemembered_80 hl (k := 0) rfl rfl (by decide) rfl (fun ls hl => ?_)
                  refine lv_goto (tgt := 2) hx hb fx_Md_isRemembered_83 (by decide) ?_
                  exact ih (i + 1) (fm_step hI hi c1) (by rw [hm2, fv_Md_isRemembered_l2, if_neg c1, if_pos c3, if_pos c5, if_neg c7, if_pos c11, if_neg c13]) H locs hP hD hS ls (lv_sub hl [0, 1] rfl)
                · refine lv_iconst (v := 1) hx hb fx_Md_isRemembered_78 (by decide) ?_
                  exact fm_zret (r := true) (u := σ) hQ hx hb hr ⟨by rw [hm2, fv_Md_isRemembered_l2, if_neg c1, if_pos c3, if_pos c5, if_neg c7, if_pos c11, if_pos c13], rfl⟩ hP hD hS fx_Md_isRemembered_79 hlocks
          · refine lv_goto (tgt := 80) hx hb fx_Md_isRemembered_32 (by decide) ?_
            refine lv_iinc (v := i + 1) (lv' := [(1, .int (i + 1)), (0, .ref (am 0))]) hx hb fx_Md_isRemembered_80 hl (k := 0) rfl rfl (by decide) rfl (fun ls hl => ?_)
            refine lv_goto (tgt := 2) hx hb fx_Md_isRemembered_83 (by decide) ?_
            exact ih (i + 1) (fm_step hI hi c1) (by rw [hm2, fv_Md_isRemembered_l2, if_neg c1, if_pos c3, if_neg c5]) H locs hP hD hS ls (lv_sub hl [0, 1] rfl)
  exact hL2 7 0 (⟨0, by decide, by decide, rfl⟩) (by rw [fv_Md_isRemembered]) H locs hP hD hS ls (lv_sub hl [0, 1] rfl)
