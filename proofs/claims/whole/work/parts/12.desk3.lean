/-! the desk: asking, rounds -/
def fv_Mm_covers_j4 (σ : FDS) (p2 : UInt64) (v4 : Bool) : Bool := v4
def fv_Mm_covers (σ : FDS) (p2 : UInt64) : Bool := if (fv_Mm_find σ) = (-1) then false else fv_Mm_covers_j4 σ p2 (if 0 ≤ (Op.cmpValue (FP.dcmp p2 (fd_pD σ (fd_pF σ (fv_Mm_find σ).toNatClampNeg))) .g) then false else if (fv_Dk_lets σ (fd_pI σ (fd_pF σ (fv_Mm_find σ).toNatClampNeg) 3) (fd_pI σ (fd_pF σ (fv_Mm_find σ).toNatClampNeg) 4)) = true then true else false)
set_option maxHeartbeats 4000000 in
set_option maxRecDepth 100000 in
theorem fc_Mm_covers (l : Launch) (D : va_G) (cR cP : ClassId) (ad : Nat → Nat) (sz : Nat) (σ : FDS) (p2 : UInt64) (hI : fd_Inv σ)  : Met l fy_Mm_covers (fw_Mm_covers :: fb_tbl) ({ frames := 2, cells := 0, slots := 0, locals := 44 } : Room) (fd_Pc D cR cP ad [.ref (ad 1), .ref (ad 2), .double p2] σ sz) ((fun A => va_Qi (fun (r : Int32) (u : FDS) => fd_bi (fv_Mm_covers σ p2) = r ∧ u = σ) (fd_B D cR cP ad A) A) (va_A (fd_w cR cP ad σ) sz)) 0 0 (va_A (fd_w cR cP ad σ) sz) := by
  refine fd_ofW (cc := fb_Mm_covers) (maxL := 6) (ret := (some .boolean)) (Qf := fun A => va_Qi (fun (r : Int32) (u : FDS) => fd_bi (fv_Mm_covers σ p2) = r ∧ u = σ) (fd_B D cR cP ad A) A) (by decide) (Nat.le_of_ble_eq_true rfl) ?_
  intro p e s m args below meth c A Q hQ hx hb hr hts hown hlocks hml hP hK hD hS hA hN ls hl
  have hown : s.vm.findClass fn_R_Mm = some m.cls := hown
  have hl : lv_has ls 6 [(0, .ref (ad 1)), (1, .ref (ad 2)), (2, .double p2)] := hl
  suffices hgo : ∀ (H : Heap) (locs : List Loc), va_P D fn_cl (fd_w cR cP ad σ) H → va_D A (fd_w cR cP ad σ) → va_S A s.heap H locs → W p l e ({ frames := 2, cells := 0, slots := 0, locals := 44 } : Room) s m args below meth c H locs 0 0 Q (F0 m 0 ls []) from hgo _ _ hP hD hS
  clear hP hD hS
  intro H locs hP hD hS
  refine lv_aload_n hx hb fx_Mm_covers_0 rfl (lv_at hl 0 rfl) ?_
  refine lv_aload_n hx hb fx_Mm_covers_1 rfl (lv_at hl 1 rfl) ?_
  refine fd_calli (va_runV (As := [.ref (ad 2)]) (rest := []) ⟨hx, hb, hml, hown, hts⟩ (fc_Mm_find l D cR cP ad H.size σ  hI ) ⟨callB_of 1 hts (fb_good fm_Mm_find) rfl rfl rfl (hts _ (List.mem_cons_of_mem _ fq_3)) (hts _ (List.mem_cons_of_mem _ fq_397)) (by decide +kernel) ⟨Nat.le_of_ble_eq_true rfl, Nat.le_of_ble_eq_true rfl⟩, (hts _ (List.mem_cons_of_mem _ fq_399)), (hts _ (List.mem_cons_of_mem _ fp_Mm_find))⟩ (fd_preV hP hK hD hN (va_recv hK hP (ci := 0) (q0 := 1) rfl rfl)) rfl rfl hl.1 rfl (lv_room (Nat.le_of_ble_eq_true rfl)) fx_Mm_covers_2 ⟨Nat.le_of_ble_eq_true rfl, Nat.le_of_ble_eq_true rfl⟩) hD hS hA (fun H locs hP hD hS => ?_)
  refine lv_istore (lv' := [(4, .int (fv_Mm_find σ)), (0, .ref (ad 1)), (1, .ref (ad 2)), (2, .double p2)]) hx hb fx_Mm_covers_5 hl (by decide) rfl (fun ls hl => ?_)
  refine lv_iload hx hb fx_Mm_covers_7 (lv_at hl 0 rfl) ?_
  refine lv_iconst (v := (-1)) hx hb fx_Mm_covers_9 (by decide) ?_
  refine lv_icmp_ne (tgt := 15) hx hb fx_Mm_covers_10 (by decide) (fun c2 => ?_) (fun c2 => ?_)
  · refine lv_aload_n hx hb fx_Mm_covers_15 rfl (lv_at hl 1 rfl) ?_
    refine va_get (D := D) (ci := 0) (v := .ref (ad 58)) (C := fn_R_Mm) (T := fn_T_Mm) (N := 2) hx hb hts fn_j_Mm hown hK hP 1 rfl rfl 0 (by decide) (hts _ (List.mem_cons_of_mem _ fq_124)) (fun _ h9 => h9) rfl fx_Mm_covers_16 ?_
    refine lv_iload hx hb fx_Mm_covers_19 (lv_at hl 0 rfl) ?_
    have hb3 : vp_in (fv_Mm_find σ) 6 := fd_find_in hI c2
    refine va_aldq (D := D) hx hb hK hP 4 1 rfl rfl hb3 fx_Mm_covers_21 ?_
    refine W.eq (g2 := F0 m 22 ls (.ref (ad (51 + (fd_pF σ (fv_Mm_find σ).toNatClampNeg))) :: [])) rfl ?_
    refine lv_astore (lv' := [(5, .ref (ad (51 + (fd_pF σ (fv_Mm_find σ).toNatClampNeg)))), (4, .int (fv_Mm_find σ)), (0, .ref (ad 1)), (1, .ref (ad 2)), (2, .double p2)]) hx hb fx_Mm_covers_22 hl (by decide) rfl (fun ls hl => ?_)
    refine lv_dload_n hx hb fx_Mm_covers_24 rfl (lv_at hl 4 rfl) ?_
    refine lv_aload hx hb fx_Mm_covers_25 (lv_at hl 0 rfl) ?_
    refine va_getN (D := D) (ci := 1) (v := .double (fd_pD σ (fd_pF σ (fv_Mm_find σ).toNatClampNeg))) (C := fn_R_Pm) (T := fn_T_Pm) (N := 6) hx hb hts fn_j_Pm hown hK hP (53 + (fd_pF σ (fv_Mm_find σ).toNatClampNeg)) (fd_w_per (fd_plt hI hb3)) rfl 5 (by decide) (va_Nw.use rfl (hN _ fq_109)) (fun _ h9 => h9) rfl fx_Mm_covers_27 ?_
    refine lv_dcmp hx hb fx_Mm_covers_30 ?_
    have hJ4 : ∀ (H : Heap) (locs : List Loc), va_P D fn_cl (fd_w cR cP ad σ) H → va_D A (fd_w cR cP ad σ) → va_S A s.heap H locs → ∀ (v4 : Bool), v4 = (if 0 ≤ (Op.cmpValue (FP.dcmp p2 (fd_pD σ (fd_pF σ (fv_Mm_find σ).toNatClampNeg))) .g) then false else if (fv_Dk_lets σ (fd_pI σ (fd_pF σ (fv_Mm_find σ).toNatClampNeg) 3) (fd_pI σ (fd_pF σ (fv_Mm_find σ).toNatClampNeg) 4)) = true then true else false) → W p l e ({ frames := 2, cells := 0, slots := 0, locals := 44 } : Room) s m args below meth c H locs 0 0 Q (F0 m 56 ls [.int (fd_bi v4)]) := by
      intro H locs hP hD hS v4 hv4
      exact fd_zret (r := v4) (u := σ) hQ hx hb hr ⟨by rw [fv_Mm_covers, if_neg c2, ← hv4, fv_Mm_covers_j4], rfl⟩ hP hD hS fx_Mm_covers_56 hlocks
    refine lv_if_ge (tgt := 55) hx hb fx_Mm_covers_31 (by decide) (fun c5 => ?_) (fun c5 => ?_)
    · refine lv_iconst (v := 0) hx hb fx_Mm_covers_55 (by decide) ?_
      exact hJ4 H locs hP hD hS false (by rw [if_pos c5])
    · refine lv_aload hx hb fx_Mm_covers_34 (lv_at hl 0 rfl) ?_
      refine va_getN (D := D) (ci := 1) (v := .int (fd_pI σ (fd_pF σ (fv_Mm_find σ).toNatClampNeg) 3)) (C := fn_R_Pm) (T := fn_T_Pm) (N := 6) hx hb hts fn_j_Pm hown hK hP (53 + (fd_pF σ (fv_Mm_find σ).toNatClampNeg)) (fd_w_per (fd_plt hI hb3)) rfl 3 (by decide) (va_Nw.use rfl (hN _ fq_103)) (fun _ h9 => h9) rfl fx_Mm_covers_36 ?_
      refine lv_aload hx hb fx_Mm_covers_39 (lv_at hl 0 rfl) ?_
      refine va_getN (D := D) (ci := 1) (v := .int (fd_pI σ (fd_pF σ (fv_Mm_find σ).toNatClampNeg) 4)) (C := fn_R_Pm) (T := fn_T_Pm) (N := 6) hx hb hts fn_j_Pm hown hK hP (53 + (fd_pF σ (fv_Mm_find σ).toNatClampNeg)) (fd_w_per (fd_plt hI hb3)) rfl 4 (by decide) (va_Nw.use rfl (hN _ fq_106)) (fun _ h9 => h9) rfl fx_Mm_covers_41 ?_
      refine lv_aload_n hx hb fx_Mm_covers_44 rfl (lv_at hl 3 rfl) ?_
      refine fd_callz (va_runSN (As := [.int (fd_pI σ (fd_pF σ (fv_Mm_find σ).toNatClampNeg) 3), .int (fd_pI σ (fd_pF σ (fv_Mm_find σ).toNatClampNeg) 4), .ref (ad 2)]) (rest := []) ⟨hx, hb, hml, hown, hts⟩ (fc_Dk_lets l D cR cP ad H.size σ (fd_pI σ (fd_pF σ (fv_Mm_find σ).toNatClampNeg) 3) (fd_pI σ (fd_pF σ (fv_Mm_find σ).toNatClampNeg) 4) hI ) ⟨va_cnB 3 hts (fb_good fm_Dk_lets) rfl rfl rfl (hN _ fq_401) (hts _ (List.mem_cons_of_mem _ fq_1)) (by decide +kernel) ⟨Nat.le_of_ble_eq_true rfl, Nat.le_of_ble_eq_true rfl⟩, (hts _ (List.mem_cons_of_mem _ fq_402)), trivial⟩ (fd_preS hP hK hD hN) rfl rfl hl.1 rfl (lv_room (Nat.le_of_ble_eq_true rfl)) fx_Mm_covers_45 ⟨Nat.le_of_ble_eq_true rfl, Nat.le_of_ble_eq_true rfl⟩) hD hS hA (fun H locs hP hD hS => ?_)
      refine fd_ifeq (tgt := 55) hx hb fx_Mm_covers_48 (by decide) (fun c7 => ?_) (fun c7 => ?_)
      · refine lv_iconst (v := 0) hx hb fx_Mm_covers_55 (by decide) ?_
        exact hJ4 H locs hP hD hS false (by rw [if_neg c5, if_neg c7])
      · refine lv_iconst (v := 1) hx hb fx_Mm_covers_51 (by decide) ?_
        refine lv_goto (tgt := 56) hx hb fx_Mm_covers_52 (by decide) ?_
        exact hJ4 H locs hP hD hS true (by rw [if_neg c5, if_pos c7])
  · refine lv_iconst (v := 0) hx hb fx_Mm_covers_13 (by decide) ?_
    exact fd_zret (r := false) (u := σ) hQ hx hb hr ⟨by rw [fv_Mm_covers, if_pos c2], rfl⟩ hP hD hS fx_Mm_covers_14 hlocks
def fv_Mm_forget (σ : FDS) : FDS := if (fv_Mm_find σ) = (-1) then σ else (fv_Mm_drop σ (fv_Mm_find σ))
set_option maxHeartbeats 4000000 in
set_option maxRecDepth 100000 in
theorem fc_Mm_forget (l : Launch) (D : va_G) (cR cP : ClassId) (ad : Nat → Nat) (sz : Nat) (σ : FDS)  (hI : fd_Inv σ)  : Met l fy_Mm_forget (fw_Mm_forget :: fb_tbl) ({ frames := 1, cells := 0, slots := 0, locals := 23 } : Room) (fd_Pc D cR cP ad [.ref (ad 1), .ref (ad 2)] σ sz) ((fun A => va_Qv (fun u : FDS => fv_Mm_forget σ = u ∧ fd_Inv u) (fd_B D cR cP ad A) A) (va_A (fd_w cR cP ad σ) sz)) 0 0 (va_A (fd_w cR cP ad σ) sz) := by
  refine fd_ofW (cc := fb_Mm_forget) (maxL := 3) (ret := none) (Qf := fun A => va_Qv (fun u : FDS => fv_Mm_forget σ = u ∧ fd_Inv u) (fd_B D cR cP ad A) A) (by decide) (Nat.le_of_ble_eq_true rfl) ?_
  intro p e s m args below meth c A Q hQ hx hb hr hts hown hlocks hml hP hK hD hS hA hN ls hl
  have hown : s.vm.findClass fn_R_Mm = some m.cls := hown
  have hl : lv_has ls 3 [(0, .ref (ad 1)), (1, .ref (ad 2))] := hl
  suffices hgo : ∀ (H : Heap) (locs : List Loc), va_P D fn_cl (fd_w cR cP ad σ) H → va_D A (fd_w cR cP ad σ) → va_S A s.heap H locs → W p l e ({ frames := 1, cells := 0, slots := 0, locals := 23 } : Room) s m args below meth c H locs 0 0 Q (F0 m 0 ls []) from hgo _ _ hP hD hS
  clear hP hD hS
  intro H locs hP hD hS
  refine lv_aload_n hx hb fx_Mm_forget_0 rfl (lv_at hl 0 rfl) ?_
  refine lv_aload_n hx hb fx_Mm_forget_1 rfl (lv_at hl 1 rfl) ?_
  refine fd_calli (va_runV (As := [.ref (ad 2)]) (rest := []) ⟨hx, hb, hml, hown, hts⟩ (fc_Mm_find l D cR cP ad H.size σ  hI ) ⟨callB_of 1 hts (fb_good fm_Mm_find) rfl rfl rfl (hts _ (List.mem_cons_of_mem _ fq_3)) (hts _ (List.mem_cons_of_mem _ fq_397)) (by decide +kernel) ⟨Nat.le_of_ble_eq_true rfl, Nat.le_of_ble_eq_true rfl⟩, (hts _ (List.mem_cons_of_mem _ fq_399)), (hts _ (List.mem_cons_of_mem _ fp_Mm_find))⟩ (fd_preV hP hK hD hN (va_recv hK hP (ci := 0) (q0 := 1) rfl rfl)) rfl rfl hl.1 rfl (lv_room (Nat.le_of_ble_eq_true rfl)) fx_Mm_forget_2 ⟨Nat.le_of_ble_eq_true rfl, Nat.le_of_ble_eq_true rfl⟩) hD hS hA (fun H locs hP hD hS => ?_)
  refine lv_istore_n (lv' := [(2, .int (fv_Mm_find σ)), (0, .ref (ad 1)), (1, .ref (ad 2))]) hx hb fx_Mm_forget_5 rfl hl (by decide) rfl (fun ls hl => ?_)
  refine lv_iload_n hx hb fx_Mm_forget_6 rfl (lv_at hl 0 rfl) ?_
  refine lv_iconst (v := (-1)) hx hb fx_Mm_forget_7 (by decide) ?_
  refine lv_icmp_eq (tgt := 16) hx hb fx_Mm_forget_8 (by decide) (fun c2 => ?_) (fun c2 => ?_)
  · exact fd_vret (u := σ) hQ hx hb hr ⟨by rw [fv_Mm_forget, if_pos c2], hI⟩ hP hD hS fx_Mm_forget_16 hlocks
  · refine lv_aload_n hx hb fx_Mm_forget_11 rfl (lv_at hl 1 rfl) ?_
    refine lv_iload_n hx hb fx_Mm_forget_12 rfl (lv_at hl 0 rfl) ?_
    refine fd_callvm (va_runV (As := [.int (fv_Mm_find σ)]) (rest := []) ⟨hx, hb, hml, hown, hts⟩ (fc_Mm_drop l D cR cP ad H.size σ (fv_Mm_find σ) hI (fd_find_rng hI c2) (fd_find_sz hI c2)) ⟨callB_of 1 hts (fb_good fm_Mm_drop) rfl rfl rfl (hts _ (List.mem_cons_of_mem _ fq_3)) (hts _ (List.mem_cons_of_mem _ fq_412)) (by decide +kernel) ⟨Nat.le_of_ble_eq_true rfl, Nat.le_of_ble_eq_true rfl⟩, (hts _ (List.mem_cons_of_mem _ fq_414)), (hts _ (List.mem_cons_of_mem _ fp_Mm_drop))⟩ (fd_preV hP hK hD hN (va_recv hK hP (ci := 0) (q0 := 1) rfl rfl)) rfl rfl hl.1 rfl (lv_room (Nat.le_of_ble_eq_true rfl)) fx_Mm_forget_13 ⟨Nat.le_of_ble_eq_true rfl, Nat.le_of_ble_eq_true rfl⟩) hD hS hA (fun H locs hP hD hS hI3 => ?_)
    exact fd_vret (u := (fv_Mm_drop σ (fv_Mm_find σ))) hQ hx hb hr ⟨by rw [fv_Mm_forget, if_neg c2], hI3⟩ hP hD hS fx_Mm_forget_16 hlocks
def fv_Mm_remember_j2 (σ : FDS) (j2 : Nat) (p3 : UInt64) (v2 : UInt64) : FDS := fd_smS (fv_Pm_write σ (fd_pF σ (fd_mS σ).toNatClampNeg) j2 (FP.dadd p3 v2)) ((fd_mS (fv_Pm_write σ (fd_pF σ (fd_mS σ).toNatClampNeg) j2 (FP.dadd p3 v2))) + 1)
def fv_Mm_remember_j9 (σ : FDS) (j2 : Nat) (p3 : UInt64) (v9 : UInt64) : FDS := fd_smS (fv_Pm_write (fv_Mm_drop σ (fv_Mm_firstToEnd σ)) (fd_pF (fv_Mm_drop σ (fv_Mm_firstToEnd σ)) (fd_mS (fv_Mm_drop σ (fv_Mm_firstToEnd σ))).toNatClampNeg) j2 (FP.dadd p3 v9)) ((fd_mS (fv_Pm_write (fv_Mm_drop σ (fv_Mm_firstToEnd σ)) (fd_pF (fv_Mm_drop σ (fv_Mm_firstToEnd σ)) (fd_mS (fv_Mm_drop σ (fv_Mm_firstToEnd σ))).toNatClampNeg) j2 (FP.dadd p3 v9))) + 1)
def fv_Mm_remember (σ : FDS) (j2 : Nat) (p3 : UInt64) : FDS := if (fd_mS σ) = 6 then fv_Mm_remember_j9 σ j2 p3 (if 0 ≤ (Op.cmpValue (FP.dcmp (fd_rD (fv_Mm_drop σ (fv_Mm_firstToEnd σ)) j2) 4621819117588971520) .g) then 4621819117588971520 else fd_rD (fv_Mm_drop σ (fv_Mm_firstToEnd σ)) j2) else fv_Mm_remember_j2 σ j2 p3 (if 0 ≤ (Op.cmpValue (FP.dcmp (fd_rD σ j2) 4621819117588971520) .g) then 4621819117588971520 else fd_rD σ j2)
set_option maxHeartbeats 4000000 in
set_option maxRecDepth 100000 in
theorem fc_Mm_remember (l : Launch) (D : va_G) (cR cP : ClassId) (ad : Nat → Nat) (sz : Nat) (σ : FDS) (j2 : Nat) (hj2 : j2 < 48) (p3 : UInt64) (hI : fd_Inv σ) (hT : FP.dIsNaN p3 = false) : Met l fy_Mm_remember (fw_Mm_remember :: fb_tbl) ({ frames := 1, cells := 0, slots := 0, locals := 24 } : Room) (fd_Pc D cR cP ad [.ref (ad 1), .ref (ad 2), .ref (ad (3 + j2)), .double p3] σ sz) ((fun A => va_Qv (fun u : FDS => fv_Mm_remember σ j2 p3 = u ∧ fd_Inv u) (fd_B D cR cP ad A) A) (va_A (fd_w cR cP ad σ) sz)) 0 0 (va_A (fd_w cR cP ad σ) sz) := by
  refine fd_ofW (cc := fb_Mm_remember) (maxL := 7) (ret := none) (Qf := fun A => va_Qv (fun u : FDS => fv_Mm_remember σ j2 p3 = u ∧ fd_Inv u) (fd_B D cR cP ad A) A) (by decide) (Nat.le_of_ble_eq_true rfl) ?_
  intro p e s m args below meth c A Q hQ hx hb hr hts hown hlocks hml hP hK hD hS hA hN ls hl
  have hown : s.vm.findClass fn_R_Mm = some m.cls := hown
  have hl : lv_has ls 7 [(0, .ref (ad 1)), (1, .ref (ad 2)), (2, .ref (ad (3 + j2))), (3, .double p3)] := hl
  suffices hgo : ∀ (H : Heap) (locs : List Loc), va_P D fn_cl (fd_w cR cP ad σ) H → va_D A (fd_w cR cP ad σ) → va_S A s.heap H locs → W p l e ({ frames := 1, cells := 0, slots := 0, locals := 24 } : Room) s m args below meth c H locs 0 0 Q (F0 m 0 ls []) from hgo _ _ hP hD hS
  clear hP hD hS
  intro H locs hP hD hS
  refine lv_aload_n hx hb fx_Mm_remember_0 rfl (lv_at hl 0 rfl) ?_
  refine va_get (D := D) (ci := 0) (v := .int (fd_mS σ)) (C := fn_R_Mm) (T := fn_T_Mm) (N := 2) hx hb hts fn_j_Mm hown hK hP 1 rfl rfl 1 (by decide) (hts _ (List.mem_cons_of_mem _ fq_126)) (fun _ h9 => h9) rfl fx_Mm_remember_1 ?_
  refine lv_bipush (v := 6) hx hb fx_Mm_remember_4 (by decide) ?_
  refine lv_icmp_ne (tgt := 17) hx hb fx_Mm_remember_6 (by decide) (fun c1 => ?_) (fun c1 => ?_)
  · refine lv_aload_n hx hb fx_Mm_remember_17 rfl (lv_at hl 2 rfl) ?_
    refine va_getN (D := D) (ci := 3) (v := .double (fd_rD σ j2)) (C := fn_R_Rs) (T := fn_T_Rs) (N := 13) hx hb hts fn_j_Rs hown hK hP (5 + j2) (fd_w_res hj2) rfl 10 (by decide) (va_Nw.use rfl (hN _ fq_50)) (fun _ h9 => h9) rfl fx_Mm_remember_18 ?_
    refine lv_ldc2d (v := 4621819117588971520) hx hb hown (hts _ (List.mem_cons_of_mem _ fq_429)) fx_Mm_remember_21 ?_
    refine lv_dcmp hx hb fx_Mm_remember_24 ?_
    have hJ2 : ∀ (H : Heap) (locs : List Loc), va_P D fn_cl (fd_w cR cP ad σ) H → va_D A (fd_w cR cP ad σ) → va_S A s.heap H locs → ∀ (v2 : UInt64), v2 = (if 0 ≤ (Op.cmpValue (FP.dcmp (fd_rD σ j2) 4621819117588971520) .g) then 4621819117588971520 else fd_rD σ j2) → W p l e ({ frames := 1, cells := 0, slots := 0, locals := 24 } : Room) s m args below meth c H locs 0 0 Q (F0 m 38 ls [.double v2]) := by
      intro H locs hP hD hS v2 hv2
      refine lv_dstore (lv' := [(5, .double v2), (0, .ref (ad 1)), (1, .ref (ad 2)), (2, .ref (ad (3 + j2))), (3, .double p3)]) hx hb fx_Mm_remember_38 hl (by decide) rfl (fun ls hl => ?_)
      refine lv_aload_n hx hb fx_Mm_remember_40 rfl (lv_at hl 1 rfl) ?_
      refine va_get (D := D) (ci := 0) (v := .ref (ad 58)) (C := fn_R_Mm) (T := fn_T_Mm) (N := 2) hx hb hts fn_j_Mm hown hK hP 1 rfl rfl 0 (by decide) (hts _ (List.mem_cons_of_mem _ fq_124)) (fun _ h9 => h9) rfl fx_Mm_remember_41 ?_
      refine lv_aload_n hx hb fx_Mm_remember_44 rfl (lv_at hl 1 rfl) ?_
      refine va_get (D := D) (ci := 0) (v := .int (fd_mS σ)) (C := fn_R_Mm) (T := fn_T_Mm) (N := 2) hx hb hts fn_j_Mm hown hK hP 1 rfl rfl 1 (by decide) (hts _ (List.mem_cons_of_mem _ fq_126)) (fun _ h9 => h9) rfl fx_Mm_remember_45 ?_
      have hb3 : vp_in (fd_mS σ) 6 := by first | exact fd_szB hI c1 | exact fd_szA hI c1
      refine va_aldq (D := D) hx hb hK hP 4 1 rfl rfl hb3 fx_Mm_remember_48 ?_
      refine W.eq (g2 := F0 m 49 ls (.ref (ad (51 + (fd_pF σ (fd_mS σ).toNatClampNeg))) :: [])) rfl ?_
      refine lv_aload_n hx hb fx_Mm_remember_49 rfl (lv_at hl 2 rfl) ?_
      refine lv_aload_n hx hb fx_Mm_remember_50 rfl (lv_at hl 3 rfl) ?_
      refine lv_dload_n hx hb fx_Mm_remember_51 rfl (lv_at hl 4 rfl) ?_
      refine lv_dload hx hb fx_Mm_remember_52 (lv_at hl 0 rfl) ?_
      refine lv_dadd hx hb fx_Mm_remember_54 (fd_n64 (FP.Core.dadd_out hT (fd_sec hI hj2 hv2))) ?_
      refine fd_callvm (va_runVN (As := [.ref (ad 2), .ref (ad (3 + j2)), .double (FP.dadd p3 v2)]) (rest := []) ⟨hx, hb, hml, hown, hts⟩ (fc_Pm_write l D cR cP ad H.size σ (fd_pF σ (fd_mS σ).toNatClampNeg) (fd_plt hI hb3) j2 hj2 (FP.dadd p3 v2) hI ) ⟨va_cnB 3 hts (fb_good fm_Pm_write) rfl rfl rfl (hN _ fq_430) (hts _ (List.mem_cons_of_mem _ fq_4)) (by decide +kernel) ⟨Nat.le_of_ble_eq_true rfl, Nat.le_of_ble_eq_true rfl⟩, (hts _ (List.mem_cons_of_mem _ fq_432)), (hts _ (List.mem_cons_of_mem _ fp_Pm_write))⟩ (fd_preV hP hK hD hN (va_recv hK hP (ci := 1) (q0 := (53 + (fd_pF σ (fd_mS σ).toNatClampNeg))) rfl (fd_w_per (fd_plt hI hb3)))) rfl rfl hl.1 rfl (lv_room (Nat.le_of_ble_eq_true rfl)) fx_Mm_remember_55 ⟨Nat.le_of_ble_eq_true rfl, Nat.le_of_ble_eq_true rfl⟩) hD hS hA (fun H locs hP hD hS hI4 => ?_)
      refine lv_aload_n hx hb fx_Mm_remember_58 rfl (lv_at hl 1 rfl) ?_
      refine lv_dup hx hb fx_Mm_remember_59 rfl ?_
      refine va_get (D := D) (ci := 0) (v := .int (fd_mS (fv_Pm_write σ (fd_pF σ (fd_mS σ).toNatClampNeg) j2 (FP.dadd p3 v2)))) (C := fn_R_Mm) (T := fn_T_Mm) (N := 2) hx hb hts fn_j_Mm hown hK hP 1 rfl rfl 1 (by decide) (hts _ (List.mem_cons_of_mem _ fq_126)) (fun _ h9 => h9) rfl fx_Mm_remember_60 ?_
      refine lv_iconst (v := 1) hx hb fx_Mm_remember_63 (by decide) ?_
      refine lv_iadd hx hb fx_Mm_remember_64 ?_
      refine va_put (D := D) (ci := 0) (v := .int ((fd_mS (fv_Pm_write σ (fd_pF σ (fd_mS σ).toNatClampNeg) j2 (FP.dadd p3 v2))) + 1)) (ty := .int) (C := fn_R_Mm) (T := fn_T_Mm) (N := 2) hx hb hts fn_j_Mm fn_t_Mm fn_k_Mm fn_n_Mm hown hK hP hD hS 1 rfl rfl 1 (by decide) (hts _ (List.mem_cons_of_mem _ fq_126)) (fun _ h9 => h9) rfl (by decide +kernel) rfl rfl (Nat.le_of_ble_eq_true rfl) fx_Mm_remember_65 (fun H locs hP hD hS => ?_)
      rw [fd_set_Mm_1] at hP hD
      have hI5 : fd_Inv (fd_smS (fv_Pm_write σ (fd_pF σ (fd_mS σ).toNatClampNeg) j2 (FP.dadd p3 v2)) ((fd_mS (fv_Pm_write σ (fd_pF σ (fd_mS σ).toNatClampNeg) j2 (FP.dadd p3 v2))) + 1)) := fd_inv_size (by rw [fd_write_mS]; exact fd_inc hb3) hI4
      exact fd_vret (u := fd_smS (fv_Pm_write σ (fd_pF σ (fd_mS σ).toNatClampNeg) j2 (FP.dadd p3 v2)) ((fd_mS (fv_Pm_write σ (fd_pF σ (fd_mS σ).toNatClampNeg) j2 (FP.dadd p3 v2))) + 1)) hQ hx hb hr ⟨by rw [fv_Mm_remember, if_neg c1, ← hv2, fv_Mm_remember_j2], hI5⟩ hP hD hS fx_Mm_remember_68 hlocks
    refine lv_if_ge (tgt := 35) hx hb fx_Mm_remember_25 (by decide) (fun c6 => ?_) (fun c6 => ?_)
    · refine lv_ldc2d (v := 4621819117588971520) hx hb hown (hts _ (List.mem_cons_of_mem _ fq_429)) fx_Mm_remember_35 ?_
      exact hJ2 H locs hP hD hS 4621819117588971520 (by rw [if_pos c6])
    · refine lv_aload_n hx hb fx_Mm_remember_28 rfl (lv_at hl 2 rfl) ?_
      refine va_getN (D := D) (ci := 3) (v := .double (fd_rD σ j2)) (C := fn_R_Rs) (T := fn_T_Rs) (N := 13) hx hb hts fn_j_Rs hown hK hP (5 + j2) (fd_w_res hj2) rfl 10 (by decide) (va_Nw.use rfl (hN _ fq_50)) (fun _ h9 => h9) rfl fx_Mm_remember_29 ?_
      refine lv_goto (tgt := 38) hx hb fx_Mm_remember_32 (by decide) ?_
      exact hJ2 H locs hP hD hS (fd_rD σ j2) (by rw [if_neg c6])
  · refine lv_aload_n hx hb fx_Mm_remember_9 rfl (lv_at hl 0 rfl) ?_
    refine lv_aload_n hx hb fx_Mm_remember_10 rfl (lv_at hl 0 rfl) ?_
    refine fd_calli (va_runV (As := []) (rest := [.ref (ad 1)]) ⟨hx, hb, hml, hown, hts⟩ (fc_Mm_firstToEnd l D cR cP ad H.size σ  hI ) ⟨callB_of 0 hts (fb_good fm_Mm_firstToEnd) rfl rfl rfl (hts _ (List.mem_cons_of_mem _ fq_3)) (hts _ (List.mem_cons_of_mem _ fq_425)) (by decide +kernel) ⟨Nat.le_of_ble_eq_true rfl, Nat.le_of_ble_eq_true rfl⟩, (hts _ (List.mem_cons_of_mem _ fq_427)), (hts _ (List.mem_cons_of_mem _ fp_Mm_firstToEnd))⟩ (fd_preV hP hK hD hN (va_recv hK hP (ci := 0) (q0 := 1) rfl rfl)) rfl rfl hl.1 rfl (lv_room (Nat.le_of_ble_eq_true rfl)) fx_Mm_remember_11 ⟨Nat.le_of_ble_eq_true rfl, Nat.le_of_ble_eq_true rfl⟩) hD hS hA (fun H locs hP hD hS => ?_)
    refine fd_callvm (va_runV (As := [.int (fv_Mm_firstToEnd σ)]) (rest := []) ⟨hx, hb, hml, hown, hts⟩ (fc_Mm_drop l D cR cP ad H.size σ (fv_Mm_firstToEnd σ) hI (fd_ft_rng hI) (⟨5, by decide, c1⟩)) ⟨callB_of 1 hts (fb_good fm_Mm_drop) rfl rfl rfl (hts _ (List.mem_cons_of_mem _ fq_3)) (hts _ (List.mem_cons_of_mem _ fq_412)) (by decide +kernel) ⟨Nat.le_of_ble_eq_true rfl, Nat.le_of_ble_eq_true rfl⟩, (hts _ (List.mem_cons_of_mem _ fq_414)), (hts _ (List.mem_cons_of_mem _ fp_Mm_drop))⟩ (fd_preV hP hK hD hN (va_recv hK hP (ci := 0) (q0 := 1) rfl rfl)) rfl rfl hl.1 rfl (lv_room (Nat.le_of_ble_eq_true rfl)) fx_Mm_remember_14 ⟨Nat.le_of_ble_eq_true rfl, Nat.le_of_ble_eq_true rfl⟩) hD hS hA (fun H locs hP hD hS hI8 => ?_)
    refine lv_aload_n hx hb fx_Mm_remember_17 rfl (lv_at hl 2 rfl) ?_
    refine va_getN (D := D) (ci := 3) (v := .double (fd_rD (fv_Mm_drop σ (fv_Mm_firstToEnd σ)) j2)) (C := fn_R_Rs) (T := fn_T_Rs) (N := 13) hx hb hts fn_j_Rs hown hK hP (5 + j2) (fd_w_res hj2) rfl 10 (by decide) (va_Nw.use rfl (hN _ fq_50)) (fun _ h9 => h9) rfl fx_Mm_remember_18 ?_
    refine lv_ldc2d (v := 4621819117588971520) hx hb hown (hts _ (List.mem_cons_of_mem _ fq_429)) fx_Mm_remember_21 ?_
    refine lv_dcmp hx hb fx_Mm_remember_24 ?_
    have hJ9 : ∀ (H : Heap) (locs : List Loc), va_P D fn_cl (fd_w cR cP ad (fv_Mm_drop σ (fv_Mm_firstToEnd σ))) H → va_D A (fd_w cR cP ad (fv_Mm_drop σ (fv_Mm_firstToEnd σ))) → va_S A s.heap H locs → ∀ (v9 : UInt64), v9 = (if 0 ≤ (Op.cmpValue (FP.dcmp (fd_rD (fv_Mm_drop σ (fv_Mm_firstToEnd σ)) j2) 4621819117588971520) .g) then 4621819117588971520 else fd_rD (fv_Mm_drop σ (fv_Mm_firstToEnd σ)) j2) → W p l e ({ frames := 1, cells := 0, slots := 0, locals := 24 } : Room) s m args below meth c H locs 0 0 Q (F0 m 38 ls [.double v9]) := by
      intro H locs hP hD hS v9 hv9
      refine lv_dstore (lv' := [(5, .double v9), (0, .ref (ad 1)), (1, .ref (ad 2)), (2, .ref (ad (3 + j2))), (3, .double p3)]) hx hb fx_Mm_remember_38 hl (by decide) rfl (fun ls hl => ?_)
      refine lv_aload_n hx hb fx_Mm_remember_40 rfl (lv_at hl 1 rfl) ?_
      refine va_get (D := D) (ci := 0) (v := .ref (ad 58)) (C := fn_R_Mm) (T := fn_T_Mm) (N := 2) hx hb hts fn_j_Mm hown hK hP 1 rfl rfl 0 (by decide) (hts _ (List.mem_cons_of_mem _ fq_124)) (fun _ h9 => h9) rfl fx_Mm_remember_41 ?_
      refine lv_aload_n hx hb fx_Mm_remember_44 rfl (lv_at hl 1 rfl) ?_
      refine va_get (D := D) (ci := 0) (v := .int (fd_mS (fv_Mm_drop σ (fv_Mm_firstToEnd σ)))) (C := fn_R_Mm) (T := fn_T_Mm) (N := 2) hx hb hts fn_j_Mm hown hK hP 1 rfl rfl 1 (by decide) (hts _ (List.mem_cons_of_mem _ fq_126)) (fun _ h9 => h9) rfl fx_Mm_remember_45 ?_
      have hb10 : vp_in (fd_mS (fv_Mm_drop σ (fv_Mm_firstToEnd σ))) 6 := by first | exact fd_szB hI c1 | exact fd_szA hI c1
      refine va_aldq (D := D) hx hb hK hP 4 1 rfl rfl hb10 fx_Mm_remember_48 ?_
      refine W.eq (g2 := F0 m 49 ls (.ref (ad (51 + (fd_pF (fv_Mm_drop σ (fv_Mm_firstToEnd σ)) (fd_mS (fv_Mm_drop σ (fv_Mm_firstToEnd σ))).toNatClampNeg))) :: [])) rfl ?_
      refine lv_aload_n hx hb fx_Mm_remember_49 rfl (lv_at hl 2 rfl) ?_
      refine lv_aload_n hx hb fx_Mm_remember_50 rfl (lv_at hl 3 rfl) ?_
      refine lv_dload_n hx hb fx_Mm_remember_51 rfl (lv_at hl 4 rfl) ?_
      refine lv_dload hx hb fx_Mm_remember_52 (lv_at hl 0 rfl) ?_
      refine lv_dadd hx hb fx_Mm_remember_54 (fd_n64 (FP.Core.dadd_out hT (fd_sec hI8 hj2 hv9))) ?_
      refine fd_callvm (va_runVN (As := [.ref (ad 2), .ref (ad (3 + j2)), .double (FP.dadd p3 v9)]) (rest := []) ⟨hx, hb, hml, hown, hts⟩ (fc_Pm_write l D cR cP ad H.size (fv_Mm_drop σ (fv_Mm_firstToEnd σ)) (fd_pF (fv_Mm_drop σ (fv_Mm_firstToEnd σ)) (fd_mS (fv_Mm_drop σ (fv_Mm_firstToEnd σ))).toNatClampNeg) (fd_plt hI8 hb10) j2 hj2 (FP.dadd p3 v9) hI8 ) ⟨va_cnB 3 hts (fb_good fm_Pm_write) rfl rfl rfl (hN _ fq_430) (hts _ (List.mem_cons_of_mem _ fq_4)) (by decide +kernel) ⟨Nat.le_of_ble_eq_true rfl, Nat.le_of_ble_eq_true rfl⟩, (hts _ (List.mem_cons_of_mem _ fq_432)), (hts _ (List.mem_cons_of_mem _ fp_Pm_write))⟩ (fd_preV hP hK hD hN (va_recv hK hP (ci := 1) (q0 := (53 + (fd_pF (fv_Mm_drop σ (fv_Mm_firstToEnd σ)) (fd_mS (fv_Mm_drop σ (fv_Mm_firstToEnd σ))).toNatClampNeg))) rfl (fd_w_per (fd_plt hI8 hb10)))) rfl rfl hl.1 rfl (lv_room (Nat.le_of_ble_eq_true rfl)) fx_Mm_remember_55 ⟨Nat.le_of_ble_eq_true rfl, Nat.le_of_ble_eq_true rfl⟩) hD hS hA (fun H locs hP hD hS hI11 => ?_)
      refine lv_aload_n hx hb fx_Mm_remember_58 rfl (lv_at hl 1 rfl) ?_
      refine lv_dup hx hb fx_Mm_remember_59 rfl ?_
      refine va_get (D := D) (ci := 0) (v := .int (fd_mS (fv_Pm_write (fv_Mm_drop σ (fv_Mm_firstToEnd σ)) (fd_pF (fv_Mm_drop σ (fv_Mm_firstToEnd σ)) (fd_mS (fv_Mm_drop σ (fv_Mm_firstToEnd σ))).toNatClampNeg) j2 (FP.dadd p3 v9)))) (C := fn_R_Mm) (T := fn_T_Mm) (N := 2) hx hb hts fn_j_Mm hown hK hP 1 rfl rfl 1 (by decide) (hts _ (List.mem_cons_of_mem _ fq_126)) (fun _ h9 => h9) rfl fx_Mm_remember_60 ?_
      refine lv_iconst (v := 1) hx hb fx_Mm_remember_63 (by decide) ?_
      refine lv_iadd hx hb fx_Mm_remember_64 ?_
      refine va_put (D := D) (ci := 0) (v := .int ((fd_mS (fv_Pm_write (fv_Mm_drop σ (fv_Mm_firstToEnd σ)) (fd_pF (fv_Mm_drop σ (fv_Mm_firstToEnd σ)) (fd_mS (fv_Mm_drop σ (fv_Mm_firstToEnd σ))).toNatClampNeg) j2 (FP.dadd p3 v9))) + 1)) (ty := .int) (C := fn_R_Mm) (T := fn_T_Mm) (N := 2) hx hb hts fn_j_Mm fn_t_Mm fn_k_Mm fn_n_Mm hown hK hP hD hS 1 rfl rfl 1 (by decide) (hts _ (List.mem_cons_of_mem _ fq_126)) (fun _ h9 => h9) rfl (by decide +kernel) rfl rfl (Nat.le_of_ble_eq_true rfl) fx_Mm_remember_65 (fun H locs hP hD hS => ?_)
      rw [fd_set_Mm_1] at hP hD
      have hI12 : fd_Inv (fd_smS (fv_Pm_write (fv_Mm_drop σ (fv_Mm_firstToEnd σ)) (fd_pF (fv_Mm_drop σ (fv_Mm_firstToEnd σ)) (fd_mS (fv_Mm_drop σ (fv_Mm_firstToEnd σ))).toNatClampNeg) j2 (FP.dadd p3 v9)) ((fd_mS (fv_Pm_write (fv_Mm_drop σ (fv_Mm_firstToEnd σ)) (fd_pF (fv_Mm_drop σ (fv_Mm_firstToEnd σ)) (fd_mS (fv_Mm_drop σ (fv_Mm_firstToEnd σ))).toNatClampNeg) j2 (FP.dadd p3 v9))) + 1)) := fd_inv_size (by rw [fd_write_mS]; exact fd_inc hb10) hI11
      exact fd_vret (u := fd_smS (fv_Pm_write (fv_Mm_drop σ (fv_Mm_firstToEnd σ)) (fd_pF (fv_Mm_drop σ (fv_Mm_firstToEnd σ)) (fd_mS (fv_Mm_drop σ (fv_Mm_firstToEnd σ))).toNatClampNeg) j2 (FP.dadd p3 v9)) ((fd_mS (fv_Pm_write (fv_Mm_drop σ (fv_Mm_firstToEnd σ)) (fd_pF (fv_Mm_drop σ (fv_Mm_firstToEnd σ)) (fd_mS (fv_Mm_drop σ (fv_Mm_firstToEnd σ))).toNatClampNeg) j2 (FP.dadd p3 v9))) + 1)) hQ hx hb hr ⟨by rw [fv_Mm_remember, if_pos c1, ← hv9, fv_Mm_remember_j9], hI12⟩ hP hD hS fx_Mm_remember_68 hlocks
    refine lv_if_ge (tgt := 35) hx hb fx_Mm_remember_25 (by decide) (fun c13 => ?_) (fun c13 => ?_)
    · refine lv_ldc2d (v := 4621819117588971520) hx hb hown (hts _ (List.mem_cons_of_mem _ fq_429)) fx_Mm_remember_35 ?_
      exact hJ9 H locs hP hD hS 4621819117588971520 (by rw [if_pos c13])
    · refine lv_aload_n hx hb fx_Mm_remember_28 rfl (lv_at hl 2 rfl) ?_
      refine va_getN (D := D) (ci := 3) (v := .double (fd_rD (fv_Mm_drop σ (fv_Mm_firstToEnd σ)) j2)) (C := fn_R_Rs) (T := fn_T_Rs) (N := 13) hx hb hts fn_j_Rs hown hK hP (5 + j2) (fd_w_res hj2) rfl 10 (by decide) (va_Nw.use rfl (hN _ fq_50)) (fun _ h9 => h9) rfl fx_Mm_remember_29 ?_
      refine lv_goto (tgt := 38) hx hb fx_Mm_remember_32 (by decide) ?_
      exact hJ9 H locs hP hD hS (fd_rD (fv_Mm_drop σ (fv_Mm_firstToEnd σ)) j2) (by rw [if_neg c13])
def fv_Dk_ask_j3 (σ : FDS) (j1 : Nat) (v3 : Bool) : Bool × FDS := if v3 = true then if (fv_Dk_lets (fv_Mm_forget (fd_sdI σ 7 ((fd_dI σ 7) + 1))) (fd_rI (fv_Mm_forget (fd_sdI σ 7 ((fd_dI σ 7) + 1))) j1 8) (fd_rI (fv_Mm_forget (fd_sdI σ 7 ((fd_dI σ 7) + 1))) j1 9)) = true then if (Op.cmpValue (FP.dcmp (fd_rD (fv_Mm_forget (fd_sdI σ 7 ((fd_dI σ 7) + 1))) j1) FP.dconst0) .l) ≤ 0 then (true, (fv_Mm_forget (fd_sdI σ 7 ((fd_dI σ 7) + 1)))) else if (fd_qI (fv_Mm_forget (fd_sdI σ 7 ((fd_dI σ 7) + 1))) 0) = 6 then (true, (fv_Mm_forget (fd_sdI σ 7 ((fd_dI σ 7) + 1)))) else (true, (fv_Mm_remember (fv_Mm_forget (fd_sdI σ 7 ((fd_dI σ 7) + 1))) j1 (fd_dT (fv_Mm_forget (fd_sdI σ 7 ((fd_dI σ 7) + 1)))))) else (false, (fv_Mm_forget (fd_sdI σ 7 ((fd_dI σ 7) + 1)))) else (false, (fv_Mm_forget (fd_sdI σ 7 ((fd_dI σ 7) + 1))))
def fv_Dk_ask (σ : FDS) (j1 : Nat) : Bool × FDS := fv_Dk_ask_j3 σ j1 (if (fd_rB (fv_Mm_forget (fd_sdI σ 7 ((fd_dI σ 7) + 1))) j1 7) = true then if (fv_Rq_passes (fv_Mm_forget (fd_sdI σ 7 ((fd_dI σ 7) + 1))) j1) = true then true else false else false)
set_option maxHeartbeats 4000000 in
set_option maxRecDepth 100000 in
theorem fc_Dk_ask (l : Launch) (D : va_G) (cR cP : ClassId) (ad : Nat → Nat) (sz : Nat) (σ : FDS) (j1 : Nat) (hj1 : j1 < 48) (hI : fd_Inv σ)  : Met l fy_Dk_ask (fw_Dk_ask :: fb_tbl) ({ frames := 2, cells := 0, slots := 0, locals := 50 } : Room) (fd_Pc D cR cP ad [.ref (ad 0), .ref (ad (3 + j1))] σ sz) ((fun A => va_Qi (fun (r : Int32) (u : FDS) => (fd_bi (fv_Dk_ask σ j1).1, (fv_Dk_ask σ j1).2) = (r, u) ∧ fd_Inv u) (fd_B D cR cP ad A) A) (va_A (fd_w cR cP ad σ) sz)) 0 0 (va_A (fd_w cR cP ad σ) sz) := by
  refine fd_ofW (cc := fb_Dk_ask) (maxL := 3) (ret := (some .boolean)) (Qf := fun A => va_Qi (fun (r : Int32) (u : FDS) => (fd_bi (fv_Dk_ask σ j1).1, (fv_Dk_ask σ j1).2) = (r, u) ∧ fd_Inv u) (fd_B D cR cP ad A) A) (by decide) (Nat.le_of_ble_eq_true rfl) ?_
  intro p e s m args below meth c A Q hQ hx hb hr hts hown hlocks hml hP hK hD hS hA hN ls hl
  have hown : s.vm.findClass fn_R_Dk = some m.cls := hown
  have hl : lv_has ls 3 [(0, .ref (ad 0)), (1, .ref (ad (3 + j1)))] := hl
  suffices hgo : ∀ (H : Heap) (locs : List Loc), va_P D fn_cl (fd_w cR cP ad σ) H → va_D A (fd_w cR cP ad σ) → va_S A s.heap H locs → W p l e ({ frames := 2, cells := 0, slots := 0, locals := 50 } : Room) s m args below meth c H locs 0 0 Q (F0 m 0 ls []) from hgo _ _ hP hD hS
  clear hP hD hS
  intro H locs hP hD hS
  refine lv_aload_n hx hb fx_Dk_ask_0 rfl (lv_at hl 0 rfl) ?_
  refine lv_dup hx hb fx_Dk_ask_1 rfl ?_
  refine va_get (D := D) (ci := 4) (v := .int (fd_dI σ 7)) (C := fn_R_Dk) (T := fn_T_Dk) (N := 9) hx hb hts fn_j_Dk hown hK hP 0 rfl rfl 7 (by decide) (hts _ (List.mem_cons_of_mem _ fq_211)) (fun _ h9 => h9) rfl fx_Dk_ask_2 ?_
  refine lv_iconst (v := 1) hx hb fx_Dk_ask_5 (by decide) ?_
  refine lv_iadd hx hb fx_Dk_ask_6 ?_
  refine va_put (D := D) (ci := 4) (v := .int ((fd_dI σ 7) + 1)) (ty := .int) (C := fn_R_Dk) (T := fn_T_Dk) (N := 9) hx hb hts fn_j_Dk fn_t_Dk fn_k_Dk fn_n_Dk hown hK hP hD hS 0 rfl rfl 7 (by decide) (hts _ (List.mem_cons_of_mem _ fq_211)) (fun _ h9 => h9) rfl (by decide +kernel) rfl rfl (Nat.le_of_ble_eq_true rfl) fx_Dk_ask_7 (fun H locs hP hD hS => ?_)
  rw [fd_set_Dk_7] at hP hD
  have hI1 : fd_Inv (fd_sdI σ 7 ((fd_dI σ 7) + 1)) := fd_inv_sdI hI
  refine lv_aload_n hx hb fx_Dk_ask_10 rfl (lv_at hl 0 rfl) ?_
  refine va_get (D := D) (ci := 4) (v := .ref (ad 1)) (C := fn_R_Dk) (T := fn_T_Dk) (N := 9) hx hb hts fn_j_Dk hown hK hP 0 rfl rfl 1 (by decide) (hts _ (List.mem_cons_of_mem _ fq_205)) (fun _ h9 => h9) rfl fx_Dk_ask_11 ?_
  refine lv_aload_n hx hb fx_Dk_ask_14 rfl (lv_at hl 0 rfl) ?_
  refine va_get (D := D) (ci := 4) (v := .ref (ad 2)) (C := fn_R_Dk) (T := fn_T_Dk) (N := 9) hx hb hts fn_j_Dk hown hK hP 0 rfl rfl 2 (by decide) (hts _ (List.mem_cons_of_mem _ fq_206)) (fun _ h9 => h9) rfl fx_Dk_ask_15 ?_
  refine fd_callvm (va_runVN (As := [.ref (ad 2)]) (rest := []) ⟨hx, hb, hml, hown, hts⟩ (fc_Mm_forget l D cR cP ad H.size (fd_sdI σ 7 ((fd_dI σ 7) + 1))  hI1 ) ⟨va_cnB 1 hts (fb_good fm_Mm_forget) rfl rfl rfl (hN _ fq_408) (hts _ (List.mem_cons_of_mem _ fq_3)) (by decide +kernel) ⟨Nat.le_of_ble_eq_true rfl, Nat.le_of_ble_eq_true rfl⟩, (hts _ (List.mem_cons_of_mem _ fq_410)), (hts _ (List.mem_cons_of_mem _ fp_Mm_forget))⟩ (fd_preV hP hK hD hN (va_recv hK hP (ci := 0) (q0 := 1) rfl rfl)) rfl rfl hl.1 rfl (lv_room (Nat.le_of_ble_eq_true rfl)) fx_Dk_ask_18 ⟨Nat.le_of_ble_eq_true rfl, Nat.le_of_ble_eq_true rfl⟩) hD hS hA (fun H locs hP hD hS hI2 => ?_)
  refine lv_aload_n hx hb fx_Dk_ask_21 rfl (lv_at hl 1 rfl) ?_
  refine va_getN (D := D) (ci := 3) (v := .int (fd_bi (fd_rB (fv_Mm_forget (fd_sdI σ 7 ((fd_dI σ 7) + 1))) j1 7))) (C := fn_R_Rs) (T := fn_T_Rs) (N := 13) hx hb hts fn_j_Rs hown hK hP (5 + j1) (fd_w_res hj1) rfl 7 (by decide) (va_Nw.use rfl (hN _ fq_44)) (fun _ h9 => h9) rfl fx_Dk_ask_22 ?_
  have hJ3 : ∀ (H : Heap) (locs : List Loc), va_P D fn_cl (fd_w cR cP ad (fv_Mm_forget (fd_sdI σ 7 ((fd_dI σ 7) + 1)))) H → va_D A (fd_w cR cP ad (fv_Mm_forget (fd_sdI σ 7 ((fd_dI σ 7) + 1)))) → va_S A s.heap H locs → ∀ (v3 : Bool), v3 = (if (fd_rB (fv_Mm_forget (fd_sdI σ 7 ((fd_dI σ 7) + 1))) j1 7) = true then if (fv_Rq_passes (fv_Mm_forget (fd_sdI σ 7 ((fd_dI σ 7) + 1))) j1) = true then true else false else false) → W p l e ({ frames := 2, cells := 0, slots := 0, locals := 50 } : Room) s m args below meth c H locs 0 0 Q (F0 m 44 ls [.int (fd_bi v3)]) := by
    intro H locs hP hD hS v3 hv3
    refine lv_istore_n (lv' := [(2, .int (fd_bi v3)), (0, .ref (ad 0)), (1, .ref (ad (3 + j1)))]) hx hb fx_Dk_ask_44 rfl hl (by decide) rfl (fun ls hl => ?_)
    refine lv_iload_n hx hb fx_Dk_ask_45 rfl (lv_at hl 0 rfl) ?_
    refine fd_ifeq (tgt := 67) hx hb fx_Dk_ask_46 (by decide) (fun c4 => ?_) (fun c4 => ?_)
    · refine lv_iconst (v := 0) hx hb fx_Dk_ask_67 (by decide) ?_
      exact fd_zret (r := false) (u := (fv_Mm_forget (fd_sdI σ 7 ((fd_dI σ 7) + 1)))) hQ hx hb hr ⟨by rw [fv_Dk_ask, ← hv3, fv_Dk_ask_j3, if_neg c4], hI2⟩ hP hD hS fx_Dk_ask_68 hlocks
    · refine lv_aload_n hx hb fx_Dk_ask_49 rfl (lv_at hl 2 rfl) ?_
      refine va_getN (D := D) (ci := 3) (v := .int (fd_rI (fv_Mm_forget (fd_sdI σ 7 ((fd_dI σ 7) + 1))) j1 8)) (C := fn_R_Rs) (T := fn_T_Rs) (N := 13) hx hb hts fn_j_Rs hown hK hP (5 + j1) (fd_w_res hj1) rfl 8 (by decide) (va_Nw.use rfl (hN _ fq_46)) (fun _ h9 => h9) rfl fx_Dk_ask_50 ?_
      refine lv_aload_n hx hb fx_Dk_ask_53 rfl (lv_at hl 2 rfl) ?_
      refine va_getN (D := D) (ci := 3) (v := .int (fd_rI (fv_Mm_forget (fd_sdI σ 7 ((fd_dI σ 7) + 1))) j1 9)) (C := fn_R_Rs) (T := fn_T_Rs) (N := 13) hx hb hts fn_j_Rs hown hK hP (5 + j1) (fd_w_res hj1) rfl 9 (by decide) (va_Nw.use rfl (hN _ fq_48)) (fun _ h9 => h9) rfl fx_Dk_ask_54 ?_
      refine lv_aload_n hx hb fx_Dk_ask_57 rfl (lv_at hl 1 rfl) ?_
      refine va_get (D := D) (ci := 4) (v := .ref (ad 2)) (C := fn_R_Dk) (T := fn_T_Dk) (N := 9) hx hb hts fn_j_Dk hown hK hP 0 rfl rfl 2 (by decide) (hts _ (List.mem_cons_of_mem _ fq_206)) (fun _ h9 => h9) rfl fx_Dk_ask_58 ?_
      refine fd_callz (va_runS (As := [.int (fd_rI (fv_Mm_forget (fd_sdI σ 7 ((fd_dI σ 7) + 1))) j1 8), .int (fd_rI (fv_Mm_forget (fd_sdI σ 7 ((fd_dI σ 7) + 1))) j1 9), .ref (ad 2)]) (rest := []) ⟨hx, hb, hml, hown, hts⟩ (fc_Dk_lets l D cR cP ad H.size (fv_Mm_forget (fd_sdI σ 7 ((fd_dI σ 7) + 1))) (fd_rI (fv_Mm_forget (fd_sdI σ 7 ((fd_dI σ 7) + 1))) j1 8) (fd_rI (fv_Mm_forget (fd_sdI σ 7 ((fd_dI σ 7) + 1))) j1 9) hI2 ) ⟨callB_of 3 hts (fb_good fm_Dk_lets) rfl rfl rfl (hts _ (List.mem_cons_of_mem _ fq_1)) (hts _ (List.mem_cons_of_mem _ fq_420)) (by decide +kernel) ⟨Nat.le_of_ble_eq_true rfl, Nat.le_of_ble_eq_true rfl⟩, (hts _ (List.mem_cons_of_mem _ fq_402))⟩ (fd_preS hP hK hD hN) rfl rfl hl.1 rfl (lv_room (Nat.le_of_ble_eq_true rfl)) fx_Dk_ask_61 ⟨Nat.le_of_ble_eq_true rfl, Nat.le_of_ble_eq_true rfl⟩) hD hS hA (fun H locs hP hD hS => ?_)
      refine fd_ifne (tgt := 69) hx hb fx_Dk_ask_64 (by decide) (fun c6 => ?_) (fun c6 => ?_)
      · refine lv_aload_n hx hb fx_Dk_ask_69 rfl (lv_at hl 2 rfl) ?_
        refine va_getN (D := D) (ci := 3) (v := .double (fd_rD (fv_Mm_forget (fd_sdI σ 7 ((fd_dI σ 7) + 1))) j1)) (C := fn_R_Rs) (T := fn_T_Rs) (N := 13) hx hb hts fn_j_Rs hown hK hP (5 + j1) (fd_w_res hj1) rfl 10 (by decide) (va_Nw.use rfl (hN _ fq_49)) (fun _ h9 => h9) rfl fx_Dk_ask_70 ?_
        refine lv_dconst0 hx hb fx_Dk_ask_73 ?_
        refine lv_dcmp hx hb fx_Dk_ask_74 ?_
        refine lv_if_le (tgt := 106) hx hb fx_Dk_ask_75 (by decide) (fun c7 => ?_) (fun c7 => ?_)
        · refine lv_iconst (v := 1) hx hb fx_Dk_ask_106 (by decide) ?_
          exact fd_zret (r := true) (u := (fv_Mm_forget (fd_sdI σ 7 ((fd_dI σ 7) + 1)))) hQ hx hb hr ⟨by rw [fv_Dk_ask, ← hv3, fv_Dk_ask_j3, if_pos c4, if_pos c6, if_pos c7], hI2⟩ hP hD hS fx_Dk_ask_107 hlocks
        · refine lv_aload_n hx hb fx_Dk_ask_78 rfl (lv_at hl 1 rfl) ?_
          refine va_get (D := D) (ci := 4) (v := .ref (ad 2)) (C := fn_R_Dk) (T := fn_T_Dk) (N := 9) hx hb hts fn_j_Dk hown hK hP 0 rfl rfl 2 (by decide) (hts _ (List.mem_cons_of_mem _ fq_206)) (fun _ h9 => h9) rfl fx_Dk_ask_79 ?_
          refine va_getN (D := D) (ci := 2) (v := .int (fd_qI (fv_Mm_forget (fd_sdI σ 7 ((fd_dI σ 7) + 1))) 0)) (C := fn_R_Rq) (T := fn_T_Rq) (N := 15) hx hb hts fn_j_Rq hown hK hP 2 rfl rfl 0 (by decide) (va_Nw.use rfl (hN _ fq_142)) (fun _ h9 => h9) rfl fx_Dk_ask_82 ?_
          refine lv_bipush (v := 6) hx hb fx_Dk_ask_85 (by decide) ?_
          refine lv_icmp_eq (tgt := 106) hx hb fx_Dk_ask_87 (by decide) (fun c8 => ?_) (fun c8 => ?_)
          · refine lv_iconst (v := 1) hx hb fx_Dk_ask_106 (by decide) ?_
            exact fd_zret (r := true) (u := (fv_Mm_forget (fd_sdI σ 7 ((fd_dI σ 7) + 1)))) hQ hx hb hr ⟨by rw [fv_Dk_ask, ← hv3, fv_Dk_ask_j3, if_pos c4, if_pos c6, if_neg c7, if_pos c8], hI2⟩ hP hD hS fx_Dk_ask_107 hlocks
          · refine lv_aload_n hx hb fx_Dk_ask_90 rfl (lv_at hl 1 rfl) ?_
            refine va_get (D := D) (ci := 4) (v := .ref (ad 1)) (C := fn_R_Dk) (T := fn_T_Dk) (N := 9) hx hb hts fn_j_Dk hown hK hP 0 rfl rfl 1 (by decide) (hts _ (List.mem_cons_of_mem _ fq_205)) (fun _ h9 => h9) rfl fx_Dk_ask_91 ?_
            refine lv_aload_n hx hb fx_Dk_ask_94 rfl (lv_at hl 1 rfl) ?_
            refine va_get (D := D) (ci := 4) (v := .ref (ad 2)) (C := fn_R_Dk) (T := fn_T_Dk) (N := 9) hx hb hts fn_j_Dk hown hK hP 0 rfl rfl 2 (by decide) (hts _ (List.mem_cons_of_mem _ fq_206)) (fun _ h9 => h9) rfl fx_Dk_ask_95 ?_
            refine lv_aload_n hx hb fx_Dk_ask_98 rfl (lv_at hl 2 rfl) ?_
            refine lv_aload_n hx hb fx_Dk_ask_99 rfl (lv_at hl 1 rfl) ?_
            refine va_get (D := D) (ci := 4) (v := .double (fd_dT (fv_Mm_forget (fd_sdI σ 7 ((fd_dI σ 7) + 1))))) (C := fn_R_Dk) (T := fn_T_Dk) (N := 9) hx hb hts fn_j_Dk hown hK hP 0 rfl rfl 3 (by decide) (hts _ (List.mem_cons_of_mem _ fq_207)) (fun _ h9 => h9) rfl fx_Dk_ask_100 ?_
            refine fd_callvm (va_runVN (As := [.ref (ad 2), .ref (ad (3 + j1)), .double (fd_dT (fv_Mm_forget (fd_sdI σ 7 ((fd_dI σ 7) + 1))))]) (rest := []) ⟨hx, hb, hml, hown, hts⟩ (fc_Mm_remember l D cR cP ad H.size (fv_Mm_forget (fd_sdI σ 7 ((fd_dI σ 7) + 1))) j1 hj1 (fd_dT (fv_Mm_forget (fd_sdI σ 7 ((fd_dI σ 7) + 1)))) hI2 hI2.2.2.2.2.1) ⟨va_cnB 3 hts (fb_good fm_Mm_remember) rfl rfl rfl (hN _ fq_421) (hts _ (List.mem_cons_of_mem _ fq_3)) (by decide +kernel) ⟨Nat.le_of_ble_eq_true rfl, Nat.le_of_ble_eq_true rfl⟩, (hts _ (List.mem_cons_of_mem _ fq_423)), (hts _ (List.mem_cons_of_mem _ fp_Mm_remember))⟩ (fd_preV hP hK hD hN (va_recv hK hP (ci := 0) (q0 := 1) rfl rfl)) rfl rfl hl.1 rfl (lv_room (Nat.le_of_ble_eq_true rfl)) fx_Dk_ask_103 ⟨Nat.le_of_ble_eq_true rfl, Nat.le_of_ble_eq_true rfl⟩) hD hS hA (fun H locs hP hD hS hI9 => ?_)
            refine lv_iconst (v := 1) hx hb fx_Dk_ask_106 (by decide) ?_
            exact fd_zret (r := true) (u := (fv_Mm_remember (fv_Mm_forget (fd_sdI σ 7 ((fd_dI σ 7) + 1))) j1 (fd_dT (fv_Mm_forget (fd_sdI σ 7 ((fd_dI σ 7) + 1)))))) hQ hx hb hr ⟨by rw [fv_Dk_ask, ← hv3, fv_Dk_ask_j3, if_pos c4, if_pos c6, if_neg c7, if_neg c8], hI9⟩ hP hD hS fx_Dk_ask_107 hlocks
      · refine lv_iconst (v := 0) hx hb fx_Dk_ask_67 (by decide) ?_
        exact fd_zret (r := false) (u := (fv_Mm_forget (fd_sdI σ 7 ((fd_dI σ 7) + 1)))) hQ hx hb hr ⟨by rw [fv_Dk_ask, ← hv3, fv_Dk_ask_j3, if_pos c4, if_neg c6], hI2⟩ hP hD hS fx_Dk_ask_68 hlocks
  refine fd_ifeq (tgt := 43) hx hb fx_Dk_ask_25 (by decide) (fun c10 => ?_) (fun c10 => ?_)
  · refine lv_iconst (v := 0) hx hb fx_Dk_ask_43 (by decide) ?_
    exact hJ3 H locs hP hD hS false (by rw [if_neg c10])
  · refine lv_aload_n hx hb fx_Dk_ask_28 rfl (lv_at hl 0 rfl) ?_
    refine va_get (D := D) (ci := 4) (v := .ref (ad 2)) (C := fn_R_Dk) (T := fn_T_Dk) (N := 9) hx hb hts fn_j_Dk hown hK hP 0 rfl rfl 2 (by decide) (hts _ (List.mem_cons_of_mem _ fq_206)) (fun _ h9 => h9) rfl fx_Dk_ask_29 ?_
    refine lv_aload_n hx hb fx_Dk_ask_32 rfl (lv_at hl 1 rfl) ?_
    refine fd_callz (va_runVN (As := [.ref (ad (3 + j1))]) (rest := []) ⟨hx, hb, hml, hown, hts⟩ (fc_Rq_passes l D cR cP ad H.size (fv_Mm_forget (fd_sdI σ 7 ((fd_dI σ 7) + 1))) j1 hj1 hI2 ) ⟨va_cnB 1 hts (fb_good fm_Rq_passes) rfl rfl rfl (hN _ fq_416) (hts _ (List.mem_cons_of_mem _ fq_5)) (by decide +kernel) ⟨Nat.le_of_ble_eq_true rfl, Nat.le_of_ble_eq_true rfl⟩, (hts _ (List.mem_cons_of_mem _ fq_418)), (hts _ (List.mem_cons_of_mem _ fp_Rq_passes))⟩ (fd_preV hP hK hD hN (va_recv hK hP (ci := 2) (q0 := 2) rfl rfl)) rfl rfl hl.1 rfl (lv_room (Nat.le_of_ble_eq_true rfl)) fx_Dk_ask_33 ⟨Nat.le_of_ble_eq_true rfl, Nat.le_of_ble_eq_true rfl⟩) hD hS hA (fun H locs hP hD hS => ?_)
    refine fd_ifeq (tgt := 43) hx hb fx_Dk_ask_36 (by decide) (fun c12 => ?_) (fun c12 => ?_)
    · refine lv_iconst (v := 0) hx hb fx_Dk_ask_43 (by decide) ?_
      exact hJ3 H locs hP hD hS false (by rw [if_pos c10, if_neg c12])
    · refine lv_iconst (v := 1) hx hb fx_Dk_ask_39 (by decide) ?_
      refine lv_goto (tgt := 44) hx hb fx_Dk_ask_40 (by decide) ?_
      exact hJ3 H locs hP hD hS true (by rw [if_pos c10, if_pos c12])
def fv_Dk_errorBeforeRequesting_j9 (σ : FDS) (j1 : Nat) (v9 : Int32) : Int32 × FDS := (v9, (fv_Dk_ask σ j1).2)
def fv_Dk_errorBeforeRequesting_j20 (σ : FDS) (j1 : Nat) (v20 : Int32) : Int32 × FDS := (v20, (fv_Dk_ask σ j1).2)
def fv_Dk_errorBeforeRequesting (σ : FDS) (j1 : Nat) : Int32 × FDS := if (fd_qB σ 8) = true then if (fd_qI σ 4) = 0 then (1, σ) else if (fv_Rq_mustPass σ) = true then if (fv_Dk_isPlain σ (fd_qI σ 2) (fd_qI σ 3)) = true then (0, σ) else if (fv_Mm_covers σ (fd_dT σ)) = true then (0, fd_sdI σ 8 ((fd_dI σ 8) + 1)) else fv_Dk_errorBeforeRequesting_j20 σ j1 (if ((fv_Dk_ask σ j1).1) = true then 0 else 2) else (0, σ) else if (fv_Rq_mustPass σ) = true then if (fv_Dk_isPlain σ (fd_qI σ 2) (fd_qI σ 3)) = true then (0, σ) else if (fv_Mm_covers σ (fd_dT σ)) = true then (0, fd_sdI σ 8 ((fd_dI σ 8) + 1)) else fv_Dk_errorBeforeRequesting_j9 σ j1 (if ((fv_Dk_ask σ j1).1) = true then 0 else 2) else (0, σ)
set_option maxHeartbeats 4000000 in
set_option maxRecDepth 100000 in
theorem fc_Dk_errorBeforeRequesting (l : Launch) (D : va_G) (cR cP : ClassId) (ad : Nat → Nat) (sz : Nat) (σ : FDS) (j1 : Nat) (hj1 : j1 < 48) (hI : fd_Inv σ)  : Met l fy_Dk_errorBeforeRequesting (fw_Dk_errorBeforeRequesting :: fb_tbl) ({ frames := 3, cells := 0, slots := 0, locals := 72 } : Room) (fd_Pc D cR cP ad [.ref (ad 0), .ref (ad (3 + j1))] σ sz) ((fun A => va_Qi (fun (r : Int32) (u : FDS) => fv_Dk_errorBeforeRequesting σ j1 = (r, u) ∧ fd_Inv u) (fd_B D cR cP ad A) A) (va_A (fd_w cR cP ad σ) sz)) 0 0 (va_A (fd_w cR cP ad σ) sz) := by
  refine fd_ofW (cc := fb_Dk_errorBeforeRequesting) (maxL := 2) (ret := (some .int)) (Qf := fun A => va_Qi (fun (r : Int32) (u : FDS) => fv_Dk_errorBeforeRequesting σ j1 = (r, u) ∧ fd_Inv u) (fd_B D cR cP ad A) A) (by decide) (Nat.le_of_ble_eq_true rfl) ?_
  intro p e s m args below meth c A Q hQ hx hb hr hts hown hlocks hml hP hK hD hS hA hN ls hl
  have hown : s.vm.findClass fn_R_Dk = some m.cls := hown
  have hl : lv_has ls 2 [(0, .ref (ad 0)), (1, .ref (ad (3 + j1)))] := hl
  suffices hgo : ∀ (H : Heap) (locs : List Loc), va_P D fn_cl (fd_w cR cP ad σ) H → va_D A (fd_w cR cP ad σ) → va_S A s.heap H locs → W p l e ({ frames := 3, cells := 0, slots := 0, locals := 72 } : Room) s m args below meth c H locs 0 0 Q (F0 m 0 ls []) from hgo _ _ hP hD hS
  clear hP hD hS
  intro H locs hP hD hS
  refine lv_aload_n hx hb fx_Dk_errorBeforeRequesting_0 rfl (lv_at hl 0 rfl) ?_
  refine va_get (D := D) (ci := 4) (v := .ref (ad 2)) (C := fn_R_Dk) (T := fn_T_Dk) (N := 9) hx hb hts fn_j_Dk hown hK hP 0 rfl rfl 2 (by decide) (hts _ (List.mem_cons_of_mem _ fq_206)) (fun _ h9 => h9) rfl fx_Dk_errorBeforeRequesting_1 ?_
  refine va_getN (D := D) (ci := 2) (v := .int (fd_bi (fd_qB σ 8))) (C := fn_R_Rq) (T := fn_T_Rq) (N := 15) hx hb hts fn_j_Rq hown hK hP 2 rfl rfl 8 (by decide) (va_Nw.use rfl (hN _ fq_158)) (fun _ h9 => h9) rfl fx_Dk_errorBeforeRequesting_4 ?_
  refine fd_ifeq (tgt := 22) hx hb fx_Dk_errorBeforeRequesting_7 (by decide) (fun c1 => ?_) (fun c1 => ?_)
  · refine lv_aload_n hx hb fx_Dk_errorBeforeRequesting_22 rfl (lv_at hl 0 rfl) ?_
    refine va_get (D := D) (ci := 4) (v := .ref (ad 2)) (C := fn_R_Dk) (T := fn_T_Dk) (N := 9) hx hb hts fn_j_Dk hown hK hP 0 rfl rfl 2 (by decide) (hts _ (List.mem_cons_of_mem _ fq_206)) (fun _ h9 => h9) rfl fx_Dk_errorBeforeRequesting_23 ?_
    refine fd_callz (va_runVN (As := []) (rest := []) ⟨hx, hb, hml, hown, hts⟩ (fc_Rq_mustPass l D cR cP ad H.size σ  hI ) ⟨va_cnB 0 hts (fb_good fm_Rq_mustPass) rfl rfl rfl (hN _ fq_389) (hts _ (List.mem_cons_of_mem _ fq_5)) (by decide +kernel) ⟨Nat.le_of_ble_eq_true rfl, Nat.le_of_ble_eq_true rfl⟩, (hts _ (List.mem_cons_of_mem _ fq_391)), (hts _ (List.mem_cons_of_mem _ fp_Rq_mustPass))⟩ (fd_preV hP hK hD hN (va_recv hK hP (ci := 2) (q0 := 2) rfl rfl)) rfl rfl hl.1 rfl (lv_room (Nat.le_of_ble_eq_true rfl)) fx_Dk_errorBeforeRequesting_26 ⟨Nat.le_of_ble_eq_true rfl, Nat.le_of_ble_eq_true rfl⟩) hD hS hA (fun H locs hP hD hS => ?_)
    refine fd_ifeq (tgt := 52) hx hb fx_Dk_errorBeforeRequesting_29 (by decide) (fun c3 => ?_) (fun c3 => ?_)
    · refine lv_iconst (v := 0) hx hb fx_Dk_errorBeforeRequesting_52 (by decide) ?_
      exact fd_iret (r := 0) (u := σ) hQ hx hb hr ⟨by rw [fv_Dk_errorBeforeRequesting, if_neg c1, if_neg c3], hI⟩ hP hD hS fx_Dk_errorBeforeRequesting_53 hlocks
    · refine lv_aload_n hx hb fx_Dk_errorBeforeRequesting_32 rfl (lv_at hl 0 rfl) ?_
      refine va_get (D := D) (ci := 4) (v := .ref (ad 2)) (C := fn_R_Dk) (T := fn_T_Dk) (N := 9) hx hb hts fn_j_Dk hown hK hP 0 rfl rfl 2 (by decide) (hts _ (List.mem_cons_of_mem _ fq_206)) (fun _ h9 => h9) rfl fx_Dk_errorBeforeRequesting_33 ?_
      refine va_getN (D := D) (ci := 2) (v := .int (fd_qI σ 2)) (C := fn_R_Rq) (T := fn_T_Rq) (N := 15) hx hb hts fn_j_Rq hown hK hP 2 rfl rfl 2 (by decide) (va_Nw.use rfl (hN _ fq_148)) (fun _ h9 => h9) rfl fx_Dk_errorBeforeRequesting_36 ?_
      refine lv_aload_n hx hb fx_Dk_errorBeforeRequesting_39 rfl (lv_at hl 0 rfl) ?_
      refine va_get (D := D) (ci := 4) (v := .ref (ad 2)) (C := fn_R_Dk) (T := fn_T_Dk) (N := 9) hx hb hts fn_j_Dk hown hK hP 0 rfl rfl 2 (by decide) (hts _ (List.mem_cons_of_mem _ fq_206)) (fun _ h9 => h9) rfl fx_Dk_errorBeforeRequesting_40 ?_
      refine va_getN (D := D) (ci := 2) (v := .int (fd_qI σ 3)) (C := fn_R_Rq) (T := fn_T_Rq) (N := 15) hx hb hts fn_j_Rq hown hK hP 2 rfl rfl 3 (by decide) (va_Nw.use rfl (hN _ fq_150)) (fun _ h9 => h9) rfl fx_Dk_errorBeforeRequesting_43 ?_
      refine fd_callz (va_runS (As := [.int (fd_qI σ 2), .int (fd_qI σ 3)]) (rest := []) ⟨hx, hb, hml, hown, hts⟩ (fc_Dk_isPlain l D cR cP ad H.size σ (fd_qI σ 2) (fd_qI σ 3) hI ) ⟨callB_of 2 hts (fb_good fm_Dk_isPlain) rfl rfl rfl (hts _ (List.mem_cons_of_mem _ fq_1)) (hts _ (List.mem_cons_of_mem _ fq_356)) (by decide +kernel) ⟨Nat.le_of_ble_eq_true rfl, Nat.le_of_ble_eq_true rfl⟩, (hts _ (List.mem_cons_of_mem _ fq_357))⟩ (fd_preS hP hK hD hN) rfl rfl hl.1 rfl (lv_room (Nat.le_of_ble_eq_true rfl)) fx_Dk_errorBeforeRequesting_46 ⟨Nat.le_of_ble_eq_true rfl, Nat.le_of_ble_eq_true rfl⟩) hD hS hA (fun H locs hP hD hS => ?_)
      refine fd_ifeq (tgt := 54) hx hb fx_Dk_errorBeforeRequesting_49 (by decide) (fun c5 => ?_) (fun c5 => ?_)
      · refine lv_aload_n hx hb fx_Dk_errorBeforeRequesting_54 rfl (lv_at hl 0 rfl) ?_
        refine va_get (D := D) (ci := 4) (v := .ref (ad 1)) (C := fn_R_Dk) (T := fn_T_Dk) (N := 9) hx hb hts fn_j_Dk hown hK hP 0 rfl rfl 1 (by decide) (hts _ (List.mem_cons_of_mem _ fq_205)) (fun _ h9 => h9) rfl fx_Dk_errorBeforeRequesting_55 ?_
        refine lv_aload_n hx hb fx_Dk_errorBeforeRequesting_58 rfl (lv_at hl 0 rfl) ?_
        refine va_get (D := D) (ci := 4) (v := .ref (ad 2)) (C := fn_R_Dk) (T := fn_T_Dk) (N := 9) hx hb hts fn_j_Dk hown hK hP 0 rfl rfl 2 (by decide) (hts _ (List.mem_cons_of_mem _ fq_206)) (fun _ h9 => h9) rfl fx_Dk_errorBeforeRequesting_59 ?_
        refine lv_aload_n hx hb fx_Dk_errorBeforeRequesting_62 rfl (lv_at hl 0 rfl) ?_
        refine va_get (D := D) (ci := 4) (v := .double (fd_dT σ)) (C := fn_R_Dk) (T := fn_T_Dk) (N := 9) hx hb hts fn_j_Dk hown hK hP 0 rfl rfl 3 (by decide) (hts _ (List.mem_cons_of_mem _ fq_207)) (fun _ h9 => h9) rfl fx_Dk_errorBeforeRequesting_63 ?_
        refine fd_callz (va_runVN (As := [.ref (ad 2), .double (fd_dT σ)]) (rest := []) ⟨hx, hb, hml, hown, hts⟩ (fc_Mm_covers l D cR cP ad H.size σ (fd_dT σ) hI ) ⟨va_cnB 2 hts (fb_good fm_Mm_covers) rfl rfl rfl (hN _ fq_393) (hts _ (List.mem_cons_of_mem _ fq_3)) (by decide +kernel) ⟨Nat.le_of_ble_eq_true rfl, Nat.le_of_ble_eq_true rfl⟩, (hts _ (List.mem_cons_of_mem _ fq_395)), (hts _ (List.mem_cons_of_mem _ fp_Mm_covers))⟩ (fd_preV hP hK hD hN (va_recv hK hP (ci := 0) (q0 := 1) rfl rfl)) rfl rfl hl.1 rfl (lv_room (Nat.le_of_ble_eq_true rfl)) fx_Dk_errorBeforeRequesting_66 ⟨Nat.le_of_ble_eq_true rfl, Nat.le_of_ble_eq_true rfl⟩) hD hS hA (fun H locs hP hD hS => ?_)
        refine fd_ifeq (tgt := 84) hx hb fx_Dk_errorBeforeRequesting_69 (by decide) (fun c7 => ?_) (fun c7 => ?_)
        · refine lv_aload_n hx hb fx_Dk_errorBeforeRequesting_84 rfl (lv_at hl 0 rfl) ?_
          refine lv_aload_n hx hb fx_Dk_errorBeforeRequesting_85 rfl (lv_at hl 1 rfl) ?_
          refine fd_callzm (va_runV (As := [.ref (ad (3 + j1))]) (rest := []) ⟨hx, hb, hml, hown, hts⟩ (fc_Dk_ask l D cR cP ad H.size σ j1 hj1 hI ) ⟨callB_of 1 hts (fb_good fm_Dk_ask) rfl rfl rfl (hts _ (List.mem_cons_of_mem _ fq_1)) (hts _ (List.mem_cons_of_mem _ fq_404)) (by decide +kernel) ⟨Nat.le_of_ble_eq_true rfl, Nat.le_of_ble_eq_true rfl⟩, (hts _ (List.mem_cons_of_mem _ fq_406)), (hts _ (List.mem_cons_of_mem _ fp_Dk_ask))⟩ (fd_preV hP hK hD hN (va_recv hK hP (ci := 4) (q0 := 0) rfl rfl)) rfl rfl hl.1 rfl (lv_room (Nat.le_of_ble_eq_true rfl)) fx_Dk_errorBeforeRequesting_86 ⟨Nat.le_of_ble_eq_true rfl, Nat.le_of_ble_eq_true rfl⟩) hD hS hA (fun H locs hP hD hS hI8 => ?_)
          have hJ9 : ∀ (H : Heap) (locs : List Loc), va_P D fn_cl (fd_w cR cP ad ((fv_Dk_ask σ j1).2)) H → va_D A (fd_w cR cP ad ((fv_Dk_ask σ j1).2)) → va_S A s.heap H locs → ∀ (v9 : Int32), v9 = (if ((fv_Dk_ask σ j1).1) = true then 0 else 2) → W p l e ({ frames := 3, cells := 0, slots := 0, locals := 72 } : Room) s m args below meth c H locs 0 0 Q (F0 m 97 ls [.int v9]) := by
            intro H locs hP hD hS v9 hv9
            exact fd_iret (r := v9) (u := (fv_Dk_ask σ j1).2) hQ hx hb hr ⟨by rw [fv_Dk_errorBeforeRequesting, if_neg c1, if_pos c3, if_neg c5, if_neg c7, ← hv9, fv_Dk_errorBeforeRequesting_j9], hI8⟩ hP hD hS fx_Dk_errorBeforeRequesting_97 hlocks
          refine fd_ifeq (tgt := 96) hx hb fx_Dk_errorBeforeRequesting_89 (by decide) (fun c10 => ?_) (fun c10 => ?_)
          · refine lv_iconst (v := 2) hx hb fx_Dk_errorBeforeRequesting_96 (by decide) ?_
            exact hJ9 H locs hP hD hS 2 (by rw [if_neg c10])
          · refine lv_iconst (v := 0) hx hb fx_Dk_errorBeforeRequesting_92 (by decide) ?_
            refine lv_goto (tgt := 97) hx hb fx_Dk_errorBeforeRequesting_93 (by decide) ?_
            exact hJ9 H locs hP hD hS 0 (by rw [if_pos c10])
        · refine lv_aload_n hx hb fx_Dk_errorBeforeRequesting_72 rfl (lv_at hl 0 rfl) ?_
          refine lv_dup hx hb fx_Dk_errorBeforeRequesting_73 rfl ?_
          refine va_get (D := D) (ci := 4) (v := .int (fd_dI σ 8)) (C := fn_R_Dk) (T := fn_T_Dk) (N := 9) hx hb hts fn_j_Dk hown hK hP 0 rfl rfl 8 (by decide) (hts _ (List.mem_cons_of_mem _ fq_212)) (fun _ h9 => h9) rfl fx_Dk_errorBeforeRequesting_74 ?_
          refine lv_iconst (v := 1) hx hb fx_Dk_errorBeforeRequesting_77 (by decide) ?_
          refine lv_iadd hx hb fx_Dk_errorBeforeRequesting_78 ?_
          refine va_put (D := D) (ci := 4) (v := .int ((fd_dI σ 8) + 1)) (ty := .int) (C := fn_R_Dk) (T := fn_T_Dk) (N := 9) hx hb hts fn_j_Dk fn_t_Dk fn_k_Dk fn_n_Dk hown hK hP hD hS 0 rfl rfl 8 (by decide) (hts _ (List.mem_cons_of_mem _ fq_212)) (fun _ h9 => h9) rfl (by decide +kernel) rfl rfl (Nat.le_of_ble_eq_true rfl) fx_Dk_errorBeforeRequesting_79 (fun H locs hP hD hS => ?_)
          rw [fd_set_Dk_8] at hP hD
          have hI11 : fd_Inv (fd_sdI σ 8 ((fd_dI σ 8) + 1)) := fd_inv_sdI hI
          refine lv_iconst (v := 0) hx hb fx_Dk_errorBeforeRequesting_82 (by decide) ?_
          exact fd_iret (r := 0) (u := fd_sdI σ 8 ((fd_dI σ 8) + 1)) hQ hx hb hr ⟨by rw [fv_Dk_errorBeforeRequesting, if_neg c1, if_pos c3, if_neg c5, if_pos c7], hI11⟩ hP hD hS fx_Dk_errorBeforeRequesting_83 hlocks
      · refine lv_iconst (v := 0) hx hb fx_Dk_errorBeforeRequesting_52 (by decide) ?_
        exact fd_iret (r := 0) (u := σ) hQ hx hb hr ⟨by rw [fv_Dk_errorBeforeRequesting, if_neg c1, if_pos c3, if_pos c5], hI⟩ hP hD hS fx_Dk_errorBeforeRequesting_53 hlocks
  · refine lv_aload_n hx hb fx_Dk_errorBeforeRequesting_10 rfl (lv_at hl 0 rfl) ?_
    refine va_get (D := D) (ci := 4) (v := .ref (ad 2)) (C := fn_R_Dk) (T := fn_T_Dk) (N := 9) hx hb hts fn_j_Dk hown hK hP 0 rfl rfl 2 (by decide) (hts _ (List.mem_cons_of_mem _ fq_206)) (fun _ h9 => h9) rfl fx_Dk_errorBeforeRequesting_11 ?_
    refine va_getN (D := D) (ci := 2) (v := .int (fd_qI σ 4)) (C := fn_R_Rq) (T := fn_T_Rq) (N := 15) hx hb hts fn_j_Rq hown hK hP 2 rfl rfl 4 (by decide) (va_Nw.use rfl (hN _ fq_152)) (fun _ h9 => h9) rfl fx_Dk_errorBeforeRequesting_14 ?_
    refine lv_if_ne (tgt := 22) hx hb fx_Dk_errorBeforeRequesting_17 (by decide) (fun c12 => ?_) (fun c12 => ?_)
    · refine lv_aload_n hx hb fx_Dk_errorBeforeRequesting_22 rfl (lv_at hl 0 rfl) ?_
      refine va_get (D := D) (ci := 4) (v := .ref (ad 2)) (C := fn_R_Dk) (T := fn_T_Dk) (N := 9) hx hb hts fn_j_Dk hown hK hP 0 rfl rfl 2 (by decide) (hts _ (List.mem_cons_of_mem _ fq_206)) (fun _ h9 => h9) rfl fx_Dk_errorBeforeRequesting_23 ?_
      refine fd_callz (va_runVN (As := []) (rest := []) ⟨hx, hb, hml, hown, hts⟩ (fc_Rq_mustPass l D cR cP ad H.size σ  hI ) ⟨va_cnB 0 hts (fb_good fm_Rq_mustPass) rfl rfl rfl (hN _ fq_389) (hts _ (List.mem_cons_of_mem _ fq_5)) (by decide +kernel) ⟨Nat.le_of_ble_eq_true rfl, Nat.le_of_ble_eq_true rfl⟩, (hts _ (List.mem_cons_of_mem _ fq_391)), (hts _ (List.mem_cons_of_mem _ fp_Rq_mustPass))⟩ (fd_preV hP hK hD hN (va_recv hK hP (ci := 2) (q0 := 2) rfl rfl)) rfl rfl hl.1 rfl (lv_room (Nat.le_of_ble_eq_true rfl)) fx_Dk_errorBeforeRequesting_26 ⟨Nat.le_of_ble_eq_true rfl, Nat.le_of_ble_eq_true rfl⟩) hD hS hA (fun H locs hP hD hS => ?_)
      refine fd_ifeq (tgt := 52) hx hb fx_Dk_errorBeforeRequesting_29 (by decide) (fun c14 => ?_) (fun c14 => ?_)
      · refine lv_iconst (v := 0) hx hb fx_Dk_errorBeforeRequesting_52 (by decide) ?_
        exact fd_iret (r := 0) (u := σ) hQ hx hb hr ⟨by rw [fv_Dk_errorBeforeRequesting, if_pos c1, if_neg c12, if_neg c14], hI⟩ hP hD hS fx_Dk_errorBeforeRequesting_53 hlocks
      · refine lv_aload_n hx hb fx_Dk_errorBeforeRequesting_32 rfl (lv_at hl 0 rfl) ?_
        refine va_get (D := D) (ci := 4) (v := .ref (ad 2)) (C := fn_R_Dk) (T := fn_T_Dk) (N := 9) hx hb hts fn_j_Dk hown hK hP 0 rfl rfl 2 (by decide) (hts _ (List.mem_cons_of_mem _ fq_206)) (fun _ h9 => h9) rfl fx_Dk_errorBeforeRequesting_33 ?_
        refine va_getN (D := D) (ci := 2) (v := .int (fd_qI σ 2)) (C := fn_R_Rq) (T := fn_T_Rq) (N := 15) hx hb hts fn_j_Rq hown hK hP 2 rfl rfl 2 (by decide) (va_Nw.use rfl (hN _ fq_148)) (fun _ h9 => h9) rfl fx_Dk_errorBeforeRequesting_36 ?_
        refine lv_aload_n hx hb fx_Dk_errorBeforeRequesting_39 rfl (lv_at hl 0 rfl) ?_
        refine va_get (D := D) (ci := 4) (v := .ref (ad 2)) (C := fn_R_Dk) (T := fn_T_Dk) (N := 9) hx hb hts fn_j_Dk hown hK hP 0 rfl rfl 2 (by decide) (hts _ (List.mem_cons_of_mem _ fq_206)) (fun _ h9 => h9) rfl fx_Dk_errorBeforeRequesting_40 ?_
        refine va_getN (D := D) (ci := 2) (v := .int (fd_qI σ 3)) (C := fn_R_Rq) (T := fn_T_Rq) (N := 15) hx hb hts fn_j_Rq hown hK hP 2 rfl rfl 3 (by decide) (va_Nw.use rfl (hN _ fq_150)) (fun _ h9 => h9) rfl fx_Dk_errorBeforeRequesting_43 ?_
        refine fd_callz (va_runS (As := [.int (fd_qI σ 2), .int (fd_qI σ 3)]) (rest := []) ⟨hx, hb, hml, hown, hts⟩ (fc_Dk_isPlain l D cR cP ad H.size σ (fd_qI σ 2) (fd_qI σ 3) hI ) ⟨callB_of 2 hts (fb_good fm_Dk_isPlain) rfl rfl rfl (hts _ (List.mem_cons_of_mem _ fq_1)) (hts _ (List.mem_cons_of_mem _ fq_356)) (by decide +kernel) ⟨Nat.le_of_ble_eq_true rfl, Nat.le_of_ble_eq_true rfl⟩, (hts _ (List.mem_cons_of_mem _ fq_357))⟩ (fd_preS hP hK hD hN) rfl rfl hl.1 rfl (lv_room (Nat.le_of_ble_eq_true rfl)) fx_Dk_errorBeforeRequesting_46 ⟨Nat.le_of_ble_eq_true rfl, Nat.le_of_ble_eq_true rfl⟩) hD hS hA (fun H locs hP hD hS => ?_)
        refine fd_ifeq (tgt := 54) hx hb fx_Dk_errorBeforeRequesting_49 (by decide) (fun c16 => ?_) (fun c16 => ?_)
        · refine lv_aload_n hx hb fx_Dk_errorBeforeRequesting_54 rfl (lv_at hl 0 rfl) ?_
          refine va_get (D := D) (ci := 4) (v := .ref (ad 1)) (C := fn_R_Dk) (T := fn_T_Dk) (N := 9) hx hb hts fn_j_Dk hown hK hP 0 rfl rfl 1 (by decide) (hts _ (List.mem_cons_of_mem _ fq_205)) (fun _ h9 => h9) rfl fx_Dk_errorBeforeRequesting_55 ?_
          refine lv_aload_n hx hb fx_Dk_errorBeforeRequesting_58 rfl (lv_at hl 0 rfl) ?_
          refine va_get (D := D) (ci := 4) (v := .ref (ad 2)) (C := fn_R_Dk) (T := fn_T_Dk) (N := 9) hx hb hts fn_j_Dk hown hK hP 0 rfl rfl 2 (by decide) (hts _ (List.mem_cons_of_mem _ fq_206)) (fun _ h9 => h9) rfl fx_Dk_errorBeforeRequesting_59 ?_
          refine lv_aload_n hx hb fx_Dk_errorBeforeRequesting_62 rfl (lv_at hl 0 rfl) ?_
          refine va_get (D := D) (ci := 4) (v := .double (fd_dT σ)) (C := fn_R_Dk) (T := fn_T_Dk) (N := 9) hx hb hts fn_j_Dk hown hK hP 0 rfl rfl 3 (by decide) (hts _ (List.mem_cons_of_mem _ fq_207)) (fun _ h9 => h9) rfl fx_Dk_errorBeforeRequesting_63 ?_
          refine fd_callz (va_runVN (As := [.ref (ad 2), .double (fd_dT σ)]) (rest := []) ⟨hx, hb, hml, hown, hts⟩ (fc_Mm_covers l D cR cP ad H.size σ (fd_dT σ) hI ) ⟨va_cnB 2 hts (fb_good fm_Mm_covers) rfl rfl rfl (hN _ fq_393) (hts _ (List.mem_cons_of_mem _ fq_3)) (by decide +kernel) ⟨Nat.le_of_ble_eq_true rfl, Nat.le_of_ble_eq_true rfl⟩, (hts _ (List.mem_cons_of_mem _ fq_395)), (hts _ (List.mem_cons_of_mem _ fp_Mm_covers))⟩ (fd_preV hP hK hD hN (va_recv hK hP (ci := 0) (q0 := 1) rfl rfl)) rfl rfl hl.1 rfl (lv_room (Nat.le_of_ble_eq_true rfl)) fx_Dk_errorBeforeRequesting_66 ⟨Nat.le_of_ble_eq_true rfl, Nat.le_of_ble_eq_true rfl⟩) hD hS hA (fun H locs hP hD hS => ?_)
          refine fd_ifeq (tgt := 84) hx hb fx_Dk_errorBeforeRequesting_69 (by decide) (fun c18 => ?_) (fun c18 => ?_)
          · refine lv_aload_n hx hb fx_Dk_errorBeforeRequesting_84 rfl (lv_at hl 0 rfl) ?_
            refine lv_aload_n hx hb fx_Dk_errorBeforeRequesting_85 rfl (lv_at hl 1 rfl) ?_
            refine fd_callzm (va_runV (As := [.ref (ad (3 + j1))]) (rest := []) ⟨hx, hb, hml, hown, hts⟩ (fc_Dk_ask l D cR cP ad H.size σ j1 hj1 hI ) ⟨callB_of 1 hts (fb_good fm_Dk_ask) rfl rfl rfl (hts _ (List.mem_cons_of_mem _ fq_1)) (hts _ (List.mem_cons_of_mem _ fq_404)) (by decide +kernel) ⟨Nat.le_of_ble_eq_true rfl, Nat.le_of_ble_eq_true rfl⟩, (hts _ (List.mem_cons_of_mem _ fq_406)), (hts _ (List.mem_cons_of_mem _ fp_Dk_ask))⟩ (fd_preV hP hK hD hN (va_recv hK hP (ci := 4) (q0 := 0) rfl rfl)) rfl rfl hl.1 rfl (lv_room (Nat.le_of_ble_eq_true rfl)) fx_Dk_errorBeforeRequesting_86 ⟨Nat.le_of_ble_eq_true rfl, Nat.le_of_ble_eq_true rfl⟩) hD hS hA (fun H locs hP hD hS hI19 => ?_)
            have hJ20 : ∀ (H : Heap) (locs : List Loc), va_P D fn_cl (fd_w cR cP ad ((fv_Dk_ask σ j1).2)) H → va_D A (fd_w cR cP ad ((fv_Dk_ask σ j1).2)) → va_S A s.heap H locs → ∀ (v20 : Int32), v20 = (if ((fv_Dk_ask σ j1).1) = true then 0 else 2) → W p l e ({ frames := 3, cells := 0, slots := 0, locals := 72 } : Room) s m args below meth c H locs 0 0 Q (F0 m 97 ls [.int v20]) := by
              intro H locs hP hD hS v20 hv20
              exact fd_iret (r := v20) (u := (fv_Dk_ask σ j1).2) hQ hx hb hr ⟨by rw [fv_Dk_errorBeforeRequesting, if_pos c1, if_neg c12, if_pos c14, if_neg c16, if_neg c18, ← hv20, fv_Dk_errorBeforeRequesting_j20], hI19⟩ hP hD hS fx_Dk_errorBeforeRequesting_97 hlocks
            refine fd_ifeq (tgt := 96) hx hb fx_Dk_errorBeforeRequesting_89 (by decide) (fun c21 => ?_) (fun c21 => ?_)
            · refine lv_iconst (v := 2) hx hb fx_Dk_errorBeforeRequesting_96 (by decide) ?_
              exact hJ20 H locs hP hD hS 2 (by rw [if_neg c21])
            · refine lv_iconst (v := 0) hx hb fx_Dk_errorBeforeRequesting_92 (by decide) ?_
              refine lv_goto (tgt := 97) hx hb fx_Dk_errorBeforeRequesting_93 (by decide) ?_
              exact hJ20 H locs hP hD hS 0 (by rw [if_pos c21])
          · refine lv_aload_n hx hb fx_Dk_errorBeforeRequesting_72 rfl (lv_at hl 0 rfl) ?_
            refine lv_dup hx hb fx_Dk_errorBeforeRequesting_73 rfl ?_
            refine va_get (D := D) (ci := 4) (v := .int (fd_dI σ 8)) (C := fn_R_Dk) (T := fn_T_Dk) (N := 9) hx hb hts fn_j_Dk hown hK hP 0 rfl rfl 8 (by decide) (hts _ (List.mem_cons_of_mem _ fq_212)) (fun _ h9 => h9) rfl fx_Dk_errorBeforeRequesting_74 ?_
            refine lv_iconst (v := 1) hx hb fx_Dk_errorBeforeRequesting_77 (by decide) ?_
            refine lv_iadd hx hb fx_Dk_errorBeforeRequesting_78 ?_
            refine va_put (D := D) (ci := 4) (v := .int ((fd_dI σ 8) + 1)) (ty := .int) (C := fn_R_Dk) (T := fn_T_Dk) (N := 9) hx hb hts fn_j_Dk fn_t_Dk fn_k_Dk fn_n_Dk hown hK hP hD hS 0 rfl rfl 8 (by decide) (hts _ (List.mem_cons_of_mem _ fq_212)) (fun _ h9 => h9) rfl (by decide +kernel) rfl rfl (Nat.le_of_ble_eq_true rfl) fx_Dk_errorBeforeRequesting_79 (fun H locs hP hD hS => ?_)
            rw [fd_set_Dk_8] at hP hD
            have hI22 : fd_Inv (fd_sdI σ 8 ((fd_dI σ 8) + 1)) := fd_inv_sdI hI
            refine lv_iconst (v := 0) hx hb fx_Dk_errorBeforeRequesting_82 (by decide) ?_
            exact fd_iret (r := 0) (u := fd_sdI σ 8 ((fd_dI σ 8) + 1)) hQ hx hb hr ⟨by rw [fv_Dk_errorBeforeRequesting, if_pos c1, if_neg c12, if_pos c14, if_neg c16, if_pos c18], hI22⟩ hP hD hS fx_Dk_errorBeforeRequesting_83 hlocks
        · refine lv_iconst (v := 0) hx hb fx_Dk_errorBeforeRequesting_52 (by decide) ?_
          exact fd_iret (r := 0) (u := σ) hQ hx hb hr ⟨by rw [fv_Dk_errorBeforeRequesting, if_pos c1, if_neg c12, if_pos c14, if_pos c16], hI⟩ hP hD hS fx_Dk_errorBeforeRequesting_53 hlocks
    · refine lv_iconst (v := 1) hx hb fx_Dk_errorBeforeRequesting_20 (by decide) ?_
      exact fd_iret (r := 1) (u := σ) hQ hx hb hr ⟨by rw [fv_Dk_errorBeforeRequesting, if_pos c1, if_pos c12], hI⟩ hP hD hS fx_Dk_errorBeforeRequesting_21 hlocks
def fv_Dk_goOneRound (σ : FDS) (p1 : Int32) : Bool × FDS := if ((fv_Dk_errorBeforeRequesting (fv_Rq_enterRound σ) ((fd_qI (fv_Rq_enterRound σ) 1).toNatClampNeg)).1) = 0 then if (fv_Rq_mustPass (fv_Dk_countRequested (fd_sqI ((fv_Dk_errorBeforeRequesting (fv_Rq_enterRound σ) ((fd_qI (fv_Rq_enterRound σ) 1).toNatClampNeg)).2) 10 ((fv_Dk_errorBeforeRequesting (fv_Rq_enterRound σ) ((fd_qI (fv_Rq_enterRound σ) 1).toNatClampNeg)).1)) ((fd_qI (fv_Rq_enterRound σ) 1).toNatClampNeg))) = true then if (fv_Rq_passes (fv_Dk_countRequested (fd_sqI ((fv_Dk_errorBeforeRequesting (fv_Rq_enterRound σ) ((fd_qI (fv_Rq_enterRound σ) 1).toNatClampNeg)).2) 10 ((fv_Dk_errorBeforeRequesting (fv_Rq_enterRound σ) ((fd_qI (fv_Rq_enterRound σ) 1).toNatClampNeg)).1)) ((fd_qI (fv_Rq_enterRound σ) 1).toNatClampNeg)) ((fd_qI (fv_Rq_enterRound σ) 1).toNatClampNeg)) = true then if (fv_Rs_isRedirect (fv_Dk_countRequested (fd_sqI ((fv_Dk_errorBeforeRequesting (fv_Rq_enterRound σ) ((fd_qI (fv_Rq_enterRound σ) 1).toNatClampNeg)).2) 10 ((fv_Dk_errorBeforeRequesting (fv_Rq_enterRound σ) ((fd_qI (fv_Rq_enterRound σ) 1).toNatClampNeg)).1)) ((fd_qI (fv_Rq_enterRound σ) 1).toNatClampNeg)) ((fd_qI (fv_Rq_enterRound σ) 1).toNatClampNeg)) = true then ((fv_Rq_meetRedirect (fv_Dk_countRequested (fd_sqI ((fv_Dk_errorBeforeRequesting (fv_Rq_enterRound σ) ((fd_qI (fv_Rq_enterRound σ) 1).toNatClampNeg)).2) 10 ((fv_Dk_errorBeforeRequesting (fv_Rq_enterRound σ) ((fd_qI (fv_Rq_enterRound σ) 1).toNatClampNeg)).1)) ((fd_qI (fv_Rq_enterRound σ) 1).toNatClampNeg)) ((fd_qI (fv_Rq_enterRound σ) 1).toNatClampNeg) p1).1, (fv_Rq_meetRedirect (fv_Dk_countRequested (fd_sqI ((fv_Dk_errorBeforeRequesting (fv_Rq_enterRound σ) ((fd_qI (fv_Rq_enterRound σ) 1).toNatClampNeg)).2) 10 ((fv_Dk_errorBeforeRequesting (fv_Rq_enterRound σ) ((fd_qI (fv_Rq_enterRound σ) 1).toNatClampNeg)).1)) ((fd_qI (fv_Rq_enterRound σ) 1).toNatClampNeg)) ((fd_qI (fv_Rq_enterRound σ) 1).toNatClampNeg) p1).2) else (false, (fv_Rq_takeResponse (fv_Dk_countRequested (fd_sqI ((fv_Dk_errorBeforeRequesting (fv_Rq_enterRound σ) ((fd_qI (fv_Rq_enterRound σ) 1).toNatClampNeg)).2) 10 ((fv_Dk_errorBeforeRequesting (fv_Rq_enterRound σ) ((fd_qI (fv_Rq_enterRound σ) 1).toNatClampNeg)).1)) ((fd_qI (fv_Rq_enterRound σ) 1).toNatClampNeg)) ((fd_qI (fv_Rq_enterRound σ) 1).toNatClampNeg))) else (false, fd_sqI (fv_Dk_countRequested (fd_sqI ((fv_Dk_errorBeforeRequesting (fv_Rq_enterRound σ) ((fd_qI (fv_Rq_enterRound σ) 1).toNatClampNeg)).2) 10 ((fv_Dk_errorBeforeRequesting (fv_Rq_enterRound σ) ((fd_qI (fv_Rq_enterRound σ) 1).toNatClampNeg)).1)) ((fd_qI (fv_Rq_enterRound σ) 1).toNatClampNeg)) 10 3) else if (fv_Rs_isRedirect (fv_Dk_countRequested (fd_sqI ((fv_Dk_errorBeforeRequesting (fv_Rq_enterRound σ) ((fd_qI (fv_Rq_enterRound σ) 1).toNatClampNeg)).2) 10 ((fv_Dk_errorBeforeRequesting (fv_Rq_enterRound σ) ((fd_qI (fv_Rq_enterRound σ) 1).toNatClampNeg)).1)) ((fd_qI (fv_Rq_enterRound σ) 1).toNatClampNeg)) ((fd_qI (fv_Rq_enterRound σ) 1).toNatClampNeg)) = true then ((fv_Rq_meetRedirect (fv_Dk_countRequested (fd_sqI ((fv_Dk_errorBeforeRequesting (fv_Rq_enterRound σ) ((fd_qI (fv_Rq_enterRound σ) 1).toNatClampNeg)).2) 10 ((fv_Dk_errorBeforeRequesting (fv_Rq_enterRound σ) ((fd_qI (fv_Rq_enterRound σ) 1).toNatClampNeg)).1)) ((fd_qI (fv_Rq_enterRound σ) 1).toNatClampNeg)) ((fd_qI (fv_Rq_enterRound σ) 1).toNatClampNeg) p1).1, (fv_Rq_meetRedirect (fv_Dk_countRequested (fd_sqI ((fv_Dk_errorBeforeRequesting (fv_Rq_enterRound σ) ((fd_qI (fv_Rq_enterRound σ) 1).toNatClampNeg)).2) 10 ((fv_Dk_errorBeforeRequesting (fv_Rq_enterRound σ) ((fd_qI (fv_Rq_enterRound σ) 1).toNatClampNeg)).1)) ((fd_qI (fv_Rq_enterRound σ) 1).toNatClampNeg)) ((fd_qI (fv_Rq_enterRound σ) 1).toNatClampNeg) p1).2) else (false, (fv_Rq_takeResponse (fv_Dk_countRequested (fd_sqI ((fv_Dk_errorBeforeRequesting (fv_Rq_enterRound σ) ((fd_qI (fv_Rq_enterRound σ) 1).toNatClampNeg)).2) 10 ((fv_Dk_errorBeforeRequesting (fv_Rq_enterRound σ) ((fd_qI (fv_Rq_enterRound σ) 1).toNatClampNeg)).1)) ((fd_qI (fv_Rq_enterRound σ) 1).toNatClampNeg)) ((fd_qI (fv_Rq_enterRound σ) 1).toNatClampNeg))) else (false, fd_sqI ((fv_Dk_errorBeforeRequesting (fv_Rq_enterRound σ) ((fd_qI (fv_Rq_enterRound σ) 1).toNatClampNeg)).2) 10 ((fv_Dk_errorBeforeRequesting (fv_Rq_enterRound σ) ((fd_qI (fv_Rq_enterRound σ) 1).toNatClampNeg)).1))
set_option maxHeartbeats 4000000 in
set_option maxRecDepth 100000 in
theorem fc_Dk_goOneRound (l : Launch) (D : va_G) (cR cP : ClassId) (ad : Nat → Nat) (sz : Nat) (σ : FDS) (p1 : Int32) (hI : fd_Inv σ)  : Met l fy_Dk_goOneRound (fw_Dk_goOneRound :: fb_tbl) ({ frames := 4, cells := 0, slots := 0, locals := 93 } : Room) (fd_Pc D cR cP ad [.ref (ad 0), .int p1] σ sz) ((fun A => va_Qi (fun (r : Int32) (u : FDS) => (fd_bi (fv_Dk_goOneRound σ p1).1, (fv_Dk_goOneRound σ p1).2) = (r, u) ∧ fd_Inv u) (fd_B D cR cP ad A) A) (va_A (fd_w cR cP ad σ) sz)) 0 0 (va_A (fd_w cR cP ad σ) sz) := by
  refine fd_ofW (cc := fb_Dk_goOneRound) (maxL := 3) (ret := (some .boolean)) (Qf := fun A => va_Qi (fun (r : Int32) (u : FDS) => (fd_bi (fv_Dk_goOneRound σ p1).1, (fv_Dk_goOneRound σ p1).2) = (r, u) ∧ fd_Inv u) (fd_B D cR cP ad A) A) (by decide) (Nat.le_of_ble_eq_true rfl) ?_
  intro p e s m args below meth c A Q hQ hx hb hr hts hown hlocks hml hP hK hD hS hA hN ls hl
  have hown : s.vm.findClass fn_R_Dk = some m.cls := hown
  have hl : lv_has ls 3 [(0, .ref (ad 0)), (1, .int p1)] := hl
  suffices hgo : ∀ (H : Heap) (locs : List Loc), va_P D fn_cl (fd_w cR cP ad σ) H → va_D A (fd_w cR cP ad σ) → va_S A s.heap H locs → W p l e ({ frames := 4, cells := 0, slots := 0, locals := 93 } : Room) s m args below meth c H locs 0 0 Q (F0 m 0 ls []) from hgo _ _ hP hD hS
  clear hP hD hS
  intro H locs hP hD hS
  refine lv_aload_n hx hb fx_Dk_goOneRound_0 rfl (lv_at hl 0 rfl) ?_
  refine va_get (D := D) (ci := 4) (v := .ref (ad 2)) (C := fn_R_Dk) (T := fn_T_Dk) (N := 9) hx hb hts fn_j_Dk hown hK hP 0 rfl rfl 2 (by decide) (hts _ (List.mem_cons_of_mem _ fq_206)) (fun _ h9 => h9) rfl fx_Dk_goOneRound_1 ?_
  refine fd_callvm (va_runVN (As := []) (rest := []) ⟨hx, hb, hml, hown, hts⟩ (fc_Rq_enterRound l D cR cP ad H.size σ  hI ) ⟨va_cnB 0 hts (fb_good fm_Rq_enterRound) rfl rfl rfl (hN _ fq_378) (hts _ (List.mem_cons_of_mem _ fq_5)) (by decide +kernel) ⟨Nat.le_of_ble_eq_true rfl, Nat.le_of_ble_eq_true rfl⟩, (hts _ (List.mem_cons_of_mem _ fq_380)), (hts _ (List.mem_cons_of_mem _ fp_Rq_enterRound))⟩ (fd_preV hP hK hD hN (va_recv hK hP (ci := 2) (q0 := 2) rfl rfl)) rfl rfl hl.1 rfl (lv_room (Nat.le_of_ble_eq_true rfl)) fx_Dk_goOneRound_4 ⟨Nat.le_of_ble_eq_true rfl, Nat.le_of_ble_eq_true rfl⟩) hD hS hA (fun H locs hP hD hS hI1 => ?_)
  refine lv_aload_n hx hb fx_Dk_goOneRound_7 rfl (lv_at hl 0 rfl) ?_
  refine va_get (D := D) (ci := 4) (v := .ref (ad 57)) (C := fn_R_Dk) (T := fn_T_Dk) (N := 9) hx hb hts fn_j_Dk hown hK hP 0 rfl rfl 0 (by decide) (hts _ (List.mem_cons_of_mem _ fq_204)) (fun _ h9 => h9) rfl fx_Dk_goOneRound_8 ?_
  refine lv_aload_n hx hb fx_Dk_goOneRound_11 rfl (lv_at hl 0 rfl) ?_
  refine va_get (D := D) (ci := 4) (v := .ref (ad 2)) (C := fn_R_Dk) (T := fn_T_Dk) (N := 9) hx hb hts fn_j_Dk hown hK hP 0 rfl rfl 2 (by decide) (hts _ (List.mem_cons_of_mem _ fq_206)) (fun _ h9 => h9) rfl fx_Dk_goOneRound_12 ?_
  refine va_getN (D := D) (ci := 2) (v := .int (fd_qI (fv_Rq_enterRound σ) 1)) (C := fn_R_Rq) (T := fn_T_Rq) (N := 15) hx hb hts fn_j_Rq hown hK hP 2 rfl rfl 1 (by decide) (va_Nw.use rfl (hN _ fq_146)) (fun _ h9 => h9) rfl fx_Dk_goOneRound_15 ?_
  have hb2 : vp_in (fd_qI (fv_Rq_enterRound σ) 1) 48 := hI1.1
  refine va_aldq (D := D) hx hb hK hP 3 0 rfl rfl hb2 fx_Dk_goOneRound_18 ?_
  refine W.eq (g2 := F0 m 19 ls (.ref (ad (3 + ((fd_qI (fv_Rq_enterRound σ) 1).toNatClampNeg))) :: [])) rfl ?_
  refine lv_astore_n (lv' := [(2, .ref (ad (3 + ((fd_qI (fv_Rq_enterRound σ) 1).toNatClampNeg)))), (0, .ref (ad 0)), (1, .int p1)]) hx hb fx_Dk_goOneRound_19 rfl hl (by decide) rfl (fun ls hl => ?_)
  refine lv_aload_n hx hb fx_Dk_goOneRound_20 rfl (lv_at hl 1 rfl) ?_
  refine va_get (D := D) (ci := 4) (v := .ref (ad 2)) (C := fn_R_Dk) (T := fn_T_Dk) (N := 9) hx hb hts fn_j_Dk hown hK hP 0 rfl rfl 2 (by decide) (hts _ (List.mem_cons_of_mem _ fq_206)) (fun _ h9 => h9) rfl fx_Dk_goOneRound_21 ?_
  refine lv_aload_n hx hb fx_Dk_goOneRound_24 rfl (lv_at hl 1 rfl) ?_
  refine lv_aload_n hx hb fx_Dk_goOneRound_25 rfl (lv_at hl 0 rfl) ?_
  refine fd_callim (va_runV (As := [.ref (ad (3 + ((fd_qI (fv_Rq_enterRound σ) 1).toNatClampNeg)))]) (rest := [.ref (ad 2)]) ⟨hx, hb, hml, hown, hts⟩ (fc_Dk_errorBeforeRequesting l D cR cP ad H.size (fv_Rq_enterRound σ) ((fd_qI (fv_Rq_enterRound σ) 1).toNatClampNeg) (fd_lt hb2) hI1 ) ⟨callB_of 1 hts (fb_good fm_Dk_errorBeforeRequesting) rfl rfl rfl (hts _ (List.mem_cons_of_mem _ fq_1)) (hts _ (List.mem_cons_of_mem _ fq_385)) (by decide +kernel) ⟨Nat.le_of_ble_eq_true rfl, Nat.le_of_ble_eq_true rfl⟩, (hts _ (List.mem_cons_of_mem _ fq_387)), (hts _ (List.mem_cons_of_mem _ fp_Dk_errorBeforeRequesting))⟩ (fd_preV hP hK hD hN (va_recv hK hP (ci := 4) (q0 := 0) rfl rfl)) rfl rfl hl.1 rfl (lv_room (Nat.le_of_ble_eq_true rfl)) fx_Dk_goOneRound_26 ⟨Nat.le_of_ble_eq_true rfl, Nat.le_of_ble_eq_true rfl⟩) hD hS hA (fun H locs hP hD hS hI3 => ?_)
  refine va_putN (D := D) (ci := 2) (v := .int ((fv_Dk_errorBeforeRequesting (fv_Rq_enterRound σ) ((fd_qI (fv_Rq_enterRound σ) 1).toNatClampNeg)).1)) (ty := .int) (C := fn_R_Rq) (T := fn_T_Rq) (N := 15) hx hb hts fn_j_Rq fn_t_Rq fn_k_Rq fn_n_Rq hown hK hP hD hS 2 rfl rfl 10 (by decide) (va_Nw.use rfl (hN _ fq_164)) (fun _ h9 => h9) rfl (by decide +kernel) rfl rfl (Nat.le_of_ble_eq_true rfl) fx_Dk_goOneRound_29 (fun H locs hP hD hS => ?_)
  rw [fd_set_Rq_10] at hP hD
  have hI4 : fd_Inv (fd_sqI ((fv_Dk_errorBeforeRequesting (fv_Rq_enterRound σ) ((fd_qI (fv_Rq_enterRound σ) 1).toNatClampNeg)).2) 10 ((fv_Dk_errorBeforeRequesting (fv_Rq_enterRound σ) ((fd_qI (fv_Rq_enterRound σ) 1).toNatClampNeg)).1)) := fd_inv_sqI (by decide) hI3
  refine lv_aload_n hx hb fx_Dk_goOneRound_32 rfl (lv_at hl 1 rfl) ?_
  refine va_get (D := D) (ci := 4) (v := .ref (ad 2)) (C := fn_R_Dk) (T := fn_T_Dk) (N := 9) hx hb hts fn_j_Dk hown hK hP 0 rfl rfl 2 (by decide) (hts _ (List.mem_cons_of_mem _ fq_206)) (fun _ h9 => h9) rfl fx_Dk_goOneRound_33 ?_
  refine va_getN (D := D) (ci := 2) (v := .int ((fv_Dk_errorBeforeRequesting (fv_Rq_enterRound σ) ((fd_qI (fv_Rq_enterRound σ) 1).toNatClampNeg)).1)) (C := fn_R_Rq) (T := fn_T_Rq) (N := 15) hx hb hts fn_j_Rq hown hK hP 2 rfl rfl 10 (by decide) (va_Nw.use rfl (hN _ fq_164)) (fun _ h9 => h9) rfl fx_Dk_goOneRound_36 ?_
  refine lv_if_eq (tgt := 44) hx hb fx_Dk_goOneRound_39 (by decide) (fun c5 => ?_) (fun c5 => ?_)
  · refine lv_aload_n hx hb fx_Dk_goOneRound_44 rfl (lv_at hl 1 rfl) ?_
    refine lv_aload_n hx hb fx_Dk_goOneRound_45 rfl (lv_at hl 0 rfl) ?_
    refine fd_callvm (va_runV (As := [.ref (ad (3 + ((fd_qI (fv_Rq_enterRound σ) 1).toNatClampNeg)))]) (rest := []) ⟨hx, hb, hml, hown, hts⟩ (fc_Dk_countRequested l D cR cP ad H.size (fd_sqI ((fv_Dk_errorBeforeRequesting (fv_Rq_enterRound σ) ((fd_qI (fv_Rq_enterRound σ) 1).toNatClampNeg)).2) 10 ((fv_Dk_errorBeforeRequesting (fv_Rq_enterRound σ) ((fd_qI (fv_Rq_enterRound σ) 1).toNatClampNeg)).1)) ((fd_qI (fv_Rq_enterRound σ) 1).toNatClampNeg) (fd_lt hb2) hI4 ) ⟨callB_of 1 hts (fb_good fm_Dk_countRequested) rfl rfl rfl (hts _ (List.mem_cons_of_mem _ fq_1)) (hts _ (List.mem_cons_of_mem _ fq_434)) (by decide +kernel) ⟨Nat.le_of_ble_eq_true rfl, Nat.le_of_ble_eq_true rfl⟩, (hts _ (List.mem_cons_of_mem _ fq_436)), (hts _ (List.mem_cons_of_mem _ fp_Dk_countRequested))⟩ (fd_preV hP hK hD hN (va_recv hK hP (ci := 4) (q0 := 0) rfl rfl)) rfl rfl hl.1 rfl (lv_room (Nat.le_of_ble_eq_true rfl)) fx_Dk_goOneRound_46 ⟨Nat.le_of_ble_eq_true rfl, Nat.le_of_ble_eq_true rfl⟩) hD hS hA (fun H locs hP hD hS hI6 => ?_)
    refine lv_aload_n hx hb fx_Dk_goOneRound_49 rfl (lv_at hl 1 rfl) ?_
    refine va_get (D := D) (ci := 4) (v := .ref (ad 2)) (C := fn_R_Dk) (T := fn_T_Dk) (N := 9) hx hb hts fn_j_Dk hown hK hP 0 rfl rfl 2 (by decide) (hts _ (List.mem_cons_of_mem _ fq_206)) (fun _ h9 => h9) rfl fx_Dk_goOneRound_50 ?_
    refine fd_callz (va_runVN (As := []) (rest := []) ⟨hx, hb, hml, hown, hts⟩ (fc_Rq_mustPass l D cR cP ad H.size (fv_Dk_countRequested (fd_sqI ((fv_Dk_errorBeforeRequesting (fv_Rq_enterRound σ) ((fd_qI (fv_Rq_enterRound σ) 1).toNatClampNeg)).2) 10 ((fv_Dk_errorBeforeRequesting (fv_Rq_enterRound σ) ((fd_qI (fv_Rq_enterRound σ) 1).toNatClampNeg)).1)) ((fd_qI (fv_Rq_enterRound σ) 1).toNatClampNeg))  hI6 ) ⟨va_cnB 0 hts (fb_good fm_Rq_mustPass) rfl rfl rfl (hN _ fq_389) (hts _ (List.mem_cons_of_mem _ fq_5)) (by decide +kernel) ⟨Nat.le_of_ble_eq_true rfl, Nat.le_of_ble_eq_true rfl⟩, (hts _ (List.mem_cons_of_mem _ fq_391)), (hts _ (List.mem_cons_of_mem _ fp_Rq_mustPass))⟩ (fd_preV hP hK hD hN (va_recv hK hP (ci := 2) (q0 := 2) rfl rfl)) rfl rfl hl.1 rfl (lv_room (Nat.le_of_ble_eq_true rfl)) fx_Dk_goOneRound_53 ⟨Nat.le_of_ble_eq_true rfl, Nat.le_of_ble_eq_true rfl⟩) hD hS hA (fun H locs hP hD hS => ?_)
    refine fd_ifeq (tgt := 80) hx hb fx_Dk_goOneRound_56 (by decide) (fun c8 => ?_) (fun c8 => ?_)
    · refine lv_aload_n hx hb fx_Dk_goOneRound_80 rfl (lv_at hl 0 rfl) ?_
      refine fd_callz (va_runVN (As := []) (rest := []) ⟨hx, hb, hml, hown, hts⟩ (fc_Rs_isRedirect l D cR cP ad H.size (fv_Dk_countRequested (fd_sqI ((fv_Dk_errorBeforeRequesting (fv_Rq_enterRound σ) ((fd_qI (fv_Rq_enterRound σ) 1).toNatClampNeg)).2) 10 ((fv_Dk_errorBeforeRequesting (fv_Rq_enterRound σ) ((fd_qI (fv_Rq_enterRound σ) 1).toNatClampNeg)).1)) ((fd_qI (fv_Rq_enterRound σ) 1).toNatClampNeg)) ((fd_qI (fv_Rq_enterRound σ) 1).toNatClampNeg) (fd_lt hb2) hI6 ) ⟨va_cnB 0 hts (fb_good fm_Rs_isRedirect) rfl rfl rfl (hN _ fq_438) (hts _ (List.mem_cons_of_mem _ fq_2)) (by decide +kernel) ⟨Nat.le_of_ble_eq_true rfl, Nat.le_of_ble_eq_true rfl⟩, (hts _ (List.mem_cons_of_mem _ fq_440)), (hts _ (List.mem_cons_of_mem _ fp_Rs_isRedirect))⟩ (fd_preV hP hK hD hN (va_recv hK hP (ci := 3) (q0 := (5 + ((fd_qI (fv_Rq_enterRound σ) 1).toNatClampNeg))) rfl (fd_w_res (fd_lt hb2)))) rfl rfl hl.1 rfl (lv_room (Nat.le_of_ble_eq_true rfl)) fx_Dk_goOneRound_81 ⟨Nat.le_of_ble_eq_true rfl, Nat.le_of_ble_eq_true rfl⟩) hD hS hA (fun H locs hP hD hS => ?_)
      refine fd_ifeq (tgt := 97) hx hb fx_Dk_goOneRound_84 (by decide) (fun c10 => ?_) (fun c10 => ?_)
      · refine lv_aload_n hx hb fx_Dk_goOneRound_97 rfl (lv_at hl 1 rfl) ?_
        refine va_get (D := D) (ci := 4) (v := .ref (ad 2)) (C := fn_R_Dk) (T := fn_T_Dk) (N := 9) hx hb hts fn_j_Dk hown hK hP 0 rfl rfl 2 (by decide) (hts _ (List.mem_cons_of_mem _ fq_206)) (fun _ h9 => h9) rfl fx_Dk_goOneRound_98 ?_
        refine lv_aload_n hx hb fx_Dk_goOneRound_101 rfl (lv_at hl 0 rfl) ?_
        refine fd_callvm (va_runVN (As := [.ref (ad (3 + ((fd_qI (fv_Rq_enterRound σ) 1).toNatClampNeg)))]) (rest := []) ⟨hx, hb, hml, hown, hts⟩ (fc_Rq_takeResponse l D cR cP ad H.size (fv_Dk_countRequested (fd_sqI ((fv_Dk_errorBeforeRequesting (fv_Rq_enterRound σ) ((fd_qI (fv_Rq_enterRound σ) 1).toNatClampNeg)).2) 10 ((fv_Dk_errorBeforeRequesting (fv_Rq_enterRound σ) ((fd_qI (fv_Rq_enterRound σ) 1).toNatClampNeg)).1)) ((fd_qI (fv_Rq_enterRound σ) 1).toNatClampNeg)) ((fd_qI (fv_Rq_enterRound σ) 1).toNatClampNeg) (fd_lt hb2) hI6 ) ⟨va_cnB 1 hts (fb_good fm_Rq_takeResponse) rfl rfl rfl (hN _ fq_454) (hts _ (List.mem_cons_of_mem _ fq_5)) (by decide +kernel) ⟨Nat.le_of_ble_eq_true rfl, Nat.le_of_ble_eq_true rfl⟩, (hts _ (List.mem_cons_of_mem _ fq_456)), (hts _ (List.mem_cons_of_mem _ fp_Rq_takeResponse))⟩ (fd_preV hP hK hD hN (va_recv hK hP (ci := 2) (q0 := 2) rfl rfl)) rfl rfl hl.1 rfl (lv_room (Nat.le_of_ble_eq_true rfl)) fx_Dk_goOneRound_102 ⟨Nat.le_of_ble_eq_true rfl, Nat.le_of_ble_eq_true rfl⟩) hD hS hA (fun H locs hP hD hS hI11 => ?_)
        refine lv_iconst (v := 0) hx hb fx_Dk_goOneRound_105 (by decide) ?_
        exact fd_zret (r := false) (u := (fv_Rq_takeResponse (fv_Dk_countRequested (fd_sqI ((fv_Dk_errorBeforeRequesting (fv_Rq_enterRound σ) ((fd_qI (fv_Rq_enterRound σ) 1).toNatClampNeg)).2) 10 ((fv_Dk_errorBeforeRequesting (fv_Rq_enterRound σ) ((fd_qI (fv_Rq_enterRound σ) 1).toNatClampNeg)).1)) ((fd_qI (fv_Rq_enterRound σ) 1).toNatClampNeg)) ((fd_qI (fv_Rq_enterRound σ) 1).toNatClampNeg))) hQ hx hb hr ⟨by rw [fv_Dk_goOneRound, if_pos c5, if_neg c8, if_neg c10], hI11⟩ hP hD hS fx_Dk_goOneRound_106 hlocks
      · refine lv_aload_n hx hb fx_Dk_goOneRound_87 rfl (lv_at hl 1 rfl) ?_
        refine va_get (D := D) (ci := 4) (v := .ref (ad 2)) (C := fn_R_Dk) (T := fn_T_Dk) (N := 9) hx hb hts fn_j_Dk hown hK hP 0 rfl rfl 2 (by decide) (hts _ (List.mem_cons_of_mem _ fq_206)) (fun _ h9 => h9) rfl fx_Dk_goOneRound_88 ?_
        refine lv_aload_n hx hb fx_Dk_goOneRound_91 rfl (lv_at hl 0 rfl) ?_
        refine lv_iload_n hx hb fx_Dk_goOneRound_92 rfl (lv_at hl 2 rfl) ?_
        refine fd_callzm (va_runVN (As := [.ref (ad (3 + ((fd_qI (fv_Rq_enterRound σ) 1).toNatClampNeg))), .int p1]) (rest := []) ⟨hx, hb, hml, hown, hts⟩ (fc_Rq_meetRedirect l D cR cP ad H.size (fv_Dk_countRequested (fd_sqI ((fv_Dk_errorBeforeRequesting (fv_Rq_enterRound σ) ((fd_qI (fv_Rq_enterRound σ) 1).toNatClampNeg)).2) 10 ((fv_Dk_errorBeforeRequesting (fv_Rq_enterRound σ) ((fd_qI (fv_Rq_enterRound σ) 1).toNatClampNeg)).1)) ((fd_qI (fv_Rq_enterRound σ) 1).toNatClampNeg)) ((fd_qI (fv_Rq_enterRound σ) 1).toNatClampNeg) (fd_lt hb2) p1 hI6 (fd_red c10)) ⟨va_cnB 2 hts (fb_good fm_Rq_meetRedirect) rfl rfl rfl (hN _ fq_442) (hts _ (List.mem_cons_of_mem _ fq_5)) (by decide +kernel) ⟨Nat.le_of_ble_eq_true rfl, Nat.le_of_ble_eq_true rfl⟩, (hts _ (List.mem_cons_of_mem _ fq_444)), (hts _ (List.mem_cons_of_mem _ fp_Rq_meetRedirect))⟩ (fd_preV hP hK hD hN (va_recv hK hP (ci := 2) (q0 := 2) rfl rfl)) rfl rfl hl.1 rfl (lv_room (Nat.le_of_ble_eq_true rfl)) fx_Dk_goOneRound_93 ⟨Nat.le_of_ble_eq_true rfl, Nat.le_of_ble_eq_true rfl⟩) hD hS hA (fun H locs hP hD hS hI12 => ?_)
        exact fd_zret (r := (fv_Rq_meetRedirect (fv_Dk_countRequested (fd_sqI ((fv_Dk_errorBeforeRequesting (fv_Rq_enterRound σ) ((fd_qI (fv_Rq_enterRound σ) 1).toNatClampNeg)).2) 10 ((fv_Dk_errorBeforeRequesting (fv_Rq_enterRound σ) ((fd_qI (fv_Rq_enterRound σ) 1).toNatClampNeg)).1)) ((fd_qI (fv_Rq_enterRound σ) 1).toNatClampNeg)) ((fd_qI (fv_Rq_enterRound σ) 1).toNatClampNeg) p1).1) (u := (fv_Rq_meetRedirect (fv_Dk_countRequested (fd_sqI ((fv_Dk_errorBeforeRequesting (fv_Rq_enterRound σ) ((fd_qI (fv_Rq_enterRound σ) 1).toNatClampNeg)).2) 10 ((fv_Dk_errorBeforeRequesting (fv_Rq_enterRound σ) ((fd_qI (fv_Rq_enterRound σ) 1).toNatClampNeg)).1)) ((fd_qI (fv_Rq_enterRound σ) 1).toNatClampNeg)) ((fd_qI (fv_Rq_enterRound σ) 1).toNatClampNeg) p1).2) hQ hx hb hr ⟨by rw [fv_Dk_goOneRound, if_pos c5, if_neg c8, if_pos c10], hI12⟩ hP hD hS fx_Dk_goOneRound_96 hlocks
    · refine lv_aload_n hx hb fx_Dk_goOneRound_59 rfl (lv_at hl 1 rfl) ?_
      refine va_get (D := D) (ci := 4) (v := .ref (ad 2)) (C := fn_R_Dk) (T := fn_T_Dk) (N := 9) hx hb hts fn_j_Dk hown hK hP 0 rfl rfl 2 (by decide) (hts _ (List.mem_cons_of_mem _ fq_206)) (fun _ h9 => h9) rfl fx_Dk_goOneRound_60 ?_
      refine lv_aload_n hx hb fx_Dk_goOneRound_63 rfl (lv_at hl 0 rfl) ?_
      refine fd_callz (va_runVN (As := [.ref (ad (3 + ((fd_qI (fv_Rq_enterRound σ) 1).toNatClampNeg)))]) (rest := []) ⟨hx, hb, hml, hown, hts⟩ (fc_Rq_passes l D cR cP ad H.size (fv_Dk_countRequested (fd_sqI ((fv_Dk_errorBeforeRequesting (fv_Rq_enterRound σ) ((fd_qI (fv_Rq_enterRound σ) 1).toNatClampNeg)).2) 10 ((fv_Dk_errorBeforeRequesting (fv_Rq_enterRound σ) ((fd_qI (fv_Rq_enterRound σ) 1).toNatClampNeg)).1)) ((fd_qI (fv_Rq_enterRound σ) 1).toNatClampNeg)) ((fd_qI (fv_Rq_enterRound σ) 1).toNatClampNeg) (fd_lt hb2) hI6 ) ⟨va_cnB 1 hts (fb_good fm_Rq_passes) rfl rfl rfl (hN _ fq_416) (hts _ (List.mem_cons_of_mem _ fq_5)) (by decide +kernel) ⟨Nat.le_of_ble_eq_true rfl, Nat.le_of_ble_eq_true rfl⟩, (hts _ (List.mem_cons_of_mem _ fq_418)), (hts _ (List.mem_cons_of_mem _ fp_Rq_passes))⟩ (fd_preV hP hK hD hN (va_recv hK hP (ci := 2) (q0 := 2) rfl rfl)) rfl rfl hl.1 rfl (lv_room (Nat.le_of_ble_eq_true rfl)) fx_Dk_goOneRound_64 ⟨Nat.le_of_ble_eq_true rfl, Nat.le_of_ble_eq_true rfl⟩) hD hS hA (fun H locs hP hD hS => ?_)
      refine fd_ifne (tgt := 80) hx hb fx_Dk_goOneRound_67 (by decide) (fun c14 => ?_) (fun c14 => ?_)
      · refine lv_aload_n hx hb fx_Dk_goOneRound_80 rfl (lv_at hl 0 rfl) ?_
        refine fd_callz (va_runVN (As := []) (rest := []) ⟨hx, hb, hml, hown, hts⟩ (fc_Rs_isRedirect l D cR cP ad H.size (fv_Dk_countRequested (fd_sqI ((fv_Dk_errorBeforeRequesting (fv_Rq_enterRound σ) ((fd_qI (fv_Rq_enterRound σ) 1).toNatClampNeg)).2) 10 ((fv_Dk_errorBeforeRequesting (fv_Rq_enterRound σ) ((fd_qI (fv_Rq_enterRound σ) 1).toNatClampNeg)).1)) ((fd_qI (fv_Rq_enterRound σ) 1).toNatClampNeg)) ((fd_qI (fv_Rq_enterRound σ) 1).toNatClampNeg) (fd_lt hb2) hI6 ) ⟨va_cnB 0 hts (fb_good fm_Rs_isRedirect) rfl rfl rfl (hN _ fq_438) (hts _ (List.mem_cons_of_mem _ fq_2)) (by decide +kernel) ⟨Nat.le_of_ble_eq_true rfl, Nat.le_of_ble_eq_true rfl⟩, (hts _ (List.mem_cons_of_mem _ fq_440)), (hts _ (List.mem_cons_of_mem _ fp_Rs_isRedirect))⟩ (fd_preV hP hK hD hN (va_recv hK hP (ci := 3) (q0 := (5 + ((fd_qI (fv_Rq_enterRound σ) 1).toNatClampNeg))) rfl (fd_w_res (fd_lt hb2)))) rfl rfl hl.1 rfl (lv_room (Nat.le_of_ble_eq_true rfl)) fx_Dk_goOneRound_81 ⟨Nat.le_of_ble_eq_true rfl, Nat.le_of_ble_eq_true rfl⟩) hD hS hA (fun H locs hP hD hS => ?_)
        refine fd_ifeq (tgt := 97) hx hb fx_Dk_goOneRound_84 (by decide) (fun c16 => ?_) (fun c16 => ?_)
        · refine lv_aload_n hx hb fx_Dk_goOneRound_97 rfl (lv_at hl 1 rfl) ?_
          refine va_get (D := D) (ci := 4) (v := .ref (ad 2)) (C := fn_R_Dk) (T := fn_T_Dk) (N := 9) hx hb hts fn_j_Dk hown hK hP 0 rfl rfl 2 (by decide) (hts _ (List.mem_cons_of_mem _ fq_206)) (fun _ h9 => h9) rfl fx_Dk_goOneRound_98 ?_
          refine lv_aload_n hx hb fx_Dk_goOneRound_101 rfl (lv_at hl 0 rfl) ?_
          refine fd_callvm (va_runVN (As := [.ref (ad (3 + ((fd_qI (fv_Rq_enterRound σ) 1).toNatClampNeg)))]) (rest := []) ⟨hx, hb, hml, hown, hts⟩ (fc_Rq_takeResponse l D cR cP ad H.size (fv_Dk_countRequested (fd_sqI ((fv_Dk_errorBeforeRequesting (fv_Rq_enterRound σ) ((fd_qI (fv_Rq_enterRound σ) 1).toNatClampNeg)).2) 10 ((fv_Dk_errorBeforeRequesting (fv_Rq_enterRound σ) ((fd_qI (fv_Rq_enterRound σ) 1).toNatClampNeg)).1)) ((fd_qI (fv_Rq_enterRound σ) 1).toNatClampNeg)) ((fd_qI (fv_Rq_enterRound σ) 1).toNatClampNeg) (fd_lt hb2) hI6 ) ⟨va_cnB 1 hts (fb_good fm_Rq_takeResponse) rfl rfl rfl (hN _ fq_454) (hts _ (List.mem_cons_of_mem _ fq_5)) (by decide +kernel) ⟨Nat.le_of_ble_eq_true rfl, Nat.le_of_ble_eq_true rfl⟩, (hts _ (List.mem_cons_of_mem _ fq_456)), (hts _ (List.mem_cons_of_mem _ fp_Rq_takeResponse))⟩ (fd_preV hP hK hD hN (va_recv hK hP (ci := 2) (q0 := 2) rfl rfl)) rfl rfl hl.1 rfl (lv_room (Nat.le_of_ble_eq_true rfl)) fx_Dk_goOneRound_102 ⟨Nat.le_of_ble_eq_true rfl, Nat.le_of_ble_eq_true rfl⟩) hD hS hA (fun H locs hP hD hS hI17 => ?_)
          refine lv_iconst (v := 0) hx hb fx_Dk_goOneRound_105 (by decide) ?_
          exact fd_zret (r := false) (u := (fv_Rq_takeResponse (fv_Dk_countRequested (fd_sqI ((fv_Dk_errorBeforeRequesting (fv_Rq_enterRound σ) ((fd_qI (fv_Rq_enterRound σ) 1).toNatClampNeg)).2) 10 ((fv_Dk_errorBeforeRequesting (fv_Rq_enterRound σ) ((fd_qI (fv_Rq_enterRound σ) 1).toNatClampNeg)).1)) ((fd_qI (fv_Rq_enterRound σ) 1).toNatClampNeg)) ((fd_qI (fv_Rq_enterRound σ) 1).toNatClampNeg))) hQ hx hb hr ⟨by rw [fv_Dk_goOneRound, if_pos c5, if_pos c8, if_pos c14, if_neg c16], hI17⟩ hP hD hS fx_Dk_goOneRound_106 hlocks
        · refine lv_aload_n hx hb fx_Dk_goOneRound_87 rfl (lv_at hl 1 rfl) ?_
          refine va_get (D := D) (ci := 4) (v := .ref (ad 2)) (C := fn_R_Dk) (T := fn_T_Dk) (N := 9) hx hb hts fn_j_Dk hown hK hP 0 rfl rfl 2 (by decide) (hts _ (List.mem_cons_of_mem _ fq_206)) (fun _ h9 => h9) rfl fx_Dk_goOneRound_88 ?_
          refine lv_aload_n hx hb fx_Dk_goOneRound_91 rfl (lv_at hl 0 rfl) ?_
          refine lv_iload_n hx hb fx_Dk_goOneRound_92 rfl (lv_at hl 2 rfl) ?_
          refine fd_callzm (va_runVN (As := [.ref (ad (3 + ((fd_qI (fv_Rq_enterRound σ) 1).toNatClampNeg))), .int p1]) (rest := []) ⟨hx, hb, hml, hown, hts⟩ (fc_Rq_meetRedirect l D cR cP ad H.size (fv_Dk_countRequested (fd_sqI ((fv_Dk_errorBeforeRequesting (fv_Rq_enterRound σ) ((fd_qI (fv_Rq_enterRound σ) 1).toNatClampNeg)).2) 10 ((fv_Dk_errorBeforeRequesting (fv_Rq_enterRound σ) ((fd_qI (fv_Rq_enterRound σ) 1).toNatClampNeg)).1)) ((fd_qI (fv_Rq_enterRound σ) 1).toNatClampNeg)) ((fd_qI (fv_Rq_enterRound σ) 1).toNatClampNeg) (fd_lt hb2) p1 hI6 (fd_red c16)) ⟨va_cnB 2 hts (fb_good fm_Rq_meetRedirect) rfl rfl rfl (hN _ fq_442) (hts _ (List.mem_cons_of_mem _ fq_5)) (by decide +kernel) ⟨Nat.le_of_ble_eq_true rfl, Nat.le_of_ble_eq_true rfl⟩, (hts _ (List.mem_cons_of_mem _ fq_444)), (hts _ (List.mem_cons_of_mem _ fp_Rq_meetRedirect))⟩ (fd_preV hP hK hD hN (va_recv hK hP (ci := 2) (q0 := 2) rfl rfl)) rfl rfl hl.1 rfl (lv_room (Nat.le_of_ble_eq_true rfl)) fx_Dk_goOneRound_93 ⟨Nat.le_of_ble_eq_true rfl, Nat.le_of_ble_eq_true rfl⟩) hD hS hA (fun H locs hP hD hS hI18 => ?_)
          exact fd_zret (r := (fv_Rq_meetRedirect (fv_Dk_countRequested (fd_sqI ((fv_Dk_errorBeforeRequesting (fv_Rq_enterRound σ) ((fd_qI (fv_Rq_enterRound σ) 1).toNatClampNeg)).2) 10 ((fv_Dk_errorBeforeRequesting (fv_Rq_enterRound σ) ((fd_qI (fv_Rq_enterRound σ) 1).toNatClampNeg)).1)) ((fd_qI (fv_Rq_enterRound σ) 1).toNatClampNeg)) ((fd_qI (fv_Rq_enterRound σ) 1).toNatClampNeg) p1).1) (u := (fv_Rq_meetRedirect (fv_Dk_countRequested (fd_sqI ((fv_Dk_errorBeforeRequesting (fv_Rq_enterRound σ) ((fd_qI (fv_Rq_enterRound σ) 1).toNatClampNeg)).2) 10 ((fv_Dk_errorBeforeRequesting (fv_Rq_enterRound σ) ((fd_qI (fv_Rq_enterRound σ) 1).toNatClampNeg)).1)) ((fd_qI (fv_Rq_enterRound σ) 1).toNatClampNeg)) ((fd_qI (fv_Rq_enterRound σ) 1).toNatClampNeg) p1).2) hQ hx hb hr ⟨by rw [fv_Dk_goOneRound, if_pos c5, if_pos c8, if_pos c14, if_pos c16], hI18⟩ hP hD hS fx_Dk_goOneRound_96 hlocks
      · refine lv_aload_n hx hb fx_Dk_goOneRound_70 rfl (lv_at hl 1 rfl) ?_
        refine va_get (D := D) (ci := 4) (v := .ref (ad 2)) (C := fn_R_Dk) (T := fn_T_Dk) (N := 9) hx hb hts fn_j_Dk hown hK hP 0 rfl rfl 2 (by decide) (hts _ (List.mem_cons_of_mem _ fq_206)) (fun _ h9 => h9) rfl fx_Dk_goOneRound_71 ?_
        refine lv_iconst (v := 3) hx hb fx_Dk_goOneRound_74 (by decide) ?_
        refine va_putN (D := D) (ci := 2) (v := .int 3) (ty := .int) (C := fn_R_Rq) (T := fn_T_Rq) (N := 15) hx hb hts fn_j_Rq fn_t_Rq fn_k_Rq fn_n_Rq hown hK hP hD hS 2 rfl rfl 10 (by decide) (va_Nw.use rfl (hN _ fq_164)) (fun _ h9 => h9) rfl (by decide +kernel) rfl rfl (Nat.le_of_ble_eq_true rfl) fx_Dk_goOneRound_75 (fun H locs hP hD hS => ?_)
        rw [fd_set_Rq_10] at hP hD
        have hI19 : fd_Inv (fd_sqI (fv_Dk_countRequested (fd_sqI ((fv_Dk_errorBeforeRequesting (fv_Rq_enterRound σ) ((fd_qI (fv_Rq_enterRound σ) 1).toNatClampNeg)).2) 10 ((fv_Dk_errorBeforeRequesting (fv_Rq_enterRound σ) ((fd_qI (fv_Rq_enterRound σ) 1).toNatClampNeg)).1)) ((fd_qI (fv_Rq_enterRound σ) 1).toNatClampNeg)) 10 3) := fd_inv_sqI (by decide) hI6
        refine lv_iconst (v := 0) hx hb fx_Dk_goOneRound_78 (by decide) ?_
        exact fd_zret (r := false) (u := fd_sqI (fv_Dk_countRequested (fd_sqI ((fv_Dk_errorBeforeRequesting (fv_Rq_enterRound σ) ((fd_qI (fv_Rq_enterRound σ) 1).toNatClampNeg)).2) 10 ((fv_Dk_errorBeforeRequesting (fv_Rq_enterRound σ) ((fd_qI (fv_Rq_enterRound σ) 1).toNatClampNeg)).1)) ((fd_qI (fv_Rq_enterRound σ) 1).toNatClampNeg)) 10 3) hQ hx hb hr ⟨by rw [fv_Dk_goOneRound, if_pos c5, if_pos c8, if_neg c14], hI19⟩ hP hD hS fx_Dk_goOneRound_79 hlocks
  · refine lv_iconst (v := 0) hx hb fx_Dk_goOneRound_42 (by decide) ?_
    exact fd_zret (r := false) (u := fd_sqI ((fv_Dk_errorBeforeRequesting (fv_Rq_enterRound σ) ((fd_qI (fv_Rq_enterRound σ) 1).toNatClampNeg)).2) 10 ((fv_Dk_errorBeforeRequesting (fv_Rq_enterRound σ) ((fd_qI (fv_Rq_enterRound σ) 1).toNatClampNeg)).1)) hQ hx hb hr ⟨by rw [fv_Dk_goOneRound, if_neg c5], hI4⟩ hP hD hS fx_Dk_goOneRound_43 hlocks
def fv_Dk_goThroughRounds_l4 : Nat → FDS → FDS → Bool → Int32 → FDS
  | 0 , σ , σ1 , g , r => σ
  | n + 1 , σ , σ1 , g , r => if g = true then if 4 < r then σ1 else fv_Dk_goThroughRounds_l4 n σ ((fv_Dk_goOneRound σ1 r).2) ((fv_Dk_goOneRound σ1 r).1) (r + 1) else σ1
def fv_Dk_goThroughRounds (σ : FDS) : FDS := fv_Dk_goThroughRounds_l4 6 σ σ true 0
set_option maxHeartbeats 4000000 in
set_option maxRecDepth 100000 in
theorem fc_Dk_goThroughRounds (l : Launch) (D : va_G) (cR cP : ClassId) (ad : Nat → Nat) (sz : Nat) (σ : FDS)  (hI : fd_Inv σ)  : Met l fy_Dk_goThroughRounds (fw_Dk_goThroughRounds :: fb_tbl) ({ frames := 5, cells := 0, slots := 0, locals := 115 } : Room) (fd_Pc D cR cP ad [.ref (ad 0)] σ sz) ((fun A => va_Qv (fun u : FDS => fv_Dk_goThroughRounds σ = u ∧ fd_Inv u) (fd_B D cR cP ad A) A) (va_A (fd_w cR cP ad σ) sz)) 0 0 (va_A (fd_w cR cP ad σ) sz) := by
  refine fd_ofW (cc := fb_Dk_goThroughRounds) (maxL := 3) (ret := none) (Qf := fun A => va_Qv (fun u : FDS => fv_Dk_goThroughRounds σ = u ∧ fd_Inv u) (fd_B D cR cP ad A) A) (by decide) (Nat.le_of_ble_eq_true rfl) ?_
  intro p e s m args below meth c A Q hQ hx hb hr hts hown hlocks hml hP hK hD hS hA hN ls hl
  have hown : s.vm.findClass fn_R_Dk = some m.cls := hown
  have hl : lv_has ls 3 [(0, .ref (ad 0))] := hl
  suffices hgo : ∀ (H : Heap) (locs : List Loc), va_P D fn_cl (fd_w cR cP ad σ) H → va_D A (fd_w cR cP ad σ) → va_S A s.heap H locs → W p l e ({ frames := 5, cells := 0, slots := 0, locals := 115 } : Room) s m args below meth c H locs 0 0 Q (F0 m 0 ls []) from hgo _ _ hP hD hS
  clear hP hD hS
  intro H locs hP hD hS
  refine lv_iconst (v := 1) hx hb fx_Dk_goThroughRounds_0 (by decide) ?_
  refine lv_istore_n (lv' := [(1, .int 1), (0, .ref (ad 0))]) hx hb fx_Dk_goThroughRounds_1 rfl hl (by decide) rfl (fun ls hl => ?_)
  refine lv_iconst (v := 0) hx hb fx_Dk_goThroughRounds_2 (by decide) ?_
  refine lv_istore_n (lv' := [(2, .int 0), (1, .int 1), (0, .ref (ad 0))]) hx hb fx_Dk_goThroughRounds_3 rfl hl (by decide) rfl (fun ls hl => ?_)
  have hL4 : ∀ (n : Nat) (σ1 : FDS) (g : Bool) (r : Int32), (∃ i : Nat, i ≤ 5 ∧ 6 ≤ n + i ∧ r = nI i) → fd_Inv σ1 → fv_Dk_goThroughRounds σ = fv_Dk_goThroughRounds_l4 n σ σ1 g r → ∀ (H : Heap) (locs : List Loc), va_P D fn_cl (fd_w cR cP ad σ1) H → va_D A (fd_w cR cP ad σ1) → va_S A s.heap H locs → ∀ (ls : Array Slot), lv_has ls 3 [(2, .int r), (1, .int (fd_bi g)), (0, .ref (ad 0))] → W p l e ({ frames := 5, cells := 0, slots := 0, locals := 115 } : Room) s m args below meth c H locs 0 0 Q (F0 m 4 ls []) := by
    intro n
    induction n with
    | zero =>
      intro σ1 g r hrr
      obtain ⟨i, h1, h2, -⟩ := hrr; omega
    | succ n ih =>
      intro σ1 g r hrr hI4 hm4 H locs hP hD hS ls hl
      refine lv_iload_n hx hb fx_Dk_goThroughRounds_4 rfl (lv_at hl 1 rfl) ?_
      refine fd_ifeq (tgt := 25) hx hb fx_Dk_goThroughRounds_5 (by decide) (fun c1 => ?_) (fun c1 => ?_)
      · exact fd_vret (u := σ1) hQ hx hb hr ⟨by rw [hm4, fv_Dk_goThroughRounds_l4, if_neg c1], hI4⟩ hP hD hS fx_Dk_goThroughRounds_25 hlocks
      · refine lv_iload_n hx hb fx_Dk_goThroughRounds_8 rfl (lv_at hl 0 rfl) ?_
        refine lv_iconst (v := 4) hx hb fx_Dk_goThroughRounds_9 (by decide) ?_
        refine lv_icmp_gt (tgt := 25) hx hb fx_Dk_goThroughRounds_10 (by decide) (fun c2 => ?_) (fun c2 => ?_)
        · exact fd_vret (u := σ1) hQ hx hb hr ⟨by rw [hm4, fv_Dk_goThroughRounds_l4, if_pos c1, if_pos c2], hI4⟩ hP hD hS fx_Dk_goThroughRounds_25 hlocks
        · refine lv_aload_n hx hb fx_Dk_goThroughRounds_13 rfl (lv_at hl 2 rfl) ?_
          refine lv_iload_n hx hb fx_Dk_goThroughRounds_14 rfl (lv_at hl 0 rfl) ?_
          refine fd_callzm (va_runV (As := [.int r]) (rest := []) ⟨hx, hb, hml, hown, hts⟩ (fc_Dk_goOneRound l D cR cP ad H.size σ1 r hI4 ) ⟨callB_of 1 hts (fb_good fm_Dk_goOneRound) rfl rfl rfl (hts _ (List.mem_cons_of_mem _ fq_1)) (hts _ (List.mem_cons_of_mem _ fq_374)) (by decide +kernel) ⟨Nat.le_of_ble_eq_true rfl, Nat.le_of_ble_eq_true rfl⟩, (hts _ (List.mem_cons_of_mem _ fq_376)), (hts _ (List.mem_cons_of_mem _ fp_Dk_goOneRound))⟩ (fd_preV hP hK hD hN (va_recv hK hP (ci := 4) (q0 := 0) rfl rfl)) rfl rfl hl.1 rfl (lv_room (Nat.le_of_ble_eq_true rfl)) fx_Dk_goThroughRounds_15 ⟨Nat.le_of_ble_eq_true rfl, Nat.le_of_ble_eq_true rfl⟩) hD hS hA (fun H locs hP hD hS hI3 => ?_)
          refine lv_istore_n (lv' := [(1, .int (fd_bi ((fv_Dk_goOneRound σ1 r).1))), (2, .int r), (0, .ref (ad 0))]) hx hb fx_Dk_goThroughRounds_18 rfl hl (by decide) rfl (fun ls hl => ?_)
          refine lv_iinc (v := r + 1) (lv' := [(2, .int (r + 1)), (1, .int (fd_bi ((fv_Dk_goOneRound σ1 r).1))), (0, .ref (ad 0))]) hx hb fx_Dk_goThroughRounds_19 hl (k := 1) rfl rfl (by decide) rfl (fun ls hl => ?_)
          refine lv_goto (tgt := 4) hx hb fx_Dk_goThroughRounds_22 (by decide) ?_
          exact ih ((fv_Dk_goOneRound σ1 r).2) ((fv_Dk_goOneRound σ1 r).1) (r + 1) (fd_step5 hrr c2) hI3 (by rw [hm4, fv_Dk_goThroughRounds_l4, if_pos c1, if_neg c2]) H locs hP hD hS ls (lv_sub hl [0, 1, 2] rfl)
  exact hL4 6 σ true 0 (⟨0, by decide, by decide, rfl⟩) hI (by rw [fv_Dk_goThroughRounds]) H locs hP hD hS ls (lv_sub hl [0, 1, 2] rfl)
