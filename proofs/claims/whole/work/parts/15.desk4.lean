/-! the desk: its face -/
def fv_Dk_serve_j2 (σ : FDS) (p1 : Int32) (p2 : Int32) (p3 : Int32) (p4 : Int32) (v1 : Bool) (v2 : Bool) : Int32 × FDS := if (fv_Dk_isUrl σ p1) = true then if v1 = true then if v2 = true then (0, fd_srI (fd_srI (fd_srI σ p1.toNatClampNeg 0 p2) p1.toNatClampNeg 1 p3) p1.toNatClampNeg 2 p4) else (1, σ) else (1, σ) else (1, σ)
def fv_Dk_serve_j1 (σ : FDS) (p1 : Int32) (p2 : Int32) (p3 : Int32) (p4 : Int32) (v1 : Bool) : Int32 × FDS := fv_Dk_serve_j2 σ p1 p2 p3 p4 v1 (if p4 = (-1) then true else if (fv_Dk_isUrl σ p4) = true then true else false)
def fv_Dk_serve (σ : FDS) (p1 : Int32) (p2 : Int32) (p3 : Int32) (p4 : Int32) : Int32 × FDS := fv_Dk_serve_j1 σ p1 p2 p3 p4 (if p2 < 200 then false else if 599 < p2 then false else true)
set_option maxHeartbeats 4000000 in
set_option maxRecDepth 100000 in
theorem fc_Dk_serve (l : Launch) (hst : l.stackTraces = false) (D : va_G) (cR cP : ClassId) (ad : Nat → Nat) (sz : Nat) (σ : FDS) (p1 : Int32) (p2 : Int32) (p3 : Int32) (p4 : Int32) (hI : fd_Inv σ)  : vx_Met l fy_Dk_serve (fw_Dk_serve :: fb_tbl) ({ frames := 6, cells := 1, slots := 6, locals := 81 } : Room) (fd_Pcx D cR cP ad [.ref (ad 0), .int p1, .int p2, .int p3, .int p4] σ sz) ((fun A => va_Qv (fun u : FDS => fv_Dk_serve σ p1 p2 p3 p4 = (0, u) ∧ fd_Inv u) (fd_B D cR cP ad A) A) (va_A (fd_w cR cP ad σ) sz)) (fd_XC D cR cP ad (fun E u => (∃ c : Int32, fd_isx c E ∧ fv_Dk_serve σ p1 p2 p3 p4 = (c, u)) ∧ fd_Inv u) (va_A (fd_w cR cP ad σ) sz)) 1 6 (va_A (fd_w cR cP ad σ) sz) := by
  refine fd_xofW (cc := fb_Dk_serve) (maxL := 8) (ret := none) (Qf := fun A => va_Qv (fun u : FDS => fv_Dk_serve σ p1 p2 p3 p4 = (0, u) ∧ fd_Inv u) (fd_B D cR cP ad A) A) (XC := fd_XC D cR cP ad (fun E u => (∃ c : Int32, fd_isx c E ∧ fv_Dk_serve σ p1 p2 p3 p4 = (c, u)) ∧ fd_Inv u)) (by decide) (Nat.le_of_ble_eq_true rfl) ?_
  intro p e s m args below meth c A Q hQ hx hb hr hts hown hlocks hml hP hK hD hS hA hN hX hZ hex ls hl
  have hown : s.vm.findClass fn_R_Dk = some m.cls := hown
  have hl : lv_has ls 8 [(0, .ref (ad 0)), (1, .int p1), (2, .int p2), (3, .int p3), (4, .int p4)] := hl
  suffices hgo : ∀ (H : Heap) (locs : List Loc), va_P D fn_cl (fd_w cR cP ad σ) H → va_D A (fd_w cR cP ad σ) → va_S A s.heap H locs → W p l e ({ frames := 6, cells := 1, slots := 6, locals := 81 } : Room) s m args below meth c H locs 0 0 Q (F0 m 0 ls []) from hgo _ _ hP hD hS
  clear hP hD hS
  intro H locs hP hD hS
  refine lv_iload_n hx hb fx_Dk_serve_0 rfl (lv_at hl 2 rfl) ?_
  refine lv_sipush (v := 200) hx hb fx_Dk_serve_1 (by decide) ?_
  have hJ1 : ∀ (H : Heap) (locs : List Loc), va_P D fn_cl (fd_w cR cP ad σ) H → va_D A (fd_w cR cP ad σ) → va_S A s.heap H locs → ∀ (v1 : Bool), v1 = (if p2 < 200 then false else if 599 < p2 then false else true) → W p l e ({ frames := 6, cells := 1, slots := 6, locals := 81 } : Room) s m args below meth c H locs 0 0 Q (F0 m 19 ls [.int (fd_bi v1)]) := by
    intro H locs hP hD hS v1 hv1
    refine lv_istore (lv' := [(5, .int (fd_bi v1)), (0, .ref (ad 0)), (1, .int p1), (2, .int p2), (3, .int p3), (4, .int p4)]) hx hb fx_Dk_serve_19 hl (by decide) rfl (fun ls hl => ?_)
    refine lv_iload hx hb fx_Dk_serve_21 (lv_at hl 5 rfl) ?_
    refine lv_iconst (v := (-1)) hx hb fx_Dk_serve_23 (by decide) ?_
    have hJ2 : ∀ (H : Heap) (locs : List Loc), va_P D fn_cl (fd_w cR cP ad σ) H → va_D A (fd_w cR cP ad σ) → va_S A s.heap H locs → ∀ (v2 : Bool), v2 = (if p4 = (-1) then true else if (fv_Dk_isUrl σ p4) = true then true else false) → W p l e ({ frames := 6, cells := 1, slots := 6, locals := 81 } : Room) s m args below meth c H locs 0 0 Q (F0 m 40 ls [.int (fd_bi v2)]) := by
      intro H locs hP hD hS v2 hv2
      refine lv_istore (lv' := [(6, .int (fd_bi v2)), (5, .int (fd_bi v1)), (0, .ref (ad 0)), (1, .int p1), (2, .int p2), (3, .int p3), (4, .int p4)]) hx hb fx_Dk_serve_40 hl (by decide) rfl (fun ls hl => ?_)
      refine lv_iload_n hx hb fx_Dk_serve_42 rfl (lv_at hl 3 rfl) ?_
      refine fd_callz (va_runS (As := [.int p1]) (rest := []) ⟨hx, hb, hml, hown, hts⟩ (fc_Dk_isUrl l D cR cP ad H.size σ p1 hI ) ⟨callB_of 1 hts (fb_good fm_Dk_isUrl) rfl rfl rfl (hts _ (List.mem_cons_of_mem _ fq_1)) (hts _ (List.mem_cons_of_mem _ fq_240)) (by decide +kernel) ⟨Nat.le_of_ble_eq_true rfl, Nat.le_of_ble_eq_true rfl⟩, (hts _ (List.mem_cons_of_mem _ fq_241))⟩ (fd_preS hP hK hD hN) rfl rfl hl.1 rfl (lv_room (Nat.le_of_ble_eq_true rfl)) fx_Dk_serve_43 ⟨Nat.le_of_ble_eq_true rfl, Nat.le_of_ble_eq_true rfl⟩) hD hS hA (fun H locs hP hD hS => ?_)
      refine fd_ifeq (tgt := 59) hx hb fx_Dk_serve_46 (by decide) (fun c4 => ?_) (fun c4 => ?_)
      · exact fd_throw ft_g1 ft_n1 ft_o1 (by decide) fq_243 fq_10 (u := σ) hQ hx hb hst hown hts hX hZ (hl.1.trans hml.symm) hex hlocks ⟨Nat.le_of_ble_eq_true rfl, Nat.le_of_ble_eq_true rfl, Nat.le_of_ble_eq_true rfl, Nat.le_of_ble_eq_true rfl⟩ ⟨⟨1, Or.inl ⟨rfl, rfl⟩, (by rw [fv_Dk_serve, ← hv1, fv_Dk_serve_j1, ← hv2, fv_Dk_serve_j2, if_neg c4])⟩, hI⟩ hP hD hS fx_Dk_serve_59 fx_Dk_serve_62 fx_Dk_serve_63 fx_Dk_serve_66
      · refine lv_iload hx hb fx_Dk_serve_49 (lv_at hl 1 rfl) ?_
        refine fd_ifeq (tgt := 59) hx hb fx_Dk_serve_51 (by decide) (fun c5 => ?_) (fun c5 => ?_)
        · exact fd_throw ft_g1 ft_n1 ft_o1 (by decide) fq_243 fq_10 (u := σ) hQ hx hb hst hown hts hX hZ (hl.1.trans hml.symm) hex hlocks ⟨Nat.le_of_ble_eq_true rfl, Nat.le_of_ble_eq_true rfl, Nat.le_of_ble_eq_true rfl, Nat.le_of_ble_eq_true rfl⟩ ⟨⟨1, Or.inl ⟨rfl, rfl⟩, (by rw [fv_Dk_serve, ← hv1, fv_Dk_serve_j1, ← hv2, fv_Dk_serve_j2, if_pos c4, if_neg c5])⟩, hI⟩ hP hD hS fx_Dk_serve_59 fx_Dk_serve_62 fx_Dk_serve_63 fx_Dk_serve_66
        · refine lv_iload hx hb fx_Dk_serve_54 (lv_at hl 0 rfl) ?_
          refine fd_ifne (tgt := 67) hx hb fx_Dk_serve_56 (by decide) (fun c6 => ?_) (fun c6 => ?_)
          · refine lv_aload_n hx hb fx_Dk_serve_67 rfl (lv_at hl 2 rfl) ?_
            refine va_get (D := D) (ci := 4) (v := .ref (ad 57)) (C := fn_R_Dk) (T := fn_T_Dk) (N := 9) hx hb hts fn_j_Dk hown hK hP 0 rfl rfl 0 (by decide) (hts _ (List.mem_cons_of_mem _ fq_204)) (fun _ h9 => h9) rfl fx_Dk_serve_68 ?_
            refine lv_iload_n hx hb fx_Dk_serve_71 rfl (lv_at hl 3 rfl) ?_
            have hb7 : vp_in p1 48 := fd_url c4
            refine va_aldq (D := D) hx hb hK hP 3 0 rfl rfl hb7 fx_Dk_serve_72 ?_
            refine W.eq (g2 := F0 m 73 ls (.ref (ad (3 + p1.toNatClampNeg)) :: [])) rfl ?_
            refine lv_astore (lv' := [(7, .ref (ad (3 + p1.toNatClampNeg))), (6, .int (fd_bi v2)), (5, .int (fd_bi v1)), (0, .ref (ad 0)), (1, .int p1), (2, .int p2), (3, .int p3), (4, .int p4)]) hx hb fx_Dk_serve_73 hl (by decide) rfl (fun ls hl => ?_)
            refine lv_aload hx hb fx_Dk_serve_75 (lv_at hl 0 rfl) ?_
            refine lv_iload_n hx hb fx_Dk_serve_77 rfl (lv_at hl 5 rfl) ?_
            refine va_putN (D := D) (ci := 3) (v := .int p2) (ty := .int) (C := fn_R_Rs) (T := fn_T_Rs) (N := 13) hx hb hts fn_j_Rs fn_t_Rs fn_k_Rs fn_n_Rs hown hK hP hD hS (5 + p1.toNatClampNeg) (fd_w_res (fd_lt hb7)) rfl 0 (by decide) (va_Nw.use rfl (hN _ fq_29)) (fun _ h9 => h9) rfl (by decide +kernel) rfl rfl (Nat.le_of_ble_eq_true rfl) fx_Dk_serve_78 (fun H locs hP hD hS => ?_)
            rw [fd_set_Rs_0 (fd_lt hb7)] at hP hD
            have hI8 : fd_Inv (fd_srI σ p1.toNatClampNeg 0 p2) := fd_inv_srI (by decide) hI
            refine lv_aload hx hb fx_Dk_serve_81 (lv_at hl 0 rfl) ?_
            refine lv_iload_n hx hb fx_Dk_serve_83 rfl (lv_at hl 6 rfl) ?_
            refine va_putN (D := D) (ci := 3) (v := .int p3) (ty := .int) (C := fn_R_Rs) (T := fn_T_Rs) (N := 13) hx hb hts fn_j_Rs fn_t_Rs fn_k_Rs fn_n_Rs hown hK hP hD hS (5 + p1.toNatClampNeg) (fd_w_res (fd_lt hb7)) rfl 1 (by decide) (va_Nw.use rfl (hN _ fq_31)) (fun _ h9 => h9) rfl (by decide +kernel) rfl rfl (Nat.le_of_ble_eq_true rfl) fx_Dk_serve_84 (fun H locs hP hD hS => ?_)
            rw [fd_set_Rs_1 (fd_lt hb7)] at hP hD
            have hI9 : fd_Inv (fd_srI (fd_srI σ p1.toNatClampNeg 0 p2) p1.toNatClampNeg 1 p3) := fd_inv_srI (by decide) hI8
            refine lv_aload hx hb fx_Dk_serve_87 (lv_at hl 0 rfl) ?_
            refine lv_iload hx hb fx_Dk_serve_89 (lv_at hl 7 rfl) ?_
            refine va_putN (D := D) (ci := 3) (v := .int p4) (ty := .int) (C := fn_R_Rs) (T := fn_T_Rs) (N := 13) hx hb hts fn_j_Rs fn_t_Rs fn_k_Rs fn_n_Rs hown hK hP hD hS (5 + p1.toNatClampNeg) (fd_w_res (fd_lt hb7)) rfl 2 (by decide) (va_Nw.use rfl (hN _ fq_34)) (fun _ h9 => h9) rfl (by decide +kernel) rfl rfl (Nat.le_of_ble_eq_true rfl) fx_Dk_serve_91 (fun H locs hP hD hS => ?_)
            rw [fd_set_Rs_2 (fd_lt hb7)] at hP hD
            have hI10 : fd_Inv (fd_srI (fd_srI (fd_srI σ p1.toNatClampNeg 0 p2) p1.toNatClampNeg 1 p3) p1.toNatClampNeg 2 p4) := fd_inv_target (fd_tg c6 hv2) hI9
            exact fd_xvret (u := fd_srI (fd_srI (fd_srI σ p1.toNatClampNeg 0 p2) p1.toNatClampNeg 1 p3) p1.toNatClampNeg 2 p4) hQ hx hb hr ⟨by rw [fv_Dk_serve, ← hv1, fv_Dk_serve_j1, ← hv2, fv_Dk_serve_j2, if_pos c4, if_pos c5, if_pos c6], hI10⟩ hP hD hS fx_Dk_serve_94 hlocks
          · exact fd_throw ft_g1 ft_n1 ft_o1 (by decide) fq_243 fq_10 (u := σ) hQ hx hb hst hown hts hX hZ (hl.1.trans hml.symm) hex hlocks ⟨Nat.le_of_ble_eq_true rfl, Nat.le_of_ble_eq_true rfl, Nat.le_of_ble_eq_true rfl, Nat.le_of_ble_eq_true rfl⟩ ⟨⟨1, Or.inl ⟨rfl, rfl⟩, (by rw [fv_Dk_serve, ← hv1, fv_Dk_serve_j1, ← hv2, fv_Dk_serve_j2, if_pos c4, if_pos c5, if_neg c6])⟩, hI⟩ hP hD hS fx_Dk_serve_59 fx_Dk_serve_62 fx_Dk_serve_63 fx_Dk_serve_66
    refine lv_icmp_eq (tgt := 35) hx hb fx_Dk_serve_24 (by decide) (fun c11 => ?_) (fun c11 => ?_)
    · refine lv_iconst (v := 1) hx hb fx_Dk_serve_35 (by decide) ?_
      refine lv_goto (tgt := 40) hx hb fx_Dk_serve_36 (by decide) ?_
      exact hJ2 H locs hP hD hS true (by rw [if_pos c11])
    · refine lv_iload hx hb fx_Dk_serve_27 (lv_at hl 5 rfl) ?_
      refine fd_callz (va_runS (As := [.int p4]) (rest := []) ⟨hx, hb, hml, hown, hts⟩ (fc_Dk_isUrl l D cR cP ad H.size σ p4 hI ) ⟨callB_of 1 hts (fb_good fm_Dk_isUrl) rfl rfl rfl (hts _ (List.mem_cons_of_mem _ fq_1)) (hts _ (List.mem_cons_of_mem _ fq_240)) (by decide +kernel) ⟨Nat.le_of_ble_eq_true rfl, Nat.le_of_ble_eq_true rfl⟩, (hts _ (List.mem_cons_of_mem _ fq_241))⟩ (fd_preS hP hK hD hN) rfl rfl hl.1 rfl (lv_room (Nat.le_of_ble_eq_true rfl)) fx_Dk_serve_29 ⟨Nat.le_of_ble_eq_true rfl, Nat.le_of_ble_eq_true rfl⟩) hD hS hA (fun H locs hP hD hS => ?_)
      refine fd_ifeq (tgt := 39) hx hb fx_Dk_serve_32 (by decide) (fun c13 => ?_) (fun c13 => ?_)
      · refine lv_iconst (v := 0) hx hb fx_Dk_serve_39 (by decide) ?_
        exact hJ2 H locs hP hD hS false (by rw [if_neg c11, if_neg c13])
      · refine lv_iconst (v := 1) hx hb fx_Dk_serve_35 (by decide) ?_
        refine lv_goto (tgt := 40) hx hb fx_Dk_serve_36 (by decide) ?_
        exact hJ2 H locs hP hD hS true (by rw [if_neg c11, if_pos c13])
  refine lv_icmp_lt (tgt := 18) hx hb fx_Dk_serve_4 (by decide) (fun c14 => ?_) (fun c14 => ?_)
  · refine lv_iconst (v := 0) hx hb fx_Dk_serve_18 (by decide) ?_
    exact hJ1 H locs hP hD hS false (by rw [if_pos c14])
  · refine lv_iload_n hx hb fx_Dk_serve_7 rfl (lv_at hl 2 rfl) ?_
    refine lv_sipush (v := 599) hx hb fx_Dk_serve_8 (by decide) ?_
    refine lv_icmp_gt (tgt := 18) hx hb fx_Dk_serve_11 (by decide) (fun c15 => ?_) (fun c15 => ?_)
    · refine lv_iconst (v := 0) hx hb fx_Dk_serve_18 (by decide) ?_
      exact hJ1 H locs hP hD hS false (by rw [if_neg c14, if_pos c15])
    · refine lv_iconst (v := 1) hx hb fx_Dk_serve_14 (by decide) ?_
      refine lv_goto (tgt := 19) hx hb fx_Dk_serve_15 (by decide) ?_
      exact hJ1 H locs hP hD hS true (by rw [if_neg c14, if_neg c15])
def fv_Dk_headers (σ : FDS) (p1 : Int32) (p2 : Int32) (p3 : Int32) : Int32 × FDS := if (fv_Dk_isUrl σ p1) = true then if (fv_Dk_isFourBits σ p2) = true then if (fv_Dk_isFourBits σ p3) = true then (0, fd_srI (fd_srI σ p1.toNatClampNeg 3 p2) p1.toNatClampNeg 4 p3) else (1, σ) else (1, σ) else (1, σ)
set_option maxHeartbeats 4000000 in
set_option maxRecDepth 100000 in
theorem fc_Dk_headers (l : Launch) (hst : l.stackTraces = false) (D : va_G) (cR cP : ClassId) (ad : Nat → Nat) (sz : Nat) (σ : FDS) (p1 : Int32) (p2 : Int32) (p3 : Int32) (hI : fd_Inv σ)  : vx_Met l fy_Dk_headers (fw_Dk_headers :: fb_tbl) ({ frames := 6, cells := 1, slots := 6, locals := 81 } : Room) (fd_Pcx D cR cP ad [.ref (ad 0), .int p1, .int p2, .int p3] σ sz) ((fun A => va_Qv (fun u : FDS => fv_Dk_headers σ p1 p2 p3 = (0, u) ∧ fd_Inv u) (fd_B D cR cP ad A) A) (va_A (fd_w cR cP ad σ) sz)) (fd_XC D cR cP ad (fun E u => (∃ c : Int32, fd_isx c E ∧ fv_Dk_headers σ p1 p2 p3 = (c, u)) ∧ fd_Inv u) (va_A (fd_w cR cP ad σ) sz)) 1 6 (va_A (fd_w cR cP ad σ) sz) := by
  refine fd_xofW (cc := fb_Dk_headers) (maxL := 5) (ret := none) (Qf := fun A => va_Qv (fun u : FDS => fv_Dk_headers σ p1 p2 p3 = (0, u) ∧ fd_Inv u) (fd_B D cR cP ad A) A) (XC := fd_XC D cR cP ad (fun E u => (∃ c : Int32, fd_isx c E ∧ fv_Dk_headers σ p1 p2 p3 = (c, u)) ∧ fd_Inv u)) (by decide) (Nat.le_of_ble_eq_true rfl) ?_
  intro p e s m args below meth c A Q hQ hx hb hr hts hown hlocks hml hP hK hD hS hA hN hX hZ hex ls hl
  have hown : s.vm.findClass fn_R_Dk = some m.cls := hown
  have hl : lv_has ls 5 [(0, .ref (ad 0)), (1, .int p1), (2, .int p2), (3, .int p3)] := hl
  suffices hgo : ∀ (H : Heap) (locs : List Loc), va_P D fn_cl (fd_w cR cP ad σ) H → va_D A (fd_w cR cP ad σ) → va_S A s.heap H locs → W p l e ({ frames := 6, cells := 1, slots := 6, locals := 81 } : Room) s m args below meth c H locs 0 0 Q (F0 m 0 ls []) from hgo _ _ hP hD hS
  clear hP hD hS
  intro H locs hP hD hS
  refine lv_iload_n hx hb fx_Dk_headers_0 rfl (lv_at hl 1 rfl) ?_
  refine fd_callz (va_runS (As := [.int p1]) (rest := []) ⟨hx, hb, hml, hown, hts⟩ (fc_Dk_isUrl l D cR cP ad H.size σ p1 hI ) ⟨callB_of 1 hts (fb_good fm_Dk_isUrl) rfl rfl rfl (hts _ (List.mem_cons_of_mem _ fq_1)) (hts _ (List.mem_cons_of_mem _ fq_240)) (by decide +kernel) ⟨Nat.le_of_ble_eq_true rfl, Nat.le_of_ble_eq_true rfl⟩, (hts _ (List.mem_cons_of_mem _ fq_241))⟩ (fd_preS hP hK hD hN) rfl rfl hl.1 rfl (lv_room (Nat.le_of_ble_eq_true rfl)) fx_Dk_headers_1 ⟨Nat.le_of_ble_eq_true rfl, Nat.le_of_ble_eq_true rfl⟩) hD hS hA (fun H locs hP hD hS => ?_)
  refine fd_ifeq (tgt := 21) hx hb fx_Dk_headers_4 (by decide) (fun c2 => ?_) (fun c2 => ?_)
  · exact fd_throw ft_g1 ft_n1 ft_o1 (by decide) fq_243 fq_10 (u := σ) hQ hx hb hst hown hts hX hZ (hl.1.trans hml.symm) hex hlocks ⟨Nat.le_of_ble_eq_true rfl, Nat.le_of_ble_eq_true rfl, Nat.le_of_ble_eq_true rfl, Nat.le_of_ble_eq_true rfl⟩ ⟨⟨1, Or.inl ⟨rfl, rfl⟩, (by rw [fv_Dk_headers, if_neg c2])⟩, hI⟩ hP hD hS fx_Dk_headers_21 fx_Dk_headers_24 fx_Dk_headers_25 fx_Dk_headers_28
  · refine lv_iload_n hx hb fx_Dk_headers_7 rfl (lv_at hl 2 rfl) ?_
    refine fd_callz (va_runS (As := [.int p2]) (rest := []) ⟨hx, hb, hml, hown, hts⟩ (fc_Dk_isFourBits l D cR cP ad H.size σ p2 hI ) ⟨callB_of 1 hts (fb_good fm_Dk_isFourBits) rfl rfl rfl (hts _ (List.mem_cons_of_mem _ fq_1)) (hts _ (List.mem_cons_of_mem _ fq_313)) (by decide +kernel) ⟨Nat.le_of_ble_eq_true rfl, Nat.le_of_ble_eq_true rfl⟩, (hts _ (List.mem_cons_of_mem _ fq_314))⟩ (fd_preS hP hK hD hN) rfl rfl hl.1 rfl (lv_room (Nat.le_of_ble_eq_true rfl)) fx_Dk_headers_8 ⟨Nat.le_of_ble_eq_true rfl, Nat.le_of_ble_eq_true rfl⟩) hD hS hA (fun H locs hP hD hS => ?_)
    refine fd_ifeq (tgt := 21) hx hb fx_Dk_headers_11 (by decide) (fun c4 => ?_) (fun c4 => ?_)
    · exact fd_throw ft_g1 ft_n1 ft_o1 (by decide) fq_243 fq_10 (u := σ) hQ hx hb hst hown hts hX hZ (hl.1.trans hml.symm) hex hlocks ⟨Nat.le_of_ble_eq_true rfl, Nat.le_of_ble_eq_true rfl, Nat.le_of_ble_eq_true rfl, Nat.le_of_ble_eq_true rfl⟩ ⟨⟨1, Or.inl ⟨rfl, rfl⟩, (by rw [fv_Dk_headers, if_pos c2, if_neg c4])⟩, hI⟩ hP hD hS fx_Dk_headers_21 fx_Dk_headers_24 fx_Dk_headers_25 fx_Dk_headers_28
    · refine lv_iload_n hx hb fx_Dk_headers_14 rfl (lv_at hl 3 rfl) ?_
      refine fd_callz (va_runS (As := [.int p3]) (rest := []) ⟨hx, hb, hml, hown, hts⟩ (fc_Dk_isFourBits l D cR cP ad H.size σ p3 hI ) ⟨callB_of 1 hts (fb_good fm_Dk_isFourBits) rfl rfl rfl (hts _ (List.mem_cons_of_mem _ fq_1)) (hts _ (List.mem_cons_of_mem _ fq_313)) (by decide +kernel) ⟨Nat.le_of_ble_eq_true rfl, Nat.le_of_ble_eq_true rfl⟩, (hts _ (List.mem_cons_of_mem _ fq_314))⟩ (fd_preS hP hK hD hN) rfl rfl hl.1 rfl (lv_room (Nat.le_of_ble_eq_true rfl)) fx_Dk_headers_15 ⟨Nat.le_of_ble_eq_true rfl, Nat.le_of_ble_eq_true rfl⟩) hD hS hA (fun H locs hP hD hS => ?_)
      refine fd_ifne (tgt := 29) hx hb fx_Dk_headers_18 (by decide) (fun c6 => ?_) (fun c6 => ?_)
      · refine lv_aload_n hx hb fx_Dk_headers_29 rfl (lv_at hl 0 rfl) ?_
        refine va_get (D := D) (ci := 4) (v := .ref (ad 57)) (C := fn_R_Dk) (T := fn_T_Dk) (N := 9) hx hb hts fn_j_Dk hown hK hP 0 rfl rfl 0 (by decide) (hts _ (List.mem_cons_of_mem _ fq_204)) (fun _ h9 => h9) rfl fx_Dk_headers_30 ?_
        refine lv_iload_n hx hb fx_Dk_headers_33 rfl (lv_at hl 1 rfl) ?_
        have hb7 : vp_in p1 48 := fd_url c2
        refine va_aldq (D := D) hx hb hK hP 3 0 rfl rfl hb7 fx_Dk_headers_34 ?_
        refine W.eq (g2 := F0 m 35 ls (.ref (ad (3 + p1.toNatClampNeg)) :: [])) rfl ?_
        refine lv_astore (lv' := [(4, .ref (ad (3 + p1.toNatClampNeg))), (0, .ref (ad 0)), (1, .int p1), (2, .int p2), (3, .int p3)]) hx hb fx_Dk_headers_35 hl (by decide) rfl (fun ls hl => ?_)
        refine lv_aload hx hb fx_Dk_headers_37 (lv_at hl 0 rfl) ?_
        refine lv_iload_n hx hb fx_Dk_headers_39 rfl (lv_at hl 3 rfl) ?_
        refine va_putN (D := D) (ci := 3) (v := .int p2) (ty := .int) (C := fn_R_Rs) (T := fn_T_Rs) (N := 13) hx hb hts fn_j_Rs fn_t_Rs fn_k_Rs fn_n_Rs hown hK hP hD hS (5 + p1.toNatClampNeg) (fd_w_res (fd_lt hb7)) rfl 3 (by decide) (va_Nw.use rfl (hN _ fq_36)) (fun _ h9 => h9) rfl (by decide +kernel) rfl rfl (Nat.le_of_ble_eq_true rfl) fx_Dk_headers_40 (fun H locs hP hD hS => ?_)
        rw [fd_set_Rs_3 (fd_lt hb7)] at hP hD
        have hI8 : fd_Inv (fd_srI σ p1.toNatClampNeg 3 p2) := fd_inv_srI (by decide) hI
        refine lv_aload hx hb fx_Dk_headers_43 (lv_at hl 0 rfl) ?_
        refine lv_iload_n hx hb fx_Dk_headers_45 rfl (lv_at hl 4 rfl) ?_
        refine va_putN (D := D) (ci := 3) (v := .int p3) (ty := .int) (C := fn_R_Rs) (T := fn_T_Rs) (N := 13) hx hb hts fn_j_Rs fn_t_Rs fn_k_Rs fn_n_Rs hown hK hP hD hS (5 + p1.toNatClampNeg) (fd_w_res (fd_lt hb7)) rfl 4 (by decide) (va_Nw.use rfl (hN _ fq_38)) (fun _ h9 => h9) rfl (by decide +kernel) rfl rfl (Nat.le_of_ble_eq_true rfl) fx_Dk_headers_46 (fun H locs hP hD hS => ?_)
        rw [fd_set_Rs_4 (fd_lt hb7)] at hP hD
        have hI9 : fd_Inv (fd_srI (fd_srI σ p1.toNatClampNeg 3 p2) p1.toNatClampNeg 4 p3) := fd_inv_srI (by decide) hI8
        exact fd_xvret (u := fd_srI (fd_srI σ p1.toNatClampNeg 3 p2) p1.toNatClampNeg 4 p3) hQ hx hb hr ⟨by rw [fv_Dk_headers, if_pos c2, if_pos c4, if_pos c6], hI9⟩ hP hD hS fx_Dk_headers_49 hlocks
      · exact fd_throw ft_g1 ft_n1 ft_o1 (by decide) fq_243 fq_10 (u := σ) hQ hx hb hst hown hts hX hZ (hl.1.trans hml.symm) hex hlocks ⟨Nat.le_of_ble_eq_true rfl, Nat.le_of_ble_eq_true rfl, Nat.le_of_ble_eq_true rfl, Nat.le_of_ble_eq_true rfl⟩ ⟨⟨1, Or.inl ⟨rfl, rfl⟩, (by rw [fv_Dk_headers, if_pos c2, if_pos c4, if_neg c6])⟩, hI⟩ hP hD hS fx_Dk_headers_21 fx_Dk_headers_24 fx_Dk_headers_25 fx_Dk_headers_28
def fv_Dk_allow (σ : FDS) (p1 : Int32) (p2 : Int32) (p3 : Bool) : Int32 × Int32 × FDS := if (fv_Dk_isUrl σ p1) = true then if p2 < 0 then (1, 0, σ) else if p2 ≤ 255 then (0, fd_rI σ p1.toNatClampNeg 5, fd_srB (fd_srI σ p1.toNatClampNeg 5 p2) p1.toNatClampNeg 6 p3) else (1, 0, σ) else (1, 0, σ)
set_option maxHeartbeats 4000000 in
set_option maxRecDepth 100000 in
theorem fc_Dk_allow (l : Launch) (hst : l.stackTraces = false) (D : va_G) (cR cP : ClassId) (ad : Nat → Nat) (sz : Nat) (σ : FDS) (p1 : Int32) (p2 : Int32) (p3 : Bool) (hI : fd_Inv σ)  : vx_Met l fy_Dk_allow (fw_Dk_allow :: fb_tbl) ({ frames := 6, cells := 1, slots := 6, locals := 81 } : Room) (fd_Pcx D cR cP ad [.ref (ad 0), .int p1, .int p2, .int (fd_bi p3)] σ sz) ((fun A => va_Qi (fun (r : Int32) (u : FDS) => fv_Dk_allow σ p1 p2 p3 = (0, r, u) ∧ fd_Inv u) (fd_B D cR cP ad A) A) (va_A (fd_w cR cP ad σ) sz)) (fd_XC D cR cP ad (fun E u => (∃ c : Int32, fd_isx c E ∧ fv_Dk_allow σ p1 p2 p3 = (c, 0, u)) ∧ fd_Inv u) (va_A (fd_w cR cP ad σ) sz)) 1 6 (va_A (fd_w cR cP ad σ) sz) := by
  refine fd_xofW (cc := fb_Dk_allow) (maxL := 6) (ret := (some .int)) (Qf := fun A => va_Qi (fun (r : Int32) (u : FDS) => fv_Dk_allow σ p1 p2 p3 = (0, r, u) ∧ fd_Inv u) (fd_B D cR cP ad A) A) (XC := fd_XC D cR cP ad (fun E u => (∃ c : Int32, fd_isx c E ∧ fv_Dk_allow σ p1 p2 p3 = (c, 0, u)) ∧ fd_Inv u)) (by decide) (Nat.le_of_ble_eq_true rfl) ?_
  intro p e s m args below meth c A Q hQ hx hb hr hts hown hlocks hml hP hK hD hS hA hN hX hZ hex ls hl
  have hown : s.vm.findClass fn_R_Dk = some m.cls := hown
  have hl : lv_has ls 6 [(0, .ref (ad 0)), (1, .int p1), (2, .int p2), (3, .int (fd_bi p3))] := hl
  suffices hgo : ∀ (H : Heap) (locs : List Loc), va_P D fn_cl (fd_w cR cP ad σ) H → va_D A (fd_w cR cP ad σ) → va_S A s.heap H locs → W p l e ({ frames := 6, cells := 1, slots := 6, locals := 81 } : Room) s m args below meth c H locs 0 0 Q (F0 m 0 ls []) from hgo _ _ hP hD hS
  clear hP hD hS
  intro H locs hP hD hS
  refine lv_iload_n hx hb fx_Dk_allow_0 rfl (lv_at hl 1 rfl) ?_
  refine fd_callz (va_runS (As := [.int p1]) (rest := []) ⟨hx, hb, hml, hown, hts⟩ (fc_Dk_isUrl l D cR cP ad H.size σ p1 hI ) ⟨callB_of 1 hts (fb_good fm_Dk_isUrl) rfl rfl rfl (hts _ (List.mem_cons_of_mem _ fq_1)) (hts _ (List.mem_cons_of_mem _ fq_240)) (by decide +kernel) ⟨Nat.le_of_ble_eq_true rfl, Nat.le_of_ble_eq_true rfl⟩, (hts _ (List.mem_cons_of_mem _ fq_241))⟩ (fd_preS hP hK hD hN) rfl rfl hl.1 rfl (lv_room (Nat.le_of_ble_eq_true rfl)) fx_Dk_allow_1 ⟨Nat.le_of_ble_eq_true rfl, Nat.le_of_ble_eq_true rfl⟩) hD hS hA (fun H locs hP hD hS => ?_)
  refine fd_ifeq (tgt := 18) hx hb fx_Dk_allow_4 (by decide) (fun c2 => ?_) (fun c2 => ?_)
  · exact fd_throw ft_g1 ft_n1 ft_o1 (by decide) fq_243 fq_10 (u := σ) hQ hx hb hst hown hts hX hZ (hl.1.trans hml.symm) hex hlocks ⟨Nat.le_of_ble_eq_true rfl, Nat.le_of_ble_eq_true rfl, Nat.le_of_ble_eq_true rfl, Nat.le_of_ble_eq_true rfl⟩ ⟨⟨1, Or.inl ⟨rfl, rfl⟩, (by rw [fv_Dk_allow, if_neg c2])⟩, hI⟩ hP hD hS fx_Dk_allow_18 fx_Dk_allow_21 fx_Dk_allow_22 fx_Dk_allow_25
  · refine lv_iload_n hx hb fx_Dk_allow_7 rfl (lv_at hl 2 rfl) ?_
    refine lv_if_lt (tgt := 18) hx hb fx_Dk_allow_8 (by decide) (fun c3 => ?_) (fun c3 => ?_)
    · exact fd_throw ft_g1 ft_n1 ft_o1 (by decide) fq_243 fq_10 (u := σ) hQ hx hb hst hown hts hX hZ (hl.1.trans hml.symm) hex hlocks ⟨Nat.le_of_ble_eq_true rfl, Nat.le_of_ble_eq_true rfl, Nat.le_of_ble_eq_true rfl, Nat.le_of_ble_eq_true rfl⟩ ⟨⟨1, Or.inl ⟨rfl, rfl⟩, (by rw [fv_Dk_allow, if_pos c2, if_pos c3])⟩, hI⟩ hP hD hS fx_Dk_allow_18 fx_Dk_allow_21 fx_Dk_allow_22 fx_Dk_allow_25
    · refine lv_iload_n hx hb fx_Dk_allow_11 rfl (lv_at hl 2 rfl) ?_
      refine lv_sipush (v := 255) hx hb fx_Dk_allow_12 (by decide) ?_
      refine lv_icmp_le (tgt := 26) hx hb fx_Dk_allow_15 (by decide) (fun c4 => ?_) (fun c4 => ?_)
      · refine lv_aload_n hx hb fx_Dk_allow_26 rfl (lv_at hl 0 rfl) ?_
        refine va_get (D := D) (ci := 4) (v := .ref (ad 57)) (C := fn_R_Dk) (T := fn_T_Dk) (N := 9) hx hb hts fn_j_Dk hown hK hP 0 rfl rfl 0 (by decide) (hts _ (List.mem_cons_of_mem _ fq_204)) (fun _ h9 => h9) rfl fx_Dk_allow_27 ?_
        refine lv_iload_n hx hb fx_Dk_allow_30 rfl (lv_at hl 1 rfl) ?_
        have hb5 : vp_in p1 48 := fd_url c2
        refine va_aldq (D := D) hx hb hK hP 3 0 rfl rfl hb5 fx_Dk_allow_31 ?_
        refine W.eq (g2 := F0 m 32 ls (.ref (ad (3 + p1.toNatClampNeg)) :: [])) rfl ?_
        refine lv_astore (lv' := [(4, .ref (ad (3 + p1.toNatClampNeg))), (0, .ref (ad 0)), (1, .int p1), (2, .int p2), (3, .int (fd_bi p3))]) hx hb fx_Dk_allow_32 hl (by decide) rfl (fun ls hl => ?_)
        refine lv_aload hx hb fx_Dk_allow_34 (lv_at hl 0 rfl) ?_
        refine va_getN (D := D) (ci := 3) (v := .int (fd_rI σ p1.toNatClampNeg 5)) (C := fn_R_Rs) (T := fn_T_Rs) (N := 13) hx hb hts fn_j_Rs hown hK hP (5 + p1.toNatClampNeg) (fd_w_res (fd_lt hb5)) rfl 5 (by decide) (va_Nw.use rfl (hN _ fq_40)) (fun _ h9 => h9) rfl fx_Dk_allow_36 ?_
        refine lv_istore (lv' := [(5, .int (fd_rI σ p1.toNatClampNeg 5)), (4, .ref (ad (3 + p1.toNatClampNeg))), (0, .ref (ad 0)), (1, .int p1), (2, .int p2), (3, .int (fd_bi p3))]) hx hb fx_Dk_allow_39 hl (by decide) rfl (fun ls hl => ?_)
        refine lv_aload hx hb fx_Dk_allow_41 (lv_at hl 1 rfl) ?_
        refine lv_iload_n hx hb fx_Dk_allow_43 rfl (lv_at hl 4 rfl) ?_
        refine va_putN (D := D) (ci := 3) (v := .int p2) (ty := .int) (C := fn_R_Rs) (T := fn_T_Rs) (N := 13) hx hb hts fn_j_Rs fn_t_Rs fn_k_Rs fn_n_Rs hown hK hP hD hS (5 + p1.toNatClampNeg) (fd_w_res (fd_lt hb5)) rfl 5 (by decide) (va_Nw.use rfl (hN _ fq_40)) (fun _ h9 => h9) rfl (by decide +kernel) rfl rfl (Nat.le_of_ble_eq_true rfl) fx_Dk_allow_44 (fun H locs hP hD hS => ?_)
        rw [fd_set_Rs_5 (fd_lt hb5)] at hP hD
        have hI6 : fd_Inv (fd_srI σ p1.toNatClampNeg 5 p2) := fd_inv_srI (by decide) hI
        refine lv_aload hx hb fx_Dk_allow_47 (lv_at hl 1 rfl) ?_
        refine lv_iload_n hx hb fx_Dk_allow_49 rfl (lv_at hl 5 rfl) ?_
        refine va_putN (D := D) (ci := 3) (v := .int (fd_bi p3)) (ty := .boolean) (C := fn_R_Rs) (T := fn_T_Rs) (N := 13) hx hb hts fn_j_Rs fn_t_Rs fn_k_Rs fn_n_Rs hown hK hP hD hS (5 + p1.toNatClampNeg) (fd_w_res (fd_lt hb5)) rfl 6 (by decide) (va_Nw.use rfl (hN _ fq_42)) (fun _ h9 => h9) rfl (by decide +kernel) (fd_nar _) (fd_fit _) (Nat.le_of_ble_eq_true rfl) fx_Dk_allow_50 (fun H locs hP hD hS => ?_)
        rw [fd_set_Rs_6 (fd_lt hb5)] at hP hD
        have hI7 : fd_Inv (fd_srB (fd_srI σ p1.toNatClampNeg 5 p2) p1.toNatClampNeg 6 p3) := fd_inv_srB hI6
        refine lv_iload hx hb fx_Dk_allow_53 (lv_at hl 0 rfl) ?_
        exact fd_xiret (r := fd_rI σ p1.toNatClampNeg 5) (u := fd_srB (fd_srI σ p1.toNatClampNeg 5 p2) p1.toNatClampNeg 6 p3) hQ hx hb hr ⟨by rw [fv_Dk_allow, if_pos c2, if_neg c3, if_pos c4], hI7⟩ hP hD hS fx_Dk_allow_55 hlocks
      · exact fd_throw ft_g1 ft_n1 ft_o1 (by decide) fq_243 fq_10 (u := σ) hQ hx hb hst hown hts hX hZ (hl.1.trans hml.symm) hex hlocks ⟨Nat.le_of_ble_eq_true rfl, Nat.le_of_ble_eq_true rfl, Nat.le_of_ble_eq_true rfl, Nat.le_of_ble_eq_true rfl⟩ ⟨⟨1, Or.inl ⟨rfl, rfl⟩, (by rw [fv_Dk_allow, if_pos c2, if_neg c3, if_neg c4])⟩, hI⟩ hP hD hS fx_Dk_allow_18 fx_Dk_allow_21 fx_Dk_allow_22 fx_Dk_allow_25
def fv_Dk_asked_j1 (σ : FDS) (p1 : Int32) (p2 : Bool) (p3 : Int32) (p4 : Int32) (p5 : UInt64) (v1 : Bool) : Int32 × FDS := if (fv_Dk_isUrl σ p1) = true then if (fv_Dk_isFourBits σ p3) = true then if (fv_Dk_isFourBits σ p4) = true then if v1 = true then (0, fd_srD (fd_srI (fd_srI (fd_srB σ p1.toNatClampNeg 7 p2) p1.toNatClampNeg 8 p3) p1.toNatClampNeg 9 p4) p1.toNatClampNeg p5) else (1, σ) else (1, σ) else (1, σ) else (1, σ)
def fv_Dk_asked (σ : FDS) (p1 : Int32) (p2 : Bool) (p3 : Int32) (p4 : Int32) (p5 : UInt64) : Int32 × FDS := fv_Dk_asked_j1 σ p1 p2 p3 p4 p5 (if (Op.cmpValue (FP.dcmp p5 FP.dconst0) .l) < 0 then false else if 0 < (Op.cmpValue (FP.dcmp p5 4636737291354636288) .g) then false else true)
set_option maxHeartbeats 4000000 in
set_option maxRecDepth 100000 in
theorem fc_Dk_asked (l : Launch) (hst : l.stackTraces = false) (D : va_G) (cR cP : ClassId) (ad : Nat → Nat) (sz : Nat) (σ : FDS) (p1 : Int32) (p2 : Bool) (p3 : Int32) (p4 : Int32) (p5 : UInt64) (hI : fd_Inv σ)  : vx_Met l fy_Dk_asked (fw_Dk_asked :: fb_tbl) ({ frames := 6, cells := 1, slots := 6, locals := 81 } : Room) (fd_Pcx D cR cP ad [.ref (ad 0), .int p1, .int (fd_bi p2), .int p3, .int p4, .double p5] σ sz) ((fun A => va_Qv (fun u : FDS => fv_Dk_asked σ p1 p2 p3 p4 p5 = (0, u) ∧ fd_Inv u) (fd_B D cR cP ad A) A) (va_A (fd_w cR cP ad σ) sz)) (fd_XC D cR cP ad (fun E u => (∃ c : Int32, fd_isx c E ∧ fv_Dk_asked σ p1 p2 p3 p4 p5 = (c, u)) ∧ fd_Inv u) (va_A (fd_w cR cP ad σ) sz)) 1 6 (va_A (fd_w cR cP ad σ) sz) := by
  refine fd_xofW (cc := fb_Dk_asked) (maxL := 9) (ret := none) (Qf := fun A => va_Qv (fun u : FDS => fv_Dk_asked σ p1 p2 p3 p4 p5 = (0, u) ∧ fd_Inv u) (fd_B D cR cP ad A) A) (XC := fd_XC D cR cP ad (fun E u => (∃ c : Int32, fd_isx c E ∧ fv_Dk_asked σ p1 p2 p3 p4 p5 = (c, u)) ∧ fd_Inv u)) (by decide) (Nat.le_of_ble_eq_true rfl) ?_
  intro p e s m args below meth c A Q hQ hx hb hr hts hown hlocks hml hP hK hD hS hA hN hX hZ hex ls hl
  have hown : s.vm.findClass fn_R_Dk = some m.cls := hown
  have hl : lv_has ls 9 [(0, .ref (ad 0)), (1, .int p1), (2, .int (fd_bi p2)), (3, .int p3), (4, .int p4), (5, .double p5)] := hl
  suffices hgo : ∀ (H : Heap) (locs : List Loc), va_P D fn_cl (fd_w cR cP ad σ) H → va_D A (fd_w cR cP ad σ) → va_S A s.heap H locs → W p l e ({ frames := 6, cells := 1, slots := 6, locals := 81 } : Room) s m args below meth c H locs 0 0 Q (F0 m 0 ls []) from hgo _ _ hP hD hS
  clear hP hD hS
  intro H locs hP hD hS
  refine lv_dload hx hb fx_Dk_asked_0 (lv_at hl 5 rfl) ?_
  refine lv_dconst0 hx hb fx_Dk_asked_2 ?_
  refine lv_dcmp hx hb fx_Dk_asked_3 ?_
  have hJ1 : ∀ (H : Heap) (locs : List Loc), va_P D fn_cl (fd_w cR cP ad σ) H → va_D A (fd_w cR cP ad σ) → va_S A s.heap H locs → ∀ (v1 : Bool), v1 = (if (Op.cmpValue (FP.dcmp p5 FP.dconst0) .l) < 0 then false else if 0 < (Op.cmpValue (FP.dcmp p5 4636737291354636288) .g) then false else true) → W p l e ({ frames := 6, cells := 1, slots := 6, locals := 81 } : Room) s m args below meth c H locs 0 0 Q (F0 m 21 ls [.int (fd_bi v1)]) := by
    intro H locs hP hD hS v1 hv1
    refine lv_istore (lv' := [(7, .int (fd_bi v1)), (0, .ref (ad 0)), (1, .int p1), (2, .int (fd_bi p2)), (3, .int p3), (4, .int p4), (5, .double p5)]) hx hb fx_Dk_asked_21 hl (by decide) rfl (fun ls hl => ?_)
    refine lv_iload_n hx hb fx_Dk_asked_23 rfl (lv_at hl 2 rfl) ?_
    refine fd_callz (va_runS (As := [.int p1]) (rest := []) ⟨hx, hb, hml, hown, hts⟩ (fc_Dk_isUrl l D cR cP ad H.size σ p1 hI ) ⟨callB_of 1 hts (fb_good fm_Dk_isUrl) rfl rfl rfl (hts _ (List.mem_cons_of_mem _ fq_1)) (hts _ (List.mem_cons_of_mem _ fq_240)) (by decide +kernel) ⟨Nat.le_of_ble_eq_true rfl, Nat.le_of_ble_eq_true rfl⟩, (hts _ (List.mem_cons_of_mem _ fq_241))⟩ (fd_preS hP hK hD hN) rfl rfl hl.1 rfl (lv_room (Nat.le_of_ble_eq_true rfl)) fx_Dk_asked_24 ⟨Nat.le_of_ble_eq_true rfl, Nat.le_of_ble_eq_true rfl⟩) hD hS hA (fun H locs hP hD hS => ?_)
    refine fd_ifeq (tgt := 50) hx hb fx_Dk_asked_27 (by decide) (fun c3 => ?_) (fun c3 => ?_)
    · exact fd_throw ft_g1 ft_n1 ft_o1 (by decide) fq_243 fq_10 (u := σ) hQ hx hb hst hown hts hX hZ (hl.1.trans hml.symm) hex hlocks ⟨Nat.le_of_ble_eq_true rfl, Nat.le_of_ble_eq_true rfl, Nat.le_of_ble_eq_true rfl, Nat.le_of_ble_eq_true rfl⟩ ⟨⟨1, Or.inl ⟨rfl, rfl⟩, (by rw [fv_Dk_asked, ← hv1, fv_Dk_asked_j1, if_neg c3])⟩, hI⟩ hP hD hS fx_Dk_asked_50 fx_Dk_asked_53 fx_Dk_asked_54 fx_Dk_asked_57
    · refine lv_iload_n hx hb fx_Dk_asked_30 rfl (lv_at hl 4 rfl) ?_
      refine fd_callz (va_runS (As := [.int p3]) (rest := []) ⟨hx, hb, hml, hown, hts⟩ (fc_Dk_isFourBits l D cR cP ad H.size σ p3 hI ) ⟨callB_of 1 hts (fb_good fm_Dk_isFourBits) rfl rfl rfl (hts _ (List.mem_cons_of_mem _ fq_1)) (hts _ (List.mem_cons_of_mem _ fq_313)) (by decide +kernel) ⟨Nat.le_of_ble_eq_true rfl, Nat.le_of_ble_eq_true rfl⟩, (hts _ (List.mem_cons_of_mem _ fq_314))⟩ (fd_preS hP hK hD hN) rfl rfl hl.1 rfl (lv_room (Nat.le_of_ble_eq_true rfl)) fx_Dk_asked_31 ⟨Nat.le_of_ble_eq_true rfl, Nat.le_of_ble_eq_true rfl⟩) hD hS hA (fun H locs hP hD hS => ?_)
      refine fd_ifeq (tgt := 50) hx hb fx_Dk_asked_34 (by decide) (fun c5 => ?_) (fun c5 => ?_)
      · exact fd_throw ft_g1 ft_n1 ft_o1 (by decide) fq_243 fq_10 (u := σ) hQ hx hb hst hown hts hX hZ (hl.1.trans hml.symm) hex hlocks ⟨Nat.le_of_ble_eq_true rfl, Nat.le_of_ble_eq_true rfl, Nat.le_of_ble_eq_true rfl, Nat.le_of_ble_eq_true rfl⟩ ⟨⟨1, Or.inl ⟨rfl, rfl⟩, (by rw [fv_Dk_asked, ← hv1, fv_Dk_asked_j1, if_pos c3, if_neg c5])⟩, hI⟩ hP hD hS fx_Dk_asked_50 fx_Dk_asked_53 fx_Dk_asked_54 fx_Dk_asked_57
      · refine lv_iload hx hb fx_Dk_asked_37 (lv_at hl 5 rfl) ?_
        refine fd_callz (va_runS (As := [.int p4]) (rest := []) ⟨hx, hb, hml, hown, hts⟩ (fc_Dk_isFourBits l D cR cP ad H.size σ p4 hI ) ⟨callB_of 1 hts (fb_good fm_Dk_isFourBits) rfl rfl rfl (hts _ (List.mem_cons_of_mem _ fq_1)) (hts _ (List.mem_cons_of_mem _ fq_313)) (by decide +kernel) ⟨Nat.le_of_ble_eq_true rfl, Nat.le_of_ble_eq_true rfl⟩, (hts _ (List.mem_cons_of_mem _ fq_314))⟩ (fd_preS hP hK hD hN) rfl rfl hl.1 rfl (lv_room (Nat.le_of_ble_eq_true rfl)) fx_Dk_asked_39 ⟨Nat.le_of_ble_eq_true rfl, Nat.le_of_ble_eq_true rfl⟩) hD hS hA (fun H locs hP hD hS => ?_)
        refine fd_ifeq (tgt := 50) hx hb fx_Dk_asked_42 (by decide) (fun c7 => ?_) (fun c7 => ?_)
        · exact fd_throw ft_g1 ft_n1 ft_o1 (by decide) fq_243 fq_10 (u := σ) hQ hx hb hst hown hts hX hZ (hl.1.trans hml.symm) hex hlocks ⟨Nat.le_of_ble_eq_true rfl, Nat.le_of_ble_eq_true rfl, Nat.le_of_ble_eq_true rfl, Nat.le_of_ble_eq_true rfl⟩ ⟨⟨1, Or.inl ⟨rfl, rfl⟩, (by rw [fv_Dk_asked, ← hv1, fv_Dk_asked_j1, if_pos c3, if_pos c5, if_neg c7])⟩, hI⟩ hP hD hS fx_Dk_asked_50 fx_Dk_asked_53 fx_Dk_asked_54 fx_Dk_asked_57
        · refine lv_iload hx hb fx_Dk_asked_45 (lv_at hl 0 rfl) ?_
          refine fd_ifne (tgt := 58) hx hb fx_Dk_asked_47 (by decide) (fun c8 => ?_) (fun c8 => ?_)
          · refine lv_aload_n hx hb fx_Dk_asked_58 rfl (lv_at hl 1 rfl) ?_
            refine va_get (D := D) (ci := 4) (v := .ref (ad 57)) (C := fn_R_Dk) (T := fn_T_Dk) (N := 9) hx hb hts fn_j_Dk hown hK hP 0 rfl rfl 0 (by decide) (hts _ (List.mem_cons_of_mem _ fq_204)) (fun _ h9 => h9) rfl fx_Dk_asked_59 ?_
            refine lv_iload_n hx hb fx_Dk_asked_62 rfl (lv_at hl 2 rfl) ?_
            have hb9 : vp_in p1 48 := fd_url c3
            refine va_aldq (D := D) hx hb hK hP 3 0 rfl rfl hb9 fx_Dk_asked_63 ?_
            refine W.eq (g2 := F0 m 64 ls (.ref (ad (3 + p1.toNatClampNeg)) :: [])) rfl ?_
            refine lv_astore (lv' := [(8, .ref (ad (3 + p1.toNatClampNeg))), (7, .int (fd_bi v1)), (0, .ref (ad 0)), (1, .int p1), (2, .int (fd_bi p2)), (3, .int p3), (4, .int p4), (5, .double p5)]) hx hb fx_Dk_asked_64 hl (by decide) rfl (fun ls hl => ?_)
            refine lv_aload hx hb fx_Dk_asked_66 (lv_at hl 0 rfl) ?_
            refine lv_iload_n hx hb fx_Dk_asked_68 rfl (lv_at hl 4 rfl) ?_
            refine va_putN (D := D) (ci := 3) (v := .int (fd_bi p2)) (ty := .boolean) (C := fn_R_Rs) (T := fn_T_Rs) (N := 13) hx hb hts fn_j_Rs fn_t_Rs fn_k_Rs fn_n_Rs hown hK hP hD hS (5 + p1.toNatClampNeg) (fd_w_res (fd_lt hb9)) rfl 7 (by decide) (va_Nw.use rfl (hN _ fq_44)) (fun _ h9 => h9) rfl (by decide +kernel) (fd_nar _) (fd_fit _) (Nat.le_of_ble_eq_true rfl) fx_Dk_asked_69 (fun H locs hP hD hS => ?_)
            rw [fd_set_Rs_7 (fd_lt hb9)] at hP hD
            have hI10 : fd_Inv (fd_srB σ p1.toNatClampNeg 7 p2) := fd_inv_srB hI
            refine lv_aload hx hb fx_Dk_asked_72 (lv_at hl 0 rfl) ?_
            refine lv_iload_n hx hb fx_Dk_asked_74 rfl (lv_at hl 5 rfl) ?_
            refine va_putN (D := D) (ci := 3) (v := .int p3) (ty := .int) (C := fn_R_Rs) (T := fn_T_Rs) (N := 13) hx hb hts fn_j_Rs fn_t_Rs fn_k_Rs fn_n_Rs hown hK hP hD hS (5 + p1.toNatClampNeg) (fd_w_res (fd_lt hb9)) rfl 8 (by decide) (va_Nw.use rfl (hN _ fq_46)) (fun _ h9 => h9) rfl (by decide +kernel) rfl rfl (Nat.le_of_ble_eq_true rfl) fx_Dk_asked_75 (fun H locs hP hD hS => ?_)
            rw [fd_set_Rs_8 (fd_lt hb9)] at hP hD
            have hI11 : fd_Inv (fd_srI (fd_srB σ p1.toNatClampNeg 7 p2) p1.toNatClampNeg 8 p3) := fd_inv_srI (by decide) hI10
            refine lv_aload hx hb fx_Dk_asked_78 (lv_at hl 0 rfl) ?_
            refine lv_iload hx hb fx_Dk_asked_80 (lv_at hl 6 rfl) ?_
            refine va_putN (D := D) (ci := 3) (v := .int p4) (ty := .int) (C := fn_R_Rs) (T := fn_T_Rs) (N := 13) hx hb hts fn_j_Rs fn_t_Rs fn_k_Rs fn_n_Rs hown hK hP hD hS (5 + p1.toNatClampNeg) (fd_w_res (fd_lt hb9)) rfl 9 (by decide) (va_Nw.use rfl (hN _ fq_48)) (fun _ h9 => h9) rfl (by decide +kernel) rfl rfl (Nat.le_of_ble_eq_true rfl) fx_Dk_asked_82 (fun H locs hP hD hS => ?_)
            rw [fd_set_Rs_9 (fd_lt hb9)] at hP hD
            have hI12 : fd_Inv (fd_srI (fd_srI (fd_srB σ p1.toNatClampNeg 7 p2) p1.toNatClampNeg 8 p3) p1.toNatClampNeg 9 p4) := fd_inv_srI (by decide) hI11
            refine lv_aload hx hb fx_Dk_asked_85 (lv_at hl 0 rfl) ?_
            refine lv_dload hx hb fx_Dk_asked_87 (lv_at hl 7 rfl) ?_
            refine va_putN (D := D) (ci := 3) (v := .double p5) (ty := .double) (C := fn_R_Rs) (T := fn_T_Rs) (N := 13) hx hb hts fn_j_Rs fn_t_Rs fn_k_Rs fn_n_Rs hown hK hP hD hS (5 + p1.toNatClampNeg) (fd_w_res (fd_lt hb9)) rfl 10 (by decide) (va_Nw.use rfl (hN _ fq_49)) (fun _ h9 => h9) rfl (by decide +kernel) rfl rfl (Nat.le_of_ble_eq_true rfl) fx_Dk_asked_89 (fun H locs hP hD hS => ?_)
            rw [fd_set_Rs_10 (fd_lt hb9)] at hP hD
            have hI13 : fd_Inv (fd_srD (fd_srI (fd_srI (fd_srB σ p1.toNatClampNeg 7 p2) p1.toNatClampNeg 8 p3) p1.toNatClampNeg 9 p4) p1.toNatClampNeg p5) := fd_inv_age (fd_agef c8 hv1) hI12
            exact fd_xvret (u := fd_srD (fd_srI (fd_srI (fd_srB σ p1.toNatClampNeg 7 p2) p1.toNatClampNeg 8 p3) p1.toNatClampNeg 9 p4) p1.toNatClampNeg p5) hQ hx hb hr ⟨by rw [fv_Dk_asked, ← hv1, fv_Dk_asked_j1, if_pos c3, if_pos c5, if_pos c7, if_pos c8], hI13⟩ hP hD hS fx_Dk_asked_92 hlocks
          · exact fd_throw ft_g1 ft_n1 ft_o1 (by decide) fq_243 fq_10 (u := σ) hQ hx hb hst hown hts hX hZ (hl.1.trans hml.symm) hex hlocks ⟨Nat.le_of_ble_eq_true rfl, Nat.le_of_ble_eq_true rfl, Nat.le_of_ble_eq_true rfl, Nat.le_of_ble_eq_true rfl⟩ ⟨⟨1, Or.inl ⟨rfl, rfl⟩, (by rw [fv_Dk_asked, ← hv1, fv_Dk_asked_j1, if_pos c3, if_pos c5, if_pos c7, if_neg c8])⟩, hI⟩ hP hD hS fx_Dk_asked_50 fx_Dk_asked_53 fx_Dk_asked_54 fx_Dk_asked_57
  refine lv_if_lt (tgt := 20) hx hb fx_Dk_asked_4 (by decide) (fun c14 => ?_) (fun c14 => ?_)
  · refine lv_iconst (v := 0) hx hb fx_Dk_asked_20 (by decide) ?_
    exact hJ1 H locs hP hD hS false (by rw [if_pos c14])
  · refine lv_dload hx hb fx_Dk_asked_7 (lv_at hl 5 rfl) ?_
    refine lv_ldc2d (v := 4636737291354636288) hx hb hown (hts _ (List.mem_cons_of_mem _ fq_330)) fx_Dk_asked_9 ?_
    refine lv_dcmp hx hb fx_Dk_asked_12 ?_
    refine lv_if_gt (tgt := 20) hx hb fx_Dk_asked_13 (by decide) (fun c15 => ?_) (fun c15 => ?_)
    · refine lv_iconst (v := 0) hx hb fx_Dk_asked_20 (by decide) ?_
      exact hJ1 H locs hP hD hS false (by rw [if_neg c14, if_pos c15])
    · refine lv_iconst (v := 1) hx hb fx_Dk_asked_16 (by decide) ?_
      refine lv_goto (tgt := 21) hx hb fx_Dk_asked_17 (by decide) ?_
      exact hJ1 H locs hP hD hS true (by rw [if_neg c14, if_neg c15])
def fv_Dk_tick_j1 (σ : FDS) (p1 : UInt64) (v1 : Bool) : Int32 × UInt64 × FDS := if v1 = true then (0, FP.dadd (fd_dT σ) p1, fd_sdT σ (FP.dadd (fd_dT σ) p1)) else (1, 0, σ)
def fv_Dk_tick (σ : FDS) (p1 : UInt64) : Int32 × UInt64 × FDS := fv_Dk_tick_j1 σ p1 (if (Op.cmpValue (FP.dcmp p1 FP.dconst0) .l) ≤ 0 then false else if 0 < (Op.cmpValue (FP.dcmp p1 4652007308841189376) .g) then false else true)
set_option maxHeartbeats 4000000 in
set_option maxRecDepth 100000 in
theorem fc_Dk_tick (l : Launch) (hst : l.stackTraces = false) (D : va_G) (cR cP : ClassId) (ad : Nat → Nat) (sz : Nat) (σ : FDS) (p1 : UInt64) (hI : fd_Inv σ)  : vx_Met l fy_Dk_tick (fw_Dk_tick :: fb_tbl) ({ frames := 6, cells := 1, slots := 6, locals := 81 } : Room) (fd_Pcx D cR cP ad [.ref (ad 0), .double p1] σ sz) ((fun A => va_Qd (fun (r : UInt64) (u : FDS) => fv_Dk_tick σ p1 = (0, r, u) ∧ fd_Inv u) (fd_B D cR cP ad A) A) (va_A (fd_w cR cP ad σ) sz)) (fd_XC D cR cP ad (fun E u => (∃ c : Int32, fd_isx c E ∧ fv_Dk_tick σ p1 = (c, 0, u)) ∧ fd_Inv u) (va_A (fd_w cR cP ad σ) sz)) 1 6 (va_A (fd_w cR cP ad σ) sz) := by
  refine fd_xofW (cc := fb_Dk_tick) (maxL := 4) (ret := (some .double)) (Qf := fun A => va_Qd (fun (r : UInt64) (u : FDS) => fv_Dk_tick σ p1 = (0, r, u) ∧ fd_Inv u) (fd_B D cR cP ad A) A) (XC := fd_XC D cR cP ad (fun E u => (∃ c : Int32, fd_isx c E ∧ fv_Dk_tick σ p1 = (c, 0, u)) ∧ fd_Inv u)) (by decide) (Nat.le_of_ble_eq_true rfl) ?_
  intro p e s m args below meth c A Q hQ hx hb hr hts hown hlocks hml hP hK hD hS hA hN hX hZ hex ls hl
  have hown : s.vm.findClass fn_R_Dk = some m.cls := hown
  have hl : lv_has ls 4 [(0, .ref (ad 0)), (1, .double p1)] := hl
  suffices hgo : ∀ (H : Heap) (locs : List Loc), va_P D fn_cl (fd_w cR cP ad σ) H → va_D A (fd_w cR cP ad σ) → va_S A s.heap H locs → W p l e ({ frames := 6, cells := 1, slots := 6, locals := 81 } : Room) s m args below meth c H locs 0 0 Q (F0 m 0 ls []) from hgo _ _ hP hD hS
  clear hP hD hS
  intro H locs hP hD hS
  refine lv_dload_n hx hb fx_Dk_tick_0 rfl (lv_at hl 1 rfl) ?_
  refine lv_dconst0 hx hb fx_Dk_tick_1 ?_
  refine lv_dcmp hx hb fx_Dk_tick_2 ?_
  have hJ1 : ∀ (H : Heap) (locs : List Loc), va_P D fn_cl (fd_w cR cP ad σ) H → va_D A (fd_w cR cP ad σ) → va_S A s.heap H locs → ∀ (v1 : Bool), v1 = (if (Op.cmpValue (FP.dcmp p1 FP.dconst0) .l) ≤ 0 then false else if 0 < (Op.cmpValue (FP.dcmp p1 4652007308841189376) .g) then false else true) → W p l e ({ frames := 6, cells := 1, slots := 6, locals := 81 } : Room) s m args below meth c H locs 0 0 Q (F0 m 19 ls [.int (fd_bi v1)]) := by
    intro H locs hP hD hS v1 hv1
    refine lv_istore_n (lv' := [(3, .int (fd_bi v1)), (0, .ref (ad 0)), (1, .double p1)]) hx hb fx_Dk_tick_19 rfl hl (by decide) rfl (fun ls hl => ?_)
    refine lv_iload_n hx hb fx_Dk_tick_20 rfl (lv_at hl 0 rfl) ?_
    refine fd_ifne (tgt := 32) hx hb fx_Dk_tick_21 (by decide) (fun c2 => ?_) (fun c2 => ?_)
    · refine lv_aload_n hx hb fx_Dk_tick_32 rfl (lv_at hl 1 rfl) ?_
      refine lv_aload_n hx hb fx_Dk_tick_33 rfl (lv_at hl 1 rfl) ?_
      refine va_get (D := D) (ci := 4) (v := .double (fd_dT σ)) (C := fn_R_Dk) (T := fn_T_Dk) (N := 9) hx hb hts fn_j_Dk hown hK hP 0 rfl rfl 3 (by decide) (hts _ (List.mem_cons_of_mem _ fq_207)) (fun _ h9 => h9) rfl fx_Dk_tick_34 ?_
      refine lv_dload_n hx hb fx_Dk_tick_37 rfl (lv_at hl 2 rfl) ?_
      refine lv_dadd hx hb fx_Dk_tick_38 (fd_n64 (fd_tickn hI c2 hv1)) ?_
      refine va_put (D := D) (ci := 4) (v := .double (FP.dadd (fd_dT σ) p1)) (ty := .double) (C := fn_R_Dk) (T := fn_T_Dk) (N := 9) hx hb hts fn_j_Dk fn_t_Dk fn_k_Dk fn_n_Dk hown hK hP hD hS 0 rfl rfl 3 (by decide) (hts _ (List.mem_cons_of_mem _ fq_207)) (fun _ h9 => h9) rfl (by decide +kernel) rfl rfl (Nat.le_of_ble_eq_true rfl) fx_Dk_tick_39 (fun H locs hP hD hS => ?_)
      rw [fd_set_Dk_3] at hP hD
      have hI3 : fd_Inv (fd_sdT σ (FP.dadd (fd_dT σ) p1)) := fd_inv_time (fd_tickn hI c2 hv1) hI
      refine lv_aload_n hx hb fx_Dk_tick_42 rfl (lv_at hl 1 rfl) ?_
      refine va_get (D := D) (ci := 4) (v := .double (FP.dadd (fd_dT σ) p1)) (C := fn_R_Dk) (T := fn_T_Dk) (N := 9) hx hb hts fn_j_Dk hown hK hP 0 rfl rfl 3 (by decide) (hts _ (List.mem_cons_of_mem _ fq_207)) (fun _ h9 => h9) rfl fx_Dk_tick_43 ?_
      exact fd_xdret (r := FP.dadd (fd_dT σ) p1) (u := fd_sdT σ (FP.dadd (fd_dT σ) p1)) hQ hx hb hr ⟨by rw [fv_Dk_tick, ← hv1, fv_Dk_tick_j1, if_pos c2], hI3⟩ hP hD hS fx_Dk_tick_46 hlocks
    · exact fd_throw ft_g1 ft_n1 ft_o1 (by decide) fq_243 fq_10 (u := σ) hQ hx hb hst hown hts hX hZ (hl.1.trans hml.symm) hex hlocks ⟨Nat.le_of_ble_eq_true rfl, Nat.le_of_ble_eq_true rfl, Nat.le_of_ble_eq_true rfl, Nat.le_of_ble_eq_true rfl⟩ ⟨⟨1, Or.inl ⟨rfl, rfl⟩, (by rw [fv_Dk_tick, ← hv1, fv_Dk_tick_j1, if_neg c2])⟩, hI⟩ hP hD hS fx_Dk_tick_24 fx_Dk_tick_27 fx_Dk_tick_28 fx_Dk_tick_31
  refine lv_if_le (tgt := 18) hx hb fx_Dk_tick_3 (by decide) (fun c4 => ?_) (fun c4 => ?_)
  · refine lv_iconst (v := 0) hx hb fx_Dk_tick_18 (by decide) ?_
    exact hJ1 H locs hP hD hS false (by rw [if_pos c4])
  · refine lv_dload_n hx hb fx_Dk_tick_6 rfl (lv_at hl 1 rfl) ?_
    refine lv_ldc2d (v := 4652007308841189376) hx hb hown (hts _ (List.mem_cons_of_mem _ fq_338)) fx_Dk_tick_7 ?_
    refine lv_dcmp hx hb fx_Dk_tick_10 ?_
    refine lv_if_gt (tgt := 18) hx hb fx_Dk_tick_11 (by decide) (fun c5 => ?_) (fun c5 => ?_)
    · refine lv_iconst (v := 0) hx hb fx_Dk_tick_18 (by decide) ?_
      exact hJ1 H locs hP hD hS false (by rw [if_neg c4, if_pos c5])
    · refine lv_iconst (v := 1) hx hb fx_Dk_tick_14 (by decide) ?_
      refine lv_goto (tgt := 19) hx hb fx_Dk_tick_15 (by decide) ?_
      exact hJ1 H locs hP hD hS true (by rw [if_neg c4, if_neg c5])
def fv_Dk_told_j7 (σ : FDS) (p1 : Int32) (v7 : Bool) : Int32 × Int32 × FDS := (0, fd_bi v7, σ)
def fv_Dk_told (σ : FDS) (p1 : Int32) : Int32 × Int32 × FDS := if p1 = 0 then (0, fd_qI σ 10, σ) else if p1 = 1 then (0, fd_qI σ 7, σ) else if p1 = 2 then (0, fd_qI σ 1, σ) else if p1 = 3 then (0, fd_qI σ 0, σ) else if p1 = 4 then (0, fd_qI σ 2, σ) else if p1 = 5 then fv_Dk_told_j7 σ p1 (if (fd_qB σ 9) = true then true else false) else if p1 = 6 then (0, fd_qI σ 11, σ) else if p1 = 7 then (0, fd_qI σ 12, σ) else if p1 = 8 then (0, fd_qI σ 13, σ) else if p1 = 9 then (0, fd_qI σ 14, σ) else (1, 0, σ)
set_option maxHeartbeats 4000000 in
set_option maxRecDepth 100000 in
theorem fc_Dk_told (l : Launch) (hst : l.stackTraces = false) (D : va_G) (cR cP : ClassId) (ad : Nat → Nat) (sz : Nat) (σ : FDS) (p1 : Int32) (hI : fd_Inv σ)  : vx_Met l fy_Dk_told (fw_Dk_told :: fb_tbl) ({ frames := 6, cells := 1, slots := 6, locals := 81 } : Room) (fd_Pcx D cR cP ad [.ref (ad 0), .int p1] σ sz) ((fun A => va_Qi (fun (r : Int32) (u : FDS) => fv_Dk_told σ p1 = (0, r, u) ∧ fd_Inv u) (fd_B D cR cP ad A) A) (va_A (fd_w cR cP ad σ) sz)) (fd_XC D cR cP ad (fun E u => (∃ c : Int32, fd_isx c E ∧ fv_Dk_told σ p1 = (c, 0, u)) ∧ fd_Inv u) (va_A (fd_w cR cP ad σ) sz)) 1 6 (va_A (fd_w cR cP ad σ) sz) := by
  refine fd_xofW (cc := fb_Dk_told) (maxL := 2) (ret := (some .int)) (Qf := fun A => va_Qi (fun (r : Int32) (u : FDS) => fv_Dk_told σ p1 = (0, r, u) ∧ fd_Inv u) (fd_B D cR cP ad A) A) (XC := fd_XC D cR cP ad (fun E u => (∃ c : Int32, fd_isx c E ∧ fv_Dk_told σ p1 = (c, 0, u)) ∧ fd_Inv u)) (by decide) (Nat.le_of_ble_eq_true rfl) ?_
  intro p e s m args below meth c A Q hQ hx hb hr hts hown hlocks hml hP hK hD hS hA hN hX hZ hex ls hl
  have hown : s.vm.findClass fn_R_Dk = some m.cls := hown
  have hl : lv_has ls 2 [(0, .ref (ad 0)), (1, .int p1)] := hl
  suffices hgo : ∀ (H : Heap) (locs : List Loc), va_P D fn_cl (fd_w cR cP ad σ) H → va_D A (fd_w cR cP ad σ) → va_S A s.heap H locs → W p l e ({ frames := 6, cells := 1, slots := 6, locals := 81 } : Room) s m args below meth c H locs 0 0 Q (F0 m 0 ls []) from hgo _ _ hP hD hS
  clear hP hD hS
  intro H locs hP hD hS
  refine lv_iload_n hx hb fx_Dk_told_0 rfl (lv_at hl 1 rfl) ?_
  by_cases c1 : p1 = 0
  · refine lv_tableIn (tgt := 56) hx hb fx_Dk_told_1 (by rw [c1]; decide) (by rw [c1]; decide) (by rw [c1]; rfl) (by decide) ?_
    refine lv_aload_n hx hb fx_Dk_told_56 rfl (lv_at hl 0 rfl) ?_
    refine va_get (D := D) (ci := 4) (v := .ref (ad 2)) (C := fn_R_Dk) (T := fn_T_Dk) (N := 9) hx hb hts fn_j_Dk hown hK hP 0 rfl rfl 2 (by decide) (hts _ (List.mem_cons_of_mem _ fq_206)) (fun _ h9 => h9) rfl fx_Dk_told_57 ?_
    refine va_getN (D := D) (ci := 2) (v := .int (fd_qI σ 10)) (C := fn_R_Rq) (T := fn_T_Rq) (N := 15) hx hb hts fn_j_Rq hown hK hP 2 rfl rfl 10 (by decide) (va_Nw.use rfl (hN _ fq_164)) (fun _ h9 => h9) rfl fx_Dk_told_60 ?_
    exact fd_xiret (r := fd_qI σ 10) (u := σ) hQ hx hb hr ⟨by rw [fv_Dk_told, if_pos c1], hI⟩ hP hD hS fx_Dk_told_63 hlocks
  · by_cases c2 : p1 = 1
    · refine lv_tableIn (tgt := 64) hx hb fx_Dk_told_1 (by rw [c2]; decide) (by rw [c2]; decide) (by rw [c2]; rfl) (by decide) ?_
      refine lv_aload_n hx hb fx_Dk_told_64 rfl (lv_at hl 0 rfl) ?_
      refine va_get (D := D) (ci := 4) (v := .ref (ad 2)) (C := fn_R_Dk) (T := fn_T_Dk) (N := 9) hx hb hts fn_j_Dk hown hK hP 0 rfl rfl 2 (by decide) (hts _ (List.mem_cons_of_mem _ fq_206)) (fun _ h9 => h9) rfl fx_Dk_told_65 ?_
      refine va_getN (D := D) (ci := 2) (v := .int (fd_qI σ 7)) (C := fn_R_Rq) (T := fn_T_Rq) (N := 15) hx hb hts fn_j_Rq hown hK hP 2 rfl rfl 7 (by decide) (va_Nw.use rfl (hN _ fq_156)) (fun _ h9 => h9) rfl fx_Dk_told_68 ?_
      exact fd_xiret (r := fd_qI σ 7) (u := σ) hQ hx hb hr ⟨by rw [fv_Dk_told, if_neg c1, if_pos c2], hI⟩ hP hD hS fx_Dk_told_71 hlocks
    · by_cases c3 : p1 = 2
      · refine lv_tableIn (tgt := 72) hx hb fx_Dk_told_1 (by rw [c3]; decide) (by rw [c3]; decide) (by rw [c3]; rfl) (by decide) ?_
        refine lv_aload_n hx hb fx_Dk_told_72 rfl (lv_at hl 0 rfl) ?_
        refine va_get (D := D) (ci := 4) (v := .ref (ad 2)) (C := fn_R_Dk) (T := fn_T_Dk) (N := 9) hx hb hts fn_j_Dk hown hK hP 0 rfl rfl 2 (by decide) (hts _ (List.mem_cons_of_mem _ fq_206)) (fun _ h9 => h9) rfl fx_Dk_told_73 ?_
        refine va_getN (D := D) (ci := 2) (v := .int (fd_qI σ 1)) (C := fn_R_Rq) (T := fn_T_Rq) (N := 15) hx hb hts fn_j_Rq hown hK hP 2 rfl rfl 1 (by decide) (va_Nw.use rfl (hN _ fq_146)) (fun _ h9 => h9) rfl fx_Dk_told_76 ?_
        exact fd_xiret (r := fd_qI σ 1) (u := σ) hQ hx hb hr ⟨by rw [fv_Dk_told, if_neg c1, if_neg c2, if_pos c3], hI⟩ hP hD hS fx_Dk_told_79 hlocks
      · by_cases c4 : p1 = 3
        · refine lv_tableIn (tgt := 80) hx hb fx_Dk_told_1 (by rw [c4]; decide) (by rw [c4]; decide) (by rw [c4]; rfl) (by decide) ?_
          refine lv_aload_n hx hb fx_Dk_told_80 rfl (lv_at hl 0 rfl) ?_
          refine va_get (D := D) (ci := 4) (v := .ref (ad 2)) (C := fn_R_Dk) (T := fn_T_Dk) (N := 9) hx hb hts fn_j_Dk hown hK hP 0 rfl rfl 2 (by decide) (hts _ (List.mem_cons_of_mem _ fq_206)) (fun _ h9 => h9) rfl fx_Dk_told_81 ?_
          refine va_getN (D := D) (ci := 2) (v := .int (fd_qI σ 0)) (C := fn_R_Rq) (T := fn_T_Rq) (N := 15) hx hb hts fn_j_Rq hown hK hP 2 rfl rfl 0 (by decide) (va_Nw.use rfl (hN _ fq_142)) (fun _ h9 => h9) rfl fx_Dk_told_84 ?_
          exact fd_xiret (r := fd_qI σ 0) (u := σ) hQ hx hb hr ⟨by rw [fv_Dk_told, if_neg c1, if_neg c2, if_neg c3, if_pos c4], hI⟩ hP hD hS fx_Dk_told_87 hlocks
        · by_cases c5 : p1 = 4
          · refine lv_tableIn (tgt := 88) hx hb fx_Dk_told_1 (by rw [c5]; decide) (by rw [c5]; decide) (by rw [c5]; rfl) (by decide) ?_
            refine lv_aload_n hx hb fx_Dk_told_88 rfl (lv_at hl 0 rfl) ?_
            refine va_get (D := D) (ci := 4) (v := .ref (ad 2)) (C := fn_R_Dk) (T := fn_T_Dk) (N := 9) hx hb hts fn_j_Dk hown hK hP 0 rfl rfl 2 (by decide) (hts _ (List.mem_cons_of_mem _ fq_206)) (fun _ h9 => h9) rfl fx_Dk_told_89 ?_
            refine va_getN (D := D) (ci := 2) (v := .int (fd_qI σ 2)) (C := fn_R_Rq) (T := fn_T_Rq) (N := 15) hx hb hts fn_j_Rq hown hK hP 2 rfl rfl 2 (by decide) (va_Nw.use rfl (hN _ fq_148)) (fun _ h9 => h9) rfl fx_Dk_told_92 ?_
            exact fd_xiret (r := fd_qI σ 2) (u := σ) hQ hx hb hr ⟨by rw [fv_Dk_told, if_neg c1, if_neg c2, if_neg c3, if_neg c4, if_pos c5], hI⟩ hP hD hS fx_Dk_told_95 hlocks
          · by_cases c6 : p1 = 5
            · refine lv_tableIn (tgt := 96) hx hb fx_Dk_told_1 (by rw [c6]; decide) (by rw [c6]; decide) (by rw [c6]; rfl) (by decide) ?_
              refine lv_aload_n hx hb fx_Dk_told_96 rfl (lv_at hl 0 rfl) ?_
              refine va_get (D := D) (ci := 4) (v := .ref (ad 2)) (C := fn_R_Dk) (T := fn_T_Dk) (N := 9) hx hb hts fn_j_Dk hown hK hP 0 rfl rfl 2 (by decide) (hts _ (List.mem_cons_of_mem _ fq_206)) (fun _ h9 => h9) rfl fx_Dk_told_97 ?_
              refine va_getN (D := D) (ci := 2) (v := .int (fd_bi (fd_qB σ 9))) (C := fn_R_Rq) (T := fn_T_Rq) (N := 15) hx hb hts fn_j_Rq hown hK hP 2 rfl rfl 9 (by decide) (va_Nw.use rfl (hN _ fq_162)) (fun _ h9 => h9) rfl fx_Dk_told_100 ?_
              have hJ7 : ∀ (H : Heap) (locs : List Loc), va_P D fn_cl (fd_w cR cP ad σ) H → va_D A (fd_w cR cP ad σ) → va_S A s.heap H locs → ∀ (v7 : Bool), v7 = (if (fd_qB σ 9) = true then true else false) → W p l e ({ frames := 6, cells := 1, slots := 6, locals := 81 } : Room) s m args below meth c H locs 0 0 Q (F0 m 111 ls [.int (fd_bi v7)]) := by
                intro H locs hP hD hS v7 hv7
                exact fd_xiret (r := fd_bi v7) (u := σ) hQ hx hb hr ⟨by rw [fv_Dk_told, if_neg c1, if_neg c2, if_neg c3, if_neg c4, if_neg c5, if_pos c6, ← hv7, fv_Dk_told_j7], hI⟩ hP hD hS fx_Dk_told_111 hlocks
              refine fd_ifeq (tgt := 110) hx hb fx_Dk_told_103 (by decide) (fun c8 => ?_) (fun c8 => ?_)
              · refine lv_iconst (v := 0) hx hb fx_Dk_told_110 (by decide) ?_
                exact hJ7 H locs hP hD hS false (by rw [if_neg c8])
              · refine lv_iconst (v := 1) hx hb fx_Dk_told_106 (by decide) ?_
                refine lv_goto (tgt := 111) hx hb fx_Dk_told_107 (by decide) ?_
                exact hJ7 H locs hP hD hS true (by rw [if_pos c8])
            · by_cases c9 : p1 = 6
              · refine lv_tableIn (tgt := 112) hx hb fx_Dk_told_1 (by rw [c9]; decide) (by rw [c9]; decide) (by rw [c9]; rfl) (by decide) ?_
                refine lv_aload_n hx hb fx_Dk_told_112 rfl (lv_at hl 0 rfl) ?_
                refine va_get (D := D) (ci := 4) (v := .ref (ad 2)) (C := fn_R_Dk) (T := fn_T_Dk) (N := 9) hx hb hts fn_j_Dk hown hK hP 0 rfl rfl 2 (by decide) (hts _ (List.mem_cons_of_mem _ fq_206)) (fun _ h9 => h9) rfl fx_Dk_told_113 ?_
                refine va_getN (D := D) (ci := 2) (v := .int (fd_qI σ 11)) (C := fn_R_Rq) (T := fn_T_Rq) (N := 15) hx hb hts fn_j_Rq hown hK hP 2 rfl rfl 11 (by decide) (va_Nw.use rfl (hN _ fq_166)) (fun _ h9 => h9) rfl fx_Dk_told_116 ?_
                exact fd_xiret (r := fd_qI σ 11) (u := σ) hQ hx hb hr ⟨by rw [fv_Dk_told, if_neg c1, if_neg c2, if_neg c3, if_neg c4, if_neg c5, if_neg c6, if_pos c9], hI⟩ hP hD hS fx_Dk_told_119 hlocks
              · by_cases c10 : p1 = 7
                · refine lv_tableIn (tgt := 120) hx hb fx_Dk_told_1 (by rw [c10]; decide) (by rw [c10]; decide) (by rw [c10]; rfl) (by decide) ?_
                  refine lv_aload_n hx hb fx_Dk_told_120 rfl (lv_at hl 0 rfl) ?_
                  refine va_get (D := D) (ci := 4) (v := .ref (ad 2)) (C := fn_R_Dk) (T := fn_T_Dk) (N := 9) hx hb hts fn_j_Dk hown hK hP 0 rfl rfl 2 (by decide) (hts _ (List.mem_cons_of_mem _ fq_206)) (fun _ h9 => h9) rfl fx_Dk_told_121 ?_
                  refine va_getN (D := D) (ci := 2) (v := .int (fd_qI σ 12)) (C := fn_R_Rq) (T := fn_T_Rq) (N := 15) hx hb hts fn_j_Rq hown hK hP 2 rfl rfl 12 (by decide) (va_Nw.use rfl (hN _ fq_168)) (fun _ h9 => h9) rfl fx_Dk_told_124 ?_
                  exact fd_xiret (r := fd_qI σ 12) (u := σ) hQ hx hb hr ⟨by rw [fv_Dk_told, if_neg c1, if_neg c2, if_neg c3, if_neg c4, if_neg c5, if_neg c6, if_neg c9, if_pos c10], hI⟩ hP hD hS fx_Dk_told_127 hlocks
                · by_cases c11 : p1 = 8
                  · refine lv_tableIn (tgt := 128) hx hb fx_Dk_told_1 (by rw [c11]; decide) (by rw [c11]; decide) (by rw [c11]; rfl) (by decide) ?_
                    refine lv_aload_n hx hb fx_Dk_told_128 rfl (lv_at hl 0 rfl) ?_
                    refine va_get (D := D) (ci := 4) (v := .ref (ad 2)) (C := fn_R_Dk) (T := fn_T_Dk) (N := 9) hx hb hts fn_j_Dk hown hK hP 0 rfl rfl 2 (by decide) (hts _ (List.mem_cons_of_mem _ fq_206)) (fun _ h9 => h9) rfl fx_Dk_told_129 ?_
                    refine va_getN (D := D) (ci := 2) (v := .int (fd_qI σ 13)) (C := fn_R_Rq) (T := fn_T_Rq) (N := 15) hx hb hts fn_j_Rq hown hK hP 2 rfl rfl 13 (by decide) (va_Nw.use rfl (hN _ fq_170)) (fun _ h9 => h9) rfl fx_Dk_told_132 ?_
                    exact fd_xiret (r := fd_qI σ 13) (u := σ) hQ hx hb hr ⟨by rw [fv_Dk_told, if_neg c1, if_neg c2, if_neg c3, if_neg c4, if_neg c5, if_neg c6, if_neg c9, if_neg c10, if_pos c11], hI⟩ hP hD hS fx_Dk_told_135 hlocks
                  · by_cases c12 : p1 = 9
                    · refine lv_tableIn (tgt := 136) hx hb fx_Dk_told_1 (by rw [c12]; decide) (by rw [c12]; decide) (by rw [c12]; rfl) (by decide) ?_
                      refine lv_aload_n hx hb fx_Dk_told_136 rfl (lv_at hl 0 rfl) ?_
                      refine va_get (D := D) (ci := 4) (v := .ref (ad 2)) (C := fn_R_Dk) (T := fn_T_Dk) (N := 9) hx hb hts fn_j_Dk hown hK hP 0 rfl rfl 2 (by decide) (hts _ (List.mem_cons_of_mem _ fq_206)) (fun _ h9 => h9) rfl fx_Dk_told_137 ?_
                      refine va_getN (D := D) (ci := 2) (v := .int (fd_qI σ 14)) (C := fn_R_Rq) (T := fn_T_Rq) (N := 15) hx hb hts fn_j_Rq hown hK hP 2 rfl rfl 14 (by decide) (va_Nw.use rfl (hN _ fq_172)) (fun _ h9 => h9) rfl fx_Dk_told_140 ?_
                      exact fd_xiret (r := fd_qI σ 14) (u := σ) hQ hx hb hr ⟨by rw [fv_Dk_told, if_neg c1, if_neg c2, if_neg c3, if_neg c4, if_neg c5, if_neg c6, if_neg c9, if_neg c10, if_neg c11, if_pos c12], hI⟩ hP hD hS fx_Dk_told_143 hlocks
                    · refine lv_tableOut (tgt := 144) hx hb fx_Dk_told_1 (by have n0 := lv_neT c1 (a := 0) (by decide); have n1 := lv_neT c2 (a := 1) (by decide); have n2 := lv_neT c3 (a := 2) (by decide); have n3 := lv_neT c4 (a := 3) (by decide); have n4 := lv_neT c5 (a := 4) (by decide); have n5 := lv_neT c6 (a := 5) (by decide); have n6 := lv_neT c9 (a := 6) (by decide); have n7 := lv_neT c10 (a := 7) (by decide); have n8 := lv_neT c11 (a := 8) (by decide); have n9 := lv_neT c12 (a := 9) (by decide); omega) (by decide) ?_
                      exact fd_throw ft_g1 ft_n1 ft_o1 (by decide) fq_243 fq_10 (u := σ) hQ hx hb hst hown hts hX hZ (hl.1.trans hml.symm) hex hlocks ⟨Nat.le_of_ble_eq_true rfl, Nat.le_of_ble_eq_true rfl, Nat.le_of_ble_eq_true rfl, Nat.le_of_ble_eq_true rfl⟩ ⟨⟨1, Or.inl ⟨rfl, rfl⟩, (by rw [fv_Dk_told, if_neg c1, if_neg c2, if_neg c3, if_neg c4, if_neg c5, if_neg c6, if_neg c9, if_neg c10, if_neg c11, if_neg c12])⟩, hI⟩ hP hD hS fx_Dk_told_144 fx_Dk_told_147 fx_Dk_told_148 fx_Dk_told_151
def fv_Dk_kept_j9 (σ : FDS) (p1 : Int32) (p2 : Int32) (v9 : Bool) : Int32 × Int32 × FDS := (0, fd_bi v9, σ)
def fv_Dk_kept_j13 (σ : FDS) (p1 : Int32) (p2 : Int32) (v13 : Bool) : Int32 × Int32 × FDS := (0, fd_bi v13, σ)
def fv_Dk_kept (σ : FDS) (p1 : Int32) (p2 : Int32) : Int32 × Int32 × FDS := if p2 < 0 then (1, 0, σ) else if p2 < 6 then if (fv_Mm_holds σ p1) = true then if p2 = 0 then (0, fd_pI σ (fd_pF σ p1.toNatClampNeg) 0, σ) else if p2 = 1 then (0, fd_pI σ (fd_pF σ p1.toNatClampNeg) 1, σ) else if p2 = 2 then fv_Dk_kept_j9 σ p1 p2 (if (fd_pB σ (fd_pF σ p1.toNatClampNeg)) = true then true else false) else if p2 = 3 then (0, fd_pI σ (fd_pF σ p1.toNatClampNeg) 3, σ) else if p2 = 4 then (0, fd_pI σ (fd_pF σ p1.toNatClampNeg) 4, σ) else fv_Dk_kept_j13 σ p1 p2 (if 0 ≤ (Op.cmpValue (FP.dcmp (fd_dT σ) (fd_pD σ (fd_pF σ p1.toNatClampNeg))) .g) then false else true) else (3, 0, σ) else (1, 0, σ)
set_option maxHeartbeats 4000000 in
set_option maxRecDepth 100000 in
theorem fc_Dk_kept (l : Launch) (hst : l.stackTraces = false) (D : va_G) (cR cP : ClassId) (ad : Nat → Nat) (sz : Nat) (σ : FDS) (p1 : Int32) (p2 : Int32) (hI : fd_Inv σ)  : vx_Met l fy_Dk_kept (fw_Dk_kept :: fb_tbl) ({ frames := 6, cells := 1, slots := 6, locals := 81 } : Room) (fd_Pcx D cR cP ad [.ref (ad 0), .int p1, .int p2] σ sz) ((fun A => va_Qi (fun (r : Int32) (u : FDS) => fv_Dk_kept σ p1 p2 = (0, r, u) ∧ fd_Inv u) (fd_B D cR cP ad A) A) (va_A (fd_w cR cP ad σ) sz)) (fd_XC D cR cP ad (fun E u => (∃ c : Int32, fd_isx c E ∧ fv_Dk_kept σ p1 p2 = (c, 0, u)) ∧ fd_Inv u) (va_A (fd_w cR cP ad σ) sz)) 1 6 (va_A (fd_w cR cP ad σ) sz) := by
  refine fd_xofW (cc := fb_Dk_kept) (maxL := 4) (ret := (some .int)) (Qf := fun A => va_Qi (fun (r : Int32) (u : FDS) => fv_Dk_kept σ p1 p2 = (0, r, u) ∧ fd_Inv u) (fd_B D cR cP ad A) A) (XC := fd_XC D cR cP ad (fun E u => (∃ c : Int32, fd_isx c E ∧ fv_Dk_kept σ p1 p2 = (c, 0, u)) ∧ fd_Inv u)) (by decide) (Nat.le_of_ble_eq_true rfl) ?_
  intro p e s m args below meth c A Q hQ hx hb hr hts hown hlocks hml hP hK hD hS hA hN hX hZ hex ls hl
  have hown : s.vm.findClass fn_R_Dk = some m.cls := hown
  have hl : lv_has ls 4 [(0, .ref (ad 0)), (1, .int p1), (2, .int p2)] := hl
  suffices hgo : ∀ (H : Heap) (locs : List Loc), va_P D fn_cl (fd_w cR cP ad σ) H → va_D A (fd_w cR cP ad σ) → va_S A s.heap H locs → W p l e ({ frames := 6, cells := 1, slots := 6, locals := 81 } : Room) s m args below meth c H locs 0 0 Q (F0 m 0 ls []) from hgo _ _ hP hD hS
  clear hP hD hS
  intro H locs hP hD hS
  refine lv_iload_n hx hb fx_Dk_kept_0 rfl (lv_at hl 2 rfl) ?_
  refine lv_if_lt (tgt := 10) hx hb fx_Dk_kept_1 (by decide) (fun c1 => ?_) (fun c1 => ?_)
  · exact fd_throw ft_g1 ft_n1 ft_o1 (by decide) fq_243 fq_10 (u := σ) hQ hx hb hst hown hts hX hZ (hl.1.trans hml.symm) hex hlocks ⟨Nat.le_of_ble_eq_true rfl, Nat.le_of_ble_eq_true rfl, Nat.le_of_ble_eq_true rfl, Nat.le_of_ble_eq_true rfl⟩ ⟨⟨1, Or.inl ⟨rfl, rfl⟩, (by rw [fv_Dk_kept, if_pos c1])⟩, hI⟩ hP hD hS fx_Dk_kept_10 fx_Dk_kept_13 fx_Dk_kept_14 fx_Dk_kept_17
  · refine lv_iload_n hx hb fx_Dk_kept_4 rfl (lv_at hl 2 rfl) ?_
    refine lv_bipush (v := 6) hx hb fx_Dk_kept_5 (by decide) ?_
    refine lv_icmp_lt (tgt := 18) hx hb fx_Dk_kept_7 (by decide) (fun c2 => ?_) (fun c2 => ?_)
    · refine lv_aload_n hx hb fx_Dk_kept_18 rfl (lv_at hl 0 rfl) ?_
      refine va_get (D := D) (ci := 4) (v := .ref (ad 1)) (C := fn_R_Dk) (T := fn_T_Dk) (N := 9) hx hb hts fn_j_Dk hown hK hP 0 rfl rfl 1 (by decide) (hts _ (List.mem_cons_of_mem _ fq_205)) (fun _ h9 => h9) rfl fx_Dk_kept_19 ?_
      refine lv_iload_n hx hb fx_Dk_kept_22 rfl (lv_at hl 1 rfl) ?_
      refine fd_callz (va_runVN (As := [.int p1]) (rest := []) ⟨hx, hb, hml, hown, hts⟩ (fc_Mm_holds l D cR cP ad H.size σ p1 hI ) ⟨va_cnB 1 hts (fb_good fm_Mm_holds) rfl rfl rfl (hN _ fq_488) (hts _ (List.mem_cons_of_mem _ fq_3)) (by decide +kernel) ⟨Nat.le_of_ble_eq_true rfl, Nat.le_of_ble_eq_true rfl⟩, (hts _ (List.mem_cons_of_mem _ fq_490)), (hts _ (List.mem_cons_of_mem _ fp_Mm_holds))⟩ (fd_preV hP hK hD hN (va_recv hK hP (ci := 0) (q0 := 1) rfl rfl)) rfl rfl hl.1 rfl (lv_room (Nat.le_of_ble_eq_true rfl)) fx_Dk_kept_23 ⟨Nat.le_of_ble_eq_true rfl, Nat.le_of_ble_eq_true rfl⟩) hD hS hA (fun H locs hP hD hS => ?_)
      refine fd_ifne (tgt := 37) hx hb fx_Dk_kept_26 (by decide) (fun c4 => ?_) (fun c4 => ?_)
      · refine lv_aload_n hx hb fx_Dk_kept_37 rfl (lv_at hl 0 rfl) ?_
        refine va_get (D := D) (ci := 4) (v := .ref (ad 1)) (C := fn_R_Dk) (T := fn_T_Dk) (N := 9) hx hb hts fn_j_Dk hown hK hP 0 rfl rfl 1 (by decide) (hts _ (List.mem_cons_of_mem _ fq_205)) (fun _ h9 => h9) rfl fx_Dk_kept_38 ?_
        refine va_getN (D := D) (ci := 0) (v := .ref (ad 58)) (C := fn_R_Mm) (T := fn_T_Mm) (N := 2) hx hb hts fn_j_Mm hown hK hP 1 rfl rfl 0 (by decide) (va_Nw.use rfl (hN _ fq_125)) (fun _ h9 => h9) rfl fx_Dk_kept_41 ?_
        refine lv_iload_n hx hb fx_Dk_kept_44 rfl (lv_at hl 1 rfl) ?_
        have hb5 : vp_in p1 6 := fd_holds hI c4
        refine va_aldq (D := D) hx hb hK hP 4 1 rfl rfl hb5 fx_Dk_kept_45 ?_
        refine W.eq (g2 := F0 m 46 ls (.ref (ad (51 + (fd_pF σ p1.toNatClampNeg))) :: [])) rfl ?_
        refine lv_astore_n (lv' := [(3, .ref (ad (51 + (fd_pF σ p1.toNatClampNeg)))), (0, .ref (ad 0)), (1, .int p1), (2, .int p2)]) hx hb fx_Dk_kept_46 rfl hl (by decide) rfl (fun ls hl => ?_)
        refine lv_iload_n hx hb fx_Dk_kept_47 rfl (lv_at hl 3 rfl) ?_
        by_cases c6 : p2 = 0
        · refine lv_tableIn (tgt := 84) hx hb fx_Dk_kept_48 (by rw [c6]; decide) (by rw [c6]; decide) (by rw [c6]; rfl) (by decide) ?_
          refine lv_aload_n hx hb fx_Dk_kept_84 rfl (lv_at hl 0 rfl) ?_
          refine va_getN (D := D) (ci := 1) (v := .int (fd_pI σ (fd_pF σ p1.toNatClampNeg) 0)) (C := fn_R_Pm) (T := fn_T_Pm) (N := 6) hx hb hts fn_j_Pm hown hK hP (53 + (fd_pF σ p1.toNatClampNeg)) (fd_w_per (fd_plt hI hb5)) rfl 0 (by decide) (va_Nw.use rfl (hN _ fq_95)) (fun _ h9 => h9) rfl fx_Dk_kept_85 ?_
          exact fd_xiret (r := fd_pI σ (fd_pF σ p1.toNatClampNeg) 0) (u := σ) hQ hx hb hr ⟨by rw [fv_Dk_kept, if_neg c1, if_pos c2, if_pos c4, if_pos c6], hI⟩ hP hD hS fx_Dk_kept_88 hlocks
        · by_cases c7 : p2 = 1
          · refine lv_tableIn (tgt := 89) hx hb fx_Dk_kept_48 (by rw [c7]; decide) (by rw [c7]; decide) (by rw [c7]; rfl) (by decide) ?_
            refine lv_aload_n hx hb fx_Dk_kept_89 rfl (lv_at hl 0 rfl) ?_
            refine va_getN (D := D) (ci := 1) (v := .int (fd_pI σ (fd_pF σ p1.toNatClampNeg) 1)) (C := fn_R_Pm) (T := fn_T_Pm) (N := 6) hx hb hts fn_j_Pm hown hK hP (53 + (fd_pF σ p1.toNatClampNeg)) (fd_w_per (fd_plt hI hb5)) rfl 1 (by decide) (va_Nw.use rfl (hN _ fq_98)) (fun _ h9 => h9) rfl fx_Dk_kept_90 ?_
            exact fd_xiret (r := fd_pI σ (fd_pF σ p1.toNatClampNeg) 1) (u := σ) hQ hx hb hr ⟨by rw [fv_Dk_kept, if_neg c1, if_pos c2, if_pos c4, if_neg c6, if_pos c7], hI⟩ hP hD hS fx_Dk_kept_93 hlocks
          · by_cases c8 : p2 = 2
            · refine lv_tableIn (tgt := 94) hx hb fx_Dk_kept_48 (by rw [c8]; decide) (by rw [c8]; decide) (by rw [c8]; rfl) (by decide) ?_
              refine lv_aload_n hx hb fx_Dk_kept_94 rfl (lv_at hl 0 rfl) ?_
              refine va_getN (D := D) (ci := 1) (v := .int (fd_bi (fd_pB σ (fd_pF σ p1.toNatClampNeg)))) (C := fn_R_Pm) (T := fn_T_Pm) (N := 6) hx hb hts fn_j_Pm hown hK hP (53 + (fd_pF σ p1.toNatClampNeg)) (fd_w_per (fd_plt hI hb5)) rfl 2 (by decide) (va_Nw.use rfl (hN _ fq_101)) (fun _ h9 => h9) rfl fx_Dk_kept_95 ?_
              have hJ9 : ∀ (H : Heap) (locs : List Loc), va_P D fn_cl (fd_w cR cP ad σ) H → va_D A (fd_w cR cP ad σ) → va_S A s.heap H locs → ∀ (v9 : Bool), v9 = (if (fd_pB σ (fd_pF σ p1.toNatClampNeg)) = true then true else false) → W p l e ({ frames := 6, cells := 1, slots := 6, locals := 81 } : Room) s m args below meth c H locs 0 0 Q (F0 m 106 ls [.int (fd_bi v9)]) := by
                intro H locs hP hD hS v9 hv9
                exact fd_xiret (r := fd_bi v9) (u := σ) hQ hx hb hr ⟨by rw [fv_Dk_kept, if_neg c1, if_pos c2, if_pos c4, if_neg c6, if_neg c7, if_pos c8, ← hv9, fv_Dk_kept_j9], hI⟩ hP hD hS fx_Dk_kept_106 hlocks
              refine fd_ifeq (tgt := 105) hx hb fx_Dk_kept_98 (by decide) (fun c10 => ?_) (fun c10 => ?_)
              · refine lv_iconst (v := 0) hx hb fx_Dk_kept_105 (by decide) ?_
                exact hJ9 H locs hP hD hS false (by rw [if_neg c10])
              · refine lv_iconst (v := 1) hx hb fx_Dk_kept_101 (by decide) ?_
                refine lv_goto (tgt := 106) hx hb fx_Dk_kept_102 (by decide) ?_
                exact hJ9 H locs hP hD hS true (by rw [if_pos c10])
            · by_cases c11 : p2 = 3
              · refine lv_tableIn (tgt := 107) hx hb fx_Dk_kept_48 (by rw [c11]; decide) (by rw [c11]; decide) (by rw [c11]; rfl) (by decide) ?_
                refine lv_aload_n hx hb fx_Dk_kept_107 rfl (lv_at hl 0 rfl) ?_
                refine va_getN (D := D) (ci := 1) (v := .int (fd_pI σ (fd_pF σ p1.toNatClampNeg) 3)) (C := fn_R_Pm) (T := fn_T_Pm) (N := 6) hx hb hts fn_j_Pm hown hK hP (53 + (fd_pF σ p1.toNatClampNeg)) (fd_w_per (fd_plt hI hb5)) rfl 3 (by decide) (va_Nw.use rfl (hN _ fq_104)) (fun _ h9 => h9) rfl fx_Dk_kept_108 ?_
                exact fd_xiret (r := fd_pI σ (fd_pF σ p1.toNatClampNeg) 3) (u := σ) hQ hx hb hr ⟨by rw [fv_Dk_kept, if_neg c1, if_pos c2, if_pos c4, if_neg c6, if_neg c7, if_neg c8, if_pos c11], hI⟩ hP hD hS fx_Dk_kept_111 hlocks
              · by_cases c12 : p2 = 4
                · refine lv_tableIn (tgt := 112) hx hb fx_Dk_kept_48 (by rw [c12]; decide) (by rw [c12]; decide) (by rw [c12]; rfl) (by decide) ?_
                  refine lv_aload_n hx hb fx_Dk_kept_112 rfl (lv_at hl 0 rfl) ?_
                  refine va_getN (D := D) (ci := 1) (v := .int (fd_pI σ (fd_pF σ p1.toNatClampNeg) 4)) (C := fn_R_Pm) (T := fn_T_Pm) (N := 6) hx hb hts fn_j_Pm hown hK hP (53 + (fd_pF σ p1.toNatClampNeg)) (fd_w_per (fd_plt hI hb5)) rfl 4 (by decide) (va_Nw.use rfl (hN _ fq_107)) (fun _ h9 => h9) rfl fx_Dk_kept_113 ?_
                  exact fd_xiret (r := fd_pI σ (fd_pF σ p1.toNatClampNeg) 4) (u := σ) hQ hx hb hr ⟨by rw [fv_Dk_kept, if_neg c1, if_pos c2, if_pos c4, if_neg c6, if_neg c7, if_neg c8, if_neg c11, if_pos c12], hI⟩ hP hD hS fx_Dk_kept_116 hlocks
                · refine lv_tableOut (tgt := 117) hx hb fx_Dk_kept_48 (by have n0 := lv_neT c6 (a := 0) (by decide); have n1 := lv_neT c7 (a := 1) (by decide); have n2 := lv_neT c8 (a := 2) (by decide); have n3 := lv_neT c11 (a := 3) (by decide); have n4 := lv_neT c12 (a := 4) (by decide); omega) (by decide) ?_
                  refine lv_aload_n hx hb fx_Dk_kept_117 rfl (lv_at hl 1 rfl) ?_
                  refine va_get (D := D) (ci := 4) (v := .double (fd_dT σ)) (C := fn_R_Dk) (T := fn_T_Dk) (N := 9) hx hb hts fn_j_Dk hown hK hP 0 rfl rfl 3 (by decide) (hts _ (List.mem_cons_of_mem _ fq_207)) (fun _ h9 => h9) rfl fx_Dk_kept_118 ?_
                  refine lv_aload_n hx hb fx_Dk_kept_121 rfl (lv_at hl 0 rfl) ?_
                  refine va_getN (D := D) (ci := 1) (v := .double (fd_pD σ (fd_pF σ p1.toNatClampNeg))) (C := fn_R_Pm) (T := fn_T_Pm) (N := 6) hx hb hts fn_j_Pm hown hK hP (53 + (fd_pF σ p1.toNatClampNeg)) (fd_w_per (fd_plt hI hb5)) rfl 5 (by decide) (va_Nw.use rfl (hN _ fq_110)) (fun _ h9 => h9) rfl fx_Dk_kept_122 ?_
                  refine lv_dcmp hx hb fx_Dk_kept_125 ?_
                  have hJ13 : ∀ (H : Heap) (locs : List Loc), va_P D fn_cl (fd_w cR cP ad σ) H → va_D A (fd_w cR cP ad σ) → va_S A s.heap H locs → ∀ (v13 : Bool), v13 = (if 0 ≤ (Op.cmpValue (FP.dcmp (fd_dT σ) (fd_pD σ (fd_pF σ p1.toNatClampNeg))) .g) then false else true) → W p l e ({ frames := 6, cells := 1, slots := 6, locals := 81 } : Room) s m args below meth c H locs 0 0 Q (F0 m 134 ls [.int (fd_bi v13)]) := by
                    intro H locs hP hD hS v13 hv13
                    exact fd_xiret (r := fd_bi v13) (u := σ) hQ hx hb hr ⟨by rw [fv_Dk_kept, if_neg c1, if_pos c2, if_pos c4, if_neg c6, if_neg c7, if_neg c8, if_neg c11, if_neg c12, ← hv13, fv_Dk_kept_j13], hI⟩ hP hD hS fx_Dk_kept_134 hlocks
                  refine lv_if_ge (tgt := 133) hx hb fx_Dk_kept_126 (by decide) (fun c14 => ?_) (fun c14 => ?_)
                  · refine lv_iconst (v := 0) hx hb fx_Dk_kept_133 (by decide) ?_
                    exact hJ13 H locs hP hD hS false (by rw [if_pos c14])
                  · refine lv_iconst (v := 1) hx hb fx_Dk_kept_129 (by decide) ?_
                    refine lv_goto (tgt := 134) hx hb fx_Dk_kept_130 (by decide) ?_
                    exact hJ13 H locs hP hD hS true (by rw [if_neg c14])
      · exact fd_throw ft_g3 ft_n3 ft_o3 (by decide) fq_492 fq_12 (u := σ) hQ hx hb hst hown hts hX hZ (hl.1.trans hml.symm) hex hlocks ⟨Nat.le_of_ble_eq_true rfl, Nat.le_of_ble_eq_true rfl, Nat.le_of_ble_eq_true rfl, Nat.le_of_ble_eq_true rfl⟩ ⟨⟨3, Or.inr (Or.inr ⟨rfl, rfl⟩), (by rw [fv_Dk_kept, if_neg c1, if_pos c2, if_neg c4])⟩, hI⟩ hP hD hS fx_Dk_kept_29 fx_Dk_kept_32 fx_Dk_kept_33 fx_Dk_kept_36
    · exact fd_throw ft_g1 ft_n1 ft_o1 (by decide) fq_243 fq_10 (u := σ) hQ hx hb hst hown hts hX hZ (hl.1.trans hml.symm) hex hlocks ⟨Nat.le_of_ble_eq_true rfl, Nat.le_of_ble_eq_true rfl, Nat.le_of_ble_eq_true rfl, Nat.le_of_ble_eq_true rfl⟩ ⟨⟨1, Or.inl ⟨rfl, rfl⟩, (by rw [fv_Dk_kept, if_neg c1, if_neg c2])⟩, hI⟩ hP hD hS fx_Dk_kept_10 fx_Dk_kept_13 fx_Dk_kept_14 fx_Dk_kept_17
def fv_Dk_left_j4 (σ : FDS) (p1 : Int32) (v4 : UInt64) : Int32 × UInt64 × FDS := (0, v4, σ)
def fv_Dk_left (σ : FDS) (p1 : Int32) : Int32 × UInt64 × FDS := if (fv_Mm_holds σ p1) = true then fv_Dk_left_j4 σ p1 (if 0 ≤ (Op.cmpValue (FP.dcmp (fd_dT σ) (fd_pD σ (fd_pF σ p1.toNatClampNeg))) .g) then FP.dconst0 else FP.dsub (fd_pD σ (fd_pF σ p1.toNatClampNeg)) (fd_dT σ)) else (3, 0, σ)
set_option maxHeartbeats 4000000 in
set_option maxRecDepth 100000 in
theorem fc_Dk_left (l : Launch) (hst : l.stackTraces = false) (D : va_G) (cR cP : ClassId) (ad : Nat → Nat) (sz : Nat) (σ : FDS) (p1 : Int32) (hI : fd_Inv σ)  : vx_Met l fy_Dk_left (fw_Dk_left :: fb_tbl) ({ frames := 6, cells := 1, slots := 6, locals := 81 } : Room) (fd_Pcx D cR cP ad [.ref (ad 0), .int p1] σ sz) ((fun A => va_Qd (fun (r : UInt64) (u : FDS) => fv_Dk_left σ p1 = (0, r, u) ∧ fd_Inv u) (fd_B D cR cP ad A) A) (va_A (fd_w cR cP ad σ) sz)) (fd_XC D cR cP ad (fun E u => (∃ c : Int32, fd_isx c E ∧ fv_Dk_left σ p1 = (c, 0, u)) ∧ fd_Inv u) (va_A (fd_w cR cP ad σ) sz)) 1 6 (va_A (fd_w cR cP ad σ) sz) := by
  refine fd_xofW (cc := fb_Dk_left) (maxL := 4) (ret := (some .double)) (Qf := fun A => va_Qd (fun (r : UInt64) (u : FDS) => fv_Dk_left σ p1 = (0, r, u) ∧ fd_Inv u) (fd_B D cR cP ad A) A) (XC := fd_XC D cR cP ad (fun E u => (∃ c : Int32, fd_isx c E ∧ fv_Dk_left σ p1 = (c, 0, u)) ∧ fd_Inv u)) (by decide) (Nat.le_of_ble_eq_true rfl) ?_
  intro p e s m args below meth c A Q hQ hx hb hr hts hown hlocks hml hP hK hD hS hA hN hX hZ hex ls hl
  have hown : s.vm.findClass fn_R_Dk = some m.cls := hown
  have hl : lv_has ls 4 [(0, .ref (ad 0)), (1, .int p1)] := hl
  suffices hgo : ∀ (H : Heap) (locs : List Loc), va_P D fn_cl (fd_w cR cP ad σ) H → va_D A (fd_w cR cP ad σ) → va_S A s.heap H locs → W p l e ({ frames := 6, cells := 1, slots := 6, locals := 81 } : Room) s m args below meth c H locs 0 0 Q (F0 m 0 ls []) from hgo _ _ hP hD hS
  clear hP hD hS
  intro H locs hP hD hS
  refine lv_aload_n hx hb fx_Dk_left_0 rfl (lv_at hl 0 rfl) ?_
  refine va_get (D := D) (ci := 4) (v := .ref (ad 1)) (C := fn_R_Dk) (T := fn_T_Dk) (N := 9) hx hb hts fn_j_Dk hown hK hP 0 rfl rfl 1 (by decide) (hts _ (List.mem_cons_of_mem _ fq_205)) (fun _ h9 => h9) rfl fx_Dk_left_1 ?_
  refine lv_iload_n hx hb fx_Dk_left_4 rfl (lv_at hl 1 rfl) ?_
  refine fd_callz (va_runVN (As := [.int p1]) (rest := []) ⟨hx, hb, hml, hown, hts⟩ (fc_Mm_holds l D cR cP ad H.size σ p1 hI ) ⟨va_cnB 1 hts (fb_good fm_Mm_holds) rfl rfl rfl (hN _ fq_488) (hts _ (List.mem_cons_of_mem _ fq_3)) (by decide +kernel) ⟨Nat.le_of_ble_eq_true rfl, Nat.le_of_ble_eq_true rfl⟩, (hts _ (List.mem_cons_of_mem _ fq_490)), (hts _ (List.mem_cons_of_mem _ fp_Mm_holds))⟩ (fd_preV hP hK hD hN (va_recv hK hP (ci := 0) (q0 := 1) rfl rfl)) rfl rfl hl.1 rfl (lv_room (Nat.le_of_ble_eq_true rfl)) fx_Dk_left_5 ⟨Nat.le_of_ble_eq_true rfl, Nat.le_of_ble_eq_true rfl⟩) hD hS hA (fun H locs hP hD hS => ?_)
  refine fd_ifne (tgt := 19) hx hb fx_Dk_left_8 (by decide) (fun c2 => ?_) (fun c2 => ?_)
  · refine lv_aload_n hx hb fx_Dk_left_19 rfl (lv_at hl 0 rfl) ?_
    refine va_get (D := D) (ci := 4) (v := .ref (ad 1)) (C := fn_R_Dk) (T := fn_T_Dk) (N := 9) hx hb hts fn_j_Dk hown hK hP 0 rfl rfl 1 (by decide) (hts _ (List.mem_cons_of_mem _ fq_205)) (fun _ h9 => h9) rfl fx_Dk_left_20 ?_
    refine va_getN (D := D) (ci := 0) (v := .ref (ad 58)) (C := fn_R_Mm) (T := fn_T_Mm) (N := 2) hx hb hts fn_j_Mm hown hK hP 1 rfl rfl 0 (by decide) (va_Nw.use rfl (hN _ fq_125)) (fun _ h9 => h9) rfl fx_Dk_left_23 ?_
    refine lv_iload_n hx hb fx_Dk_left_26 rfl (lv_at hl 1 rfl) ?_
    have hb3 : vp_in p1 6 := fd_holds hI c2
    refine va_aldq (D := D) hx hb hK hP 4 1 rfl rfl hb3 fx_Dk_left_27 ?_
    refine W.eq (g2 := F0 m 28 ls (.ref (ad (51 + (fd_pF σ p1.toNatClampNeg))) :: [])) rfl ?_
    refine va_getN (D := D) (ci := 1) (v := .double (fd_pD σ (fd_pF σ p1.toNatClampNeg))) (C := fn_R_Pm) (T := fn_T_Pm) (N := 6) hx hb hts fn_j_Pm hown hK hP (53 + (fd_pF σ p1.toNatClampNeg)) (fd_w_per (fd_plt hI hb3)) rfl 5 (by decide) (va_Nw.use rfl (hN _ fq_110)) (fun _ h9 => h9) rfl fx_Dk_left_28 ?_
    refine lv_dstore_n (lv' := [(2, .double (fd_pD σ (fd_pF σ p1.toNatClampNeg))), (0, .ref (ad 0)), (1, .int p1)]) hx hb fx_Dk_left_31 rfl hl (by decide) rfl (fun ls hl => ?_)
    refine lv_aload_n hx hb fx_Dk_left_32 rfl (lv_at hl 1 rfl) ?_
    refine va_get (D := D) (ci := 4) (v := .double (fd_dT σ)) (C := fn_R_Dk) (T := fn_T_Dk) (N := 9) hx hb hts fn_j_Dk hown hK hP 0 rfl rfl 3 (by decide) (hts _ (List.mem_cons_of_mem _ fq_207)) (fun _ h9 => h9) rfl fx_Dk_left_33 ?_
    refine lv_dload_n hx hb fx_Dk_left_36 rfl (lv_at hl 0 rfl) ?_
    refine lv_dcmp hx hb fx_Dk_left_37 ?_
    have hJ4 : ∀ (H : Heap) (locs : List Loc), va_P D fn_cl (fd_w cR cP ad σ) H → va_D A (fd_w cR cP ad σ) → va_S A s.heap H locs → ∀ (v4 : UInt64), v4 = (if 0 ≤ (Op.cmpValue (FP.dcmp (fd_dT σ) (fd_pD σ (fd_pF σ p1.toNatClampNeg))) .g) then FP.dconst0 else FP.dsub (fd_pD σ (fd_pF σ p1.toNatClampNeg)) (fd_dT σ)) → W p l e ({ frames := 6, cells := 1, slots := 6, locals := 81 } : Room) s m args below meth c H locs 0 0 Q (F0 m 51 ls [.double v4]) := by
      intro H locs hP hD hS v4 hv4
      exact fd_xdret (r := v4) (u := σ) hQ hx hb hr ⟨by rw [fv_Dk_left, if_pos c2, ← hv4, fv_Dk_left_j4], hI⟩ hP hD hS fx_Dk_left_51 hlocks
    refine lv_if_ge (tgt := 50) hx hb fx_Dk_left_38 (by decide) (fun c5 => ?_) (fun c5 => ?_)
    · refine lv_dconst0 hx hb fx_Dk_left_50 ?_
      exact hJ4 H locs hP hD hS FP.dconst0 (by rw [if_pos c5])
    · refine lv_dload_n hx hb fx_Dk_left_41 rfl (lv_at hl 0 rfl) ?_
      refine lv_aload_n hx hb fx_Dk_left_42 rfl (lv_at hl 1 rfl) ?_
      refine va_get (D := D) (ci := 4) (v := .double (fd_dT σ)) (C := fn_R_Dk) (T := fn_T_Dk) (N := 9) hx hb hts fn_j_Dk hown hK hP 0 rfl rfl 3 (by decide) (hts _ (List.mem_cons_of_mem _ fq_207)) (fun _ h9 => h9) rfl fx_Dk_left_43 ?_
      refine lv_dsub hx hb fx_Dk_left_46 (fd_n64 (FP.Core.dsub_of_lt (fd_cmpg c5))) ?_
      refine lv_goto (tgt := 51) hx hb fx_Dk_left_47 (by decide) ?_
      exact hJ4 H locs hP hD hS (FP.dsub (fd_pD σ (fd_pF σ p1.toNatClampNeg)) (fd_dT σ)) (by rw [if_neg c5])
  · exact fd_throw ft_g3 ft_n3 ft_o3 (by decide) fq_492 fq_12 (u := σ) hQ hx hb hst hown hts hX hZ (hl.1.trans hml.symm) hex hlocks ⟨Nat.le_of_ble_eq_true rfl, Nat.le_of_ble_eq_true rfl, Nat.le_of_ble_eq_true rfl, Nat.le_of_ble_eq_true rfl⟩ ⟨⟨3, Or.inr (Or.inr ⟨rfl, rfl⟩), (by rw [fv_Dk_left, if_neg c2])⟩, hI⟩ hP hD hS fx_Dk_left_11 fx_Dk_left_14 fx_Dk_left_15 fx_Dk_left_18
def fv_Dk_count (σ : FDS) (p1 : Int32) : Int32 × Int32 × FDS := if (fv_Dk_isUrl σ (p1 - 10)) = true then (0, fd_rI σ ((p1 - 10).toNatClampNeg) 11, σ) else if (fv_Dk_isUrl σ (p1 - 60)) = true then (0, fd_rI σ ((p1 - 60).toNatClampNeg) 12, σ) else if p1 = 0 then (0, fd_dI σ 4, σ) else if p1 = 1 then (0, fd_dI σ 5, σ) else if p1 = 2 then (0, fd_dI σ 6, σ) else if p1 = 3 then (0, fd_dI σ 7, σ) else if p1 = 4 then (0, fd_dI σ 8, σ) else if p1 = 5 then (0, fd_mS σ, σ) else (1, 0, σ)
set_option maxHeartbeats 4000000 in
set_option maxRecDepth 100000 in
theorem fc_Dk_count (l : Launch) (hst : l.stackTraces = false) (D : va_G) (cR cP : ClassId) (ad : Nat → Nat) (sz : Nat) (σ : FDS) (p1 : Int32) (hI : fd_Inv σ)  : vx_Met l fy_Dk_count (fw_Dk_count :: fb_tbl) ({ frames := 6, cells := 1, slots := 6, locals := 81 } : Room) (fd_Pcx D cR cP ad [.ref (ad 0), .int p1] σ sz) ((fun A => va_Qi (fun (r : Int32) (u : FDS) => fv_Dk_count σ p1 = (0, r, u) ∧ fd_Inv u) (fd_B D cR cP ad A) A) (va_A (fd_w cR cP ad σ) sz)) (fd_XC D cR cP ad (fun E u => (∃ c : Int32, fd_isx c E ∧ fv_Dk_count σ p1 = (c, 0, u)) ∧ fd_Inv u) (va_A (fd_w cR cP ad σ) sz)) 1 6 (va_A (fd_w cR cP ad σ) sz) := by
  refine fd_xofW (cc := fb_Dk_count) (maxL := 2) (ret := (some .int)) (Qf := fun A => va_Qi (fun (r : Int32) (u : FDS) => fv_Dk_count σ p1 = (0, r, u) ∧ fd_Inv u) (fd_B D cR cP ad A) A) (XC := fd_XC D cR cP ad (fun E u => (∃ c : Int32, fd_isx c E ∧ fv_Dk_count σ p1 = (c, 0, u)) ∧ fd_Inv u)) (by decide) (Nat.le_of_ble_eq_true rfl) ?_
  intro p e s m args below meth c A Q hQ hx hb hr hts hown hlocks hml hP hK hD hS hA hN hX hZ hex ls hl
  have hown : s.vm.findClass fn_R_Dk = some m.cls := hown
  have hl : lv_has ls 2 [(0, .ref (ad 0)), (1, .int p1)] := hl
  suffices hgo : ∀ (H : Heap) (locs : List Loc), va_P D fn_cl (fd_w cR cP ad σ) H → va_D A (fd_w cR cP ad σ) → va_S A s.heap H locs → W p l e ({ frames := 6, cells := 1, slots := 6, locals := 81 } : Room) s m args below meth c H locs 0 0 Q (F0 m 0 ls []) from hgo _ _ hP hD hS
  clear hP hD hS
  intro H locs hP hD hS
  refine lv_iload_n hx hb fx_Dk_count_0 rfl (lv_at hl 1 rfl) ?_
  refine lv_bipush (v := 10) hx hb fx_Dk_count_1 (by decide) ?_
  refine lv_isub hx hb fx_Dk_count_3 ?_
  refine fd_callz (va_runS (As := [.int (p1 - 10)]) (rest := []) ⟨hx, hb, hml, hown, hts⟩ (fc_Dk_isUrl l D cR cP ad H.size σ (p1 - 10) hI ) ⟨callB_of 1 hts (fb_good fm_Dk_isUrl) rfl rfl rfl (hts _ (List.mem_cons_of_mem _ fq_1)) (hts _ (List.mem_cons_of_mem _ fq_240)) (by decide +kernel) ⟨Nat.le_of_ble_eq_true rfl, Nat.le_of_ble_eq_true rfl⟩, (hts _ (List.mem_cons_of_mem _ fq_241))⟩ (fd_preS hP hK hD hN) rfl rfl hl.1 rfl (lv_room (Nat.le_of_ble_eq_true rfl)) fx_Dk_count_4 ⟨Nat.le_of_ble_eq_true rfl, Nat.le_of_ble_eq_true rfl⟩) hD hS hA (fun H locs hP hD hS => ?_)
  refine fd_ifeq (tgt := 23) hx hb fx_Dk_count_7 (by decide) (fun c2 => ?_) (fun c2 => ?_)
  · refine lv_iload_n hx hb fx_Dk_count_23 rfl (lv_at hl 1 rfl) ?_
    refine lv_bipush (v := 60) hx hb fx_Dk_count_24 (by decide) ?_
    refine lv_isub hx hb fx_Dk_count_26 ?_
    refine fd_callz (va_runS (As := [.int (p1 - 60)]) (rest := []) ⟨hx, hb, hml, hown, hts⟩ (fc_Dk_isUrl l D cR cP ad H.size σ (p1 - 60) hI ) ⟨callB_of 1 hts (fb_good fm_Dk_isUrl) rfl rfl rfl (hts _ (List.mem_cons_of_mem _ fq_1)) (hts _ (List.mem_cons_of_mem _ fq_240)) (by decide +kernel) ⟨Nat.le_of_ble_eq_true rfl, Nat.le_of_ble_eq_true rfl⟩, (hts _ (List.mem_cons_of_mem _ fq_241))⟩ (fd_preS hP hK hD hN) rfl rfl hl.1 rfl (lv_room (Nat.le_of_ble_eq_true rfl)) fx_Dk_count_27 ⟨Nat.le_of_ble_eq_true rfl, Nat.le_of_ble_eq_true rfl⟩) hD hS hA (fun H locs hP hD hS => ?_)
    refine fd_ifeq (tgt := 46) hx hb fx_Dk_count_30 (by decide) (fun c4 => ?_) (fun c4 => ?_)
    · refine lv_iload_n hx hb fx_Dk_count_46 rfl (lv_at hl 1 rfl) ?_
      by_cases c5 : p1 = 0
      · refine lv_tableIn (tgt := 84) hx hb fx_Dk_count_47 (by rw [c5]; decide) (by rw [c5]; decide) (by rw [c5]; rfl) (by decide) ?_
        refine lv_aload_n hx hb fx_Dk_count_84 rfl (lv_at hl 0 rfl) ?_
        refine va_get (D := D) (ci := 4) (v := .int (fd_dI σ 4)) (C := fn_R_Dk) (T := fn_T_Dk) (N := 9) hx hb hts fn_j_Dk hown hK hP 0 rfl rfl 4 (by decide) (hts _ (List.mem_cons_of_mem _ fq_208)) (fun _ h9 => h9) rfl fx_Dk_count_85 ?_
        exact fd_xiret (r := fd_dI σ 4) (u := σ) hQ hx hb hr ⟨by rw [fv_Dk_count, if_neg c2, if_neg c4, if_pos c5], hI⟩ hP hD hS fx_Dk_count_88 hlocks
      · by_cases c6 : p1 = 1
        · refine lv_tableIn (tgt := 89) hx hb fx_Dk_count_47 (by rw [c6]; decide) (by rw [c6]; decide) (by rw [c6]; rfl) (by decide) ?_
          refine lv_aload_n hx hb fx_Dk_count_89 rfl (lv_at hl 0 rfl) ?_
          refine va_get (D := D) (ci := 4) (v := .int (fd_dI σ 5)) (C := fn_R_Dk) (T := fn_T_Dk) (N := 9) hx hb hts fn_j_Dk hown hK hP 0 rfl rfl 5 (by decide) (hts _ (List.mem_cons_of_mem _ fq_209)) (fun _ h9 => h9) rfl fx_Dk_count_90 ?_
          exact fd_xiret (r := fd_dI σ 5) (u := σ) hQ hx hb hr ⟨by rw [fv_Dk_count, if_neg c2, if_neg c4, if_neg c5, if_pos c6], hI⟩ hP hD hS fx_Dk_count_93 hlocks
        · by_cases c7 : p1 = 2
          · refine lv_tableIn (tgt := 94) hx hb fx_Dk_count_47 (by rw [c7]; decide) (by rw [c7]; decide) (by rw [c7]; rfl) (by decide) ?_
            refine lv_aload_n hx hb fx_Dk_count_94 rfl (lv_at hl 0 rfl) ?_
            refine va_get (D := D) (ci := 4) (v := .int (fd_dI σ 6)) (C := fn_R_Dk) (T := fn_T_Dk) (N := 9) hx hb hts fn_j_Dk hown hK hP 0 rfl rfl 6 (by decide) (hts _ (List.mem_cons_of_mem _ fq_210)) (fun _ h9 => h9) rfl fx_Dk_count_95 ?_
            exact fd_xiret (r := fd_dI σ 6) (u := σ) hQ hx hb hr ⟨by rw [fv_Dk_count, if_neg c2, if_neg c4, if_neg c5, if_neg c6, if_pos c7], hI⟩ hP hD hS fx_Dk_count_98 hlocks
          · by_cases c8 : p1 = 3
            · refine lv_tableIn (tgt := 99) hx hb fx_Dk_count_47 (by rw [c8]; decide) (by rw [c8]; decide) (by rw [c8]; rfl) (by decide) ?_
              refine lv_aload_n hx hb fx_Dk_count_99 rfl (lv_at hl 0 rfl) ?_
              refine va_get (D := D) (ci := 4) (v := .int (fd_dI σ 7)) (C := fn_R_Dk) (T := fn_T_Dk) (N := 9) hx hb hts fn_j_Dk hown hK hP 0 rfl rfl 7 (by decide) (hts _ (List.mem_cons_of_mem _ fq_211)) (fun _ h9 => h9) rfl fx_Dk_count_100 ?_
              exact fd_xiret (r := fd_dI σ 7) (u := σ) hQ hx hb hr ⟨by rw [fv_Dk_count, if_neg c2, if_neg c4, if_neg c5, if_neg c6, if_neg c7, if_pos c8], hI⟩ hP hD hS fx_Dk_count_103 hlocks
            · by_cases c9 : p1 = 4
              · refine lv_tableIn (tgt := 104) hx hb fx_Dk_count_47 (by rw [c9]; decide) (by rw [c9]; decide) (by rw [c9]; rfl) (by decide) ?_
                refine lv_aload_n hx hb fx_Dk_count_104 rfl (lv_at hl 0 rfl) ?_
                refine va_get (D := D) (ci := 4) (v := .int (fd_dI σ 8)) (C := fn_R_Dk) (T := fn_T_Dk) (N := 9) hx hb hts fn_j_Dk hown hK hP 0 rfl rfl 8 (by decide) (hts _ (List.mem_cons_of_mem _ fq_212)) (fun _ h9 => h9) rfl fx_Dk_count_105 ?_
                exact fd_xiret (r := fd_dI σ 8) (u := σ) hQ hx hb hr ⟨by rw [fv_Dk_count, if_neg c2, if_neg c4, if_neg c5, if_neg c6, if_neg c7, if_neg c8, if_pos c9], hI⟩ hP hD hS fx_Dk_count_108 hlocks
              · by_cases c10 : p1 = 5
                · refine lv_tableIn (tgt := 109) hx hb fx_Dk_count_47 (by rw [c10]; decide) (by rw [c10]; decide) (by rw [c10]; rfl) (by decide) ?_
                  refine lv_aload_n hx hb fx_Dk_count_109 rfl (lv_at hl 0 rfl) ?_
                  refine va_get (D := D) (ci := 4) (v := .ref (ad 1)) (C := fn_R_Dk) (T := fn_T_Dk) (N := 9) hx hb hts fn_j_Dk hown hK hP 0 rfl rfl 1 (by decide) (hts _ (List.mem_cons_of_mem _ fq_205)) (fun _ h9 => h9) rfl fx_Dk_count_110 ?_
                  refine va_getN (D := D) (ci := 0) (v := .int (fd_mS σ)) (C := fn_R_Mm) (T := fn_T_Mm) (N := 2) hx hb hts fn_j_Mm hown hK hP 1 rfl rfl 1 (by decide) (va_Nw.use rfl (hN _ fq_127)) (fun _ h9 => h9) rfl fx_Dk_count_113 ?_
                  exact fd_xiret (r := fd_mS σ) (u := σ) hQ hx hb hr ⟨by rw [fv_Dk_count, if_neg c2, if_neg c4, if_neg c5, if_neg c6, if_neg c7, if_neg c8, if_neg c9, if_pos c10], hI⟩ hP hD hS fx_Dk_count_116 hlocks
                · refine lv_tableOut (tgt := 117) hx hb fx_Dk_count_47 (by have n0 := lv_neT c5 (a := 0) (by decide); have n1 := lv_neT c6 (a := 1) (by decide); have n2 := lv_neT c7 (a := 2) (by decide); have n3 := lv_neT c8 (a := 3) (by decide); have n4 := lv_neT c9 (a := 4) (by decide); have n5 := lv_neT c10 (a := 5) (by decide); omega) (by decide) ?_
                  exact fd_throw ft_g1 ft_n1 ft_o1 (by decide) fq_243 fq_10 (u := σ) hQ hx hb hst hown hts hX hZ (hl.1.trans hml.symm) hex hlocks ⟨Nat.le_of_ble_eq_true rfl, Nat.le_of_ble_eq_true rfl, Nat.le_of_ble_eq_true rfl, Nat.le_of_ble_eq_true rfl⟩ ⟨⟨1, Or.inl ⟨rfl, rfl⟩, (by rw [fv_Dk_count, if_neg c2, if_neg c4, if_neg c5, if_neg c6, if_neg c7, if_neg c8, if_neg c9, if_neg c10])⟩, hI⟩ hP hD hS fx_Dk_count_117 fx_Dk_count_120 fx_Dk_count_121 fx_Dk_count_124
    · refine lv_aload_n hx hb fx_Dk_count_33 rfl (lv_at hl 0 rfl) ?_
      refine va_get (D := D) (ci := 4) (v := .ref (ad 57)) (C := fn_R_Dk) (T := fn_T_Dk) (N := 9) hx hb hts fn_j_Dk hown hK hP 0 rfl rfl 0 (by decide) (hts _ (List.mem_cons_of_mem _ fq_204)) (fun _ h9 => h9) rfl fx_Dk_count_34 ?_
      refine lv_iload_n hx hb fx_Dk_count_37 rfl (lv_at hl 1 rfl) ?_
      refine lv_bipush (v := 60) hx hb fx_Dk_count_38 (by decide) ?_
      refine lv_isub hx hb fx_Dk_count_40 ?_
      have hb11 : vp_in (p1 - 60) 48 := fd_url c4
      refine va_aldq (D := D) hx hb hK hP 3 0 rfl rfl hb11 fx_Dk_count_41 ?_
      refine W.eq (g2 := F0 m 42 ls (.ref (ad (3 + ((p1 - 60).toNatClampNeg))) :: [])) rfl ?_
      refine va_getN (D := D) (ci := 3) (v := .int (fd_rI σ ((p1 - 60).toNatClampNeg) 12)) (C := fn_R_Rs) (T := fn_T_Rs) (N := 13) hx hb hts fn_j_Rs hown hK hP (5 + ((p1 - 60).toNatClampNeg)) (fd_w_res (fd_lt hb11)) rfl 12 (by decide) (va_Nw.use rfl (hN _ fq_52)) (fun _ h9 => h9) rfl fx_Dk_count_42 ?_
      exact fd_xiret (r := fd_rI σ ((p1 - 60).toNatClampNeg) 12) (u := σ) hQ hx hb hr ⟨by rw [fv_Dk_count, if_neg c2, if_pos c4], hI⟩ hP hD hS fx_Dk_count_45 hlocks
  · refine lv_aload_n hx hb fx_Dk_count_10 rfl (lv_at hl 0 rfl) ?_
    refine va_get (D := D) (ci := 4) (v := .ref (ad 57)) (C := fn_R_Dk) (T := fn_T_Dk) (N := 9) hx hb hts fn_j_Dk hown hK hP 0 rfl rfl 0 (by decide) (hts _ (List.mem_cons_of_mem _ fq_204)) (fun _ h9 => h9) rfl fx_Dk_count_11 ?_
    refine lv_iload_n hx hb fx_Dk_count_14 rfl (lv_at hl 1 rfl) ?_
    refine lv_bipush (v := 10) hx hb fx_Dk_count_15 (by decide) ?_
    refine lv_isub hx hb fx_Dk_count_17 ?_
    have hb12 : vp_in (p1 - 10) 48 := fd_url c2
    refine va_aldq (D := D) hx hb hK hP 3 0 rfl rfl hb12 fx_Dk_count_18 ?_
    refine W.eq (g2 := F0 m 19 ls (.ref (ad (3 + ((p1 - 10).toNatClampNeg))) :: [])) rfl ?_
    refine va_getN (D := D) (ci := 3) (v := .int (fd_rI σ ((p1 - 10).toNatClampNeg) 11)) (C := fn_R_Rs) (T := fn_T_Rs) (N := 13) hx hb hts fn_j_Rs hown hK hP (5 + ((p1 - 10).toNatClampNeg)) (fd_w_res (fd_lt hb12)) rfl 11 (by decide) (va_Nw.use rfl (hN _ fq_51)) (fun _ h9 => h9) rfl fx_Dk_count_19 ?_
    exact fd_xiret (r := fd_rI σ ((p1 - 10).toNatClampNeg) 11) (u := σ) hQ hx hb hr ⟨by rw [fv_Dk_count, if_pos c2], hI⟩ hP hD hS fx_Dk_count_22 hlocks
def fv_Dk_fetch (σ : FDS) (p1 : Int32) (p2 : Int32) (p3 : Int32) (p4 : Int32) (p5 : Int32) (p6 : Int32) (p7 : Int32) : Int32 × Int32 × FDS := if (fv_Dk_isOrigin σ p1) = true then if (fv_Dk_isUrl σ p2) = true then if (fv_Dk_isMethod σ p3) = true then if (fv_Dk_isFourBits σ p4) = true then if (fv_Dk_isChoice σ p5) = true then if (fv_Dk_isChoice σ p6) = true then if (fv_Dk_isChoice σ p7) = true then if p5 = 2 then if (fv_Dk_isPlain σ p3 p4) = true then if (fd_qI (fv_Dk_goThroughRounds (fd_sdI (fv_Rq_begin σ p1 p2 p3 p4 p5 p6 p7) 4 ((fd_dI (fv_Rq_begin σ p1 p2 p3 p4 p5 p6 p7) 4) + 1))) 10) = 0 then (0, fd_qI (fv_Dk_goThroughRounds (fd_sdI (fv_Rq_begin σ p1 p2 p3 p4 p5 p6 p7) 4 ((fd_dI (fv_Rq_begin σ p1 p2 p3 p4 p5 p6 p7) 4) + 1))) 14, (fv_Dk_goThroughRounds (fd_sdI (fv_Rq_begin σ p1 p2 p3 p4 p5 p6 p7) 4 ((fd_dI (fv_Rq_begin σ p1 p2 p3 p4 p5 p6 p7) 4) + 1)))) else (2, 0, fd_sdI (fv_Dk_goThroughRounds (fd_sdI (fv_Rq_begin σ p1 p2 p3 p4 p5 p6 p7) 4 ((fd_dI (fv_Rq_begin σ p1 p2 p3 p4 p5 p6 p7) 4) + 1))) 5 ((fd_dI (fv_Dk_goThroughRounds (fd_sdI (fv_Rq_begin σ p1 p2 p3 p4 p5 p6 p7) 4 ((fd_dI (fv_Rq_begin σ p1 p2 p3 p4 p5 p6 p7) 4) + 1))) 5) + 1)) else (1, 0, σ) else if (fd_qI (fv_Dk_goThroughRounds (fd_sdI (fv_Rq_begin σ p1 p2 p3 p4 p5 p6 p7) 4 ((fd_dI (fv_Rq_begin σ p1 p2 p3 p4 p5 p6 p7) 4) + 1))) 10) = 0 then (0, fd_qI (fv_Dk_goThroughRounds (fd_sdI (fv_Rq_begin σ p1 p2 p3 p4 p5 p6 p7) 4 ((fd_dI (fv_Rq_begin σ p1 p2 p3 p4 p5 p6 p7) 4) + 1))) 14, (fv_Dk_goThroughRounds (fd_sdI (fv_Rq_begin σ p1 p2 p3 p4 p5 p6 p7) 4 ((fd_dI (fv_Rq_begin σ p1 p2 p3 p4 p5 p6 p7) 4) + 1)))) else (2, 0, fd_sdI (fv_Dk_goThroughRounds (fd_sdI (fv_Rq_begin σ p1 p2 p3 p4 p5 p6 p7) 4 ((fd_dI (fv_Rq_begin σ p1 p2 p3 p4 p5 p6 p7) 4) + 1))) 5 ((fd_dI (fv_Dk_goThroughRounds (fd_sdI (fv_Rq_begin σ p1 p2 p3 p4 p5 p6 p7) 4 ((fd_dI (fv_Rq_begin σ p1 p2 p3 p4 p5 p6 p7) 4) + 1))) 5) + 1)) else (1, 0, σ) else (1, 0, σ) else (1, 0, σ) else (1, 0, σ) else (1, 0, σ) else (1, 0, σ) else (1, 0, σ)
set_option maxHeartbeats 4000000 in
set_option maxRecDepth 100000 in
theorem fc_Dk_fetch (l : Launch) (hst : l.stackTraces = false) (D : va_G) (cR cP : ClassId) (ad : Nat → Nat) (sz : Nat) (σ : FDS) (p1 : Int32) (p2 : Int32) (p3 : Int32) (p4 : Int32) (p5 : Int32) (p6 : Int32) (p7 : Int32) (hI : fd_Inv σ)  : vx_Met l fy_Dk_fetch (fw_Dk_fetch :: fb_tbl) ({ frames := 6, cells := 1, slots := 6, locals := 137 } : Room) (fd_Pcx D cR cP ad [.ref (ad 0), .int p1, .int p2, .int p3, .int p4, .int p5, .int p6, .int p7] σ sz) ((fun A => va_Qi (fun (r : Int32) (u : FDS) => fv_Dk_fetch σ p1 p2 p3 p4 p5 p6 p7 = (0, r, u) ∧ fd_Inv u) (fd_B D cR cP ad A) A) (va_A (fd_w cR cP ad σ) sz)) (fd_XC D cR cP ad (fun E u => (∃ c : Int32, fd_isx c E ∧ fv_Dk_fetch σ p1 p2 p3 p4 p5 p6 p7 = (c, 0, u)) ∧ fd_Inv u) (va_A (fd_w cR cP ad σ) sz)) 1 6 (va_A (fd_w cR cP ad σ) sz) := by
  refine fd_xofW (cc := fb_Dk_fetch) (maxL := 8) (ret := (some .int)) (Qf := fun A => va_Qi (fun (r : Int32) (u : FDS) => fv_Dk_fetch σ p1 p2 p3 p4 p5 p6 p7 = (0, r, u) ∧ fd_Inv u) (fd_B D cR cP ad A) A) (XC := fd_XC D cR cP ad (fun E u => (∃ c : Int32, fd_isx c E ∧ fv_Dk_fetch σ p1 p2 p3 p4 p5 p6 p7 = (c, 0, u)) ∧ fd_Inv u)) (by decide) (Nat.le_of_ble_eq_true rfl) ?_
  intro p e s m args below meth c A Q hQ hx hb hr hts hown hlocks hml hP hK hD hS hA hN hX hZ hex ls hl
  have hown : s.vm.findClass fn_R_Dk = some m.cls := hown
  have hl : lv_has ls 8 [(0, .ref (ad 0)), (1, .int p1), (2, .int p2), (3, .int p3), (4, .int p4), (5, .int p5), (6, .int p6), (7, .int p7)] := hl
  suffices hgo : ∀ (H : Heap) (locs : List Loc), va_P D fn_cl (fd_w cR cP ad σ) H → va_D A (fd_w cR cP ad σ) → va_S A s.heap H locs → W p l e ({ frames := 6, cells := 1, slots := 6, locals := 137 } : Room) s m args below meth c H locs 0 0 Q (F0 m 0 ls []) from hgo _ _ hP hD hS
  clear hP hD hS
  intro H locs hP hD hS
  refine lv_iload_n hx hb fx_Dk_fetch_0 rfl (lv_at hl 1 rfl) ?_
  refine fd_callz (va_runS (As := [.int p1]) (rest := []) ⟨hx, hb, hml, hown, hts⟩ (fc_Dk_isOrigin l D cR cP ad H.size σ p1 hI ) ⟨callB_of 1 hts (fb_good fm_Dk_isOrigin) rfl rfl rfl (hts _ (List.mem_cons_of_mem _ fq_1)) (hts _ (List.mem_cons_of_mem _ fq_347)) (by decide +kernel) ⟨Nat.le_of_ble_eq_true rfl, Nat.le_of_ble_eq_true rfl⟩, (hts _ (List.mem_cons_of_mem _ fq_348))⟩ (fd_preS hP hK hD hN) rfl rfl hl.1 rfl (lv_room (Nat.le_of_ble_eq_true rfl)) fx_Dk_fetch_1 ⟨Nat.le_of_ble_eq_true rfl, Nat.le_of_ble_eq_true rfl⟩) hD hS hA (fun H locs hP hD hS => ?_)
  refine fd_ifeq (tgt := 29) hx hb fx_Dk_fetch_4 (by decide) (fun c2 => ?_) (fun c2 => ?_)
  · exact fd_throw ft_g1 ft_n1 ft_o1 (by decide) fq_243 fq_10 (u := σ) hQ hx hb hst hown hts hX hZ (hl.1.trans hml.symm) hex hlocks ⟨Nat.le_of_ble_eq_true rfl, Nat.le_of_ble_eq_true rfl, Nat.le_of_ble_eq_true rfl, Nat.le_of_ble_eq_true rfl⟩ ⟨⟨1, Or.inl ⟨rfl, rfl⟩, (by rw [fv_Dk_fetch, if_neg c2])⟩, hI⟩ hP hD hS fx_Dk_fetch_29 fx_Dk_fetch_32 fx_Dk_fetch_33 fx_Dk_fetch_36
  · refine lv_iload_n hx hb fx_Dk_fetch_7 rfl (lv_at hl 2 rfl) ?_
    refine fd_callz (va_runS (As := [.int p2]) (rest := []) ⟨hx, hb, hml, hown, hts⟩ (fc_Dk_isUrl l D cR cP ad H.size σ p2 hI ) ⟨callB_of 1 hts (fb_good fm_Dk_isUrl) rfl rfl rfl (hts _ (List.mem_cons_of_mem _ fq_1)) (hts _ (List.mem_cons_of_mem _ fq_240)) (by decide +kernel) ⟨Nat.le_of_ble_eq_true rfl, Nat.le_of_ble_eq_true rfl⟩, (hts _ (List.mem_cons_of_mem _ fq_241))⟩ (fd_preS hP hK hD hN) rfl rfl hl.1 rfl (lv_room (Nat.le_of_ble_eq_true rfl)) fx_Dk_fetch_8 ⟨Nat.le_of_ble_eq_true rfl, Nat.le_of_ble_eq_true rfl⟩) hD hS hA (fun H locs hP hD hS => ?_)
    refine fd_ifeq (tgt := 29) hx hb fx_Dk_fetch_11 (by decide) (fun c4 => ?_) (fun c4 => ?_)
    · exact fd_throw ft_g1 ft_n1 ft_o1 (by decide) fq_243 fq_10 (u := σ) hQ hx hb hst hown hts hX hZ (hl.1.trans hml.symm) hex hlocks ⟨Nat.le_of_ble_eq_true rfl, Nat.le_of_ble_eq_true rfl, Nat.le_of_ble_eq_true rfl, Nat.le_of_ble_eq_true rfl⟩ ⟨⟨1, Or.inl ⟨rfl, rfl⟩, (by rw [fv_Dk_fetch, if_pos c2, if_neg c4])⟩, hI⟩ hP hD hS fx_Dk_fetch_29 fx_Dk_fetch_32 fx_Dk_fetch_33 fx_Dk_fetch_36
    · refine lv_iload_n hx hb fx_Dk_fetch_14 rfl (lv_at hl 3 rfl) ?_
      refine fd_callz (va_runS (As := [.int p3]) (rest := []) ⟨hx, hb, hml, hown, hts⟩ (fc_Dk_isMethod l D cR cP ad H.size σ p3 hI ) ⟨callB_of 1 hts (fb_good fm_Dk_isMethod) rfl rfl rfl (hts _ (List.mem_cons_of_mem _ fq_1)) (hts _ (List.mem_cons_of_mem _ fq_350)) (by decide +kernel) ⟨Nat.le_of_ble_eq_true rfl, Nat.le_of_ble_eq_true rfl⟩, (hts _ (List.mem_cons_of_mem _ fq_351))⟩ (fd_preS hP hK hD hN) rfl rfl hl.1 rfl (lv_room (Nat.le_of_ble_eq_true rfl)) fx_Dk_fetch_15 ⟨Nat.le_of_ble_eq_true rfl, Nat.le_of_ble_eq_true rfl⟩) hD hS hA (fun H locs hP hD hS => ?_)
      refine fd_ifeq (tgt := 29) hx hb fx_Dk_fetch_18 (by decide) (fun c6 => ?_) (fun c6 => ?_)
      · exact fd_throw ft_g1 ft_n1 ft_o1 (by decide) fq_243 fq_10 (u := σ) hQ hx hb hst hown hts hX hZ (hl.1.trans hml.symm) hex hlocks ⟨Nat.le_of_ble_eq_true rfl, Nat.le_of_ble_eq_true rfl, Nat.le_of_ble_eq_true rfl, Nat.le_of_ble_eq_true rfl⟩ ⟨⟨1, Or.inl ⟨rfl, rfl⟩, (by rw [fv_Dk_fetch, if_pos c2, if_pos c4, if_neg c6])⟩, hI⟩ hP hD hS fx_Dk_fetch_29 fx_Dk_fetch_32 fx_Dk_fetch_33 fx_Dk_fetch_36
      · refine lv_iload hx hb fx_Dk_fetch_21 (lv_at hl 4 rfl) ?_
        refine fd_callz (va_runS (As := [.int p4]) (rest := []) ⟨hx, hb, hml, hown, hts⟩ (fc_Dk_isFourBits l D cR cP ad H.size σ p4 hI ) ⟨callB_of 1 hts (fb_good fm_Dk_isFourBits) rfl rfl rfl (hts _ (List.mem_cons_of_mem _ fq_1)) (hts _ (List.mem_cons_of_mem _ fq_313)) (by decide +kernel) ⟨Nat.le_of_ble_eq_true rfl, Nat.le_of_ble_eq_true rfl⟩, (hts _ (List.mem_cons_of_mem _ fq_314))⟩ (fd_preS hP hK hD hN) rfl rfl hl.1 rfl (lv_room (Nat.le_of_ble_eq_true rfl)) fx_Dk_fetch_23 ⟨Nat.le_of_ble_eq_true rfl, Nat.le_of_ble_eq_true rfl⟩) hD hS hA (fun H locs hP hD hS => ?_)
        refine fd_ifne (tgt := 37) hx hb fx_Dk_fetch_26 (by decide) (fun c8 => ?_) (fun c8 => ?_)
        · refine lv_iload hx hb fx_Dk_fetch_37 (lv_at hl 5 rfl) ?_
          refine fd_callz (va_runS (As := [.int p5]) (rest := []) ⟨hx, hb, hml, hown, hts⟩ (fc_Dk_isChoice l D cR cP ad H.size σ p5 hI ) ⟨callB_of 1 hts (fb_good fm_Dk_isChoice) rfl rfl rfl (hts _ (List.mem_cons_of_mem _ fq_1)) (hts _ (List.mem_cons_of_mem _ fq_353)) (by decide +kernel) ⟨Nat.le_of_ble_eq_true rfl, Nat.le_of_ble_eq_true rfl⟩, (hts _ (List.mem_cons_of_mem _ fq_354))⟩ (fd_preS hP hK hD hN) rfl rfl hl.1 rfl (lv_room (Nat.le_of_ble_eq_true rfl)) fx_Dk_fetch_39 ⟨Nat.le_of_ble_eq_true rfl, Nat.le_of_ble_eq_true rfl⟩) hD hS hA (fun H locs hP hD hS => ?_)
          refine fd_ifeq (tgt := 61) hx hb fx_Dk_fetch_42 (by decide) (fun c10 => ?_) (fun c10 => ?_)
          · exact fd_throw ft_g1 ft_n1 ft_o1 (by decide) fq_243 fq_10 (u := σ) hQ hx hb hst hown hts hX hZ (hl.1.trans hml.symm) hex hlocks ⟨Nat.le_of_ble_eq_true rfl, Nat.le_of_ble_eq_true rfl, Nat.le_of_ble_eq_true rfl, Nat.le_of_ble_eq_true rfl⟩ ⟨⟨1, Or.inl ⟨rfl, rfl⟩, (by rw [fv_Dk_fetch, if_pos c2, if_pos c4, if_pos c6, if_pos c8, if_neg c10])⟩, hI⟩ hP hD hS fx_Dk_fetch_61 fx_Dk_fetch_64 fx_Dk_fetch_65 fx_Dk_fetch_68
          · refine lv_iload hx hb fx_Dk_fetch_45 (lv_at hl 6 rfl) ?_
            refine fd_callz (va_runS (As := [.int p6]) (rest := []) ⟨hx, hb, hml, hown, hts⟩ (fc_Dk_isChoice l D cR cP ad H.size σ p6 hI ) ⟨callB_of 1 hts (fb_good fm_Dk_isChoice) rfl rfl rfl (hts _ (List.mem_cons_of_mem _ fq_1)) (hts _ (List.mem_cons_of_mem _ fq_353)) (by decide +kernel) ⟨Nat.le_of_ble_eq_true rfl, Nat.le_of_ble_eq_true rfl⟩, (hts _ (List.mem_cons_of_mem _ fq_354))⟩ (fd_preS hP hK hD hN) rfl rfl hl.1 rfl (lv_room (Nat.le_of_ble_eq_true rfl)) fx_Dk_fetch_47 ⟨Nat.le_of_ble_eq_true rfl, Nat.le_of_ble_eq_true rfl⟩) hD hS hA (fun H locs hP hD hS => ?_)
            refine fd_ifeq (tgt := 61) hx hb fx_Dk_fetch_50 (by decide) (fun c12 => ?_) (fun c12 => ?_)
            · exact fd_throw ft_g1 ft_n1 ft_o1 (by decide) fq_243 fq_10 (u := σ) hQ hx hb hst hown hts hX hZ (hl.1.trans hml.symm) hex hlocks ⟨Nat.le_of_ble_eq_true rfl, Nat.le_of_ble_eq_true rfl, Nat.le_of_ble_eq_true rfl, Nat.le_of_ble_eq_true rfl⟩ ⟨⟨1, Or.inl ⟨rfl, rfl⟩, (by rw [fv_Dk_fetch, if_pos c2, if_pos c4, if_pos c6, if_pos c8, if_pos c10, if_neg c12])⟩, hI⟩ hP hD hS fx_Dk_fetch_61 fx_Dk_fetch_64 fx_Dk_fetch_65 fx_Dk_fetch_68
            · refine lv_iload hx hb fx_Dk_fetch_53 (lv_at hl 7 rfl) ?_
              refine fd_callz (va_runS (As := [.int p7]) (rest := []) ⟨hx, hb, hml, hown, hts⟩ (fc_Dk_isChoice l D cR cP ad H.size σ p7 hI ) ⟨callB_of 1 hts (fb_good fm_Dk_isChoice) rfl rfl rfl (hts _ (List.mem_cons_of_mem _ fq_1)) (hts _ (List.mem_cons_of_mem _ fq_353)) (by decide +kernel) ⟨Nat.le_of_ble_eq_true rfl, Nat.le_of_ble_eq_true rfl⟩, (hts _ (List.mem_cons_of_mem _ fq_354))⟩ (fd_preS hP hK hD hN) rfl rfl hl.1 rfl (lv_room (Nat.le_of_ble_eq_true rfl)) fx_Dk_fetch_55 ⟨Nat.le_of_ble_eq_true rfl, Nat.le_of_ble_eq_true rfl⟩) hD hS hA (fun H locs hP hD hS => ?_)
              refine fd_ifne (tgt := 69) hx hb fx_Dk_fetch_58 (by decide) (fun c14 => ?_) (fun c14 => ?_)
              · refine lv_iload hx hb fx_Dk_fetch_69 (lv_at hl 5 rfl) ?_
                refine lv_iconst (v := 2) hx hb fx_Dk_fetch_71 (by decide) ?_
                refine lv_icmp_ne (tgt := 92) hx hb fx_Dk_fetch_72 (by decide) (fun c15 => ?_) (fun c15 => ?_)
                · refine lv_aload_n hx hb fx_Dk_fetch_92 rfl (lv_at hl 0 rfl) ?_
                  refine va_get (D := D) (ci := 4) (v := .ref (ad 2)) (C := fn_R_Dk) (T := fn_T_Dk) (N := 9) hx hb hts fn_j_Dk hown hK hP 0 rfl rfl 2 (by decide) (hts _ (List.mem_cons_of_mem _ fq_206)) (fun _ h9 => h9) rfl fx_Dk_fetch_93 ?_
                  refine lv_iload_n hx hb fx_Dk_fetch_96 rfl (lv_at hl 1 rfl) ?_
                  refine lv_iload_n hx hb fx_Dk_fetch_97 rfl (lv_at hl 2 rfl) ?_
                  refine lv_iload_n hx hb fx_Dk_fetch_98 rfl (lv_at hl 3 rfl) ?_
                  refine lv_iload hx hb fx_Dk_fetch_99 (lv_at hl 4 rfl) ?_
                  refine lv_iload hx hb fx_Dk_fetch_101 (lv_at hl 5 rfl) ?_
                  refine lv_iload hx hb fx_Dk_fetch_103 (lv_at hl 6 rfl) ?_
                  refine lv_iload hx hb fx_Dk_fetch_105 (lv_at hl 7 rfl) ?_
                  refine fd_callvm (va_runVN (As := [.int p1, .int p2, .int p3, .int p4, .int p5, .int p6, .int p7]) (rest := []) ⟨hx, hb, hml, hown, hts⟩ (fc_Rq_begin l D cR cP ad H.size σ p1 p2 p3 p4 p5 p6 p7 hI (fd_url c4)) ⟨va_cnB 7 hts (fb_good fm_Rq_begin) rfl rfl rfl (hN _ fq_362) (hts _ (List.mem_cons_of_mem _ fq_5)) (by decide +kernel) ⟨Nat.le_of_ble_eq_true rfl, Nat.le_of_ble_eq_true rfl⟩, (hts _ (List.mem_cons_of_mem _ fq_364)), (hts _ (List.mem_cons_of_mem _ fp_Rq_begin))⟩ (fd_preV hP hK hD hN (va_recv hK hP (ci := 2) (q0 := 2) rfl rfl)) rfl rfl hl.1 rfl (lv_room (Nat.le_of_ble_eq_true rfl)) fx_Dk_fetch_107 ⟨Nat.le_of_ble_eq_true rfl, Nat.le_of_ble_eq_true rfl⟩) hD hS hA (fun H locs hP hD hS hI16 => ?_)
                  refine lv_aload_n hx hb fx_Dk_fetch_110 rfl (lv_at hl 0 rfl) ?_
                  refine lv_dup hx hb fx_Dk_fetch_111 rfl ?_
                  refine va_get (D := D) (ci := 4) (v := .int (fd_dI (fv_Rq_begin σ p1 p2 p3 p4 p5 p6 p7) 4)) (C := fn_R_Dk) (T := fn_T_Dk) (N := 9) hx hb hts fn_j_Dk hown hK hP 0 rfl rfl 4 (by decide) (hts _ (List.mem_cons_of_mem _ fq_208)) (fun _ h9 => h9) rfl fx_Dk_fetch_112 ?_
                  refine lv_iconst (v := 1) hx hb fx_Dk_fetch_115 (by decide) ?_
                  refine lv_iadd hx hb fx_Dk_fetch_116 ?_
                  refine va_put (D := D) (ci := 4) (v := .int ((fd_dI (fv_Rq_begin σ p1 p2 p3 p4 p5 p6 p7) 4) + 1)) (ty := .int) (C := fn_R_Dk) (T := fn_T_Dk) (N := 9) hx hb hts fn_j_Dk fn_t_Dk fn_k_Dk fn_n_Dk hown hK hP hD hS 0 rfl rfl 4 (by decide) (hts _ (List.mem_cons_of_mem _ fq_208)) (fun _ h9 => h9) rfl (by decide +kernel) rfl rfl (Nat.le_of_ble_eq_true rfl) fx_Dk_fetch_117 (fun H locs hP hD hS => ?_)
                  rw [fd_set_Dk_4] at hP hD
                  have hI17 : fd_Inv (fd_sdI (fv_Rq_begin σ p1 p2 p3 p4 p5 p6 p7) 4 ((fd_dI (fv_Rq_begin σ p1 p2 p3 p4 p5 p6 p7) 4) + 1)) := fd_inv_sdI hI16
                  refine lv_aload_n hx hb fx_Dk_fetch_120 rfl (lv_at hl 0 rfl) ?_
                  refine fd_callvm (va_runV (As := []) (rest := []) ⟨hx, hb, hml, hown, hts⟩ (fc_Dk_goThroughRounds l D cR cP ad H.size (fd_sdI (fv_Rq_begin σ p1 p2 p3 p4 p5 p6 p7) 4 ((fd_dI (fv_Rq_begin σ p1 p2 p3 p4 p5 p6 p7) 4) + 1))  hI17 ) ⟨callB_of 0 hts (fb_good fm_Dk_goThroughRounds) rfl rfl rfl (hts _ (List.mem_cons_of_mem _ fq_1)) (hts _ (List.mem_cons_of_mem _ fq_370)) (by decide +kernel) ⟨Nat.le_of_ble_eq_true rfl, Nat.le_of_ble_eq_true rfl⟩, (hts _ (List.mem_cons_of_mem _ fq_372)), (hts _ (List.mem_cons_of_mem _ fp_Dk_goThroughRounds))⟩ (fd_preV hP hK hD hN (va_recv hK hP (ci := 4) (q0 := 0) rfl rfl)) rfl rfl hl.1 rfl (lv_room (Nat.le_of_ble_eq_true rfl)) fx_Dk_fetch_121 ⟨Nat.le_of_ble_eq_true rfl, Nat.le_of_ble_eq_true rfl⟩) hD hS hA (fun H locs hP hD hS hI18 => ?_)
                  refine lv_aload_n hx hb fx_Dk_fetch_124 rfl (lv_at hl 0 rfl) ?_
                  refine va_get (D := D) (ci := 4) (v := .ref (ad 2)) (C := fn_R_Dk) (T := fn_T_Dk) (N := 9) hx hb hts fn_j_Dk hown hK hP 0 rfl rfl 2 (by decide) (hts _ (List.mem_cons_of_mem _ fq_206)) (fun _ h9 => h9) rfl fx_Dk_fetch_125 ?_
                  refine va_getN (D := D) (ci := 2) (v := .int (fd_qI (fv_Dk_goThroughRounds (fd_sdI (fv_Rq_begin σ p1 p2 p3 p4 p5 p6 p7) 4 ((fd_dI (fv_Rq_begin σ p1 p2 p3 p4 p5 p6 p7) 4) + 1))) 10)) (C := fn_R_Rq) (T := fn_T_Rq) (N := 15) hx hb hts fn_j_Rq hown hK hP 2 rfl rfl 10 (by decide) (va_Nw.use rfl (hN _ fq_164)) (fun _ h9 => h9) rfl fx_Dk_fetch_128 ?_
                  refine lv_if_eq (tgt := 152) hx hb fx_Dk_fetch_131 (by decide) (fun c19 => ?_) (fun c19 => ?_)
                  · refine lv_aload_n hx hb fx_Dk_fetch_152 rfl (lv_at hl 0 rfl) ?_
                    refine va_get (D := D) (ci := 4) (v := .ref (ad 2)) (C := fn_R_Dk) (T := fn_T_Dk) (N := 9) hx hb hts fn_j_Dk hown hK hP 0 rfl rfl 2 (by decide) (hts _ (List.mem_cons_of_mem _ fq_206)) (fun _ h9 => h9) rfl fx_Dk_fetch_153 ?_
                    refine va_getN (D := D) (ci := 2) (v := .int (fd_qI (fv_Dk_goThroughRounds (fd_sdI (fv_Rq_begin σ p1 p2 p3 p4 p5 p6 p7) 4 ((fd_dI (fv_Rq_begin σ p1 p2 p3 p4 p5 p6 p7) 4) + 1))) 14)) (C := fn_R_Rq) (T := fn_T_Rq) (N := 15) hx hb hts fn_j_Rq hown hK hP 2 rfl rfl 14 (by decide) (va_Nw.use rfl (hN _ fq_172)) (fun _ h9 => h9) rfl fx_Dk_fetch_156 ?_
                    exact fd_xiret (r := fd_qI (fv_Dk_goThroughRounds (fd_sdI (fv_Rq_begin σ p1 p2 p3 p4 p5 p6 p7) 4 ((fd_dI (fv_Rq_begin σ p1 p2 p3 p4 p5 p6 p7) 4) + 1))) 14) (u := (fv_Dk_goThroughRounds (fd_sdI (fv_Rq_begin σ p1 p2 p3 p4 p5 p6 p7) 4 ((fd_dI (fv_Rq_begin σ p1 p2 p3 p4 p5 p6 p7) 4) + 1)))) hQ hx hb hr ⟨by rw [fv_Dk_fetch, if_pos c2, if_pos c4, if_pos c6, if_pos c8, if_pos c10, if_pos c12, if_pos c14, if_neg c15, if_pos c19], hI18⟩ hP hD hS fx_Dk_fetch_159 hlocks
                  · refine lv_aload_n hx hb fx_Dk_fetch_134 rfl (lv_at hl 0 rfl) ?_
                    refine lv_dup hx hb fx_Dk_fetch_135 rfl ?_
                    refine va_get (D := D) (ci := 4) (v := .int (fd_dI (fv_Dk_goThroughRounds (fd_sdI (fv_Rq_begin σ p1 p2 p3 p4 p5 p6 p7) 4 ((fd_dI (fv_Rq_begin σ p1 p2 p3 p4 p5 p6 p7) 4) + 1))) 5)) (C := fn_R_Dk) (T := fn_T_Dk) (N := 9) hx hb hts fn_j_Dk hown hK hP 0 rfl rfl 5 (by decide) (hts _ (List.mem_cons_of_mem _ fq_209)) (fun _ h9 => h9) rfl fx_Dk_fetch_136 ?_
                    refine lv_iconst (v := 1) hx hb fx_Dk_fetch_139 (by decide) ?_
                    refine lv_iadd hx hb fx_Dk_fetch_140 ?_
                    refine va_put (D := D) (ci := 4) (v := .int ((fd_dI (fv_Dk_goThroughRounds (fd_sdI (fv_Rq_begin σ p1 p2 p3 p4 p5 p6 p7) 4 ((fd_dI (fv_Rq_begin σ p1 p2 p3 p4 p5 p6 p7) 4) + 1))) 5) + 1)) (ty := .int) (C := fn_R_Dk) (T := fn_T_Dk) (N := 9) hx hb hts fn_j_Dk fn_t_Dk fn_k_Dk fn_n_Dk hown hK hP hD hS 0 rfl rfl 5 (by decide) (hts _ (List.mem_cons_of_mem _ fq_209)) (fun _ h9 => h9) rfl (by decide +kernel) rfl rfl (Nat.le_of_ble_eq_true rfl) fx_Dk_fetch_141 (fun H locs hP hD hS => ?_)
                    rw [fd_set_Dk_5] at hP hD
                    have hI20 : fd_Inv (fd_sdI (fv_Dk_goThroughRounds (fd_sdI (fv_Rq_begin σ p1 p2 p3 p4 p5 p6 p7) 4 ((fd_dI (fv_Rq_begin σ p1 p2 p3 p4 p5 p6 p7) 4) + 1))) 5 ((fd_dI (fv_Dk_goThroughRounds (fd_sdI (fv_Rq_begin σ p1 p2 p3 p4 p5 p6 p7) 4 ((fd_dI (fv_Rq_begin σ p1 p2 p3 p4 p5 p6 p7) 4) + 1))) 5) + 1)) := fd_inv_sdI hI18
                    exact fd_throw ft_g2 ft_n2 ft_o2 (by decide) fq_458 fq_11 (u := fd_sdI (fv_Dk_goThroughRounds (fd_sdI (fv_Rq_begin σ p1 p2 p3 p4 p5 p6 p7) 4 ((fd_dI (fv_Rq_begin σ p1 p2 p3 p4 p5 p6 p7) 4) + 1))) 5 ((fd_dI (fv_Dk_goThroughRounds (fd_sdI (fv_Rq_begin σ p1 p2 p3 p4 p5 p6 p7) 4 ((fd_dI (fv_Rq_begin σ p1 p2 p3 p4 p5 p6 p7) 4) + 1))) 5) + 1)) hQ hx hb hst hown hts hX hZ (hl.1.trans hml.symm) hex hlocks ⟨Nat.le_of_ble_eq_true rfl, Nat.le_of_ble_eq_true rfl, Nat.le_of_ble_eq_true rfl, Nat.le_of_ble_eq_true rfl⟩ ⟨⟨2, Or.inr (Or.inl ⟨rfl, rfl⟩), (by rw [fv_Dk_fetch, if_pos c2, if_pos c4, if_pos c6, if_pos c8, if_pos c10, if_pos c12, if_pos c14, if_neg c15, if_neg c19])⟩, hI20⟩ hP hD hS fx_Dk_fetch_144 fx_Dk_fetch_147 fx_Dk_fetch_148 fx_Dk_fetch_151
                · refine lv_iload_n hx hb fx_Dk_fetch_75 rfl (lv_at hl 3 rfl) ?_
                  refine lv_iload hx hb fx_Dk_fetch_76 (lv_at hl 4 rfl) ?_
                  refine fd_callz (va_runS (As := [.int p3, .int p4]) (rest := []) ⟨hx, hb, hml, hown, hts⟩ (fc_Dk_isPlain l D cR cP ad H.size σ p3 p4 hI ) ⟨callB_of 2 hts (fb_good fm_Dk_isPlain) rfl rfl rfl (hts _ (List.mem_cons_of_mem _ fq_1)) (hts _ (List.mem_cons_of_mem _ fq_356)) (by decide +kernel) ⟨Nat.le_of_ble_eq_true rfl, Nat.le_of_ble_eq_true rfl⟩, (hts _ (List.mem_cons_of_mem _ fq_357))⟩ (fd_preS hP hK hD hN) rfl rfl hl.1 rfl (lv_room (Nat.le_of_ble_eq_true rfl)) fx_Dk_fetch_78 ⟨Nat.le_of_ble_eq_true rfl, Nat.le_of_ble_eq_true rfl⟩) hD hS hA (fun H locs hP hD hS => ?_)
                  refine fd_ifne (tgt := 92) hx hb fx_Dk_fetch_81 (by decide) (fun c22 => ?_) (fun c22 => ?_)
                  · refine lv_aload_n hx hb fx_Dk_fetch_92 rfl (lv_at hl 0 rfl) ?_
                    refine va_get (D := D) (ci := 4) (v := .ref (ad 2)) (C := fn_R_Dk) (T := fn_T_Dk) (N := 9) hx hb hts fn_j_Dk hown hK hP 0 rfl rfl 2 (by decide) (hts _ (List.mem_cons_of_mem _ fq_206)) (fun _ h9 => h9) rfl fx_Dk_fetch_93 ?_
                    refine lv_iload_n hx hb fx_Dk_fetch_96 rfl (lv_at hl 1 rfl) ?_
                    refine lv_iload_n hx hb fx_Dk_fetch_97 rfl (lv_at hl 2 rfl) ?_
                    refine lv_iload_n hx hb fx_Dk_fetch_98 rfl (lv_at hl 3 rfl) ?_
                    refine lv_iload hx hb fx_Dk_fetch_99 (lv_at hl 4 rfl) ?_
                    refine lv_iload hx hb fx_Dk_fetch_101 (lv_at hl 5 rfl) ?_
                    refine lv_iload hx hb fx_Dk_fetch_103 (lv_at hl 6 rfl) ?_
                    refine lv_iload hx hb fx_Dk_fetch_105 (lv_at hl 7 rfl) ?_
                    refine fd_callvm (va_runVN (As := [.int p1, .int p2, .int p3, .int p4, .int p5, .int p6, .int p7]) (rest := []) ⟨hx, hb, hml, hown, hts⟩ (fc_Rq_begin l D cR cP ad H.size σ p1 p2 p3 p4 p5 p6 p7 hI (fd_url c4)) ⟨va_cnB 7 hts (fb_good fm_Rq_begin) rfl rfl rfl (hN _ fq_362) (hts _ (List.mem_cons_of_mem _ fq_5)) (by decide +kernel) ⟨Nat.le_of_ble_eq_true rfl, Nat.le_of_ble_eq_true rfl⟩, (hts _ (List.mem_cons_of_mem _ fq_364)), (hts _ (List.mem_cons_of_mem _ fp_Rq_begin))⟩ (fd_preV hP hK hD hN (va_recv hK hP (ci := 2) (q0 := 2) rfl rfl)) rfl rfl hl.1 rfl (lv_room (Nat.le_of_ble_eq_true rfl)) fx_Dk_fetch_107 ⟨Nat.le_of_ble_eq_true rfl, Nat.le_of_ble_eq_true rfl⟩) hD hS hA (fun H locs hP hD hS hI23 => ?_)
                    refine lv_aload_n hx hb fx_Dk_fetch_110 rfl (lv_at hl 0 rfl) ?_
                    refine lv_dup hx hb fx_Dk_fetch_111 rfl ?_
                    refine va_get (D := D) (ci := 4) (v := .int (fd_dI (fv_Rq_begin σ p1 p2 p3 p4 p5 p6 p7) 4)) (C := fn_R_Dk) (T := fn_T_Dk) (N := 9) hx hb hts fn_j_Dk hown hK hP 0 rfl rfl 4 (by decide) (hts _ (List.mem_cons_of_mem _ fq_208)) (fun _ h9 => h9) rfl fx_Dk_fetch_112 ?_
                    refine lv_iconst (v := 1) hx hb fx_Dk_fetch_115 (by decide) ?_
                    refine lv_iadd hx hb fx_Dk_fetch_116 ?_
                    refine va_put (D := D) (ci := 4) (v := .int ((fd_dI (fv_Rq_begin σ p1 p2 p3 p4 p5 p6 p7) 4) + 1)) (ty := .int) (C := fn_R_Dk) (T := fn_T_Dk) (N := 9) hx hb hts fn_j_Dk fn_t_Dk fn_k_Dk fn_n_Dk hown hK hP hD hS 0 rfl rfl 4 (by decide) (hts _ (List.mem_cons_of_mem _ fq_208)) (fun _ h9 => h9) rfl (by decide +kernel) rfl rfl (Nat.le_of_ble_eq_true rfl) fx_Dk_fetch_117 (fun H locs hP hD hS => ?_)
                    rw [fd_set_Dk_4] at hP hD
                    have hI24 : fd_Inv (fd_sdI (fv_Rq_begin σ p1 p2 p3 p4 p5 p6 p7) 4 ((fd_dI (fv_Rq_begin σ p1 p2 p3 p4 p5 p6 p7) 4) + 1)) := fd_inv_sdI hI23
                    refine lv_aload_n hx hb fx_Dk_fetch_120 rfl (lv_at hl 0 rfl) ?_
                    refine fd_callvm (va_runV (As := []) (rest := []) ⟨hx, hb, hml, hown, hts⟩ (fc_Dk_goThroughRounds l D cR cP ad H.size (fd_sdI (fv_Rq_begin σ p1 p2 p3 p4 p5 p6 p7) 4 ((fd_dI (fv_Rq_begin σ p1 p2 p3 p4 p5 p6 p7) 4) + 1))  hI24 ) ⟨callB_of 0 hts (fb_good fm_Dk_goThroughRounds) rfl rfl rfl (hts _ (List.mem_cons_of_mem _ fq_1)) (hts _ (List.mem_cons_of_mem _ fq_370)) (by decide +kernel) ⟨Nat.le_of_ble_eq_true rfl, Nat.le_of_ble_eq_true rfl⟩, (hts _ (List.mem_cons_of_mem _ fq_372)), (hts _ (List.mem_cons_of_mem _ fp_Dk_goThroughRounds))⟩ (fd_preV hP hK hD hN (va_recv hK hP (ci := 4) (q0 := 0) rfl rfl)) rfl rfl hl.1 rfl (lv_room (Nat.le_of_ble_eq_true rfl)) fx_Dk_fetch_121 ⟨Nat.le_of_ble_eq_true rfl, Nat.le_of_ble_eq_true rfl⟩) hD hS hA (fun H locs hP hD hS hI25 => ?_)
                    refine lv_aload_n hx hb fx_Dk_fetch_124 rfl (lv_at hl 0 rfl) ?_
                    refine va_get (D := D) (ci := 4) (v := .ref (ad 2)) (C := fn_R_Dk) (T := fn_T_Dk) (N := 9) hx hb hts fn_j_Dk hown hK hP 0 rfl rfl 2 (by decide) (hts _ (List.mem_cons_of_mem _ fq_206)) (fun _ h9 => h9) rfl fx_Dk_fetch_125 ?_
                    refine va_getN (D := D) (ci := 2) (v := .int (fd_qI (fv_Dk_goThroughRounds (fd_sdI (fv_Rq_begin σ p1 p2 p3 p4 p5 p6 p7) 4 ((fd_dI (fv_Rq_begin σ p1 p2 p3 p4 p5 p6 p7) 4) + 1))) 10)) (C := fn_R_Rq) (T := fn_T_Rq) (N := 15) hx hb hts fn_j_Rq hown hK hP 2 rfl rfl 10 (by decide) (va_Nw.use rfl (hN _ fq_164)) (fun _ h9 => h9) rfl fx_Dk_fetch_128 ?_
                    refine lv_if_eq (tgt := 152) hx hb fx_Dk_fetch_131 (by decide) (fun c26 => ?_) (fun c26 => ?_)
                    · refine lv_aload_n hx hb fx_Dk_fetch_152 rfl (lv_at hl 0 rfl) ?_
                      refine va_get (D := D) (ci := 4) (v := .ref (ad 2)) (C := fn_R_Dk) (T := fn_T_Dk) (N := 9) hx hb hts fn_j_Dk hown hK hP 0 rfl rfl 2 (by decide) (hts _ (List.mem_cons_of_mem _ fq_206)) (fun _ h9 => h9) rfl fx_Dk_fetch_153 ?_
                      refine va_getN (D := D) (ci := 2) (v := .int (fd_qI (fv_Dk_goThroughRounds (fd_sdI (fv_Rq_begin σ p1 p2 p3 p4 p5 p6 p7) 4 ((fd_dI (fv_Rq_begin σ p1 p2 p3 p4 p5 p6 p7) 4) + 1))) 14)) (C := fn_R_Rq) (T := fn_T_Rq) (N := 15) hx hb hts fn_j_Rq hown hK hP 2 rfl rfl 14 (by decide) (va_Nw.use rfl (hN _ fq_172)) (fun _ h9 => h9) rfl fx_Dk_fetch_156 ?_
                      exact fd_xiret (r := fd_qI (fv_Dk_goThroughRounds (fd_sdI (fv_Rq_begin σ p1 p2 p3 p4 p5 p6 p7) 4 ((fd_dI (fv_Rq_begin σ p1 p2 p3 p4 p5 p6 p7) 4) + 1))) 14) (u := (fv_Dk_goThroughRounds (fd_sdI (fv_Rq_begin σ p1 p2 p3 p4 p5 p6 p7) 4 ((fd_dI (fv_Rq_begin σ p1 p2 p3 p4 p5 p6 p7) 4) + 1)))) hQ hx hb hr ⟨by rw [fv_Dk_fetch, if_pos c2, if_pos c4, if_pos c6, if_pos c8, if_pos c10, if_pos c12, if_pos c14, if_pos c15, if_pos c22, if_pos c26], hI25⟩ hP hD hS fx_Dk_fetch_159 hlocks
                    · refine lv_aload_n hx hb fx_Dk_fetch_134 rfl (lv_at hl 0 rfl) ?_
                      refine lv_dup hx hb fx_Dk_fetch_135 rfl ?_
                      refine va_get (D := D) (ci := 4) (v := .int (fd_dI (fv_Dk_goThroughRounds (fd_sdI (fv_Rq_begin σ p1 p2 p3 p4 p5 p6 p7) 4 ((fd_dI (fv_Rq_begin σ p1 p2 p3 p4 p5 p6 p7) 4) + 1))) 5)) (C := fn_R_Dk) (T := fn_T_Dk) (N := 9) hx hb hts fn_j_Dk hown hK hP 0 rfl rfl 5 (by decide) (hts _ (List.mem_cons_of_mem _ fq_209)) (fun _ h9 => h9) rfl fx_Dk_fetch_136 ?_
                      refine lv_iconst (v := 1) hx hb fx_Dk_fetch_139 (by decide) ?_
                      refine lv_iadd hx hb fx_Dk_fetch_140 ?_
                      refine va_put (D := D) (ci := 4) (v := .int ((fd_dI (fv_Dk_goThroughRounds (fd_sdI (fv_Rq_begin σ p1 p2 p3 p4 p5 p6 p7) 4 ((fd_dI (fv_Rq_begin σ p1 p2 p3 p4 p5 p6 p7) 4) + 1))) 5) + 1)) (ty := .int) (C := fn_R_Dk) (T := fn_T_Dk) (N := 9) hx hb hts fn_j_Dk fn_t_Dk fn_k_Dk fn_n_Dk hown hK hP hD hS 0 rfl rfl 5 (by decide) (hts _ (List.mem_cons_of_mem _ fq_209)) (fun _ h9 => h9) rfl (by decide +kernel) rfl rfl (Nat.le_of_ble_eq_true rfl) fx_Dk_fetch_141 (fun H locs hP hD hS => ?_)
                      rw [fd_set_Dk_5] at hP hD
                      have hI27 : fd_Inv (fd_sdI (fv_Dk_goThroughRounds (fd_sdI (fv_Rq_begin σ p1 p2 p3 p4 p5 p6 p7) 4 ((fd_dI (fv_Rq_begin σ p1 p2 p3 p4 p5 p6 p7) 4) + 1))) 5 ((fd_dI (fv_Dk_goThroughRounds (fd_sdI (fv_Rq_begin σ p1 p2 p3 p4 p5 p6 p7) 4 ((fd_dI (fv_Rq_begin σ p1 p2 p3 p4 p5 p6 p7) 4) + 1))) 5) + 1)) := fd_inv_sdI hI25
                      exact fd_throw ft_g2 ft_n2 ft_o2 (by decide) fq_458 fq_11 (u := fd_sdI (fv_Dk_goThroughRounds (fd_sdI (fv_Rq_begin σ p1 p2 p3 p4 p5 p6 p7) 4 ((fd_dI (fv_Rq_begin σ p1 p2 p3 p4 p5 p6 p7) 4) + 1))) 5 ((fd_dI (fv_Dk_goThroughRounds (fd_sdI (fv_Rq_begin σ p1 p2 p3 p4 p5 p6 p7) 4 ((fd_dI (fv_Rq_begin σ p1 p2 p3 p4 p5 p6 p7) 4) + 1))) 5) + 1)) hQ hx hb hst hown hts hX hZ (hl.1.trans hml.symm) hex hlocks ⟨Nat.le_of_ble_eq_true rfl, Nat.le_of_ble_eq_true rfl, Nat.le_of_ble_eq_true rfl, Nat.le_of_ble_eq_true rfl⟩ ⟨⟨2, Or.inr (Or.inl ⟨rfl, rfl⟩), (by rw [fv_Dk_fetch, if_pos c2, if_pos c4, if_pos c6, if_pos c8, if_pos c10, if_pos c12, if_pos c14, if_pos c15, if_pos c22, if_neg c26])⟩, hI27⟩ hP hD hS fx_Dk_fetch_144 fx_Dk_fetch_147 fx_Dk_fetch_148 fx_Dk_fetch_151
                  · exact fd_throw ft_g1 ft_n1 ft_o1 (by decide) fq_243 fq_10 (u := σ) hQ hx hb hst hown hts hX hZ (hl.1.trans hml.symm) hex hlocks ⟨Nat.le_of_ble_eq_true rfl, Nat.le_of_ble_eq_true rfl, Nat.le_of_ble_eq_true rfl, Nat.le_of_ble_eq_true rfl⟩ ⟨⟨1, Or.inl ⟨rfl, rfl⟩, (by rw [fv_Dk_fetch, if_pos c2, if_pos c4, if_pos c6, if_pos c8, if_pos c10, if_pos c12, if_pos c14, if_pos c15, if_neg c22])⟩, hI⟩ hP hD hS fx_Dk_fetch_84 fx_Dk_fetch_87 fx_Dk_fetch_88 fx_Dk_fetch_91
              · exact fd_throw ft_g1 ft_n1 ft_o1 (by decide) fq_243 fq_10 (u := σ) hQ hx hb hst hown hts hX hZ (hl.1.trans hml.symm) hex hlocks ⟨Nat.le_of_ble_eq_true rfl, Nat.le_of_ble_eq_true rfl, Nat.le_of_ble_eq_true rfl, Nat.le_of_ble_eq_true rfl⟩ ⟨⟨1, Or.inl ⟨rfl, rfl⟩, (by rw [fv_Dk_fetch, if_pos c2, if_pos c4, if_pos c6, if_pos c8, if_pos c10, if_pos c12, if_neg c14])⟩, hI⟩ hP hD hS fx_Dk_fetch_61 fx_Dk_fetch_64 fx_Dk_fetch_65 fx_Dk_fetch_68
        · exact fd_throw ft_g1 ft_n1 ft_o1 (by decide) fq_243 fq_10 (u := σ) hQ hx hb hst hown hts hX hZ (hl.1.trans hml.symm) hex hlocks ⟨Nat.le_of_ble_eq_true rfl, Nat.le_of_ble_eq_true rfl, Nat.le_of_ble_eq_true rfl, Nat.le_of_ble_eq_true rfl⟩ ⟨⟨1, Or.inl ⟨rfl, rfl⟩, (by rw [fv_Dk_fetch, if_pos c2, if_pos c4, if_pos c6, if_neg c8])⟩, hI⟩ hP hD hS fx_Dk_fetch_29 fx_Dk_fetch_32 fx_Dk_fetch_33 fx_Dk_fetch_36
