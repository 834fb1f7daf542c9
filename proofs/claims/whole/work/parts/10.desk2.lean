/-! the desk: requests and the memory, first part -/
def fv_Rq_begin (σ : FDS) (p1 : Int32) (p2 : Int32) (p3 : Int32) (p4 : Int32) (p5 : Int32) (p6 : Int32) (p7 : Int32) : FDS := (fv_Rq_show (fd_sqI (fd_sqB (fd_sqB (fd_sqI (fd_sqI (fd_sqI (fd_sqI (fd_sqI (fd_sqI (fd_sqI (fd_sqI σ 0 p1) 1 p2) 2 p3) 3 p4) 4 p5) 5 p6) 6 p7) 7 0) 8 false) 9 false) 10 0) 0 0 0 0)
set_option maxHeartbeats 4000000 in
set_option maxRecDepth 100000 in
theorem fc_Rq_begin (l : Launch) (D : va_G) (cR cP : ClassId) (ad : Nat → Nat) (sz : Nat) (σ : FDS) (p1 : Int32) (p2 : Int32) (p3 : Int32) (p4 : Int32) (p5 : Int32) (p6 : Int32) (p7 : Int32) (hI : fd_Inv σ) (hu : vp_in p2 48) : Met l fy_Rq_begin (fw_Rq_begin :: fb_tbl) ({ frames := 1, cells := 0, slots := 0, locals := 24 } : Room) (fd_Pc D cR cP ad [.ref (ad 2), .int p1, .int p2, .int p3, .int p4, .int p5, .int p6, .int p7] σ sz) ((fun A => va_Qv (fun u : FDS => fv_Rq_begin σ p1 p2 p3 p4 p5 p6 p7 = u ∧ fd_Inv u) (fd_B D cR cP ad A) A) (va_A (fd_w cR cP ad σ) sz)) 0 0 (va_A (fd_w cR cP ad σ) sz) := by
  refine fd_ofW (cc := fb_Rq_begin) (maxL := 8) (ret := none) (Qf := fun A => va_Qv (fun u : FDS => fv_Rq_begin σ p1 p2 p3 p4 p5 p6 p7 = u ∧ fd_Inv u) (fd_B D cR cP ad A) A) (by decide) (Nat.le_of_ble_eq_true rfl) ?_
  intro p e s m args below meth c A Q hQ hx hb hr hts hown hlocks hml hP hK hD hS hA hN ls hl
  have hown : s.vm.findClass fn_R_Rq = some m.cls := hown
  have hl : lv_has ls 8 [(0, .ref (ad 2)), (1, .int p1), (2, .int p2), (3, .int p3), (4, .int p4), (5, .int p5), (6, .int p6), (7, .int p7)] := hl
  suffices hgo : ∀ (H : Heap) (locs : List Loc), va_P D fn_cl (fd_w cR cP ad σ) H → va_D A (fd_w cR cP ad σ) → va_S A s.heap H locs → W p l e ({ frames := 1, cells := 0, slots := 0, locals := 24 } : Room) s m args below meth c H locs 0 0 Q (F0 m 0 ls []) from hgo _ _ hP hD hS
  clear hP hD hS
  intro H locs hP hD hS
  refine lv_aload_n hx hb fx_Rq_begin_0 rfl (lv_at hl 0 rfl) ?_
  refine lv_iload_n hx hb fx_Rq_begin_1 rfl (lv_at hl 1 rfl) ?_
  refine va_put (D := D) (ci := 2) (v := .int p1) (ty := .int) (C := fn_R_Rq) (T := fn_T_Rq) (N := 15) hx hb hts fn_j_Rq fn_t_Rq fn_k_Rq fn_n_Rq hown hK hP hD hS 2 rfl rfl 0 (by decide) (hts _ (List.mem_cons_of_mem _ fq_139)) (fun _ h9 => h9) rfl (by decide +kernel) rfl rfl (Nat.le_of_ble_eq_true rfl) fx_Rq_begin_2 (fun H locs hP hD hS => ?_)
  rw [fd_set_Rq_0] at hP hD
  have hI1 : fd_Inv (fd_sqI σ 0 p1) := fd_inv_sqI (by decide) hI
  refine lv_aload_n hx hb fx_Rq_begin_5 rfl (lv_at hl 0 rfl) ?_
  refine lv_iload_n hx hb fx_Rq_begin_6 rfl (lv_at hl 2 rfl) ?_
  refine va_put (D := D) (ci := 2) (v := .int p2) (ty := .int) (C := fn_R_Rq) (T := fn_T_Rq) (N := 15) hx hb hts fn_j_Rq fn_t_Rq fn_k_Rq fn_n_Rq hown hK hP hD hS 2 rfl rfl 1 (by decide) (hts _ (List.mem_cons_of_mem _ fq_143)) (fun _ h9 => h9) rfl (by decide +kernel) rfl rfl (Nat.le_of_ble_eq_true rfl) fx_Rq_begin_7 (fun H locs hP hD hS => ?_)
  rw [fd_set_Rq_1] at hP hD
  have hI2 : fd_Inv (fd_sqI (fd_sqI σ 0 p1) 1 p2) := fd_inv_url hu hI1
  refine lv_aload_n hx hb fx_Rq_begin_10 rfl (lv_at hl 0 rfl) ?_
  refine lv_iload_n hx hb fx_Rq_begin_11 rfl (lv_at hl 3 rfl) ?_
  refine va_put (D := D) (ci := 2) (v := .int p3) (ty := .int) (C := fn_R_Rq) (T := fn_T_Rq) (N := 15) hx hb hts fn_j_Rq fn_t_Rq fn_k_Rq fn_n_Rq hown hK hP hD hS 2 rfl rfl 2 (by decide) (hts _ (List.mem_cons_of_mem _ fq_147)) (fun _ h9 => h9) rfl (by decide +kernel) rfl rfl (Nat.le_of_ble_eq_true rfl) fx_Rq_begin_12 (fun H locs hP hD hS => ?_)
  rw [fd_set_Rq_2] at hP hD
  have hI3 : fd_Inv (fd_sqI (fd_sqI (fd_sqI σ 0 p1) 1 p2) 2 p3) := fd_inv_sqI (by decide) hI2
  refine lv_aload_n hx hb fx_Rq_begin_15 rfl (lv_at hl 0 rfl) ?_
  refine lv_iload hx hb fx_Rq_begin_16 (lv_at hl 4 rfl) ?_
  refine va_put (D := D) (ci := 2) (v := .int p4) (ty := .int) (C := fn_R_Rq) (T := fn_T_Rq) (N := 15) hx hb hts fn_j_Rq fn_t_Rq fn_k_Rq fn_n_Rq hown hK hP hD hS 2 rfl rfl 3 (by decide) (hts _ (List.mem_cons_of_mem _ fq_149)) (fun _ h9 => h9) rfl (by decide +kernel) rfl rfl (Nat.le_of_ble_eq_true rfl) fx_Rq_begin_18 (fun H locs hP hD hS => ?_)
  rw [fd_set_Rq_3] at hP hD
  have hI4 : fd_Inv (fd_sqI (fd_sqI (fd_sqI (fd_sqI σ 0 p1) 1 p2) 2 p3) 3 p4) := fd_inv_sqI (by decide) hI3
  refine lv_aload_n hx hb fx_Rq_begin_21 rfl (lv_at hl 0 rfl) ?_
  refine lv_iload hx hb fx_Rq_begin_22 (lv_at hl 5 rfl) ?_
  refine va_put (D := D) (ci := 2) (v := .int p5) (ty := .int) (C := fn_R_Rq) (T := fn_T_Rq) (N := 15) hx hb hts fn_j_Rq fn_t_Rq fn_k_Rq fn_n_Rq hown hK hP hD hS 2 rfl rfl 4 (by decide) (hts _ (List.mem_cons_of_mem _ fq_151)) (fun _ h9 => h9) rfl (by decide +kernel) rfl rfl (Nat.le_of_ble_eq_true rfl) fx_Rq_begin_24 (fun H locs hP hD hS => ?_)
  rw [fd_set_Rq_4] at hP hD
  have hI5 : fd_Inv (fd_sqI (fd_sqI (fd_sqI (fd_sqI (fd_sqI σ 0 p1) 1 p2) 2 p3) 3 p4) 4 p5) := fd_inv_sqI (by decide) hI4
  refine lv_aload_n hx hb fx_Rq_begin_27 rfl (lv_at hl 0 rfl) ?_
  refine lv_iload hx hb fx_Rq_begin_28 (lv_at hl 6 rfl) ?_
  refine va_put (D := D) (ci := 2) (v := .int p6) (ty := .int) (C := fn_R_Rq) (T := fn_T_Rq) (N := 15) hx hb hts fn_j_Rq fn_t_Rq fn_k_Rq fn_n_Rq hown hK hP hD hS 2 rfl rfl 5 (by decide) (hts _ (List.mem_cons_of_mem _ fq_153)) (fun _ h9 => h9) rfl (by decide +kernel) rfl rfl (Nat.le_of_ble_eq_true rfl) fx_Rq_begin_30 (fun H locs hP hD hS => ?_)
  rw [fd_set_Rq_5] at hP hD
  have hI6 : fd_Inv (fd_sqI (fd_sqI (fd_sqI (fd_sqI (fd_sqI (fd_sqI σ 0 p1) 1 p2) 2 p3) 3 p4) 4 p5) 5 p6) := fd_inv_sqI (by decide) hI5
  refine lv_aload_n hx hb fx_Rq_begin_33 rfl (lv_at hl 0 rfl) ?_
  refine lv_iload hx hb fx_Rq_begin_34 (lv_at hl 7 rfl) ?_
  refine va_put (D := D) (ci := 2) (v := .int p7) (ty := .int) (C := fn_R_Rq) (T := fn_T_Rq) (N := 15) hx hb hts fn_j_Rq fn_t_Rq fn_k_Rq fn_n_Rq hown hK hP hD hS 2 rfl rfl 6 (by decide) (hts _ (List.mem_cons_of_mem _ fq_154)) (fun _ h9 => h9) rfl (by decide +kernel) rfl rfl (Nat.le_of_ble_eq_true rfl) fx_Rq_begin_36 (fun H locs hP hD hS => ?_)
  rw [fd_set_Rq_6] at hP hD
  have hI7 : fd_Inv (fd_sqI (fd_sqI (fd_sqI (fd_sqI (fd_sqI (fd_sqI (fd_sqI σ 0 p1) 1 p2) 2 p3) 3 p4) 4 p5) 5 p6) 6 p7) := fd_inv_sqI (by decide) hI6
  refine lv_aload_n hx hb fx_Rq_begin_39 rfl (lv_at hl 0 rfl) ?_
  refine lv_iconst (v := 0) hx hb fx_Rq_begin_40 (by decide) ?_
  refine va_put (D := D) (ci := 2) (v := .int 0) (ty := .int) (C := fn_R_Rq) (T := fn_T_Rq) (N := 15) hx hb hts fn_j_Rq fn_t_Rq fn_k_Rq fn_n_Rq hown hK hP hD hS 2 rfl rfl 7 (by decide) (hts _ (List.mem_cons_of_mem _ fq_155)) (fun _ h9 => h9) rfl (by decide +kernel) rfl rfl (Nat.le_of_ble_eq_true rfl) fx_Rq_begin_41 (fun H locs hP hD hS => ?_)
  rw [fd_set_Rq_7] at hP hD
  have hI8 : fd_Inv (fd_sqI (fd_sqI (fd_sqI (fd_sqI (fd_sqI (fd_sqI (fd_sqI (fd_sqI σ 0 p1) 1 p2) 2 p3) 3 p4) 4 p5) 5 p6) 6 p7) 7 0) := fd_inv_sqI (by decide) hI7
  refine lv_aload_n hx hb fx_Rq_begin_44 rfl (lv_at hl 0 rfl) ?_
  refine lv_iconst (v := 0) hx hb fx_Rq_begin_45 (by decide) ?_
  refine va_put (D := D) (ci := 2) (v := .int (fd_bi false)) (ty := .boolean) (C := fn_R_Rq) (T := fn_T_Rq) (N := 15) hx hb hts fn_j_Rq fn_t_Rq fn_k_Rq fn_n_Rq hown hK hP hD hS 2 rfl rfl 8 (by decide) (hts _ (List.mem_cons_of_mem _ fq_157)) (fun _ h9 => h9) rfl (by decide +kernel) (fd_nar _) (fd_fit _) (Nat.le_of_ble_eq_true rfl) fx_Rq_begin_46 (fun H locs hP hD hS => ?_)
  rw [fd_set_Rq_8] at hP hD
  have hI9 : fd_Inv (fd_sqB (fd_sqI (fd_sqI (fd_sqI (fd_sqI (fd_sqI (fd_sqI (fd_sqI (fd_sqI σ 0 p1) 1 p2) 2 p3) 3 p4) 4 p5) 5 p6) 6 p7) 7 0) 8 false) := fd_inv_sqB hI8
  refine lv_aload_n hx hb fx_Rq_begin_49 rfl (lv_at hl 0 rfl) ?_
  refine lv_iconst (v := 0) hx hb fx_Rq_begin_50 (by decide) ?_
  refine va_put (D := D) (ci := 2) (v := .int (fd_bi false)) (ty := .boolean) (C := fn_R_Rq) (T := fn_T_Rq) (N := 15) hx hb hts fn_j_Rq fn_t_Rq fn_k_Rq fn_n_Rq hown hK hP hD hS 2 rfl rfl 9 (by decide) (hts _ (List.mem_cons_of_mem _ fq_160)) (fun _ h9 => h9) rfl (by decide +kernel) (fd_nar _) (fd_fit _) (Nat.le_of_ble_eq_true rfl) fx_Rq_begin_51 (fun H locs hP hD hS => ?_)
  rw [fd_set_Rq_9] at hP hD
  have hI10 : fd_Inv (fd_sqB (fd_sqB (fd_sqI (fd_sqI (fd_sqI (fd_sqI (fd_sqI (fd_sqI (fd_sqI (fd_sqI σ 0 p1) 1 p2) 2 p3) 3 p4) 4 p5) 5 p6) 6 p7) 7 0) 8 false) 9 false) := fd_inv_sqB hI9
  refine lv_aload_n hx hb fx_Rq_begin_54 rfl (lv_at hl 0 rfl) ?_
  refine lv_iconst (v := 0) hx hb fx_Rq_begin_55 (by decide) ?_
  refine va_put (D := D) (ci := 2) (v := .int 0) (ty := .int) (C := fn_R_Rq) (T := fn_T_Rq) (N := 15) hx hb hts fn_j_Rq fn_t_Rq fn_k_Rq fn_n_Rq hown hK hP hD hS 2 rfl rfl 10 (by decide) (hts _ (List.mem_cons_of_mem _ fq_163)) (fun _ h9 => h9) rfl (by decide +kernel) rfl rfl (Nat.le_of_ble_eq_true rfl) fx_Rq_begin_56 (fun H locs hP hD hS => ?_)
  rw [fd_set_Rq_10] at hP hD
  have hI11 : fd_Inv (fd_sqI (fd_sqB (fd_sqB (fd_sqI (fd_sqI (fd_sqI (fd_sqI (fd_sqI (fd_sqI (fd_sqI (fd_sqI σ 0 p1) 1 p2) 2 p3) 3 p4) 4 p5) 5 p6) 6 p7) 7 0) 8 false) 9 false) 10 0) := fd_inv_sqI (by decide) hI10
  refine lv_aload_n hx hb fx_Rq_begin_59 rfl (lv_at hl 0 rfl) ?_
  refine lv_iconst (v := 0) hx hb fx_Rq_begin_60 (by decide) ?_
  refine lv_iconst (v := 0) hx hb fx_Rq_begin_61 (by decide) ?_
  refine lv_iconst (v := 0) hx hb fx_Rq_begin_62 (by decide) ?_
  refine lv_iconst (v := 0) hx hb fx_Rq_begin_63 (by decide) ?_
  refine fd_callvm (va_runV (As := [.int 0, .int 0, .int 0, .int 0]) (rest := []) ⟨hx, hb, hml, hown, hts⟩ (fc_Rq_show l D cR cP ad H.size (fd_sqI (fd_sqB (fd_sqB (fd_sqI (fd_sqI (fd_sqI (fd_sqI (fd_sqI (fd_sqI (fd_sqI (fd_sqI σ 0 p1) 1 p2) 2 p3) 3 p4) 4 p5) 5 p6) 6 p7) 7 0) 8 false) 9 false) 10 0) 0 0 0 0 hI11 ) ⟨callB_of 4 hts (fb_good fm_Rq_show) rfl rfl rfl (hts _ (List.mem_cons_of_mem _ fq_5)) (hts _ (List.mem_cons_of_mem _ fq_366)) (by decide +kernel) ⟨Nat.le_of_ble_eq_true rfl, Nat.le_of_ble_eq_true rfl⟩, (hts _ (List.mem_cons_of_mem _ fq_368)), (hts _ (List.mem_cons_of_mem _ fp_Rq_show))⟩ (fd_preV hP hK hD hN (va_recv hK hP (ci := 2) (q0 := 2) rfl rfl)) rfl rfl hl.1 rfl (lv_room (Nat.le_of_ble_eq_true rfl)) fx_Rq_begin_64 ⟨Nat.le_of_ble_eq_true rfl, Nat.le_of_ble_eq_true rfl⟩) hD hS hA (fun H locs hP hD hS hI12 => ?_)
  exact fd_vret (u := (fv_Rq_show (fd_sqI (fd_sqB (fd_sqB (fd_sqI (fd_sqI (fd_sqI (fd_sqI (fd_sqI (fd_sqI (fd_sqI (fd_sqI σ 0 p1) 1 p2) 2 p3) 3 p4) 4 p5) 5 p6) 6 p7) 7 0) 8 false) 9 false) 10 0) 0 0 0 0)) hQ hx hb hr ⟨by rw [fv_Rq_begin], hI12⟩ hP hD hS fx_Rq_begin_67 hlocks
def fv_Rq_enterRound_j4 (σ : FDS) (v2 : Bool) (v4 : Bool) : FDS := fd_sqB (fd_sqB (fd_sqI σ 7 ((fd_qI σ 7) + 1)) 8 v2) 9 v4
def fv_Rq_enterRound_j2 (σ : FDS) (v2 : Bool) : FDS := fv_Rq_enterRound_j4 σ v2 (if (fd_qI σ 5) = 2 then true else if (fd_qI σ 5) = 1 then if v2 = true then false else true else false)
def fv_Rq_enterRound (σ : FDS) : FDS := fv_Rq_enterRound_j2 σ (if (fd_qB σ 8) = true then true else if (fv_Dk_originOf (fd_sqI σ 7 ((fd_qI σ 7) + 1)) (fd_qI σ 1)) = (fd_qI σ 0) then false else true)
set_option maxHeartbeats 4000000 in
set_option maxRecDepth 100000 in
theorem fc_Rq_enterRound (l : Launch) (D : va_G) (cR cP : ClassId) (ad : Nat → Nat) (sz : Nat) (σ : FDS)  (hI : fd_Inv σ)  : Met l fy_Rq_enterRound (fw_Rq_enterRound :: fb_tbl) ({ frames := 1, cells := 0, slots := 0, locals := 20 } : Room) (fd_Pc D cR cP ad [.ref (ad 2)] σ sz) ((fun A => va_Qv (fun u : FDS => fv_Rq_enterRound σ = u ∧ fd_Inv u) (fd_B D cR cP ad A) A) (va_A (fd_w cR cP ad σ) sz)) 0 0 (va_A (fd_w cR cP ad σ) sz) := by
  refine fd_ofW (cc := fb_Rq_enterRound) (maxL := 1) (ret := none) (Qf := fun A => va_Qv (fun u : FDS => fv_Rq_enterRound σ = u ∧ fd_Inv u) (fd_B D cR cP ad A) A) (by decide) (Nat.le_of_ble_eq_true rfl) ?_
  intro p e s m args below meth c A Q hQ hx hb hr hts hown hlocks hml hP hK hD hS hA hN ls hl
  have hown : s.vm.findClass fn_R_Rq = some m.cls := hown
  have hl : lv_has ls 1 [(0, .ref (ad 2))] := hl
  suffices hgo : ∀ (H : Heap) (locs : List Loc), va_P D fn_cl (fd_w cR cP ad σ) H → va_D A (fd_w cR cP ad σ) → va_S A s.heap H locs → W p l e ({ frames := 1, cells := 0, slots := 0, locals := 20 } : Room) s m args below meth c H locs 0 0 Q (F0 m 0 ls []) from hgo _ _ hP hD hS
  clear hP hD hS
  intro H locs hP hD hS
  refine lv_aload_n hx hb fx_Rq_enterRound_0 rfl (lv_at hl 0 rfl) ?_
  refine lv_dup hx hb fx_Rq_enterRound_1 rfl ?_
  refine va_get (D := D) (ci := 2) (v := .int (fd_qI σ 7)) (C := fn_R_Rq) (T := fn_T_Rq) (N := 15) hx hb hts fn_j_Rq hown hK hP 2 rfl rfl 7 (by decide) (hts _ (List.mem_cons_of_mem _ fq_155)) (fun _ h9 => h9) rfl fx_Rq_enterRound_2 ?_
  refine lv_iconst (v := 1) hx hb fx_Rq_enterRound_5 (by decide) ?_
  refine lv_iadd hx hb fx_Rq_enterRound_6 ?_
  refine va_put (D := D) (ci := 2) (v := .int ((fd_qI σ 7) + 1)) (ty := .int) (C := fn_R_Rq) (T := fn_T_Rq) (N := 15) hx hb hts fn_j_Rq fn_t_Rq fn_k_Rq fn_n_Rq hown hK hP hD hS 2 rfl rfl 7 (by decide) (hts _ (List.mem_cons_of_mem _ fq_155)) (fun _ h9 => h9) rfl (by decide +kernel) rfl rfl (Nat.le_of_ble_eq_true rfl) fx_Rq_enterRound_7 (fun H locs hP hD hS => ?_)
  rw [fd_set_Rq_7] at hP hD
  have hI1 : fd_Inv (fd_sqI σ 7 ((fd_qI σ 7) + 1)) := fd_inv_sqI (by decide) hI
  refine lv_aload_n hx hb fx_Rq_enterRound_10 rfl (lv_at hl 0 rfl) ?_
  refine lv_aload_n hx hb fx_Rq_enterRound_11 rfl (lv_at hl 0 rfl) ?_
  refine va_get (D := D) (ci := 2) (v := .int (fd_bi (fd_qB σ 8))) (C := fn_R_Rq) (T := fn_T_Rq) (N := 15) hx hb hts fn_j_Rq hown hK hP 2 rfl rfl 8 (by decide) (hts _ (List.mem_cons_of_mem _ fq_157)) (fun _ h9 => h9) rfl fx_Rq_enterRound_12 ?_
  have hJ2 : ∀ (H : Heap) (locs : List Loc), va_P D fn_cl (fd_w cR cP ad (fd_sqI σ 7 ((fd_qI σ 7) + 1))) H → va_D A (fd_w cR cP ad (fd_sqI σ 7 ((fd_qI σ 7) + 1))) → va_S A s.heap H locs → ∀ (v2 : Bool), v2 = (if (fd_qB σ 8) = true then true else if (fv_Dk_originOf (fd_sqI σ 7 ((fd_qI σ 7) + 1)) (fd_qI σ 1)) = (fd_qI σ 0) then false else true) → W p l e ({ frames := 1, cells := 0, slots := 0, locals := 20 } : Room) s m args below meth c H locs 0 0 Q (F0 m 37 ls [.int (fd_bi v2), .ref (ad 2)]) := by
    intro H locs hP hD hS v2 hv2
    refine va_put (D := D) (ci := 2) (v := .int (fd_bi v2)) (ty := .boolean) (C := fn_R_Rq) (T := fn_T_Rq) (N := 15) hx hb hts fn_j_Rq fn_t_Rq fn_k_Rq fn_n_Rq hown hK hP hD hS 2 rfl rfl 8 (by decide) (hts _ (List.mem_cons_of_mem _ fq_157)) (fun _ h9 => h9) rfl (by decide +kernel) (fd_nar _) (fd_fit _) (Nat.le_of_ble_eq_true rfl) fx_Rq_enterRound_37 (fun H locs hP hD hS => ?_)
    rw [fd_set_Rq_8] at hP hD
    have hI3 : fd_Inv (fd_sqB (fd_sqI σ 7 ((fd_qI σ 7) + 1)) 8 v2) := fd_inv_sqB hI1
    refine lv_aload_n hx hb fx_Rq_enterRound_40 rfl (lv_at hl 0 rfl) ?_
    refine lv_aload_n hx hb fx_Rq_enterRound_41 rfl (lv_at hl 0 rfl) ?_
    refine va_get (D := D) (ci := 2) (v := .int (fd_qI σ 5)) (C := fn_R_Rq) (T := fn_T_Rq) (N := 15) hx hb hts fn_j_Rq hown hK hP 2 rfl rfl 5 (by decide) (hts _ (List.mem_cons_of_mem _ fq_153)) (fun _ h9 => h9) rfl fx_Rq_enterRound_42 ?_
    refine lv_iconst (v := 2) hx hb fx_Rq_enterRound_45 (by decide) ?_
    have hJ4 : ∀ (H : Heap) (locs : List Loc), va_P D fn_cl (fd_w cR cP ad (fd_sqB (fd_sqI σ 7 ((fd_qI σ 7) + 1)) 8 v2)) H → va_D A (fd_w cR cP ad (fd_sqB (fd_sqI σ 7 ((fd_qI σ 7) + 1)) 8 v2)) → va_S A s.heap H locs → ∀ (v4 : Bool), v4 = (if (fd_qI σ 5) = 2 then true else if (fd_qI σ 5) = 1 then if v2 = true then false else true else false) → W p l e ({ frames := 1, cells := 0, slots := 0, locals := 20 } : Room) s m args below meth c H locs 0 0 Q (F0 m 69 ls [.int (fd_bi v4), .ref (ad 2)]) := by
      intro H locs hP hD hS v4 hv4
      refine va_put (D := D) (ci := 2) (v := .int (fd_bi v4)) (ty := .boolean) (C := fn_R_Rq) (T := fn_T_Rq) (N := 15) hx hb hts fn_j_Rq fn_t_Rq fn_k_Rq fn_n_Rq hown hK hP hD hS 2 rfl rfl 9 (by decide) (hts _ (List.mem_cons_of_mem _ fq_160)) (fun _ h9 => h9) rfl (by decide +kernel) (fd_nar _) (fd_fit _) (Nat.le_of_ble_eq_true rfl) fx_Rq_enterRound_69 (fun H locs hP hD hS => ?_)
      rw [fd_set_Rq_9] at hP hD
      have hI5 : fd_Inv (fd_sqB (fd_sqB (fd_sqI σ 7 ((fd_qI σ 7) + 1)) 8 v2) 9 v4) := fd_inv_sqB hI3
      exact fd_vret (u := fd_sqB (fd_sqB (fd_sqI σ 7 ((fd_qI σ 7) + 1)) 8 v2) 9 v4) hQ hx hb hr ⟨by rw [fv_Rq_enterRound, ← hv2, fv_Rq_enterRound_j2, ← hv4, fv_Rq_enterRound_j4], hI5⟩ hP hD hS fx_Rq_enterRound_72 hlocks
    refine lv_icmp_eq (tgt := 64) hx hb fx_Rq_enterRound_46 (by decide) (fun c6 => ?_) (fun c6 => ?_)
    · refine lv_iconst (v := 1) hx hb fx_Rq_enterRound_64 (by decide) ?_
      refine lv_goto (tgt := 69) hx hb fx_Rq_enterRound_65 (by decide) ?_
      exact hJ4 H locs hP hD hS true (by rw [if_pos c6])
    · refine lv_aload_n hx hb fx_Rq_enterRound_49 rfl (lv_at hl 0 rfl) ?_
      refine va_get (D := D) (ci := 2) (v := .int (fd_qI σ 5)) (C := fn_R_Rq) (T := fn_T_Rq) (N := 15) hx hb hts fn_j_Rq hown hK hP 2 rfl rfl 5 (by decide) (hts _ (List.mem_cons_of_mem _ fq_153)) (fun _ h9 => h9) rfl fx_Rq_enterRound_50 ?_
      refine lv_iconst (v := 1) hx hb fx_Rq_enterRound_53 (by decide) ?_
      refine lv_icmp_ne (tgt := 68) hx hb fx_Rq_enterRound_54 (by decide) (fun c7 => ?_) (fun c7 => ?_)
      · refine lv_iconst (v := 0) hx hb fx_Rq_enterRound_68 (by decide) ?_
        exact hJ4 H locs hP hD hS false (by rw [if_neg c6, if_neg c7])
      · refine lv_aload_n hx hb fx_Rq_enterRound_57 rfl (lv_at hl 0 rfl) ?_
        refine va_get (D := D) (ci := 2) (v := .int (fd_bi v2)) (C := fn_R_Rq) (T := fn_T_Rq) (N := 15) hx hb hts fn_j_Rq hown hK hP 2 rfl rfl 8 (by decide) (hts _ (List.mem_cons_of_mem _ fq_157)) (fun _ h9 => h9) rfl fx_Rq_enterRound_58 ?_
        refine fd_ifne (tgt := 68) hx hb fx_Rq_enterRound_61 (by decide) (fun c8 => ?_) (fun c8 => ?_)
        · refine lv_iconst (v := 0) hx hb fx_Rq_enterRound_68 (by decide) ?_
          exact hJ4 H locs hP hD hS false (by rw [if_neg c6, if_pos c7, if_pos c8])
        · refine lv_iconst (v := 1) hx hb fx_Rq_enterRound_64 (by decide) ?_
          refine lv_goto (tgt := 69) hx hb fx_Rq_enterRound_65 (by decide) ?_
          exact hJ4 H locs hP hD hS true (by rw [if_neg c6, if_pos c7, if_neg c8])
  refine fd_ifne (tgt := 32) hx hb fx_Rq_enterRound_15 (by decide) (fun c9 => ?_) (fun c9 => ?_)
  · refine lv_iconst (v := 1) hx hb fx_Rq_enterRound_32 (by decide) ?_
    refine lv_goto (tgt := 37) hx hb fx_Rq_enterRound_33 (by decide) ?_
    exact hJ2 H locs hP hD hS true (by rw [if_pos c9])
  · refine lv_aload_n hx hb fx_Rq_enterRound_18 rfl (lv_at hl 0 rfl) ?_
    refine va_get (D := D) (ci := 2) (v := .int (fd_qI σ 1)) (C := fn_R_Rq) (T := fn_T_Rq) (N := 15) hx hb hts fn_j_Rq hown hK hP 2 rfl rfl 1 (by decide) (hts _ (List.mem_cons_of_mem _ fq_143)) (fun _ h9 => h9) rfl fx_Rq_enterRound_19 ?_
    refine fd_calli (va_runSN (As := [.int (fd_qI σ 1)]) (rest := [.ref (ad 2)]) ⟨hx, hb, hml, hown, hts⟩ (fc_Dk_originOf l D cR cP ad H.size (fd_sqI σ 7 ((fd_qI σ 7) + 1)) (fd_qI σ 1) hI1 ) ⟨va_cnB 1 hts (fb_good fm_Dk_originOf) rfl rfl rfl (hN _ fq_382) (hts _ (List.mem_cons_of_mem _ fq_1)) (by decide +kernel) ⟨Nat.le_of_ble_eq_true rfl, Nat.le_of_ble_eq_true rfl⟩, (hts _ (List.mem_cons_of_mem _ fq_383)), trivial⟩ (fd_preS hP hK hD hN) rfl rfl hl.1 rfl (lv_room (Nat.le_of_ble_eq_true rfl)) fx_Rq_enterRound_22 ⟨Nat.le_of_ble_eq_true rfl, Nat.le_of_ble_eq_true rfl⟩) hD hS hA (fun H locs hP hD hS => ?_)
    refine lv_aload_n hx hb fx_Rq_enterRound_25 rfl (lv_at hl 0 rfl) ?_
    refine va_get (D := D) (ci := 2) (v := .int (fd_qI σ 0)) (C := fn_R_Rq) (T := fn_T_Rq) (N := 15) hx hb hts fn_j_Rq hown hK hP 2 rfl rfl 0 (by decide) (hts _ (List.mem_cons_of_mem _ fq_139)) (fun _ h9 => h9) rfl fx_Rq_enterRound_26 ?_
    refine lv_icmp_eq (tgt := 36) hx hb fx_Rq_enterRound_29 (by decide) (fun c11 => ?_) (fun c11 => ?_)
    · refine lv_iconst (v := 0) hx hb fx_Rq_enterRound_36 (by decide) ?_
      exact hJ2 H locs hP hD hS false (by rw [if_neg c9, if_pos c11])
    · refine lv_iconst (v := 1) hx hb fx_Rq_enterRound_32 (by decide) ?_
      refine lv_goto (tgt := 37) hx hb fx_Rq_enterRound_33 (by decide) ?_
      exact hJ2 H locs hP hD hS true (by rw [if_neg c9, if_neg c11])
def fv_Rq_follow (σ : FDS) (j1 : Nat) : FDS := if (fv_Dk_originOf σ (fd_rI σ j1 2)) = (fv_Dk_originOf σ (fd_qI σ 1)) then if (fv_Rs_turnsIntoGet σ j1 (fd_qI σ 2)) = true then fd_sqI (fd_sqI (fd_sqI σ 2 0) 3 0) 1 (fd_rI σ j1 2) else fd_sqI σ 1 (fd_rI σ j1 2) else if (fv_Dk_originOf σ (fd_qI σ 1)) = (fd_qI σ 0) then if (fv_Rs_turnsIntoGet σ j1 (fd_qI σ 2)) = true then fd_sqI (fd_sqI (fd_sqI σ 2 0) 3 0) 1 (fd_rI σ j1 2) else fd_sqI σ 1 (fd_rI σ j1 2) else if (fv_Rs_turnsIntoGet (fd_sqI σ 0 6) j1 (fd_qI σ 2)) = true then fd_sqI (fd_sqI (fd_sqI (fd_sqI σ 0 6) 2 0) 3 0) 1 (fd_rI σ j1 2) else fd_sqI (fd_sqI σ 0 6) 1 (fd_rI σ j1 2)
set_option maxHeartbeats 4000000 in
set_option maxRecDepth 100000 in
theorem fc_Rq_follow (l : Launch) (D : va_G) (cR cP : ClassId) (ad : Nat → Nat) (sz : Nat) (σ : FDS) (j1 : Nat) (hj1 : j1 < 48) (hI : fd_Inv σ) (ht : ¬ fd_rI σ j1 2 = -1) : Met l fy_Rq_follow (fw_Rq_follow :: fb_tbl) ({ frames := 1, cells := 0, slots := 0, locals := 21 } : Room) (fd_Pc D cR cP ad [.ref (ad 2), .ref (ad (3 + j1))] σ sz) ((fun A => va_Qv (fun u : FDS => fv_Rq_follow σ j1 = u ∧ fd_Inv u) (fd_B D cR cP ad A) A) (va_A (fd_w cR cP ad σ) sz)) 0 0 (va_A (fd_w cR cP ad σ) sz) := by
  refine fd_ofW (cc := fb_Rq_follow) (maxL := 3) (ret := none) (Qf := fun A => va_Qv (fun u : FDS => fv_Rq_follow σ j1 = u ∧ fd_Inv u) (fd_B D cR cP ad A) A) (by decide) (Nat.le_of_ble_eq_true rfl) ?_
  intro p e s m args below meth c A Q hQ hx hb hr hts hown hlocks hml hP hK hD hS hA hN ls hl
  have hown : s.vm.findClass fn_R_Rq = some m.cls := hown
  have hl : lv_has ls 3 [(0, .ref (ad 2)), (1, .ref (ad (3 + j1)))] := hl
  suffices hgo : ∀ (H : Heap) (locs : List Loc), va_P D fn_cl (fd_w cR cP ad σ) H → va_D A (fd_w cR cP ad σ) → va_S A s.heap H locs → W p l e ({ frames := 1, cells := 0, slots := 0, locals := 21 } : Room) s m args below meth c H locs 0 0 Q (F0 m 0 ls []) from hgo _ _ hP hD hS
  clear hP hD hS
  intro H locs hP hD hS
  refine lv_aload_n hx hb fx_Rq_follow_0 rfl (lv_at hl 0 rfl) ?_
  refine va_get (D := D) (ci := 2) (v := .int (fd_qI σ 1)) (C := fn_R_Rq) (T := fn_T_Rq) (N := 15) hx hb hts fn_j_Rq hown hK hP 2 rfl rfl 1 (by decide) (hts _ (List.mem_cons_of_mem _ fq_143)) (fun _ h9 => h9) rfl fx_Rq_follow_1 ?_
  refine fd_calli (va_runSN (As := [.int (fd_qI σ 1)]) (rest := []) ⟨hx, hb, hml, hown, hts⟩ (fc_Dk_originOf l D cR cP ad H.size σ (fd_qI σ 1) hI ) ⟨va_cnB 1 hts (fb_good fm_Dk_originOf) rfl rfl rfl (hN _ fq_382) (hts _ (List.mem_cons_of_mem _ fq_1)) (by decide +kernel) ⟨Nat.le_of_ble_eq_true rfl, Nat.le_of_ble_eq_true rfl⟩, (hts _ (List.mem_cons_of_mem _ fq_383)), trivial⟩ (fd_preS hP hK hD hN) rfl rfl hl.1 rfl (lv_room (Nat.le_of_ble_eq_true rfl)) fx_Rq_follow_4 ⟨Nat.le_of_ble_eq_true rfl, Nat.le_of_ble_eq_true rfl⟩) hD hS hA (fun H locs hP hD hS => ?_)
  refine lv_istore_n (lv' := [(2, .int (fv_Dk_originOf σ (fd_qI σ 1))), (0, .ref (ad 2)), (1, .ref (ad (3 + j1)))]) hx hb fx_Rq_follow_7 rfl hl (by decide) rfl (fun ls hl => ?_)
  refine lv_aload_n hx hb fx_Rq_follow_8 rfl (lv_at hl 2 rfl) ?_
  refine va_getN (D := D) (ci := 3) (v := .int (fd_rI σ j1 2)) (C := fn_R_Rs) (T := fn_T_Rs) (N := 13) hx hb hts fn_j_Rs hown hK hP (5 + j1) (fd_w_res hj1) rfl 2 (by decide) (va_Nw.use rfl (hN _ fq_35)) (fun _ h9 => h9) rfl fx_Rq_follow_9 ?_
  refine fd_calli (va_runSN (As := [.int (fd_rI σ j1 2)]) (rest := []) ⟨hx, hb, hml, hown, hts⟩ (fc_Dk_originOf l D cR cP ad H.size σ (fd_rI σ j1 2) hI ) ⟨va_cnB 1 hts (fb_good fm_Dk_originOf) rfl rfl rfl (hN _ fq_382) (hts _ (List.mem_cons_of_mem _ fq_1)) (by decide +kernel) ⟨Nat.le_of_ble_eq_true rfl, Nat.le_of_ble_eq_true rfl⟩, (hts _ (List.mem_cons_of_mem _ fq_383)), trivial⟩ (fd_preS hP hK hD hN) rfl rfl hl.1 rfl (lv_room (Nat.le_of_ble_eq_true rfl)) fx_Rq_follow_12 ⟨Nat.le_of_ble_eq_true rfl, Nat.le_of_ble_eq_true rfl⟩) hD hS hA (fun H locs hP hD hS => ?_)
  refine lv_iload_n hx hb fx_Rq_follow_15 rfl (lv_at hl 0 rfl) ?_
  refine lv_icmp_eq (tgt := 33) hx hb fx_Rq_follow_16 (by decide) (fun c3 => ?_) (fun c3 => ?_)
  · refine lv_aload_n hx hb fx_Rq_follow_33 rfl (lv_at hl 2 rfl) ?_
    refine lv_aload_n hx hb fx_Rq_follow_34 rfl (lv_at hl 1 rfl) ?_
    refine va_get (D := D) (ci := 2) (v := .int (fd_qI σ 2)) (C := fn_R_Rq) (T := fn_T_Rq) (N := 15) hx hb hts fn_j_Rq hown hK hP 2 rfl rfl 2 (by decide) (hts _ (List.mem_cons_of_mem _ fq_147)) (fun _ h9 => h9) rfl fx_Rq_follow_35 ?_
    refine fd_callz (va_runVN (As := [.int (fd_qI σ 2)]) (rest := []) ⟨hx, hb, hml, hown, hts⟩ (fc_Rs_turnsIntoGet l D cR cP ad H.size σ j1 hj1 (fd_qI σ 2) hI ) ⟨va_cnB 1 hts (fb_good fm_Rs_turnsIntoGet) rfl rfl rfl (hN _ fq_450) (hts _ (List.mem_cons_of_mem _ fq_2)) (by decide +kernel) ⟨Nat.le_of_ble_eq_true rfl, Nat.le_of_ble_eq_true rfl⟩, (hts _ (List.mem_cons_of_mem _ fq_452)), (hts _ (List.mem_cons_of_mem _ fp_Rs_turnsIntoGet))⟩ (fd_preV hP hK hD hN (va_recv hK hP (ci := 3) (q0 := (5 + j1)) rfl (fd_w_res hj1))) rfl rfl hl.1 rfl (lv_room (Nat.le_of_ble_eq_true rfl)) fx_Rq_follow_38 ⟨Nat.le_of_ble_eq_true rfl, Nat.le_of_ble_eq_true rfl⟩) hD hS hA (fun H locs hP hD hS => ?_)
    refine fd_ifeq (tgt := 54) hx hb fx_Rq_follow_41 (by decide) (fun c5 => ?_) (fun c5 => ?_)
    · refine lv_aload_n hx hb fx_Rq_follow_54 rfl (lv_at hl 1 rfl) ?_
      refine lv_aload_n hx hb fx_Rq_follow_55 rfl (lv_at hl 2 rfl) ?_
      refine va_getN (D := D) (ci := 3) (v := .int (fd_rI σ j1 2)) (C := fn_R_Rs) (T := fn_T_Rs) (N := 13) hx hb hts fn_j_Rs hown hK hP (5 + j1) (fd_w_res hj1) rfl 2 (by decide) (va_Nw.use rfl (hN _ fq_35)) (fun _ h9 => h9) rfl fx_Rq_follow_56 ?_
      refine va_put (D := D) (ci := 2) (v := .int (fd_rI σ j1 2)) (ty := .int) (C := fn_R_Rq) (T := fn_T_Rq) (N := 15) hx hb hts fn_j_Rq fn_t_Rq fn_k_Rq fn_n_Rq hown hK hP hD hS 2 rfl rfl 1 (by decide) (hts _ (List.mem_cons_of_mem _ fq_143)) (fun _ h9 => h9) rfl (by decide +kernel) rfl rfl (Nat.le_of_ble_eq_true rfl) fx_Rq_follow_59 (fun H locs hP hD hS => ?_)
      rw [fd_set_Rq_1] at hP hD
      have hI6 : fd_Inv (fd_sqI σ 1 (fd_rI σ j1 2)) := fd_inv_url (fd_tgt hI hj1 ht) hI
      exact fd_vret (u := fd_sqI σ 1 (fd_rI σ j1 2)) hQ hx hb hr ⟨by rw [fv_Rq_follow, if_pos c3, if_neg c5], hI6⟩ hP hD hS fx_Rq_follow_62 hlocks
    · refine lv_aload_n hx hb fx_Rq_follow_44 rfl (lv_at hl 1 rfl) ?_
      refine lv_iconst (v := 0) hx hb fx_Rq_follow_45 (by decide) ?_
      refine va_put (D := D) (ci := 2) (v := .int 0) (ty := .int) (C := fn_R_Rq) (T := fn_T_Rq) (N := 15) hx hb hts fn_j_Rq fn_t_Rq fn_k_Rq fn_n_Rq hown hK hP hD hS 2 rfl rfl 2 (by decide) (hts _ (List.mem_cons_of_mem _ fq_147)) (fun _ h9 => h9) rfl (by decide +kernel) rfl rfl (Nat.le_of_ble_eq_true rfl) fx_Rq_follow_46 (fun H locs hP hD hS => ?_)
      rw [fd_set_Rq_2] at hP hD
      have hI7 : fd_Inv (fd_sqI σ 2 0) := fd_inv_sqI (by decide) hI
      refine lv_aload_n hx hb fx_Rq_follow_49 rfl (lv_at hl 1 rfl) ?_
      refine lv_iconst (v := 0) hx hb fx_Rq_follow_50 (by decide) ?_
      refine va_put (D := D) (ci := 2) (v := .int 0) (ty := .int) (C := fn_R_Rq) (T := fn_T_Rq) (N := 15) hx hb hts fn_j_Rq fn_t_Rq fn_k_Rq fn_n_Rq hown hK hP hD hS 2 rfl rfl 3 (by decide) (hts _ (List.mem_cons_of_mem _ fq_149)) (fun _ h9 => h9) rfl (by decide +kernel) rfl rfl (Nat.le_of_ble_eq_true rfl) fx_Rq_follow_51 (fun H locs hP hD hS => ?_)
      rw [fd_set_Rq_3] at hP hD
      have hI8 : fd_Inv (fd_sqI (fd_sqI σ 2 0) 3 0) := fd_inv_sqI (by decide) hI7
      refine lv_aload_n hx hb fx_Rq_follow_54 rfl (lv_at hl 1 rfl) ?_
      refine lv_aload_n hx hb fx_Rq_follow_55 rfl (lv_at hl 2 rfl) ?_
      refine va_getN (D := D) (ci := 3) (v := .int (fd_rI σ j1 2)) (C := fn_R_Rs) (T := fn_T_Rs) (N := 13) hx hb hts fn_j_Rs hown hK hP (5 + j1) (fd_w_res hj1) rfl 2 (by decide) (va_Nw.use rfl (hN _ fq_35)) (fun _ h9 => h9) rfl fx_Rq_follow_56 ?_
      refine va_put (D := D) (ci := 2) (v := .int (fd_rI σ j1 2)) (ty := .int) (C := fn_R_Rq) (T := fn_T_Rq) (N := 15) hx hb hts fn_j_Rq fn_t_Rq fn_k_Rq fn_n_Rq hown hK hP hD hS 2 rfl rfl 1 (by decide) (hts _ (List.mem_cons_of_mem _ fq_143)) (fun _ h9 => h9) rfl (by decide +kernel) rfl rfl (Nat.le_of_ble_eq_true rfl) fx_Rq_follow_59 (fun H locs hP hD hS => ?_)
      rw [fd_set_Rq_1] at hP hD
      have hI9 : fd_Inv (fd_sqI (fd_sqI (fd_sqI σ 2 0) 3 0) 1 (fd_rI σ j1 2)) := fd_inv_url (fd_tgt hI8 hj1 ht) hI8
      exact fd_vret (u := fd_sqI (fd_sqI (fd_sqI σ 2 0) 3 0) 1 (fd_rI σ j1 2)) hQ hx hb hr ⟨by rw [fv_Rq_follow, if_pos c3, if_pos c5], hI9⟩ hP hD hS fx_Rq_follow_62 hlocks
  · refine lv_iload_n hx hb fx_Rq_follow_19 rfl (lv_at hl 0 rfl) ?_
    refine lv_aload_n hx hb fx_Rq_follow_20 rfl (lv_at hl 1 rfl) ?_
    refine va_get (D := D) (ci := 2) (v := .int (fd_qI σ 0)) (C := fn_R_Rq) (T := fn_T_Rq) (N := 15) hx hb hts fn_j_Rq hown hK hP 2 rfl rfl 0 (by decide) (hts _ (List.mem_cons_of_mem _ fq_139)) (fun _ h9 => h9) rfl fx_Rq_follow_21 ?_
    refine lv_icmp_eq (tgt := 33) hx hb fx_Rq_follow_24 (by decide) (fun c10 => ?_) (fun c10 => ?_)
    · refine lv_aload_n hx hb fx_Rq_follow_33 rfl (lv_at hl 2 rfl) ?_
      refine lv_aload_n hx hb fx_Rq_follow_34 rfl (lv_at hl 1 rfl) ?_
      refine va_get (D := D) (ci := 2) (v := .int (fd_qI σ 2)) (C := fn_R_Rq) (T := fn_T_Rq) (N := 15) hx hb hts fn_j_Rq hown hK hP 2 rfl rfl 2 (by decide) (hts _ (List.mem_cons_of_mem _ fq_147)) (fun _ h9 => h9) rfl fx_Rq_follow_35 ?_
      refine fd_callz (va_runVN (As := [.int (fd_qI σ 2)]) (rest := []) ⟨hx, hb, hml, hown, hts⟩ (fc_Rs_turnsIntoGet l D cR cP ad H.size σ j1 hj1 (fd_qI σ 2) hI ) ⟨va_cnB 1 hts (fb_good fm_Rs_turnsIntoGet) rfl rfl rfl (hN _ fq_450) (hts _ (List.mem_cons_of_mem _ fq_2)) (by decide +kernel) ⟨Nat.le_of_ble_eq_true rfl, Nat.le_of_ble_eq_true rfl⟩, (hts _ (List.mem_cons_of_mem _ fq_452)), (hts _ (List.mem_cons_of_mem _ fp_Rs_turnsIntoGet))⟩ (fd_preV hP hK hD hN (va_recv hK hP (ci := 3) (q0 := (5 + j1)) rfl (fd_w_res hj1))) rfl rfl hl.1 rfl (lv_room (Nat.le_of_ble_eq_true rfl)) fx_Rq_follow_38 ⟨Nat.le_of_ble_eq_true rfl, Nat.le_of_ble_eq_true rfl⟩) hD hS hA (fun H locs hP hD hS => ?_)
      refine fd_ifeq (tgt := 54) hx hb fx_Rq_follow_41 (by decide) (fun c12 => ?_) (fun c12 => ?_)
      · refine lv_aload_n hx hb fx_Rq_follow_54 rfl (lv_at hl 1 rfl) ?_
        refine lv_aload_n hx hb fx_Rq_follow_55 rfl (lv_at hl 2 rfl) ?_
        refine va_getN (D := D) (ci := 3) (v := .int (fd_rI σ j1 2)) (C := fn_R_Rs) (T := fn_T_Rs) (N := 13) hx hb hts fn_j_Rs hown hK hP (5 + j1) (fd_w_res hj1) rfl 2 (by decide) (va_Nw.use rfl (hN _ fq_35)) (fun _ h9 => h9) rfl fx_Rq_follow_56 ?_
        refine va_put (D := D) (ci := 2) (v := .int (fd_rI σ j1 2)) (ty := .int) (C := fn_R_Rq) (T := fn_T_Rq) (N := 15) hx hb hts fn_j_Rq fn_t_Rq fn_k_Rq fn_n_Rq hown hK hP hD hS 2 rfl rfl 1 (by decide) (hts _ (List.mem_cons_of_mem _ fq_143)) (fun _ h9 => h9) rfl (by decide +kernel) rfl rfl (Nat.le_of_ble_eq_true rfl) fx_Rq_follow_59 (fun H locs hP hD hS => ?_)
        rw [fd_set_Rq_1] at hP hD
        have hI13 : fd_Inv (fd_sqI σ 1 (fd_rI σ j1 2)) := fd_inv_url (fd_tgt hI hj1 ht) hI
        exact fd_vret (u := fd_sqI σ 1 (fd_rI σ j1 2)) hQ hx hb hr ⟨by rw [fv_Rq_follow, if_neg c3, if_pos c10, if_neg c12], hI13⟩ hP hD hS fx_Rq_follow_62 hlocks
      · refine lv_aload_n hx hb fx_Rq_follow_44 rfl (lv_at hl 1 rfl) ?_
        refine lv_iconst (v := 0) hx hb fx_Rq_follow_45 (by decide) ?_
        refine va_put (D := D) (ci := 2) (v := .int 0) (ty := .int) (C := fn_R_Rq) (T := fn_T_Rq) (N := 15) hx hb hts fn_j_Rq fn_t_Rq fn_k_Rq fn_n_Rq hown hK hP hD hS 2 rfl rfl 2 (by decide) (hts _ (List.mem_cons_of_mem _ fq_147)) (fun _ h9 => h9) rfl (by decide +kernel) rfl rfl (Nat.le_of_ble_eq_true rfl) fx_Rq_follow_46 (fun H locs hP hD hS => ?_)
        rw [fd_set_Rq_2] at hP hD
        have hI14 : fd_Inv (fd_sqI σ 2 0) := fd_inv_sqI (by decide) hI
        refine lv_aload_n hx hb fx_Rq_follow_49 rfl (lv_at hl 1 rfl) ?_
        refine lv_iconst (v := 0) hx hb fx_Rq_follow_50 (by decide) ?_
        refine va_put (D := D) (ci := 2) (v := .int 0) (ty := .int) (C := fn_R_Rq) (T := fn_T_Rq) (N := 15) hx hb hts fn_j_Rq fn_t_Rq fn_k_Rq fn_n_Rq hown hK hP hD hS 2 rfl rfl 3 (by decide) (hts _ (List.mem_cons_of_mem _ fq_149)) (fun _ h9 => h9) rfl (by decide +kernel) rfl rfl (Nat.le_of_ble_eq_true rfl) fx_Rq_follow_51 (fun H locs hP hD hS => ?_)
        rw [fd_set_Rq_3] at hP hD
        have hI15 : fd_Inv (fd_sqI (fd_sqI σ 2 0) 3 0) := fd_inv_sqI (by decide) hI14
        refine lv_aload_n hx hb fx_Rq_follow_54 rfl (lv_at hl 1 rfl) ?_
        refine lv_aload_n hx hb fx_Rq_follow_55 rfl (lv_at hl 2 rfl) ?_
        refine va_getN (D := D) (ci := 3) (v := .int (fd_rI σ j1 2)) (C := fn_R_Rs) (T := fn_T_Rs) (N := 13) hx hb hts fn_j_Rs hown hK hP (5 + j1) (fd_w_res hj1) rfl 2 (by decide) (va_Nw.use rfl (hN _ fq_35)) (fun _ h9 => h9) rfl fx_Rq_follow_56 ?_
        refine va_put (D := D) (ci := 2) (v := .int (fd_rI σ j1 2)) (ty := .int) (C := fn_R_Rq) (T := fn_T_Rq) (N := 15) hx hb hts fn_j_Rq fn_t_Rq fn_k_Rq fn_n_Rq hown hK hP hD hS 2 rfl rfl 1 (by decide) (hts _ (List.mem_cons_of_mem _ fq_143)) (fun _ h9 => h9) rfl (by decide +kernel) rfl rfl (Nat.le_of_ble_eq_true rfl) fx_Rq_follow_59 (fun H locs hP hD hS => ?_)
        rw [fd_set_Rq_1] at hP hD
        have hI16 : fd_Inv (fd_sqI (fd_sqI (fd_sqI σ 2 0) 3 0) 1 (fd_rI σ j1 2)) := fd_inv_url (fd_tgt hI15 hj1 ht) hI15
        exact fd_vret (u := fd_sqI (fd_sqI (fd_sqI σ 2 0) 3 0) 1 (fd_rI σ j1 2)) hQ hx hb hr ⟨by rw [fv_Rq_follow, if_neg c3, if_pos c10, if_pos c12], hI16⟩ hP hD hS fx_Rq_follow_62 hlocks
    · refine lv_aload_n hx hb fx_Rq_follow_27 rfl (lv_at hl 1 rfl) ?_
      refine lv_bipush (v := 6) hx hb fx_Rq_follow_28 (by decide) ?_
      refine va_put (D := D) (ci := 2) (v := .int 6) (ty := .int) (C := fn_R_Rq) (T := fn_T_Rq) (N := 15) hx hb hts fn_j_Rq fn_t_Rq fn_k_Rq fn_n_Rq hown hK hP hD hS 2 rfl rfl 0 (by decide) (hts _ (List.mem_cons_of_mem _ fq_139)) (fun _ h9 => h9) rfl (by decide +kernel) rfl rfl (Nat.le_of_ble_eq_true rfl) fx_Rq_follow_30 (fun H locs hP hD hS => ?_)
      rw [fd_set_Rq_0] at hP hD
      have hI17 : fd_Inv (fd_sqI σ 0 6) := fd_inv_sqI (by decide) hI
      refine lv_aload_n hx hb fx_Rq_follow_33 rfl (lv_at hl 2 rfl) ?_
      refine lv_aload_n hx hb fx_Rq_follow_34 rfl (lv_at hl 1 rfl) ?_
      refine va_get (D := D) (ci := 2) (v := .int (fd_qI σ 2)) (C := fn_R_Rq) (T := fn_T_Rq) (N := 15) hx hb hts fn_j_Rq hown hK hP 2 rfl rfl 2 (by decide) (hts _ (List.mem_cons_of_mem _ fq_147)) (fun _ h9 => h9) rfl fx_Rq_follow_35 ?_
      refine fd_callz (va_runVN (As := [.int (fd_qI σ 2)]) (rest := []) ⟨hx, hb, hml, hown, hts⟩ (fc_Rs_turnsIntoGet l D cR cP ad H.size (fd_sqI σ 0 6) j1 hj1 (fd_qI σ 2) hI17 ) ⟨va_cnB 1 hts (fb_good fm_Rs_turnsIntoGet) rfl rfl rfl (hN _ fq_450) (hts _ (List.mem_cons_of_mem _ fq_2)) (by decide +kernel) ⟨Nat.le_of_ble_eq_true rfl, Nat.le_of_ble_eq_true rfl⟩, (hts _ (List.mem_cons_of_mem _ fq_452)), (hts _ (List.mem_cons_of_mem _ fp_Rs_turnsIntoGet))⟩ (fd_preV hP hK hD hN (va_recv hK hP (ci := 3) (q0 := (5 + j1)) rfl (fd_w_res hj1))) rfl rfl hl.1 rfl (lv_room (Nat.le_of_ble_eq_true rfl)) fx_Rq_follow_38 ⟨Nat.le_of_ble_eq_true rfl, Nat.le_of_ble_eq_true rfl⟩) hD hS hA (fun H locs hP hD hS => ?_)
      refine fd_ifeq (tgt := 54) hx hb fx_Rq_follow_41 (by decide) (fun c19 => ?_) (fun c19 => ?_)
      · refine lv_aload_n hx hb fx_Rq_follow_54 rfl (lv_at hl 1 rfl) ?_
        refine lv_aload_n hx hb fx_Rq_follow_55 rfl (lv_at hl 2 rfl) ?_
        refine va_getN (D := D) (ci := 3) (v := .int (fd_rI σ j1 2)) (C := fn_R_Rs) (T := fn_T_Rs) (N := 13) hx hb hts fn_j_Rs hown hK hP (5 + j1) (fd_w_res hj1) rfl 2 (by decide) (va_Nw.use rfl (hN _ fq_35)) (fun _ h9 => h9) rfl fx_Rq_follow_56 ?_
        refine va_put (D := D) (ci := 2) (v := .int (fd_rI σ j1 2)) (ty := .int) (C := fn_R_Rq) (T := fn_T_Rq) (N := 15) hx hb hts fn_j_Rq fn_t_Rq fn_k_Rq fn_n_Rq hown hK hP hD hS 2 rfl rfl 1 (by decide) (hts _ (List.mem_cons_of_mem _ fq_143)) (fun _ h9 => h9) rfl (by decide +kernel) rfl rfl (Nat.le_of_ble_eq_true rfl) fx_Rq_follow_59 (fun H locs hP hD hS => ?_)
        rw [fd_set_Rq_1] at hP hD
        have hI20 : fd_Inv (fd_sqI (fd_sqI σ 0 6) 1 (fd_rI σ j1 2)) := fd_inv_url (fd_tgt hI17 hj1 ht) hI17
        exact fd_vret (u := fd_sqI (fd_sqI σ 0 6) 1 (fd_rI σ j1 2)) hQ hx hb hr ⟨by rw [fv_Rq_follow, if_neg c3, if_neg c10, if_neg c19], hI20⟩ hP hD hS fx_Rq_follow_62 hlocks
      · refine lv_aload_n hx hb fx_Rq_follow_44 rfl (lv_at hl 1 rfl) ?_
        refine lv_iconst (v := 0) hx hb fx_Rq_follow_45 (by decide) ?_
        refine va_put (D := D) (ci := 2) (v := .int 0) (ty := .int) (C := fn_R_Rq) (T := fn_T_Rq) (N := 15) hx hb hts fn_j_Rq fn_t_Rq fn_k_Rq fn_n_Rq hown hK hP hD hS 2 rfl rfl 2 (by decide) (hts _ (List.mem_cons_of_mem _ fq_147)) (fun _ h9 => h9) rfl (by decide +kernel) rfl rfl (Nat.le_of_ble_eq_true rfl) fx_Rq_follow_46 (fun H locs hP hD hS => ?_)
        rw [fd_set_Rq_2] at hP hD
        have hI21 : fd_Inv (fd_sqI (fd_sqI σ 0 6) 2 0) := fd_inv_sqI (by decide) hI17
        refine lv_aload_n hx hb fx_Rq_follow_49 rfl (lv_at hl 1 rfl) ?_
        refine lv_iconst (v := 0) hx hb fx_Rq_follow_50 (by decide) ?_
        refine va_put (D := D) (ci := 2) (v := .int 0) (ty := .int) (C := fn_R_Rq) (T := fn_T_Rq) (N := 15) hx hb hts fn_j_Rq fn_t_Rq fn_k_Rq fn_n_Rq hown hK hP hD hS 2 rfl rfl 3 (by decide) (hts _ (List.mem_cons_of_mem _ fq_149)) (fun _ h9 => h9) rfl (by decide +kernel) rfl rfl (Nat.le_of_ble_eq_true rfl) fx_Rq_follow_51 (fun H locs hP hD hS => ?_)
        rw [fd_set_Rq_3] at hP hD
        have hI22 : fd_Inv (fd_sqI (fd_sqI (fd_sqI σ 0 6) 2 0) 3 0) := fd_inv_sqI (by decide) hI21
        refine lv_aload_n hx hb fx_Rq_follow_54 rfl (lv_at hl 1 rfl) ?_
        refine lv_aload_n hx hb fx_Rq_follow_55 rfl (lv_at hl 2 rfl) ?_
        refine va_getN (D := D) (ci := 3) (v := .int (fd_rI σ j1 2)) (C := fn_R_Rs) (T := fn_T_Rs) (N := 13) hx hb hts fn_j_Rs hown hK hP (5 + j1) (fd_w_res hj1) rfl 2 (by decide) (va_Nw.use rfl (hN _ fq_35)) (fun _ h9 => h9) rfl fx_Rq_follow_56 ?_
        refine va_put (D := D) (ci := 2) (v := .int (fd_rI σ j1 2)) (ty := .int) (C := fn_R_Rq) (T := fn_T_Rq) (N := 15) hx hb hts fn_j_Rq fn_t_Rq fn_k_Rq fn_n_Rq hown hK hP hD hS 2 rfl rfl 1 (by decide) (hts _ (List.mem_cons_of_mem _ fq_143)) (fun _ h9 => h9) rfl (by decide +kernel) rfl rfl (Nat.le_of_ble_eq_true rfl) fx_Rq_follow_59 (fun H locs hP hD hS => ?_)
        rw [fd_set_Rq_1] at hP hD
        have hI23 : fd_Inv (fd_sqI (fd_sqI (fd_sqI (fd_sqI σ 0 6) 2 0) 3 0) 1 (fd_rI σ j1 2)) := fd_inv_url (fd_tgt hI22 hj1 ht) hI22
        exact fd_vret (u := fd_sqI (fd_sqI (fd_sqI (fd_sqI σ 0 6) 2 0) 3 0) 1 (fd_rI σ j1 2)) hQ hx hb hr ⟨by rw [fv_Rq_follow, if_neg c3, if_neg c10, if_pos c19], hI23⟩ hP hD hS fx_Rq_follow_62 hlocks
def fv_Rq_meetRedirect (σ : FDS) (j1 : Nat) (p2 : Int32) : Bool × FDS := if (fd_qI σ 6) = 1 then (false, fd_sqI σ 10 4) else if (fd_qI σ 6) = 2 then (false, (fv_Rq_show σ 0 0 0 3)) else if p2 < 4 then (true, (fv_Rq_follow σ j1)) else (false, fd_sqI σ 10 5)
set_option maxHeartbeats 4000000 in
set_option maxRecDepth 100000 in
theorem fc_Rq_meetRedirect (l : Launch) (D : va_G) (cR cP : ClassId) (ad : Nat → Nat) (sz : Nat) (σ : FDS) (j1 : Nat) (hj1 : j1 < 48) (p2 : Int32) (hI : fd_Inv σ) (ht : ¬ fd_rI σ j1 2 = -1) : Met l fy_Rq_meetRedirect (fw_Rq_meetRedirect :: fb_tbl) ({ frames := 2, cells := 0, slots := 0, locals := 43 } : Room) (fd_Pc D cR cP ad [.ref (ad 2), .ref (ad (3 + j1)), .int p2] σ sz) ((fun A => va_Qi (fun (r : Int32) (u : FDS) => (fd_bi (fv_Rq_meetRedirect σ j1 p2).1, (fv_Rq_meetRedirect σ j1 p2).2) = (r, u) ∧ fd_Inv u) (fd_B D cR cP ad A) A) (va_A (fd_w cR cP ad σ) sz)) 0 0 (va_A (fd_w cR cP ad σ) sz) := by
  refine fd_ofW (cc := fb_Rq_meetRedirect) (maxL := 3) (ret := (some .boolean)) (Qf := fun A => va_Qi (fun (r : Int32) (u : FDS) => (fd_bi (fv_Rq_meetRedirect σ j1 p2).1, (fv_Rq_meetRedirect σ j1 p2).2) = (r, u) ∧ fd_Inv u) (fd_B D cR cP ad A) A) (by decide) (Nat.le_of_ble_eq_true rfl) ?_
  intro p e s m args below meth c A Q hQ hx hb hr hts hown hlocks hml hP hK hD hS hA hN ls hl
  have hown : s.vm.findClass fn_R_Rq = some m.cls := hown
  have hl : lv_has ls 3 [(0, .ref (ad 2)), (1, .ref (ad (3 + j1))), (2, .int p2)] := hl
  suffices hgo : ∀ (H : Heap) (locs : List Loc), va_P D fn_cl (fd_w cR cP ad σ) H → va_D A (fd_w cR cP ad σ) → va_S A s.heap H locs → W p l e ({ frames := 2, cells := 0, slots := 0, locals := 43 } : Room) s m args below meth c H locs 0 0 Q (F0 m 0 ls []) from hgo _ _ hP hD hS
  clear hP hD hS
  intro H locs hP hD hS
  refine lv_aload_n hx hb fx_Rq_meetRedirect_0 rfl (lv_at hl 0 rfl) ?_
  refine va_get (D := D) (ci := 2) (v := .int (fd_qI σ 6)) (C := fn_R_Rq) (T := fn_T_Rq) (N := 15) hx hb hts fn_j_Rq hown hK hP 2 rfl rfl 6 (by decide) (hts _ (List.mem_cons_of_mem _ fq_154)) (fun _ h9 => h9) rfl fx_Rq_meetRedirect_1 ?_
  refine lv_iconst (v := 1) hx hb fx_Rq_meetRedirect_4 (by decide) ?_
  refine lv_icmp_ne (tgt := 15) hx hb fx_Rq_meetRedirect_5 (by decide) (fun c1 => ?_) (fun c1 => ?_)
  · refine lv_aload_n hx hb fx_Rq_meetRedirect_15 rfl (lv_at hl 0 rfl) ?_
    refine va_get (D := D) (ci := 2) (v := .int (fd_qI σ 6)) (C := fn_R_Rq) (T := fn_T_Rq) (N := 15) hx hb hts fn_j_Rq hown hK hP 2 rfl rfl 6 (by decide) (hts _ (List.mem_cons_of_mem _ fq_154)) (fun _ h9 => h9) rfl fx_Rq_meetRedirect_16 ?_
    refine lv_iconst (v := 2) hx hb fx_Rq_meetRedirect_19 (by decide) ?_
    refine lv_icmp_ne (tgt := 33) hx hb fx_Rq_meetRedirect_20 (by decide) (fun c2 => ?_) (fun c2 => ?_)
    · refine lv_iload_n hx hb fx_Rq_meetRedirect_33 rfl (lv_at hl 2 rfl) ?_
      refine lv_iconst (v := 4) hx hb fx_Rq_meetRedirect_34 (by decide) ?_
      refine lv_icmp_lt (tgt := 45) hx hb fx_Rq_meetRedirect_35 (by decide) (fun c3 => ?_) (fun c3 => ?_)
      · refine lv_aload_n hx hb fx_Rq_meetRedirect_45 rfl (lv_at hl 0 rfl) ?_
        refine lv_aload_n hx hb fx_Rq_meetRedirect_46 rfl (lv_at hl 1 rfl) ?_
        refine fd_callvm (va_runV (As := [.ref (ad (3 + j1))]) (rest := []) ⟨hx, hb, hml, hown, hts⟩ (fc_Rq_follow l D cR cP ad H.size σ j1 hj1 hI ht) ⟨callB_of 1 hts (fb_good fm_Rq_follow) rfl rfl rfl (hts _ (List.mem_cons_of_mem _ fq_5)) (hts _ (List.mem_cons_of_mem _ fq_446)) (by decide +kernel) ⟨Nat.le_of_ble_eq_true rfl, Nat.le_of_ble_eq_true rfl⟩, (hts _ (List.mem_cons_of_mem _ fq_448)), (hts _ (List.mem_cons_of_mem _ fp_Rq_follow))⟩ (fd_preV hP hK hD hN (va_recv hK hP (ci := 2) (q0 := 2) rfl rfl)) rfl rfl hl.1 rfl (lv_room (Nat.le_of_ble_eq_true rfl)) fx_Rq_meetRedirect_47 ⟨Nat.le_of_ble_eq_true rfl, Nat.le_of_ble_eq_true rfl⟩) hD hS hA (fun H locs hP hD hS hI4 => ?_)
        refine lv_iconst (v := 1) hx hb fx_Rq_meetRedirect_50 (by decide) ?_
        exact fd_zret (r := true) (u := (fv_Rq_follow σ j1)) hQ hx hb hr ⟨by rw [fv_Rq_meetRedirect, if_neg c1, if_neg c2, if_pos c3], hI4⟩ hP hD hS fx_Rq_meetRedirect_51 hlocks
      · refine lv_aload_n hx hb fx_Rq_meetRedirect_38 rfl (lv_at hl 0 rfl) ?_
        refine lv_iconst (v := 5) hx hb fx_Rq_meetRedirect_39 (by decide) ?_
        refine va_put (D := D) (ci := 2) (v := .int 5) (ty := .int) (C := fn_R_Rq) (T := fn_T_Rq) (N := 15) hx hb hts fn_j_Rq fn_t_Rq fn_k_Rq fn_n_Rq hown hK hP hD hS 2 rfl rfl 10 (by decide) (hts _ (List.mem_cons_of_mem _ fq_163)) (fun _ h9 => h9) rfl (by decide +kernel) rfl rfl (Nat.le_of_ble_eq_true rfl) fx_Rq_meetRedirect_40 (fun H locs hP hD hS => ?_)
        rw [fd_set_Rq_10] at hP hD
        have hI5 : fd_Inv (fd_sqI σ 10 5) := fd_inv_sqI (by decide) hI
        refine lv_iconst (v := 0) hx hb fx_Rq_meetRedirect_43 (by decide) ?_
        exact fd_zret (r := false) (u := fd_sqI σ 10 5) hQ hx hb hr ⟨by rw [fv_Rq_meetRedirect, if_neg c1, if_neg c2, if_neg c3], hI5⟩ hP hD hS fx_Rq_meetRedirect_44 hlocks
    · refine lv_aload_n hx hb fx_Rq_meetRedirect_23 rfl (lv_at hl 0 rfl) ?_
      refine lv_iconst (v := 0) hx hb fx_Rq_meetRedirect_24 (by decide) ?_
      refine lv_iconst (v := 0) hx hb fx_Rq_meetRedirect_25 (by decide) ?_
      refine lv_iconst (v := 0) hx hb fx_Rq_meetRedirect_26 (by decide) ?_
      refine lv_iconst (v := 3) hx hb fx_Rq_meetRedirect_27 (by decide) ?_
      refine fd_callvm (va_runV (As := [.int 0, .int 0, .int 0, .int 3]) (rest := []) ⟨hx, hb, hml, hown, hts⟩ (fc_Rq_show l D cR cP ad H.size σ 0 0 0 3 hI ) ⟨callB_of 4 hts (fb_good fm_Rq_show) rfl rfl rfl (hts _ (List.mem_cons_of_mem _ fq_5)) (hts _ (List.mem_cons_of_mem _ fq_366)) (by decide +kernel) ⟨Nat.le_of_ble_eq_true rfl, Nat.le_of_ble_eq_true rfl⟩, (hts _ (List.mem_cons_of_mem _ fq_368)), (hts _ (List.mem_cons_of_mem _ fp_Rq_show))⟩ (fd_preV hP hK hD hN (va_recv hK hP (ci := 2) (q0 := 2) rfl rfl)) rfl rfl hl.1 rfl (lv_room (Nat.le_of_ble_eq_true rfl)) fx_Rq_meetRedirect_28 ⟨Nat.le_of_ble_eq_true rfl, Nat.le_of_ble_eq_true rfl⟩) hD hS hA (fun H locs hP hD hS hI6 => ?_)
      refine lv_iconst (v := 0) hx hb fx_Rq_meetRedirect_31 (by decide) ?_
      exact fd_zret (r := false) (u := (fv_Rq_show σ 0 0 0 3)) hQ hx hb hr ⟨by rw [fv_Rq_meetRedirect, if_neg c1, if_pos c2], hI6⟩ hP hD hS fx_Rq_meetRedirect_32 hlocks
  · refine lv_aload_n hx hb fx_Rq_meetRedirect_8 rfl (lv_at hl 0 rfl) ?_
    refine lv_iconst (v := 4) hx hb fx_Rq_meetRedirect_9 (by decide) ?_
    refine va_put (D := D) (ci := 2) (v := .int 4) (ty := .int) (C := fn_R_Rq) (T := fn_T_Rq) (N := 15) hx hb hts fn_j_Rq fn_t_Rq fn_k_Rq fn_n_Rq hown hK hP hD hS 2 rfl rfl 10 (by decide) (hts _ (List.mem_cons_of_mem _ fq_163)) (fun _ h9 => h9) rfl (by decide +kernel) rfl rfl (Nat.le_of_ble_eq_true rfl) fx_Rq_meetRedirect_10 (fun H locs hP hD hS => ?_)
    rw [fd_set_Rq_10] at hP hD
    have hI7 : fd_Inv (fd_sqI σ 10 4) := fd_inv_sqI (by decide) hI
    refine lv_iconst (v := 0) hx hb fx_Rq_meetRedirect_13 (by decide) ?_
    exact fd_zret (r := false) (u := fd_sqI σ 10 4) hQ hx hb hr ⟨by rw [fv_Rq_meetRedirect, if_pos c1], hI7⟩ hP hD hS fx_Rq_meetRedirect_14 hlocks
def fv_Rq_takeResponse (σ : FDS) (j1 : Nat) : FDS := if (fd_qB σ 8) = true then if (fd_qI σ 4) = 1 then (fv_Rq_show σ (fd_rI σ j1 0) (fd_rI σ j1 1) ((fd_rI σ j1 3) &&& (fd_rI σ j1 4)) 1) else (fv_Rq_show σ 0 0 0 2) else (fv_Rq_show σ (fd_rI σ j1 0) (fd_rI σ j1 1) (fd_rI σ j1 3) 0)
set_option maxHeartbeats 4000000 in
set_option maxRecDepth 100000 in
theorem fc_Rq_takeResponse (l : Launch) (D : va_G) (cR cP : ClassId) (ad : Nat → Nat) (sz : Nat) (σ : FDS) (j1 : Nat) (hj1 : j1 < 48) (hI : fd_Inv σ)  : Met l fy_Rq_takeResponse (fw_Rq_takeResponse :: fb_tbl) ({ frames := 1, cells := 0, slots := 0, locals := 24 } : Room) (fd_Pc D cR cP ad [.ref (ad 2), .ref (ad (3 + j1))] σ sz) ((fun A => va_Qv (fun u : FDS => fv_Rq_takeResponse σ j1 = u ∧ fd_Inv u) (fd_B D cR cP ad A) A) (va_A (fd_w cR cP ad σ) sz)) 0 0 (va_A (fd_w cR cP ad σ) sz) := by
  refine fd_ofW (cc := fb_Rq_takeResponse) (maxL := 3) (ret := none) (Qf := fun A => va_Qv (fun u : FDS => fv_Rq_takeResponse σ j1 = u ∧ fd_Inv u) (fd_B D cR cP ad A) A) (by decide) (Nat.le_of_ble_eq_true rfl) ?_
  intro p e s m args below meth c A Q hQ hx hb hr hts hown hlocks hml hP hK hD hS hA hN ls hl
  have hown : s.vm.findClass fn_R_Rq = some m.cls := hown
  have hl : lv_has ls 3 [(0, .ref (ad 2)), (1, .ref (ad (3 + j1)))] := hl
  suffices hgo : ∀ (H : Heap) (locs : List Loc), va_P D fn_cl (fd_w cR cP ad σ) H → va_D A (fd_w cR cP ad σ) → va_S A s.heap H locs → W p l e ({ frames := 1, cells := 0, slots := 0, locals := 24 } : Room) s m args below meth c H locs 0 0 Q (F0 m 0 ls []) from hgo _ _ hP hD hS
  clear hP hD hS
  intro H locs hP hD hS
  refine lv_aload_n hx hb fx_Rq_takeResponse_0 rfl (lv_at hl 0 rfl) ?_
  refine va_get (D := D) (ci := 2) (v := .int (fd_bi (fd_qB σ 8))) (C := fn_R_Rq) (T := fn_T_Rq) (N := 15) hx hb hts fn_j_Rq hown hK hP 2 rfl rfl 8 (by decide) (hts _ (List.mem_cons_of_mem _ fq_157)) (fun _ h9 => h9) rfl fx_Rq_takeResponse_1 ?_
  refine fd_ifne (tgt := 27) hx hb fx_Rq_takeResponse_4 (by decide) (fun c1 => ?_) (fun c1 => ?_)
  · refine lv_aload_n hx hb fx_Rq_takeResponse_27 rfl (lv_at hl 0 rfl) ?_
    refine va_get (D := D) (ci := 2) (v := .int (fd_qI σ 4)) (C := fn_R_Rq) (T := fn_T_Rq) (N := 15) hx hb hts fn_j_Rq hown hK hP 2 rfl rfl 4 (by decide) (hts _ (List.mem_cons_of_mem _ fq_151)) (fun _ h9 => h9) rfl fx_Rq_takeResponse_28 ?_
    refine lv_iconst (v := 1) hx hb fx_Rq_takeResponse_31 (by decide) ?_
    refine lv_icmp_ne (tgt := 62) hx hb fx_Rq_takeResponse_32 (by decide) (fun c2 => ?_) (fun c2 => ?_)
    · refine lv_aload_n hx hb fx_Rq_takeResponse_62 rfl (lv_at hl 0 rfl) ?_
      refine lv_iconst (v := 0) hx hb fx_Rq_takeResponse_63 (by decide) ?_
      refine lv_iconst (v := 0) hx hb fx_Rq_takeResponse_64 (by decide) ?_
      refine lv_iconst (v := 0) hx hb fx_Rq_takeResponse_65 (by decide) ?_
      refine lv_iconst (v := 2) hx hb fx_Rq_takeResponse_66 (by decide) ?_
      refine fd_callvm (va_runV (As := [.int 0, .int 0, .int 0, .int 2]) (rest := []) ⟨hx, hb, hml, hown, hts⟩ (fc_Rq_show l D cR cP ad H.size σ 0 0 0 2 hI ) ⟨callB_of 4 hts (fb_good fm_Rq_show) rfl rfl rfl (hts _ (List.mem_cons_of_mem _ fq_5)) (hts _ (List.mem_cons_of_mem _ fq_366)) (by decide +kernel) ⟨Nat.le_of_ble_eq_true rfl, Nat.le_of_ble_eq_true rfl⟩, (hts _ (List.mem_cons_of_mem _ fq_368)), (hts _ (List.mem_cons_of_mem _ fp_Rq_show))⟩ (fd_preV hP hK hD hN (va_recv hK hP (ci := 2) (q0 := 2) rfl rfl)) rfl rfl hl.1 rfl (lv_room (Nat.le_of_ble_eq_true rfl)) fx_Rq_takeResponse_67 ⟨Nat.le_of_ble_eq_true rfl, Nat.le_of_ble_eq_true rfl⟩) hD hS hA (fun H locs hP hD hS hI3 => ?_)
      exact fd_vret (u := (fv_Rq_show σ 0 0 0 2)) hQ hx hb hr ⟨by rw [fv_Rq_takeResponse, if_pos c1, if_neg c2], hI3⟩ hP hD hS fx_Rq_takeResponse_70 hlocks
    · refine lv_aload_n hx hb fx_Rq_takeResponse_35 rfl (lv_at hl 1 rfl) ?_
      refine va_getN (D := D) (ci := 3) (v := .int (fd_rI σ j1 3)) (C := fn_R_Rs) (T := fn_T_Rs) (N := 13) hx hb hts fn_j_Rs hown hK hP (5 + j1) (fd_w_res hj1) rfl 3 (by decide) (va_Nw.use rfl (hN _ fq_37)) (fun _ h9 => h9) rfl fx_Rq_takeResponse_36 ?_
      refine lv_aload_n hx hb fx_Rq_takeResponse_39 rfl (lv_at hl 1 rfl) ?_
      refine va_getN (D := D) (ci := 3) (v := .int (fd_rI σ j1 4)) (C := fn_R_Rs) (T := fn_T_Rs) (N := 13) hx hb hts fn_j_Rs hown hK hP (5 + j1) (fd_w_res hj1) rfl 4 (by decide) (va_Nw.use rfl (hN _ fq_39)) (fun _ h9 => h9) rfl fx_Rq_takeResponse_40 ?_
      refine lv_iand hx hb fx_Rq_takeResponse_43 ?_
      refine lv_istore_n (lv' := [(2, .int ((fd_rI σ j1 3) &&& (fd_rI σ j1 4))), (0, .ref (ad 2)), (1, .ref (ad (3 + j1)))]) hx hb fx_Rq_takeResponse_44 rfl hl (by decide) rfl (fun ls hl => ?_)
      refine lv_aload_n hx hb fx_Rq_takeResponse_45 rfl (lv_at hl 1 rfl) ?_
      refine lv_aload_n hx hb fx_Rq_takeResponse_46 rfl (lv_at hl 2 rfl) ?_
      refine va_getN (D := D) (ci := 3) (v := .int (fd_rI σ j1 0)) (C := fn_R_Rs) (T := fn_T_Rs) (N := 13) hx hb hts fn_j_Rs hown hK hP (5 + j1) (fd_w_res hj1) rfl 0 (by decide) (va_Nw.use rfl (hN _ fq_30)) (fun _ h9 => h9) rfl fx_Rq_takeResponse_47 ?_
      refine lv_aload_n hx hb fx_Rq_takeResponse_50 rfl (lv_at hl 2 rfl) ?_
      refine va_getN (D := D) (ci := 3) (v := .int (fd_rI σ j1 1)) (C := fn_R_Rs) (T := fn_T_Rs) (N := 13) hx hb hts fn_j_Rs hown hK hP (5 + j1) (fd_w_res hj1) rfl 1 (by decide) (va_Nw.use rfl (hN _ fq_32)) (fun _ h9 => h9) rfl fx_Rq_takeResponse_51 ?_
      refine lv_iload_n hx hb fx_Rq_takeResponse_54 rfl (lv_at hl 0 rfl) ?_
      refine lv_iconst (v := 1) hx hb fx_Rq_takeResponse_55 (by decide) ?_
      refine fd_callvm (va_runV (As := [.int (fd_rI σ j1 0), .int (fd_rI σ j1 1), .int ((fd_rI σ j1 3) &&& (fd_rI σ j1 4)), .int 1]) (rest := []) ⟨hx, hb, hml, hown, hts⟩ (fc_Rq_show l D cR cP ad H.size σ (fd_rI σ j1 0) (fd_rI σ j1 1) ((fd_rI σ j1 3) &&& (fd_rI σ j1 4)) 1 hI ) ⟨callB_of 4 hts (fb_good fm_Rq_show) rfl rfl rfl (hts _ (List.mem_cons_of_mem _ fq_5)) (hts _ (List.mem_cons_of_mem _ fq_366)) (by decide +kernel) ⟨Nat.le_of_ble_eq_true rfl, Nat.le_of_ble_eq_true rfl⟩, (hts _ (List.mem_cons_of_mem _ fq_368)), (hts _ (List.mem_cons_of_mem _ fp_Rq_show))⟩ (fd_preV hP hK hD hN (va_recv hK hP (ci := 2) (q0 := 2) rfl rfl)) rfl rfl hl.1 rfl (lv_room (Nat.le_of_ble_eq_true rfl)) fx_Rq_takeResponse_56 ⟨Nat.le_of_ble_eq_true rfl, Nat.le_of_ble_eq_true rfl⟩) hD hS hA (fun H locs hP hD hS hI4 => ?_)
      refine lv_goto (tgt := 70) hx hb fx_Rq_takeResponse_59 (by decide) ?_
      exact fd_vret (u := (fv_Rq_show σ (fd_rI σ j1 0) (fd_rI σ j1 1) ((fd_rI σ j1 3) &&& (fd_rI σ j1 4)) 1)) hQ hx hb hr ⟨by rw [fv_Rq_takeResponse, if_pos c1, if_pos c2], hI4⟩ hP hD hS fx_Rq_takeResponse_70 hlocks
  · refine lv_aload_n hx hb fx_Rq_takeResponse_7 rfl (lv_at hl 0 rfl) ?_
    refine lv_aload_n hx hb fx_Rq_takeResponse_8 rfl (lv_at hl 1 rfl) ?_
    refine va_getN (D := D) (ci := 3) (v := .int (fd_rI σ j1 0)) (C := fn_R_Rs) (T := fn_T_Rs) (N := 13) hx hb hts fn_j_Rs hown hK hP (5 + j1) (fd_w_res hj1) rfl 0 (by decide) (va_Nw.use rfl (hN _ fq_30)) (fun _ h9 => h9) rfl fx_Rq_takeResponse_9 ?_
    refine lv_aload_n hx hb fx_Rq_takeResponse_12 rfl (lv_at hl 1 rfl) ?_
    refine va_getN (D := D) (ci := 3) (v := .int (fd_rI σ j1 1)) (C := fn_R_Rs) (T := fn_T_Rs) (N := 13) hx hb hts fn_j_Rs hown hK hP (5 + j1) (fd_w_res hj1) rfl 1 (by decide) (va_Nw.use rfl (hN _ fq_32)) (fun _ h9 => h9) rfl fx_Rq_takeResponse_13 ?_
    refine lv_aload_n hx hb fx_Rq_takeResponse_16 rfl (lv_at hl 1 rfl) ?_
    refine va_getN (D := D) (ci := 3) (v := .int (fd_rI σ j1 3)) (C := fn_R_Rs) (T := fn_T_Rs) (N := 13) hx hb hts fn_j_Rs hown hK hP (5 + j1) (fd_w_res hj1) rfl 3 (by decide) (va_Nw.use rfl (hN _ fq_37)) (fun _ h9 => h9) rfl fx_Rq_takeResponse_17 ?_
    refine lv_iconst (v := 0) hx hb fx_Rq_takeResponse_20 (by decide) ?_
    refine fd_callvm (va_runV (As := [.int (fd_rI σ j1 0), .int (fd_rI σ j1 1), .int (fd_rI σ j1 3), .int 0]) (rest := []) ⟨hx, hb, hml, hown, hts⟩ (fc_Rq_show l D cR cP ad H.size σ (fd_rI σ j1 0) (fd_rI σ j1 1) (fd_rI σ j1 3) 0 hI ) ⟨callB_of 4 hts (fb_good fm_Rq_show) rfl rfl rfl (hts _ (List.mem_cons_of_mem _ fq_5)) (hts _ (List.mem_cons_of_mem _ fq_366)) (by decide +kernel) ⟨Nat.le_of_ble_eq_true rfl, Nat.le_of_ble_eq_true rfl⟩, (hts _ (List.mem_cons_of_mem _ fq_368)), (hts _ (List.mem_cons_of_mem _ fp_Rq_show))⟩ (fd_preV hP hK hD hN (va_recv hK hP (ci := 2) (q0 := 2) rfl rfl)) rfl rfl hl.1 rfl (lv_room (Nat.le_of_ble_eq_true rfl)) fx_Rq_takeResponse_21 ⟨Nat.le_of_ble_eq_true rfl, Nat.le_of_ble_eq_true rfl⟩) hD hS hA (fun H locs hP hD hS hI5 => ?_)
    refine lv_goto (tgt := 70) hx hb fx_Rq_takeResponse_24 (by decide) ?_
    exact fd_vret (u := (fv_Rq_show σ (fd_rI σ j1 0) (fd_rI σ j1 1) (fd_rI σ j1 3) 0)) hQ hx hb hr ⟨by rw [fv_Rq_takeResponse, if_neg c1], hI5⟩ hP hD hS fx_Rq_takeResponse_70 hlocks
def fv_Pm_write (σ : FDS) (j0 : Nat) (j2 : Nat) (p3 : UInt64) : FDS := fd_spD (fd_spI (fd_spI (fd_spB (fd_spI (fd_spI σ j0 0 (fd_qI σ 0)) j0 1 (fd_qI σ 1)) j0 (fd_qB σ 9)) j0 3 (fd_rI σ j2 8)) j0 4 (fd_rI σ j2 9)) j0 p3
set_option maxHeartbeats 4000000 in
set_option maxRecDepth 100000 in
theorem fc_Pm_write (l : Launch) (D : va_G) (cR cP : ClassId) (ad : Nat → Nat) (sz : Nat) (σ : FDS) (j0 : Nat) (hj0 : j0 < 6) (j2 : Nat) (hj2 : j2 < 48) (p3 : UInt64) (hI : fd_Inv σ)  : Met l fy_Pm_write (fw_Pm_write :: fb_tbl) ({ frames := 0, cells := 0, slots := 0, locals := 0 } : Room) (fd_Pc D cR cP ad [.ref (ad (51 + j0)), .ref (ad 2), .ref (ad (3 + j2)), .double p3] σ sz) ((fun A => va_Qv (fun u : FDS => fv_Pm_write σ j0 j2 p3 = u ∧ fd_Inv u) (fd_B D cR cP ad A) A) (va_A (fd_w cR cP ad σ) sz)) 0 0 (va_A (fd_w cR cP ad σ) sz) := by
  refine fd_ofW (cc := fb_Pm_write) (maxL := 5) (ret := none) (Qf := fun A => va_Qv (fun u : FDS => fv_Pm_write σ j0 j2 p3 = u ∧ fd_Inv u) (fd_B D cR cP ad A) A) (by decide) (Nat.le_of_ble_eq_true rfl) ?_
  intro p e s m args below meth c A Q hQ hx hb hr hts hown hlocks hml hP hK hD hS hA hN ls hl
  have hown : s.vm.findClass fn_R_Pm = some m.cls := hown
  have hl : lv_has ls 5 [(0, .ref (ad (51 + j0))), (1, .ref (ad 2)), (2, .ref (ad (3 + j2))), (3, .double p3)] := hl
  suffices hgo : ∀ (H : Heap) (locs : List Loc), va_P D fn_cl (fd_w cR cP ad σ) H → va_D A (fd_w cR cP ad σ) → va_S A s.heap H locs → W p l e ({ frames := 0, cells := 0, slots := 0, locals := 0 } : Room) s m args below meth c H locs 0 0 Q (F0 m 0 ls []) from hgo _ _ hP hD hS
  clear hP hD hS
  intro H locs hP hD hS
  refine lv_aload_n hx hb fx_Pm_write_0 rfl (lv_at hl 0 rfl) ?_
  refine lv_aload_n hx hb fx_Pm_write_1 rfl (lv_at hl 1 rfl) ?_
  refine va_getN (D := D) (ci := 2) (v := .int (fd_qI σ 0)) (C := fn_R_Rq) (T := fn_T_Rq) (N := 15) hx hb hts fn_j_Rq hown hK hP 2 rfl rfl 0 (by decide) (va_Nw.use rfl (hN _ fq_140)) (fun _ h9 => h9) rfl fx_Pm_write_2 ?_
  refine va_put (D := D) (ci := 1) (v := .int (fd_qI σ 0)) (ty := .int) (C := fn_R_Pm) (T := fn_T_Pm) (N := 6) hx hb hts fn_j_Pm fn_t_Pm fn_k_Pm fn_n_Pm hown hK hP hD hS (53 + j0) (fd_w_per hj0) rfl 0 (by decide) (hts _ (List.mem_cons_of_mem _ fq_93)) (fun _ h9 => h9) rfl (by decide +kernel) rfl rfl (Nat.le_of_ble_eq_true rfl) fx_Pm_write_5 (fun H locs hP hD hS => ?_)
  rw [fd_set_Pm_0 hj0] at hP hD
  have hI1 : fd_Inv (fd_spI σ j0 0 (fd_qI σ 0)) := fd_inv_spI hI
  refine lv_aload_n hx hb fx_Pm_write_8 rfl (lv_at hl 0 rfl) ?_
  refine lv_aload_n hx hb fx_Pm_write_9 rfl (lv_at hl 1 rfl) ?_
  refine va_getN (D := D) (ci := 2) (v := .int (fd_qI σ 1)) (C := fn_R_Rq) (T := fn_T_Rq) (N := 15) hx hb hts fn_j_Rq hown hK hP 2 rfl rfl 1 (by decide) (va_Nw.use rfl (hN _ fq_144)) (fun _ h9 => h9) rfl fx_Pm_write_10 ?_
  refine va_put (D := D) (ci := 1) (v := .int (fd_qI σ 1)) (ty := .int) (C := fn_R_Pm) (T := fn_T_Pm) (N := 6) hx hb hts fn_j_Pm fn_t_Pm fn_k_Pm fn_n_Pm hown hK hP hD hS (53 + j0) (fd_w_per hj0) rfl 1 (by decide) (hts _ (List.mem_cons_of_mem _ fq_96)) (fun _ h9 => h9) rfl (by decide +kernel) rfl rfl (Nat.le_of_ble_eq_true rfl) fx_Pm_write_13 (fun H locs hP hD hS => ?_)
  rw [fd_set_Pm_1 hj0] at hP hD
  have hI2 : fd_Inv (fd_spI (fd_spI σ j0 0 (fd_qI σ 0)) j0 1 (fd_qI σ 1)) := fd_inv_spI hI1
  refine lv_aload_n hx hb fx_Pm_write_16 rfl (lv_at hl 0 rfl) ?_
  refine lv_aload_n hx hb fx_Pm_write_17 rfl (lv_at hl 1 rfl) ?_
  refine va_getN (D := D) (ci := 2) (v := .int (fd_bi (fd_qB σ 9))) (C := fn_R_Rq) (T := fn_T_Rq) (N := 15) hx hb hts fn_j_Rq hown hK hP 2 rfl rfl 9 (by decide) (va_Nw.use rfl (hN _ fq_159)) (fun _ h9 => h9) rfl fx_Pm_write_18 ?_
  refine va_put (D := D) (ci := 1) (v := .int (fd_bi (fd_qB σ 9))) (ty := .boolean) (C := fn_R_Pm) (T := fn_T_Pm) (N := 6) hx hb hts fn_j_Pm fn_t_Pm fn_k_Pm fn_n_Pm hown hK hP hD hS (53 + j0) (fd_w_per hj0) rfl 2 (by decide) (hts _ (List.mem_cons_of_mem _ fq_99)) (fun _ h9 => h9) rfl (by decide +kernel) (fd_nar _) (fd_fit _) (Nat.le_of_ble_eq_true rfl) fx_Pm_write_21 (fun H locs hP hD hS => ?_)
  rw [fd_set_Pm_2 hj0] at hP hD
  have hI3 : fd_Inv (fd_spB (fd_spI (fd_spI σ j0 0 (fd_qI σ 0)) j0 1 (fd_qI σ 1)) j0 (fd_qB σ 9)) := fd_inv_spB hI2
  refine lv_aload_n hx hb fx_Pm_write_24 rfl (lv_at hl 0 rfl) ?_
  refine lv_aload_n hx hb fx_Pm_write_25 rfl (lv_at hl 2 rfl) ?_
  refine va_getN (D := D) (ci := 3) (v := .int (fd_rI σ j2 8)) (C := fn_R_Rs) (T := fn_T_Rs) (N := 13) hx hb hts fn_j_Rs hown hK hP (5 + j2) (fd_w_res hj2) rfl 8 (by decide) (va_Nw.use rfl (hN _ fq_45)) (fun _ h9 => h9) rfl fx_Pm_write_26 ?_
  refine va_put (D := D) (ci := 1) (v := .int (fd_rI σ j2 8)) (ty := .int) (C := fn_R_Pm) (T := fn_T_Pm) (N := 6) hx hb hts fn_j_Pm fn_t_Pm fn_k_Pm fn_n_Pm hown hK hP hD hS (53 + j0) (fd_w_per hj0) rfl 3 (by decide) (hts _ (List.mem_cons_of_mem _ fq_102)) (fun _ h9 => h9) rfl (by decide +kernel) rfl rfl (Nat.le_of_ble_eq_true rfl) fx_Pm_write_29 (fun H locs hP hD hS => ?_)
  rw [fd_set_Pm_3 hj0] at hP hD
  have hI4 : fd_Inv (fd_spI (fd_spB (fd_spI (fd_spI σ j0 0 (fd_qI σ 0)) j0 1 (fd_qI σ 1)) j0 (fd_qB σ 9)) j0 3 (fd_rI σ j2 8)) := fd_inv_spI hI3
  refine lv_aload_n hx hb fx_Pm_write_32 rfl (lv_at hl 0 rfl) ?_
  refine lv_aload_n hx hb fx_Pm_write_33 rfl (lv_at hl 2 rfl) ?_
  refine va_getN (D := D) (ci := 3) (v := .int (fd_rI σ j2 9)) (C := fn_R_Rs) (T := fn_T_Rs) (N := 13) hx hb hts fn_j_Rs hown hK hP (5 + j2) (fd_w_res hj2) rfl 9 (by decide) (va_Nw.use rfl (hN _ fq_47)) (fun _ h9 => h9) rfl fx_Pm_write_34 ?_
  refine va_put (D := D) (ci := 1) (v := .int (fd_rI σ j2 9)) (ty := .int) (C := fn_R_Pm) (T := fn_T_Pm) (N := 6) hx hb hts fn_j_Pm fn_t_Pm fn_k_Pm fn_n_Pm hown hK hP hD hS (53 + j0) (fd_w_per hj0) rfl 4 (by decide) (hts _ (List.mem_cons_of_mem _ fq_105)) (fun _ h9 => h9) rfl (by decide +kernel) rfl rfl (Nat.le_of_ble_eq_true rfl) fx_Pm_write_37 (fun H locs hP hD hS => ?_)
  rw [fd_set_Pm_4 hj0] at hP hD
  have hI5 : fd_Inv (fd_spI (fd_spI (fd_spB (fd_spI (fd_spI σ j0 0 (fd_qI σ 0)) j0 1 (fd_qI σ 1)) j0 (fd_qB σ 9)) j0 3 (fd_rI σ j2 8)) j0 4 (fd_rI σ j2 9)) := fd_inv_spI hI4
  refine lv_aload_n hx hb fx_Pm_write_40 rfl (lv_at hl 0 rfl) ?_
  refine lv_dload_n hx hb fx_Pm_write_41 rfl (lv_at hl 3 rfl) ?_
  refine va_put (D := D) (ci := 1) (v := .double p3) (ty := .double) (C := fn_R_Pm) (T := fn_T_Pm) (N := 6) hx hb hts fn_j_Pm fn_t_Pm fn_k_Pm fn_n_Pm hown hK hP hD hS (53 + j0) (fd_w_per hj0) rfl 5 (by decide) (hts _ (List.mem_cons_of_mem _ fq_108)) (fun _ h9 => h9) rfl (by decide +kernel) rfl rfl (Nat.le_of_ble_eq_true rfl) fx_Pm_write_42 (fun H locs hP hD hS => ?_)
  rw [fd_set_Pm_5 hj0] at hP hD
  have hI6 : fd_Inv (fd_spD (fd_spI (fd_spI (fd_spB (fd_spI (fd_spI σ j0 0 (fd_qI σ 0)) j0 1 (fd_qI σ 1)) j0 (fd_qB σ 9)) j0 3 (fd_rI σ j2 8)) j0 4 (fd_rI σ j2 9)) j0 p3) := fd_inv_spD hI5
  exact fd_vret (u := fd_spD (fd_spI (fd_spI (fd_spB (fd_spI (fd_spI σ j0 0 (fd_qI σ 0)) j0 1 (fd_qI σ 1)) j0 (fd_qB σ 9)) j0 3 (fd_rI σ j2 8)) j0 4 (fd_rI σ j2 9)) j0 p3) hQ hx hb hr ⟨by rw [fv_Pm_write], hI6⟩ hP hD hS fx_Pm_write_45 hlocks
def fv_Mm_find_l2 : Nat → FDS → Int32 → Int32
  | 0 , σ , i => 0
  | n + 1 , σ , i => if (fd_mS σ) ≤ i then (-1) else if (fd_pI σ (fd_pF σ i.toNatClampNeg) 0) = (fd_qI σ 0) then if (fd_pI σ (fd_pF σ i.toNatClampNeg) 1) = (fd_qI σ 1) then if (fd_bi (fd_pB σ (fd_pF σ i.toNatClampNeg))) = (fd_bi (fd_qB σ 9)) then i else fv_Mm_find_l2 n σ (i + 1) else fv_Mm_find_l2 n σ (i + 1) else fv_Mm_find_l2 n σ (i + 1)
def fv_Mm_find (σ : FDS) : Int32 := fv_Mm_find_l2 7 σ 0
set_option maxHeartbeats 4000000 in
set_option maxRecDepth 100000 in
theorem fc_Mm_find (l : Launch) (D : va_G) (cR cP : ClassId) (ad : Nat → Nat) (sz : Nat) (σ : FDS)  (hI : fd_Inv σ)  : Met l fy_Mm_find (fw_Mm_find :: fb_tbl) ({ frames := 0, cells := 0, slots := 0, locals := 0 } : Room) (fd_Pc D cR cP ad [.ref (ad 1), .ref (ad 2)] σ sz) ((fun A => va_Qi (fun (r : Int32) (u : FDS) => fv_Mm_find σ = r ∧ u = σ) (fd_B D cR cP ad A) A) (va_A (fd_w cR cP ad σ) sz)) 0 0 (va_A (fd_w cR cP ad σ) sz) := by
  refine fd_ofW (cc := fb_Mm_find) (maxL := 4) (ret := (some .int)) (Qf := fun A => va_Qi (fun (r : Int32) (u : FDS) => fv_Mm_find σ = r ∧ u = σ) (fd_B D cR cP ad A) A) (by decide) (Nat.le_of_ble_eq_true rfl) ?_
  intro p e s m args below meth c A Q hQ hx hb hr hts hown hlocks hml hP hK hD hS hA hN ls hl
  have hown : s.vm.findClass fn_R_Mm = some m.cls := hown
  have hl : lv_has ls 4 [(0, .ref (ad 1)), (1, .ref (ad 2))] := hl
  suffices hgo : ∀ (H : Heap) (locs : List Loc), va_P D fn_cl (fd_w cR cP ad σ) H → va_D A (fd_w cR cP ad σ) → va_S A s.heap H locs → W p l e ({ frames := 0, cells := 0, slots := 0, locals := 0 } : Room) s m args below meth c H locs 0 0 Q (F0 m 0 ls []) from hgo _ _ hP hD hS
  clear hP hD hS
  intro H locs hP hD hS
  refine lv_iconst (v := 0) hx hb fx_Mm_find_0 (by decide) ?_
  refine lv_istore_n (lv' := [(2, .int 0), (0, .ref (ad 1)), (1, .ref (ad 2))]) hx hb fx_Mm_find_1 rfl hl (by decide) rfl (fun ls hl => ?_)
  have hL2 : ∀ (n : Nat) (i : Int32), (∃ k : Nat, k ≤ 6 ∧ 7 ≤ n + k ∧ i = nI k) → fv_Mm_find σ = fv_Mm_find_l2 n σ i → ∀ (H : Heap) (locs : List Loc), va_P D fn_cl (fd_w cR cP ad σ) H → va_D A (fd_w cR cP ad σ) → va_S A s.heap H locs → ∀ (ls : Array Slot), lv_has ls 4 [(2, .int i), (0, .ref (ad 1)), (1, .ref (ad 2))] → W p l e ({ frames := 0, cells := 0, slots := 0, locals := 0 } : Room) s m args below meth c H locs 0 0 Q (F0 m 2 ls []) := by
    intro n
    induction n with
    | zero =>
      intro i hi
      obtain ⟨k, h1, h2, -⟩ := hi; omega
    | succ n ih =>
      intro i hi hm2 H locs hP hD hS ls hl
      refine lv_iload_n hx hb fx_Mm_find_2 rfl (lv_at hl 0 rfl) ?_
      refine lv_aload_n hx hb fx_Mm_find_3 rfl (lv_at hl 1 rfl) ?_
      refine va_get (D := D) (ci := 0) (v := .int (fd_mS σ)) (C := fn_R_Mm) (T := fn_T_Mm) (N := 2) hx hb hts fn_j_Mm hown hK hP 1 rfl rfl 1 (by decide) (hts _ (List.mem_cons_of_mem _ fq_126)) (fun _ h9 => h9) rfl fx_Mm_find_4 ?_
      refine lv_icmp_ge (tgt := 58) hx hb fx_Mm_find_7 (by decide) (fun c1 => ?_) (fun c1 => ?_)
      · refine lv_iconst (v := (-1)) hx hb fx_Mm_find_58 (by decide) ?_
        exact fd_iret (r := (-1)) (u := σ) hQ hx hb hr ⟨by rw [hm2, fv_Mm_find_l2, if_pos c1], rfl⟩ hP hD hS fx_Mm_find_59 hlocks
      · refine lv_aload_n hx hb fx_Mm_find_10 rfl (lv_at hl 1 rfl) ?_
        refine va_get (D := D) (ci := 0) (v := .ref (ad 58)) (C := fn_R_Mm) (T := fn_T_Mm) (N := 2) hx hb hts fn_j_Mm hown hK hP 1 rfl rfl 0 (by decide) (hts _ (List.mem_cons_of_mem _ fq_124)) (fun _ h9 => h9) rfl fx_Mm_find_11 ?_
        refine lv_iload_n hx hb fx_Mm_find_14 rfl (lv_at hl 0 rfl) ?_
        have hb2 : vp_in i 6 := fd_idx hI hi c1
        refine va_aldq (D := D) hx hb hK hP 4 1 rfl rfl hb2 fx_Mm_find_15 ?_
        refine W.eq (g2 := F0 m 16 ls (.ref (ad (51 + (fd_pF σ i.toNatClampNeg))) :: [])) rfl ?_
        refine lv_astore_n (lv' := [(3, .ref (ad (51 + (fd_pF σ i.toNatClampNeg)))), (2, .int i), (0, .ref (ad 1)), (1, .ref (ad 2))]) hx hb fx_Mm_find_16 rfl hl (by decide) rfl (fun ls hl => ?_)
        refine lv_aload_n hx hb fx_Mm_find_17 rfl (lv_at hl 0 rfl) ?_
        refine va_getN (D := D) (ci := 1) (v := .int (fd_pI σ (fd_pF σ i.toNatClampNeg) 0)) (C := fn_R_Pm) (T := fn_T_Pm) (N := 6) hx hb hts fn_j_Pm hown hK hP (53 + (fd_pF σ i.toNatClampNeg)) (fd_w_per (fd_plt hI hb2)) rfl 0 (by decide) (va_Nw.use rfl (hN _ fq_94)) (fun _ h9 => h9) rfl fx_Mm_find_18 ?_
        refine lv_aload_n hx hb fx_Mm_find_21 rfl (lv_at hl 3 rfl) ?_
        refine va_getN (D := D) (ci := 2) (v := .int (fd_qI σ 0)) (C := fn_R_Rq) (T := fn_T_Rq) (N := 15) hx hb hts fn_j_Rq hown hK hP 2 rfl rfl 0 (by decide) (va_Nw.use rfl (hN _ fq_141)) (fun _ h9 => h9) rfl fx_Mm_find_22 ?_
        refine lv_icmp_ne (tgt := 52) hx hb fx_Mm_find_25 (by decide) (fun c3 => ?_) (fun c3 => ?_)
        · refine lv_iinc (v := i + 1) (lv' := [(2, .int (i + 1)), (3, .ref (ad (51 + (fd_pF σ i.toNatClampNeg)))), (0, .ref (ad 1)), (1, .ref (ad 2))]) hx hb fx_Mm_find_52 hl (k := 1) rfl rfl (by decide) rfl (fun ls hl => ?_)
          refine lv_goto (tgt := 2) hx hb fx_Mm_find_55 (by decide) ?_
          exact ih (i + 1) (fd_step hI hi c1) (by rw [hm2, fv_Mm_find_l2, if_neg c1, if_neg c3]) H locs hP hD hS ls (lv_sub hl [0, 2, 3] rfl)
        · refine lv_aload_n hx hb fx_Mm_find_28 rfl (lv_at hl 0 rfl) ?_
          refine va_getN (D := D) (ci := 1) (v := .int (fd_pI σ (fd_pF σ i.toNatClampNeg) 1)) (C := fn_R_Pm) (T := fn_T_Pm) (N := 6) hx hb hts fn_j_Pm hown hK hP (53 + (fd_pF σ i.toNatClampNeg)) (fd_w_per (fd_plt hI hb2)) rfl 1 (by decide) (va_Nw.use rfl (hN _ fq_97)) (fun _ h9 => h9) rfl fx_Mm_find_29 ?_
          refine lv_aload_n hx hb fx_Mm_find_32 rfl (lv_at hl 3 rfl) ?_
          refine va_getN (D := D) (ci := 2) (v := .int (fd_qI σ 1)) (C := fn_R_Rq) (T := fn_T_Rq) (N := 15) hx hb hts fn_j_Rq hown hK hP 2 rfl rfl 1 (by decide) (va_Nw.use rfl (hN _ fq_145)) (fun _ h9 => h9) rfl fx_Mm_find_33 ?_
          refine lv_icmp_ne (tgt := 52) hx hb fx_Mm_find_36 (by decide) (fun c4 => ?_) (fun c4 => ?_)
          · refine lv_iinc (v := i + 1) (lv' := [(2, .int (i + 1)), (3, .ref (ad (51 + (fd_pF σ i.toNatClampNeg)))), (0, .ref (ad 1)), (1, .ref (ad 2))]) hx hb fx_Mm_find_52 hl (k := 1) rfl rfl (by decide) rfl (fun ls hl => ?_)
            refine lv_goto (tgt := 2) hx hb fx_Mm_find_55 (by decide) ?_
            exact ih (i + 1) (fd_step hI hi c1) (by rw [hm2, fv_Mm_find_l2, if_neg c1, if_pos c3, if_neg c4]) H locs hP hD hS ls (lv_sub hl [0, 2, 3] rfl)
          · refine lv_aload_n hx hb fx_Mm_find_39 rfl (lv_at hl 0 rfl) ?_
            refine va_getN (D := D) (ci := 1) (v := .int (fd_bi (fd_pB σ (fd_pF σ i.toNatClampNeg)))) (C := fn_R_Pm) (T := fn_T_Pm) (N := 6) hx hb hts fn_j_Pm hown hK hP (53 + (fd_pF σ i.toNatClampNeg)) (fd_w_per (fd_plt hI hb2)) rfl 2 (by decide) (va_Nw.use rfl (hN _ fq_100)) (fun _ h9 => h9) rfl fx_Mm_find_40 ?_
            refine lv_aload_n hx hb fx_Mm_find_43 rfl (lv_at hl 3 rfl) ?_
            refine va_getN (D := D) (ci := 2) (v := .int (fd_bi (fd_qB σ 9))) (C := fn_R_Rq) (T := fn_T_Rq) (N := 15) hx hb hts fn_j_Rq hown hK hP 2 rfl rfl 9 (by decide) (va_Nw.use rfl (hN _ fq_161)) (fun _ h9 => h9) rfl fx_Mm_find_44 ?_
            refine lv_icmp_ne (tgt := 52) hx hb fx_Mm_find_47 (by decide) (fun c5 => ?_) (fun c5 => ?_)
            · refine lv_iinc (v := i + 1) (lv' := [(2, .int (i + 1)), (3, .ref (ad (51 + (fd_pF σ i.toNatClampNeg)))), (0, .ref (ad 1)), (1, .ref (ad 2))]) hx hb fx_Mm_find_52 hl (k := 1) rfl rfl (by decide) rfl (fun ls hl => ?_)
              refine lv_goto (tgt := 2) hx hb fx_Mm_find_55 (by decide) ?_
              exact ih (i + 1) (fd_step hI hi c1) (by rw [hm2, fv_Mm_find_l2, if_neg c1, if_pos c3, if_pos c4, if_neg c5]) H locs hP hD hS ls (lv_sub hl [0, 2, 3] rfl)
            · refine lv_iload_n hx hb fx_Mm_find_50 rfl (lv_at hl 1 rfl) ?_
              exact fd_iret (r := i) (u := σ) hQ hx hb hr ⟨by rw [hm2, fv_Mm_find_l2, if_neg c1, if_pos c3, if_pos c4, if_pos c5], rfl⟩ hP hD hS fx_Mm_find_51 hlocks
  exact hL2 7 0 (⟨0, by decide, by decide, rfl⟩) (by rw [fv_Mm_find]) H locs hP hD hS ls (lv_sub hl [0, 1, 2] rfl)
def fv_Mm_firstToEnd_l4 : Nat → FDS → Int32 → Int32 → Int32
  | 0 , σ , f , i => 0
  | n + 1 , σ , f , i => if (fd_mS σ) ≤ i then f else if 0 ≤ (Op.cmpValue (FP.dcmp (fd_pD σ (fd_pF σ i.toNatClampNeg)) (fd_pD σ (fd_pF σ f.toNatClampNeg))) .g) then fv_Mm_firstToEnd_l4 n σ f (i + 1) else fv_Mm_firstToEnd_l4 n σ i (i + 1)
def fv_Mm_firstToEnd (σ : FDS) : Int32 := fv_Mm_firstToEnd_l4 7 σ 0 1
set_option maxHeartbeats 4000000 in
set_option maxRecDepth 100000 in
theorem fc_Mm_firstToEnd (l : Launch) (D : va_G) (cR cP : ClassId) (ad : Nat → Nat) (sz : Nat) (σ : FDS)  (hI : fd_Inv σ)  : Met l fy_Mm_firstToEnd (fw_Mm_firstToEnd :: fb_tbl) ({ frames := 0, cells := 0, slots := 0, locals := 0 } : Room) (fd_Pc D cR cP ad [.ref (ad 1)] σ sz) ((fun A => va_Qi (fun (r : Int32) (u : FDS) => fv_Mm_firstToEnd σ = r ∧ u = σ) (fd_B D cR cP ad A) A) (va_A (fd_w cR cP ad σ) sz)) 0 0 (va_A (fd_w cR cP ad σ) sz) := by
  refine fd_ofW (cc := fb_Mm_firstToEnd) (maxL := 3) (ret := (some .int)) (Qf := fun A => va_Qi (fun (r : Int32) (u : FDS) => fv_Mm_firstToEnd σ = r ∧ u = σ) (fd_B D cR cP ad A) A) (by decide) (Nat.le_of_ble_eq_true rfl) ?_
  intro p e s m args below meth c A Q hQ hx hb hr hts hown hlocks hml hP hK hD hS hA hN ls hl
  have hown : s.vm.findClass fn_R_Mm = some m.cls := hown
  have hl : lv_has ls 3 [(0, .ref (ad 1))] := hl
  suffices hgo : ∀ (H : Heap) (locs : List Loc), va_P D fn_cl (fd_w cR cP ad σ) H → va_D A (fd_w cR cP ad σ) → va_S A s.heap H locs → W p l e ({ frames := 0, cells := 0, slots := 0, locals := 0 } : Room) s m args below meth c H locs 0 0 Q (F0 m 0 ls []) from hgo _ _ hP hD hS
  clear hP hD hS
  intro H locs hP hD hS
  refine lv_iconst (v := 0) hx hb fx_Mm_firstToEnd_0 (by decide) ?_
  refine lv_istore_n (lv' := [(1, .int 0), (0, .ref (ad 1))]) hx hb fx_Mm_firstToEnd_1 rfl hl (by decide) rfl (fun ls hl => ?_)
  refine lv_iconst (v := 1) hx hb fx_Mm_firstToEnd_2 (by decide) ?_
  refine lv_istore_n (lv' := [(2, .int 1), (1, .int 0), (0, .ref (ad 1))]) hx hb fx_Mm_firstToEnd_3 rfl hl (by decide) rfl (fun ls hl => ?_)
  have hL4 : ∀ (n : Nat) (f : Int32) (i : Int32), (∃ k : Nat, k < 6 ∧ f = nI k) → (∃ k : Nat, k ≤ 6 ∧ 7 ≤ n + k ∧ i = nI k) → fv_Mm_firstToEnd σ = fv_Mm_firstToEnd_l4 n σ f i → ∀ (H : Heap) (locs : List Loc), va_P D fn_cl (fd_w cR cP ad σ) H → va_D A (fd_w cR cP ad σ) → va_S A s.heap H locs → ∀ (ls : Array Slot), lv_has ls 3 [(2, .int i), (1, .int f), (0, .ref (ad 1))] → W p l e ({ frames := 0, cells := 0, slots := 0, locals := 0 } : Room) s m args below meth c H locs 0 0 Q (F0 m 4 ls []) := by
    intro n
    induction n with
    | zero =>
      intro f i hf hi
      obtain ⟨k, h1, h2, -⟩ := hi; omega
    | succ n ih =>
      intro f i hf hi hm4 H locs hP hD hS ls hl
      refine lv_iload_n hx hb fx_Mm_firstToEnd_4 rfl (lv_at hl 0 rfl) ?_
      refine lv_aload_n hx hb fx_Mm_firstToEnd_5 rfl (lv_at hl 2 rfl) ?_
      refine va_get (D := D) (ci := 0) (v := .int (fd_mS σ)) (C := fn_R_Mm) (T := fn_T_Mm) (N := 2) hx hb hts fn_j_Mm hown hK hP 1 rfl rfl 1 (by decide) (hts _ (List.mem_cons_of_mem _ fq_126)) (fun _ h9 => h9) rfl fx_Mm_firstToEnd_6 ?_
      refine lv_icmp_ge (tgt := 42) hx hb fx_Mm_firstToEnd_9 (by decide) (fun c1 => ?_) (fun c1 => ?_)
      · refine lv_iload_n hx hb fx_Mm_firstToEnd_42 rfl (lv_at hl 1 rfl) ?_
        exact fd_iret (r := f) (u := σ) hQ hx hb hr ⟨by rw [hm4, fv_Mm_firstToEnd_l4, if_pos c1], rfl⟩ hP hD hS fx_Mm_firstToEnd_43 hlocks
      · refine lv_aload_n hx hb fx_Mm_firstToEnd_12 rfl (lv_at hl 2 rfl) ?_
        refine va_get (D := D) (ci := 0) (v := .ref (ad 58)) (C := fn_R_Mm) (T := fn_T_Mm) (N := 2) hx hb hts fn_j_Mm hown hK hP 1 rfl rfl 0 (by decide) (hts _ (List.mem_cons_of_mem _ fq_124)) (fun _ h9 => h9) rfl fx_Mm_firstToEnd_13 ?_
        refine lv_iload_n hx hb fx_Mm_firstToEnd_16 rfl (lv_at hl 0 rfl) ?_
        have hb2 : vp_in i 6 := fd_idx hI hi c1
        refine va_aldq (D := D) hx hb hK hP 4 1 rfl rfl hb2 fx_Mm_firstToEnd_17 ?_
        refine W.eq (g2 := F0 m 18 ls (.ref (ad (51 + (fd_pF σ i.toNatClampNeg))) :: [])) rfl ?_
        refine va_getN (D := D) (ci := 1) (v := .double (fd_pD σ (fd_pF σ i.toNatClampNeg))) (C := fn_R_Pm) (T := fn_T_Pm) (N := 6) hx hb hts fn_j_Pm hown hK hP (53 + (fd_pF σ i.toNatClampNeg)) (fd_w_per (fd_plt hI hb2)) rfl 5 (by decide) (va_Nw.use rfl (hN _ fq_109)) (fun _ h9 => h9) rfl fx_Mm_firstToEnd_18 ?_
        refine lv_aload_n hx hb fx_Mm_firstToEnd_21 rfl (lv_at hl 2 rfl) ?_
        refine va_get (D := D) (ci := 0) (v := .ref (ad 58)) (C := fn_R_Mm) (T := fn_T_Mm) (N := 2) hx hb hts fn_j_Mm hown hK hP 1 rfl rfl 0 (by decide) (hts _ (List.mem_cons_of_mem _ fq_124)) (fun _ h9 => h9) rfl fx_Mm_firstToEnd_22 ?_
        refine lv_iload_n hx hb fx_Mm_firstToEnd_25 rfl (lv_at hl 1 rfl) ?_
        have hb3 : vp_in f 6 := fd_in6 hf
        refine va_aldq (D := D) hx hb hK hP 4 1 rfl rfl hb3 fx_Mm_firstToEnd_26 ?_
        refine W.eq (g2 := F0 m 27 ls (.ref (ad (51 + (fd_pF σ f.toNatClampNeg))) :: [.double (fd_pD σ (fd_pF σ i.toNatClampNeg))])) rfl ?_
        refine va_getN (D := D) (ci := 1) (v := .double (fd_pD σ (fd_pF σ f.toNatClampNeg))) (C := fn_R_Pm) (T := fn_T_Pm) (N := 6) hx hb hts fn_j_Pm hown hK hP (53 + (fd_pF σ f.toNatClampNeg)) (fd_w_per (fd_plt hI hb3)) rfl 5 (by decide) (va_Nw.use rfl (hN _ fq_109)) (fun _ h9 => h9) rfl fx_Mm_firstToEnd_27 ?_
        refine lv_dcmp hx hb fx_Mm_firstToEnd_30 ?_
        refine lv_if_ge (tgt := 36) hx hb fx_Mm_firstToEnd_31 (by decide) (fun c4 => ?_) (fun c4 => ?_)
        · refine lv_iinc (v := i + 1) (lv' := [(2, .int (i + 1)), (1, .int f), (0, .ref (ad 1))]) hx hb fx_Mm_firstToEnd_36 hl (k := 0) rfl rfl (by decide) rfl (fun ls hl => ?_)
          refine lv_goto (tgt := 4) hx hb fx_Mm_firstToEnd_39 (by decide) ?_
          exact ih f (i + 1) (by first | exact hf | exact fd_lt6 hI hi c1) (fd_step hI hi c1) (by rw [hm4, fv_Mm_firstToEnd_l4, if_neg c1, if_pos c4]) H locs hP hD hS ls (lv_sub hl [0, 1, 2] rfl)
        · refine lv_iload_n hx hb fx_Mm_firstToEnd_34 rfl (lv_at hl 0 rfl) ?_
          refine lv_istore_n (lv' := [(1, .int i), (2, .int i), (0, .ref (ad 1))]) hx hb fx_Mm_firstToEnd_35 rfl hl (by decide) rfl (fun ls hl => ?_)
          refine lv_iinc (v := i + 1) (lv' := [(2, .int (i + 1)), (1, .int i), (0, .ref (ad 1))]) hx hb fx_Mm_firstToEnd_36 hl (k := 1) rfl rfl (by decide) rfl (fun ls hl => ?_)
          refine lv_goto (tgt := 4) hx hb fx_Mm_firstToEnd_39 (by decide) ?_
          exact ih i (i + 1) (by first | exact hf | exact fd_lt6 hI hi c1) (fd_step hI hi c1) (by rw [hm4, fv_Mm_firstToEnd_l4, if_neg c1, if_neg c4]) H locs hP hD hS ls (lv_sub hl [0, 1, 2] rfl)
  exact hL4 7 0 1 (⟨0, by decide, rfl⟩) (⟨1, by decide, by decide, rfl⟩) (by rw [fv_Mm_firstToEnd]) H locs hP hD hS ls (lv_sub hl [0, 1, 2] rfl)
def fv_Mm_drop_l11 : Nat → FDS → Int32 → FDS → Int32 → FDS
  | 0 , σ , p1 , σ1 , k => σ
  | n + 1 , σ , p1 , σ1 , k => if (fd_mS σ1) ≤ k then fd_spF (fd_smS σ1 ((fd_mS σ1) - 1)) ((fd_mS σ1) - 1).toNatClampNeg (fd_pF σ p1.toNatClampNeg) else fv_Mm_drop_l11 n σ p1 (fd_spF σ1 (k - 1).toNatClampNeg (fd_pF σ1 k.toNatClampNeg)) (k + 1)
def fv_Mm_drop (σ : FDS) (p1 : Int32) : FDS := fv_Mm_drop_l11 7 σ p1 σ (p1 + 1)
set_option maxHeartbeats 4000000 in
set_option maxRecDepth 100000 in
theorem fc_Mm_drop (l : Launch) (D : va_G) (cR cP : ClassId) (ad : Nat → Nat) (sz : Nat) (σ : FDS) (p1 : Int32) (hI : fd_Inv σ) (hp : ∃ k : Nat, k < 6 ∧ p1 = nI k) (hz : ∃ n : Nat, n < 6 ∧ fd_mS σ = nI (n + 1)) : Met l fy_Mm_drop (fw_Mm_drop :: fb_tbl) ({ frames := 0, cells := 0, slots := 0, locals := 0 } : Room) (fd_Pc D cR cP ad [.ref (ad 1), .int p1] σ sz) ((fun A => va_Qv (fun u : FDS => fv_Mm_drop σ p1 = u ∧ fd_Inv u) (fd_B D cR cP ad A) A) (va_A (fd_w cR cP ad σ) sz)) 0 0 (va_A (fd_w cR cP ad σ) sz) := by
  refine fd_ofW (cc := fb_Mm_drop) (maxL := 4) (ret := none) (Qf := fun A => va_Qv (fun u : FDS => fv_Mm_drop σ p1 = u ∧ fd_Inv u) (fd_B D cR cP ad A) A) (by decide) (Nat.le_of_ble_eq_true rfl) ?_
  intro p e s m args below meth c A Q hQ hx hb hr hts hown hlocks hml hP hK hD hS hA hN ls hl
  have hown : s.vm.findClass fn_R_Mm = some m.cls := hown
  have hl : lv_has ls 4 [(0, .ref (ad 1)), (1, .int p1)] := hl
  suffices hgo : ∀ (H : Heap) (locs : List Loc), va_P D fn_cl (fd_w cR cP ad σ) H → va_D A (fd_w cR cP ad σ) → va_S A s.heap H locs → W p l e ({ frames := 0, cells := 0, slots := 0, locals := 0 } : Room) s m args below meth c H locs 0 0 Q (F0 m 0 ls []) from hgo _ _ hP hD hS
  clear hP hD hS
  intro H locs hP hD hS
  refine lv_aload_n hx hb fx_Mm_drop_0 rfl (lv_at hl 0 rfl) ?_
  refine va_get (D := D) (ci := 0) (v := .ref (ad 58)) (C := fn_R_Mm) (T := fn_T_Mm) (N := 2) hx hb hts fn_j_Mm hown hK hP 1 rfl rfl 0 (by decide) (hts _ (List.mem_cons_of_mem _ fq_124)) (fun _ h9 => h9) rfl fx_Mm_drop_1 ?_
  refine lv_iload_n hx hb fx_Mm_drop_4 rfl (lv_at hl 1 rfl) ?_
  have hb1 : vp_in p1 6 := fd_in6 hp
  refine va_aldq (D := D) hx hb hK hP 4 1 rfl rfl hb1 fx_Mm_drop_5 ?_
  refine W.eq (g2 := F0 m 6 ls (.ref (ad (51 + (fd_pF σ p1.toNatClampNeg))) :: [])) rfl ?_
  refine lv_astore_n (lv' := [(2, .ref (ad (51 + (fd_pF σ p1.toNatClampNeg)))), (0, .ref (ad 1)), (1, .int p1)]) hx hb fx_Mm_drop_6 rfl hl (by decide) rfl (fun ls hl => ?_)
  refine lv_iload_n hx hb fx_Mm_drop_7 rfl (lv_at hl 2 rfl) ?_
  refine lv_iconst (v := 1) hx hb fx_Mm_drop_8 (by decide) ?_
  refine lv_iadd hx hb fx_Mm_drop_9 ?_
  refine lv_istore_n (lv' := [(3, .int (p1 + 1)), (2, .ref (ad (51 + (fd_pF σ p1.toNatClampNeg)))), (0, .ref (ad 1)), (1, .int p1)]) hx hb fx_Mm_drop_10 rfl hl (by decide) rfl (fun ls hl => ?_)
  have hL11 : ∀ (n : Nat) (σ1 : FDS) (k : Int32), (∃ i : Nat, 1 ≤ i ∧ i ≤ 6 ∧ 7 ≤ n + i ∧ k = nI i) → (fd_mS σ1 = fd_mS σ) → fd_Inv σ1 → fv_Mm_drop σ p1 = fv_Mm_drop_l11 n σ p1 σ1 k → ∀ (H : Heap) (locs : List Loc), va_P D fn_cl (fd_w cR cP ad σ1) H → va_D A (fd_w cR cP ad σ1) → va_S A s.heap H locs → ∀ (ls : Array Slot), lv_has ls 4 [(3, .int k), (2, .ref (ad (51 + (fd_pF σ p1.toNatClampNeg)))), (0, .ref (ad 1)), (1, .int p1)] → W p l e ({ frames := 0, cells := 0, slots := 0, locals := 0 } : Room) s m args below meth c H locs 0 0 Q (F0 m 11 ls []) := by
    intro n
    induction n with
    | zero =>
      intro σ1 k hk hs
      obtain ⟨i, h0, h1, h2, -⟩ := hk; omega
    | succ n ih =>
      intro σ1 k hk hs hI11 hm11 H locs hP hD hS ls hl
      refine lv_iload_n hx hb fx_Mm_drop_11 rfl (lv_at hl 0 rfl) ?_
      refine lv_aload_n hx hb fx_Mm_drop_12 rfl (lv_at hl 2 rfl) ?_
      refine va_get (D := D) (ci := 0) (v := .int (fd_mS σ1)) (C := fn_R_Mm) (T := fn_T_Mm) (N := 2) hx hb hts fn_j_Mm hown hK hP 1 rfl rfl 1 (by decide) (hts _ (List.mem_cons_of_mem _ fq_126)) (fun _ h9 => h9) rfl fx_Mm_drop_13 ?_
      refine lv_icmp_ge (tgt := 39) hx hb fx_Mm_drop_16 (by decide) (fun c2 => ?_) (fun c2 => ?_)
      · refine lv_aload_n hx hb fx_Mm_drop_39 rfl (lv_at hl 2 rfl) ?_
        refine lv_dup hx hb fx_Mm_drop_40 rfl ?_
        refine va_get (D := D) (ci := 0) (v := .int (fd_mS σ1)) (C := fn_R_Mm) (T := fn_T_Mm) (N := 2) hx hb hts fn_j_Mm hown hK hP 1 rfl rfl 1 (by decide) (hts _ (List.mem_cons_of_mem _ fq_126)) (fun _ h9 => h9) rfl fx_Mm_drop_41 ?_
        refine lv_iconst (v := 1) hx hb fx_Mm_drop_44 (by decide) ?_
        refine lv_isub hx hb fx_Mm_drop_45 ?_
        refine va_put (D := D) (ci := 0) (v := .int ((fd_mS σ1) - 1)) (ty := .int) (C := fn_R_Mm) (T := fn_T_Mm) (N := 2) hx hb hts fn_j_Mm fn_t_Mm fn_k_Mm fn_n_Mm hown hK hP hD hS 1 rfl rfl 1 (by decide) (hts _ (List.mem_cons_of_mem _ fq_126)) (fun _ h9 => h9) rfl (by decide +kernel) rfl rfl (Nat.le_of_ble_eq_true rfl) fx_Mm_drop_46 (fun H locs hP hD hS => ?_)
        rw [fd_set_Mm_1] at hP hD
        have hI3 : fd_Inv (fd_smS σ1 ((fd_mS σ1) - 1)) := fd_inv_size (fd_le6 (fd_dec hz hs)) hI11
        refine lv_aload_n hx hb fx_Mm_drop_49 rfl (lv_at hl 2 rfl) ?_
        refine va_get (D := D) (ci := 0) (v := .ref (ad 58)) (C := fn_R_Mm) (T := fn_T_Mm) (N := 2) hx hb hts fn_j_Mm hown hK hP 1 rfl rfl 0 (by decide) (hts _ (List.mem_cons_of_mem _ fq_124)) (fun _ h9 => h9) rfl fx_Mm_drop_50 ?_
        refine lv_aload_n hx hb fx_Mm_drop_53 rfl (lv_at hl 2 rfl) ?_
        refine va_get (D := D) (ci := 0) (v := .int ((fd_mS σ1) - 1)) (C := fn_R_Mm) (T := fn_T_Mm) (N := 2) hx hb hts fn_j_Mm hown hK hP 1 rfl rfl 1 (by decide) (hts _ (List.mem_cons_of_mem _ fq_126)) (fun _ h9 => h9) rfl fx_Mm_drop_54 ?_
        refine lv_aload_n hx hb fx_Mm_drop_57 rfl (lv_at hl 1 rfl) ?_
        have hb4 : vp_in ((fd_mS σ1) - 1) 6 := fd_in6 (fd_dec hz hs)
        refine va_astq (D := D) hx hb hK hP hD hS 4 1 (53 + (fd_pF σ p1.toNatClampNeg)) 1 rfl rfl (fd_w_per (fd_plt hI hb1)) rfl hb4 fx_Mm_drop_58 (fun H locs hP hD hS => ?_)
        rw [fd_set_pF] at hP hD
        have hI5 : fd_Inv (fd_spF (fd_smS σ1 ((fd_mS σ1) - 1)) ((fd_mS σ1) - 1).toNatClampNeg (fd_pF σ p1.toNatClampNeg)) := fd_inv_pF (fd_plt hI hb1) hI3
        exact fd_vret (u := fd_spF (fd_smS σ1 ((fd_mS σ1) - 1)) ((fd_mS σ1) - 1).toNatClampNeg (fd_pF σ p1.toNatClampNeg)) hQ hx hb hr ⟨by rw [hm11, fv_Mm_drop_l11, if_pos c2], hI5⟩ hP hD hS fx_Mm_drop_59 hlocks
      · refine lv_aload_n hx hb fx_Mm_drop_19 rfl (lv_at hl 2 rfl) ?_
        refine va_get (D := D) (ci := 0) (v := .ref (ad 58)) (C := fn_R_Mm) (T := fn_T_Mm) (N := 2) hx hb hts fn_j_Mm hown hK hP 1 rfl rfl 0 (by decide) (hts _ (List.mem_cons_of_mem _ fq_124)) (fun _ h9 => h9) rfl fx_Mm_drop_20 ?_
        refine lv_iload_n hx hb fx_Mm_drop_23 rfl (lv_at hl 0 rfl) ?_
        refine lv_iconst (v := 1) hx hb fx_Mm_drop_24 (by decide) ?_
        refine lv_isub hx hb fx_Mm_drop_25 ?_
        refine lv_aload_n hx hb fx_Mm_drop_26 rfl (lv_at hl 2 rfl) ?_
        refine va_get (D := D) (ci := 0) (v := .ref (ad 58)) (C := fn_R_Mm) (T := fn_T_Mm) (N := 2) hx hb hts fn_j_Mm hown hK hP 1 rfl rfl 0 (by decide) (hts _ (List.mem_cons_of_mem _ fq_124)) (fun _ h9 => h9) rfl fx_Mm_drop_27 ?_
        refine lv_iload_n hx hb fx_Mm_drop_30 rfl (lv_at hl 0 rfl) ?_
        have hb6 : vp_in k 6 := fd_idxd hI11 hk c2
        refine va_aldq (D := D) hx hb hK hP 4 1 rfl rfl hb6 fx_Mm_drop_31 ?_
        refine W.eq (g2 := F0 m 32 ls (.ref (ad (51 + (fd_pF σ1 k.toNatClampNeg))) :: [.int (k - 1), .ref (ad 58)])) rfl ?_
        have hb7 : vp_in (k - 1) 6 := fd_idxp hk
        refine va_astq (D := D) hx hb hK hP hD hS 4 1 (53 + (fd_pF σ1 k.toNatClampNeg)) 1 rfl rfl (fd_w_per (fd_plt hI11 hb6)) rfl hb7 fx_Mm_drop_32 (fun H locs hP hD hS => ?_)
        rw [fd_set_pF] at hP hD
        have hI8 : fd_Inv (fd_spF σ1 (k - 1).toNatClampNeg (fd_pF σ1 k.toNatClampNeg)) := fd_inv_pF (fd_plt hI11 hb6) hI11
        refine lv_iinc (v := k + 1) (lv' := [(3, .int (k + 1)), (2, .ref (ad (51 + (fd_pF σ p1.toNatClampNeg)))), (0, .ref (ad 1)), (1, .int p1)]) hx hb fx_Mm_drop_33 hl (k := 0) rfl rfl (by decide) rfl (fun ls hl => ?_)
        refine lv_goto (tgt := 11) hx hb fx_Mm_drop_36 (by decide) ?_
        exact ih (fd_spF σ1 (k - 1).toNatClampNeg (fd_pF σ1 k.toNatClampNeg)) (k + 1) (fd_stepd hI8 hk c2) hs hI8 (by rw [hm11, fv_Mm_drop_l11, if_neg c2]) H locs hP hD hS ls (lv_sub hl [0, 1, 2, 3] rfl)
  exact hL11 7 σ (p1 + 1) (fd_k1 hp) rfl hI (by rw [fv_Mm_drop]) H locs hP hD hS ls (lv_sub hl [0, 1, 2, 3] rfl)
