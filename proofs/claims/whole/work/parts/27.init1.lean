/-! frames over worlds in two halves; constructors -/
theorem fo_code : (Cond.code objectInit ⟨#[0xb1]⟩ 1 none) ∈ fb_tbl := fb_mem1 (i := 20) rfl rfl
theorem fd_PL {D : va_G} {cl : List vw_C} {X Y : va_W} {H : Heap} (h : va_P D cl (X ++ Y) H) : va_P D cl X H := fun k q hk => h k q (by
  rw [List.getElem?_append_left (List.getElem?_eq_some_iff.mp hk).1]
  exact hk)
theorem fd_PR {D : va_G} {cl : List vw_C} {X Y : va_W} {H : Heap} (h : va_P D cl (X ++ Y) H) : va_P D cl Y H := fun k q hk => h (X.length + k) q (by
  rw [List.getElem?_append_right (by omega), Nat.add_sub_cancel_left]
  exact hk)
theorem fd_DL {A : Nat → Prop} {X Y : va_W} (h : va_D A (X ++ Y)) : va_D A X := by
  have key : ∀ (k : Nat) (q : Nat × va_E), X[k]? = some q → (X ++ Y)[k]? = some q := fun k q hk => by
    rw [List.getElem?_append_left (List.getElem?_eq_some_iff.mp hk).1]
    exact hk
  exact ⟨fun i j p q hi hj e => h.1 i j p q (key i p hi) (key j q hj) e, fun k q hk => h.2 k q (key k q hk)⟩
theorem fd_DR {A : Nat → Prop} {X Y : va_W} (h : va_D A (X ++ Y)) : va_D A Y := by
  have key : ∀ (k : Nat) (q : Nat × va_E), Y[k]? = some q → (X ++ Y)[X.length + k]? = some q := fun k q hk => by
    rw [List.getElem?_append_right (by omega), Nat.add_sub_cancel_left]
    exact hk
  exact ⟨fun i j p q hi hj e => by have := h.1 _ _ p q (key i p hi) (key j q hj) e; omega, fun k q hk => h.2 _ q (key k q hk)⟩
theorem fd_DX {A : Nat → Prop} {X Y : va_W} (h : va_D A (X ++ Y)) {i j : Nat} {p q : Nat × va_E} (hi : X[i]? = some p) (hj : Y[j]? = some q) : p.1 ≠ q.1 := fun e => by
  have hl := (List.getElem?_eq_some_iff.mp hi).1
  have := h.1 i (X.length + j) p q (by rw [List.getElem?_append_left hl]; exact hi) (by rw [List.getElem?_append_right (by omega), Nat.add_sub_cancel_left]; exact hj) e
  omega
/-- behind a call that had the right half -/
theorem fd_frameR {A0 : Nat → Prop} {D : va_G} {cl : List vw_C} {X Y Y1 : va_W} {H H1 : Heap} (hP : va_P D cl (X ++ Y) H) (hD : va_D A0 (X ++ Y)) (hk : ∀ q : Nat, q < H.size → ¬ va_A Y H.size q → H1[q]? = H[q]?) (hF : ∀ q, va_A Y H.size q → A0 q) (hP1 : va_P D cl Y1 H1) (hD1 : va_D (va_A Y H.size) Y1) : va_P D cl (X ++ Y1) H1 ∧ va_D A0 (X ++ Y1) := by
  have apart : ∀ (k : Nat) (q : Nat × va_E), X[k]? = some q → q.1 < H.size ∧ ¬ va_A Y H.size q.1 := fun k q hq => by
    have hl := (fd_PL hP k q hq).lt
    refine ⟨hl, fun h => ?_⟩
    rcases h with ⟨j, e, h⟩ | h
    · exact fd_DX hD hq h rfl
    · omega
  refine ⟨va_P.app (fun k q hq => (fd_PL hP k q hq).kept (hk q.1 (apart k q hq).1 (apart k q hq).2)) hP1, va_D.app (fd_DL hD) (hD1.weaken (fun k q _ h => hF q.1 h)) (fun i j x y hx hy hxy => ?_)⟩
  exact (apart i x hx).2 (by rw [hxy]; exact hD1.2 j y hy)
/-- behind a call that had the left half -/
theorem fd_frameL {A0 : Nat → Prop} {D : va_G} {cl : List vw_C} {X Y X1 : va_W} {H H1 : Heap} (hP : va_P D cl (X ++ Y) H) (hD : va_D A0 (X ++ Y)) (hk : ∀ q : Nat, q < H.size → ¬ va_A X H.size q → H1[q]? = H[q]?) (hF : ∀ q, va_A X H.size q → A0 q) (hP1 : va_P D cl X1 H1) (hD1 : va_D (va_A X H.size) X1) : va_P D cl (X1 ++ Y) H1 ∧ va_D A0 (X1 ++ Y) := by
  have apart : ∀ (k : Nat) (q : Nat × va_E), Y[k]? = some q → q.1 < H.size ∧ ¬ va_A X H.size q.1 := fun k q hq => by
    have hl := (fd_PR hP k q hq).lt
    refine ⟨hl, fun h => ?_⟩
    rcases h with ⟨j, e, h⟩ | h
    · exact fd_DX hD h hq rfl
    · omega
  refine ⟨va_P.app hP1 (fun k q hq => (fd_PR hP k q hq).kept (hk q.1 (apart k q hq).1 (apart k q hq).2)), va_D.app (hD1.weaken (fun k q _ h => hF q.1 h)) (fd_DR hD) (fun i j x y hx hy hxy => ?_)⟩
  exact (apart j y hy).2 (by rw [← hxy]; exact hD1.2 i x hx)
theorem fd_freeR {A : Nat → Prop} {X Y : va_W} {H0 H : Heap} {locs : List Loc} (hD : va_D A (X ++ Y)) (hS : va_S A H0 H locs) (hA : ∀ q : Nat, H0.size ≤ q → A q) : ∀ q, va_A Y H.size q → A q := fd_free (fd_DR hD) hS hA
theorem fd_freeL {A : Nat → Prop} {X Y : va_W} {H0 H : Heap} {locs : List Loc} (hD : va_D A (X ++ Y)) (hS : va_S A H0 H locs) (hA : ∀ q : Nat, H0.size ≤ q → A q) : ∀ q, va_A X H.size q → A q := fd_free (fd_DL hD) hS hA
/-- the start and the end of a constructor of one cell -/
abbrev fi_Pc (D : va_G) (N : State → Prop) (q : Nat) (w : va_W) (sz : Nat) : Array Value → State → Prop := va_Pc [.ref q] (fun U => U.heap.size = sz ∧ va_P D fn_cl w U.heap ∧ va_K D fn_cl [] U ∧ va_D (fun _ => True) w ∧ fd_N U)
theorem fi_blind {D : va_G} {N : State → Prop} {q sz : Nat} {w : va_W} : FrameBlind (fi_Pc D N q w sz) := fun a U g mk h => by
  obtain ⟨q0, q1, qP, qK, qD, qN⟩ := h
  exact ⟨q0, q1, qP, va_K.moved (u := U) (U := U.calling g mk a) (Vm.Alike.refl U.vm) qK, qD, fd_N_same (s := U) (U := U.calling g mk a) rfl qN⟩
set_option maxHeartbeats 4000000 in
set_option maxRecDepth 100000 in
theorem fi_Pm (l : Launch) (D : va_G) (q sz : Nat) : Met l fy_Pm_init (fw_Pm_init :: fb_tbl) ({ frames := 1, cells := 0, slots := 0, locals := 12 } : Room) (fi_Pc D fd_N q [(q, .inr (1, [.int 0, .int 0, .int 0, .int 0, .int 0, .double 0]))] sz) (va_Qv (fun _ : Unit => True) (fun _ t => va_P D fn_cl [(q, .inr (1, [.int 0, .int 0, .int 0, .int 0, .int 0, .double 0]))] t.heap ∧ va_D (va_A [(q, .inr (1, [.int 0, .int 0, .int 0, .int 0, .int 0, .double 0]))] sz) [(q, .inr (1, [.int 0, .int 0, .int 0, .int 0, .int 0, .double 0]))]) (va_A [(q, .inr (1, [.int 0, .int 0, .int 0, .int 0, .int 0, .double 0]))] sz)) 0 0 (va_A [(q, .inr (1, [.int 0, .int 0, .int 0, .int 0, .int 0, .double 0]))] sz) := by
  refine Met.ofW (cc := fb_Pm_init) (maxL := 1) (ret := none) (by decide) rfl ?_
  intro p e s m args below meth c s₁ B hml hv
  obtain ⟨rfl, hsz, hP, hK, hD0, hN⟩ := hv
  have hx := B.exec
  have hb := B.bytes
  have hr := B.returns
  have hts := atoms_spec (ws := fw_Pm_init :: fb_tbl) B.pre
  have hown : s.vm.findClass fn_R_Pm = some m.cls := findClass_of_methodNamed B.named
  have hlocks := B.notSynchronized
  subst hsz
  have hD := hD0.self (sz := s.heap.size)
  generalize va_A [(q, .inr (1, [.int 0, .int 0, .int 0, .int 0, .int 0, .double 0]))] s.heap.size = A at hD ⊢
  have hS : va_S A s.heap s.heap [] := va_S.rf
  have hl := lv_entry ([.ref q]) (n := 1) (Nat.le_of_ble_eq_true rfl)
  rw [lg_entry_eq]
  generalize (lg_sl ([.ref q]) ++ List.replicate (1 - (lg_sl ([.ref q])).length) Slot.unset).toArray = ls at hl ⊢
  have hl : lv_has ls 1 [(0, .ref q)] := hl
  refine lv_aload_n hx hb fx_Pm_init_0 rfl (lv_at hl 0 rfl) ?_
  refine W.objInit hx hb hown (hts _ (List.mem_cons_of_mem _ fq_92)) (hts _ (List.mem_cons_of_mem _ fq_19)) (hts _ (List.mem_cons_of_mem _ fo_code)) rfl (by rw [hml]; exact hl.1) rfl fx_Pm_init_1 (Nat.le_of_ble_eq_true rfl) (Nat.le_of_ble_eq_true rfl) ?_
  refine W.eq (g2 := F0 m 4 ls []) rfl ?_
  exact W.vret hx hb hr (fun t ht hW => ⟨⟨(), rfl, trivial, by rw [ht]; exact hP, hD⟩, hS.F ht⟩) hS.2.2 fx_Pm_init_4 hlocks
set_option maxHeartbeats 4000000 in
set_option maxRecDepth 100000 in
theorem fi_Rq (l : Launch) (D : va_G) (q sz : Nat) : Met l fy_Rq_init (fw_Rq_init :: fb_tbl) ({ frames := 1, cells := 0, slots := 0, locals := 12 } : Room) (fi_Pc D fd_N q [(q, .inr (2, [.int 0, .int 0, .int 0, .int 0, .int 0, .int 0, .int 0, .int 0, .int 0, .int 0, .int 0, .int 0, .int 0, .int 0, .int 0]))] sz) (va_Qv (fun _ : Unit => True) (fun _ t => va_P D fn_cl [(q, .inr (2, [.int 0, .int 0, .int 0, .int 0, .int 0, .int 0, .int 0, .int 0, .int 0, .int 0, .int 0, .int 0, .int 0, .int 0, .int 0]))] t.heap ∧ va_D (va_A [(q, .inr (2, [.int 0, .int 0, .int 0, .int 0, .int 0, .int 0, .int 0, .int 0, .int 0, .int 0, .int 0, .int 0, .int 0, .int 0, .int 0]))] sz) [(q, .inr (2, [.int 0, .int 0, .int 0, .int 0, .int 0, .int 0, .int 0, .int 0, .int 0, .int 0, .int 0, .int 0, .int 0, .int 0, .int 0]))]) (va_A [(q, .inr (2, [.int 0, .int 0, .int 0, .int 0, .int 0, .int 0, .int 0, .int 0, .int 0, .int 0, .int 0, .int 0, .int 0, .int 0, .int 0]))] sz)) 0 0 (va_A [(q, .inr (2, [.int 0, .int 0, .int 0, .int 0, .int 0, .int 0, .int 0, .int 0, .int 0, .int 0, .int 0, .int 0, .int 0, .int 0, .int 0]))] sz) := by
  refine Met.ofW (cc := fb_Rq_init) (maxL := 1) (ret := none) (by decide) rfl ?_
  intro p e s m args below meth c s₁ B hml hv
  obtain ⟨rfl, hsz, hP, hK, hD0, hN⟩ := hv
  have hx := B.exec
  have hb := B.bytes
  have hr := B.returns
  have hts := atoms_spec (ws := fw_Rq_init :: fb_tbl) B.pre
  have hown : s.vm.findClass fn_R_Rq = some m.cls := findClass_of_methodNamed B.named
  have hlocks := B.notSynchronized
  subst hsz
  have hD := hD0.self (sz := s.heap.size)
  generalize va_A [(q, .inr (2, [.int 0, .int 0, .int 0, .int 0, .int 0, .int 0, .int 0, .int 0, .int 0, .int 0, .int 0, .int 0, .int 0, .int 0, .int 0]))] s.heap.size = A at hD ⊢
  have hS : va_S A s.heap s.heap [] := va_S.rf
  have hl := lv_entry ([.ref q]) (n := 1) (Nat.le_of_ble_eq_true rfl)
  rw [lg_entry_eq]
  generalize (lg_sl ([.ref q]) ++ List.replicate (1 - (lg_sl ([.ref q])).length) Slot.unset).toArray = ls at hl ⊢
  have hl : lv_has ls 1 [(0, .ref q)] := hl
  refine lv_aload_n hx hb fx_Rq_init_0 rfl (lv_at hl 0 rfl) ?_
  refine W.objInit hx hb hown (hts _ (List.mem_cons_of_mem _ fq_138)) (hts _ (List.mem_cons_of_mem _ fq_19)) (hts _ (List.mem_cons_of_mem _ fo_code)) rfl (by rw [hml]; exact hl.1) rfl fx_Rq_init_1 (Nat.le_of_ble_eq_true rfl) (Nat.le_of_ble_eq_true rfl) ?_
  refine W.eq (g2 := F0 m 4 ls []) rfl ?_
  exact W.vret hx hb hr (fun t ht hW => ⟨⟨(), rfl, trivial, by rw [ht]; exact hP, hD⟩, hS.F ht⟩) hS.2.2 fx_Rq_init_4 hlocks
set_option maxHeartbeats 4000000 in
set_option maxRecDepth 100000 in
theorem fi_Rs (l : Launch) (D : va_G) (q sz : Nat) : Met l fy_Rs_init (fw_Rs_init :: fb_tbl) ({ frames := 1, cells := 0, slots := 0, locals := 12 } : Room) (fi_Pc D fd_N q [(q, .inr (3, [.int 0, .int 0, .int 0, .int 0, .int 0, .int 0, .int 0, .int 0, .int 0, .int 0, .double 0, .int 0, .int 0]))] sz) (va_Qv (fun _ : Unit => True) (fun _ t => va_P D fn_cl [(q, .inr (3, [.int 200, .int 0, .int (-1), .int 0, .int 0, .int 0, .int 0, .int 0, .int 0, .int 0, .double 0, .int 0, .int 0]))] t.heap ∧ va_D (va_A [(q, .inr (3, [.int 0, .int 0, .int 0, .int 0, .int 0, .int 0, .int 0, .int 0, .int 0, .int 0, .double 0, .int 0, .int 0]))] sz) [(q, .inr (3, [.int 200, .int 0, .int (-1), .int 0, .int 0, .int 0, .int 0, .int 0, .int 0, .int 0, .double 0, .int 0, .int 0]))]) (va_A [(q, .inr (3, [.int 0, .int 0, .int 0, .int 0, .int 0, .int 0, .int 0, .int 0, .int 0, .int 0, .double 0, .int 0, .int 0]))] sz)) 0 0 (va_A [(q, .inr (3, [.int 0, .int 0, .int 0, .int 0, .int 0, .int 0, .int 0, .int 0, .int 0, .int 0, .double 0, .int 0, .int 0]))] sz) := by
  refine Met.ofW (cc := fb_Rs_init) (maxL := 1) (ret := none) (by decide) rfl ?_
  intro p e s m args below meth c s₁ B hml hv
  obtain ⟨rfl, hsz, hP, hK, hD0, hN⟩ := hv
  have hx := B.exec
  have hb := B.bytes
  have hr := B.returns
  have hts := atoms_spec (ws := fw_Rs_init :: fb_tbl) B.pre
  have hown : s.vm.findClass fn_R_Rs = some m.cls := findClass_of_methodNamed B.named
  have hlocks := B.notSynchronized
  subst hsz
  have hD := hD0.self (sz := s.heap.size)
  generalize va_A [(q, .inr (3, [.int 0, .int 0, .int 0, .int 0, .int 0, .int 0, .int 0, .int 0, .int 0, .int 0, .double 0, .int 0, .int 0]))] s.heap.size = A at hD ⊢
  have hS : va_S A s.heap s.heap [] := va_S.rf
  have hl := lv_entry ([.ref q]) (n := 1) (Nat.le_of_ble_eq_true rfl)
  rw [lg_entry_eq]
  generalize (lg_sl ([.ref q]) ++ List.replicate (1 - (lg_sl ([.ref q])).length) Slot.unset).toArray = ls at hl ⊢
  have hl : lv_has ls 1 [(0, .ref q)] := hl
  refine lv_aload_n hx hb fx_Rs_init_0 rfl (lv_at hl 0 rfl) ?_
  refine W.objInit hx hb hown (hts _ (List.mem_cons_of_mem _ fq_27)) (hts _ (List.mem_cons_of_mem _ fq_19)) (hts _ (List.mem_cons_of_mem _ fo_code)) rfl (by rw [hml]; exact hl.1) rfl fx_Rs_init_1 (Nat.le_of_ble_eq_true rfl) (Nat.le_of_ble_eq_true rfl) ?_
  refine W.eq (g2 := F0 m 4 ls []) rfl ?_
  refine lv_aload_n hx hb fx_Rs_init_4 rfl (lv_at hl 0 rfl) ?_
  refine lv_sipush (v := 200) hx hb fx_Rs_init_5 (by decide) ?_
  refine va_put (D := D) (ci := 3) (v := .int 200) (ty := .int) (C := fn_R_Rs) (T := fn_T_Rs) (N := 13) hx hb hts fn_j_Rs fn_t_Rs fn_k_Rs fn_n_Rs hown hK hP hD hS 0 rfl rfl 0 (by decide) (hts _ (List.mem_cons_of_mem _ fq_28)) (fun _ h9 => h9) rfl (by decide +kernel) rfl rfl (Nat.le_of_ble_eq_true rfl) fx_Rs_init_8 (fun H locs hP hD hS => ?_)
  have hP : va_P D fn_cl [(q, .inr (3, [.int 200, .int 0, .int 0, .int 0, .int 0, .int 0, .int 0, .int 0, .int 0, .int 0, .double 0, .int 0, .int 0]))] H := hP
  have hD : va_D A [(q, .inr (3, [.int 200, .int 0, .int 0, .int 0, .int 0, .int 0, .int 0, .int 0, .int 0, .int 0, .double 0, .int 0, .int 0]))] := hD
  refine lv_aload_n hx hb fx_Rs_init_11 rfl (lv_at hl 0 rfl) ?_
  refine lv_iconst (v := (-1)) hx hb fx_Rs_init_12 (by decide) ?_
  refine va_put (D := D) (ci := 3) (v := .int (-1)) (ty := .int) (C := fn_R_Rs) (T := fn_T_Rs) (N := 13) hx hb hts fn_j_Rs fn_t_Rs fn_k_Rs fn_n_Rs hown hK hP hD hS 0 rfl rfl 2 (by decide) (hts _ (List.mem_cons_of_mem _ fq_33)) (fun _ h9 => h9) rfl (by decide +kernel) rfl rfl (Nat.le_of_ble_eq_true rfl) fx_Rs_init_13 (fun H locs hP hD hS => ?_)
  have hP : va_P D fn_cl [(q, .inr (3, [.int 200, .int 0, .int (-1), .int 0, .int 0, .int 0, .int 0, .int 0, .int 0, .int 0, .double 0, .int 0, .int 0]))] H := hP
  have hD : va_D A [(q, .inr (3, [.int 200, .int 0, .int (-1), .int 0, .int 0, .int 0, .int 0, .int 0, .int 0, .int 0, .double 0, .int 0, .int 0]))] := hD
  exact W.vret hx hb hr (fun t ht hW => ⟨⟨(), rfl, trivial, by rw [ht]; exact hP, hD⟩, hS.F ht⟩) hS.2.2 fx_Rs_init_16 hlocks
