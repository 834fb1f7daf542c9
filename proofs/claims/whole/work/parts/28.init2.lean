/-! constructors that fill an array -/
theorem fd_lwof : (Cond.arrayOver (.object "FetchDesk$Resource")) ∈ lw_tbl ∧ (Cond.arrayOver (.object "FetchDesk$Permit")) ∈ lw_tbl := ⟨fb_lw1 (i := 22) rfl, fb_lw1 (i := 87) rfl⟩
def fi_L (ciO : Nat) (fsO : List Value) (q : Nat) (cA : ClassId) (n ra ciE : Nat) (fsE : List Value) (i : Nat) (rp : Nat → Nat) : va_W :=
  ([(q, .inr (ciO, fsO)), (ra, .inl (cA, n, .inr (.inr (.inr (.inr (fun j => if j < i then some (rp j) else none))))))] : va_W) ++ (List.range i).map (fun j => ((rp j, .inr (ciE, fsE)) : Nat × va_E))
theorem fi_L_last {ciO : Nat} {fsO : List Value} {q : Nat} {cA : ClassId} {n ra ciE : Nat} {fsE : List Value} {i : Nat} {rp : Nat → Nat} {x : Nat × va_E} : (fi_L ciO fsO q cA n ra ciE fsE i rp ++ [x])[2 + i]? = some x := by
  unfold fi_L
  rw [List.getElem?_append_right (by simp; omega)]
  have e : 2 + i - (i + 1 + 1) = 0 := by omega
  simp [e]
theorem fi_L_step {ciO : Nat} {fsO : List Value} {q : Nat} {cA : ClassId} {n ra ciE : Nat} {fsE : List Value} {i : Nat} {rp : Nat → Nat} {q2 : Nat} : (fi_L ciO fsO q cA n ra ciE fsE i rp ++ ([(q2, .inr (ciE, fsE))] : va_W)).set 1 ((ra, .inl (cA, n, .inr (.inr (.inr (.inr (va_up (fun j => if j < i then some (rp j) else none) i (some q2))))))) : Nat × va_E) = fi_L ciO fsO q cA n ra ciE fsE (i + 1) (va_up rp i q2) := by
  have e1 : (va_up (fun j => if j < i then some (rp j) else none) i (some q2)) = (fun j => if j < i + 1 then some (va_up rp i q2 j) else none) := by
    funext j
    unfold va_up
    by_cases h : j = i
    · subst h
      simp
    · by_cases h2 : j < i
      · simp [h, h2, show j < i + 1 by omega]
      · simp [h, h2, show ¬ j < i + 1 by omega]
  have e2 : (List.range (i + 1)).map (fun j => ((va_up rp i q2 j, .inr (ciE, fsE)) : Nat × va_E)) = (List.range i).map (fun j => ((rp j, .inr (ciE, fsE)) : Nat × va_E)) ++ [(q2, .inr (ciE, fsE))] := by
    rw [List.range_succ, List.map_append]
    congr 1
    · apply List.map_congr_left
      intro j hj
      rw [va_up_ne _ _ (by have := List.mem_range.mp hj; omega)]
    · simp [va_up]
  unfold fi_L
  rw [e1, e2]
  rfl
theorem fi_L_0 {ciO : Nat} {fsO : List Value} {q : Nat} {cA : ClassId} {n ra ciE : Nat} {fsE : List Value} {rp : Nat → Nat} : fi_L ciO fsO q cA n ra ciE fsE 0 rp = [(q, .inr (ciO, fsO)), (ra, .inl (cA, n, .inr (.inr (.inr (.inr (fun _ => none))))))] := by
  unfold fi_L
  simp
abbrev fi_Pc2 (D : va_G) (q : Nat) (w : va_W) (sz : Nat) : Array Value → State → Prop := va_Pc [.ref q] (fun U => U.heap.size = sz ∧ va_P D fn_cl w U.heap ∧ va_K D fn_cl [] U ∧ va_D (fun _ => True) w ∧ fd_N U ∧ va_AO "FetchDesk$Resource" U ∧ va_AO "FetchDesk$Permit" U)
theorem fi_blind2 {D : va_G} {q sz : Nat} {w : va_W} : FrameBlind (fi_Pc2 D q w sz) := fun a U g mk h => by
  obtain ⟨q0, q1, qP, qK, qD, qN, o1, o2⟩ := h
  exact ⟨q0, q1, qP, va_K.moved (u := U) (U := U.calling g mk a) (Vm.Alike.refl U.vm) qK, qD, fd_N_same (s := U) (U := U.calling g mk a) rfl qN, va_AO.moved (u := U) (U := U.calling g mk a) (Vm.Alike.refl U.vm) o1, va_AO.moved (u := U) (U := U.calling g mk a) (Vm.Alike.refl U.vm) o2⟩
set_option maxHeartbeats 4000000 in
set_option maxRecDepth 100000 in
theorem fi_Mm (l : Launch) (D : va_G) (q sz : Nat) : Met l fy_Mm_init (fw_Mm_init :: fb_tbl) ({ frames := 2, cells := 7, slots := 42, locals := 32 } : Room) (fi_Pc2 D q [(q, .inr (0, [.null, .int 0]))] sz) (va_Qv (fun _ : ClassId × Nat × (Nat → Nat) => True) (fun u t => va_P D fn_cl (fi_L 0 [.ref u.2.1, .int 0] q u.1 6 u.2.1 1 [.int 0, .int 0, .int 0, .int 0, .int 0, .double 0] 6 u.2.2) t.heap ∧ va_K D fn_cl [(u.1, .object "FetchDesk$Permit")] t ∧ va_D (va_A [(q, .inr (0, [.null, .int 0]))] sz) (fi_L 0 [.ref u.2.1, .int 0] q u.1 6 u.2.1 1 [.int 0, .int 0, .int 0, .int 0, .int 0, .double 0] 6 u.2.2)) (va_A [(q, .inr (0, [.null, .int 0]))] sz)) 7 42 (va_A [(q, .inr (0, [.null, .int 0]))] sz) := by
  refine Met.ofW (cc := fb_Mm_init) (maxL := 2) (ret := none) (by decide) rfl ?_
  intro p e s m args below meth c s₁ B hml hv
  obtain ⟨rfl, hsz, hP, hK, hD0, hN, hO1, hO2⟩ := hv
  have hx := B.exec
  have hb := B.bytes
  have hr := B.returns
  have hts := atoms_spec (ws := fw_Mm_init :: fb_tbl) B.pre
  have hown : s.vm.findClass fn_R_Mm = some m.cls := findClass_of_methodNamed B.named
  have hlocks := B.notSynchronized
  have hin : meth.name = "<init>" := (name_of_methodNamed B.named B.method).1
  subst hsz
  have hD := hD0.self (sz := s.heap.size)
  have hA0 : ∀ z : Nat, s.heap.size ≤ z → va_A [(q, .inr (0, [.null, .int 0]))] s.heap.size z := fun z h => Or.inr h
  generalize va_A [(q, .inr (0, [.null, .int 0]))] s.heap.size = A at hD hA0 ⊢
  have hA : ∀ z : Nat, s.heap.size ≤ z → A z := hA0
  have hS : va_S A s.heap s.heap [] := va_S.rf
  have hl := lv_entry ([.ref q]) (n := 2) (Nat.le_of_ble_eq_true rfl)
  rw [lg_entry_eq]
  generalize (lg_sl ([.ref q]) ++ List.replicate (2 - (lg_sl ([.ref q])).length) Slot.unset).toArray = ls at hl ⊢
  have hl : lv_has ls 2 [(0, .ref q)] := hl
  obtain ⟨Q, hQ⟩ : ∃ Q, Q = MQ below (va_Qv (fun _ : ClassId × Nat × (Nat → Nat) => True) (fun u t => va_P D fn_cl (fi_L 0 [.ref u.2.1, .int 0] q u.1 6 u.2.1 1 [.int 0, .int 0, .int 0, .int 0, .int 0, .double 0] 6 u.2.2) t.heap ∧ va_K D fn_cl [(u.1, .object "FetchDesk$Permit")] t ∧ va_D A (fi_L 0 [.ref u.2.1, .int 0] q u.1 6 u.2.1 1 [.int 0, .int 0, .int 0, .int 0, .int 0, .double 0] 6 u.2.2)) A) (([.ref q] : List Value).toArray) s 7 42 A := ⟨_, rfl⟩
  rw [← hQ]
  show W p l e ({ frames := 2, cells := 7, slots := 42, locals := 32 } : Room) s m _ below meth c s.heap [] 0 0 Q _
  generalize (([.ref q] : List Value).toArray) = args at *
  refine lv_aload_n hx hb fx_Mm_init_0 rfl (lv_at hl 0 rfl) ?_
  refine W.objInit hx hb hown (hts _ (List.mem_cons_of_mem _ fq_85)) (hts _ (List.mem_cons_of_mem _ fq_19)) (hts _ (List.mem_cons_of_mem _ fo_code)) rfl (by rw [hml]; exact hl.1) rfl fx_Mm_init_1 (Nat.le_of_ble_eq_true rfl) (Nat.le_of_ble_eq_true rfl) ?_
  refine W.eq (g2 := F0 m 4 ls []) rfl ?_
  refine lv_aload_n hx hb fx_Mm_init_4 rfl (lv_at hl 0 rfl) ?_
  refine lv_bipush (v := 6) hx hb fx_Mm_init_5 (by decide) ?_
  refine va_newq (D := D) hx hb hown (hts _ (List.mem_cons_of_mem _ fq_86)) hO2 hK hP hD hS hA (by decide) rfl (by decide) (Nat.le_of_ble_eq_true rfl) (Nat.le_of_ble_eq_true rfl) fx_Mm_init_7 (fun ra cA H hK hP hD hS => ?_)
  have hP : va_P D fn_cl [(q, .inr (0, [.null, .int 0])), (ra, .inl (cA, 6, .inr (.inr (.inr (.inr (fun _ => none))))))] H := hP
  have hD : va_D A [(q, .inr (0, [.null, .int 0])), (ra, .inl (cA, 6, .inr (.inr (.inr (.inr (fun _ => none))))))] := hD
  have hK : va_K D fn_cl [(cA, .object "FetchDesk$Permit")] s := hK
  refine va_putF (D := D) (ci := 0) (v := .ref ra) (ty := .array (.object "FetchDesk$Permit")) (C := fn_R_Mm) (T := fn_T_Mm) (N := 2) hx hb hts fn_j_Mm fn_t_Mm fn_k_Mm fn_n_Mm hown hK hP hD hS 0 rfl rfl 0 (by decide) (hts _ (List.mem_cons_of_mem _ fq_124)) (fun _ h9 => h9) rfl hin rfl (by decide +kernel) rfl rfl (Nat.le_of_ble_eq_true rfl) fx_Mm_init_10 (fun H locs hP hD hS => ?_)
  have hP : va_P D fn_cl (fi_L 0 [.ref ra, .int 0] q cA 6 ra 1 [.int 0, .int 0, .int 0, .int 0, .int 0, .double 0] 0 (fun _ => 0)) H := by rw [fi_L_0]; exact hP
  have hD : va_D A (fi_L 0 [.ref ra, .int 0] q cA 6 ra 1 [.int 0, .int 0, .int 0, .int 0, .int 0, .double 0] 0 (fun _ => 0)) := by rw [fi_L_0]; exact hD
  refine lv_iconst (v := 0) hx hb fx_Mm_init_13 (by decide) ?_
  refine lv_istore_n (lv' := [(1, .int 0), (0, .ref q)]) hx hb fx_Mm_init_14 rfl hl (by decide) rfl (fun ls hl => ?_)
  refine W.widen (k := 1 + 0) (n := 6 + 0 * 6) (by decide) (by decide) ?_
  suffices hL : ∀ (n9 i : Nat) (rp : Nat → Nat), i ≤ 6 → 7 ≤ n9 + i → ∀ (H : Heap) (locs : List Loc), va_P D fn_cl (fi_L 0 [.ref ra, .int 0] q cA 6 ra 1 [.int 0, .int 0, .int 0, .int 0, .int 0, .double 0] i rp) H → va_D A (fi_L 0 [.ref ra, .int 0] q cA 6 ra 1 [.int 0, .int 0, .int 0, .int 0, .int 0, .double 0] i rp) → va_S A s.heap H locs → ∀ (ls : Array Slot), lv_has ls 2 [(1, .int (nI i)), (0, .ref q)] → W p l e ({ frames := 2, cells := 7, slots := 42, locals := 32 } : Room) s m args below meth c H locs (1 + i) (6 + i * 6) Q (F0 m 15 ls []) from hL 7 0 _ (by decide) (by decide) H locs hP hD hS ls hl
  clear hP hD hS hl
  intro n9
  induction n9 with
  | zero =>
    intro i rp h1 h2
    omega
  | succ n9 ih =>
    intro i rp hi hn9 H locs hP hD hS ls hl
    refine lv_iload_n hx hb fx_Mm_init_15 rfl (lv_at hl 0 rfl) ?_
    refine lv_bipush (v := 6) hx hb fx_Mm_init_16 (by decide) ?_
    refine lv_icmp_ge (tgt := 40) hx hb fx_Mm_init_18 (by decide) (fun c1 => ?_) (fun c1 => ?_)
    · have ei : i = 6 := by
        rcases Nat.lt_or_ge i 6 with q1 | q1
        · exact absurd c1 (nI_ge (b := 6) q1 (by decide))
        · omega
      subst ei
      rw [hQ]
      exact W.vret hx hb hr (fun t ht hW => ⟨⟨(cA, ra, rp), rfl, trivial, by rw [ht]; exact hP, va_K.moved hW.alike hK, hD⟩, hS.F ht⟩) hS.2.2 fx_Mm_init_40 hlocks
    · have hlt : i < 6 := by
        rcases Nat.lt_or_ge i 6 with q1 | q1
        · exact q1
        · exact absurd (nI_le (a := 6) q1 (by omega)) c1
      refine lv_aload_n hx hb fx_Mm_init_21 rfl (lv_at hl 1 rfl) ?_
      refine va_get (D := D) (ci := 0) (v := .ref ra) (C := fn_R_Mm) (T := fn_T_Mm) (N := 2) hx hb hts fn_j_Mm hown hK hP 0 rfl rfl 0 (by decide) (hts _ (List.mem_cons_of_mem _ fq_124)) (fun _ h9 => h9) rfl fx_Mm_init_22 ?_
      refine lv_iload_n hx hb fx_Mm_init_25 rfl (lv_at hl 0 rfl) ?_
      refine va_new (D := D) (ci := 1) (fs := [.int 0, .int 0, .int 0, .int 0, .int 0, .double 0]) (C := fn_R_Pm) (T := fn_T_Pm) (N := 6) hx hb hts fn_j_Pm fn_t_Pm fn_k_Pm hown (hts _ (List.mem_cons_of_mem _ fq_86)) (hts _ (List.mem_cons_of_mem _ fq_88)) (hts _ (List.mem_cons_of_mem _ fq_4)) hK hP hD hS hA rfl (by decide) (by show 1 + i + 1 ≤ _; exact Nat.le_trans (show 1 + i + 1 ≤ 6 + 1 by omega) (by decide)) (by show 6 + i * 6 + 6 ≤ _; exact Nat.le_trans (show 6 + i * 6 + 6 ≤ 6 + 6 * 6 by omega) (by decide)) fx_Mm_init_26 (fun q2 H hP hD hS => ?_)
      refine lv_dup hx hb fx_Mm_init_29 rfl ?_
      have hFc := fd_freeR hD hS hA
      refine va_callv (va_runIN (As := []) (rest := [.ref q2, .int (nI i), .ref ra]) ⟨hx, hb, hml, hown, hts⟩ (fi_Pm l D q2 H.size) ⟨va_cnB 0 hts (fb_good fm_Pm_init) rfl rfl rfl (hN _ fq_89) (hts _ (List.mem_cons_of_mem _ fq_4)) (by decide +kernel) ⟨Nat.le_of_ble_eq_true rfl, Nat.le_of_ble_eq_true rfl⟩, rfl, (hts _ (List.mem_cons_of_mem _ fq_90))⟩ ⟨fi_blind, fun U hU hW => ⟨rfl, by rw [hU], by rw [hU]; exact fd_PR hP, va_K.moved hW.alike (hK.sub [] rfl), (fd_DR hD).weaken (fun _ _ _ _ => trivial), fd_N_warm hW hN⟩⟩ rfl rfl hl.1 rfl (lv_room (Nat.le_of_ble_eq_true rfl)) fx_Mm_init_30 (by show 1 + i + 1 + 0 ≤ _ ∧ 6 + i * 6 + 6 + 0 ≤ _; exact ⟨Nat.le_trans (show 1 + i + 1 + 0 ≤ 6 + 1 by omega) (by decide), Nat.le_trans (show 6 + i * 6 + 6 + 0 ≤ 6 + 6 * 6 by omega) (by decide)⟩)) hS (fun z _ h => hFc z h) hFc (fun u t H1 locs ht hvm hw hB hz1 hk1 hS => ?_)
      obtain ⟨hP1, hD1⟩ := hB
      rw [ht] at hP1
      obtain ⟨hP, hD⟩ := fd_frameR hP hD hk1 hFc hP1 hD1
      have hin2 : vp_in (nI i) 6 := vp_in_nI hlt (by decide)
      refine va_astq (D := D) hx hb hK hP hD hS 1 0 (2 + i) 1 rfl rfl fi_L_last rfl hin2 fx_Mm_init_33 (fun H locs hP hD hS => ?_)
      rw [nI_clamp (show i < 2 ^ 31 by omega), fi_L_step] at hP hD
      refine lv_iinc (v := nI i + 1) (lv' := [(1, .int (nI i + 1)), (0, .ref q)]) hx hb fx_Mm_init_34 hl (k := 0) rfl rfl (by decide) rfl (fun ls hl => ?_)
      refine lv_goto (tgt := 15) hx hb fx_Mm_init_37 (by decide) ?_
      rw [nI_1] at hl
      refine W.widen (k := 1 + (i + 1)) (n := 6 + (i + 1) * 6) (by omega) (by omega) ?_
      exact ih (i + 1) _ hlt (by omega) H locs hP hD hS ls hl
