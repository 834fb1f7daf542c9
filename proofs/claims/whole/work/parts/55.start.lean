/-- the two arrays, made behind the model, stand before it -/
theorem fL_put {A : Nat → Prop} {D : va_G} {cR cP cO cE : ClassId} {ad : Nat → Nat} {oa ob : Nat} {ca : Nat → ClassId} {am : Nat → Nat} {σ : FDS} {x : Int64} {y : UInt64} {μ : FMS} {H : Heap} (hP : va_P D fn_cl (((fd_w cR cP ad σ ++ fm_w ca am μ) ++ [(oa, .inl (cO, (1, .inr (.inl (fun _ => x)))))]) ++ [(ob, .inl (cE, (1, .inr (.inr (.inr (.inl (fun _ => y)))))))]) H) (hD : va_D A (((fd_w cR cP ad σ ++ fm_w ca am μ) ++ [(oa, .inl (cO, (1, .inr (.inl (fun _ => x)))))]) ++ [(ob, .inl (cE, (1, .inr (.inr (.inr (.inl (fun _ => y)))))))])) : va_P D fn_cl (fL_w cR cP cO cE ad oa ob ca am σ x y μ) H ∧ va_D A (fL_w cR cP cO cE ad oa ob ca am σ x y μ) := by
  unfold fL_w
  rw [List.append_assoc (fd_w cR cP ad σ ++ fm_w ca am μ)] at hP hD
  rw [List.append_assoc (fd_w cR cP ad σ)]
  exact ⟨hP.swap, hD.swap⟩
theorem fL_nw : ∀ w ∈ fn_nw, w ∈ lw_tbl ∧ w.onTables = true := by decide +kernel
theorem fL_xw : ∀ w ∈ fn_xw, w ∈ lw_tbl ∧ w.onTables = true := by decide +kernel
theorem fL_wz : Cond.laysStatic Bundle.tN "UNASSIGNED_STACK" Bundle.steD ∈ lw_tbl ∧ Cond.laysStatic Bundle.tN "SUPPRESSED_SENTINEL" Bundle.listD ∈ lw_tbl ∧ Cond.initialized Bundle.tN ∈ lw_tbl := by decide +kernel
theorem fL_wg : Cond.isRef (.static Bundle.tN "UNASSIGNED_STACK" Bundle.steD) ∈ flatC (Jvm.Cond.and given_1 narrow_1) ∧ Cond.isRef (.static Bundle.tN "SUPPRESSED_SENTINEL" Bundle.listD) ∈ flatC (Jvm.Cond.and given_1 narrow_1) ∧ Cond.not (.castable fd_E2 fd_E1) ∈ flatC (Jvm.Cond.and given_1 narrow_1) ∧ Cond.not (.castable fd_E3 fd_E1) ∈ flatC (Jvm.Cond.and given_1 narrow_1) := by decide +kernel
set_option maxHeartbeats 4000000 in
/-- THE LAW, from its entry -/
theorem whole_start {p : Program} {e : Env} {s : State} {m : MethodId} {below : List Frame} {meth : Method} {c : Code} (l : Launch) (hst : l.stackTraces = false) {b L : Nat} {xs : Nat → Int32} (hL : L ≤ 4096) (C0 : lw_At p s m meth c b L xs) : W p l e room_1 s m #[Value.ref b] below meth c s.heap [] 0 0 (lw_Z below #[Value.ref b] s) (entryFrame m ([Value.ref b] : List Value).toArray 9) := by
  obtain ⟨hx, hb, hr, hml, hown, hts, hXs, hbl, hlocks, hgv⟩ := id C0
  have hA : ∀ q : Nat, s.heap.size ≤ q → (fun q : Nat => s.heap.size ≤ q) q := fun _ h => h
  have hbA : ¬ (fun q : Nat => s.heap.size ≤ q) b := Nat.not_le.mpr hbl
  have hflat := flat_of_before _ hgv
  have hN : fd_N s := fun w hw => va_Nw.of (fL_nw w hw).2 (hts w (fL_nw w hw).1)
  have hX : fd_X s := fun w hw => va_Nw.of (fL_xw w hw).2 (hts w (fL_xw w hw).1)
  have hXn : fd_Xn s := ⟨va_Nc.of (hflat _ fL_wg.2.2.1), va_Nc.of (hflat _ fL_wg.2.2.2)⟩
  have hZ : fd_Zs (fun q : Nat => s.heap.size ≤ q) s s.heap := ⟨vx_Zqof (hts _ fL_wz.1) (hts _ fL_wz.2.2) (hflat _ fL_wg.1) (fun a h => Nat.not_le.mpr h), vx_Zqof (hts _ fL_wz.2.1) (hts _ fL_wz.2.2) (hflat _ fL_wg.2.1) (fun a h => Nat.not_le.mpr h)⟩
  have hO1 : va_AO "FetchDesk$Resource" s := va_AO.of (hts _ fd_lwof.1)
  have hO2 : va_AO "FetchDesk$Permit" s := va_AO.of (hts _ fd_lwof.2)
  obtain ⟨c0, i0, k0⟩ := u_known (C := fn_R_Mm) (T := fn_T_Mm) (N := 2) (n := 2) hts (fun w h => fb_in (fn_i_Mm w h)) (hts _ (fb_in fq_81))
  obtain ⟨c1, i1, k1⟩ := u_known (C := fn_R_Pm) (T := fn_T_Pm) (N := 6) (n := 6) hts (fun w h => fb_in (fn_i_Pm w h)) (hts _ (fb_in fq_88))
  obtain ⟨c2, i2, k2⟩ := u_known (C := fn_R_Rq) (T := fn_T_Rq) (N := 15) (n := 15) hts (fun w h => fb_in (fn_i_Rq w h)) (hts _ (fb_in fq_134))
  obtain ⟨c3, i3, k3⟩ := u_known (C := fn_R_Rs) (T := fn_T_Rs) (N := 13) (n := 13) hts (fun w h => fb_in (fn_i_Rs w h)) (hts _ (fb_in fq_23))
  obtain ⟨c4, i4, k4⟩ := u_known (C := fn_R_Dk) (T := fn_T_Dk) (N := 9) (n := 9) hts (fun w h => fb_in (fn_i_Dk w h)) (hts _ (fb_in fq_14))
  obtain ⟨c5, i5, k5⟩ := u_known (C := fn_R_Md) (T := fn_T_Md) (N := 33) (n := 33) hts (fun w h => fb_in (fn_i_Md w h)) (hts _ (fb_in fq_522))
  obtain ⟨D, hKc⟩ : ∃ D : va_G, ∀ (k : Nat) (q : vw_C), fn_cl[k]? = some q → u_Kn s q.1 q.2.1 q.2.2 (D.1 k) (D.2 k) := by
    refine ⟨(fun k => if k = 0 then c0 else if k = 1 then c1 else if k = 2 then c2 else if k = 3 then c3 else if k = 4 then c4 else c5, fun k => if k = 0 then i0 else if k = 1 then i1 else if k = 2 then i2 else if k = 3 then i3 else if k = 4 then i4 else i5), ?_⟩
    intro k q hq
    match k, hq with
    | 0, hq => cases hq; exact k0
    | 1, hq => cases hq; exact k1
    | 2, hq => cases hq; exact k2
    | 3, hq => cases hq; exact k3
    | 4, hq => cases hq; exact k4
    | 5, hq => cases hq; exact k5
    | k + 6, hq => simp [fn_cl] at hq
  have hS : va_S (fun q : Nat => s.heap.size ≤ q) s.heap s.heap [] := va_S.rf
  have hK : va_K D fn_cl [] s := ⟨hKc, fun k q h => by simp at h⟩
  have hP : va_P D fn_cl [] s.heap := fun k q h => by simp at h
  have hD : va_D (fun q : Nat => s.heap.size ≤ q) [] := ⟨fun i j p q h => by simp at h, fun k q h => by simp at h⟩
  have hl := lv_entry ([.ref b]) (n := 9) (Nat.le_of_ble_eq_true rfl)
  rw [lg_entry_eq]
  generalize (lg_sl ([.ref b]) ++ List.replicate (9 - (lg_sl ([.ref b])).length) Slot.unset).toArray = ls at hl ⊢
  have hl : lv_has ls 9 [(0, .ref b)] := hl
  refine va_new (ci := 4) (fs := [.null, .null, .null, .double 0, .int 0, .int 0, .int 0, .int 0, .int 0]) (C := fn_R_Dk) (T := fn_T_Dk) (N := 9) hx hb hts (fun w h => fb_in (fn_i_Dk w h)) fn_t_Dk fn_k_Dk hown (hts _ (fb_in fq_13)) (hts _ (fb_in fq_14)) (hts _ (fb_in fq_1)) hK hP hD hS hA rfl (by decide +kernel) (Nat.le_of_ble_eq_true rfl) (Nat.le_of_ble_eq_true rfl) fx_Lw_law_0 (fun qd H hP hD hS => ?_)
  have hP : va_P D fn_cl [(qd, .inr (4, [.null, .null, .null, .double 0, .int 0, .int 0, .int 0, .int 0, .int 0]))] H := hP
  have hD : va_D (fun q : Nat => s.heap.size ≤ q) [(qd, .inr (4, [.null, .null, .null, .double 0, .int 0, .int 0, .int 0, .int 0, .int 0]))] := hD
  refine W.widen (k := 1) (n := 9) (by omega) (by omega) ?_
  refine lv_dup hx hb fx_Lw_law_3 rfl ?_
  have hF : ∀ q, va_A [(qd, .inr (4, [.null, .null, .null, .double 0, .int 0, .int 0, .int 0, .int 0, .int 0]))] H.size q → (fun q : Nat => s.heap.size ≤ q) q := fd_free hD hS hA
  refine va_callv (va_runI (As := []) (rest := [.ref qd]) ⟨hx, hb, hml, hown, hts⟩ (fi_Dk l D qd H.size) ⟨callB_of 0 hts (fb_goodL fm_Dk_init) rfl rfl rfl (hts _ (fb_in fq_1)) (hts _ (fb_in fq_15)) (by decide +kernel) ⟨Nat.le_of_ble_eq_true rfl, Nat.le_of_ble_eq_true rfl⟩, rfl, (hts _ (fb_in fq_16))⟩ ⟨fi_blind2, fun U hU hW => ⟨rfl, by rw [hU], by rw [hU]; exact hP, va_K.moved hW.alike hK, hD.weaken (fun _ _ _ _ => trivial), fd_N_warm hW hN, va_AO.moved hW.alike hO1, va_AO.moved hW.alike hO2⟩⟩ rfl rfl hl.1 rfl (lv_room (Nat.le_of_ble_eq_true rfl)) fx_Lw_law_4 ⟨Nat.le_of_ble_eq_true rfl, Nat.le_of_ble_eq_true rfl⟩) hS (fun q _ h => hF q h) hF (fun u t H1 locs1 ht hvm hw hB hz1 hk1 hS1 => ?_)
  obtain ⟨cR, cP, ad⟩ := u
  dsimp only at hw hB
  subst hw
  obtain ⟨hP1, hK1, hD1⟩ := hB
  rw [ht] at hP1
  have hK1 : va_K D fn_cl (fd_tys cR cP) s := va_K.moved hvm.symm hK1
  have hD1 : va_D (fun q : Nat => s.heap.size ≤ q) (fd_w cR cP ad fd_init) := hD1.weaken (fun k q _ h => hF q.1 h)
  refine W.widen (k := 59) (n := 740) (by omega) (by omega) ?_
  clear hP hD hK hS hF hk1 hz1
  refine lv_astore_n (lv' := [(1, .ref (ad 0)), (0, .ref b)]) hx hb fx_Lw_law_7 rfl hl (by decide) rfl (fun ls hl => ?_)
  refine va_new (ci := 5) (fs := [.null, .null, .null, .null, .null, .null, .null, .null, .null, .null, .null, .null, .null, .null, .null, .null, .null, .null, .null, .null, .double 0, .int 0, .int 0, .int 0, .int 0, .int 0, .int 0, .int 0, .int 0, .int 0, .int 0, .int 0, .int 0]) (C := fn_R_Md) (T := fn_T_Md) (N := 33) hx hb hts (fun w h => fb_in (fn_i_Md w h)) fn_t_Md fn_k_Md hown (hts _ (fb_in fq_521)) (hts _ (fb_in fq_522)) (hts _ (fb_in fq_6)) hK1 hP1 hD1 hS1 hA rfl (by decide +kernel) (Nat.le_of_ble_eq_true rfl) (Nat.le_of_ble_eq_true rfl) fx_Lw_law_8 (fun qm H hP hD hS => ?_)
  refine W.widen (k := 60) (n := 773) (by omega) (by omega) ?_
  refine lv_dup hx hb fx_Lw_law_11 rfl ?_
  have hF : ∀ q, va_A [(qm, .inr (5, [.null, .null, .null, .null, .null, .null, .null, .null, .null, .null, .null, .null, .null, .null, .null, .null, .null, .null, .null, .null, .double 0, .int 0, .int 0, .int 0, .int 0, .int 0, .int 0, .int 0, .int 0, .int 0, .int 0, .int 0, .int 0]))] H.size q → (fun q : Nat => s.heap.size ≤ q) q := fd_free (fd_DR hD) hS hA
  refine va_callv (va_runI (As := []) (rest := [.ref qm]) ⟨hx, hb, hml, hown, hts⟩ (fi_Md l D qm H.size) ⟨callB_of 0 hts (fb_goodL fm_Md_init) rfl rfl rfl (hts _ (fb_in fq_6)) (hts _ (fb_in fq_523)) (by decide +kernel) ⟨Nat.le_of_ble_eq_true rfl, Nat.le_of_ble_eq_true rfl⟩, rfl, (hts _ (fb_in fq_524))⟩ ⟨fi_blind, fun U hU hW => ⟨rfl, by rw [hU], by rw [hU]; exact fd_PR hP, va_K.moved hW.alike (hK1.sub [] rfl), (fd_DR hD).weaken (fun _ _ _ _ => trivial), fd_N_warm hW hN⟩⟩ rfl rfl hl.1 rfl (lv_room (Nat.le_of_ble_eq_true rfl)) fx_Lw_law_12 ⟨Nat.le_of_ble_eq_true rfl, Nat.le_of_ble_eq_true rfl⟩) hS (fun q _ h => hF q h) hF (fun u t H1 locs1 ht hvm hw hB hz1 hk1 hS1 => ?_)
  obtain ⟨ca, am⟩ := u
  dsimp only at hw hB
  subst hw
  obtain ⟨hP2, hK2, hD2⟩ := hB
  rw [ht] at hP2
  have hK2 : va_K D fn_cl (fm_tys ca) s := va_K.moved hvm.symm hK2
  obtain ⟨hP3, hD3⟩ := fd_frameR hP hD hk1 hF hP2 hD2
  have hK3 := hK1.app hK2
  refine W.widen (k := 80) (n := 1449) (by omega) (by omega) ?_
  refine lv_astore_n (lv' := [(2, .ref (am 0)), (1, .ref (ad 0)), (0, .ref b)]) hx hb fx_Lw_law_15 rfl hl (by decide) rfl (fun ls hl => ?_)
  refine lv_iconst (v := 1) hx hb fx_Lw_law_16 (by decide) ?_
  refine va_newa (D := D) (atype := .long) (ty := .long) (a0 := (1, .inr (.inl (fun _ => 0)))) hx hb (hts _ (fb_in fq_730)) rfl hK3 hP3 hD3 hS1 hA (fun cA => rfl) (by decide) rfl (by decide) (Nat.le_of_ble_eq_true rfl) (Nat.le_of_ble_eq_true rfl) fx_Lw_law_17 (fun oa cO H hK hP hD hS => ?_)
  refine W.widen (k := 81) (n := 1450) (by omega) (by omega) ?_
  refine lv_astore_n (lv' := [(3, .ref oa), (2, .ref (am 0)), (1, .ref (ad 0)), (0, .ref b)]) hx hb fx_Lw_law_19 rfl hl (by decide) rfl (fun ls hl => ?_)
  refine lv_iconst (v := 1) hx hb fx_Lw_law_20 (by decide) ?_
  refine va_newa (D := D) (atype := .double) (ty := .double) (a0 := (1, .inr (.inr (.inr (.inl (fun _ => 0)))))) hx hb (hts _ (fb_in fq_629)) rfl hK hP hD hS hA (fun cA => rfl) (by decide) rfl (by decide) (Nat.le_of_ble_eq_true rfl) (Nat.le_of_ble_eq_true rfl) fx_Lw_law_21 (fun ob cE H hK hP hD hS => ?_)
  refine W.widen (k := 82) (n := 1451) (by omega) (by omega) ?_
  refine lv_astore (lv' := [(4, .ref ob), (3, .ref oa), (2, .ref (am 0)), (1, .ref (ad 0)), (0, .ref b)]) hx hb fx_Lw_law_23 hl (by decide) rfl (fun ls hl => ?_)
  refine lv_iconst (v := 0) hx hb fx_Lw_law_25 (by decide) ?_
  refine lv_istore (lv' := [(5, .int 0), (4, .ref ob), (3, .ref oa), (2, .ref (am 0)), (1, .ref (ad 0)), (0, .ref b)]) hx hb fx_Lw_law_26 hl (by decide) rfl (fun ls hl => ?_)
  have hK5 : va_K D fn_cl (fL_tys cR cP cO cE ca) s := hK.sub [0, 1, 22, 23, 2, 3, 4, 5, 6, 7, 8, 9, 10, 11, 12, 13, 14, 15, 16, 17, 18, 19, 20, 21] rfl
  obtain ⟨hP5, hD5⟩ := fL_put hP hD
  obtain ⟨s1, s2, s3⟩ := fs_start
  exact fL_loop hst hx hb hml hown hts hXs hbl hbA hA hK5 hN hX hXn hZ hr hlocks hL (fun _ h => h) (L / 8 + 2) 0 fd_init 0 0 fm_init H _ ls (by omega) (by omega) s1 s2 s3 hP5 hD5 hS (lv_sub hl [5, 4, 3, 2, 1, 0] rfl)
