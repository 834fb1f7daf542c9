/-! the law's wrappers: a call of the face, its exception as a number, its answer in the array -/
def fd_Xn (U : State) : Prop := va_Nc fd_E2 fd_E1 U ∧ va_Nc fd_E3 fd_E1 U
theorem fd_Xn_moved {u U : State} (hvm : u.vm.Alike U.vm) (h : fd_Xn u) : fd_Xn U := ⟨h.1.moved hvm, h.2.moved hvm⟩
abbrev fl_Pc (D : va_G) (av : List Value) (tys : List (ClassId × FieldType)) (w : va_W) (sz : Nat) : Array Value → State → Prop := va_Pc av (fun U => U.heap.size = sz ∧ va_P D fn_cl w U.heap ∧ va_K D fn_cl tys U ∧ va_D (fun _ => True) w ∧ fd_N U ∧ fd_X U ∧ fd_Xn U ∧ fd_Zs (va_A w sz) U U.heap)
theorem fl_blind {D : va_G} {av : List Value} {tys : List (ClassId × FieldType)} {w : va_W} {sz : Nat} : FrameBlind (fl_Pc D av tys w sz) := fun a U g mk q => by
  obtain ⟨q0, q1, qP, qK, qD, qN, qX, qX2, qZ⟩ := q
  exact ⟨q0, q1, qP, va_K.moved (u := U) (U := U.calling g mk a) (Vm.Alike.refl U.vm) qK, qD, fd_N_same (s := U) (U := U.calling g mk a) rfl qN, fd_X_same (s := U) (U := U.calling g mk a) rfl qX, fd_Xn_moved (u := U) (U := U.calling g mk a) (Vm.Alike.refl U.vm) qX2, vx_Zq.moved (u := U) (U := U.calling g mk a) (Vm.Alike.refl U.vm) qZ.1, vx_Zq.moved (u := U) (U := U.calling g mk a) (Vm.Alike.refl U.vm) qZ.2⟩
theorem fl_preV {s : State} {H : Heap} {D : va_G} {cR cP : ClassId} {ad : Nat → Nat} {A : Nat → Prop} {σ : FDS} {Y : va_W} {locs : List Loc} {tys : List (ClassId × FieldType)} {As : List Value} (hP : va_P D fn_cl (fd_w cR cP ad σ ++ Y) H) (hK : va_K D fn_cl (fd_tys cR cP) s) (hD : va_D A (fd_w cR cP ad σ ++ Y)) (hS : va_S A s.heap H locs) (hF : ∀ q, va_A (fd_w cR cP ad σ) H.size q → A q) (hN : fd_N s) (hX : fd_X s) (hZ : fd_Zs A s s.heap) : PreV s H fn_R_Dk (ad 0) (fd_Pcx D cR cP ad (.ref (ad 0) :: As) σ H.size) As :=
  ⟨fd_blindx, va_recv hK (fd_PL hP) (ci := 4) (q0 := 0) rfl rfl, fun U hU hW => ⟨⟨rfl, by rw [hU], by rw [hU]; exact fd_PL hP, va_K.moved hW.alike hK, (fd_DL hD).weaken (fun _ _ _ _ => trivial), fd_N_warm hW hN⟩, fd_X_warm hW hX, by rw [hU]; exact vx_Zq.moved hW.alike ((hZ.1.kept hS.2.1).narrow hF), by rw [hU]; exact vx_Zq.moved hW.alike ((hZ.2.kept hS.2.1).narrow hF)⟩⟩
def fl_km_serve (c : Int32) : Int32 := if c = 1 then 1 else 0
def fl_km_headers (c : Int32) : Int32 := if c = 1 then 1 else 0
def fl_km_allow (c : Int32) : Int32 := if c = 1 then 1 else 0
def fl_km_asked (c : Int32) : Int32 := if c = 1 then 1 else 0
def fl_km_tick (c : Int32) : Int32 := if c = 1 then 1 else 0
def fl_km_fetch (c : Int32) : Int32 := if c = 2 then 2 else if c = 1 then 1 else 0
def fl_km_told (c : Int32) : Int32 := if c = 1 then 1 else 0
def fl_km_kept (c : Int32) : Int32 := if c = 3 then 2 else if c = 1 then 1 else 0
def fl_km_left (c : Int32) : Int32 := if c = 3 then 1 else 0
def fl_km_count (c : Int32) : Int32 := if c = 1 then 1 else 0
theorem fl_codes_serve (σ : FDS) (p1 : Int32) (p2 : Int32) (p3 : Int32) (p4 : Int32) : (fv_Dk_serve σ p1 p2 p3 p4).1 = 0 ∨ (fv_Dk_serve σ p1 p2 p3 p4).1 = 1 := by
  simp only [fv_Dk_serve_j2, fv_Dk_serve_j1, fv_Dk_serve]
  repeat' split
  all_goals first | exact Or.inl rfl | exact Or.inr rfl | exact Or.inr (Or.inl rfl) | exact Or.inr (Or.inr rfl)
theorem fl_codes_headers (σ : FDS) (p1 : Int32) (p2 : Int32) (p3 : Int32) : (fv_Dk_headers σ p1 p2 p3).1 = 0 ∨ (fv_Dk_headers σ p1 p2 p3).1 = 1 := by
  simp only [fv_Dk_headers]
  repeat' split
  all_goals first | exact Or.inl rfl | exact Or.inr rfl | exact Or.inr (Or.inl rfl) | exact Or.inr (Or.inr rfl)
theorem fl_codes_allow (σ : FDS) (p1 : Int32) (p2 : Int32) (p3 : Bool) : (fv_Dk_allow σ p1 p2 p3).1 = 0 ∨ (fv_Dk_allow σ p1 p2 p3).1 = 1 := by
  simp only [fv_Dk_allow]
  repeat' split
  all_goals first | exact Or.inl rfl | exact Or.inr rfl | exact Or.inr (Or.inl rfl) | exact Or.inr (Or.inr rfl)
theorem fl_codes_asked (σ : FDS) (p1 : Int32) (p2 : Bool) (p3 : Int32) (p4 : Int32) (p5 : UInt64) : (fv_Dk_asked σ p1 p2 p3 p4 p5).1 = 0 ∨ (fv_Dk_asked σ p1 p2 p3 p4 p5).1 = 1 := by
  simp only [fv_Dk_asked_j1, fv_Dk_asked]
  repeat' split
  all_goals first | exact Or.inl rfl | exact Or.inr rfl | exact Or.inr (Or.inl rfl) | exact Or.inr (Or.inr rfl)
theorem fl_codes_tick (σ : FDS) (p1 : UInt64) : (fv_Dk_tick σ p1).1 = 0 ∨ (fv_Dk_tick σ p1).1 = 1 := by
  simp only [fv_Dk_tick_j1, fv_Dk_tick]
  repeat' split
  all_goals first | exact Or.inl rfl | exact Or.inr rfl | exact Or.inr (Or.inl rfl) | exact Or.inr (Or.inr rfl)
theorem fl_codes_fetch (σ : FDS) (p1 : Int32) (p2 : Int32) (p3 : Int32) (p4 : Int32) (p5 : Int32) (p6 : Int32) (p7 : Int32) : (fv_Dk_fetch σ p1 p2 p3 p4 p5 p6 p7).1 = 0 ∨ (fv_Dk_fetch σ p1 p2 p3 p4 p5 p6 p7).1 = 1 ∨ (fv_Dk_fetch σ p1 p2 p3 p4 p5 p6 p7).1 = 2 := by
  simp only [fv_Dk_fetch]
  repeat' split
  all_goals first | exact Or.inl rfl | exact Or.inr rfl | exact Or.inr (Or.inl rfl) | exact Or.inr (Or.inr rfl)
theorem fl_codes_told (σ : FDS) (p1 : Int32) : (fv_Dk_told σ p1).1 = 0 ∨ (fv_Dk_told σ p1).1 = 1 := by
  simp only [fv_Dk_told_j7, fv_Dk_told]
  repeat' split
  all_goals first | exact Or.inl rfl | exact Or.inr rfl | exact Or.inr (Or.inl rfl) | exact Or.inr (Or.inr rfl)
theorem fl_codes_kept (σ : FDS) (p1 : Int32) (p2 : Int32) : (fv_Dk_kept σ p1 p2).1 = 0 ∨ (fv_Dk_kept σ p1 p2).1 = 1 ∨ (fv_Dk_kept σ p1 p2).1 = 3 := by
  simp only [fv_Dk_kept_j9, fv_Dk_kept_j13, fv_Dk_kept]
  repeat' split
  all_goals first | exact Or.inl rfl | exact Or.inr rfl | exact Or.inr (Or.inl rfl) | exact Or.inr (Or.inr rfl)
theorem fl_codes_left (σ : FDS) (p1 : Int32) : (fv_Dk_left σ p1).1 = 0 ∨ (fv_Dk_left σ p1).1 = 3 := by
  simp only [fv_Dk_left_j4, fv_Dk_left]
  repeat' split
  all_goals first | exact Or.inl rfl | exact Or.inr rfl | exact Or.inr (Or.inl rfl) | exact Or.inr (Or.inr rfl)
theorem fl_codes_count (σ : FDS) (p1 : Int32) : (fv_Dk_count σ p1).1 = 0 ∨ (fv_Dk_count σ p1).1 = 1 := by
  simp only [fv_Dk_count]
  repeat' split
  all_goals first | exact Or.inl rfl | exact Or.inr rfl | exact Or.inr (Or.inl rfl) | exact Or.inr (Or.inr rfl)
theorem fl_at59 {cR cP : ClassId} {ad : Nat → Nat} {σ : FDS} {y : Nat × va_E} {Z : va_W} : (fd_w cR cP ad σ ++ y :: Z)[59]? = some y := by
  rw [List.getElem?_append_right (by rw [fd_w_len]; decide), fd_w_len]
  rfl
theorem fl_arrL {cA : ClassId} {f g : Nat → Int64} (h : f 0 = g 0) : vp_cell cA (1, .inr (.inl f)) = vp_cell cA (1, .inr (.inl g)) := by
  rw [vp_cell_l, vp_cell_l]
  unfold arrV
  congr 1
  congr 1
  funext j
  have : j.val = 0 := by omega
  show Value.long (f j.val) = Value.long (g j.val)
  rw [this, h]
theorem fl_arrD {cA : ClassId} {f g : Nat → UInt64} (h : f 0 = g 0) : vp_cell cA (1, .inr (.inr (.inr (.inl f)))) = vp_cell cA (1, .inr (.inr (.inr (.inl g)))) := by
  rw [vp_cell_d, vp_cell_d]
  unfold arrV
  congr 1
  congr 1
  funext j
  have : j.val = 0 := by omega
  show Value.double (f j.val) = Value.double (g j.val)
  rw [this, h]
theorem fl_set59 {cR cP : ClassId} {ad : Nat → Nat} {σ : FDS} {y y1 : Nat × va_E} : (fd_w cR cP ad σ ++ ([y] : va_W)).set 59 y1 = fd_w cR cP ad σ ++ ([y1] : va_W) := by
  rw [List.set_append_right _ _ (by rw [fd_w_len]; decide), fd_w_len]
  rfl
theorem fl_outL {D : va_G} {cR cP cO : ClassId} {ad : Nat → Nat} {σ : FDS} {oa : Nat} {x v : Int64} {H : Heap} (hP : va_P D fn_cl ((fd_w cR cP ad σ ++ ([(oa, .inl (cO, 1, .inr (.inl (fun _ => x))))] : va_W)).set 59 ((oa, .inl (cO, 1, .inr (.inl (vp_updL (fun _ => x) (0 : Int32).toNatClampNeg v)))) : Nat × va_E)) H) : va_P D fn_cl (fd_w cR cP ad σ ++ ([(oa, .inl (cO, 1, .inr (.inl (fun _ => v))))] : va_W)) H := by
  rw [fl_set59] at hP
  refine va_P.app (fd_PL hP) (fun k q hk => ?_)
  have h1 := fd_PR hP 0 _ rfl
  match k, hk with
  | 0, hk =>
    cases hk
    exact h1.trans (congrArg some (fl_arrL rfl))
  | k + 1, hk => simp at hk
theorem fl_outLD {A : Nat → Prop} {cR cP cO : ClassId} {ad : Nat → Nat} {σ : FDS} {oa : Nat} {x v : Int64} (hD : va_D A ((fd_w cR cP ad σ ++ ([(oa, .inl (cO, 1, .inr (.inl (fun _ => x))))] : va_W)).set 59 ((oa, .inl (cO, 1, .inr (.inl (vp_updL (fun _ => x) (0 : Int32).toNatClampNeg v)))) : Nat × va_E))) : va_D A (fd_w cR cP ad σ ++ ([(oa, .inl (cO, 1, .inr (.inl (fun _ => v))))] : va_W)) := by
  rw [fl_set59] at hD
  rw [← fl_set59 (y := (oa, .inl (cO, 1, .inr (.inl (vp_updL (fun _ => x) (0 : Int32).toNatClampNeg v)))))]
  exact hD.set fl_at59
theorem fl_outD {D : va_G} {cR cP cO : ClassId} {ad : Nat → Nat} {σ : FDS} {oa : Nat} {x v : UInt64} {H : Heap} (hP : va_P D fn_cl ((fd_w cR cP ad σ ++ ([(oa, .inl (cO, 1, .inr (.inr (.inr (.inl (fun _ => x))))))] : va_W)).set 59 ((oa, .inl (cO, 1, .inr (.inr (.inr (.inl (vf_upd (fun _ => x) (0 : Int32).toNatClampNeg v)))))) : Nat × va_E)) H) : va_P D fn_cl (fd_w cR cP ad σ ++ ([(oa, .inl (cO, 1, .inr (.inr (.inr (.inl (fun _ => v))))))] : va_W)) H := by
  rw [fl_set59] at hP
  refine va_P.app (fd_PL hP) (fun k q hk => ?_)
  have h1 := fd_PR hP 0 _ rfl
  match k, hk with
  | 0, hk =>
    cases hk
    exact h1.trans (congrArg some (fl_arrD rfl))
  | k + 1, hk => simp at hk
theorem fl_outDD {A : Nat → Prop} {cR cP cO : ClassId} {ad : Nat → Nat} {σ : FDS} {oa : Nat} {x v : UInt64} (hD : va_D A ((fd_w cR cP ad σ ++ ([(oa, .inl (cO, 1, .inr (.inr (.inr (.inl (fun _ => x))))))] : va_W)).set 59 ((oa, .inl (cO, 1, .inr (.inr (.inr (.inl (vf_upd (fun _ => x) (0 : Int32).toNatClampNeg v)))))) : Nat × va_E))) : va_D A (fd_w cR cP ad σ ++ ([(oa, .inl (cO, 1, .inr (.inr (.inr (.inl (fun _ => v))))))] : va_W)) := by
  rw [fl_set59] at hD
  rw [← fl_set59 (y := (oa, .inl (cO, 1, .inr (.inr (.inr (.inl (vf_upd (fun _ => x) (0 : Int32).toNatClampNeg v)))))))]
  exact hD.set fl_at59
set_option maxHeartbeats 4000000 in
set_option maxRecDepth 100000 in
theorem fl_serve (l : Launch) (hst : l.stackTraces = false) (D : va_G) (cR cP : ClassId) (ad : Nat → Nat) (sz : Nat) (σ : FDS) (p1 : Int32) (p2 : Int32) (p3 : Int32) (p4 : Int32) (hI : fd_Inv σ) : Met l fy_Lw_serve (fw_Lw_serve :: fb_tbl) ({ frames := 7, cells := 1, slots := 6, locals := 108 } : Room) (fl_Pc D [.ref (ad 0), .int p1, .int p2, .int p3, .int p4] (fd_tys cR cP) (fd_w cR cP ad σ ++ ([] : va_W)) sz) ((fun A => va_Qi (fun (r : Int32) (u : FDS) => r = fl_km_serve (fv_Dk_serve σ p1 p2 p3 p4).1 ∧ u = (fv_Dk_serve σ p1 p2 p3 p4).2 ∧ fd_Inv u) (fun u t => va_P D fn_cl (fd_w cR cP ad u ++ ([] : va_W)) t.heap ∧ va_D A (fd_w cR cP ad u ++ ([] : va_W))) A) (va_A (fd_w cR cP ad σ ++ ([] : va_W)) sz)) 1 6 (va_A (fd_w cR cP ad σ ++ ([] : va_W)) sz) := by
  refine va_MetW (cc := fb_Lw_serve) (maxL := 6) (ret := (some .int)) (hh := [(0, 9, 12, 13)]) (by decide) rfl ?_
  intro p e s m args below meth c s₁ B hml hv
  obtain ⟨rfl, hsz, hP, hK, hD0, hN, hX, hXn, hZ⟩ := hv
  have hx := B.exec
  have hb := B.bytes
  have hr := B.returns
  have hts := atoms_spec (ws := fw_Lw_serve :: fb_tbl) B.pre
  have hown : s.vm.findClass fn_R_Lw = some m.cls := findClass_of_methodNamed B.named
  have hlocks := B.notSynchronized
  have htab := vx_table (x := fy_Lw_serve) B (hts _ List.mem_cons_self)
  subst hsz
  have hD := hD0.self (sz := s.heap.size)
  have hA0 : ∀ z : Nat, s.heap.size ≤ z → va_A (fd_w cR cP ad σ ++ ([] : va_W)) s.heap.size z := fun z h => Or.inr h
  generalize va_A (fd_w cR cP ad σ ++ ([] : va_W)) s.heap.size = A at hD hA0 hZ ⊢
  have hA : ∀ z : Nat, s.heap.size ≤ z → A z := hA0
  have hS : va_S A s.heap s.heap [] := va_S.rf
  have hKd : va_K D fn_cl (fd_tys cR cP) s := hK.sub [0, 1] rfl
  have hl := lv_entry ([.ref (ad 0), .int p1, .int p2, .int p3, .int p4]) (n := 6) (Nat.le_of_ble_eq_true rfl)
  rw [lg_entry_eq]
  generalize (lg_sl ([.ref (ad 0), .int p1, .int p2, .int p3, .int p4]) ++ List.replicate (6 - (lg_sl ([.ref (ad 0), .int p1, .int p2, .int p3, .int p4])).length) Slot.unset).toArray = ls at hl ⊢
  have hl : lv_has ls 6 [(0, .ref (ad 0)), (1, .int p1), (2, .int p2), (3, .int p3), (4, .int p4)] := hl
  have hF := fd_freeL hD hS hA
  refine lv_aload_n hx hb fx_Lw_serve_0 rfl (lv_at hl 0 rfl) ?_
  refine lv_iload_n hx hb fx_Lw_serve_1 rfl (lv_at hl 1 rfl) ?_
  refine lv_iload_n hx hb fx_Lw_serve_2 rfl (lv_at hl 2 rfl) ?_
  refine lv_iload_n hx hb fx_Lw_serve_3 rfl (lv_at hl 3 rfl) ?_
  refine lv_iload hx hb fx_Lw_serve_4 (lv_at hl 4 rfl) ?_
  refine vx_callv (vx_runV (As := [.int p1, .int p2, .int p3, .int p4]) (rest := []) ⟨hx, hb, hml, hown, hts⟩ (fc_Dk_serve l hst D cR cP ad s.heap.size σ p1 p2 p3 p4 hI) ⟨callB_of 4 hts (fb_good fm_Dk_serve) rfl rfl rfl (hts _ (List.mem_cons_of_mem _ fq_1)) (hts _ (List.mem_cons_of_mem _ fq_236)) (by decide +kernel) ⟨Nat.le_of_ble_eq_true rfl, Nat.le_of_ble_eq_true rfl⟩, (hts _ (List.mem_cons_of_mem _ fq_237)), (hts _ (List.mem_cons_of_mem _ fq_238))⟩ (fl_preV (tys := []) hP hKd hD hS hF hN hX hZ) rfl rfl hl.1 rfl (lv_room (Nat.le_of_ble_eq_true rfl)) fx_Lw_serve_6 ⟨Nat.le_of_ble_eq_true rfl, Nat.le_of_ble_eq_true rfl⟩) hS (fun z _ h => hF z h) hF (fun z _ h => hF z h) (fun E ce q9 u t H1 locs ht hvm _ hB hz1 hk1 hS hce hcv hcl => ?_) (fun u t H1 locs ht hvm hw hB hz1 hk1 hS => ?_)
  · obtain ⟨⟨⟨c9, hc9, hM⟩, hI1⟩, hP1, hD1⟩ := hB
    rw [ht] at hP1
    obtain ⟨hP, hD⟩ := fd_frameL hP hD hk1 hF hP1 hD1
    have hco := fl_codes_serve σ p1 p2 p3 p4
    rw [hM] at hco
    rcases hc9 with ⟨rfl, rfl⟩ | ⟨rfl, rfl⟩ | ⟨rfl, rfl⟩
    · refine vx_catch hown [] ⟨0, 9, 12, 13⟩ [] (htab.trans rfl) (fun z hz => by cases hz) (by decide) (by decide) (hts _ (List.mem_cons_of_mem _ fq_235)) (va_Nw.use rfl (hX _ (List.mem_of_getElem? (i := 0) rfl))) hce hcv hcl ?_
      refine lv_astore (lv' := [(5, .ref q9), (0, .ref (ad 0)), (1, .int p1), (2, .int p2), (3, .int p3), (4, .int p4)]) hx hb fx_Lw_serve_12 hl (by decide) rfl (fun ls hl => ?_)
      refine lv_iconst (v := 1) hx hb fx_Lw_serve_14 (by decide) ?_
      exact W.iret hx hb hr (fun t ht hW => ⟨⟨1, u, rfl, ⟨by rw [hM]; rfl, by rw [hM], hI1⟩, by rw [ht]; exact hP, hD⟩, hS.F ht⟩) hS.2.2 fx_Lw_serve_15 hlocks
    · exact absurd (show (2 : Int32) = 0 ∨ (2 : Int32) = 1 from hco) (by decide)
    · exact absurd (show (3 : Int32) = 0 ∨ (3 : Int32) = 1 from hco) (by decide)
  · obtain ⟨hM, hI1⟩ := hw
    obtain ⟨hP1, hD1⟩ := hB
    rw [ht] at hP1
    obtain ⟨hP, hD⟩ := fd_frameL hP hD hk1 hF hP1 hD1
    refine lv_goto (tgt := 16) hx hb fx_Lw_serve_9 (by decide) ?_
    refine lv_iconst (v := 0) hx hb fx_Lw_serve_16 (by decide) ?_
    exact W.iret hx hb hr (fun t ht hW => ⟨⟨0, u, rfl, ⟨by rw [hM]; rfl, by rw [hM], hI1⟩, by rw [ht]; exact hP, hD⟩, hS.F ht⟩) hS.2.2 fx_Lw_serve_17 hlocks
set_option maxHeartbeats 4000000 in
set_option maxRecDepth 100000 in
theorem fl_headers (l : Launch) (hst : l.stackTraces = false) (D : va_G) (cR cP : ClassId) (ad : Nat → Nat) (sz : Nat) (σ : FDS) (p1 : Int32) (p2 : Int32) (p3 : Int32) (hI : fd_Inv σ) : Met l fy_Lw_headers (fw_Lw_headers :: fb_tbl) ({ frames := 7, cells := 1, slots := 6, locals := 105 } : Room) (fl_Pc D [.ref (ad 0), .int p1, .int p2, .int p3] (fd_tys cR cP) (fd_w cR cP ad σ ++ ([] : va_W)) sz) ((fun A => va_Qi (fun (r : Int32) (u : FDS) => r = fl_km_headers (fv_Dk_headers σ p1 p2 p3).1 ∧ u = (fv_Dk_headers σ p1 p2 p3).2 ∧ fd_Inv u) (fun u t => va_P D fn_cl (fd_w cR cP ad u ++ ([] : va_W)) t.heap ∧ va_D A (fd_w cR cP ad u ++ ([] : va_W))) A) (va_A (fd_w cR cP ad σ ++ ([] : va_W)) sz)) 1 6 (va_A (fd_w cR cP ad σ ++ ([] : va_W)) sz) := by
  refine va_MetW (cc := fb_Lw_headers) (maxL := 5) (ret := (some .int)) (hh := [(0, 7, 10, 13)]) (by decide) rfl ?_
  intro p e s m args below meth c s₁ B hml hv
  obtain ⟨rfl, hsz, hP, hK, hD0, hN, hX, hXn, hZ⟩ := hv
  have hx := B.exec
  have hb := B.bytes
  have hr := B.returns
  have hts := atoms_spec (ws := fw_Lw_headers :: fb_tbl) B.pre
  have hown : s.vm.findClass fn_R_Lw = some m.cls := findClass_of_methodNamed B.named
  have hlocks := B.notSynchronized
  have htab := vx_table (x := fy_Lw_headers) B (hts _ List.mem_cons_self)
  subst hsz
  have hD := hD0.self (sz := s.heap.size)
  have hA0 : ∀ z : Nat, s.heap.size ≤ z → va_A (fd_w cR cP ad σ ++ ([] : va_W)) s.heap.size z := fun z h => Or.inr h
  generalize va_A (fd_w cR cP ad σ ++ ([] : va_W)) s.heap.size = A at hD hA0 hZ ⊢
  have hA : ∀ z : Nat, s.heap.size ≤ z → A z := hA0
  have hS : va_S A s.heap s.heap [] := va_S.rf
  have hKd : va_K D fn_cl (fd_tys cR cP) s := hK.sub [0, 1] rfl
  have hl := lv_entry ([.ref (ad 0), .int p1, .int p2, .int p3]) (n := 5) (Nat.le_of_ble_eq_true rfl)
  rw [lg_entry_eq]
  generalize (lg_sl ([.ref (ad 0), .int p1, .int p2, .int p3]) ++ List.replicate (5 - (lg_sl ([.ref (ad 0), .int p1, .int p2, .int p3])).length) Slot.unset).toArray = ls at hl ⊢
  have hl : lv_has ls 5 [(0, .ref (ad 0)), (1, .int p1), (2, .int p2), (3, .int p3)] := hl
  have hF := fd_freeL hD hS hA
  refine lv_aload_n hx hb fx_Lw_headers_0 rfl (lv_at hl 0 rfl) ?_
  refine lv_iload_n hx hb fx_Lw_headers_1 rfl (lv_at hl 1 rfl) ?_
  refine lv_iload_n hx hb fx_Lw_headers_2 rfl (lv_at hl 2 rfl) ?_
  refine lv_iload_n hx hb fx_Lw_headers_3 rfl (lv_at hl 3 rfl) ?_
  refine vx_callv (vx_runV (As := [.int p1, .int p2, .int p3]) (rest := []) ⟨hx, hb, hml, hown, hts⟩ (fc_Dk_headers l hst D cR cP ad s.heap.size σ p1 p2 p3 hI) ⟨callB_of 3 hts (fb_good fm_Dk_headers) rfl rfl rfl (hts _ (List.mem_cons_of_mem _ fq_1)) (hts _ (List.mem_cons_of_mem _ fq_309)) (by decide +kernel) ⟨Nat.le_of_ble_eq_true rfl, Nat.le_of_ble_eq_true rfl⟩, (hts _ (List.mem_cons_of_mem _ fq_310)), (hts _ (List.mem_cons_of_mem _ fq_311))⟩ (fl_preV (tys := []) hP hKd hD hS hF hN hX hZ) rfl rfl hl.1 rfl (lv_room (Nat.le_of_ble_eq_true rfl)) fx_Lw_headers_4 ⟨Nat.le_of_ble_eq_true rfl, Nat.le_of_ble_eq_true rfl⟩) hS (fun z _ h => hF z h) hF (fun z _ h => hF z h) (fun E ce q9 u t H1 locs ht hvm _ hB hz1 hk1 hS hce hcv hcl => ?_) (fun u t H1 locs ht hvm hw hB hz1 hk1 hS => ?_)
  · obtain ⟨⟨⟨c9, hc9, hM⟩, hI1⟩, hP1, hD1⟩ := hB
    rw [ht] at hP1
    obtain ⟨hP, hD⟩ := fd_frameL hP hD hk1 hF hP1 hD1
    have hco := fl_codes_headers σ p1 p2 p3
    rw [hM] at hco
    rcases hc9 with ⟨rfl, rfl⟩ | ⟨rfl, rfl⟩ | ⟨rfl, rfl⟩
    · refine vx_catch hown [] ⟨0, 7, 10, 13⟩ [] (htab.trans rfl) (fun z hz => by cases hz) (by decide) (by decide) (hts _ (List.mem_cons_of_mem _ fq_235)) (va_Nw.use rfl (hX _ (List.mem_of_getElem? (i := 0) rfl))) hce hcv hcl ?_
      refine lv_astore (lv' := [(4, .ref q9), (0, .ref (ad 0)), (1, .int p1), (2, .int p2), (3, .int p3)]) hx hb fx_Lw_headers_10 hl (by decide) rfl (fun ls hl => ?_)
      refine lv_iconst (v := 1) hx hb fx_Lw_headers_12 (by decide) ?_
      exact W.iret hx hb hr (fun t ht hW => ⟨⟨1, u, rfl, ⟨by rw [hM]; rfl, by rw [hM], hI1⟩, by rw [ht]; exact hP, hD⟩, hS.F ht⟩) hS.2.2 fx_Lw_headers_13 hlocks
    · exact absurd (show (2 : Int32) = 0 ∨ (2 : Int32) = 1 from hco) (by decide)
    · exact absurd (show (3 : Int32) = 0 ∨ (3 : Int32) = 1 from hco) (by decide)
  · obtain ⟨hM, hI1⟩ := hw
    obtain ⟨hP1, hD1⟩ := hB
    rw [ht] at hP1
    obtain ⟨hP, hD⟩ := fd_frameL hP hD hk1 hF hP1 hD1
    refine lv_goto (tgt := 14) hx hb fx_Lw_headers_7 (by decide) ?_
    refine lv_iconst (v := 0) hx hb fx_Lw_headers_14 (by decide) ?_
    exact W.iret hx hb hr (fun t ht hW => ⟨⟨0, u, rfl, ⟨by rw [hM]; rfl, by rw [hM], hI1⟩, by rw [ht]; exact hP, hD⟩, hS.F ht⟩) hS.2.2 fx_Lw_headers_15 hlocks
set_option maxHeartbeats 4000000 in
set_option maxRecDepth 100000 in
theorem fl_asked (l : Launch) (hst : l.stackTraces = false) (D : va_G) (cR cP : ClassId) (ad : Nat → Nat) (sz : Nat) (σ : FDS) (p1 : Int32) (p2 : Bool) (p3 : Int32) (p4 : Int32) (p5 : UInt64) (hI : fd_Inv σ) : Met l fy_Lw_asked (fw_Lw_asked :: fb_tbl) ({ frames := 7, cells := 1, slots := 6, locals := 109 } : Room) (fl_Pc D [.ref (ad 0), .int p1, .int (fd_bi p2), .int p3, .int p4, .double p5] (fd_tys cR cP) (fd_w cR cP ad σ ++ ([] : va_W)) sz) ((fun A => va_Qi (fun (r : Int32) (u : FDS) => r = fl_km_asked (fv_Dk_asked σ p1 p2 p3 p4 p5).1 ∧ u = (fv_Dk_asked σ p1 p2 p3 p4 p5).2 ∧ fd_Inv u) (fun u t => va_P D fn_cl (fd_w cR cP ad u ++ ([] : va_W)) t.heap ∧ va_D A (fd_w cR cP ad u ++ ([] : va_W))) A) (va_A (fd_w cR cP ad σ ++ ([] : va_W)) sz)) 1 6 (va_A (fd_w cR cP ad σ ++ ([] : va_W)) sz) := by
  refine va_MetW (cc := fb_Lw_asked) (maxL := 8) (ret := (some .int)) (hh := [(0, 11, 14, 13)]) (by decide) rfl ?_
  intro p e s m args below meth c s₁ B hml hv
  obtain ⟨rfl, hsz, hP, hK, hD0, hN, hX, hXn, hZ⟩ := hv
  have hx := B.exec
  have hb := B.bytes
  have hr := B.returns
  have hts := atoms_spec (ws := fw_Lw_asked :: fb_tbl) B.pre
  have hown : s.vm.findClass fn_R_Lw = some m.cls := findClass_of_methodNamed B.named
  have hlocks := B.notSynchronized
  have htab := vx_table (x := fy_Lw_asked) B (hts _ List.mem_cons_self)
  subst hsz
  have hD := hD0.self (sz := s.heap.size)
  have hA0 : ∀ z : Nat, s.heap.size ≤ z → va_A (fd_w cR cP ad σ ++ ([] : va_W)) s.heap.size z := fun z h => Or.inr h
  generalize va_A (fd_w cR cP ad σ ++ ([] : va_W)) s.heap.size = A at hD hA0 hZ ⊢
  have hA : ∀ z : Nat, s.heap.size ≤ z → A z := hA0
  have hS : va_S A s.heap s.heap [] := va_S.rf
  have hKd : va_K D fn_cl (fd_tys cR cP) s := hK.sub [0, 1] rfl
  have hl := lv_entry ([.ref (ad 0), .int p1, .int (fd_bi p2), .int p3, .int p4, .double p5]) (n := 8) (Nat.le_of_ble_eq_true rfl)
  rw [lg_entry_eq]
  generalize (lg_sl ([.ref (ad 0), .int p1, .int (fd_bi p2), .int p3, .int p4, .double p5]) ++ List.replicate (8 - (lg_sl ([.ref (ad 0), .int p1, .int (fd_bi p2), .int p3, .int p4, .double p5])).length) Slot.unset).toArray = ls at hl ⊢
  have hl : lv_has ls 8 [(0, .ref (ad 0)), (1, .int p1), (2, .int (fd_bi p2)), (3, .int p3), (4, .int p4), (5, .double p5)] := hl
  have hF := fd_freeL hD hS hA
  refine lv_aload_n hx hb fx_Lw_asked_0 rfl (lv_at hl 0 rfl) ?_
  refine lv_iload_n hx hb fx_Lw_asked_1 rfl (lv_at hl 1 rfl) ?_
  refine lv_iload_n hx hb fx_Lw_asked_2 rfl (lv_at hl 2 rfl) ?_
  refine lv_iload_n hx hb fx_Lw_asked_3 rfl (lv_at hl 3 rfl) ?_
  refine lv_iload hx hb fx_Lw_asked_4 (lv_at hl 4 rfl) ?_
  refine lv_dload hx hb fx_Lw_asked_6 (lv_at hl 5 rfl) ?_
  refine vx_callv (vx_runV (As := [.int p1, .int (fd_bi p2), .int p3, .int p4, .double p5]) (rest := []) ⟨hx, hb, hml, hown, hts⟩ (fc_Dk_asked l hst D cR cP ad s.heap.size σ p1 p2 p3 p4 p5 hI) ⟨callB_of 5 hts (fb_good fm_Dk_asked) rfl rfl rfl (hts _ (List.mem_cons_of_mem _ fq_1)) (hts _ (List.mem_cons_of_mem _ fq_326)) (by decide +kernel) ⟨Nat.le_of_ble_eq_true rfl, Nat.le_of_ble_eq_true rfl⟩, (hts _ (List.mem_cons_of_mem _ fq_327)), (hts _ (List.mem_cons_of_mem _ fq_328))⟩ (fl_preV (tys := []) hP hKd hD hS hF hN hX hZ) rfl rfl hl.1 rfl (lv_room (Nat.le_of_ble_eq_true rfl)) fx_Lw_asked_8 ⟨Nat.le_of_ble_eq_true rfl, Nat.le_of_ble_eq_true rfl⟩) hS (fun z _ h => hF z h) hF (fun z _ h => hF z h) (fun E ce q9 u t H1 locs ht hvm _ hB hz1 hk1 hS hce hcv hcl => ?_) (fun u t H1 locs ht hvm hw hB hz1 hk1 hS => ?_)
  · obtain ⟨⟨⟨c9, hc9, hM⟩, hI1⟩, hP1, hD1⟩ := hB
    rw [ht] at hP1
    obtain ⟨hP, hD⟩ := fd_frameL hP hD hk1 hF hP1 hD1
    have hco := fl_codes_asked σ p1 p2 p3 p4 p5
    rw [hM] at hco
    rcases hc9 with ⟨rfl, rfl⟩ | ⟨rfl, rfl⟩ | ⟨rfl, rfl⟩
    · refine vx_catch hown [] ⟨0, 11, 14, 13⟩ [] (htab.trans rfl) (fun z hz => by cases hz) (by decide) (by decide) (hts _ (List.mem_cons_of_mem _ fq_235)) (va_Nw.use rfl (hX _ (List.mem_of_getElem? (i := 0) rfl))) hce hcv hcl ?_
      refine lv_astore (lv' := [(7, .ref q9), (0, .ref (ad 0)), (1, .int p1), (2, .int (fd_bi p2)), (3, .int p3), (4, .int p4), (5, .double p5)]) hx hb fx_Lw_asked_14 hl (by decide) rfl (fun ls hl => ?_)
      refine lv_iconst (v := 1) hx hb fx_Lw_asked_16 (by decide) ?_
      exact W.iret hx hb hr (fun t ht hW => ⟨⟨1, u, rfl, ⟨by rw [hM]; rfl, by rw [hM], hI1⟩, by rw [ht]; exact hP, hD⟩, hS.F ht⟩) hS.2.2 fx_Lw_asked_17 hlocks
    · exact absurd (show (2 : Int32) = 0 ∨ (2 : Int32) = 1 from hco) (by decide)
    · exact absurd (show (3 : Int32) = 0 ∨ (3 : Int32) = 1 from hco) (by decide)
  · obtain ⟨hM, hI1⟩ := hw
    obtain ⟨hP1, hD1⟩ := hB
    rw [ht] at hP1
    obtain ⟨hP, hD⟩ := fd_frameL hP hD hk1 hF hP1 hD1
    refine lv_goto (tgt := 18) hx hb fx_Lw_asked_11 (by decide) ?_
    refine lv_iconst (v := 0) hx hb fx_Lw_asked_18 (by decide) ?_
    exact W.iret hx hb hr (fun t ht hW => ⟨⟨0, u, rfl, ⟨by rw [hM]; rfl, by rw [hM], hI1⟩, by rw [ht]; exact hP, hD⟩, hS.F ht⟩) hS.2.2 fx_Lw_asked_19 hlocks
set_option maxHeartbeats 4000000 in
set_option maxRecDepth 100000 in
theorem fl_allow (l : Launch) (hst : l.stackTraces = false) (D : va_G) (cR cP : ClassId) (ad : Nat → Nat) (sz : Nat) (σ : FDS) (p1 : Int32) (p2 : Int32) (p3 : Bool) (cO : ClassId) (oa : Nat) (x : Int64) (hI : fd_Inv σ) : Met l fy_Lw_allow (fw_Lw_allow :: fb_tbl) ({ frames := 7, cells := 1, slots := 6, locals := 106 } : Room) (fl_Pc D [.ref (ad 0), .int p1, .int p2, .int (fd_bi p3), .ref oa] (fd_tys cR cP ++ [(cO, .long)]) (fd_w cR cP ad σ ++ ([(oa, .inl (cO, 1, .inr (.inl (fun _ => x))))] : va_W)) sz) ((fun A => va_Qi (fun (r : Int32) (u : FDS × Int64) => r = fl_km_allow (fv_Dk_allow σ p1 p2 p3).1 ∧ u.1 = (fv_Dk_allow σ p1 p2 p3).2.2 ∧ u.2 = (if (fv_Dk_allow σ p1 p2 p3).1 = 0 then (fv_Dk_allow σ p1 p2 p3).2.1.toInt64 else x) ∧ fd_Inv u.1) (fun u t => va_P D fn_cl (fd_w cR cP ad u.1 ++ ([(oa, .inl (cO, 1, .inr (.inl (fun _ => u.2))))] : va_W)) t.heap ∧ va_D A (fd_w cR cP ad u.1 ++ ([(oa, .inl (cO, 1, .inr (.inl (fun _ => u.2))))] : va_W))) A) (va_A (fd_w cR cP ad σ ++ ([(oa, .inl (cO, 1, .inr (.inl (fun _ => x))))] : va_W)) sz)) 1 6 (va_A (fd_w cR cP ad σ ++ ([(oa, .inl (cO, 1, .inr (.inl (fun _ => x))))] : va_W)) sz) := by
  refine va_MetW (cc := fb_Lw_allow) (maxL := 6) (ret := (some .int)) (hh := [(0, 12, 15, 13)]) (by decide) rfl ?_
  intro p e s m args below meth c s₁ B hml hv
  obtain ⟨rfl, hsz, hP, hK, hD0, hN, hX, hXn, hZ⟩ := hv
  have hx := B.exec
  have hb := B.bytes
  have hr := B.returns
  have hts := atoms_spec (ws := fw_Lw_allow :: fb_tbl) B.pre
  have hown : s.vm.findClass fn_R_Lw = some m.cls := findClass_of_methodNamed B.named
  have hlocks := B.notSynchronized
  have htab := vx_table (x := fy_Lw_allow) B (hts _ List.mem_cons_self)
  subst hsz
  have hD := hD0.self (sz := s.heap.size)
  have hA0 : ∀ z : Nat, s.heap.size ≤ z → va_A (fd_w cR cP ad σ ++ ([(oa, .inl (cO, 1, .inr (.inl (fun _ => x))))] : va_W)) s.heap.size z := fun z h => Or.inr h
  generalize va_A (fd_w cR cP ad σ ++ ([(oa, .inl (cO, 1, .inr (.inl (fun _ => x))))] : va_W)) s.heap.size = A at hD hA0 hZ ⊢
  have hA : ∀ z : Nat, s.heap.size ≤ z → A z := hA0
  have hS : va_S A s.heap s.heap [] := va_S.rf
  have hKd : va_K D fn_cl (fd_tys cR cP) s := hK.sub [0, 1] rfl
  have hl := lv_entry ([.ref (ad 0), .int p1, .int p2, .int (fd_bi p3), .ref oa]) (n := 6) (Nat.le_of_ble_eq_true rfl)
  rw [lg_entry_eq]
  generalize (lg_sl ([.ref (ad 0), .int p1, .int p2, .int (fd_bi p3), .ref oa]) ++ List.replicate (6 - (lg_sl ([.ref (ad 0), .int p1, .int p2, .int (fd_bi p3), .ref oa])).length) Slot.unset).toArray = ls at hl ⊢
  have hl : lv_has ls 6 [(0, .ref (ad 0)), (1, .int p1), (2, .int p2), (3, .int (fd_bi p3)), (4, .ref oa)] := hl
  have hF := fd_freeL hD hS hA
  refine lv_aload hx hb fx_Lw_allow_0 (lv_at hl 4 rfl) ?_
  refine lv_iconst (v := 0) hx hb fx_Lw_allow_2 (by decide) ?_
  refine lv_aload_n hx hb fx_Lw_allow_3 rfl (lv_at hl 0 rfl) ?_
  refine lv_iload_n hx hb fx_Lw_allow_4 rfl (lv_at hl 1 rfl) ?_
  refine lv_iload_n hx hb fx_Lw_allow_5 rfl (lv_at hl 2 rfl) ?_
  refine lv_iload_n hx hb fx_Lw_allow_6 rfl (lv_at hl 3 rfl) ?_
  refine vx_calli (vx_runV (As := [.int p1, .int p2, .int (fd_bi p3)]) (rest := [.int 0, .ref oa]) ⟨hx, hb, hml, hown, hts⟩ (fc_Dk_allow l hst D cR cP ad s.heap.size σ p1 p2 p3 hI) ⟨callB_of 3 hts (fb_good fm_Dk_allow) rfl rfl rfl (hts _ (List.mem_cons_of_mem _ fq_1)) (hts _ (List.mem_cons_of_mem _ fq_319)) (by decide +kernel) ⟨Nat.le_of_ble_eq_true rfl, Nat.le_of_ble_eq_true rfl⟩, (hts _ (List.mem_cons_of_mem _ fq_320)), (hts _ (List.mem_cons_of_mem _ fq_321))⟩ (fl_preV (tys := []) hP hKd hD hS hF hN hX hZ) rfl rfl hl.1 rfl (lv_room (Nat.le_of_ble_eq_true rfl)) fx_Lw_allow_7 ⟨Nat.le_of_ble_eq_true rfl, Nat.le_of_ble_eq_true rfl⟩) hS (fun z _ h => hF z h) hF (fun z _ h => hF z h) (fun E ce q9 u t H1 locs ht hvm _ hB hz1 hk1 hS hce hcv hcl => ?_) (fun r u t H1 locs ht hvm hw hB hz1 hk1 hS => ?_)
  · obtain ⟨⟨⟨c9, hc9, hM⟩, hI1⟩, hP1, hD1⟩ := hB
    rw [ht] at hP1
    obtain ⟨hP, hD⟩ := fd_frameL hP hD hk1 hF hP1 hD1
    have hco := fl_codes_allow σ p1 p2 p3
    rw [hM] at hco
    rcases hc9 with ⟨rfl, rfl⟩ | ⟨rfl, rfl⟩ | ⟨rfl, rfl⟩
    · refine vx_catch hown [] ⟨0, 12, 15, 13⟩ [] (htab.trans rfl) (fun z hz => by cases hz) (by decide) (by decide) (hts _ (List.mem_cons_of_mem _ fq_235)) (va_Nw.use rfl (hX _ (List.mem_of_getElem? (i := 0) rfl))) hce hcv hcl ?_
      refine lv_astore (lv' := [(5, .ref q9), (0, .ref (ad 0)), (1, .int p1), (2, .int p2), (3, .int (fd_bi p3)), (4, .ref oa)]) hx hb fx_Lw_allow_15 hl (by decide) rfl (fun ls hl => ?_)
      refine lv_iconst (v := 1) hx hb fx_Lw_allow_17 (by decide) ?_
      exact W.iret hx hb hr (fun t ht hW => ⟨⟨1, (u, x), rfl, ⟨by rw [hM]; rfl, by rw [hM], by rw [hM]; rfl, hI1⟩, by rw [ht]; exact hP, hD⟩, hS.F ht⟩) hS.2.2 fx_Lw_allow_18 hlocks
    · exact absurd (show (2 : Int32) = 0 ∨ (2 : Int32) = 1 from hco) (by decide)
    · exact absurd (show (3 : Int32) = 0 ∨ (3 : Int32) = 1 from hco) (by decide)
  · obtain ⟨hM, hI1⟩ := hw
    obtain ⟨hP1, hD1⟩ := hB
    rw [ht] at hP1
    obtain ⟨hP, hD⟩ := fd_frameL hP hD hk1 hF hP1 hD1
    refine lv_i2l hx hb fx_Lw_allow_10 rfl ?_
    have h1 : vp_in 0 1 := vp_in_nI (n := 0) (N := 1) (by decide) (by decide)
    refine va_last (D := D) (x := r.toInt64) hx hb hK hP hD hS 59 2 (fl_at59) rfl h1 fx_Lw_allow_11 (fun H locs hP hD hS => ?_)
    have hP := fl_outL hP
    have hD := fl_outLD hD
    refine lv_goto (tgt := 19) hx hb fx_Lw_allow_12 (by decide) ?_
    refine lv_iconst (v := 0) hx hb fx_Lw_allow_19 (by decide) ?_
    exact W.iret hx hb hr (fun t ht hW => ⟨⟨0, (u, r.toInt64), rfl, ⟨by rw [hM]; rfl, by rw [hM], by rw [hM]; rfl, hI1⟩, by rw [ht]; exact hP, hD⟩, hS.F ht⟩) hS.2.2 fx_Lw_allow_20 hlocks
set_option maxHeartbeats 4000000 in
set_option maxRecDepth 100000 in
theorem fl_tick (l : Launch) (hst : l.stackTraces = false) (D : va_G) (cR cP : ClassId) (ad : Nat → Nat) (sz : Nat) (σ : FDS) (p1 : UInt64) (cO : ClassId) (oa : Nat) (x : UInt64) (hI : fd_Inv σ) : Met l fy_Lw_tick (fw_Lw_tick :: fb_tbl) ({ frames := 7, cells := 1, slots := 6, locals := 104 } : Room) (fl_Pc D [.ref (ad 0), .double p1, .ref oa] (fd_tys cR cP ++ [(cO, .double)]) (fd_w cR cP ad σ ++ ([(oa, .inl (cO, 1, .inr (.inr (.inr (.inl (fun _ => x))))))] : va_W)) sz) ((fun A => va_Qi (fun (r : Int32) (u : FDS × UInt64) => r = fl_km_tick (fv_Dk_tick σ p1).1 ∧ u.1 = (fv_Dk_tick σ p1).2.2 ∧ u.2 = (if (fv_Dk_tick σ p1).1 = 0 then (fv_Dk_tick σ p1).2.1 else x) ∧ fd_Inv u.1) (fun u t => va_P D fn_cl (fd_w cR cP ad u.1 ++ ([(oa, .inl (cO, 1, .inr (.inr (.inr (.inl (fun _ => u.2))))))] : va_W)) t.heap ∧ va_D A (fd_w cR cP ad u.1 ++ ([(oa, .inl (cO, 1, .inr (.inr (.inr (.inl (fun _ => u.2))))))] : va_W))) A) (va_A (fd_w cR cP ad σ ++ ([(oa, .inl (cO, 1, .inr (.inr (.inr (.inl (fun _ => x))))))] : va_W)) sz)) 1 6 (va_A (fd_w cR cP ad σ ++ ([(oa, .inl (cO, 1, .inr (.inr (.inr (.inl (fun _ => x))))))] : va_W)) sz) := by
  refine va_MetW (cc := fb_Lw_tick) (maxL := 5) (ret := (some .int)) (hh := [(0, 8, 11, 13)]) (by decide) rfl ?_
  intro p e s m args below meth c s₁ B hml hv
  obtain ⟨rfl, hsz, hP, hK, hD0, hN, hX, hXn, hZ⟩ := hv
  have hx := B.exec
  have hb := B.bytes
  have hr := B.returns
  have hts := atoms_spec (ws := fw_Lw_tick :: fb_tbl) B.pre
  have hown : s.vm.findClass fn_R_Lw = some m.cls := findClass_of_methodNamed B.named
  have hlocks := B.notSynchronized
  have htab := vx_table (x := fy_Lw_tick) B (hts _ List.mem_cons_self)
  subst hsz
  have hD := hD0.self (sz := s.heap.size)
  have hA0 : ∀ z : Nat, s.heap.size ≤ z → va_A (fd_w cR cP ad σ ++ ([(oa, .inl (cO, 1, .inr (.inr (.inr (.inl (fun _ => x))))))] : va_W)) s.heap.size z := fun z h => Or.inr h
  generalize va_A (fd_w cR cP ad σ ++ ([(oa, .inl (cO, 1, .inr (.inr (.inr (.inl (fun _ => x))))))] : va_W)) s.heap.size = A at hD hA0 hZ ⊢
  have hA : ∀ z : Nat, s.heap.size ≤ z → A z := hA0
  have hS : va_S A s.heap s.heap [] := va_S.rf
  have hKd : va_K D fn_cl (fd_tys cR cP) s := hK.sub [0, 1] rfl
  have hl := lv_entry ([.ref (ad 0), .double p1, .ref oa]) (n := 5) (Nat.le_of_ble_eq_true rfl)
  rw [lg_entry_eq]
  generalize (lg_sl ([.ref (ad 0), .double p1, .ref oa]) ++ List.replicate (5 - (lg_sl ([.ref (ad 0), .double p1, .ref oa])).length) Slot.unset).toArray = ls at hl ⊢
  have hl : lv_has ls 5 [(0, .ref (ad 0)), (1, .double p1), (3, .ref oa)] := hl
  have hF := fd_freeL hD hS hA
  refine lv_aload_n hx hb fx_Lw_tick_0 rfl (lv_at hl 2 rfl) ?_
  refine lv_iconst (v := 0) hx hb fx_Lw_tick_1 (by decide) ?_
  refine lv_aload_n hx hb fx_Lw_tick_2 rfl (lv_at hl 0 rfl) ?_
  refine lv_dload_n hx hb fx_Lw_tick_3 rfl (lv_at hl 1 rfl) ?_
  refine vx_calld (vx_runV (As := [.double p1]) (rest := [.int 0, .ref oa]) ⟨hx, hb, hml, hown, hts⟩ (fc_Dk_tick l hst D cR cP ad s.heap.size σ p1 hI) ⟨callB_of 1 hts (fb_good fm_Dk_tick) rfl rfl rfl (hts _ (List.mem_cons_of_mem _ fq_1)) (hts _ (List.mem_cons_of_mem _ fq_334)) (by decide +kernel) ⟨Nat.le_of_ble_eq_true rfl, Nat.le_of_ble_eq_true rfl⟩, (hts _ (List.mem_cons_of_mem _ fq_335)), (hts _ (List.mem_cons_of_mem _ fq_336))⟩ (fl_preV (tys := []) hP hKd hD hS hF hN hX hZ) rfl rfl hl.1 rfl (lv_room (Nat.le_of_ble_eq_true rfl)) fx_Lw_tick_4 ⟨Nat.le_of_ble_eq_true rfl, Nat.le_of_ble_eq_true rfl⟩) hS (fun z _ h => hF z h) hF (fun z _ h => hF z h) (fun E ce q9 u t H1 locs ht hvm _ hB hz1 hk1 hS hce hcv hcl => ?_) (fun r u t H1 locs ht hvm hw hB hz1 hk1 hS => ?_)
  · obtain ⟨⟨⟨c9, hc9, hM⟩, hI1⟩, hP1, hD1⟩ := hB
    rw [ht] at hP1
    obtain ⟨hP, hD⟩ := fd_frameL hP hD hk1 hF hP1 hD1
    have hco := fl_codes_tick σ p1
    rw [hM] at hco
    rcases hc9 with ⟨rfl, rfl⟩ | ⟨rfl, rfl⟩ | ⟨rfl, rfl⟩
    · refine vx_catch hown [] ⟨0, 8, 11, 13⟩ [] (htab.trans rfl) (fun z hz => by cases hz) (by decide) (by decide) (hts _ (List.mem_cons_of_mem _ fq_235)) (va_Nw.use rfl (hX _ (List.mem_of_getElem? (i := 0) rfl))) hce hcv hcl ?_
      refine lv_astore (lv' := [(4, .ref q9), (0, .ref (ad 0)), (1, .double p1), (3, .ref oa)]) hx hb fx_Lw_tick_11 hl (by decide) rfl (fun ls hl => ?_)
      refine lv_iconst (v := 1) hx hb fx_Lw_tick_13 (by decide) ?_
      exact W.iret hx hb hr (fun t ht hW => ⟨⟨1, (u, x), rfl, ⟨by rw [hM]; rfl, by rw [hM], by rw [hM]; rfl, hI1⟩, by rw [ht]; exact hP, hD⟩, hS.F ht⟩) hS.2.2 fx_Lw_tick_14 hlocks
    · exact absurd (show (2 : Int32) = 0 ∨ (2 : Int32) = 1 from hco) (by decide)
    · exact absurd (show (3 : Int32) = 0 ∨ (3 : Int32) = 1 from hco) (by decide)
  · obtain ⟨hM, hI1⟩ := hw
    obtain ⟨hP1, hD1⟩ := hB
    rw [ht] at hP1
    obtain ⟨hP, hD⟩ := fd_frameL hP hD hk1 hF hP1 hD1
    have h1 : vp_in 0 1 := vp_in_nI (n := 0) (N := 1) (by decide) (by decide)
    refine va_dast (D := D) (x := r) hx hb hK hP hD hS 59 2 (fl_at59) rfl h1 fx_Lw_tick_7 (fun H locs hP hD hS => ?_)
    have hP := fl_outD hP
    have hD := fl_outDD hD
    refine lv_goto (tgt := 15) hx hb fx_Lw_tick_8 (by decide) ?_
    refine lv_iconst (v := 0) hx hb fx_Lw_tick_15 (by decide) ?_
    exact W.iret hx hb hr (fun t ht hW => ⟨⟨0, (u, r), rfl, ⟨by rw [hM]; rfl, by rw [hM], by rw [hM]; rfl, hI1⟩, by rw [ht]; exact hP, hD⟩, hS.F ht⟩) hS.2.2 fx_Lw_tick_16 hlocks
set_option maxHeartbeats 4000000 in
set_option maxRecDepth 100000 in
theorem fl_told (l : Launch) (hst : l.stackTraces = false) (D : va_G) (cR cP : ClassId) (ad : Nat → Nat) (sz : Nat) (σ : FDS) (p1 : Int32) (cO : ClassId) (oa : Nat) (x : Int64) (hI : fd_Inv σ) : Met l fy_Lw_told (fw_Lw_told :: fb_tbl) ({ frames := 7, cells := 1, slots := 6, locals := 102 } : Room) (fl_Pc D [.ref (ad 0), .int p1, .ref oa] (fd_tys cR cP ++ [(cO, .long)]) (fd_w cR cP ad σ ++ ([(oa, .inl (cO, 1, .inr (.inl (fun _ => x))))] : va_W)) sz) ((fun A => va_Qi (fun (r : Int32) (u : FDS × Int64) => r = fl_km_told (fv_Dk_told σ p1).1 ∧ u.1 = (fv_Dk_told σ p1).2.2 ∧ u.2 = (if (fv_Dk_told σ p1).1 = 0 then (fv_Dk_told σ p1).2.1.toInt64 else x) ∧ fd_Inv u.1) (fun u t => va_P D fn_cl (fd_w cR cP ad u.1 ++ ([(oa, .inl (cO, 1, .inr (.inl (fun _ => u.2))))] : va_W)) t.heap ∧ va_D A (fd_w cR cP ad u.1 ++ ([(oa, .inl (cO, 1, .inr (.inl (fun _ => u.2))))] : va_W))) A) (va_A (fd_w cR cP ad σ ++ ([(oa, .inl (cO, 1, .inr (.inl (fun _ => x))))] : va_W)) sz)) 1 6 (va_A (fd_w cR cP ad σ ++ ([(oa, .inl (cO, 1, .inr (.inl (fun _ => x))))] : va_W)) sz) := by
  refine va_MetW (cc := fb_Lw_told) (maxL := 4) (ret := (some .int)) (hh := [(0, 9, 12, 13)]) (by decide) rfl ?_
  intro p e s m args below meth c s₁ B hml hv
  obtain ⟨rfl, hsz, hP, hK, hD0, hN, hX, hXn, hZ⟩ := hv
  have hx := B.exec
  have hb := B.bytes
  have hr := B.returns
  have hts := atoms_spec (ws := fw_Lw_told :: fb_tbl) B.pre
  have hown : s.vm.findClass fn_R_Lw = some m.cls := findClass_of_methodNamed B.named
  have hlocks := B.notSynchronized
  have htab := vx_table (x := fy_Lw_told) B (hts _ List.mem_cons_self)
  subst hsz
  have hD := hD0.self (sz := s.heap.size)
  have hA0 : ∀ z : Nat, s.heap.size ≤ z → va_A (fd_w cR cP ad σ ++ ([(oa, .inl (cO, 1, .inr (.inl (fun _ => x))))] : va_W)) s.heap.size z := fun z h => Or.inr h
  generalize va_A (fd_w cR cP ad σ ++ ([(oa, .inl (cO, 1, .inr (.inl (fun _ => x))))] : va_W)) s.heap.size = A at hD hA0 hZ ⊢
  have hA : ∀ z : Nat, s.heap.size ≤ z → A z := hA0
  have hS : va_S A s.heap s.heap [] := va_S.rf
  have hKd : va_K D fn_cl (fd_tys cR cP) s := hK.sub [0, 1] rfl
  have hl := lv_entry ([.ref (ad 0), .int p1, .ref oa]) (n := 4) (Nat.le_of_ble_eq_true rfl)
  rw [lg_entry_eq]
  generalize (lg_sl ([.ref (ad 0), .int p1, .ref oa]) ++ List.replicate (4 - (lg_sl ([.ref (ad 0), .int p1, .ref oa])).length) Slot.unset).toArray = ls at hl ⊢
  have hl : lv_has ls 4 [(0, .ref (ad 0)), (1, .int p1), (2, .ref oa)] := hl
  have hF := fd_freeL hD hS hA
  refine lv_aload_n hx hb fx_Lw_told_0 rfl (lv_at hl 2 rfl) ?_
  refine lv_iconst (v := 0) hx hb fx_Lw_told_1 (by decide) ?_
  refine lv_aload_n hx hb fx_Lw_told_2 rfl (lv_at hl 0 rfl) ?_
  refine lv_iload_n hx hb fx_Lw_told_3 rfl (lv_at hl 1 rfl) ?_
  refine vx_calli (vx_runV (As := [.int p1]) (rest := [.int 0, .ref oa]) ⟨hx, hb, hml, hown, hts⟩ (fc_Dk_told l hst D cR cP ad s.heap.size σ p1 hI) ⟨callB_of 1 hts (fb_good fm_Dk_told) rfl rfl rfl (hts _ (List.mem_cons_of_mem _ fq_1)) (hts _ (List.mem_cons_of_mem _ fq_476)) (by decide +kernel) ⟨Nat.le_of_ble_eq_true rfl, Nat.le_of_ble_eq_true rfl⟩, (hts _ (List.mem_cons_of_mem _ fq_477)), (hts _ (List.mem_cons_of_mem _ fq_478))⟩ (fl_preV (tys := []) hP hKd hD hS hF hN hX hZ) rfl rfl hl.1 rfl (lv_room (Nat.le_of_ble_eq_true rfl)) fx_Lw_told_4 ⟨Nat.le_of_ble_eq_true rfl, Nat.le_of_ble_eq_true rfl⟩) hS (fun z _ h => hF z h) hF (fun z _ h => hF z h) (fun E ce q9 u t H1 locs ht hvm _ hB hz1 hk1 hS hce hcv hcl => ?_) (fun r u t H1 locs ht hvm hw hB hz1 hk1 hS => ?_)
  · obtain ⟨⟨⟨c9, hc9, hM⟩, hI1⟩, hP1, hD1⟩ := hB
    rw [ht] at hP1
    obtain ⟨hP, hD⟩ := fd_frameL hP hD hk1 hF hP1 hD1
    have hco := fl_codes_told σ p1
    rw [hM] at hco
    rcases hc9 with ⟨rfl, rfl⟩ | ⟨rfl, rfl⟩ | ⟨rfl, rfl⟩
    · refine vx_catch hown [] ⟨0, 9, 12, 13⟩ [] (htab.trans rfl) (fun z hz => by cases hz) (by decide) (by decide) (hts _ (List.mem_cons_of_mem _ fq_235)) (va_Nw.use rfl (hX _ (List.mem_of_getElem? (i := 0) rfl))) hce hcv hcl ?_
      refine lv_astore_n (lv' := [(3, .ref q9), (0, .ref (ad 0)), (1, .int p1), (2, .ref oa)]) hx hb fx_Lw_told_12 rfl hl (by decide) rfl (fun ls hl => ?_)
      refine lv_iconst (v := 1) hx hb fx_Lw_told_13 (by decide) ?_
      exact W.iret hx hb hr (fun t ht hW => ⟨⟨1, (u, x), rfl, ⟨by rw [hM]; rfl, by rw [hM], by rw [hM]; rfl, hI1⟩, by rw [ht]; exact hP, hD⟩, hS.F ht⟩) hS.2.2 fx_Lw_told_14 hlocks
    · exact absurd (show (2 : Int32) = 0 ∨ (2 : Int32) = 1 from hco) (by decide)
    · exact absurd (show (3 : Int32) = 0 ∨ (3 : Int32) = 1 from hco) (by decide)
  · obtain ⟨hM, hI1⟩ := hw
    obtain ⟨hP1, hD1⟩ := hB
    rw [ht] at hP1
    obtain ⟨hP, hD⟩ := fd_frameL hP hD hk1 hF hP1 hD1
    refine lv_i2l hx hb fx_Lw_told_7 rfl ?_
    have h1 : vp_in 0 1 := vp_in_nI (n := 0) (N := 1) (by decide) (by decide)
    refine va_last (D := D) (x := r.toInt64) hx hb hK hP hD hS 59 2 (fl_at59) rfl h1 fx_Lw_told_8 (fun H locs hP hD hS => ?_)
    have hP := fl_outL hP
    have hD := fl_outLD hD
    refine lv_goto (tgt := 15) hx hb fx_Lw_told_9 (by decide) ?_
    refine lv_iconst (v := 0) hx hb fx_Lw_told_15 (by decide) ?_
    exact W.iret hx hb hr (fun t ht hW => ⟨⟨0, (u, r.toInt64), rfl, ⟨by rw [hM]; rfl, by rw [hM], by rw [hM]; rfl, hI1⟩, by rw [ht]; exact hP, hD⟩, hS.F ht⟩) hS.2.2 fx_Lw_told_16 hlocks
set_option maxHeartbeats 4000000 in
set_option maxRecDepth 100000 in
theorem fl_kept (l : Launch) (hst : l.stackTraces = false) (D : va_G) (cR cP : ClassId) (ad : Nat → Nat) (sz : Nat) (σ : FDS) (p1 : Int32) (p2 : Int32) (cO : ClassId) (oa : Nat) (x : Int64) (hI : fd_Inv σ) : Met l fy_Lw_kept (fw_Lw_kept :: fb_tbl) ({ frames := 7, cells := 1, slots := 6, locals := 104 } : Room) (fl_Pc D [.ref (ad 0), .int p1, .int p2, .ref oa] (fd_tys cR cP ++ [(cO, .long)]) (fd_w cR cP ad σ ++ ([(oa, .inl (cO, 1, .inr (.inl (fun _ => x))))] : va_W)) sz) ((fun A => va_Qi (fun (r : Int32) (u : FDS × Int64) => r = fl_km_kept (fv_Dk_kept σ p1 p2).1 ∧ u.1 = (fv_Dk_kept σ p1 p2).2.2 ∧ u.2 = (if (fv_Dk_kept σ p1 p2).1 = 0 then (fv_Dk_kept σ p1 p2).2.1.toInt64 else x) ∧ fd_Inv u.1) (fun u t => va_P D fn_cl (fd_w cR cP ad u.1 ++ ([(oa, .inl (cO, 1, .inr (.inl (fun _ => u.2))))] : va_W)) t.heap ∧ va_D A (fd_w cR cP ad u.1 ++ ([(oa, .inl (cO, 1, .inr (.inl (fun _ => u.2))))] : va_W))) A) (va_A (fd_w cR cP ad σ ++ ([(oa, .inl (cO, 1, .inr (.inl (fun _ => x))))] : va_W)) sz)) 1 6 (va_A (fd_w cR cP ad σ ++ ([(oa, .inl (cO, 1, .inr (.inl (fun _ => x))))] : va_W)) sz) := by
  refine va_MetW (cc := fb_Lw_kept) (maxL := 5) (ret := (some .int)) (hh := [(0, 10, 13, 13), (0, 10, 17, 45)]) (by decide) rfl ?_
  intro p e s m args below meth c s₁ B hml hv
  obtain ⟨rfl, hsz, hP, hK, hD0, hN, hX, hXn, hZ⟩ := hv
  have hx := B.exec
  have hb := B.bytes
  have hr := B.returns
  have hts := atoms_spec (ws := fw_Lw_kept :: fb_tbl) B.pre
  have hown : s.vm.findClass fn_R_Lw = some m.cls := findClass_of_methodNamed B.named
  have hlocks := B.notSynchronized
  have htab := vx_table (x := fy_Lw_kept) B (hts _ List.mem_cons_self)
  subst hsz
  have hD := hD0.self (sz := s.heap.size)
  have hA0 : ∀ z : Nat, s.heap.size ≤ z → va_A (fd_w cR cP ad σ ++ ([(oa, .inl (cO, 1, .inr (.inl (fun _ => x))))] : va_W)) s.heap.size z := fun z h => Or.inr h
  generalize va_A (fd_w cR cP ad σ ++ ([(oa, .inl (cO, 1, .inr (.inl (fun _ => x))))] : va_W)) s.heap.size = A at hD hA0 hZ ⊢
  have hA : ∀ z : Nat, s.heap.size ≤ z → A z := hA0
  have hS : va_S A s.heap s.heap [] := va_S.rf
  have hKd : va_K D fn_cl (fd_tys cR cP) s := hK.sub [0, 1] rfl
  have hl := lv_entry ([.ref (ad 0), .int p1, .int p2, .ref oa]) (n := 5) (Nat.le_of_ble_eq_true rfl)
  rw [lg_entry_eq]
  generalize (lg_sl ([.ref (ad 0), .int p1, .int p2, .ref oa]) ++ List.replicate (5 - (lg_sl ([.ref (ad 0), .int p1, .int p2, .ref oa])).length) Slot.unset).toArray = ls at hl ⊢
  have hl : lv_has ls 5 [(0, .ref (ad 0)), (1, .int p1), (2, .int p2), (3, .ref oa)] := hl
  have hF := fd_freeL hD hS hA
  refine lv_aload_n hx hb fx_Lw_kept_0 rfl (lv_at hl 3 rfl) ?_
  refine lv_iconst (v := 0) hx hb fx_Lw_kept_1 (by decide) ?_
  refine lv_aload_n hx hb fx_Lw_kept_2 rfl (lv_at hl 0 rfl) ?_
  refine lv_iload_n hx hb fx_Lw_kept_3 rfl (lv_at hl 1 rfl) ?_
  refine lv_iload_n hx hb fx_Lw_kept_4 rfl (lv_at hl 2 rfl) ?_
  refine vx_calli (vx_runV (As := [.int p1, .int p2]) (rest := [.int 0, .ref oa]) ⟨hx, hb, hml, hown, hts⟩ (fc_Dk_kept l hst D cR cP ad s.heap.size σ p1 p2 hI) ⟨callB_of 2 hts (fb_good fm_Dk_kept) rfl rfl rfl (hts _ (List.mem_cons_of_mem _ fq_1)) (hts _ (List.mem_cons_of_mem _ fq_484)) (by decide +kernel) ⟨Nat.le_of_ble_eq_true rfl, Nat.le_of_ble_eq_true rfl⟩, (hts _ (List.mem_cons_of_mem _ fq_485)), (hts _ (List.mem_cons_of_mem _ fq_486))⟩ (fl_preV (tys := []) hP hKd hD hS hF hN hX hZ) rfl rfl hl.1 rfl (lv_room (Nat.le_of_ble_eq_true rfl)) fx_Lw_kept_5 ⟨Nat.le_of_ble_eq_true rfl, Nat.le_of_ble_eq_true rfl⟩) hS (fun z _ h => hF z h) hF (fun z _ h => hF z h) (fun E ce q9 u t H1 locs ht hvm _ hB hz1 hk1 hS hce hcv hcl => ?_) (fun r u t H1 locs ht hvm hw hB hz1 hk1 hS => ?_)
  · obtain ⟨⟨⟨c9, hc9, hM⟩, hI1⟩, hP1, hD1⟩ := hB
    rw [ht] at hP1
    obtain ⟨hP, hD⟩ := fd_frameL hP hD hk1 hF hP1 hD1
    have hco := fl_codes_kept σ p1 p2
    rw [hM] at hco
    rcases hc9 with ⟨rfl, rfl⟩ | ⟨rfl, rfl⟩ | ⟨rfl, rfl⟩
    · refine vx_catch hown [] ⟨0, 10, 13, 13⟩ [⟨0, 10, 17, 45⟩] (htab.trans rfl) (fun z hz => by cases hz) (by decide) (by decide) (hts _ (List.mem_cons_of_mem _ fq_235)) (va_Nw.use rfl (hX _ (List.mem_of_getElem? (i := 0) rfl))) hce hcv hcl ?_
      refine lv_astore (lv' := [(4, .ref q9), (0, .ref (ad 0)), (1, .int p1), (2, .int p2), (3, .ref oa)]) hx hb fx_Lw_kept_13 hl (by decide) rfl (fun ls hl => ?_)
      refine lv_iconst (v := 1) hx hb fx_Lw_kept_15 (by decide) ?_
      exact W.iret hx hb hr (fun t ht hW => ⟨⟨1, (u, x), rfl, ⟨by rw [hM]; rfl, by rw [hM], by rw [hM]; rfl, hI1⟩, by rw [ht]; exact hP, hD⟩, hS.F ht⟩) hS.2.2 fx_Lw_kept_16 hlocks
    · exact absurd (show (2 : Int32) = 0 ∨ (2 : Int32) = 1 ∨ (2 : Int32) = 3 from hco) (by decide)
    · refine vx_catch hown [⟨0, 10, 13, 13⟩] ⟨0, 10, 17, 45⟩ [] (htab.trans rfl) (fun z hz => by cases List.mem_singleton.mp hz; exact Or.inr ⟨by decide, fd_E1, (hts _ (List.mem_cons_of_mem _ fq_235)), hXn.2⟩) (by decide) (by decide) (hts _ (List.mem_cons_of_mem _ fq_483)) (va_Nw.use rfl (hX _ (List.mem_of_getElem? (i := 5) rfl))) hce hcv hcl ?_
      refine lv_astore (lv' := [(4, .ref q9), (0, .ref (ad 0)), (1, .int p1), (2, .int p2), (3, .ref oa)]) hx hb fx_Lw_kept_17 hl (by decide) rfl (fun ls hl => ?_)
      refine lv_iconst (v := 2) hx hb fx_Lw_kept_19 (by decide) ?_
      exact W.iret hx hb hr (fun t ht hW => ⟨⟨2, (u, x), rfl, ⟨by rw [hM]; rfl, by rw [hM], by rw [hM]; rfl, hI1⟩, by rw [ht]; exact hP, hD⟩, hS.F ht⟩) hS.2.2 fx_Lw_kept_20 hlocks
  · obtain ⟨hM, hI1⟩ := hw
    obtain ⟨hP1, hD1⟩ := hB
    rw [ht] at hP1
    obtain ⟨hP, hD⟩ := fd_frameL hP hD hk1 hF hP1 hD1
    refine lv_i2l hx hb fx_Lw_kept_8 rfl ?_
    have h1 : vp_in 0 1 := vp_in_nI (n := 0) (N := 1) (by decide) (by decide)
    refine va_last (D := D) (x := r.toInt64) hx hb hK hP hD hS 59 2 (fl_at59) rfl h1 fx_Lw_kept_9 (fun H locs hP hD hS => ?_)
    have hP := fl_outL hP
    have hD := fl_outLD hD
    refine lv_goto (tgt := 21) hx hb fx_Lw_kept_10 (by decide) ?_
    refine lv_iconst (v := 0) hx hb fx_Lw_kept_21 (by decide) ?_
    exact W.iret hx hb hr (fun t ht hW => ⟨⟨0, (u, r.toInt64), rfl, ⟨by rw [hM]; rfl, by rw [hM], by rw [hM]; rfl, hI1⟩, by rw [ht]; exact hP, hD⟩, hS.F ht⟩) hS.2.2 fx_Lw_kept_22 hlocks
set_option maxHeartbeats 4000000 in
set_option maxRecDepth 100000 in
theorem fl_left (l : Launch) (hst : l.stackTraces = false) (D : va_G) (cR cP : ClassId) (ad : Nat → Nat) (sz : Nat) (σ : FDS) (p1 : Int32) (cO : ClassId) (oa : Nat) (x : UInt64) (hI : fd_Inv σ) : Met l fy_Lw_left (fw_Lw_left :: fb_tbl) ({ frames := 7, cells := 1, slots := 6, locals := 104 } : Room) (fl_Pc D [.ref (ad 0), .int p1, .ref oa] (fd_tys cR cP ++ [(cO, .double)]) (fd_w cR cP ad σ ++ ([(oa, .inl (cO, 1, .inr (.inr (.inr (.inl (fun _ => x))))))] : va_W)) sz) ((fun A => va_Qi (fun (r : Int32) (u : FDS × UInt64) => r = fl_km_left (fv_Dk_left σ p1).1 ∧ u.1 = (fv_Dk_left σ p1).2.2 ∧ u.2 = (if (fv_Dk_left σ p1).1 = 0 then (fv_Dk_left σ p1).2.1 else x) ∧ fd_Inv u.1) (fun u t => va_P D fn_cl (fd_w cR cP ad u.1 ++ ([(oa, .inl (cO, 1, .inr (.inr (.inr (.inl (fun _ => u.2))))))] : va_W)) t.heap ∧ va_D A (fd_w cR cP ad u.1 ++ ([(oa, .inl (cO, 1, .inr (.inr (.inr (.inl (fun _ => u.2))))))] : va_W))) A) (va_A (fd_w cR cP ad σ ++ ([(oa, .inl (cO, 1, .inr (.inr (.inr (.inl (fun _ => x))))))] : va_W)) sz)) 1 6 (va_A (fd_w cR cP ad σ ++ ([(oa, .inl (cO, 1, .inr (.inr (.inr (.inl (fun _ => x))))))] : va_W)) sz) := by
  refine va_MetW (cc := fb_Lw_left) (maxL := 4) (ret := (some .int)) (hh := [(0, 8, 11, 45)]) (by decide) rfl ?_
  intro p e s m args below meth c s₁ B hml hv
  obtain ⟨rfl, hsz, hP, hK, hD0, hN, hX, hXn, hZ⟩ := hv
  have hx := B.exec
  have hb := B.bytes
  have hr := B.returns
  have hts := atoms_spec (ws := fw_Lw_left :: fb_tbl) B.pre
  have hown : s.vm.findClass fn_R_Lw = some m.cls := findClass_of_methodNamed B.named
  have hlocks := B.notSynchronized
  have htab := vx_table (x := fy_Lw_left) B (hts _ List.mem_cons_self)
  subst hsz
  have hD := hD0.self (sz := s.heap.size)
  have hA0 : ∀ z : Nat, s.heap.size ≤ z → va_A (fd_w cR cP ad σ ++ ([(oa, .inl (cO, 1, .inr (.inr (.inr (.inl (fun _ => x))))))] : va_W)) s.heap.size z := fun z h => Or.inr h
  generalize va_A (fd_w cR cP ad σ ++ ([(oa, .inl (cO, 1, .inr (.inr (.inr (.inl (fun _ => x))))))] : va_W)) s.heap.size = A at hD hA0 hZ ⊢
  have hA : ∀ z : Nat, s.heap.size ≤ z → A z := hA0
  have hS : va_S A s.heap s.heap [] := va_S.rf
  have hKd : va_K D fn_cl (fd_tys cR cP) s := hK.sub [0, 1] rfl
  have hl := lv_entry ([.ref (ad 0), .int p1, .ref oa]) (n := 4) (Nat.le_of_ble_eq_true rfl)
  rw [lg_entry_eq]
  generalize (lg_sl ([.ref (ad 0), .int p1, .ref oa]) ++ List.replicate (4 - (lg_sl ([.ref (ad 0), .int p1, .ref oa])).length) Slot.unset).toArray = ls at hl ⊢
  have hl : lv_has ls 4 [(0, .ref (ad 0)), (1, .int p1), (2, .ref oa)] := hl
  have hF := fd_freeL hD hS hA
  refine lv_aload_n hx hb fx_Lw_left_0 rfl (lv_at hl 2 rfl) ?_
  refine lv_iconst (v := 0) hx hb fx_Lw_left_1 (by decide) ?_
  refine lv_aload_n hx hb fx_Lw_left_2 rfl (lv_at hl 0 rfl) ?_
  refine lv_iload_n hx hb fx_Lw_left_3 rfl (lv_at hl 1 rfl) ?_
  refine vx_calld (vx_runV (As := [.int p1]) (rest := [.int 0, .ref oa]) ⟨hx, hb, hml, hown, hts⟩ (fc_Dk_left l hst D cR cP ad s.heap.size σ p1 hI) ⟨callB_of 1 hts (fb_good fm_Dk_left) rfl rfl rfl (hts _ (List.mem_cons_of_mem _ fq_1)) (hts _ (List.mem_cons_of_mem _ fq_510)) (by decide +kernel) ⟨Nat.le_of_ble_eq_true rfl, Nat.le_of_ble_eq_true rfl⟩, (hts _ (List.mem_cons_of_mem _ fq_511)), (hts _ (List.mem_cons_of_mem _ fq_512))⟩ (fl_preV (tys := []) hP hKd hD hS hF hN hX hZ) rfl rfl hl.1 rfl (lv_room (Nat.le_of_ble_eq_true rfl)) fx_Lw_left_4 ⟨Nat.le_of_ble_eq_true rfl, Nat.le_of_ble_eq_true rfl⟩) hS (fun z _ h => hF z h) hF (fun z _ h => hF z h) (fun E ce q9 u t H1 locs ht hvm _ hB hz1 hk1 hS hce hcv hcl => ?_) (fun r u t H1 locs ht hvm hw hB hz1 hk1 hS => ?_)
  · obtain ⟨⟨⟨c9, hc9, hM⟩, hI1⟩, hP1, hD1⟩ := hB
    rw [ht] at hP1
    obtain ⟨hP, hD⟩ := fd_frameL hP hD hk1 hF hP1 hD1
    have hco := fl_codes_left σ p1
    rw [hM] at hco
    rcases hc9 with ⟨rfl, rfl⟩ | ⟨rfl, rfl⟩ | ⟨rfl, rfl⟩
    · exact absurd (show (1 : Int32) = 0 ∨ (1 : Int32) = 3 from hco) (by decide)
    · exact absurd (show (2 : Int32) = 0 ∨ (2 : Int32) = 3 from hco) (by decide)
    · refine vx_catch hown [] ⟨0, 8, 11, 45⟩ [] (htab.trans rfl) (fun z hz => by cases hz) (by decide) (by decide) (hts _ (List.mem_cons_of_mem _ fq_483)) (va_Nw.use rfl (hX _ (List.mem_of_getElem? (i := 5) rfl))) hce hcv hcl ?_
      refine lv_astore_n (lv' := [(3, .ref q9), (0, .ref (ad 0)), (1, .int p1), (2, .ref oa)]) hx hb fx_Lw_left_11 rfl hl (by decide) rfl (fun ls hl => ?_)
      refine lv_iconst (v := 1) hx hb fx_Lw_left_12 (by decide) ?_
      exact W.iret hx hb hr (fun t ht hW => ⟨⟨1, (u, x), rfl, ⟨by rw [hM]; rfl, by rw [hM], by rw [hM]; rfl, hI1⟩, by rw [ht]; exact hP, hD⟩, hS.F ht⟩) hS.2.2 fx_Lw_left_13 hlocks
  · obtain ⟨hM, hI1⟩ := hw
    obtain ⟨hP1, hD1⟩ := hB
    rw [ht] at hP1
    obtain ⟨hP, hD⟩ := fd_frameL hP hD hk1 hF hP1 hD1
    have h1 : vp_in 0 1 := vp_in_nI (n := 0) (N := 1) (by decide) (by decide)
    refine va_dast (D := D) (x := r) hx hb hK hP hD hS 59 2 (fl_at59) rfl h1 fx_Lw_left_7 (fun H locs hP hD hS => ?_)
    have hP := fl_outD hP
    have hD := fl_outDD hD
    refine lv_goto (tgt := 14) hx hb fx_Lw_left_8 (by decide) ?_
    refine lv_iconst (v := 0) hx hb fx_Lw_left_14 (by decide) ?_
    exact W.iret hx hb hr (fun t ht hW => ⟨⟨0, (u, r), rfl, ⟨by rw [hM]; rfl, by rw [hM], by rw [hM]; rfl, hI1⟩, by rw [ht]; exact hP, hD⟩, hS.F ht⟩) hS.2.2 fx_Lw_left_15 hlocks
set_option maxHeartbeats 4000000 in
set_option maxRecDepth 100000 in
theorem fl_count (l : Launch) (hst : l.stackTraces = false) (D : va_G) (cR cP : ClassId) (ad : Nat → Nat) (sz : Nat) (σ : FDS) (p1 : Int32) (cO : ClassId) (oa : Nat) (x : Int64) (hI : fd_Inv σ) : Met l fy_Lw_count (fw_Lw_count :: fb_tbl) ({ frames := 7, cells := 1, slots := 6, locals := 102 } : Room) (fl_Pc D [.ref (ad 0), .int p1, .ref oa] (fd_tys cR cP ++ [(cO, .long)]) (fd_w cR cP ad σ ++ ([(oa, .inl (cO, 1, .inr (.inl (fun _ => x))))] : va_W)) sz) ((fun A => va_Qi (fun (r : Int32) (u : FDS × Int64) => r = fl_km_count (fv_Dk_count σ p1).1 ∧ u.1 = (fv_Dk_count σ p1).2.2 ∧ u.2 = (if (fv_Dk_count σ p1).1 = 0 then (fv_Dk_count σ p1).2.1.toInt64 else x) ∧ fd_Inv u.1) (fun u t => va_P D fn_cl (fd_w cR cP ad u.1 ++ ([(oa, .inl (cO, 1, .inr (.inl (fun _ => u.2))))] : va_W)) t.heap ∧ va_D A (fd_w cR cP ad u.1 ++ ([(oa, .inl (cO, 1, .inr (.inl (fun _ => u.2))))] : va_W))) A) (va_A (fd_w cR cP ad σ ++ ([(oa, .inl (cO, 1, .inr (.inl (fun _ => x))))] : va_W)) sz)) 1 6 (va_A (fd_w cR cP ad σ ++ ([(oa, .inl (cO, 1, .inr (.inl (fun _ => x))))] : va_W)) sz) := by
  refine va_MetW (cc := fb_Lw_count) (maxL := 4) (ret := (some .int)) (hh := [(0, 9, 12, 13)]) (by decide) rfl ?_
  intro p e s m args below meth c s₁ B hml hv
  obtain ⟨rfl, hsz, hP, hK, hD0, hN, hX, hXn, hZ⟩ := hv
  have hx := B.exec
  have hb := B.bytes
  have hr := B.returns
  have hts := atoms_spec (ws := fw_Lw_count :: fb_tbl) B.pre
  have hown : s.vm.findClass fn_R_Lw = some m.cls := findClass_of_methodNamed B.named
  have hlocks := B.notSynchronized
  have htab := vx_table (x := fy_Lw_count) B (hts _ List.mem_cons_self)
  subst hsz
  have hD := hD0.self (sz := s.heap.size)
  have hA0 : ∀ z : Nat, s.heap.size ≤ z → va_A (fd_w cR cP ad σ ++ ([(oa, .inl (cO, 1, .inr (.inl (fun _ => x))))] : va_W)) s.heap.size z := fun z h => Or.inr h
  generalize va_A (fd_w cR cP ad σ ++ ([(oa, .inl (cO, 1, .inr (.inl (fun _ => x))))] : va_W)) s.heap.size = A at hD hA0 hZ ⊢
  have hA : ∀ z : Nat, s.heap.size ≤ z → A z := hA0
  have hS : va_S A s.heap s.heap [] := va_S.rf
  have hKd : va_K D fn_cl (fd_tys cR cP) s := hK.sub [0, 1] rfl
  have hl := lv_entry ([.ref (ad 0), .int p1, .ref oa]) (n := 4) (Nat.le_of_ble_eq_true rfl)
  rw [lg_entry_eq]
  generalize (lg_sl ([.ref (ad 0), .int p1, .ref oa]) ++ List.replicate (4 - (lg_sl ([.ref (ad 0), .int p1, .ref oa])).length) Slot.unset).toArray = ls at hl ⊢
  have hl : lv_has ls 4 [(0, .ref (ad 0)), (1, .int p1), (2, .ref oa)] := hl
  have hF := fd_freeL hD hS hA
  refine lv_aload_n hx hb fx_Lw_count_0 rfl (lv_at hl 2 rfl) ?_
  refine lv_iconst (v := 0) hx hb fx_Lw_count_1 (by decide) ?_
  refine lv_aload_n hx hb fx_Lw_count_2 rfl (lv_at hl 0 rfl) ?_
  refine lv_iload_n hx hb fx_Lw_count_3 rfl (lv_at hl 1 rfl) ?_
  refine vx_calli (vx_runV (As := [.int p1]) (rest := [.int 0, .ref oa]) ⟨hx, hb, hml, hown, hts⟩ (fc_Dk_count l hst D cR cP ad s.heap.size σ p1 hI) ⟨callB_of 1 hts (fb_good fm_Dk_count) rfl rfl rfl (hts _ (List.mem_cons_of_mem _ fq_1)) (hts _ (List.mem_cons_of_mem _ fq_517)) (by decide +kernel) ⟨Nat.le_of_ble_eq_true rfl, Nat.le_of_ble_eq_true rfl⟩, (hts _ (List.mem_cons_of_mem _ fq_518)), (hts _ (List.mem_cons_of_mem _ fq_519))⟩ (fl_preV (tys := []) hP hKd hD hS hF hN hX hZ) rfl rfl hl.1 rfl (lv_room (Nat.le_of_ble_eq_true rfl)) fx_Lw_count_4 ⟨Nat.le_of_ble_eq_true rfl, Nat.le_of_ble_eq_true rfl⟩) hS (fun z _ h => hF z h) hF (fun z _ h => hF z h) (fun E ce q9 u t H1 locs ht hvm _ hB hz1 hk1 hS hce hcv hcl => ?_) (fun r u t H1 locs ht hvm hw hB hz1 hk1 hS => ?_)
  · obtain ⟨⟨⟨c9, hc9, hM⟩, hI1⟩, hP1, hD1⟩ := hB
    rw [ht] at hP1
    obtain ⟨hP, hD⟩ := fd_frameL hP hD hk1 hF hP1 hD1
    have hco := fl_codes_count σ p1
    rw [hM] at hco
    rcases hc9 with ⟨rfl, rfl⟩ | ⟨rfl, rfl⟩ | ⟨rfl, rfl⟩
    · refine vx_catch hown [] ⟨0, 9, 12, 13⟩ [] (htab.trans rfl) (fun z hz => by cases hz) (by decide) (by decide) (hts _ (List.mem_cons_of_mem _ fq_235)) (va_Nw.use rfl (hX _ (List.mem_of_getElem? (i := 0) rfl))) hce hcv hcl ?_
      refine lv_astore_n (lv' := [(3, .ref q9), (0, .ref (ad 0)), (1, .int p1), (2, .ref oa)]) hx hb fx_Lw_count_12 rfl hl (by decide) rfl (fun ls hl => ?_)
      refine lv_iconst (v := 1) hx hb fx_Lw_count_13 (by decide) ?_
      exact W.iret hx hb hr (fun t ht hW => ⟨⟨1, (u, x), rfl, ⟨by rw [hM]; rfl, by rw [hM], by rw [hM]; rfl, hI1⟩, by rw [ht]; exact hP, hD⟩, hS.F ht⟩) hS.2.2 fx_Lw_count_14 hlocks
    · exact absurd (show (2 : Int32) = 0 ∨ (2 : Int32) = 1 from hco) (by decide)
    · exact absurd (show (3 : Int32) = 0 ∨ (3 : Int32) = 1 from hco) (by decide)
  · obtain ⟨hM, hI1⟩ := hw
    obtain ⟨hP1, hD1⟩ := hB
    rw [ht] at hP1
    obtain ⟨hP, hD⟩ := fd_frameL hP hD hk1 hF hP1 hD1
    refine lv_i2l hx hb fx_Lw_count_7 rfl ?_
    have h1 : vp_in 0 1 := vp_in_nI (n := 0) (N := 1) (by decide) (by decide)
    refine va_last (D := D) (x := r.toInt64) hx hb hK hP hD hS 59 2 (fl_at59) rfl h1 fx_Lw_count_8 (fun H locs hP hD hS => ?_)
    have hP := fl_outL hP
    have hD := fl_outLD hD
    refine lv_goto (tgt := 15) hx hb fx_Lw_count_9 (by decide) ?_
    refine lv_iconst (v := 0) hx hb fx_Lw_count_15 (by decide) ?_
    exact W.iret hx hb hr (fun t ht hW => ⟨⟨0, (u, r.toInt64), rfl, ⟨by rw [hM]; rfl, by rw [hM], by rw [hM]; rfl, hI1⟩, by rw [ht]; exact hP, hD⟩, hS.F ht⟩) hS.2.2 fx_Lw_count_16 hlocks
set_option maxHeartbeats 4000000 in
set_option maxRecDepth 100000 in
theorem fl_fetch (l : Launch) (hst : l.stackTraces = false) (D : va_G) (cR cP : ClassId) (ad : Nat → Nat) (sz : Nat) (σ : FDS) (p1 : Int32) (p2 : Int32) (p3 : Int32) (p4 : Int32) (p5 : Int32) (p6 : Int32) (p7 : Int32) (cO : ClassId) (oa : Nat) (x : Int64) (hI : fd_Inv σ) : Met l fy_Lw_fetch (fw_Lw_fetch :: fb_tbl) ({ frames := 7, cells := 1, slots := 6, locals := 164 } : Room) (fl_Pc D [.ref (ad 0), .int p1, .int p2, .int p3, .int p4, .int p5, .int p6, .int p7, .ref oa] (fd_tys cR cP ++ [(cO, .long)]) (fd_w cR cP ad σ ++ ([(oa, .inl (cO, 1, .inr (.inl (fun _ => x))))] : va_W)) sz) ((fun A => va_Qi (fun (r : Int32) (u : FDS × Int64) => r = fl_km_fetch (fv_Dk_fetch σ p1 p2 p3 p4 p5 p6 p7).1 ∧ u.1 = (fv_Dk_fetch σ p1 p2 p3 p4 p5 p6 p7).2.2 ∧ u.2 = (if (fv_Dk_fetch σ p1 p2 p3 p4 p5 p6 p7).1 = 0 then (fv_Dk_fetch σ p1 p2 p3 p4 p5 p6 p7).2.1.toInt64 else x) ∧ fd_Inv u.1) (fun u t => va_P D fn_cl (fd_w cR cP ad u.1 ++ ([(oa, .inl (cO, 1, .inr (.inl (fun _ => u.2))))] : va_W)) t.heap ∧ va_D A (fd_w cR cP ad u.1 ++ ([(oa, .inl (cO, 1, .inr (.inl (fun _ => u.2))))] : va_W))) A) (va_A (fd_w cR cP ad σ ++ ([(oa, .inl (cO, 1, .inr (.inl (fun _ => x))))] : va_W)) sz)) 1 6 (va_A (fd_w cR cP ad σ ++ ([(oa, .inl (cO, 1, .inr (.inl (fun _ => x))))] : va_W)) sz) := by
  refine va_MetW (cc := fb_Lw_fetch) (maxL := 10) (ret := (some .int)) (hh := [(0, 20, 23, 13), (0, 20, 27, 35)]) (by decide) rfl ?_
  intro p e s m args below meth c s₁ B hml hv
  obtain ⟨rfl, hsz, hP, hK, hD0, hN, hX, hXn, hZ⟩ := hv
  have hx := B.exec
  have hb := B.bytes
  have hr := B.returns
  have hts := atoms_spec (ws := fw_Lw_fetch :: fb_tbl) B.pre
  have hown : s.vm.findClass fn_R_Lw = some m.cls := findClass_of_methodNamed B.named
  have hlocks := B.notSynchronized
  have htab := vx_table (x := fy_Lw_fetch) B (hts _ List.mem_cons_self)
  subst hsz
  have hD := hD0.self (sz := s.heap.size)
  have hA0 : ∀ z : Nat, s.heap.size ≤ z → va_A (fd_w cR cP ad σ ++ ([(oa, .inl (cO, 1, .inr (.inl (fun _ => x))))] : va_W)) s.heap.size z := fun z h => Or.inr h
  generalize va_A (fd_w cR cP ad σ ++ ([(oa, .inl (cO, 1, .inr (.inl (fun _ => x))))] : va_W)) s.heap.size = A at hD hA0 hZ ⊢
  have hA : ∀ z : Nat, s.heap.size ≤ z → A z := hA0
  have hS : va_S A s.heap s.heap [] := va_S.rf
  have hKd : va_K D fn_cl (fd_tys cR cP) s := hK.sub [0, 1] rfl
  have hl := lv_entry ([.ref (ad 0), .int p1, .int p2, .int p3, .int p4, .int p5, .int p6, .int p7, .ref oa]) (n := 10) (Nat.le_of_ble_eq_true rfl)
  rw [lg_entry_eq]
  generalize (lg_sl ([.ref (ad 0), .int p1, .int p2, .int p3, .int p4, .int p5, .int p6, .int p7, .ref oa]) ++ List.replicate (10 - (lg_sl ([.ref (ad 0), .int p1, .int p2, .int p3, .int p4, .int p5, .int p6, .int p7, .ref oa])).length) Slot.unset).toArray = ls at hl ⊢
  have hl : lv_has ls 10 [(0, .ref (ad 0)), (1, .int p1), (2, .int p2), (3, .int p3), (4, .int p4), (5, .int p5), (6, .int p6), (7, .int p7), (8, .ref oa)] := hl
  have hF := fd_freeL hD hS hA
  refine lv_aload hx hb fx_Lw_fetch_0 (lv_at hl 8 rfl) ?_
  refine lv_iconst (v := 0) hx hb fx_Lw_fetch_2 (by decide) ?_
  refine lv_aload_n hx hb fx_Lw_fetch_3 rfl (lv_at hl 0 rfl) ?_
  refine lv_iload_n hx hb fx_Lw_fetch_4 rfl (lv_at hl 1 rfl) ?_
  refine lv_iload_n hx hb fx_Lw_fetch_5 rfl (lv_at hl 2 rfl) ?_
  refine lv_iload_n hx hb fx_Lw_fetch_6 rfl (lv_at hl 3 rfl) ?_
  refine lv_iload hx hb fx_Lw_fetch_7 (lv_at hl 4 rfl) ?_
  refine lv_iload hx hb fx_Lw_fetch_9 (lv_at hl 5 rfl) ?_
  refine lv_iload hx hb fx_Lw_fetch_11 (lv_at hl 6 rfl) ?_
  refine lv_iload hx hb fx_Lw_fetch_13 (lv_at hl 7 rfl) ?_
  refine vx_calli (vx_runV (As := [.int p1, .int p2, .int p3, .int p4, .int p5, .int p6, .int p7]) (rest := [.int 0, .ref oa]) ⟨hx, hb, hml, hown, hts⟩ (fc_Dk_fetch l hst D cR cP ad s.heap.size σ p1 p2 p3 p4 p5 p6 p7 hI) ⟨callB_of 7 hts (fb_good fm_Dk_fetch) rfl rfl rfl (hts _ (List.mem_cons_of_mem _ fq_1)) (hts _ (List.mem_cons_of_mem _ fq_343)) (by decide +kernel) ⟨Nat.le_of_ble_eq_true rfl, Nat.le_of_ble_eq_true rfl⟩, (hts _ (List.mem_cons_of_mem _ fq_344)), (hts _ (List.mem_cons_of_mem _ fq_345))⟩ (fl_preV (tys := []) hP hKd hD hS hF hN hX hZ) rfl rfl hl.1 rfl (lv_room (Nat.le_of_ble_eq_true rfl)) fx_Lw_fetch_15 ⟨Nat.le_of_ble_eq_true rfl, Nat.le_of_ble_eq_true rfl⟩) hS (fun z _ h => hF z h) hF (fun z _ h => hF z h) (fun E ce q9 u t H1 locs ht hvm _ hB hz1 hk1 hS hce hcv hcl => ?_) (fun r u t H1 locs ht hvm hw hB hz1 hk1 hS => ?_)
  · obtain ⟨⟨⟨c9, hc9, hM⟩, hI1⟩, hP1, hD1⟩ := hB
    rw [ht] at hP1
    obtain ⟨hP, hD⟩ := fd_frameL hP hD hk1 hF hP1 hD1
    have hco := fl_codes_fetch σ p1 p2 p3 p4 p5 p6 p7
    rw [hM] at hco
    rcases hc9 with ⟨rfl, rfl⟩ | ⟨rfl, rfl⟩ | ⟨rfl, rfl⟩
    · refine vx_catch hown [] ⟨0, 20, 23, 13⟩ [⟨0, 20, 27, 35⟩] (htab.trans rfl) (fun z hz => by cases hz) (by decide) (by decide) (hts _ (List.mem_cons_of_mem _ fq_235)) (va_Nw.use rfl (hX _ (List.mem_of_getElem? (i := 0) rfl))) hce hcv hcl ?_
      refine lv_astore (lv' := [(9, .ref q9), (0, .ref (ad 0)), (1, .int p1), (2, .int p2), (3, .int p3), (4, .int p4), (5, .int p5), (6, .int p6), (7, .int p7), (8, .ref oa)]) hx hb fx_Lw_fetch_23 hl (by decide) rfl (fun ls hl => ?_)
      refine lv_iconst (v := 1) hx hb fx_Lw_fetch_25 (by decide) ?_
      exact W.iret hx hb hr (fun t ht hW => ⟨⟨1, (u, x), rfl, ⟨by rw [hM]; rfl, by rw [hM], by rw [hM]; rfl, hI1⟩, by rw [ht]; exact hP, hD⟩, hS.F ht⟩) hS.2.2 fx_Lw_fetch_26 hlocks
    · refine vx_catch hown [⟨0, 20, 23, 13⟩] ⟨0, 20, 27, 35⟩ [] (htab.trans rfl) (fun z hz => by cases List.mem_singleton.mp hz; exact Or.inr ⟨by decide, fd_E1, (hts _ (List.mem_cons_of_mem _ fq_235)), hXn.1⟩) (by decide) (by decide) (hts _ (List.mem_cons_of_mem _ fq_342)) (va_Nw.use rfl (hX _ (List.mem_of_getElem? (i := 4) rfl))) hce hcv hcl ?_
      refine lv_astore (lv' := [(9, .ref q9), (0, .ref (ad 0)), (1, .int p1), (2, .int p2), (3, .int p3), (4, .int p4), (5, .int p5), (6, .int p6), (7, .int p7), (8, .ref oa)]) hx hb fx_Lw_fetch_27 hl (by decide) rfl (fun ls hl => ?_)
      refine lv_iconst (v := 2) hx hb fx_Lw_fetch_29 (by decide) ?_
      exact W.iret hx hb hr (fun t ht hW => ⟨⟨2, (u, x), rfl, ⟨by rw [hM]; rfl, by rw [hM], by rw [hM]; rfl, hI1⟩, by rw [ht]; exact hP, hD⟩, hS.F ht⟩) hS.2.2 fx_Lw_fetch_30 hlocks
    · exact absurd (show (3 : Int32) = 0 ∨ (3 : Int32) = 1 ∨ (3 : Int32) = 2 from hco) (by decide)
  · obtain ⟨hM, hI1⟩ := hw
    obtain ⟨hP1, hD1⟩ := hB
    rw [ht] at hP1
    obtain ⟨hP, hD⟩ := fd_frameL hP hD hk1 hF hP1 hD1
    refine lv_i2l hx hb fx_Lw_fetch_18 rfl ?_
    have h1 : vp_in 0 1 := vp_in_nI (n := 0) (N := 1) (by decide) (by decide)
    refine va_last (D := D) (x := r.toInt64) hx hb hK hP hD hS 59 2 (fl_at59) rfl h1 fx_Lw_fetch_19 (fun H locs hP hD hS => ?_)
    have hP := fl_outL hP
    have hD := fl_outLD hD
    refine lv_goto (tgt := 31) hx hb fx_Lw_fetch_20 (by decide) ?_
    refine lv_iconst (v := 0) hx hb fx_Lw_fetch_31 (by decide) ?_
    exact W.iret hx hb hr (fun t ht hW => ⟨⟨0, (u, r.toInt64), rfl, ⟨by rw [hM]; rfl, by rw [hM], by rw [hM]; rfl, hI1⟩, by rw [ht]; exact hP, hD⟩, hS.F ht⟩) hS.2.2 fx_Lw_fetch_32 hlocks
