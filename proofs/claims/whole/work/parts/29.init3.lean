/-! the desk's constructor -/
def fd_init : FDS := (fun _ => 0, 0, 0, fun i => i, fun _ => 0, fun _ => false, fun _ k => if k = 0 then 200 else if k = 2 then -1 else 0, fun _ _ => false, fun _ => 0, fun _ _ => 0, fun _ => false, fun _ => 0)
theorem fi_arr {cA : ClassId} {n : Nat} {f g : Nat → Option Nat} (h : ∀ j, j < n → f j = g j) : vp_cell cA (n, .inr (.inr (.inr (.inr f)))) = vp_cell cA (n, .inr (.inr (.inr (.inr g)))) := by
  rw [vp_cell_q, vp_cell_q]
  unfold arrV
  congr 1
  congr 1
  funext j
  show va_rf (f j.val) = va_rf (g j.val)
  rw [h j.val j.isLt]
theorem fi_by {A : Nat → Prop} {D : va_G} {cl : List vw_C} {ws ws' : va_W} {H : Heap} (hP : va_P D cl ws H) (hD : va_D A ws) (g : Nat → Nat) (hg : ∀ (k : Nat) (q : Nat × va_E), ws'[k]? = some q → ∃ p, ws[g k]? = some p ∧ p.1 = q.1 ∧ (va_at D cl p H → va_at D cl q H)) (hi : ∀ i j : Nat, i < ws'.length → j < ws'.length → g i = g j → i = j) : va_P D cl ws' H ∧ va_D A ws' := by
  refine ⟨fun k q hk => ?_, fun i j p q hpi hqj e => ?_, fun k q hk => ?_⟩
  · obtain ⟨p, h1, -, h3⟩ := hg k q hk
    exact h3 (hP _ p h1)
  · obtain ⟨p1, a1, a2, -⟩ := hg i p hpi
    obtain ⟨q1, b1, b2, -⟩ := hg j q hqj
    exact hi i j (List.getElem?_eq_some_iff.mp hpi).1 (List.getElem?_eq_some_iff.mp hqj).1 (hD.1 _ _ p1 q1 a1 b1 (by rw [a2, b2, e]))
  · obtain ⟨p, h1, h2, -⟩ := hg k q hk
    rw [← h2]
    exact hD.2 _ p h1
def fi_ad (q qm qr ra pa : Nat) (rp pp : Nat → Nat) : Nat → Nat := fun k => if k = 0 then q else if k = 1 then qm else if k = 2 then qr else if k = 57 then ra else if k = 58 then pa else if k < 51 then rp (k - 3) else pp (k - 51)
theorem fi_ad_r {q qm qr ra pa : Nat} {rp pp : Nat → Nat} {i : Nat} (h : i < 48) : fi_ad q qm qr ra pa rp pp (3 + i) = rp i := by
  unfold fi_ad
  rw [if_neg (by omega), if_neg (by omega), if_neg (by omega), if_neg (by omega), if_neg (by omega), if_pos (by omega), show 3 + i - 3 = i by omega]
theorem fi_ad_p {q qm qr ra pa : Nat} {rp pp : Nat → Nat} {i : Nat} (h : i < 6) : fi_ad q qm qr ra pa rp pp (51 + i) = pp i := by
  unfold fi_ad
  rw [if_neg (by omega), if_neg (by omega), if_neg (by omega), if_neg (by omega), if_neg (by omega), if_neg (by omega), show 51 + i - 51 = i by omega]
def fi_g (k : Nat) : Nat := if k = 0 then 0 else if k = 1 then 50 else if k = 2 then 58 else if k = 3 then 1 else if k = 4 then 51 else if k < 53 then k - 3 else k - 1
theorem fi_g_inj {i j : Nat} (hi : i < 59) (hj : j < 59) (h : fi_g i = fi_g j) : i = j := by
  unfold fi_g at h
  repeat' split at h
  all_goals omega
theorem fi_L_len {ciO : Nat} {fsO : List Value} {q : Nat} {cA : ClassId} {n ra ciE : Nat} {fsE : List Value} {i : Nat} {rp : Nat → Nat} : (fi_L ciO fsO q cA n ra ciE fsE i rp).length = 2 + i := by
  unfold fi_L
  simp
  omega
theorem fi_L_at {ciO : Nat} {fsO : List Value} {q : Nat} {cA : ClassId} {n ra ciE : Nat} {fsE : List Value} {i : Nat} {rp : Nat → Nat} {j : Nat} (h : j < i) : (fi_L ciO fsO q cA n ra ciE fsE i rp)[2 + j]? = some (rp j, .inr (ciE, fsE)) := by
  unfold fi_L
  rw [List.getElem?_append_right (by simp)]
  simp [h]
theorem fd_w_len {cR cP : ClassId} {ad : Nat → Nat} {σ : FDS} : (fd_w cR cP ad σ).length = 59 := by
  unfold fd_w
  simp
set_option maxHeartbeats 4000000 in
set_option maxRecDepth 100000 in
theorem fi_to {A : Nat → Prop} {D : va_G} {H : Heap} {cR cP : ClassId} {q qm qr ra pa : Nat} {rp pp : Nat → Nat} (hP : va_P D fn_cl ((fi_L 4 [.ref ra, .ref qm, .ref qr, .double 0, .int 0, .int 0, .int 0, .int 0, .int 0] q cR 48 ra 3 [.int 200, .int 0, .int (-1), .int 0, .int 0, .int 0, .int 0, .int 0, .int 0, .int 0, .double 0, .int 0, .int 0] 48 rp ++ fi_L 0 [.ref pa, .int 0] qm cP 6 pa 1 [.int 0, .int 0, .int 0, .int 0, .int 0, .double 0] 6 pp) ++ ([(qr, .inr (2, [.int 0, .int 0, .int 0, .int 0, .int 0, .int 0, .int 0, .int 0, .int 0, .int 0, .int 0, .int 0, .int 0, .int 0, .int 0]))] : va_W)) H) (hD : va_D A ((fi_L 4 [.ref ra, .ref qm, .ref qr, .double 0, .int 0, .int 0, .int 0, .int 0, .int 0] q cR 48 ra 3 [.int 200, .int 0, .int (-1), .int 0, .int 0, .int 0, .int 0, .int 0, .int 0, .int 0, .double 0, .int 0, .int 0] 48 rp ++ fi_L 0 [.ref pa, .int 0] qm cP 6 pa 1 [.int 0, .int 0, .int 0, .int 0, .int 0, .double 0] 6 pp) ++ ([(qr, .inr (2, [.int 0, .int 0, .int 0, .int 0, .int 0, .int 0, .int 0, .int 0, .int 0, .int 0, .int 0, .int 0, .int 0, .int 0, .int 0]))] : va_W))) : va_P D fn_cl (fd_w cR cP (fi_ad q qm qr ra pa rp pp) fd_init) H ∧ va_D A (fd_w cR cP (fi_ad q qm qr ra pa rp pp) fd_init) := by
  have lX : (fi_L 4 [.ref ra, .ref qm, .ref qr, .double 0, .int 0, .int 0, .int 0, .int 0, .int 0] q cR 48 ra 3 [.int 200, .int 0, .int (-1), .int 0, .int 0, .int 0, .int 0, .int 0, .int 0, .int 0, .double 0, .int 0, .int 0] 48 rp).length = 50 := fi_L_len
  have lY : (fi_L 0 [.ref pa, .int 0] qm cP 6 pa 1 [.int 0, .int 0, .int 0, .int 0, .int 0, .double 0] 6 pp).length = 8 := fi_L_len
  have atX : ∀ (k : Nat) (x : Nat × va_E), (fi_L 4 [.ref ra, .ref qm, .ref qr, .double 0, .int 0, .int 0, .int 0, .int 0, .int 0] q cR 48 ra 3 [.int 200, .int 0, .int (-1), .int 0, .int 0, .int 0, .int 0, .int 0, .int 0, .int 0, .double 0, .int 0, .int 0] 48 rp)[k]? = some x → ((fi_L 4 [.ref ra, .ref qm, .ref qr, .double 0, .int 0, .int 0, .int 0, .int 0, .int 0] q cR 48 ra 3 [.int 200, .int 0, .int (-1), .int 0, .int 0, .int 0, .int 0, .int 0, .int 0, .int 0, .double 0, .int 0, .int 0] 48 rp ++ fi_L 0 [.ref pa, .int 0] qm cP 6 pa 1 [.int 0, .int 0, .int 0, .int 0, .int 0, .double 0] 6 pp) ++ ([(qr, .inr (2, [.int 0, .int 0, .int 0, .int 0, .int 0, .int 0, .int 0, .int 0, .int 0, .int 0, .int 0, .int 0, .int 0, .int 0, .int 0]))] : va_W))[k]? = some x := fun k x h => by
    have hl := (List.getElem?_eq_some_iff.mp h).1
    rw [List.getElem?_append_left (by rw [List.length_append]; omega), List.getElem?_append_left hl]
    exact h
  have atY : ∀ (k : Nat) (x : Nat × va_E), (fi_L 0 [.ref pa, .int 0] qm cP 6 pa 1 [.int 0, .int 0, .int 0, .int 0, .int 0, .double 0] 6 pp)[k]? = some x → ((fi_L 4 [.ref ra, .ref qm, .ref qr, .double 0, .int 0, .int 0, .int 0, .int 0, .int 0] q cR 48 ra 3 [.int 200, .int 0, .int (-1), .int 0, .int 0, .int 0, .int 0, .int 0, .int 0, .int 0, .double 0, .int 0, .int 0] 48 rp ++ fi_L 0 [.ref pa, .int 0] qm cP 6 pa 1 [.int 0, .int 0, .int 0, .int 0, .int 0, .double 0] 6 pp) ++ ([(qr, .inr (2, [.int 0, .int 0, .int 0, .int 0, .int 0, .int 0, .int 0, .int 0, .int 0, .int 0, .int 0, .int 0, .int 0, .int 0, .int 0]))] : va_W))[50 + k]? = some x := fun k x h => by
    have hl := (List.getElem?_eq_some_iff.mp h).1
    rw [List.getElem?_append_left (by rw [List.length_append]; omega), List.getElem?_append_right (by omega), lX, show 50 + k - 50 = k by omega]
    exact h
  have atZ : ((fi_L 4 [.ref ra, .ref qm, .ref qr, .double 0, .int 0, .int 0, .int 0, .int 0, .int 0] q cR 48 ra 3 [.int 200, .int 0, .int (-1), .int 0, .int 0, .int 0, .int 0, .int 0, .int 0, .int 0, .double 0, .int 0, .int 0] 48 rp ++ fi_L 0 [.ref pa, .int 0] qm cP 6 pa 1 [.int 0, .int 0, .int 0, .int 0, .int 0, .double 0] 6 pp) ++ ([(qr, .inr (2, [.int 0, .int 0, .int 0, .int 0, .int 0, .int 0, .int 0, .int 0, .int 0, .int 0, .int 0, .int 0, .int 0, .int 0, .int 0]))] : va_W))[58]? = some (qr, .inr (2, [.int 0, .int 0, .int 0, .int 0, .int 0, .int 0, .int 0, .int 0, .int 0, .int 0, .int 0, .int 0, .int 0, .int 0, .int 0])) := by
    rw [List.getElem?_append_right (by rw [List.length_append]; omega), List.length_append, lX, lY]
    rfl
  refine fi_by hP hD fi_g (fun k x hk => ?_) (fun i j hi hj h => fi_g_inj (by rw [fd_w_len] at hi; exact hi) (by rw [fd_w_len] at hj; exact hj) h)
  have hk59 : k < 59 := by
    have := (List.getElem?_eq_some_iff.mp hk).1
    rw [fd_w_len] at this
    exact this
  rcases (show k = 0 ∨ k = 1 ∨ k = 2 ∨ k = 3 ∨ k = 4 ∨ (5 ≤ k ∧ k < 53) ∨ 53 ≤ k by omega) with rfl | rfl | rfl | rfl | rfl | ⟨h1, h2⟩ | h1
  · cases hk
    exact ⟨_, atX 0 _ rfl, rfl, fun h => h⟩
  · cases hk
    exact ⟨_, atY 0 _ rfl, rfl, fun h => h⟩
  · cases hk
    exact ⟨_, atZ, rfl, fun h => h⟩
  · cases hk
    refine ⟨_, atX 1 _ rfl, rfl, fun h => ?_⟩
    exact h.trans (congrArg some (fi_arr (fun j hj => by rw [if_pos hj, fi_ad_r hj])))
  · cases hk
    refine ⟨_, atY 1 _ rfl, rfl, fun h => ?_⟩
    exact h.trans (congrArg some (fi_arr (fun j hj => by rw [if_pos hj]; show some (pp j) = some (fi_ad q qm qr ra pa rp pp (51 + j)); rw [fi_ad_p hj])))
  · obtain ⟨i, rfl⟩ : ∃ i, k = 5 + i := ⟨k - 5, by omega⟩
    have hi : i < 48 := by omega
    rw [fd_w_res hi] at hk
    cases hk
    have e : fi_g (5 + i) = 2 + i := by
      unfold fi_g
      rw [if_neg (by omega), if_neg (by omega), if_neg (by omega), if_neg (by omega), if_neg (by omega), if_pos (by omega)]
      omega
    rw [e]
    refine ⟨_, atX _ _ (fi_L_at hi), (fi_ad_r hi).symm, fun h => ?_⟩
    rw [fi_ad_r hi]
    exact h
  · obtain ⟨i, rfl⟩ : ∃ i, k = 53 + i := ⟨k - 53, by omega⟩
    have hi : i < 6 := by omega
    rw [fd_w_per hi] at hk
    cases hk
    have e : fi_g (53 + i) = 50 + (2 + i) := by
      unfold fi_g
      rw [if_neg (by omega), if_neg (by omega), if_neg (by omega), if_neg (by omega), if_neg (by omega), if_neg (by omega)]
      omega
    rw [e]
    refine ⟨_, atY _ _ (fi_L_at hi), (fi_ad_p hi).symm, fun h => ?_⟩
    rw [fi_ad_p hi]
    exact h
set_option maxHeartbeats 4000000 in
set_option maxRecDepth 100000 in
theorem fi_Dk (l : Launch) (D : va_G) (q sz : Nat) : Met l fy_Dk_init (fw_Dk_init :: fb_tbl) ({ frames := 3, cells := 58, slots := 731, locals := 53 } : Room) (fi_Pc2 D q [(q, .inr (4, [.null, .null, .null, .double 0, .int 0, .int 0, .int 0, .int 0, .int 0]))] sz) (va_Qv (fun u : ClassId × ClassId × (Nat → Nat) => u.2.2 0 = q) (fun u t => va_P D fn_cl (fd_w u.1 u.2.1 u.2.2 fd_init) t.heap ∧ va_K D fn_cl (fd_tys u.1 u.2.1) t ∧ va_D (va_A [(q, .inr (4, [.null, .null, .null, .double 0, .int 0, .int 0, .int 0, .int 0, .int 0]))] sz) (fd_w u.1 u.2.1 u.2.2 fd_init)) (va_A [(q, .inr (4, [.null, .null, .null, .double 0, .int 0, .int 0, .int 0, .int 0, .int 0]))] sz)) 58 731 (va_A [(q, .inr (4, [.null, .null, .null, .double 0, .int 0, .int 0, .int 0, .int 0, .int 0]))] sz) := by
  refine Met.ofW (cc := fb_Dk_init) (maxL := 2) (ret := none) (by decide) rfl ?_
  intro p e s m args below meth c s₁ B hml hv
  obtain ⟨rfl, hsz, hP, hK, hD0, hN, hO1, hO2⟩ := hv
  have hx := B.exec
  have hb := B.bytes
  have hr := B.returns
  have hts := atoms_spec (ws := fw_Dk_init :: fb_tbl) B.pre
  have hown : s.vm.findClass fn_R_Dk = some m.cls := findClass_of_methodNamed B.named
  have hlocks := B.notSynchronized
  have hin : meth.name = "<init>" := (name_of_methodNamed B.named B.method).1
  subst hsz
  have hD := hD0.self (sz := s.heap.size)
  have hA0 : ∀ z : Nat, s.heap.size ≤ z → va_A [(q, .inr (4, [.null, .null, .null, .double 0, .int 0, .int 0, .int 0, .int 0, .int 0]))] s.heap.size z := fun z h => Or.inr h
  generalize va_A [(q, .inr (4, [.null, .null, .null, .double 0, .int 0, .int 0, .int 0, .int 0, .int 0]))] s.heap.size = A at hD hA0 ⊢
  have hA : ∀ z : Nat, s.heap.size ≤ z → A z := hA0
  have hS : va_S A s.heap s.heap [] := va_S.rf
  have hl := lv_entry ([.ref q]) (n := 2) (Nat.le_of_ble_eq_true rfl)
  rw [lg_entry_eq]
  generalize (lg_sl ([.ref q]) ++ List.replicate (2 - (lg_sl ([.ref q])).length) Slot.unset).toArray = ls at hl ⊢
  have hl : lv_has ls 2 [(0, .ref q)] := hl
  obtain ⟨Q, hQ⟩ : ∃ Q, Q = MQ below (va_Qv (fun u : ClassId × ClassId × (Nat → Nat) => u.2.2 0 = q) (fun u t => va_P D fn_cl (fd_w u.1 u.2.1 u.2.2 fd_init) t.heap ∧ va_K D fn_cl (fd_tys u.1 u.2.1) t ∧ va_D A (fd_w u.1 u.2.1 u.2.2 fd_init)) A) (([.ref q] : List Value).toArray) s 58 731 A := ⟨_, rfl⟩
  rw [← hQ]
  show W p l e ({ frames := 3, cells := 58, slots := 731, locals := 53 } : Room) s m _ below meth c s.heap [] 0 0 Q _
  generalize (([.ref q] : List Value).toArray) = args at *
  refine lv_aload_n hx hb fx_Dk_init_0 rfl (lv_at hl 0 rfl) ?_
  refine W.objInit hx hb hown (hts _ (List.mem_cons_of_mem _ fq_18)) (hts _ (List.mem_cons_of_mem _ fq_19)) (hts _ (List.mem_cons_of_mem _ fo_code)) rfl (by rw [hml]; exact hl.1) rfl fx_Dk_init_1 (Nat.le_of_ble_eq_true rfl) (Nat.le_of_ble_eq_true rfl) ?_
  refine W.eq (g2 := F0 m 4 ls []) rfl ?_
  refine lv_aload_n hx hb fx_Dk_init_4 rfl (lv_at hl 0 rfl) ?_
  refine lv_bipush (v := 48) hx hb fx_Dk_init_5 (by decide) ?_
  refine va_newq (D := D) hx hb hown (hts _ (List.mem_cons_of_mem _ fq_21)) hO1 hK hP hD hS hA (by decide) rfl (by decide) (Nat.le_of_ble_eq_true rfl) (Nat.le_of_ble_eq_true rfl) fx_Dk_init_7 (fun ra cA H hK hP hD hS => ?_)
  have hP : va_P D fn_cl [(q, .inr (4, [.null, .null, .null, .double 0, .int 0, .int 0, .int 0, .int 0, .int 0])), (ra, .inl (cA, 48, .inr (.inr (.inr (.inr (fun _ => none))))))] H := hP
  have hD : va_D A [(q, .inr (4, [.null, .null, .null, .double 0, .int 0, .int 0, .int 0, .int 0, .int 0])), (ra, .inl (cA, 48, .inr (.inr (.inr (.inr (fun _ => none))))))] := hD
  have hK : va_K D fn_cl [(cA, .object "FetchDesk$Resource")] s := hK
  refine va_putF (D := D) (ci := 4) (v := .ref ra) (ty := .array (.object "FetchDesk$Resource")) (C := fn_R_Dk) (T := fn_T_Dk) (N := 9) hx hb hts fn_j_Dk fn_t_Dk fn_k_Dk fn_n_Dk hown hK hP hD hS 0 rfl rfl 0 (by decide) (hts _ (List.mem_cons_of_mem _ fq_204)) (fun _ h9 => h9) rfl hin rfl (by decide +kernel) rfl rfl (Nat.le_of_ble_eq_true rfl) fx_Dk_init_10 (fun H locs hP hD hS => ?_)
  have hP : va_P D fn_cl (fi_L 4 [.ref ra, .null, .null, .double 0, .int 0, .int 0, .int 0, .int 0, .int 0] q cA 48 ra 3 [.int 200, .int 0, .int (-1), .int 0, .int 0, .int 0, .int 0, .int 0, .int 0, .int 0, .double 0, .int 0, .int 0] 0 (fun _ => 0)) H := by rw [fi_L_0]; exact hP
  have hD : va_D A (fi_L 4 [.ref ra, .null, .null, .double 0, .int 0, .int 0, .int 0, .int 0, .int 0] q cA 48 ra 3 [.int 200, .int 0, .int (-1), .int 0, .int 0, .int 0, .int 0, .int 0, .int 0, .int 0, .double 0, .int 0, .int 0] 0 (fun _ => 0)) := by rw [fi_L_0]; exact hD
  refine lv_iconst (v := 0) hx hb fx_Dk_init_13 (by decide) ?_
  refine lv_istore_n (lv' := [(1, .int 0), (0, .ref q)]) hx hb fx_Dk_init_14 rfl hl (by decide) rfl (fun ls hl => ?_)
  refine W.widen (k := 1 + 0) (n := 48 + 0 * 13) (by decide) (by decide) ?_
  suffices hL : ∀ (n9 i : Nat) (rp : Nat → Nat), i ≤ 48 → 49 ≤ n9 + i → ∀ (H : Heap) (locs : List Loc), va_P D fn_cl (fi_L 4 [.ref ra, .null, .null, .double 0, .int 0, .int 0, .int 0, .int 0, .int 0] q cA 48 ra 3 [.int 200, .int 0, .int (-1), .int 0, .int 0, .int 0, .int 0, .int 0, .int 0, .int 0, .double 0, .int 0, .int 0] i rp) H → va_D A (fi_L 4 [.ref ra, .null, .null, .double 0, .int 0, .int 0, .int 0, .int 0, .int 0] q cA 48 ra 3 [.int 200, .int 0, .int (-1), .int 0, .int 0, .int 0, .int 0, .int 0, .int 0, .int 0, .double 0, .int 0, .int 0] i rp) → va_S A s.heap H locs → ∀ (ls : Array Slot), lv_has ls 2 [(1, .int (nI i)), (0, .ref q)] → W p l e ({ frames := 3, cells := 58, slots := 731, locals := 53 } : Room) s m args below meth c H locs (1 + i) (48 + i * 13) Q (F0 m 15 ls []) from hL 49 0 _ (by decide) (by decide) H locs hP hD hS ls hl
  clear hP hD hS hl
  intro n9
  induction n9 with
  | zero =>
    intro i rp h1 h2
    omega
  | succ n9 ih =>
    intro i rp hi hn9 H locs hP hD hS ls hl
    refine lv_iload_n hx hb fx_Dk_init_15 rfl (lv_at hl 0 rfl) ?_
    refine lv_bipush (v := 48) hx hb fx_Dk_init_16 (by decide) ?_
    refine lv_icmp_ge (tgt := 40) hx hb fx_Dk_init_18 (by decide) (fun c1 => ?_) (fun c1 => ?_)
    · have ei : i = 48 := by
        rcases Nat.lt_or_ge i 48 with q1 | q1
        · exact absurd c1 (nI_ge (b := 48) q1 (by decide))
        · omega
      subst ei
      refine lv_aload_n hx hb fx_Dk_init_40 rfl (lv_at hl 1 rfl) ?_
      refine va_new (D := D) (ci := 0) (fs := [.null, .int 0]) (C := fn_R_Mm) (T := fn_T_Mm) (N := 2) hx hb hts fn_j_Mm fn_t_Mm fn_k_Mm hown (hts _ (List.mem_cons_of_mem _ fq_80)) (hts _ (List.mem_cons_of_mem _ fq_81)) (hts _ (List.mem_cons_of_mem _ fq_3)) hK hP hD hS hA rfl (by decide) (Nat.le_of_ble_eq_true rfl) (Nat.le_of_ble_eq_true rfl) fx_Dk_init_41 (fun qm H hP hD hS => ?_)
      refine lv_dup hx hb fx_Dk_init_44 rfl ?_
      have hFc := fd_freeR hD hS hA
      refine va_callv (va_runIN (As := []) (rest := [.ref qm, .ref q]) ⟨hx, hb, hml, hown, hts⟩ (fi_Mm l D qm H.size) ⟨va_cnB 0 hts (fb_good fm_Mm_init) rfl rfl rfl (hN _ fq_82) (hts _ (List.mem_cons_of_mem _ fq_3)) (by decide +kernel) ⟨Nat.le_of_ble_eq_true rfl, Nat.le_of_ble_eq_true rfl⟩, rfl, (hts _ (List.mem_cons_of_mem _ fq_83))⟩ ⟨fi_blind2, fun U hU hW => ⟨rfl, by rw [hU], by rw [hU]; exact fd_PR hP, va_K.moved hW.alike (hK.sub [] rfl), (fd_DR hD).weaken (fun _ _ _ _ => trivial), fd_N_warm hW hN, va_AO.moved hW.alike hO1, va_AO.moved hW.alike hO2⟩⟩ rfl rfl hl.1 rfl (lv_room (Nat.le_of_ble_eq_true rfl)) fx_Dk_init_45 ⟨Nat.le_of_ble_eq_true rfl, Nat.le_of_ble_eq_true rfl⟩) hS (fun z _ h => hFc z h) hFc (fun u t H1 locs ht hvm hw hB hz1 hk1 hS => ?_)
      obtain ⟨cP, pa, pp⟩ := u
      obtain ⟨hP1, hK1, hD1⟩ := hB
      rw [ht] at hP1
      obtain ⟨hP, hD⟩ := fd_frameR hP hD hk1 hFc hP1 hD1
      have hK := hK.app (va_K.moved hvm.symm hK1)
      have hP : va_P D fn_cl (fi_L 4 [.ref ra, .null, .null, .double 0, .int 0, .int 0, .int 0, .int 0, .int 0] q cA 48 ra 3 [.int 200, .int 0, .int (-1), .int 0, .int 0, .int 0, .int 0, .int 0, .int 0, .int 0, .double 0, .int 0, .int 0] 48 rp ++ fi_L 0 [.ref pa, .int 0] qm cP 6 pa 1 [.int 0, .int 0, .int 0, .int 0, .int 0, .double 0] 6 pp) H1 := hP
      have hD : va_D A (fi_L 4 [.ref ra, .null, .null, .double 0, .int 0, .int 0, .int 0, .int 0, .int 0] q cA 48 ra 3 [.int 200, .int 0, .int (-1), .int 0, .int 0, .int 0, .int 0, .int 0, .int 0, .int 0, .double 0, .int 0, .int 0] 48 rp ++ fi_L 0 [.ref pa, .int 0] qm cP 6 pa 1 [.int 0, .int 0, .int 0, .int 0, .int 0, .double 0] 6 pp) := hD
      have hK : va_K D fn_cl (fd_tys cA cP) s := hK
      refine va_putF (D := D) (ci := 4) (v := .ref qm) (ty := .object "FetchDesk$Memory") (C := fn_R_Dk) (T := fn_T_Dk) (N := 9) hx hb hts fn_j_Dk fn_t_Dk fn_k_Dk fn_n_Dk hown hK hP hD hS 0 rfl rfl 1 (by decide) (hts _ (List.mem_cons_of_mem _ fq_205)) (fun _ h9 => h9) rfl hin rfl (by decide +kernel) rfl rfl (Nat.le_of_ble_eq_true rfl) fx_Dk_init_48 (fun H locs hP hD hS => ?_)
      have hP : va_P D fn_cl (fi_L 4 [.ref ra, .ref qm, .null, .double 0, .int 0, .int 0, .int 0, .int 0, .int 0] q cA 48 ra 3 [.int 200, .int 0, .int (-1), .int 0, .int 0, .int 0, .int 0, .int 0, .int 0, .int 0, .double 0, .int 0, .int 0] 48 rp ++ fi_L 0 [.ref pa, .int 0] qm cP 6 pa 1 [.int 0, .int 0, .int 0, .int 0, .int 0, .double 0] 6 pp) H := hP
      have hD : va_D A (fi_L 4 [.ref ra, .ref qm, .null, .double 0, .int 0, .int 0, .int 0, .int 0, .int 0] q cA 48 ra 3 [.int 200, .int 0, .int (-1), .int 0, .int 0, .int 0, .int 0, .int 0, .int 0, .int 0, .double 0, .int 0, .int 0] 48 rp ++ fi_L 0 [.ref pa, .int 0] qm cP 6 pa 1 [.int 0, .int 0, .int 0, .int 0, .int 0, .double 0] 6 pp) := hD
      refine lv_aload_n hx hb fx_Dk_init_51 rfl (lv_at hl 1 rfl) ?_
      refine va_new (D := D) (ci := 2) (fs := [.int 0, .int 0, .int 0, .int 0, .int 0, .int 0, .int 0, .int 0, .int 0, .int 0, .int 0, .int 0, .int 0, .int 0, .int 0]) (C := fn_R_Rq) (T := fn_T_Rq) (N := 15) hx hb hts fn_j_Rq fn_t_Rq fn_k_Rq hown (hts _ (List.mem_cons_of_mem _ fq_133)) (hts _ (List.mem_cons_of_mem _ fq_134)) (hts _ (List.mem_cons_of_mem _ fq_5)) hK hP hD hS hA rfl (by decide) (Nat.le_of_ble_eq_true rfl) (Nat.le_of_ble_eq_true rfl) fx_Dk_init_52 (fun qr H hP hD hS => ?_)
      refine lv_dup hx hb fx_Dk_init_55 rfl ?_
      have hFc := fd_freeR hD hS hA
      refine va_callv (va_runIN (As := []) (rest := [.ref qr, .ref q]) ⟨hx, hb, hml, hown, hts⟩ (fi_Rq l D qr H.size) ⟨va_cnB 0 hts (fb_good fm_Rq_init) rfl rfl rfl (hN _ fq_135) (hts _ (List.mem_cons_of_mem _ fq_5)) (by decide +kernel) ⟨Nat.le_of_ble_eq_true rfl, Nat.le_of_ble_eq_true rfl⟩, rfl, (hts _ (List.mem_cons_of_mem _ fq_136))⟩ ⟨fi_blind, fun U hU hW => ⟨rfl, by rw [hU], by rw [hU]; exact fd_PR hP, va_K.moved hW.alike (hK.sub [] rfl), (fd_DR hD).weaken (fun _ _ _ _ => trivial), fd_N_warm hW hN⟩⟩ rfl rfl hl.1 rfl (lv_room (Nat.le_of_ble_eq_true rfl)) fx_Dk_init_56 ⟨Nat.le_of_ble_eq_true rfl, Nat.le_of_ble_eq_true rfl⟩) hS (fun z _ h => hFc z h) hFc (fun u t H1 locs ht hvm hw hB hz1 hk1 hS => ?_)
      obtain ⟨hP1, hD1⟩ := hB
      rw [ht] at hP1
      obtain ⟨hP, hD⟩ := fd_frameR hP hD hk1 hFc hP1 hD1
      refine va_putF (D := D) (ci := 4) (v := .ref qr) (ty := .object "FetchDesk$Request") (C := fn_R_Dk) (T := fn_T_Dk) (N := 9) hx hb hts fn_j_Dk fn_t_Dk fn_k_Dk fn_n_Dk hown hK hP hD hS 0 rfl rfl 2 (by decide) (hts _ (List.mem_cons_of_mem _ fq_206)) (fun _ h9 => h9) rfl hin rfl (by decide +kernel) rfl rfl (Nat.le_of_ble_eq_true rfl) fx_Dk_init_59 (fun H locs hP hD hS => ?_)
      have hP : va_P D fn_cl ((fi_L 4 [.ref ra, .ref qm, .ref qr, .double 0, .int 0, .int 0, .int 0, .int 0, .int 0] q cA 48 ra 3 [.int 200, .int 0, .int (-1), .int 0, .int 0, .int 0, .int 0, .int 0, .int 0, .int 0, .double 0, .int 0, .int 0] 48 rp ++ fi_L 0 [.ref pa, .int 0] qm cP 6 pa 1 [.int 0, .int 0, .int 0, .int 0, .int 0, .double 0] 6 pp) ++ ([(qr, .inr (2, [.int 0, .int 0, .int 0, .int 0, .int 0, .int 0, .int 0, .int 0, .int 0, .int 0, .int 0, .int 0, .int 0, .int 0, .int 0]))] : va_W)) H := hP
      have hD : va_D A ((fi_L 4 [.ref ra, .ref qm, .ref qr, .double 0, .int 0, .int 0, .int 0, .int 0, .int 0] q cA 48 ra 3 [.int 200, .int 0, .int (-1), .int 0, .int 0, .int 0, .int 0, .int 0, .int 0, .int 0, .double 0, .int 0, .int 0] 48 rp ++ fi_L 0 [.ref pa, .int 0] qm cP 6 pa 1 [.int 0, .int 0, .int 0, .int 0, .int 0, .double 0] 6 pp) ++ ([(qr, .inr (2, [.int 0, .int 0, .int 0, .int 0, .int 0, .int 0, .int 0, .int 0, .int 0, .int 0, .int 0, .int 0, .int 0, .int 0, .int 0]))] : va_W)) := hD
      obtain ⟨hP, hD⟩ := fi_to hP hD
      rw [hQ]
      exact W.vret hx hb hr (fun t ht hW => ⟨⟨(cA, cP, fi_ad q qm qr ra pa rp pp), rfl, rfl, by rw [ht]; exact hP, va_K.moved hW.alike hK, hD⟩, hS.F ht⟩) hS.2.2 fx_Dk_init_62 hlocks
    · have hlt : i < 48 := by
        rcases Nat.lt_or_ge i 48 with q1 | q1
        · exact q1
        · exact absurd (nI_le (a := 48) q1 (by omega)) c1
      refine lv_aload_n hx hb fx_Dk_init_21 rfl (lv_at hl 1 rfl) ?_
      refine va_get (D := D) (ci := 4) (v := .ref ra) (C := fn_R_Dk) (T := fn_T_Dk) (N := 9) hx hb hts fn_j_Dk hown hK hP 0 rfl rfl 0 (by decide) (hts _ (List.mem_cons_of_mem _ fq_204)) (fun _ h9 => h9) rfl fx_Dk_init_22 ?_
      refine lv_iload_n hx hb fx_Dk_init_25 rfl (lv_at hl 0 rfl) ?_
      refine va_new (D := D) (ci := 3) (fs := [.int 0, .int 0, .int 0, .int 0, .int 0, .int 0, .int 0, .int 0, .int 0, .int 0, .double 0, .int 0, .int 0]) (C := fn_R_Rs) (T := fn_T_Rs) (N := 13) hx hb hts fn_j_Rs fn_t_Rs fn_k_Rs hown (hts _ (List.mem_cons_of_mem _ fq_21)) (hts _ (List.mem_cons_of_mem _ fq_23)) (hts _ (List.mem_cons_of_mem _ fq_2)) hK hP hD hS hA rfl (by decide) (by show 1 + i + 1 ≤ _; exact Nat.le_trans (show 1 + i + 1 ≤ 48 + 1 by omega) (by decide)) (by show 48 + i * 13 + 13 ≤ _; exact Nat.le_trans (show 48 + i * 13 + 13 ≤ 48 + 48 * 13 by omega) (by decide)) fx_Dk_init_26 (fun q2 H hP hD hS => ?_)
      refine lv_dup hx hb fx_Dk_init_29 rfl ?_
      have hFc := fd_freeR hD hS hA
      refine va_callv (va_runIN (As := []) (rest := [.ref q2, .int (nI i), .ref ra]) ⟨hx, hb, hml, hown, hts⟩ (fi_Rs l D q2 H.size) ⟨va_cnB 0 hts (fb_good fm_Rs_init) rfl rfl rfl (hN _ fq_24) (hts _ (List.mem_cons_of_mem _ fq_2)) (by decide +kernel) ⟨Nat.le_of_ble_eq_true rfl, Nat.le_of_ble_eq_true rfl⟩, rfl, (hts _ (List.mem_cons_of_mem _ fq_25))⟩ ⟨fi_blind, fun U hU hW => ⟨rfl, by rw [hU], by rw [hU]; exact fd_PR hP, va_K.moved hW.alike (hK.sub [] rfl), (fd_DR hD).weaken (fun _ _ _ _ => trivial), fd_N_warm hW hN⟩⟩ rfl rfl hl.1 rfl (lv_room (Nat.le_of_ble_eq_true rfl)) fx_Dk_init_30 (by show 1 + i + 1 + 0 ≤ _ ∧ 48 + i * 13 + 13 + 0 ≤ _; exact ⟨Nat.le_trans (show 1 + i + 1 + 0 ≤ 48 + 1 by omega) (by decide), Nat.le_trans (show 48 + i * 13 + 13 + 0 ≤ 48 + 48 * 13 by omega) (by decide)⟩)) hS (fun z _ h => hFc z h) hFc (fun u t H1 locs ht hvm hw hB hz1 hk1 hS => ?_)
      obtain ⟨hP1, hD1⟩ := hB
      rw [ht] at hP1
      obtain ⟨hP, hD⟩ := fd_frameR hP hD hk1 hFc hP1 hD1
      have hin2 : vp_in (nI i) 48 := vp_in_nI hlt (by decide)
      refine va_astq (D := D) hx hb hK hP hD hS 1 0 (2 + i) 3 rfl rfl fi_L_last rfl hin2 fx_Dk_init_33 (fun H locs hP hD hS => ?_)
      rw [nI_clamp (show i < 2 ^ 31 by omega), fi_L_step] at hP hD
      refine lv_iinc (v := nI i + 1) (lv' := [(1, .int (nI i + 1)), (0, .ref q)]) hx hb fx_Dk_init_34 hl (k := 0) rfl rfl (by decide) rfl (fun ls hl => ?_)
      refine lv_goto (tgt := 15) hx hb fx_Dk_init_37 (by decide) ?_
      rw [nI_1] at hl
      refine W.widen (k := 1 + (i + 1)) (n := 48 + (i + 1) * 13) (by omega) (by omega) ?_
      exact ih (i + 1) _ hlt (by omega) H locs hP hD hS ls hl
