/-! the desk: small methods -/
def fv_Dk_isOrigin_j1 (σ : FDS) (p0 : Int32) (v1 : Bool) : Bool := v1
def fv_Dk_isOrigin (σ : FDS) (p0 : Int32) : Bool := fv_Dk_isOrigin_j1 σ p0 (if p0 < 0 then false else if 6 ≤ p0 then false else true)
set_option maxHeartbeats 4000000 in
set_option maxRecDepth 100000 in
theorem fc_Dk_isOrigin (l : Launch) (D : va_G) (cR cP : ClassId) (ad : Nat → Nat) (sz : Nat) (σ : FDS) (p0 : Int32) (hI : fd_Inv σ)  : Met l fy_Dk_isOrigin (fw_Dk_isOrigin :: fb_tbl) ({ frames := 0, cells := 0, slots := 0, locals := 0 } : Room) (fd_Pc D cR cP ad [.int p0] σ sz) ((fun A => va_Qi (fun (r : Int32) (u : FDS) => fd_bi (fv_Dk_isOrigin σ p0) = r ∧ u = σ) (fd_B D cR cP ad A) A) (va_A (fd_w cR cP ad σ) sz)) 0 0 (va_A (fd_w cR cP ad σ) sz) := by
  refine fd_ofW (cc := fb_Dk_isOrigin) (maxL := 1) (ret := (some .boolean)) (Qf := fun A => va_Qi (fun (r : Int32) (u : FDS) => fd_bi (fv_Dk_isOrigin σ p0) = r ∧ u = σ) (fd_B D cR cP ad A) A) (by decide) (Nat.le_of_ble_eq_true rfl) ?_
  intro p e s m args below meth c A Q hQ hx hb hr hts hown hlocks hml hP hK hD hS hA hN ls hl
  have hown : s.vm.findClass fn_R_Dk = some m.cls := hown
  have hl : lv_has ls 1 [(0, .int p0)] := hl
  suffices hgo : ∀ (H : Heap) (locs : List Loc), va_P D fn_cl (fd_w cR cP ad σ) H → va_D A (fd_w cR cP ad σ) → va_S A s.heap H locs → W p l e ({ frames := 0, cells := 0, slots := 0, locals := 0 } : Room) s m args below meth c H locs 0 0 Q (F0 m 0 ls []) from hgo _ _ hP hD hS
  clear hP hD hS
  intro H locs hP hD hS
  refine lv_iload_n hx hb fx_Dk_isOrigin_0 rfl (lv_at hl 0 rfl) ?_
  have hJ1 : ∀ (H : Heap) (locs : List Loc), va_P D fn_cl (fd_w cR cP ad σ) H → va_D A (fd_w cR cP ad σ) → va_S A s.heap H locs → ∀ (v1 : Bool), v1 = (if p0 < 0 then false else if 6 ≤ p0 then false else true) → W p l e ({ frames := 0, cells := 0, slots := 0, locals := 0 } : Room) s m args below meth c H locs 0 0 Q (F0 m 15 ls [.int (fd_bi v1)]) := by
    intro H locs hP hD hS v1 hv1
    exact fd_zret (r := v1) (u := σ) hQ hx hb hr ⟨by rw [fv_Dk_isOrigin, ← hv1, fv_Dk_isOrigin_j1], rfl⟩ hP hD hS fx_Dk_isOrigin_15 hlocks
  refine lv_if_lt (tgt := 14) hx hb fx_Dk_isOrigin_1 (by decide) (fun c2 => ?_) (fun c2 => ?_)
  · refine lv_iconst (v := 0) hx hb fx_Dk_isOrigin_14 (by decide) ?_
    exact hJ1 H locs hP hD hS false (by rw [if_pos c2])
  · refine lv_iload_n hx hb fx_Dk_isOrigin_4 rfl (lv_at hl 0 rfl) ?_
    refine lv_bipush (v := 6) hx hb fx_Dk_isOrigin_5 (by decide) ?_
    refine lv_icmp_ge (tgt := 14) hx hb fx_Dk_isOrigin_7 (by decide) (fun c3 => ?_) (fun c3 => ?_)
    · refine lv_iconst (v := 0) hx hb fx_Dk_isOrigin_14 (by decide) ?_
      exact hJ1 H locs hP hD hS false (by rw [if_neg c2, if_pos c3])
    · refine lv_iconst (v := 1) hx hb fx_Dk_isOrigin_10 (by decide) ?_
      refine lv_goto (tgt := 15) hx hb fx_Dk_isOrigin_11 (by decide) ?_
      exact hJ1 H locs hP hD hS true (by rw [if_neg c2, if_neg c3])
def fv_Dk_isUrl_j1 (σ : FDS) (p0 : Int32) (v1 : Bool) : Bool := v1
def fv_Dk_isUrl (σ : FDS) (p0 : Int32) : Bool := fv_Dk_isUrl_j1 σ p0 (if p0 < 0 then false else if 48 ≤ p0 then false else true)
set_option maxHeartbeats 4000000 in
set_option maxRecDepth 100000 in
theorem fc_Dk_isUrl (l : Launch) (D : va_G) (cR cP : ClassId) (ad : Nat → Nat) (sz : Nat) (σ : FDS) (p0 : Int32) (hI : fd_Inv σ)  : Met l fy_Dk_isUrl (fw_Dk_isUrl :: fb_tbl) ({ frames := 0, cells := 0, slots := 0, locals := 0 } : Room) (fd_Pc D cR cP ad [.int p0] σ sz) ((fun A => va_Qi (fun (r : Int32) (u : FDS) => fd_bi (fv_Dk_isUrl σ p0) = r ∧ u = σ) (fd_B D cR cP ad A) A) (va_A (fd_w cR cP ad σ) sz)) 0 0 (va_A (fd_w cR cP ad σ) sz) := by
  refine fd_ofW (cc := fb_Dk_isUrl) (maxL := 1) (ret := (some .boolean)) (Qf := fun A => va_Qi (fun (r : Int32) (u : FDS) => fd_bi (fv_Dk_isUrl σ p0) = r ∧ u = σ) (fd_B D cR cP ad A) A) (by decide) (Nat.le_of_ble_eq_true rfl) ?_
  intro p e s m args below meth c A Q hQ hx hb hr hts hown hlocks hml hP hK hD hS hA hN ls hl
  have hown : s.vm.findClass fn_R_Dk = some m.cls := hown
  have hl : lv_has ls 1 [(0, .int p0)] := hl
  suffices hgo : ∀ (H : Heap) (locs : List Loc), va_P D fn_cl (fd_w cR cP ad σ) H → va_D A (fd_w cR cP ad σ) → va_S A s.heap H locs → W p l e ({ frames := 0, cells := 0, slots := 0, locals := 0 } : Room) s m args below meth c H locs 0 0 Q (F0 m 0 ls []) from hgo _ _ hP hD hS
  clear hP hD hS
  intro H locs hP hD hS
  refine lv_iload_n hx hb fx_Dk_isUrl_0 rfl (lv_at hl 0 rfl) ?_
  have hJ1 : ∀ (H : Heap) (locs : List Loc), va_P D fn_cl (fd_w cR cP ad σ) H → va_D A (fd_w cR cP ad σ) → va_S A s.heap H locs → ∀ (v1 : Bool), v1 = (if p0 < 0 then false else if 48 ≤ p0 then false else true) → W p l e ({ frames := 0, cells := 0, slots := 0, locals := 0 } : Room) s m args below meth c H locs 0 0 Q (F0 m 15 ls [.int (fd_bi v1)]) := by
    intro H locs hP hD hS v1 hv1
    exact fd_zret (r := v1) (u := σ) hQ hx hb hr ⟨by rw [fv_Dk_isUrl, ← hv1, fv_Dk_isUrl_j1], rfl⟩ hP hD hS fx_Dk_isUrl_15 hlocks
  refine lv_if_lt (tgt := 14) hx hb fx_Dk_isUrl_1 (by decide) (fun c2 => ?_) (fun c2 => ?_)
  · refine lv_iconst (v := 0) hx hb fx_Dk_isUrl_14 (by decide) ?_
    exact hJ1 H locs hP hD hS false (by rw [if_pos c2])
  · refine lv_iload_n hx hb fx_Dk_isUrl_4 rfl (lv_at hl 0 rfl) ?_
    refine lv_bipush (v := 48) hx hb fx_Dk_isUrl_5 (by decide) ?_
    refine lv_icmp_ge (tgt := 14) hx hb fx_Dk_isUrl_7 (by decide) (fun c3 => ?_) (fun c3 => ?_)
    · refine lv_iconst (v := 0) hx hb fx_Dk_isUrl_14 (by decide) ?_
      exact hJ1 H locs hP hD hS false (by rw [if_neg c2, if_pos c3])
    · refine lv_iconst (v := 1) hx hb fx_Dk_isUrl_10 (by decide) ?_
      refine lv_goto (tgt := 15) hx hb fx_Dk_isUrl_11 (by decide) ?_
      exact hJ1 H locs hP hD hS true (by rw [if_neg c2, if_neg c3])
def fv_Dk_isMethod_j1 (σ : FDS) (p0 : Int32) (v1 : Bool) : Bool := v1
def fv_Dk_isMethod (σ : FDS) (p0 : Int32) : Bool := fv_Dk_isMethod_j1 σ p0 (if p0 < 0 then false else if 4 ≤ p0 then false else true)
set_option maxHeartbeats 4000000 in
set_option maxRecDepth 100000 in
theorem fc_Dk_isMethod (l : Launch) (D : va_G) (cR cP : ClassId) (ad : Nat → Nat) (sz : Nat) (σ : FDS) (p0 : Int32) (hI : fd_Inv σ)  : Met l fy_Dk_isMethod (fw_Dk_isMethod :: fb_tbl) ({ frames := 0, cells := 0, slots := 0, locals := 0 } : Room) (fd_Pc D cR cP ad [.int p0] σ sz) ((fun A => va_Qi (fun (r : Int32) (u : FDS) => fd_bi (fv_Dk_isMethod σ p0) = r ∧ u = σ) (fd_B D cR cP ad A) A) (va_A (fd_w cR cP ad σ) sz)) 0 0 (va_A (fd_w cR cP ad σ) sz) := by
  refine fd_ofW (cc := fb_Dk_isMethod) (maxL := 1) (ret := (some .boolean)) (Qf := fun A => va_Qi (fun (r : Int32) (u : FDS) => fd_bi (fv_Dk_isMethod σ p0) = r ∧ u = σ) (fd_B D cR cP ad A) A) (by decide) (Nat.le_of_ble_eq_true rfl) ?_
  intro p e s m args below meth c A Q hQ hx hb hr hts hown hlocks hml hP hK hD hS hA hN ls hl
  have hown : s.vm.findClass fn_R_Dk = some m.cls := hown
  have hl : lv_has ls 1 [(0, .int p0)] := hl
  suffices hgo : ∀ (H : Heap) (locs : List Loc), va_P D fn_cl (fd_w cR cP ad σ) H → va_D A (fd_w cR cP ad σ) → va_S A s.heap H locs → W p l e ({ frames := 0, cells := 0, slots := 0, locals := 0 } : Room) s m args below meth c H locs 0 0 Q (F0 m 0 ls []) from hgo _ _ hP hD hS
  clear hP hD hS
  intro H locs hP hD hS
  refine lv_iload_n hx hb fx_Dk_isMethod_0 rfl (lv_at hl 0 rfl) ?_
  have hJ1 : ∀ (H : Heap) (locs : List Loc), va_P D fn_cl (fd_w cR cP ad σ) H → va_D A (fd_w cR cP ad σ) → va_S A s.heap H locs → ∀ (v1 : Bool), v1 = (if p0 < 0 then false else if 4 ≤ p0 then false else true) → W p l e ({ frames := 0, cells := 0, slots := 0, locals := 0 } : Room) s m args below meth c H locs 0 0 Q (F0 m 14 ls [.int (fd_bi v1)]) := by
    intro H locs hP hD hS v1 hv1
    exact fd_zret (r := v1) (u := σ) hQ hx hb hr ⟨by rw [fv_Dk_isMethod, ← hv1, fv_Dk_isMethod_j1], rfl⟩ hP hD hS fx_Dk_isMethod_14 hlocks
  refine lv_if_lt (tgt := 13) hx hb fx_Dk_isMethod_1 (by decide) (fun c2 => ?_) (fun c2 => ?_)
  · refine lv_iconst (v := 0) hx hb fx_Dk_isMethod_13 (by decide) ?_
    exact hJ1 H locs hP hD hS false (by rw [if_pos c2])
  · refine lv_iload_n hx hb fx_Dk_isMethod_4 rfl (lv_at hl 0 rfl) ?_
    refine lv_iconst (v := 4) hx hb fx_Dk_isMethod_5 (by decide) ?_
    refine lv_icmp_ge (tgt := 13) hx hb fx_Dk_isMethod_6 (by decide) (fun c3 => ?_) (fun c3 => ?_)
    · refine lv_iconst (v := 0) hx hb fx_Dk_isMethod_13 (by decide) ?_
      exact hJ1 H locs hP hD hS false (by rw [if_neg c2, if_pos c3])
    · refine lv_iconst (v := 1) hx hb fx_Dk_isMethod_9 (by decide) ?_
      refine lv_goto (tgt := 14) hx hb fx_Dk_isMethod_10 (by decide) ?_
      exact hJ1 H locs hP hD hS true (by rw [if_neg c2, if_neg c3])
def fv_Dk_isFourBits_j1 (σ : FDS) (p0 : Int32) (v1 : Bool) : Bool := v1
def fv_Dk_isFourBits (σ : FDS) (p0 : Int32) : Bool := fv_Dk_isFourBits_j1 σ p0 (if p0 < 0 then false else if 15 < p0 then false else true)
set_option maxHeartbeats 4000000 in
set_option maxRecDepth 100000 in
theorem fc_Dk_isFourBits (l : Launch) (D : va_G) (cR cP : ClassId) (ad : Nat → Nat) (sz : Nat) (σ : FDS) (p0 : Int32) (hI : fd_Inv σ)  : Met l fy_Dk_isFourBits (fw_Dk_isFourBits :: fb_tbl) ({ frames := 0, cells := 0, slots := 0, locals := 0 } : Room) (fd_Pc D cR cP ad [.int p0] σ sz) ((fun A => va_Qi (fun (r : Int32) (u : FDS) => fd_bi (fv_Dk_isFourBits σ p0) = r ∧ u = σ) (fd_B D cR cP ad A) A) (va_A (fd_w cR cP ad σ) sz)) 0 0 (va_A (fd_w cR cP ad σ) sz) := by
  refine fd_ofW (cc := fb_Dk_isFourBits) (maxL := 1) (ret := (some .boolean)) (Qf := fun A => va_Qi (fun (r : Int32) (u : FDS) => fd_bi (fv_Dk_isFourBits σ p0) = r ∧ u = σ) (fd_B D cR cP ad A) A) (by decide) (Nat.le_of_ble_eq_true rfl) ?_
  intro p e s m args below meth c A Q hQ hx hb hr hts hown hlocks hml hP hK hD hS hA hN ls hl
  have hown : s.vm.findClass fn_R_Dk = some m.cls := hown
  have hl : lv_has ls 1 [(0, .int p0)] := hl
  suffices hgo : ∀ (H : Heap) (locs : List Loc), va_P D fn_cl (fd_w cR cP ad σ) H → va_D A (fd_w cR cP ad σ) → va_S A s.heap H locs → W p l e ({ frames := 0, cells := 0, slots := 0, locals := 0 } : Room) s m args below meth c H locs 0 0 Q (F0 m 0 ls []) from hgo _ _ hP hD hS
  clear hP hD hS
  intro H locs hP hD hS
  refine lv_iload_n hx hb fx_Dk_isFourBits_0 rfl (lv_at hl 0 rfl) ?_
  have hJ1 : ∀ (H : Heap) (locs : List Loc), va_P D fn_cl (fd_w cR cP ad σ) H → va_D A (fd_w cR cP ad σ) → va_S A s.heap H locs → ∀ (v1 : Bool), v1 = (if p0 < 0 then false else if 15 < p0 then false else true) → W p l e ({ frames := 0, cells := 0, slots := 0, locals := 0 } : Room) s m args below meth c H locs 0 0 Q (F0 m 15 ls [.int (fd_bi v1)]) := by
    intro H locs hP hD hS v1 hv1
    exact fd_zret (r := v1) (u := σ) hQ hx hb hr ⟨by rw [fv_Dk_isFourBits, ← hv1, fv_Dk_isFourBits_j1], rfl⟩ hP hD hS fx_Dk_isFourBits_15 hlocks
  refine lv_if_lt (tgt := 14) hx hb fx_Dk_isFourBits_1 (by decide) (fun c2 => ?_) (fun c2 => ?_)
  · refine lv_iconst (v := 0) hx hb fx_Dk_isFourBits_14 (by decide) ?_
    exact hJ1 H locs hP hD hS false (by rw [if_pos c2])
  · refine lv_iload_n hx hb fx_Dk_isFourBits_4 rfl (lv_at hl 0 rfl) ?_
    refine lv_bipush (v := 15) hx hb fx_Dk_isFourBits_5 (by decide) ?_
    refine lv_icmp_gt (tgt := 14) hx hb fx_Dk_isFourBits_7 (by decide) (fun c3 => ?_) (fun c3 => ?_)
    · refine lv_iconst (v := 0) hx hb fx_Dk_isFourBits_14 (by decide) ?_
      exact hJ1 H locs hP hD hS false (by rw [if_neg c2, if_pos c3])
    · refine lv_iconst (v := 1) hx hb fx_Dk_isFourBits_10 (by decide) ?_
      refine lv_goto (tgt := 15) hx hb fx_Dk_isFourBits_11 (by decide) ?_
      exact hJ1 H locs hP hD hS true (by rw [if_neg c2, if_neg c3])
def fv_Dk_isChoice_j1 (σ : FDS) (p0 : Int32) (v1 : Bool) : Bool := v1
def fv_Dk_isChoice (σ : FDS) (p0 : Int32) : Bool := fv_Dk_isChoice_j1 σ p0 (if p0 < 0 then false else if 3 ≤ p0 then false else true)
set_option maxHeartbeats 4000000 in
set_option maxRecDepth 100000 in
theorem fc_Dk_isChoice (l : Launch) (D : va_G) (cR cP : ClassId) (ad : Nat → Nat) (sz : Nat) (σ : FDS) (p0 : Int32) (hI : fd_Inv σ)  : Met l fy_Dk_isChoice (fw_Dk_isChoice :: fb_tbl) ({ frames := 0, cells := 0, slots := 0, locals := 0 } : Room) (fd_Pc D cR cP ad [.int p0] σ sz) ((fun A => va_Qi (fun (r : Int32) (u : FDS) => fd_bi (fv_Dk_isChoice σ p0) = r ∧ u = σ) (fd_B D cR cP ad A) A) (va_A (fd_w cR cP ad σ) sz)) 0 0 (va_A (fd_w cR cP ad σ) sz) := by
  refine fd_ofW (cc := fb_Dk_isChoice) (maxL := 1) (ret := (some .boolean)) (Qf := fun A => va_Qi (fun (r : Int32) (u : FDS) => fd_bi (fv_Dk_isChoice σ p0) = r ∧ u = σ) (fd_B D cR cP ad A) A) (by decide) (Nat.le_of_ble_eq_true rfl) ?_
  intro p e s m args below meth c A Q hQ hx hb hr hts hown hlocks hml hP hK hD hS hA hN ls hl
  have hown : s.vm.findClass fn_R_Dk = some m.cls := hown
  have hl : lv_has ls 1 [(0, .int p0)] := hl
  suffices hgo : ∀ (H : Heap) (locs : List Loc), va_P D fn_cl (fd_w cR cP ad σ) H → va_D A (fd_w cR cP ad σ) → va_S A s.heap H locs → W p l e ({ frames := 0, cells := 0, slots := 0, locals := 0 } : Room) s m args below meth c H locs 0 0 Q (F0 m 0 ls []) from hgo _ _ hP hD hS
  clear hP hD hS
  intro H locs hP hD hS
  refine lv_iload_n hx hb fx_Dk_isChoice_0 rfl (lv_at hl 0 rfl) ?_
  have hJ1 : ∀ (H : Heap) (locs : List Loc), va_P D fn_cl (fd_w cR cP ad σ) H → va_D A (fd_w cR cP ad σ) → va_S A s.heap H locs → ∀ (v1 : Bool), v1 = (if p0 < 0 then false else if 3 ≤ p0 then false else true) → W p l e ({ frames := 0, cells := 0, slots := 0, locals := 0 } : Room) s m args below meth c H locs 0 0 Q (F0 m 14 ls [.int (fd_bi v1)]) := by
    intro H locs hP hD hS v1 hv1
    exact fd_zret (r := v1) (u := σ) hQ hx hb hr ⟨by rw [fv_Dk_isChoice, ← hv1, fv_Dk_isChoice_j1], rfl⟩ hP hD hS fx_Dk_isChoice_14 hlocks
  refine lv_if_lt (tgt := 13) hx hb fx_Dk_isChoice_1 (by decide) (fun c2 => ?_) (fun c2 => ?_)
  · refine lv_iconst (v := 0) hx hb fx_Dk_isChoice_13 (by decide) ?_
    exact hJ1 H locs hP hD hS false (by rw [if_pos c2])
  · refine lv_iload_n hx hb fx_Dk_isChoice_4 rfl (lv_at hl 0 rfl) ?_
    refine lv_iconst (v := 3) hx hb fx_Dk_isChoice_5 (by decide) ?_
    refine lv_icmp_ge (tgt := 13) hx hb fx_Dk_isChoice_6 (by decide) (fun c3 => ?_) (fun c3 => ?_)
    · refine lv_iconst (v := 0) hx hb fx_Dk_isChoice_13 (by decide) ?_
      exact hJ1 H locs hP hD hS false (by rw [if_neg c2, if_pos c3])
    · refine lv_iconst (v := 1) hx hb fx_Dk_isChoice_9 (by decide) ?_
      refine lv_goto (tgt := 14) hx hb fx_Dk_isChoice_10 (by decide) ?_
      exact hJ1 H locs hP hD hS true (by rw [if_neg c2, if_neg c3])
def fv_Dk_isSimple_j1 (σ : FDS) (p0 : Int32) (v1 : Bool) : Bool := v1
def fv_Dk_isSimple (σ : FDS) (p0 : Int32) : Bool := fv_Dk_isSimple_j1 σ p0 (if p0 = 0 then true else if p0 = 1 then true else false)
set_option maxHeartbeats 4000000 in
set_option maxRecDepth 100000 in
theorem fc_Dk_isSimple (l : Launch) (D : va_G) (cR cP : ClassId) (ad : Nat → Nat) (sz : Nat) (σ : FDS) (p0 : Int32) (hI : fd_Inv σ)  : Met l fy_Dk_isSimple (fw_Dk_isSimple :: fb_tbl) ({ frames := 0, cells := 0, slots := 0, locals := 0 } : Room) (fd_Pc D cR cP ad [.int p0] σ sz) ((fun A => va_Qi (fun (r : Int32) (u : FDS) => fd_bi (fv_Dk_isSimple σ p0) = r ∧ u = σ) (fd_B D cR cP ad A) A) (va_A (fd_w cR cP ad σ) sz)) 0 0 (va_A (fd_w cR cP ad σ) sz) := by
  refine fd_ofW (cc := fb_Dk_isSimple) (maxL := 1) (ret := (some .boolean)) (Qf := fun A => va_Qi (fun (r : Int32) (u : FDS) => fd_bi (fv_Dk_isSimple σ p0) = r ∧ u = σ) (fd_B D cR cP ad A) A) (by decide) (Nat.le_of_ble_eq_true rfl) ?_
  intro p e s m args below meth c A Q hQ hx hb hr hts hown hlocks hml hP hK hD hS hA hN ls hl
  have hown : s.vm.findClass fn_R_Dk = some m.cls := hown
  have hl : lv_has ls 1 [(0, .int p0)] := hl
  suffices hgo : ∀ (H : Heap) (locs : List Loc), va_P D fn_cl (fd_w cR cP ad σ) H → va_D A (fd_w cR cP ad σ) → va_S A s.heap H locs → W p l e ({ frames := 0, cells := 0, slots := 0, locals := 0 } : Room) s m args below meth c H locs 0 0 Q (F0 m 0 ls []) from hgo _ _ hP hD hS
  clear hP hD hS
  intro H locs hP hD hS
  refine lv_iload_n hx hb fx_Dk_isSimple_0 rfl (lv_at hl 0 rfl) ?_
  have hJ1 : ∀ (H : Heap) (locs : List Loc), va_P D fn_cl (fd_w cR cP ad σ) H → va_D A (fd_w cR cP ad σ) → va_S A s.heap H locs → ∀ (v1 : Bool), v1 = (if p0 = 0 then true else if p0 = 1 then true else false) → W p l e ({ frames := 0, cells := 0, slots := 0, locals := 0 } : Room) s m args below meth c H locs 0 0 Q (F0 m 14 ls [.int (fd_bi v1)]) := by
    intro H locs hP hD hS v1 hv1
    exact fd_zret (r := v1) (u := σ) hQ hx hb hr ⟨by rw [fv_Dk_isSimple, ← hv1, fv_Dk_isSimple_j1], rfl⟩ hP hD hS fx_Dk_isSimple_14 hlocks
  refine lv_if_eq (tgt := 9) hx hb fx_Dk_isSimple_1 (by decide) (fun c2 => ?_) (fun c2 => ?_)
  · refine lv_iconst (v := 1) hx hb fx_Dk_isSimple_9 (by decide) ?_
    refine lv_goto (tgt := 14) hx hb fx_Dk_isSimple_10 (by decide) ?_
    exact hJ1 H locs hP hD hS true (by rw [if_pos c2])
  · refine lv_iload_n hx hb fx_Dk_isSimple_4 rfl (lv_at hl 0 rfl) ?_
    refine lv_iconst (v := 1) hx hb fx_Dk_isSimple_5 (by decide) ?_
    refine lv_icmp_ne (tgt := 13) hx hb fx_Dk_isSimple_6 (by decide) (fun c3 => ?_) (fun c3 => ?_)
    · refine lv_iconst (v := 0) hx hb fx_Dk_isSimple_13 (by decide) ?_
      exact hJ1 H locs hP hD hS false (by rw [if_neg c2, if_neg c3])
    · refine lv_iconst (v := 1) hx hb fx_Dk_isSimple_9 (by decide) ?_
      refine lv_goto (tgt := 14) hx hb fx_Dk_isSimple_10 (by decide) ?_
      exact hJ1 H locs hP hD hS true (by rw [if_neg c2, if_pos c3])
def fv_Dk_isPlain_j2 (σ : FDS) (p0 : Int32) (p1 : Int32) (v2 : Bool) : Bool := v2
def fv_Dk_isPlain (σ : FDS) (p0 : Int32) (p1 : Int32) : Bool := fv_Dk_isPlain_j2 σ p0 p1 (if (fv_Dk_isSimple σ p0) = true then if p1 = 0 then true else false else false)
set_option maxHeartbeats 4000000 in
set_option maxRecDepth 100000 in
theorem fc_Dk_isPlain (l : Launch) (D : va_G) (cR cP : ClassId) (ad : Nat → Nat) (sz : Nat) (σ : FDS) (p0 : Int32) (p1 : Int32) (hI : fd_Inv σ)  : Met l fy_Dk_isPlain (fw_Dk_isPlain :: fb_tbl) ({ frames := 1, cells := 0, slots := 0, locals := 20 } : Room) (fd_Pc D cR cP ad [.int p0, .int p1] σ sz) ((fun A => va_Qi (fun (r : Int32) (u : FDS) => fd_bi (fv_Dk_isPlain σ p0 p1) = r ∧ u = σ) (fd_B D cR cP ad A) A) (va_A (fd_w cR cP ad σ) sz)) 0 0 (va_A (fd_w cR cP ad σ) sz) := by
  refine fd_ofW (cc := fb_Dk_isPlain) (maxL := 2) (ret := (some .boolean)) (Qf := fun A => va_Qi (fun (r : Int32) (u : FDS) => fd_bi (fv_Dk_isPlain σ p0 p1) = r ∧ u = σ) (fd_B D cR cP ad A) A) (by decide) (Nat.le_of_ble_eq_true rfl) ?_
  intro p e s m args below meth c A Q hQ hx hb hr hts hown hlocks hml hP hK hD hS hA hN ls hl
  have hown : s.vm.findClass fn_R_Dk = some m.cls := hown
  have hl : lv_has ls 2 [(0, .int p0), (1, .int p1)] := hl
  suffices hgo : ∀ (H : Heap) (locs : List Loc), va_P D fn_cl (fd_w cR cP ad σ) H → va_D A (fd_w cR cP ad σ) → va_S A s.heap H locs → W p l e ({ frames := 1, cells := 0, slots := 0, locals := 20 } : Room) s m args below meth c H locs 0 0 Q (F0 m 0 ls []) from hgo _ _ hP hD hS
  clear hP hD hS
  intro H locs hP hD hS
  refine lv_iload_n hx hb fx_Dk_isPlain_0 rfl (lv_at hl 0 rfl) ?_
  refine fd_callz (va_runS (As := [.int p0]) (rest := []) ⟨hx, hb, hml, hown, hts⟩ (fc_Dk_isSimple l D cR cP ad H.size σ p0 hI ) ⟨callB_of 1 hts (fb_good fm_Dk_isSimple) rfl rfl rfl (hts _ (List.mem_cons_of_mem _ fq_1)) (hts _ (List.mem_cons_of_mem _ fq_359)) (by decide +kernel) ⟨Nat.le_of_ble_eq_true rfl, Nat.le_of_ble_eq_true rfl⟩, (hts _ (List.mem_cons_of_mem _ fq_360))⟩ (fd_preS hP hK hD hN) rfl rfl hl.1 rfl (lv_room (Nat.le_of_ble_eq_true rfl)) fx_Dk_isPlain_1 ⟨Nat.le_of_ble_eq_true rfl, Nat.le_of_ble_eq_true rfl⟩) hD hS hA (fun H locs hP hD hS => ?_)
  have hJ2 : ∀ (H : Heap) (locs : List Loc), va_P D fn_cl (fd_w cR cP ad σ) H → va_D A (fd_w cR cP ad σ) → va_S A s.heap H locs → ∀ (v2 : Bool), v2 = (if (fv_Dk_isSimple σ p0) = true then if p1 = 0 then true else false else false) → W p l e ({ frames := 1, cells := 0, slots := 0, locals := 20 } : Room) s m args below meth c H locs 0 0 Q (F0 m 16 ls [.int (fd_bi v2)]) := by
    intro H locs hP hD hS v2 hv2
    exact fd_zret (r := v2) (u := σ) hQ hx hb hr ⟨by rw [fv_Dk_isPlain, ← hv2, fv_Dk_isPlain_j2], rfl⟩ hP hD hS fx_Dk_isPlain_16 hlocks
  refine fd_ifeq (tgt := 15) hx hb fx_Dk_isPlain_4 (by decide) (fun c3 => ?_) (fun c3 => ?_)
  · refine lv_iconst (v := 0) hx hb fx_Dk_isPlain_15 (by decide) ?_
    exact hJ2 H locs hP hD hS false (by rw [if_neg c3])
  · refine lv_iload_n hx hb fx_Dk_isPlain_7 rfl (lv_at hl 1 rfl) ?_
    refine lv_if_ne (tgt := 15) hx hb fx_Dk_isPlain_8 (by decide) (fun c4 => ?_) (fun c4 => ?_)
    · refine lv_iconst (v := 0) hx hb fx_Dk_isPlain_15 (by decide) ?_
      exact hJ2 H locs hP hD hS false (by rw [if_pos c3, if_neg c4])
    · refine lv_iconst (v := 1) hx hb fx_Dk_isPlain_11 (by decide) ?_
      refine lv_goto (tgt := 16) hx hb fx_Dk_isPlain_12 (by decide) ?_
      exact hJ2 H locs hP hD hS true (by rw [if_pos c3, if_pos c4])
def fv_Dk_originOf (σ : FDS) (p0 : Int32) : Int32 := p0 / 8
set_option maxHeartbeats 4000000 in
set_option maxRecDepth 100000 in
theorem fc_Dk_originOf (l : Launch) (D : va_G) (cR cP : ClassId) (ad : Nat → Nat) (sz : Nat) (σ : FDS) (p0 : Int32) (hI : fd_Inv σ)  : Met l fy_Dk_originOf (fw_Dk_originOf :: fb_tbl) ({ frames := 0, cells := 0, slots := 0, locals := 0 } : Room) (fd_Pc D cR cP ad [.int p0] σ sz) ((fun A => va_Qi (fun (r : Int32) (u : FDS) => fv_Dk_originOf σ p0 = r ∧ u = σ) (fd_B D cR cP ad A) A) (va_A (fd_w cR cP ad σ) sz)) 0 0 (va_A (fd_w cR cP ad σ) sz) := by
  refine fd_ofW (cc := fb_Dk_originOf) (maxL := 1) (ret := (some .int)) (Qf := fun A => va_Qi (fun (r : Int32) (u : FDS) => fv_Dk_originOf σ p0 = r ∧ u = σ) (fd_B D cR cP ad A) A) (by decide) (Nat.le_of_ble_eq_true rfl) ?_
  intro p e s m args below meth c A Q hQ hx hb hr hts hown hlocks hml hP hK hD hS hA hN ls hl
  have hown : s.vm.findClass fn_R_Dk = some m.cls := hown
  have hl : lv_has ls 1 [(0, .int p0)] := hl
  suffices hgo : ∀ (H : Heap) (locs : List Loc), va_P D fn_cl (fd_w cR cP ad σ) H → va_D A (fd_w cR cP ad σ) → va_S A s.heap H locs → W p l e ({ frames := 0, cells := 0, slots := 0, locals := 0 } : Room) s m args below meth c H locs 0 0 Q (F0 m 0 ls []) from hgo _ _ hP hD hS
  clear hP hD hS
  intro H locs hP hD hS
  refine lv_iload_n hx hb fx_Dk_originOf_0 rfl (lv_at hl 0 rfl) ?_
  refine lv_bipush (v := 8) hx hb fx_Dk_originOf_1 (by decide) ?_
  refine lv_idiv hx hb fx_Dk_originOf_3 (by decide) ?_
  exact fd_iret (r := p0 / 8) (u := σ) hQ hx hb hr ⟨by rw [fv_Dk_originOf], rfl⟩ hP hD hS fx_Dk_originOf_4 hlocks
def fv_Dk_lets_j4 (σ : FDS) (p0 : Int32) (p1 : Int32) (v2 : Bool) (v3 : Bool) (v4 : Bool) : Bool := v4
def fv_Dk_lets_j3 (σ : FDS) (p0 : Int32) (p1 : Int32) (v2 : Bool) (v3 : Bool) : Bool := fv_Dk_lets_j4 σ p0 p1 v2 v3 (if v2 = true then if v3 = true then true else false else false)
def fv_Dk_lets_j2 (σ : FDS) (p0 : Int32) (p1 : Int32) (v2 : Bool) : Bool := fv_Dk_lets_j3 σ p0 p1 v2 (if ((fd_qI σ 3) &&& (p1 ^^^ (-1))) = 0 then true else false)
def fv_Dk_lets (σ : FDS) (p0 : Int32) (p1 : Int32) : Bool := fv_Dk_lets_j2 σ p0 p1 (if (fv_Dk_isSimple σ (fd_qI σ 2)) = true then true else if (p0 &&& (1 <<< ((fd_qI σ 2) &&& 31))) = 0 then false else true)
set_option maxHeartbeats 4000000 in
set_option maxRecDepth 100000 in
theorem fc_Dk_lets (l : Launch) (D : va_G) (cR cP : ClassId) (ad : Nat → Nat) (sz : Nat) (σ : FDS) (p0 : Int32) (p1 : Int32) (hI : fd_Inv σ)  : Met l fy_Dk_lets (fw_Dk_lets :: fb_tbl) ({ frames := 1, cells := 0, slots := 0, locals := 20 } : Room) (fd_Pc D cR cP ad [.int p0, .int p1, .ref (ad 2)] σ sz) ((fun A => va_Qi (fun (r : Int32) (u : FDS) => fd_bi (fv_Dk_lets σ p0 p1) = r ∧ u = σ) (fd_B D cR cP ad A) A) (va_A (fd_w cR cP ad σ) sz)) 0 0 (va_A (fd_w cR cP ad σ) sz) := by
  refine fd_ofW (cc := fb_Dk_lets) (maxL := 5) (ret := (some .boolean)) (Qf := fun A => va_Qi (fun (r : Int32) (u : FDS) => fd_bi (fv_Dk_lets σ p0 p1) = r ∧ u = σ) (fd_B D cR cP ad A) A) (by decide) (Nat.le_of_ble_eq_true rfl) ?_
  intro p e s m args below meth c A Q hQ hx hb hr hts hown hlocks hml hP hK hD hS hA hN ls hl
  have hown : s.vm.findClass fn_R_Dk = some m.cls := hown
  have hl : lv_has ls 5 [(0, .int p0), (1, .int p1), (2, .ref (ad 2))] := hl
  suffices hgo : ∀ (H : Heap) (locs : List Loc), va_P D fn_cl (fd_w cR cP ad σ) H → va_D A (fd_w cR cP ad σ) → va_S A s.heap H locs → W p l e ({ frames := 1, cells := 0, slots := 0, locals := 20 } : Room) s m args below meth c H locs 0 0 Q (F0 m 0 ls []) from hgo _ _ hP hD hS
  clear hP hD hS
  intro H locs hP hD hS
  refine lv_aload_n hx hb fx_Dk_lets_0 rfl (lv_at hl 2 rfl) ?_
  refine va_getN (D := D) (ci := 2) (v := .int (fd_qI σ 2)) (C := fn_R_Rq) (T := fn_T_Rq) (N := 15) hx hb hts fn_j_Rq hown hK hP 2 rfl rfl 2 (by decide) (va_Nw.use rfl (hN _ fq_148)) (fun _ h9 => h9) rfl fx_Dk_lets_1 ?_
  refine fd_callz (va_runS (As := [.int (fd_qI σ 2)]) (rest := []) ⟨hx, hb, hml, hown, hts⟩ (fc_Dk_isSimple l D cR cP ad H.size σ (fd_qI σ 2) hI ) ⟨callB_of 1 hts (fb_good fm_Dk_isSimple) rfl rfl rfl (hts _ (List.mem_cons_of_mem _ fq_1)) (hts _ (List.mem_cons_of_mem _ fq_359)) (by decide +kernel) ⟨Nat.le_of_ble_eq_true rfl, Nat.le_of_ble_eq_true rfl⟩, (hts _ (List.mem_cons_of_mem _ fq_360))⟩ (fd_preS hP hK hD hN) rfl rfl hl.1 rfl (lv_room (Nat.le_of_ble_eq_true rfl)) fx_Dk_lets_4 ⟨Nat.le_of_ble_eq_true rfl, Nat.le_of_ble_eq_true rfl⟩) hD hS hA (fun H locs hP hD hS => ?_)
  have hJ2 : ∀ (H : Heap) (locs : List Loc), va_P D fn_cl (fd_w cR cP ad σ) H → va_D A (fd_w cR cP ad σ) → va_S A s.heap H locs → ∀ (v2 : Bool), v2 = (if (fv_Dk_isSimple σ (fd_qI σ 2)) = true then true else if (p0 &&& (1 <<< ((fd_qI σ 2) &&& 31))) = 0 then false else true) → W p l e ({ frames := 1, cells := 0, slots := 0, locals := 20 } : Room) s m args below meth c H locs 0 0 Q (F0 m 26 ls [.int (fd_bi v2)]) := by
    intro H locs hP hD hS v2 hv2
    refine lv_istore_n (lv' := [(3, .int (fd_bi v2)), (0, .int p0), (1, .int p1), (2, .ref (ad 2))]) hx hb fx_Dk_lets_26 rfl hl (by decide) rfl (fun ls hl => ?_)
    refine lv_aload_n hx hb fx_Dk_lets_27 rfl (lv_at hl 3 rfl) ?_
    refine va_getN (D := D) (ci := 2) (v := .int (fd_qI σ 3)) (C := fn_R_Rq) (T := fn_T_Rq) (N := 15) hx hb hts fn_j_Rq hown hK hP 2 rfl rfl 3 (by decide) (va_Nw.use rfl (hN _ fq_150)) (fun _ h9 => h9) rfl fx_Dk_lets_28 ?_
    refine lv_iload_n hx hb fx_Dk_lets_31 rfl (lv_at hl 2 rfl) ?_
    refine lv_iconst (v := (-1)) hx hb fx_Dk_lets_32 (by decide) ?_
    refine lv_ixor hx hb fx_Dk_lets_33 ?_
    refine lv_iand hx hb fx_Dk_lets_34 ?_
    have hJ3 : ∀ (H : Heap) (locs : List Loc), va_P D fn_cl (fd_w cR cP ad σ) H → va_D A (fd_w cR cP ad σ) → va_S A s.heap H locs → ∀ (v3 : Bool), v3 = (if ((fd_qI σ 3) &&& (p1 ^^^ (-1))) = 0 then true else false) → W p l e ({ frames := 1, cells := 0, slots := 0, locals := 20 } : Room) s m args below meth c H locs 0 0 Q (F0 m 43 ls [.int (fd_bi v3)]) := by
      intro H locs hP hD hS v3 hv3
      refine lv_istore (lv' := [(4, .int (fd_bi v3)), (3, .int (fd_bi v2)), (0, .int p0), (1, .int p1), (2, .ref (ad 2))]) hx hb fx_Dk_lets_43 hl (by decide) rfl (fun ls hl => ?_)
      refine lv_iload_n hx hb fx_Dk_lets_45 rfl (lv_at hl 1 rfl) ?_
      have hJ4 : ∀ (H : Heap) (locs : List Loc), va_P D fn_cl (fd_w cR cP ad σ) H → va_D A (fd_w cR cP ad σ) → va_S A s.heap H locs → ∀ (v4 : Bool), v4 = (if v2 = true then if v3 = true then true else false else false) → W p l e ({ frames := 1, cells := 0, slots := 0, locals := 20 } : Room) s m args below meth c H locs 0 0 Q (F0 m 59 ls [.int (fd_bi v4)]) := by
        intro H locs hP hD hS v4 hv4
        exact fd_zret (r := v4) (u := σ) hQ hx hb hr ⟨by rw [fv_Dk_lets, ← hv2, fv_Dk_lets_j2, ← hv3, fv_Dk_lets_j3, ← hv4, fv_Dk_lets_j4], rfl⟩ hP hD hS fx_Dk_lets_59 hlocks
      refine fd_ifeq (tgt := 58) hx hb fx_Dk_lets_46 (by decide) (fun c5 => ?_) (fun c5 => ?_)
      · refine lv_iconst (v := 0) hx hb fx_Dk_lets_58 (by decide) ?_
        exact hJ4 H locs hP hD hS false (by rw [if_neg c5])
      · refine lv_iload hx hb fx_Dk_lets_49 (lv_at hl 0 rfl) ?_
        refine fd_ifeq (tgt := 58) hx hb fx_Dk_lets_51 (by decide) (fun c6 => ?_) (fun c6 => ?_)
        · refine lv_iconst (v := 0) hx hb fx_Dk_lets_58 (by decide) ?_
          exact hJ4 H locs hP hD hS false (by rw [if_pos c5, if_neg c6])
        · refine lv_iconst (v := 1) hx hb fx_Dk_lets_54 (by decide) ?_
          refine lv_goto (tgt := 59) hx hb fx_Dk_lets_55 (by decide) ?_
          exact hJ4 H locs hP hD hS true (by rw [if_pos c5, if_pos c6])
    refine lv_if_ne (tgt := 42) hx hb fx_Dk_lets_35 (by decide) (fun c7 => ?_) (fun c7 => ?_)
    · refine lv_iconst (v := 0) hx hb fx_Dk_lets_42 (by decide) ?_
      exact hJ3 H locs hP hD hS false (by rw [if_neg c7])
    · refine lv_iconst (v := 1) hx hb fx_Dk_lets_38 (by decide) ?_
      refine lv_goto (tgt := 43) hx hb fx_Dk_lets_39 (by decide) ?_
      exact hJ3 H locs hP hD hS true (by rw [if_pos c7])
  refine fd_ifne (tgt := 21) hx hb fx_Dk_lets_7 (by decide) (fun c8 => ?_) (fun c8 => ?_)
  · refine lv_iconst (v := 1) hx hb fx_Dk_lets_21 (by decide) ?_
    refine lv_goto (tgt := 26) hx hb fx_Dk_lets_22 (by decide) ?_
    exact hJ2 H locs hP hD hS true (by rw [if_pos c8])
  · refine lv_iload_n hx hb fx_Dk_lets_10 rfl (lv_at hl 0 rfl) ?_
    refine lv_iconst (v := 1) hx hb fx_Dk_lets_11 (by decide) ?_
    refine lv_aload_n hx hb fx_Dk_lets_12 rfl (lv_at hl 2 rfl) ?_
    refine va_getN (D := D) (ci := 2) (v := .int (fd_qI σ 2)) (C := fn_R_Rq) (T := fn_T_Rq) (N := 15) hx hb hts fn_j_Rq hown hK hP 2 rfl rfl 2 (by decide) (va_Nw.use rfl (hN _ fq_148)) (fun _ h9 => h9) rfl fx_Dk_lets_13 ?_
    refine lv_ishl hx hb fx_Dk_lets_16 ?_
    refine lv_iand hx hb fx_Dk_lets_17 ?_
    refine lv_if_eq (tgt := 25) hx hb fx_Dk_lets_18 (by decide) (fun c9 => ?_) (fun c9 => ?_)
    · refine lv_iconst (v := 0) hx hb fx_Dk_lets_25 (by decide) ?_
      exact hJ2 H locs hP hD hS false (by rw [if_neg c8, if_pos c9])
    · refine lv_iconst (v := 1) hx hb fx_Dk_lets_21 (by decide) ?_
      refine lv_goto (tgt := 26) hx hb fx_Dk_lets_22 (by decide) ?_
      exact hJ2 H locs hP hD hS true (by rw [if_neg c8, if_neg c9])
def fv_Rs_isRedirect (σ : FDS) (j0 : Nat) : Bool := if (fd_rI σ j0 2) = (-1) then false else if (fd_rI σ j0 0) = 301 then true else if (fd_rI σ j0 0) = 302 then true else if (fd_rI σ j0 0) = 303 then true else if (fd_rI σ j0 0) = 304 then false else if (fd_rI σ j0 0) = 305 then false else if (fd_rI σ j0 0) = 306 then false else if (fd_rI σ j0 0) = 307 then true else if (fd_rI σ j0 0) = 308 then true else false
set_option maxHeartbeats 4000000 in
set_option maxRecDepth 100000 in
theorem fc_Rs_isRedirect (l : Launch) (D : va_G) (cR cP : ClassId) (ad : Nat → Nat) (sz : Nat) (σ : FDS) (j0 : Nat) (hj0 : j0 < 48) (hI : fd_Inv σ)  : Met l fy_Rs_isRedirect (fw_Rs_isRedirect :: fb_tbl) ({ frames := 0, cells := 0, slots := 0, locals := 0 } : Room) (fd_Pc D cR cP ad [.ref (ad (3 + j0))] σ sz) ((fun A => va_Qi (fun (r : Int32) (u : FDS) => fd_bi (fv_Rs_isRedirect σ j0) = r ∧ u = σ) (fd_B D cR cP ad A) A) (va_A (fd_w cR cP ad σ) sz)) 0 0 (va_A (fd_w cR cP ad σ) sz) := by
  refine fd_ofW (cc := fb_Rs_isRedirect) (maxL := 1) (ret := (some .boolean)) (Qf := fun A => va_Qi (fun (r : Int32) (u : FDS) => fd_bi (fv_Rs_isRedirect σ j0) = r ∧ u = σ) (fd_B D cR cP ad A) A) (by decide) (Nat.le_of_ble_eq_true rfl) ?_
  intro p e s m args below meth c A Q hQ hx hb hr hts hown hlocks hml hP hK hD hS hA hN ls hl
  have hown : s.vm.findClass fn_R_Rs = some m.cls := hown
  have hl : lv_has ls 1 [(0, .ref (ad (3 + j0)))] := hl
  suffices hgo : ∀ (H : Heap) (locs : List Loc), va_P D fn_cl (fd_w cR cP ad σ) H → va_D A (fd_w cR cP ad σ) → va_S A s.heap H locs → W p l e ({ frames := 0, cells := 0, slots := 0, locals := 0 } : Room) s m args below meth c H locs 0 0 Q (F0 m 0 ls []) from hgo _ _ hP hD hS
  clear hP hD hS
  intro H locs hP hD hS
  refine lv_aload_n hx hb fx_Rs_isRedirect_0 rfl (lv_at hl 0 rfl) ?_
  refine va_get (D := D) (ci := 3) (v := .int (fd_rI σ j0 2)) (C := fn_R_Rs) (T := fn_T_Rs) (N := 13) hx hb hts fn_j_Rs hown hK hP (5 + j0) (fd_w_res hj0) rfl 2 (by decide) (hts _ (List.mem_cons_of_mem _ fq_33)) (fun _ h9 => h9) rfl fx_Rs_isRedirect_1 ?_
  refine lv_iconst (v := (-1)) hx hb fx_Rs_isRedirect_4 (by decide) ?_
  refine lv_icmp_ne (tgt := 10) hx hb fx_Rs_isRedirect_5 (by decide) (fun c1 => ?_) (fun c1 => ?_)
  · refine lv_aload_n hx hb fx_Rs_isRedirect_10 rfl (lv_at hl 0 rfl) ?_
    refine va_get (D := D) (ci := 3) (v := .int (fd_rI σ j0 0)) (C := fn_R_Rs) (T := fn_T_Rs) (N := 13) hx hb hts fn_j_Rs hown hK hP (5 + j0) (fd_w_res hj0) rfl 0 (by decide) (hts _ (List.mem_cons_of_mem _ fq_28)) (fun _ h9 => h9) rfl fx_Rs_isRedirect_11 ?_
    by_cases c2 : (fd_rI σ j0 0) = 301
    · refine lv_tableIn (tgt := 60) hx hb fx_Rs_isRedirect_14 (by rw [c2]; decide) (by rw [c2]; decide) (by rw [c2]; rfl) (by decide) ?_
      refine lv_iconst (v := 1) hx hb fx_Rs_isRedirect_60 (by decide) ?_
      exact fd_zret (r := true) (u := σ) hQ hx hb hr ⟨by rw [fv_Rs_isRedirect, if_neg c1, if_pos c2], rfl⟩ hP hD hS fx_Rs_isRedirect_61 hlocks
    · by_cases c3 : (fd_rI σ j0 0) = 302
      · refine lv_tableIn (tgt := 60) hx hb fx_Rs_isRedirect_14 (by rw [c3]; decide) (by rw [c3]; decide) (by rw [c3]; rfl) (by decide) ?_
        refine lv_iconst (v := 1) hx hb fx_Rs_isRedirect_60 (by decide) ?_
        exact fd_zret (r := true) (u := σ) hQ hx hb hr ⟨by rw [fv_Rs_isRedirect, if_neg c1, if_neg c2, if_pos c3], rfl⟩ hP hD hS fx_Rs_isRedirect_61 hlocks
      · by_cases c4 : (fd_rI σ j0 0) = 303
        · refine lv_tableIn (tgt := 60) hx hb fx_Rs_isRedirect_14 (by rw [c4]; decide) (by rw [c4]; decide) (by rw [c4]; rfl) (by decide) ?_
          refine lv_iconst (v := 1) hx hb fx_Rs_isRedirect_60 (by decide) ?_
          exact fd_zret (r := true) (u := σ) hQ hx hb hr ⟨by rw [fv_Rs_isRedirect, if_neg c1, if_neg c2, if_neg c3, if_pos c4], rfl⟩ hP hD hS fx_Rs_isRedirect_61 hlocks
        · by_cases c5 : (fd_rI σ j0 0) = 304
          · refine lv_tableIn (tgt := 62) hx hb fx_Rs_isRedirect_14 (by rw [c5]; decide) (by rw [c5]; decide) (by rw [c5]; rfl) (by decide) ?_
            refine lv_iconst (v := 0) hx hb fx_Rs_isRedirect_62 (by decide) ?_
            exact fd_zret (r := false) (u := σ) hQ hx hb hr ⟨by rw [fv_Rs_isRedirect, if_neg c1, if_neg c2, if_neg c3, if_neg c4, if_pos c5], rfl⟩ hP hD hS fx_Rs_isRedirect_63 hlocks
          · by_cases c6 : (fd_rI σ j0 0) = 305
            · refine lv_tableIn (tgt := 62) hx hb fx_Rs_isRedirect_14 (by rw [c6]; decide) (by rw [c6]; decide) (by rw [c6]; rfl) (by decide) ?_
              refine lv_iconst (v := 0) hx hb fx_Rs_isRedirect_62 (by decide) ?_
              exact fd_zret (r := false) (u := σ) hQ hx hb hr ⟨by rw [fv_Rs_isRedirect, if_neg c1, if_neg c2, if_neg c3, if_neg c4, if_neg c5, if_pos c6], rfl⟩ hP hD hS fx_Rs_isRedirect_63 hlocks
            · by_cases c7 : (fd_rI σ j0 0) = 306
              · refine lv_tableIn (tgt := 62) hx hb fx_Rs_isRedirect_14 (by rw [c7]; decide) (by rw [c7]; decide) (by rw [c7]; rfl) (by decide) ?_
                refine lv_iconst (v := 0) hx hb fx_Rs_isRedirect_62 (by decide) ?_
                exact fd_zret (r := false) (u := σ) hQ hx hb hr ⟨by rw [fv_Rs_isRedirect, if_neg c1, if_neg c2, if_neg c3, if_neg c4, if_neg c5, if_neg c6, if_pos c7], rfl⟩ hP hD hS fx_Rs_isRedirect_63 hlocks
              · by_cases c8 : (fd_rI σ j0 0) = 307
                · refine lv_tableIn (tgt := 60) hx hb fx_Rs_isRedirect_14 (by rw [c8]; decide) (by rw [c8]; decide) (by rw [c8]; rfl) (by decide) ?_
                  refine lv_iconst (v := 1) hx hb fx_Rs_isRedirect_60 (by decide) ?_
                  exact fd_zret (r := true) (u := σ) hQ hx hb hr ⟨by rw [fv_Rs_isRedirect, if_neg c1, if_neg c2, if_neg c3, if_neg c4, if_neg c5, if_neg c6, if_neg c7, if_pos c8], rfl⟩ hP hD hS fx_Rs_isRedirect_61 hlocks
                · by_cases c9 : (fd_rI σ j0 0) = 308
                  · refine lv_tableIn (tgt := 60) hx hb fx_Rs_isRedirect_14 (by rw [c9]; decide) (by rw [c9]; decide) (by rw [c9]; rfl) (by decide) ?_
                    refine lv_iconst (v := 1) hx hb fx_Rs_isRedirect_60 (by decide) ?_
                    exact fd_zret (r := true) (u := σ) hQ hx hb hr ⟨by rw [fv_Rs_isRedirect, if_neg c1, if_neg c2, if_neg c3, if_neg c4, if_neg c5, if_neg c6, if_neg c7, if_neg c8, if_pos c9], rfl⟩ hP hD hS fx_Rs_isRedirect_61 hlocks
                  · refine lv_tableOut (tgt := 62) hx hb fx_Rs_isRedirect_14 (by have n301 := lv_neT c2 (a := 301) (by decide); have n302 := lv_neT c3 (a := 302) (by decide); have n303 := lv_neT c4 (a := 303) (by decide); have n304 := lv_neT c5 (a := 304) (by decide); have n305 := lv_neT c6 (a := 305) (by decide); have n306 := lv_neT c7 (a := 306) (by decide); have n307 := lv_neT c8 (a := 307) (by decide); have n308 := lv_neT c9 (a := 308) (by decide); omega) (by decide) ?_
                    refine lv_iconst (v := 0) hx hb fx_Rs_isRedirect_62 (by decide) ?_
                    exact fd_zret (r := false) (u := σ) hQ hx hb hr ⟨by rw [fv_Rs_isRedirect, if_neg c1, if_neg c2, if_neg c3, if_neg c4, if_neg c5, if_neg c6, if_neg c7, if_neg c8, if_neg c9], rfl⟩ hP hD hS fx_Rs_isRedirect_63 hlocks
  · refine lv_iconst (v := 0) hx hb fx_Rs_isRedirect_8 (by decide) ?_
    exact fd_zret (r := false) (u := σ) hQ hx hb hr ⟨by rw [fv_Rs_isRedirect, if_pos c1], rfl⟩ hP hD hS fx_Rs_isRedirect_9 hlocks
def fv_Rs_turnsIntoGet_j2 (σ : FDS) (j0 : Nat) (p1 : Int32) (v2 : Bool) : Bool := v2
def fv_Rs_turnsIntoGet_j7 (σ : FDS) (j0 : Nat) (p1 : Int32) (v7 : Bool) : Bool := v7
def fv_Rs_turnsIntoGet (σ : FDS) (j0 : Nat) (p1 : Int32) : Bool := if (fd_rI σ j0 0) = 303 then fv_Rs_turnsIntoGet_j7 σ j0 p1 (if p1 = 0 then false else true) else fv_Rs_turnsIntoGet_j2 σ j0 p1 (if (fd_rI σ j0 0) = 301 then if p1 = 1 then true else false else if (fd_rI σ j0 0) = 302 then if p1 = 1 then true else false else false)
set_option maxHeartbeats 4000000 in
set_option maxRecDepth 100000 in
theorem fc_Rs_turnsIntoGet (l : Launch) (D : va_G) (cR cP : ClassId) (ad : Nat → Nat) (sz : Nat) (σ : FDS) (j0 : Nat) (hj0 : j0 < 48) (p1 : Int32) (hI : fd_Inv σ)  : Met l fy_Rs_turnsIntoGet (fw_Rs_turnsIntoGet :: fb_tbl) ({ frames := 0, cells := 0, slots := 0, locals := 0 } : Room) (fd_Pc D cR cP ad [.ref (ad (3 + j0)), .int p1] σ sz) ((fun A => va_Qi (fun (r : Int32) (u : FDS) => fd_bi (fv_Rs_turnsIntoGet σ j0 p1) = r ∧ u = σ) (fd_B D cR cP ad A) A) (va_A (fd_w cR cP ad σ) sz)) 0 0 (va_A (fd_w cR cP ad σ) sz) := by
  refine fd_ofW (cc := fb_Rs_turnsIntoGet) (maxL := 2) (ret := (some .boolean)) (Qf := fun A => va_Qi (fun (r : Int32) (u : FDS) => fd_bi (fv_Rs_turnsIntoGet σ j0 p1) = r ∧ u = σ) (fd_B D cR cP ad A) A) (by decide) (Nat.le_of_ble_eq_true rfl) ?_
  intro p e s m args below meth c A Q hQ hx hb hr hts hown hlocks hml hP hK hD hS hA hN ls hl
  have hown : s.vm.findClass fn_R_Rs = some m.cls := hown
  have hl : lv_has ls 2 [(0, .ref (ad (3 + j0))), (1, .int p1)] := hl
  suffices hgo : ∀ (H : Heap) (locs : List Loc), va_P D fn_cl (fd_w cR cP ad σ) H → va_D A (fd_w cR cP ad σ) → va_S A s.heap H locs → W p l e ({ frames := 0, cells := 0, slots := 0, locals := 0 } : Room) s m args below meth c H locs 0 0 Q (F0 m 0 ls []) from hgo _ _ hP hD hS
  clear hP hD hS
  intro H locs hP hD hS
  refine lv_aload_n hx hb fx_Rs_turnsIntoGet_0 rfl (lv_at hl 0 rfl) ?_
  refine va_get (D := D) (ci := 3) (v := .int (fd_rI σ j0 0)) (C := fn_R_Rs) (T := fn_T_Rs) (N := 13) hx hb hts fn_j_Rs hown hK hP (5 + j0) (fd_w_res hj0) rfl 0 (by decide) (hts _ (List.mem_cons_of_mem _ fq_28)) (fun _ h9 => h9) rfl fx_Rs_turnsIntoGet_1 ?_
  refine lv_sipush (v := 303) hx hb fx_Rs_turnsIntoGet_4 (by decide) ?_
  refine lv_icmp_ne (tgt := 20) hx hb fx_Rs_turnsIntoGet_7 (by decide) (fun c1 => ?_) (fun c1 => ?_)
  · refine lv_aload_n hx hb fx_Rs_turnsIntoGet_20 rfl (lv_at hl 0 rfl) ?_
    refine va_get (D := D) (ci := 3) (v := .int (fd_rI σ j0 0)) (C := fn_R_Rs) (T := fn_T_Rs) (N := 13) hx hb hts fn_j_Rs hown hK hP (5 + j0) (fd_w_res hj0) rfl 0 (by decide) (hts _ (List.mem_cons_of_mem _ fq_28)) (fun _ h9 => h9) rfl fx_Rs_turnsIntoGet_21 ?_
    refine lv_sipush (v := 301) hx hb fx_Rs_turnsIntoGet_24 (by decide) ?_
    have hJ2 : ∀ (H : Heap) (locs : List Loc), va_P D fn_cl (fd_w cR cP ad σ) H → va_D A (fd_w cR cP ad σ) → va_S A s.heap H locs → ∀ (v2 : Bool), v2 = (if (fd_rI σ j0 0) = 301 then if p1 = 1 then true else false else if (fd_rI σ j0 0) = 302 then if p1 = 1 then true else false else false) → W p l e ({ frames := 0, cells := 0, slots := 0, locals := 0 } : Room) s m args below meth c H locs 0 0 Q (F0 m 50 ls [.int (fd_bi v2)]) := by
      intro H locs hP hD hS v2 hv2
      exact fd_zret (r := v2) (u := σ) hQ hx hb hr ⟨by rw [fv_Rs_turnsIntoGet, if_neg c1, ← hv2, fv_Rs_turnsIntoGet_j2], rfl⟩ hP hD hS fx_Rs_turnsIntoGet_50 hlocks
    refine lv_icmp_eq (tgt := 40) hx hb fx_Rs_turnsIntoGet_27 (by decide) (fun c3 => ?_) (fun c3 => ?_)
    · refine lv_iload_n hx hb fx_Rs_turnsIntoGet_40 rfl (lv_at hl 1 rfl) ?_
      refine lv_iconst (v := 1) hx hb fx_Rs_turnsIntoGet_41 (by decide) ?_
      refine lv_icmp_ne (tgt := 49) hx hb fx_Rs_turnsIntoGet_42 (by decide) (fun c4 => ?_) (fun c4 => ?_)
      · refine lv_iconst (v := 0) hx hb fx_Rs_turnsIntoGet_49 (by decide) ?_
        exact hJ2 H locs hP hD hS false (by rw [if_pos c3, if_neg c4])
      · refine lv_iconst (v := 1) hx hb fx_Rs_turnsIntoGet_45 (by decide) ?_
        refine lv_goto (tgt := 50) hx hb fx_Rs_turnsIntoGet_46 (by decide) ?_
        exact hJ2 H locs hP hD hS true (by rw [if_pos c3, if_pos c4])
    · refine lv_aload_n hx hb fx_Rs_turnsIntoGet_30 rfl (lv_at hl 0 rfl) ?_
      refine va_get (D := D) (ci := 3) (v := .int (fd_rI σ j0 0)) (C := fn_R_Rs) (T := fn_T_Rs) (N := 13) hx hb hts fn_j_Rs hown hK hP (5 + j0) (fd_w_res hj0) rfl 0 (by decide) (hts _ (List.mem_cons_of_mem _ fq_28)) (fun _ h9 => h9) rfl fx_Rs_turnsIntoGet_31 ?_
      refine lv_sipush (v := 302) hx hb fx_Rs_turnsIntoGet_34 (by decide) ?_
      refine lv_icmp_ne (tgt := 49) hx hb fx_Rs_turnsIntoGet_37 (by decide) (fun c5 => ?_) (fun c5 => ?_)
      · refine lv_iconst (v := 0) hx hb fx_Rs_turnsIntoGet_49 (by decide) ?_
        exact hJ2 H locs hP hD hS false (by rw [if_neg c3, if_neg c5])
      · refine lv_iload_n hx hb fx_Rs_turnsIntoGet_40 rfl (lv_at hl 1 rfl) ?_
        refine lv_iconst (v := 1) hx hb fx_Rs_turnsIntoGet_41 (by decide) ?_
        refine lv_icmp_ne (tgt := 49) hx hb fx_Rs_turnsIntoGet_42 (by decide) (fun c6 => ?_) (fun c6 => ?_)
        · refine lv_iconst (v := 0) hx hb fx_Rs_turnsIntoGet_49 (by decide) ?_
          exact hJ2 H locs hP hD hS false (by rw [if_neg c3, if_pos c5, if_neg c6])
        · refine lv_iconst (v := 1) hx hb fx_Rs_turnsIntoGet_45 (by decide) ?_
          refine lv_goto (tgt := 50) hx hb fx_Rs_turnsIntoGet_46 (by decide) ?_
          exact hJ2 H locs hP hD hS true (by rw [if_neg c3, if_pos c5, if_pos c6])
  · refine lv_iload_n hx hb fx_Rs_turnsIntoGet_10 rfl (lv_at hl 1 rfl) ?_
    have hJ7 : ∀ (H : Heap) (locs : List Loc), va_P D fn_cl (fd_w cR cP ad σ) H → va_D A (fd_w cR cP ad σ) → va_S A s.heap H locs → ∀ (v7 : Bool), v7 = (if p1 = 0 then false else true) → W p l e ({ frames := 0, cells := 0, slots := 0, locals := 0 } : Room) s m args below meth c H locs 0 0 Q (F0 m 19 ls [.int (fd_bi v7)]) := by
      intro H locs hP hD hS v7 hv7
      exact fd_zret (r := v7) (u := σ) hQ hx hb hr ⟨by rw [fv_Rs_turnsIntoGet, if_pos c1, ← hv7, fv_Rs_turnsIntoGet_j7], rfl⟩ hP hD hS fx_Rs_turnsIntoGet_19 hlocks
    refine lv_if_eq (tgt := 18) hx hb fx_Rs_turnsIntoGet_11 (by decide) (fun c8 => ?_) (fun c8 => ?_)
    · refine lv_iconst (v := 0) hx hb fx_Rs_turnsIntoGet_18 (by decide) ?_
      exact hJ7 H locs hP hD hS false (by rw [if_pos c8])
    · refine lv_iconst (v := 1) hx hb fx_Rs_turnsIntoGet_14 (by decide) ?_
      refine lv_goto (tgt := 19) hx hb fx_Rs_turnsIntoGet_15 (by decide) ?_
      exact hJ7 H locs hP hD hS true (by rw [if_neg c8])
def fv_Rq_mustPass_j1 (σ : FDS) (v1 : Bool) : Bool := v1
def fv_Rq_mustPass (σ : FDS) : Bool := fv_Rq_mustPass_j1 σ (if (fd_qB σ 8) = true then if (fd_qI σ 4) = 1 then true else false else false)
set_option maxHeartbeats 4000000 in
set_option maxRecDepth 100000 in
theorem fc_Rq_mustPass (l : Launch) (D : va_G) (cR cP : ClassId) (ad : Nat → Nat) (sz : Nat) (σ : FDS)  (hI : fd_Inv σ)  : Met l fy_Rq_mustPass (fw_Rq_mustPass :: fb_tbl) ({ frames := 0, cells := 0, slots := 0, locals := 0 } : Room) (fd_Pc D cR cP ad [.ref (ad 2)] σ sz) ((fun A => va_Qi (fun (r : Int32) (u : FDS) => fd_bi (fv_Rq_mustPass σ) = r ∧ u = σ) (fd_B D cR cP ad A) A) (va_A (fd_w cR cP ad σ) sz)) 0 0 (va_A (fd_w cR cP ad σ) sz) := by
  refine fd_ofW (cc := fb_Rq_mustPass) (maxL := 1) (ret := (some .boolean)) (Qf := fun A => va_Qi (fun (r : Int32) (u : FDS) => fd_bi (fv_Rq_mustPass σ) = r ∧ u = σ) (fd_B D cR cP ad A) A) (by decide) (Nat.le_of_ble_eq_true rfl) ?_
  intro p e s m args below meth c A Q hQ hx hb hr hts hown hlocks hml hP hK hD hS hA hN ls hl
  have hown : s.vm.findClass fn_R_Rq = some m.cls := hown
  have hl : lv_has ls 1 [(0, .ref (ad 2))] := hl
  suffices hgo : ∀ (H : Heap) (locs : List Loc), va_P D fn_cl (fd_w cR cP ad σ) H → va_D A (fd_w cR cP ad σ) → va_S A s.heap H locs → W p l e ({ frames := 0, cells := 0, slots := 0, locals := 0 } : Room) s m args below meth c H locs 0 0 Q (F0 m 0 ls []) from hgo _ _ hP hD hS
  clear hP hD hS
  intro H locs hP hD hS
  refine lv_aload_n hx hb fx_Rq_mustPass_0 rfl (lv_at hl 0 rfl) ?_
  refine va_get (D := D) (ci := 2) (v := .int (fd_bi (fd_qB σ 8))) (C := fn_R_Rq) (T := fn_T_Rq) (N := 15) hx hb hts fn_j_Rq hown hK hP 2 rfl rfl 8 (by decide) (hts _ (List.mem_cons_of_mem _ fq_157)) (fun _ h9 => h9) rfl fx_Rq_mustPass_1 ?_
  have hJ1 : ∀ (H : Heap) (locs : List Loc), va_P D fn_cl (fd_w cR cP ad σ) H → va_D A (fd_w cR cP ad σ) → va_S A s.heap H locs → ∀ (v1 : Bool), v1 = (if (fd_qB σ 8) = true then if (fd_qI σ 4) = 1 then true else false else false) → W p l e ({ frames := 0, cells := 0, slots := 0, locals := 0 } : Room) s m args below meth c H locs 0 0 Q (F0 m 20 ls [.int (fd_bi v1)]) := by
    intro H locs hP hD hS v1 hv1
    exact fd_zret (r := v1) (u := σ) hQ hx hb hr ⟨by rw [fv_Rq_mustPass, ← hv1, fv_Rq_mustPass_j1], rfl⟩ hP hD hS fx_Rq_mustPass_20 hlocks
  refine fd_ifeq (tgt := 19) hx hb fx_Rq_mustPass_4 (by decide) (fun c2 => ?_) (fun c2 => ?_)
  · refine lv_iconst (v := 0) hx hb fx_Rq_mustPass_19 (by decide) ?_
    exact hJ1 H locs hP hD hS false (by rw [if_neg c2])
  · refine lv_aload_n hx hb fx_Rq_mustPass_7 rfl (lv_at hl 0 rfl) ?_
    refine va_get (D := D) (ci := 2) (v := .int (fd_qI σ 4)) (C := fn_R_Rq) (T := fn_T_Rq) (N := 15) hx hb hts fn_j_Rq hown hK hP 2 rfl rfl 4 (by decide) (hts _ (List.mem_cons_of_mem _ fq_151)) (fun _ h9 => h9) rfl fx_Rq_mustPass_8 ?_
    refine lv_iconst (v := 1) hx hb fx_Rq_mustPass_11 (by decide) ?_
    refine lv_icmp_ne (tgt := 19) hx hb fx_Rq_mustPass_12 (by decide) (fun c3 => ?_) (fun c3 => ?_)
    · refine lv_iconst (v := 0) hx hb fx_Rq_mustPass_19 (by decide) ?_
      exact hJ1 H locs hP hD hS false (by rw [if_pos c2, if_neg c3])
    · refine lv_iconst (v := 1) hx hb fx_Rq_mustPass_15 (by decide) ?_
      refine lv_goto (tgt := 20) hx hb fx_Rq_mustPass_16 (by decide) ?_
      exact hJ1 H locs hP hD hS true (by rw [if_pos c2, if_pos c3])
def fv_Rq_passes_j3 (σ : FDS) (j1 : Nat) (v1 : Bool) (v3 : Bool) : Bool := v3
def fv_Rq_passes_j6 (σ : FDS) (j1 : Nat) (v1 : Bool) (v6 : Bool) : Bool := v6
def fv_Rq_passes_j1 (σ : FDS) (j1 : Nat) (v1 : Bool) : Bool := if (fd_qB σ 9) = true then fv_Rq_passes_j6 σ j1 v1 (if v1 = true then if (fd_rB σ j1 6) = true then true else false else false) else fv_Rq_passes_j3 σ j1 v1 (if v1 = true then true else if ((fd_rI σ j1 5) &&& 128) = 0 then false else true)
def fv_Rq_passes (σ : FDS) (j1 : Nat) : Bool := fv_Rq_passes_j1 σ j1 (if ((fd_rI σ j1 5) &&& (1 <<< ((fd_qI σ 0) &&& 31))) = 0 then false else true)
set_option maxHeartbeats 4000000 in
set_option maxRecDepth 100000 in
theorem fc_Rq_passes (l : Launch) (D : va_G) (cR cP : ClassId) (ad : Nat → Nat) (sz : Nat) (σ : FDS) (j1 : Nat) (hj1 : j1 < 48) (hI : fd_Inv σ)  : Met l fy_Rq_passes (fw_Rq_passes :: fb_tbl) ({ frames := 0, cells := 0, slots := 0, locals := 0 } : Room) (fd_Pc D cR cP ad [.ref (ad 2), .ref (ad (3 + j1))] σ sz) ((fun A => va_Qi (fun (r : Int32) (u : FDS) => fd_bi (fv_Rq_passes σ j1) = r ∧ u = σ) (fd_B D cR cP ad A) A) (va_A (fd_w cR cP ad σ) sz)) 0 0 (va_A (fd_w cR cP ad σ) sz) := by
  refine fd_ofW (cc := fb_Rq_passes) (maxL := 3) (ret := (some .boolean)) (Qf := fun A => va_Qi (fun (r : Int32) (u : FDS) => fd_bi (fv_Rq_passes σ j1) = r ∧ u = σ) (fd_B D cR cP ad A) A) (by decide) (Nat.le_of_ble_eq_true rfl) ?_
  intro p e s m args below meth c A Q hQ hx hb hr hts hown hlocks hml hP hK hD hS hA hN ls hl
  have hown : s.vm.findClass fn_R_Rq = some m.cls := hown
  have hl : lv_has ls 3 [(0, .ref (ad 2)), (1, .ref (ad (3 + j1)))] := hl
  suffices hgo : ∀ (H : Heap) (locs : List Loc), va_P D fn_cl (fd_w cR cP ad σ) H → va_D A (fd_w cR cP ad σ) → va_S A s.heap H locs → W p l e ({ frames := 0, cells := 0, slots := 0, locals := 0 } : Room) s m args below meth c H locs 0 0 Q (F0 m 0 ls []) from hgo _ _ hP hD hS
  clear hP hD hS
  intro H locs hP hD hS
  refine lv_aload_n hx hb fx_Rq_passes_0 rfl (lv_at hl 1 rfl) ?_
  refine va_getN (D := D) (ci := 3) (v := .int (fd_rI σ j1 5)) (C := fn_R_Rs) (T := fn_T_Rs) (N := 13) hx hb hts fn_j_Rs hown hK hP (5 + j1) (fd_w_res hj1) rfl 5 (by decide) (va_Nw.use rfl (hN _ fq_41)) (fun _ h9 => h9) rfl fx_Rq_passes_1 ?_
  refine lv_iconst (v := 1) hx hb fx_Rq_passes_4 (by decide) ?_
  refine lv_aload_n hx hb fx_Rq_passes_5 rfl (lv_at hl 0 rfl) ?_
  refine va_get (D := D) (ci := 2) (v := .int (fd_qI σ 0)) (C := fn_R_Rq) (T := fn_T_Rq) (N := 15) hx hb hts fn_j_Rq hown hK hP 2 rfl rfl 0 (by decide) (hts _ (List.mem_cons_of_mem _ fq_139)) (fun _ h9 => h9) rfl fx_Rq_passes_6 ?_
  refine lv_ishl hx hb fx_Rq_passes_9 ?_
  refine lv_iand hx hb fx_Rq_passes_10 ?_
  have hJ1 : ∀ (H : Heap) (locs : List Loc), va_P D fn_cl (fd_w cR cP ad σ) H → va_D A (fd_w cR cP ad σ) → va_S A s.heap H locs → ∀ (v1 : Bool), v1 = (if ((fd_rI σ j1 5) &&& (1 <<< ((fd_qI σ 0) &&& 31))) = 0 then false else true) → W p l e ({ frames := 0, cells := 0, slots := 0, locals := 0 } : Room) s m args below meth c H locs 0 0 Q (F0 m 19 ls [.int (fd_bi v1)]) := by
    intro H locs hP hD hS v1 hv1
    refine lv_istore_n (lv' := [(2, .int (fd_bi v1)), (0, .ref (ad 2)), (1, .ref (ad (3 + j1)))]) hx hb fx_Rq_passes_19 rfl hl (by decide) rfl (fun ls hl => ?_)
    refine lv_aload_n hx hb fx_Rq_passes_20 rfl (lv_at hl 1 rfl) ?_
    refine va_get (D := D) (ci := 2) (v := .int (fd_bi (fd_qB σ 9))) (C := fn_R_Rq) (T := fn_T_Rq) (N := 15) hx hb hts fn_j_Rq hown hK hP 2 rfl rfl 9 (by decide) (hts _ (List.mem_cons_of_mem _ fq_160)) (fun _ h9 => h9) rfl fx_Rq_passes_21 ?_
    refine fd_ifeq (tgt := 44) hx hb fx_Rq_passes_24 (by decide) (fun c2 => ?_) (fun c2 => ?_)
    · refine lv_iload_n hx hb fx_Rq_passes_44 rfl (lv_at hl 0 rfl) ?_
      have hJ3 : ∀ (H : Heap) (locs : List Loc), va_P D fn_cl (fd_w cR cP ad σ) H → va_D A (fd_w cR cP ad σ) → va_S A s.heap H locs → ∀ (v3 : Bool), v3 = (if v1 = true then true else if ((fd_rI σ j1 5) &&& 128) = 0 then false else true) → W p l e ({ frames := 0, cells := 0, slots := 0, locals := 0 } : Room) s m args below meth c H locs 0 0 Q (F0 m 64 ls [.int (fd_bi v3)]) := by
        intro H locs hP hD hS v3 hv3
        exact fd_zret (r := v3) (u := σ) hQ hx hb hr ⟨by rw [fv_Rq_passes, ← hv1, fv_Rq_passes_j1, if_neg c2, ← hv3, fv_Rq_passes_j3], rfl⟩ hP hD hS fx_Rq_passes_64 hlocks
      refine fd_ifne (tgt := 59) hx hb fx_Rq_passes_45 (by decide) (fun c4 => ?_) (fun c4 => ?_)
      · refine lv_iconst (v := 1) hx hb fx_Rq_passes_59 (by decide) ?_
        refine lv_goto (tgt := 64) hx hb fx_Rq_passes_60 (by decide) ?_
        exact hJ3 H locs hP hD hS true (by rw [if_pos c4])
      · refine lv_aload_n hx hb fx_Rq_passes_48 rfl (lv_at hl 2 rfl) ?_
        refine va_getN (D := D) (ci := 3) (v := .int (fd_rI σ j1 5)) (C := fn_R_Rs) (T := fn_T_Rs) (N := 13) hx hb hts fn_j_Rs hown hK hP (5 + j1) (fd_w_res hj1) rfl 5 (by decide) (va_Nw.use rfl (hN _ fq_41)) (fun _ h9 => h9) rfl fx_Rq_passes_49 ?_
        refine lv_sipush (v := 128) hx hb fx_Rq_passes_52 (by decide) ?_
        refine lv_iand hx hb fx_Rq_passes_55 ?_
        refine lv_if_eq (tgt := 63) hx hb fx_Rq_passes_56 (by decide) (fun c5 => ?_) (fun c5 => ?_)
        · refine lv_iconst (v := 0) hx hb fx_Rq_passes_63 (by decide) ?_
          exact hJ3 H locs hP hD hS false (by rw [if_neg c4, if_pos c5])
        · refine lv_iconst (v := 1) hx hb fx_Rq_passes_59 (by decide) ?_
          refine lv_goto (tgt := 64) hx hb fx_Rq_passes_60 (by decide) ?_
          exact hJ3 H locs hP hD hS true (by rw [if_neg c4, if_neg c5])
    · refine lv_iload_n hx hb fx_Rq_passes_27 rfl (lv_at hl 0 rfl) ?_
      have hJ6 : ∀ (H : Heap) (locs : List Loc), va_P D fn_cl (fd_w cR cP ad σ) H → va_D A (fd_w cR cP ad σ) → va_S A s.heap H locs → ∀ (v6 : Bool), v6 = (if v1 = true then if (fd_rB σ j1 6) = true then true else false else false) → W p l e ({ frames := 0, cells := 0, slots := 0, locals := 0 } : Room) s m args below meth c H locs 0 0 Q (F0 m 43 ls [.int (fd_bi v6)]) := by
        intro H locs hP hD hS v6 hv6
        exact fd_zret (r := v6) (u := σ) hQ hx hb hr ⟨by rw [fv_Rq_passes, ← hv1, fv_Rq_passes_j1, if_pos c2, ← hv6, fv_Rq_passes_j6], rfl⟩ hP hD hS fx_Rq_passes_43 hlocks
      refine fd_ifeq (tgt := 42) hx hb fx_Rq_passes_28 (by decide) (fun c7 => ?_) (fun c7 => ?_)
      · refine lv_iconst (v := 0) hx hb fx_Rq_passes_42 (by decide) ?_
        exact hJ6 H locs hP hD hS false (by rw [if_neg c7])
      · refine lv_aload_n hx hb fx_Rq_passes_31 rfl (lv_at hl 2 rfl) ?_
        refine va_getN (D := D) (ci := 3) (v := .int (fd_bi (fd_rB σ j1 6))) (C := fn_R_Rs) (T := fn_T_Rs) (N := 13) hx hb hts fn_j_Rs hown hK hP (5 + j1) (fd_w_res hj1) rfl 6 (by decide) (va_Nw.use rfl (hN _ fq_43)) (fun _ h9 => h9) rfl fx_Rq_passes_32 ?_
        refine fd_ifeq (tgt := 42) hx hb fx_Rq_passes_35 (by decide) (fun c8 => ?_) (fun c8 => ?_)
        · refine lv_iconst (v := 0) hx hb fx_Rq_passes_42 (by decide) ?_
          exact hJ6 H locs hP hD hS false (by rw [if_pos c7, if_neg c8])
        · refine lv_iconst (v := 1) hx hb fx_Rq_passes_38 (by decide) ?_
          refine lv_goto (tgt := 43) hx hb fx_Rq_passes_39 (by decide) ?_
          exact hJ6 H locs hP hD hS true (by rw [if_pos c7, if_pos c8])
  refine lv_if_eq (tgt := 18) hx hb fx_Rq_passes_11 (by decide) (fun c9 => ?_) (fun c9 => ?_)
  · refine lv_iconst (v := 0) hx hb fx_Rq_passes_18 (by decide) ?_
    exact hJ1 H locs hP hD hS false (by rw [if_pos c9])
  · refine lv_iconst (v := 1) hx hb fx_Rq_passes_14 (by decide) ?_
    refine lv_goto (tgt := 19) hx hb fx_Rq_passes_15 (by decide) ?_
    exact hJ1 H locs hP hD hS true (by rw [if_neg c9])
def fv_Rq_show (σ : FDS) (p1 : Int32) (p2 : Int32) (p3 : Int32) (p4 : Int32) : FDS := fd_sqI (fd_sqI (fd_sqI (fd_sqI σ 11 p1) 12 p2) 13 p3) 14 p4
set_option maxHeartbeats 4000000 in
set_option maxRecDepth 100000 in
theorem fc_Rq_show (l : Launch) (D : va_G) (cR cP : ClassId) (ad : Nat → Nat) (sz : Nat) (σ : FDS) (p1 : Int32) (p2 : Int32) (p3 : Int32) (p4 : Int32) (hI : fd_Inv σ)  : Met l fy_Rq_show (fw_Rq_show :: fb_tbl) ({ frames := 0, cells := 0, slots := 0, locals := 0 } : Room) (fd_Pc D cR cP ad [.ref (ad 2), .int p1, .int p2, .int p3, .int p4] σ sz) ((fun A => va_Qv (fun u : FDS => fv_Rq_show σ p1 p2 p3 p4 = u ∧ fd_Inv u) (fd_B D cR cP ad A) A) (va_A (fd_w cR cP ad σ) sz)) 0 0 (va_A (fd_w cR cP ad σ) sz) := by
  refine fd_ofW (cc := fb_Rq_show) (maxL := 5) (ret := none) (Qf := fun A => va_Qv (fun u : FDS => fv_Rq_show σ p1 p2 p3 p4 = u ∧ fd_Inv u) (fd_B D cR cP ad A) A) (by decide) (Nat.le_of_ble_eq_true rfl) ?_
  intro p e s m args below meth c A Q hQ hx hb hr hts hown hlocks hml hP hK hD hS hA hN ls hl
  have hown : s.vm.findClass fn_R_Rq = some m.cls := hown
  have hl : lv_has ls 5 [(0, .ref (ad 2)), (1, .int p1), (2, .int p2), (3, .int p3), (4, .int p4)] := hl
  suffices hgo : ∀ (H : Heap) (locs : List Loc), va_P D fn_cl (fd_w cR cP ad σ) H → va_D A (fd_w cR cP ad σ) → va_S A s.heap H locs → W p l e ({ frames := 0, cells := 0, slots := 0, locals := 0 } : Room) s m args below meth c H locs 0 0 Q (F0 m 0 ls []) from hgo _ _ hP hD hS
  clear hP hD hS
  intro H locs hP hD hS
  refine lv_aload_n hx hb fx_Rq_show_0 rfl (lv_at hl 0 rfl) ?_
  refine lv_iload_n hx hb fx_Rq_show_1 rfl (lv_at hl 1 rfl) ?_
  refine va_put (D := D) (ci := 2) (v := .int p1) (ty := .int) (C := fn_R_Rq) (T := fn_T_Rq) (N := 15) hx hb hts fn_j_Rq fn_t_Rq fn_k_Rq fn_n_Rq hown hK hP hD hS 2 rfl rfl 11 (by decide) (hts _ (List.mem_cons_of_mem _ fq_165)) (fun _ h9 => h9) rfl (by decide +kernel) rfl rfl (Nat.le_of_ble_eq_true rfl) fx_Rq_show_2 (fun H locs hP hD hS => ?_)
  rw [fd_set_Rq_11] at hP hD
  have hI1 : fd_Inv (fd_sqI σ 11 p1) := fd_inv_sqI (by decide) hI
  refine lv_aload_n hx hb fx_Rq_show_5 rfl (lv_at hl 0 rfl) ?_
  refine lv_iload_n hx hb fx_Rq_show_6 rfl (lv_at hl 2 rfl) ?_
  refine va_put (D := D) (ci := 2) (v := .int p2) (ty := .int) (C := fn_R_Rq) (T := fn_T_Rq) (N := 15) hx hb hts fn_j_Rq fn_t_Rq fn_k_Rq fn_n_Rq hown hK hP hD hS 2 rfl rfl 12 (by decide) (hts _ (List.mem_cons_of_mem _ fq_167)) (fun _ h9 => h9) rfl (by decide +kernel) rfl rfl (Nat.le_of_ble_eq_true rfl) fx_Rq_show_7 (fun H locs hP hD hS => ?_)
  rw [fd_set_Rq_12] at hP hD
  have hI2 : fd_Inv (fd_sqI (fd_sqI σ 11 p1) 12 p2) := fd_inv_sqI (by decide) hI1
  refine lv_aload_n hx hb fx_Rq_show_10 rfl (lv_at hl 0 rfl) ?_
  refine lv_iload_n hx hb fx_Rq_show_11 rfl (lv_at hl 3 rfl) ?_
  refine va_put (D := D) (ci := 2) (v := .int p3) (ty := .int) (C := fn_R_Rq) (T := fn_T_Rq) (N := 15) hx hb hts fn_j_Rq fn_t_Rq fn_k_Rq fn_n_Rq hown hK hP hD hS 2 rfl rfl 13 (by decide) (hts _ (List.mem_cons_of_mem _ fq_169)) (fun _ h9 => h9) rfl (by decide +kernel) rfl rfl (Nat.le_of_ble_eq_true rfl) fx_Rq_show_12 (fun H locs hP hD hS => ?_)
  rw [fd_set_Rq_13] at hP hD
  have hI3 : fd_Inv (fd_sqI (fd_sqI (fd_sqI σ 11 p1) 12 p2) 13 p3) := fd_inv_sqI (by decide) hI2
  refine lv_aload_n hx hb fx_Rq_show_15 rfl (lv_at hl 0 rfl) ?_
  refine lv_iload hx hb fx_Rq_show_16 (lv_at hl 4 rfl) ?_
  refine va_put (D := D) (ci := 2) (v := .int p4) (ty := .int) (C := fn_R_Rq) (T := fn_T_Rq) (N := 15) hx hb hts fn_j_Rq fn_t_Rq fn_k_Rq fn_n_Rq hown hK hP hD hS 2 rfl rfl 14 (by decide) (hts _ (List.mem_cons_of_mem _ fq_171)) (fun _ h9 => h9) rfl (by decide +kernel) rfl rfl (Nat.le_of_ble_eq_true rfl) fx_Rq_show_18 (fun H locs hP hD hS => ?_)
  rw [fd_set_Rq_14] at hP hD
  have hI4 : fd_Inv (fd_sqI (fd_sqI (fd_sqI (fd_sqI σ 11 p1) 12 p2) 13 p3) 14 p4) := fd_inv_sqI (by decide) hI3
  exact fd_vret (u := fd_sqI (fd_sqI (fd_sqI (fd_sqI σ 11 p1) 12 p2) 13 p3) 14 p4) hQ hx hb hr ⟨by rw [fv_Rq_show], hI4⟩ hP hD hS fx_Rq_show_21 hlocks
def fv_Mm_holds_j1 (σ : FDS) (p1 : Int32) (v1 : Bool) : Bool := v1
def fv_Mm_holds (σ : FDS) (p1 : Int32) : Bool := fv_Mm_holds_j1 σ p1 (if p1 < 0 then false else if (fd_mS σ) ≤ p1 then false else true)
set_option maxHeartbeats 4000000 in
set_option maxRecDepth 100000 in
theorem fc_Mm_holds (l : Launch) (D : va_G) (cR cP : ClassId) (ad : Nat → Nat) (sz : Nat) (σ : FDS) (p1 : Int32) (hI : fd_Inv σ)  : Met l fy_Mm_holds (fw_Mm_holds :: fb_tbl) ({ frames := 0, cells := 0, slots := 0, locals := 0 } : Room) (fd_Pc D cR cP ad [.ref (ad 1), .int p1] σ sz) ((fun A => va_Qi (fun (r : Int32) (u : FDS) => fd_bi (fv_Mm_holds σ p1) = r ∧ u = σ) (fd_B D cR cP ad A) A) (va_A (fd_w cR cP ad σ) sz)) 0 0 (va_A (fd_w cR cP ad σ) sz) := by
  refine fd_ofW (cc := fb_Mm_holds) (maxL := 2) (ret := (some .boolean)) (Qf := fun A => va_Qi (fun (r : Int32) (u : FDS) => fd_bi (fv_Mm_holds σ p1) = r ∧ u = σ) (fd_B D cR cP ad A) A) (by decide) (Nat.le_of_ble_eq_true rfl) ?_
  intro p e s m args below meth c A Q hQ hx hb hr hts hown hlocks hml hP hK hD hS hA hN ls hl
  have hown : s.vm.findClass fn_R_Mm = some m.cls := hown
  have hl : lv_has ls 2 [(0, .ref (ad 1)), (1, .int p1)] := hl
  suffices hgo : ∀ (H : Heap) (locs : List Loc), va_P D fn_cl (fd_w cR cP ad σ) H → va_D A (fd_w cR cP ad σ) → va_S A s.heap H locs → W p l e ({ frames := 0, cells := 0, slots := 0, locals := 0 } : Room) s m args below meth c H locs 0 0 Q (F0 m 0 ls []) from hgo _ _ hP hD hS
  clear hP hD hS
  intro H locs hP hD hS
  refine lv_iload_n hx hb fx_Mm_holds_0 rfl (lv_at hl 1 rfl) ?_
  have hJ1 : ∀ (H : Heap) (locs : List Loc), va_P D fn_cl (fd_w cR cP ad σ) H → va_D A (fd_w cR cP ad σ) → va_S A s.heap H locs → ∀ (v1 : Bool), v1 = (if p1 < 0 then false else if (fd_mS σ) ≤ p1 then false else true) → W p l e ({ frames := 0, cells := 0, slots := 0, locals := 0 } : Room) s m args below meth c H locs 0 0 Q (F0 m 17 ls [.int (fd_bi v1)]) := by
    intro H locs hP hD hS v1 hv1
    exact fd_zret (r := v1) (u := σ) hQ hx hb hr ⟨by rw [fv_Mm_holds, ← hv1, fv_Mm_holds_j1], rfl⟩ hP hD hS fx_Mm_holds_17 hlocks
  refine lv_if_lt (tgt := 16) hx hb fx_Mm_holds_1 (by decide) (fun c2 => ?_) (fun c2 => ?_)
  · refine lv_iconst (v := 0) hx hb fx_Mm_holds_16 (by decide) ?_
    exact hJ1 H locs hP hD hS false (by rw [if_pos c2])
  · refine lv_iload_n hx hb fx_Mm_holds_4 rfl (lv_at hl 1 rfl) ?_
    refine lv_aload_n hx hb fx_Mm_holds_5 rfl (lv_at hl 0 rfl) ?_
    refine va_get (D := D) (ci := 0) (v := .int (fd_mS σ)) (C := fn_R_Mm) (T := fn_T_Mm) (N := 2) hx hb hts fn_j_Mm hown hK hP 1 rfl rfl 1 (by decide) (hts _ (List.mem_cons_of_mem _ fq_126)) (fun _ h9 => h9) rfl fx_Mm_holds_6 ?_
    refine lv_icmp_ge (tgt := 16) hx hb fx_Mm_holds_9 (by decide) (fun c3 => ?_) (fun c3 => ?_)
    · refine lv_iconst (v := 0) hx hb fx_Mm_holds_16 (by decide) ?_
      exact hJ1 H locs hP hD hS false (by rw [if_neg c2, if_pos c3])
    · refine lv_iconst (v := 1) hx hb fx_Mm_holds_12 (by decide) ?_
      refine lv_goto (tgt := 17) hx hb fx_Mm_holds_13 (by decide) ?_
      exact hJ1 H locs hP hD hS true (by rw [if_neg c2, if_neg c3])
def fv_Dk_countRequested (σ : FDS) (j1 : Nat) : FDS := if (fd_qB σ 9) = true then fd_srI (fd_srI (fd_sdI σ 6 ((fd_dI σ 6) + 1)) j1 11 ((fd_rI σ j1 11) + 1)) j1 12 ((fd_rI (fd_srI (fd_sdI σ 6 ((fd_dI σ 6) + 1)) j1 11 ((fd_rI σ j1 11) + 1)) j1 12) + 1) else fd_srI (fd_sdI σ 6 ((fd_dI σ 6) + 1)) j1 11 ((fd_rI σ j1 11) + 1)
set_option maxHeartbeats 4000000 in
set_option maxRecDepth 100000 in
theorem fc_Dk_countRequested (l : Launch) (D : va_G) (cR cP : ClassId) (ad : Nat → Nat) (sz : Nat) (σ : FDS) (j1 : Nat) (hj1 : j1 < 48) (hI : fd_Inv σ)  : Met l fy_Dk_countRequested (fw_Dk_countRequested :: fb_tbl) ({ frames := 0, cells := 0, slots := 0, locals := 0 } : Room) (fd_Pc D cR cP ad [.ref (ad 0), .ref (ad (3 + j1))] σ sz) ((fun A => va_Qv (fun u : FDS => fv_Dk_countRequested σ j1 = u ∧ fd_Inv u) (fd_B D cR cP ad A) A) (va_A (fd_w cR cP ad σ) sz)) 0 0 (va_A (fd_w cR cP ad σ) sz) := by
  refine fd_ofW (cc := fb_Dk_countRequested) (maxL := 2) (ret := none) (Qf := fun A => va_Qv (fun u : FDS => fv_Dk_countRequested σ j1 = u ∧ fd_Inv u) (fd_B D cR cP ad A) A) (by decide) (Nat.le_of_ble_eq_true rfl) ?_
  intro p e s m args below meth c A Q hQ hx hb hr hts hown hlocks hml hP hK hD hS hA hN ls hl
  have hown : s.vm.findClass fn_R_Dk = some m.cls := hown
  have hl : lv_has ls 2 [(0, .ref (ad 0)), (1, .ref (ad (3 + j1)))] := hl
  suffices hgo : ∀ (H : Heap) (locs : List Loc), va_P D fn_cl (fd_w cR cP ad σ) H → va_D A (fd_w cR cP ad σ) → va_S A s.heap H locs → W p l e ({ frames := 0, cells := 0, slots := 0, locals := 0 } : Room) s m args below meth c H locs 0 0 Q (F0 m 0 ls []) from hgo _ _ hP hD hS
  clear hP hD hS
  intro H locs hP hD hS
  refine lv_aload_n hx hb fx_Dk_countRequested_0 rfl (lv_at hl 0 rfl) ?_
  refine lv_dup hx hb fx_Dk_countRequested_1 rfl ?_
  refine va_get (D := D) (ci := 4) (v := .int (fd_dI σ 6)) (C := fn_R_Dk) (T := fn_T_Dk) (N := 9) hx hb hts fn_j_Dk hown hK hP 0 rfl rfl 6 (by decide) (hts _ (List.mem_cons_of_mem _ fq_210)) (fun _ h9 => h9) rfl fx_Dk_countRequested_2 ?_
  refine lv_iconst (v := 1) hx hb fx_Dk_countRequested_5 (by decide) ?_
  refine lv_iadd hx hb fx_Dk_countRequested_6 ?_
  refine va_put (D := D) (ci := 4) (v := .int ((fd_dI σ 6) + 1)) (ty := .int) (C := fn_R_Dk) (T := fn_T_Dk) (N := 9) hx hb hts fn_j_Dk fn_t_Dk fn_k_Dk fn_n_Dk hown hK hP hD hS 0 rfl rfl 6 (by decide) (hts _ (List.mem_cons_of_mem _ fq_210)) (fun _ h9 => h9) rfl (by decide +kernel) rfl rfl (Nat.le_of_ble_eq_true rfl) fx_Dk_countRequested_7 (fun H locs hP hD hS => ?_)
  rw [fd_set_Dk_6] at hP hD
  have hI1 : fd_Inv (fd_sdI σ 6 ((fd_dI σ 6) + 1)) := fd_inv_sdI hI
  refine lv_aload_n hx hb fx_Dk_countRequested_10 rfl (lv_at hl 1 rfl) ?_
  refine lv_dup hx hb fx_Dk_countRequested_11 rfl ?_
  refine va_getN (D := D) (ci := 3) (v := .int (fd_rI σ j1 11)) (C := fn_R_Rs) (T := fn_T_Rs) (N := 13) hx hb hts fn_j_Rs hown hK hP (5 + j1) (fd_w_res hj1) rfl 11 (by decide) (va_Nw.use rfl (hN _ fq_51)) (fun _ h9 => h9) rfl fx_Dk_countRequested_12 ?_
  refine lv_iconst (v := 1) hx hb fx_Dk_countRequested_15 (by decide) ?_
  refine lv_iadd hx hb fx_Dk_countRequested_16 ?_
  refine va_putN (D := D) (ci := 3) (v := .int ((fd_rI σ j1 11) + 1)) (ty := .int) (C := fn_R_Rs) (T := fn_T_Rs) (N := 13) hx hb hts fn_j_Rs fn_t_Rs fn_k_Rs fn_n_Rs hown hK hP hD hS (5 + j1) (fd_w_res hj1) rfl 11 (by decide) (va_Nw.use rfl (hN _ fq_51)) (fun _ h9 => h9) rfl (by decide +kernel) rfl rfl (Nat.le_of_ble_eq_true rfl) fx_Dk_countRequested_17 (fun H locs hP hD hS => ?_)
  rw [fd_set_Rs_11 hj1] at hP hD
  have hI2 : fd_Inv (fd_srI (fd_sdI σ 6 ((fd_dI σ 6) + 1)) j1 11 ((fd_rI σ j1 11) + 1)) := fd_inv_srI (by decide) hI1
  refine lv_aload_n hx hb fx_Dk_countRequested_20 rfl (lv_at hl 0 rfl) ?_
  refine va_get (D := D) (ci := 4) (v := .ref (ad 2)) (C := fn_R_Dk) (T := fn_T_Dk) (N := 9) hx hb hts fn_j_Dk hown hK hP 0 rfl rfl 2 (by decide) (hts _ (List.mem_cons_of_mem _ fq_206)) (fun _ h9 => h9) rfl fx_Dk_countRequested_21 ?_
  refine va_getN (D := D) (ci := 2) (v := .int (fd_bi (fd_qB σ 9))) (C := fn_R_Rq) (T := fn_T_Rq) (N := 15) hx hb hts fn_j_Rq hown hK hP 2 rfl rfl 9 (by decide) (va_Nw.use rfl (hN _ fq_162)) (fun _ h9 => h9) rfl fx_Dk_countRequested_24 ?_
  refine fd_ifeq (tgt := 40) hx hb fx_Dk_countRequested_27 (by decide) (fun c3 => ?_) (fun c3 => ?_)
  · exact fd_vret (u := fd_srI (fd_sdI σ 6 ((fd_dI σ 6) + 1)) j1 11 ((fd_rI σ j1 11) + 1)) hQ hx hb hr ⟨by rw [fv_Dk_countRequested, if_neg c3], hI2⟩ hP hD hS fx_Dk_countRequested_40 hlocks
  · refine lv_aload_n hx hb fx_Dk_countRequested_30 rfl (lv_at hl 1 rfl) ?_
    refine lv_dup hx hb fx_Dk_countRequested_31 rfl ?_
    refine va_getN (D := D) (ci := 3) (v := .int (fd_rI (fd_srI (fd_sdI σ 6 ((fd_dI σ 6) + 1)) j1 11 ((fd_rI σ j1 11) + 1)) j1 12)) (C := fn_R_Rs) (T := fn_T_Rs) (N := 13) hx hb hts fn_j_Rs hown hK hP (5 + j1) (fd_w_res hj1) rfl 12 (by decide) (va_Nw.use rfl (hN _ fq_52)) (fun _ h9 => h9) rfl fx_Dk_countRequested_32 ?_
    refine lv_iconst (v := 1) hx hb fx_Dk_countRequested_35 (by decide) ?_
    refine lv_iadd hx hb fx_Dk_countRequested_36 ?_
    refine va_putN (D := D) (ci := 3) (v := .int ((fd_rI (fd_srI (fd_sdI σ 6 ((fd_dI σ 6) + 1)) j1 11 ((fd_rI σ j1 11) + 1)) j1 12) + 1)) (ty := .int) (C := fn_R_Rs) (T := fn_T_Rs) (N := 13) hx hb hts fn_j_Rs fn_t_Rs fn_k_Rs fn_n_Rs hown hK hP hD hS (5 + j1) (fd_w_res hj1) rfl 12 (by decide) (va_Nw.use rfl (hN _ fq_52)) (fun _ h9 => h9) rfl (by decide +kernel) rfl rfl (Nat.le_of_ble_eq_true rfl) fx_Dk_countRequested_37 (fun H locs hP hD hS => ?_)
    rw [fd_set_Rs_12 hj1] at hP hD
    have hI4 : fd_Inv (fd_srI (fd_srI (fd_sdI σ 6 ((fd_dI σ 6) + 1)) j1 11 ((fd_rI σ j1 11) + 1)) j1 12 ((fd_rI (fd_srI (fd_sdI σ 6 ((fd_dI σ 6) + 1)) j1 11 ((fd_rI σ j1 11) + 1)) j1 12) + 1)) := fd_inv_srI (by decide) hI2
    exact fd_vret (u := fd_srI (fd_srI (fd_sdI σ 6 ((fd_dI σ 6) + 1)) j1 11 ((fd_rI σ j1 11) + 1)) j1 12 ((fd_rI (fd_srI (fd_sdI σ 6 ((fd_dI σ 6) + 1)) j1 11 ((fd_rI σ j1 11) + 1)) j1 12) + 1)) hQ hx hb hr ⟨by rw [fv_Dk_countRequested, if_pos c3], hI4⟩ hP hD hS fx_Dk_countRequested_40 hlocks
