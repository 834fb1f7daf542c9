/-! a round of the law, by the method that it calls -/
set_option maxHeartbeats 4000000 in
theorem fL_case0 {p : Program} {l : Launch} {e : Env} {s : State} {m : MethodId} {below : List Frame} {meth : Method} {c : Code} {b L : Nat} {xs : Nat → Int32} {D : va_G} {cR cP cO cE : ClassId} {ad : Nat → Nat} {oa ob : Nat} {ca : Nat → ClassId} {am : Nat → Nat} {A : Nat → Prop} {j : Nat} (hst : l.stackTraces = false) (hx : p.tables.exec = Jvm.exec) (hb : c.code = code) (hml : c.maxLocals = 9) (hown : s.vm.findClass "FetchDeskLaw" = some m.cls) (hts : ∀ w ∈ lw_tbl, w.before #[Value.ref b] s = true) (hXs : va_X b L xs s s.heap) (hbl : b < s.heap.size) (hbA : ¬ A b) (hA : ∀ q : Nat, s.heap.size ≤ q → A q) (hK : va_K D fn_cl (fL_tys cR cP cO cE ca) s) (hN : fd_N s) (hX : fd_X s) (hXn : fd_Xn s) (hZ : fd_Zs A s s.heap) (hj : j ≤ 4096) {H : Heap} {locs : List Loc} {ls : Array Slot} {σ : FDS} {x : Int64} {y : UInt64} {μ : FMS} (hin : ∀ k : Int32, 0 ≤ k ∧ k < 8 → vp_in (nI (8 * j) + k) L) (hI : fd_Inv σ) (hJ : fm_Inv μ) (hR : fs_Rel σ μ) (hP : va_P D fn_cl (fL_w cR cP cO cE ad oa ob ca am σ x y μ) H) (hD : va_D A (fL_w cR cP cO cE ad oa ob ca am σ x y μ)) (hS : va_S A s.heap H locs) (hl : lv_has ls 9 [(0, .ref b), (1, .ref (ad 0)), (2, .ref (am 0)), (3, .ref oa), (4, .ref ob), (5, .int (nI (8 * j)))]) (hNext : ∀ (σ : FDS) (x : Int64) (y : UInt64) (μ : FMS) (H : Heap) (locs : List Loc), fd_Inv σ → fm_Inv μ → fs_Rel σ μ → va_P D fn_cl (fL_w cR cP cO cE ad oa ob ca am σ x y μ) H → va_D A (fL_w cR cP cO cE ad oa ob ca am σ x y μ) → va_S A s.heap H locs → ∀ ls : Array Slot, lv_has ls 9 [(0, .ref b), (1, .ref (ad 0)), (2, .ref (am 0)), (3, .ref oa), (4, .ref ob), (5, .int (nI (8 * j)))] → W p l e room_1 s m #[Value.ref b] below meth c H locs (82 + j + 1) (1451 + 6 * j + 6) (lw_Z below #[Value.ref b] s) (F0 m 914 ls [])) : W p l e room_1 s m #[Value.ref b] below meth c H locs (82 + j) (1451 + 6 * j) (lw_Z below #[Value.ref b] s) (F0 m 100 ls []) := by
  refine lv_aload_n hx hb fx_Lw_law_100 rfl (lv_at hl 1 rfl) ?_
  refine lv_aload_n hx hb fx_Lw_law_101 rfl (lv_at hl 0 rfl) ?_
  refine lv_iload hx hb fx_Lw_law_102 (lv_at hl 5 rfl) ?_
  refine lv_iconst (v := 1) hx hb fx_Lw_law_104 (by decide) ?_
  refine lv_iadd hx hb fx_Lw_law_105 ?_
  refine va_sld hx hb hXs hbl hbA hS (hin 1 (by decide)) fx_Lw_law_106 ?_
  refine lv_aload_n hx hb fx_Lw_law_107 rfl (lv_at hl 0 rfl) ?_
  refine lv_iload hx hb fx_Lw_law_108 (lv_at hl 5 rfl) ?_
  refine lv_iconst (v := 2) hx hb fx_Lw_law_110 (by decide) ?_
  refine lv_iadd hx hb fx_Lw_law_111 ?_
  refine va_sld hx hb hXs hbl hbA hS (hin 2 (by decide)) fx_Lw_law_112 ?_
  refine lv_aload_n hx hb fx_Lw_law_113 rfl (lv_at hl 0 rfl) ?_
  refine lv_iload hx hb fx_Lw_law_114 (lv_at hl 5 rfl) ?_
  refine lv_iconst (v := 3) hx hb fx_Lw_law_116 (by decide) ?_
  refine lv_iadd hx hb fx_Lw_law_117 ?_
  refine va_sld hx hb hXs hbl hbA hS (hin 3 (by decide)) fx_Lw_law_118 ?_
  refine lv_aload_n hx hb fx_Lw_law_119 rfl (lv_at hl 0 rfl) ?_
  refine lv_iload hx hb fx_Lw_law_120 (lv_at hl 5 rfl) ?_
  refine lv_iconst (v := 4) hx hb fx_Lw_law_122 (by decide) ?_
  refine lv_iadd hx hb fx_Lw_law_123 ?_
  refine va_sld hx hb hXs hbl hbA hS (hin 4 (by decide)) fx_Lw_law_124 ?_
  refine fL_callV (vx_runSW (As := [.ref (ad 0), .int (xs (nI (8 * j) + 1).toNatClampNeg), .int (xs (nI (8 * j) + 2).toNatClampNeg), .int (xs (nI (8 * j) + 3).toNatClampNeg), .int (xs (nI (8 * j) + 4).toNatClampNeg)]) (rest := []) ⟨hx, hb, hml, hown, hts⟩ (fl_serve l hst D cR cP ad H.size σ (xs (nI (8 * j) + 1).toNatClampNeg) (xs (nI (8 * j) + 2).toNatClampNeg) (xs (nI (8 * j) + 3).toNatClampNeg) (xs (nI (8 * j) + 4).toNatClampNeg) hI) (vx_cwSW 5 hts (fl_goodS fq_232 fq_233 fq_0 fm_Lw_serve) rfl rfl rfl (by decide +kernel) ⟨Nat.le_of_ble_eq_true rfl, Nat.le_of_ble_eq_true rfl⟩) (fL_preV hP hK hD hS hA hN hX hXn hZ) rfl rfl hl.1 rfl (lv_room (Nat.le_of_ble_eq_true rfl)) fx_Lw_law_125 (by show 82 + j + 1 ≤ 604314 ∧ 1451 + 6 * j + 6 ≤ 7283163; omega)) hP hD hS hA (fun r2 u1 H locs h3 hP hD hS => ?_)
  obtain ⟨rfl, rfl, hI1⟩ := h3
  refine lv_istore (lv' := [(6, .int (fl_km_serve (fv_Dk_serve σ (xs (nI (8 * j) + 1).toNatClampNeg) (xs (nI (8 * j) + 2).toNatClampNeg) (xs (nI (8 * j) + 3).toNatClampNeg) (xs (nI (8 * j) + 4).toNatClampNeg)).1)), (0, .ref b), (1, .ref (ad 0)), (2, .ref (am 0)), (3, .ref oa), (4, .ref ob), (5, .int (nI (8 * j)))]) hx hb fx_Lw_law_128 hl (by decide) rfl (fun ls hl => ?_)
  refine lv_aload_n hx hb fx_Lw_law_130 rfl (lv_at hl 3 rfl) ?_
  refine lv_aload_n hx hb fx_Lw_law_131 rfl (lv_at hl 1 rfl) ?_
  refine lv_iload hx hb fx_Lw_law_132 (lv_at hl 6 rfl) ?_
  refine lv_iconst (v := 1) hx hb fx_Lw_law_134 (by decide) ?_
  refine lv_iadd hx hb fx_Lw_law_135 ?_
  refine va_sld hx hb hXs hbl hbA hS (hin 1 (by decide)) fx_Lw_law_136 ?_
  refine lv_aload_n hx hb fx_Lw_law_137 rfl (lv_at hl 1 rfl) ?_
  refine lv_iload hx hb fx_Lw_law_138 (lv_at hl 6 rfl) ?_
  refine lv_iconst (v := 2) hx hb fx_Lw_law_140 (by decide) ?_
  refine lv_iadd hx hb fx_Lw_law_141 ?_
  refine va_sld hx hb hXs hbl hbA hS (hin 2 (by decide)) fx_Lw_law_142 ?_
  refine lv_aload_n hx hb fx_Lw_law_143 rfl (lv_at hl 1 rfl) ?_
  refine lv_iload hx hb fx_Lw_law_144 (lv_at hl 6 rfl) ?_
  refine lv_iconst (v := 3) hx hb fx_Lw_law_146 (by decide) ?_
  refine lv_iadd hx hb fx_Lw_law_147 ?_
  refine va_sld hx hb hXs hbl hbA hS (hin 3 (by decide)) fx_Lw_law_148 ?_
  refine lv_aload_n hx hb fx_Lw_law_149 rfl (lv_at hl 1 rfl) ?_
  refine lv_iload hx hb fx_Lw_law_150 (lv_at hl 6 rfl) ?_
  refine lv_iconst (v := 4) hx hb fx_Lw_law_152 (by decide) ?_
  refine lv_iadd hx hb fx_Lw_law_153 ?_
  refine va_sld hx hb hXs hbl hbA hS (hin 4 (by decide)) fx_Lw_law_154 ?_
  refine fL_callMv (va_runV (As := [.int (xs (nI (8 * j) + 1).toNatClampNeg), .int (xs (nI (8 * j) + 2).toNatClampNeg), .int (xs (nI (8 * j) + 3).toNatClampNeg), .int (xs (nI (8 * j) + 4).toNatClampNeg)]) (rest := []) ⟨hx, hb, hml, hown, hts⟩ (fc_Md_serve l D ca am H.size μ (xs (nI (8 * j) + 1).toNatClampNeg) (xs (nI (8 * j) + 2).toNatClampNeg) (xs (nI (8 * j) + 3).toNatClampNeg) (xs (nI (8 * j) + 4).toNatClampNeg) hJ) ⟨callB_of 4 hts (fb_goodL fm_Md_serve) rfl rfl rfl (hts _ (fb_in fq_6)) (hts _ (fb_in fq_634)) (by decide +kernel) ⟨Nat.le_of_ble_eq_true rfl, Nat.le_of_ble_eq_true rfl⟩, (hts _ (fb_in fq_635)), (hts _ (fb_in fq_636))⟩ (fL_preM hP hK hD hN) rfl rfl hl.1 rfl (lv_room (Nat.le_of_ble_eq_true rfl)) fx_Lw_law_155 (by show 82 + j + 1 + 0 ≤ 604314 ∧ 1451 + 6 * j + 6 + 0 ≤ 7283163; omega)) hP hD hS hA (fun u4 H locs h6 hP hD hS => ?_)
  refine W.widen (k := 82 + j + 1) (n := 1451 + 6 * j + 6) (Nat.le_refl _) (Nat.le_refl _) ?_
  obtain ⟨rfl, hJ1⟩ := h6
  have hsim := fs_serve (xs (nI (8 * j) + 1).toNatClampNeg) (xs (nI (8 * j) + 2).toNatClampNeg) (xs (nI (8 * j) + 3).toNatClampNeg) (xs (nI (8 * j) + 4).toNatClampNeg) hI hJ hR
  refine lv_aload_n hx hb fx_Lw_law_158 rfl (lv_at hl 3 rfl) ?_
  refine fL_callMi (va_runV (As := []) (rest := []) ⟨hx, hb, hml, hown, hts⟩ (fc_Md_thrown l D ca am H.size (fv_Md_serve μ (xs (nI (8 * j) + 1).toNatClampNeg) (xs (nI (8 * j) + 2).toNatClampNeg) (xs (nI (8 * j) + 3).toNatClampNeg) (xs (nI (8 * j) + 4).toNatClampNeg))  hJ1) ⟨callB_of 0 hts (fb_goodL fm_Md_thrown) rfl rfl rfl (hts _ (fb_in fq_6)) (hts _ (fb_in fq_630)) (by decide +kernel) ⟨Nat.le_of_ble_eq_true rfl, Nat.le_of_ble_eq_true rfl⟩, (hts _ (fb_in fq_631)), (hts _ (fb_in fq_632))⟩ (fL_preM hP hK hD hN) rfl rfl hl.1 rfl (lv_room (Nat.le_of_ble_eq_true rfl)) fx_Lw_law_159 (by show 82 + j + 1 + 0 ≤ 604314 ∧ 1451 + 6 * j + 6 + 0 ≤ 7283163; omega)) hP hD hS hA (fun r8 u7 H locs h9 hP hD hS => ?_)
  refine W.widen (k := 82 + j + 1) (n := 1451 + 6 * j + 6) (Nat.le_refl _) (Nat.le_refl _) ?_
  obtain ⟨rfl, rfl⟩ := h9
  refine lv_iload hx hb fx_Lw_law_162 (lv_at hl 0 rfl) ?_
  refine lv_icmp_eq (tgt := 169) hx hb fx_Lw_law_164 (by decide) (fun _ => ?_) (fun c10 => absurd hsim.1 c10)
  refine lv_goto (tgt := 914) hx hb fx_Lw_law_169 (by decide) ?_
  exact hNext ((fv_Dk_serve σ (xs (nI (8 * j) + 1).toNatClampNeg) (xs (nI (8 * j) + 2).toNatClampNeg) (xs (nI (8 * j) + 3).toNatClampNeg) (xs (nI (8 * j) + 4).toNatClampNeg)).2) x y (fv_Md_serve μ (xs (nI (8 * j) + 1).toNatClampNeg) (xs (nI (8 * j) + 2).toNatClampNeg) (xs (nI (8 * j) + 3).toNatClampNeg) (xs (nI (8 * j) + 4).toNatClampNeg)) H locs hI1 hJ1 hsim.2 hP hD hS ls (lv_sub hl [1, 2, 3, 4, 5, 6] rfl)
set_option maxHeartbeats 4000000 in
theorem fL_case1 {p : Program} {l : Launch} {e : Env} {s : State} {m : MethodId} {below : List Frame} {meth : Method} {c : Code} {b L : Nat} {xs : Nat → Int32} {D : va_G} {cR cP cO cE : ClassId} {ad : Nat → Nat} {oa ob : Nat} {ca : Nat → ClassId} {am : Nat → Nat} {A : Nat → Prop} {j : Nat} (hst : l.stackTraces = false) (hx : p.tables.exec = Jvm.exec) (hb : c.code = code) (hml : c.maxLocals = 9) (hown : s.vm.findClass "FetchDeskLaw" = some m.cls) (hts : ∀ w ∈ lw_tbl, w.before #[Value.ref b] s = true) (hXs : va_X b L xs s s.heap) (hbl : b < s.heap.size) (hbA : ¬ A b) (hA : ∀ q : Nat, s.heap.size ≤ q → A q) (hK : va_K D fn_cl (fL_tys cR cP cO cE ca) s) (hN : fd_N s) (hX : fd_X s) (hXn : fd_Xn s) (hZ : fd_Zs A s s.heap) (hj : j ≤ 4096) {H : Heap} {locs : List Loc} {ls : Array Slot} {σ : FDS} {x : Int64} {y : UInt64} {μ : FMS} (hin : ∀ k : Int32, 0 ≤ k ∧ k < 8 → vp_in (nI (8 * j) + k) L) (hI : fd_Inv σ) (hJ : fm_Inv μ) (hR : fs_Rel σ μ) (hP : va_P D fn_cl (fL_w cR cP cO cE ad oa ob ca am σ x y μ) H) (hD : va_D A (fL_w cR cP cO cE ad oa ob ca am σ x y μ)) (hS : va_S A s.heap H locs) (hl : lv_has ls 9 [(0, .ref b), (1, .ref (ad 0)), (2, .ref (am 0)), (3, .ref oa), (4, .ref ob), (5, .int (nI (8 * j)))]) (hNext : ∀ (σ : FDS) (x : Int64) (y : UInt64) (μ : FMS) (H : Heap) (locs : List Loc), fd_Inv σ → fm_Inv μ → fs_Rel σ μ → va_P D fn_cl (fL_w cR cP cO cE ad oa ob ca am σ x y μ) H → va_D A (fL_w cR cP cO cE ad oa ob ca am σ x y μ) → va_S A s.heap H locs → ∀ ls : Array Slot, lv_has ls 9 [(0, .ref b), (1, .ref (ad 0)), (2, .ref (am 0)), (3, .ref oa), (4, .ref ob), (5, .int (nI (8 * j)))] → W p l e room_1 s m #[Value.ref b] below meth c H locs (82 + j + 1) (1451 + 6 * j + 6) (lw_Z below #[Value.ref b] s) (F0 m 914 ls [])) : W p l e room_1 s m #[Value.ref b] below meth c H locs (82 + j) (1451 + 6 * j) (lw_Z below #[Value.ref b] s) (F0 m 172 ls []) := by
  refine lv_aload_n hx hb fx_Lw_law_172 rfl (lv_at hl 1 rfl) ?_
  refine lv_aload_n hx hb fx_Lw_law_173 rfl (lv_at hl 0 rfl) ?_
  refine lv_iload hx hb fx_Lw_law_174 (lv_at hl 5 rfl) ?_
  refine lv_iconst (v := 1) hx hb fx_Lw_law_176 (by decide) ?_
  refine lv_iadd hx hb fx_Lw_law_177 ?_
  refine va_sld hx hb hXs hbl hbA hS (hin 1 (by decide)) fx_Lw_law_178 ?_
  refine lv_aload_n hx hb fx_Lw_law_179 rfl (lv_at hl 0 rfl) ?_
  refine lv_iload hx hb fx_Lw_law_180 (lv_at hl 5 rfl) ?_
  refine lv_iconst (v := 2) hx hb fx_Lw_law_182 (by decide) ?_
  refine lv_iadd hx hb fx_Lw_law_183 ?_
  refine va_sld hx hb hXs hbl hbA hS (hin 2 (by decide)) fx_Lw_law_184 ?_
  refine lv_aload_n hx hb fx_Lw_law_185 rfl (lv_at hl 0 rfl) ?_
  refine lv_iload hx hb fx_Lw_law_186 (lv_at hl 5 rfl) ?_
  refine lv_iconst (v := 3) hx hb fx_Lw_law_188 (by decide) ?_
  refine lv_iadd hx hb fx_Lw_law_189 ?_
  refine va_sld hx hb hXs hbl hbA hS (hin 3 (by decide)) fx_Lw_law_190 ?_
  refine fL_callV (vx_runSW (As := [.ref (ad 0), .int (xs (nI (8 * j) + 1).toNatClampNeg), .int (xs (nI (8 * j) + 2).toNatClampNeg), .int (xs (nI (8 * j) + 3).toNatClampNeg)]) (rest := []) ⟨hx, hb, hml, hown, hts⟩ (fl_headers l hst D cR cP ad H.size σ (xs (nI (8 * j) + 1).toNatClampNeg) (xs (nI (8 * j) + 2).toNatClampNeg) (xs (nI (8 * j) + 3).toNatClampNeg) hI) (vx_cwSW 4 hts (fl_goodS fq_306 fq_307 fq_0 fm_Lw_headers) rfl rfl rfl (by decide +kernel) ⟨Nat.le_of_ble_eq_true rfl, Nat.le_of_ble_eq_true rfl⟩) (fL_preV hP hK hD hS hA hN hX hXn hZ) rfl rfl hl.1 rfl (lv_room (Nat.le_of_ble_eq_true rfl)) fx_Lw_law_191 (by show 82 + j + 1 ≤ 604314 ∧ 1451 + 6 * j + 6 ≤ 7283163; omega)) hP hD hS hA (fun r12 u11 H locs h13 hP hD hS => ?_)
  obtain ⟨rfl, rfl, hI1⟩ := h13
  refine lv_istore (lv' := [(6, .int (fl_km_headers (fv_Dk_headers σ (xs (nI (8 * j) + 1).toNatClampNeg) (xs (nI (8 * j) + 2).toNatClampNeg) (xs (nI (8 * j) + 3).toNatClampNeg)).1)), (0, .ref b), (1, .ref (ad 0)), (2, .ref (am 0)), (3, .ref oa), (4, .ref ob), (5, .int (nI (8 * j)))]) hx hb fx_Lw_law_194 hl (by decide) rfl (fun ls hl => ?_)
  refine lv_aload_n hx hb fx_Lw_law_196 rfl (lv_at hl 3 rfl) ?_
  refine lv_aload_n hx hb fx_Lw_law_197 rfl (lv_at hl 1 rfl) ?_
  refine lv_iload hx hb fx_Lw_law_198 (lv_at hl 6 rfl) ?_
  refine lv_iconst (v := 1) hx hb fx_Lw_law_200 (by decide) ?_
  refine lv_iadd hx hb fx_Lw_law_201 ?_
  refine va_sld hx hb hXs hbl hbA hS (hin 1 (by decide)) fx_Lw_law_202 ?_
  refine lv_aload_n hx hb fx_Lw_law_203 rfl (lv_at hl 1 rfl) ?_
  refine lv_iload hx hb fx_Lw_law_204 (lv_at hl 6 rfl) ?_
  refine lv_iconst (v := 2) hx hb fx_Lw_law_206 (by decide) ?_
  refine lv_iadd hx hb fx_Lw_law_207 ?_
  refine va_sld hx hb hXs hbl hbA hS (hin 2 (by decide)) fx_Lw_law_208 ?_
  refine lv_aload_n hx hb fx_Lw_law_209 rfl (lv_at hl 1 rfl) ?_
  refine lv_iload hx hb fx_Lw_law_210 (lv_at hl 6 rfl) ?_
  refine lv_iconst (v := 3) hx hb fx_Lw_law_212 (by decide) ?_
  refine lv_iadd hx hb fx_Lw_law_213 ?_
  refine va_sld hx hb hXs hbl hbA hS (hin 3 (by decide)) fx_Lw_law_214 ?_
  refine fL_callMv (va_runV (As := [.int (xs (nI (8 * j) + 1).toNatClampNeg), .int (xs (nI (8 * j) + 2).toNatClampNeg), .int (xs (nI (8 * j) + 3).toNatClampNeg)]) (rest := []) ⟨hx, hb, hml, hown, hts⟩ (fc_Md_headers l D ca am H.size μ (xs (nI (8 * j) + 1).toNatClampNeg) (xs (nI (8 * j) + 2).toNatClampNeg) (xs (nI (8 * j) + 3).toNatClampNeg) hJ) ⟨callB_of 3 hts (fb_goodL fm_Md_headers) rfl rfl rfl (hts _ (fb_in fq_6)) (hts _ (fb_in fq_644)) (by decide +kernel) ⟨Nat.le_of_ble_eq_true rfl, Nat.le_of_ble_eq_true rfl⟩, (hts _ (fb_in fq_645)), (hts _ (fb_in fq_646))⟩ (fL_preM hP hK hD hN) rfl rfl hl.1 rfl (lv_room (Nat.le_of_ble_eq_true rfl)) fx_Lw_law_215 (by show 82 + j + 1 + 0 ≤ 604314 ∧ 1451 + 6 * j + 6 + 0 ≤ 7283163; omega)) hP hD hS hA (fun u14 H locs h16 hP hD hS => ?_)
  refine W.widen (k := 82 + j + 1) (n := 1451 + 6 * j + 6) (Nat.le_refl _) (Nat.le_refl _) ?_
  obtain ⟨rfl, hJ1⟩ := h16
  have hsim := fs_headers (xs (nI (8 * j) + 1).toNatClampNeg) (xs (nI (8 * j) + 2).toNatClampNeg) (xs (nI (8 * j) + 3).toNatClampNeg) hI hJ hR
  refine lv_aload_n hx hb fx_Lw_law_218 rfl (lv_at hl 3 rfl) ?_
  refine fL_callMi (va_runV (As := []) (rest := []) ⟨hx, hb, hml, hown, hts⟩ (fc_Md_thrown l D ca am H.size (fv_Md_headers μ (xs (nI (8 * j) + 1).toNatClampNeg) (xs (nI (8 * j) + 2).toNatClampNeg) (xs (nI (8 * j) + 3).toNatClampNeg))  hJ1) ⟨callB_of 0 hts (fb_goodL fm_Md_thrown) rfl rfl rfl (hts _ (fb_in fq_6)) (hts _ (fb_in fq_630)) (by decide +kernel) ⟨Nat.le_of_ble_eq_true rfl, Nat.le_of_ble_eq_true rfl⟩, (hts _ (fb_in fq_631)), (hts _ (fb_in fq_632))⟩ (fL_preM hP hK hD hN) rfl rfl hl.1 rfl (lv_room (Nat.le_of_ble_eq_true rfl)) fx_Lw_law_219 (by show 82 + j + 1 + 0 ≤ 604314 ∧ 1451 + 6 * j + 6 + 0 ≤ 7283163; omega)) hP hD hS hA (fun r18 u17 H locs h19 hP hD hS => ?_)
  refine W.widen (k := 82 + j + 1) (n := 1451 + 6 * j + 6) (Nat.le_refl _) (Nat.le_refl _) ?_
  obtain ⟨rfl, rfl⟩ := h19
  refine lv_iload hx hb fx_Lw_law_222 (lv_at hl 0 rfl) ?_
  refine lv_icmp_eq (tgt := 229) hx hb fx_Lw_law_224 (by decide) (fun _ => ?_) (fun c20 => absurd hsim.1 c20)
  refine lv_goto (tgt := 914) hx hb fx_Lw_law_229 (by decide) ?_
  exact hNext ((fv_Dk_headers σ (xs (nI (8 * j) + 1).toNatClampNeg) (xs (nI (8 * j) + 2).toNatClampNeg) (xs (nI (8 * j) + 3).toNatClampNeg)).2) x y (fv_Md_headers μ (xs (nI (8 * j) + 1).toNatClampNeg) (xs (nI (8 * j) + 2).toNatClampNeg) (xs (nI (8 * j) + 3).toNatClampNeg)) H locs hI1 hJ1 hsim.2 hP hD hS ls (lv_sub hl [1, 2, 3, 4, 5, 6] rfl)
set_option maxHeartbeats 4000000 in
theorem fL_case2 {p : Program} {l : Launch} {e : Env} {s : State} {m : MethodId} {below : List Frame} {meth : Method} {c : Code} {b L : Nat} {xs : Nat → Int32} {D : va_G} {cR cP cO cE : ClassId} {ad : Nat → Nat} {oa ob : Nat} {ca : Nat → ClassId} {am : Nat → Nat} {A : Nat → Prop} {j : Nat} (hst : l.stackTraces = false) (hx : p.tables.exec = Jvm.exec) (hb : c.code = code) (hml : c.maxLocals = 9) (hown : s.vm.findClass "FetchDeskLaw" = some m.cls) (hts : ∀ w ∈ lw_tbl, w.before #[Value.ref b] s = true) (hXs : va_X b L xs s s.heap) (hbl : b < s.heap.size) (hbA : ¬ A b) (hA : ∀ q : Nat, s.heap.size ≤ q → A q) (hK : va_K D fn_cl (fL_tys cR cP cO cE ca) s) (hN : fd_N s) (hX : fd_X s) (hXn : fd_Xn s) (hZ : fd_Zs A s s.heap) (hj : j ≤ 4096) {H : Heap} {locs : List Loc} {ls : Array Slot} {σ : FDS} {x : Int64} {y : UInt64} {μ : FMS} (hin : ∀ k : Int32, 0 ≤ k ∧ k < 8 → vp_in (nI (8 * j) + k) L) (hI : fd_Inv σ) (hJ : fm_Inv μ) (hR : fs_Rel σ μ) (hP : va_P D fn_cl (fL_w cR cP cO cE ad oa ob ca am σ x y μ) H) (hD : va_D A (fL_w cR cP cO cE ad oa ob ca am σ x y μ)) (hS : va_S A s.heap H locs) (hl : lv_has ls 9 [(0, .ref b), (1, .ref (ad 0)), (2, .ref (am 0)), (3, .ref oa), (4, .ref ob), (5, .int (nI (8 * j)))]) (hNext : ∀ (σ : FDS) (x : Int64) (y : UInt64) (μ : FMS) (H : Heap) (locs : List Loc), fd_Inv σ → fm_Inv μ → fs_Rel σ μ → va_P D fn_cl (fL_w cR cP cO cE ad oa ob ca am σ x y μ) H → va_D A (fL_w cR cP cO cE ad oa ob ca am σ x y μ) → va_S A s.heap H locs → ∀ ls : Array Slot, lv_has ls 9 [(0, .ref b), (1, .ref (ad 0)), (2, .ref (am 0)), (3, .ref oa), (4, .ref ob), (5, .int (nI (8 * j)))] → W p l e room_1 s m #[Value.ref b] below meth c H locs (82 + j + 1) (1451 + 6 * j + 6) (lw_Z below #[Value.ref b] s) (F0 m 914 ls [])) : W p l e room_1 s m #[Value.ref b] below meth c H locs (82 + j) (1451 + 6 * j) (lw_Z below #[Value.ref b] s) (F0 m 232 ls []) := by
  refine lv_aload_n hx hb fx_Lw_law_232 rfl (lv_at hl 1 rfl) ?_
  refine lv_aload_n hx hb fx_Lw_law_233 rfl (lv_at hl 0 rfl) ?_
  refine lv_iload hx hb fx_Lw_law_234 (lv_at hl 5 rfl) ?_
  refine lv_iconst (v := 1) hx hb fx_Lw_law_236 (by decide) ?_
  refine lv_iadd hx hb fx_Lw_law_237 ?_
  refine va_sld hx hb hXs hbl hbA hS (hin 1 (by decide)) fx_Lw_law_238 ?_
  refine lv_aload_n hx hb fx_Lw_law_239 rfl (lv_at hl 0 rfl) ?_
  refine lv_iload hx hb fx_Lw_law_240 (lv_at hl 5 rfl) ?_
  refine lv_iconst (v := 2) hx hb fx_Lw_law_242 (by decide) ?_
  refine lv_iadd hx hb fx_Lw_law_243 ?_
  refine va_sld hx hb hXs hbl hbA hS (hin 2 (by decide)) fx_Lw_law_244 ?_
  refine lv_aload_n hx hb fx_Lw_law_245 rfl (lv_at hl 0 rfl) ?_
  refine lv_iload hx hb fx_Lw_law_246 (lv_at hl 5 rfl) ?_
  refine lv_iconst (v := 3) hx hb fx_Lw_law_248 (by decide) ?_
  refine lv_iadd hx hb fx_Lw_law_249 ?_
  refine va_sld hx hb hXs hbl hbA hS (hin 3 (by decide)) fx_Lw_law_250 ?_
  refine lv_if_eq (tgt := 258) hx hb fx_Lw_law_251 (by decide) (fun c21 => ?_) (fun c21 => ?_)
  · refine lv_iconst (v := 0) hx hb fx_Lw_law_258 (by decide) ?_
    refine lv_aload_n hx hb fx_Lw_law_259 rfl (lv_at hl 3 rfl) ?_
    refine fL_callL (vx_runSW (As := [.ref (ad 0), .int (xs (nI (8 * j) + 1).toNatClampNeg), .int (xs (nI (8 * j) + 2).toNatClampNeg), .int (fd_bi false), .ref oa]) (rest := []) ⟨hx, hb, hml, hown, hts⟩ (fl_allow l hst D cR cP ad H.size σ (xs (nI (8 * j) + 1).toNatClampNeg) (xs (nI (8 * j) + 2).toNatClampNeg) false cO oa x hI) (vx_cwSW 5 hts (fl_goodS fq_316 fq_317 fq_0 fm_Lw_allow) rfl rfl rfl (by decide +kernel) ⟨Nat.le_of_ble_eq_true rfl, Nat.le_of_ble_eq_true rfl⟩) (fL_preL hP hK hD hS hA hN hX hXn hZ) rfl rfl hl.1 rfl (lv_room (Nat.le_of_ble_eq_true rfl)) fx_Lw_law_260 (by show 82 + j + 1 ≤ 604314 ∧ 1451 + 6 * j + 6 ≤ 7283163; omega)) hP hD hS hA (fun r23 u22 H locs h24 hP hD hS => ?_)
    obtain ⟨u1, u2⟩ := u22
    dsimp only at h24 hP hD
    obtain ⟨rfl, rfl, rfl, hI1⟩ := h24
    refine lv_istore (lv' := [(6, .int (fl_km_allow (fv_Dk_allow σ (xs (nI (8 * j) + 1).toNatClampNeg) (xs (nI (8 * j) + 2).toNatClampNeg) false).1)), (0, .ref b), (1, .ref (ad 0)), (2, .ref (am 0)), (3, .ref oa), (4, .ref ob), (5, .int (nI (8 * j)))]) hx hb fx_Lw_law_263 hl (by decide) rfl (fun ls hl => ?_)
    refine lv_aload_n hx hb fx_Lw_law_265 rfl (lv_at hl 3 rfl) ?_
    refine lv_aload_n hx hb fx_Lw_law_266 rfl (lv_at hl 1 rfl) ?_
    refine lv_iload hx hb fx_Lw_law_267 (lv_at hl 6 rfl) ?_
    refine lv_iconst (v := 1) hx hb fx_Lw_law_269 (by decide) ?_
    refine lv_iadd hx hb fx_Lw_law_270 ?_
    refine va_sld hx hb hXs hbl hbA hS (hin 1 (by decide)) fx_Lw_law_271 ?_
    refine lv_aload_n hx hb fx_Lw_law_272 rfl (lv_at hl 1 rfl) ?_
    refine lv_iload hx hb fx_Lw_law_273 (lv_at hl 6 rfl) ?_
    refine lv_iconst (v := 2) hx hb fx_Lw_law_275 (by decide) ?_
    refine lv_iadd hx hb fx_Lw_law_276 ?_
    refine va_sld hx hb hXs hbl hbA hS (hin 2 (by decide)) fx_Lw_law_277 ?_
    refine lv_aload_n hx hb fx_Lw_law_278 rfl (lv_at hl 1 rfl) ?_
    refine lv_iload hx hb fx_Lw_law_279 (lv_at hl 6 rfl) ?_
    refine lv_iconst (v := 3) hx hb fx_Lw_law_281 (by decide) ?_
    refine lv_iadd hx hb fx_Lw_law_282 ?_
    refine va_sld hx hb hXs hbl hbA hS (hin 3 (by decide)) fx_Lw_law_283 ?_
    refine lv_if_eq (tgt := 291) hx hb fx_Lw_law_284 (by decide) (fun _ => ?_) (fun c25 => absurd c21 c25)
    refine lv_iconst (v := 0) hx hb fx_Lw_law_291 (by decide) ?_
    refine fL_callMi (va_runV (As := [.int (xs (nI (8 * j) + 1).toNatClampNeg), .int (xs (nI (8 * j) + 2).toNatClampNeg), .int (fd_bi false)]) (rest := []) ⟨hx, hb, hml, hown, hts⟩ (fc_Md_allow l D ca am H.size μ (xs (nI (8 * j) + 1).toNatClampNeg) (xs (nI (8 * j) + 2).toNatClampNeg) false hJ) ⟨callB_of 3 hts (fb_goodL fm_Md_allow) rfl rfl rfl (hts _ (fb_in fq_6)) (hts _ (fb_in fq_648)) (by decide +kernel) ⟨Nat.le_of_ble_eq_true rfl, Nat.le_of_ble_eq_true rfl⟩, (hts _ (fb_in fq_649)), (hts _ (fb_in fq_650))⟩ (fL_preM hP hK hD hN) rfl rfl hl.1 rfl (lv_room (Nat.le_of_ble_eq_true rfl)) fx_Lw_law_292 (by show 82 + j + 1 + 0 ≤ 604314 ∧ 1451 + 6 * j + 6 + 0 ≤ 7283163; omega)) hP hD hS hA (fun r27 u26 H locs h28 hP hD hS => ?_)
    refine W.widen (k := 82 + j + 1) (n := 1451 + 6 * j + 6) (Nat.le_refl _) (Nat.le_refl _) ?_
    obtain ⟨hN9, hJ1⟩ := h28
    obtain rfl : (fv_Md_allow μ (xs (nI (8 * j) + 1).toNatClampNeg) (xs (nI (8 * j) + 2).toNatClampNeg) false).1 = r27 := congrArg Prod.fst hN9
    obtain rfl : (fv_Md_allow μ (xs (nI (8 * j) + 1).toNatClampNeg) (xs (nI (8 * j) + 2).toNatClampNeg) false).2 = u26 := congrArg Prod.snd hN9
    have hsim := fs_allow (xs (nI (8 * j) + 1).toNatClampNeg) (xs (nI (8 * j) + 2).toNatClampNeg) false hI hJ hR
    refine lv_istore (lv' := [(7, .int (fv_Md_allow μ (xs (nI (8 * j) + 1).toNatClampNeg) (xs (nI (8 * j) + 2).toNatClampNeg) false).1), (6, .int (fl_km_allow (fv_Dk_allow σ (xs (nI (8 * j) + 1).toNatClampNeg) (xs (nI (8 * j) + 2).toNatClampNeg) false).1)), (0, .ref b), (1, .ref (ad 0)), (2, .ref (am 0)), (3, .ref oa), (4, .ref ob), (5, .int (nI (8 * j)))]) hx hb fx_Lw_law_295 hl (by decide) rfl (fun ls hl => ?_)
    refine lv_aload_n hx hb fx_Lw_law_297 rfl (lv_at hl 4 rfl) ?_
    refine fL_callMi (va_runV (As := []) (rest := []) ⟨hx, hb, hml, hown, hts⟩ (fc_Md_thrown l D ca am H.size ((fv_Md_allow μ (xs (nI (8 * j) + 1).toNatClampNeg) (xs (nI (8 * j) + 2).toNatClampNeg) false).2)  hJ1) ⟨callB_of 0 hts (fb_goodL fm_Md_thrown) rfl rfl rfl (hts _ (fb_in fq_6)) (hts _ (fb_in fq_630)) (by decide +kernel) ⟨Nat.le_of_ble_eq_true rfl, Nat.le_of_ble_eq_true rfl⟩, (hts _ (fb_in fq_631)), (hts _ (fb_in fq_632))⟩ (fL_preM hP hK hD hN) rfl rfl hl.1 rfl (lv_room (Nat.le_of_ble_eq_true rfl)) fx_Lw_law_298 (by show 82 + j + 1 + 0 ≤ 604314 ∧ 1451 + 6 * j + 6 + 0 ≤ 7283163; omega)) hP hD hS hA (fun r30 u29 H locs h31 hP hD hS => ?_)
    refine W.widen (k := 82 + j + 1) (n := 1451 + 6 * j + 6) (Nat.le_refl _) (Nat.le_refl _) ?_
    obtain ⟨rfl, rfl⟩ := h31
    refine lv_iload hx hb fx_Lw_law_301 (lv_at hl 1 rfl) ?_
    refine lv_icmp_eq (tgt := 308) hx hb fx_Lw_law_303 (by decide) (fun _ => ?_) (fun c32 => absurd hsim.1 c32)
    refine lv_iload hx hb fx_Lw_law_308 (lv_at hl 1 rfl) ?_
    refine lv_if_ne (tgt := 325) hx hb fx_Lw_law_310 (by decide) (fun c33 => ?_) (fun c33 => ?_)
    · refine lv_goto (tgt := 914) hx hb fx_Lw_law_325 (by decide) ?_
      exact hNext ((fv_Dk_allow σ (xs (nI (8 * j) + 1).toNatClampNeg) (xs (nI (8 * j) + 2).toNatClampNeg) false).2.2) (if (fv_Dk_allow σ (xs (nI (8 * j) + 1).toNatClampNeg) (xs (nI (8 * j) + 2).toNatClampNeg) false).1 = 0 then (fv_Dk_allow σ (xs (nI (8 * j) + 1).toNatClampNeg) (xs (nI (8 * j) + 2).toNatClampNeg) false).2.1.toInt64 else x) y ((fv_Md_allow μ (xs (nI (8 * j) + 1).toNatClampNeg) (xs (nI (8 * j) + 2).toNatClampNeg) false).2) H locs hI1 hJ1 hsim.2.2 hP hD hS ls (lv_sub hl [2, 3, 4, 5, 6, 7] rfl)
    · obtain ⟨hz, hv⟩ := hsim.2.1 c33
      rw [if_pos hz, hv] at hP hD
      refine lv_aload_n hx hb fx_Lw_law_313 rfl (lv_at hl 5 rfl) ?_
      refine lv_iconst (v := 0) hx hb fx_Lw_law_314 (by decide) ?_
      refine va_lald (D := D) hx hb hK hP 59 2 fL_at59 rfl (vp_in_nI (n := 0) (N := 1) (by decide) (by decide)) fx_Lw_law_315 ?_
      refine lv_iload hx hb fx_Lw_law_316 (lv_at hl 0 rfl) ?_
      refine lv_i2l hx hb fx_Lw_law_318 rfl ?_
      refine W.lcmp hx hb fx_Lw_law_319 ?_
      refine lv_if_eq (tgt := 325) hx hb fx_Lw_law_320 (by decide) (fun _ => ?_) (fun c34 => absurd fL_lc c34)
      refine lv_goto (tgt := 914) hx hb fx_Lw_law_325 (by decide) ?_
      exact hNext ((fv_Dk_allow σ (xs (nI (8 * j) + 1).toNatClampNeg) (xs (nI (8 * j) + 2).toNatClampNeg) false).2.2) ((fv_Md_allow μ (xs (nI (8 * j) + 1).toNatClampNeg) (xs (nI (8 * j) + 2).toNatClampNeg) false).1.toInt64) y ((fv_Md_allow μ (xs (nI (8 * j) + 1).toNatClampNeg) (xs (nI (8 * j) + 2).toNatClampNeg) false).2) H locs hI1 hJ1 hsim.2.2 hP hD hS ls (lv_sub hl [2, 3, 4, 5, 6, 7] rfl)
  · refine lv_iconst (v := 1) hx hb fx_Lw_law_254 (by decide) ?_
    refine lv_goto (tgt := 259) hx hb fx_Lw_law_255 (by decide) ?_
    refine lv_aload_n hx hb fx_Lw_law_259 rfl (lv_at hl 3 rfl) ?_
    refine fL_callL (vx_runSW (As := [.ref (ad 0), .int (xs (nI (8 * j) + 1).toNatClampNeg), .int (xs (nI (8 * j) + 2).toNatClampNeg), .int (fd_bi true), .ref oa]) (rest := []) ⟨hx, hb, hml, hown, hts⟩ (fl_allow l hst D cR cP ad H.size σ (xs (nI (8 * j) + 1).toNatClampNeg) (xs (nI (8 * j) + 2).toNatClampNeg) true cO oa x hI) (vx_cwSW 5 hts (fl_goodS fq_316 fq_317 fq_0 fm_Lw_allow) rfl rfl rfl (by decide +kernel) ⟨Nat.le_of_ble_eq_true rfl, Nat.le_of_ble_eq_true rfl⟩) (fL_preL hP hK hD hS hA hN hX hXn hZ) rfl rfl hl.1 rfl (lv_room (Nat.le_of_ble_eq_true rfl)) fx_Lw_law_260 (by show 82 + j + 1 ≤ 604314 ∧ 1451 + 6 * j + 6 ≤ 7283163; omega)) hP hD hS hA (fun r36 u35 H locs h37 hP hD hS => ?_)
    obtain ⟨u1, u2⟩ := u35
    dsimp only at h37 hP hD
    obtain ⟨rfl, rfl, rfl, hI1⟩ := h37
    refine lv_istore (lv' := [(6, .int (fl_km_allow (fv_Dk_allow σ (xs (nI (8 * j) + 1).toNatClampNeg) (xs (nI (8 * j) + 2).toNatClampNeg) true).1)), (0, .ref b), (1, .ref (ad 0)), (2, .ref (am 0)), (3, .ref oa), (4, .ref ob), (5, .int (nI (8 * j)))]) hx hb fx_Lw_law_263 hl (by decide) rfl (fun ls hl => ?_)
    refine lv_aload_n hx hb fx_Lw_law_265 rfl (lv_at hl 3 rfl) ?_
    refine lv_aload_n hx hb fx_Lw_law_266 rfl (lv_at hl 1 rfl) ?_
    refine lv_iload hx hb fx_Lw_law_267 (lv_at hl 6 rfl) ?_
    refine lv_iconst (v := 1) hx hb fx_Lw_law_269 (by decide) ?_
    refine lv_iadd hx hb fx_Lw_law_270 ?_
    refine va_sld hx hb hXs hbl hbA hS (hin 1 (by decide)) fx_Lw_law_271 ?_
    refine lv_aload_n hx hb fx_Lw_law_272 rfl (lv_at hl 1 rfl) ?_
    refine lv_iload hx hb fx_Lw_law_273 (lv_at hl 6 rfl) ?_
    refine lv_iconst (v := 2) hx hb fx_Lw_law_275 (by decide) ?_
    refine lv_iadd hx hb fx_Lw_law_276 ?_
    refine va_sld hx hb hXs hbl hbA hS (hin 2 (by decide)) fx_Lw_law_277 ?_
    refine lv_aload_n hx hb fx_Lw_law_278 rfl (lv_at hl 1 rfl) ?_
    refine lv_iload hx hb fx_Lw_law_279 (lv_at hl 6 rfl) ?_
    refine lv_iconst (v := 3) hx hb fx_Lw_law_281 (by decide) ?_
    refine lv_iadd hx hb fx_Lw_law_282 ?_
    refine va_sld hx hb hXs hbl hbA hS (hin 3 (by decide)) fx_Lw_law_283 ?_
    refine lv_if_eq (tgt := 291) hx hb fx_Lw_law_284 (by decide) (fun c38 => absurd c38 c21) (fun _ => ?_)
    refine lv_iconst (v := 1) hx hb fx_Lw_law_287 (by decide) ?_
    refine lv_goto (tgt := 292) hx hb fx_Lw_law_288 (by decide) ?_
    refine fL_callMi (va_runV (As := [.int (xs (nI (8 * j) + 1).toNatClampNeg), .int (xs (nI (8 * j) + 2).toNatClampNeg), .int (fd_bi true)]) (rest := []) ⟨hx, hb, hml, hown, hts⟩ (fc_Md_allow l D ca am H.size μ (xs (nI (8 * j) + 1).toNatClampNeg) (xs (nI (8 * j) + 2).toNatClampNeg) true hJ) ⟨callB_of 3 hts (fb_goodL fm_Md_allow) rfl rfl rfl (hts _ (fb_in fq_6)) (hts _ (fb_in fq_648)) (by decide +kernel) ⟨Nat.le_of_ble_eq_true rfl, Nat.le_of_ble_eq_true rfl⟩, (hts _ (fb_in fq_649)), (hts _ (fb_in fq_650))⟩ (fL_preM hP hK hD hN) rfl rfl hl.1 rfl (lv_room (Nat.le_of_ble_eq_true rfl)) fx_Lw_law_292 (by show 82 + j + 1 + 0 ≤ 604314 ∧ 1451 + 6 * j + 6 + 0 ≤ 7283163; omega)) hP hD hS hA (fun r40 u39 H locs h41 hP hD hS => ?_)
    refine W.widen (k := 82 + j + 1) (n := 1451 + 6 * j + 6) (Nat.le_refl _) (Nat.le_refl _) ?_
    obtain ⟨hN9, hJ1⟩ := h41
    obtain rfl : (fv_Md_allow μ (xs (nI (8 * j) + 1).toNatClampNeg) (xs (nI (8 * j) + 2).toNatClampNeg) true).1 = r40 := congrArg Prod.fst hN9
    obtain rfl : (fv_Md_allow μ (xs (nI (8 * j) + 1).toNatClampNeg) (xs (nI (8 * j) + 2).toNatClampNeg) true).2 = u39 := congrArg Prod.snd hN9
    have hsim := fs_allow (xs (nI (8 * j) + 1).toNatClampNeg) (xs (nI (8 * j) + 2).toNatClampNeg) true hI hJ hR
    refine lv_istore (lv' := [(7, .int (fv_Md_allow μ (xs (nI (8 * j) + 1).toNatClampNeg) (xs (nI (8 * j) + 2).toNatClampNeg) true).1), (6, .int (fl_km_allow (fv_Dk_allow σ (xs (nI (8 * j) + 1).toNatClampNeg) (xs (nI (8 * j) + 2).toNatClampNeg) true).1)), (0, .ref b), (1, .ref (ad 0)), (2, .ref (am 0)), (3, .ref oa), (4, .ref ob), (5, .int (nI (8 * j)))]) hx hb fx_Lw_law_295 hl (by decide) rfl (fun ls hl => ?_)
    refine lv_aload_n hx hb fx_Lw_law_297 rfl (lv_at hl 4 rfl) ?_
    refine fL_callMi (va_runV (As := []) (rest := []) ⟨hx, hb, hml, hown, hts⟩ (fc_Md_thrown l D ca am H.size ((fv_Md_allow μ (xs (nI (8 * j) + 1).toNatClampNeg) (xs (nI (8 * j) + 2).toNatClampNeg) true).2)  hJ1) ⟨callB_of 0 hts (fb_goodL fm_Md_thrown) rfl rfl rfl (hts _ (fb_in fq_6)) (hts _ (fb_in fq_630)) (by decide +kernel) ⟨Nat.le_of_ble_eq_true rfl, Nat.le_of_ble_eq_true rfl⟩, (hts _ (fb_in fq_631)), (hts _ (fb_in fq_632))⟩ (fL_preM hP hK hD hN) rfl rfl hl.1 rfl (lv_room (Nat.le_of_ble_eq_true rfl)) fx_Lw_law_298 (by show 82 + j + 1 + 0 ≤ 604314 ∧ 1451 + 6 * j + 6 + 0 ≤ 7283163; omega)) hP hD hS hA (fun r43 u42 H locs h44 hP hD hS => ?_)
    refine W.widen (k := 82 + j + 1) (n := 1451 + 6 * j + 6) (Nat.le_refl _) (Nat.le_refl _) ?_
    obtain ⟨rfl, rfl⟩ := h44
    refine lv_iload hx hb fx_Lw_law_301 (lv_at hl 1 rfl) ?_
    refine lv_icmp_eq (tgt := 308) hx hb fx_Lw_law_303 (by decide) (fun _ => ?_) (fun c45 => absurd hsim.1 c45)
    refine lv_iload hx hb fx_Lw_law_308 (lv_at hl 1 rfl) ?_
    refine lv_if_ne (tgt := 325) hx hb fx_Lw_law_310 (by decide) (fun c46 => ?_) (fun c46 => ?_)
    · refine lv_goto (tgt := 914) hx hb fx_Lw_law_325 (by decide) ?_
      exact hNext ((fv_Dk_allow σ (xs (nI (8 * j) + 1).toNatClampNeg) (xs (nI (8 * j) + 2).toNatClampNeg) true).2.2) (if (fv_Dk_allow σ (xs (nI (8 * j) + 1).toNatClampNeg) (xs (nI (8 * j) + 2).toNatClampNeg) true).1 = 0 then (fv_Dk_allow σ (xs (nI (8 * j) + 1).toNatClampNeg) (xs (nI (8 * j) + 2).toNatClampNeg) true).2.1.toInt64 else x) y ((fv_Md_allow μ (xs (nI (8 * j) + 1).toNatClampNeg) (xs (nI (8 * j) + 2).toNatClampNeg) true).2) H locs hI1 hJ1 hsim.2.2 hP hD hS ls (lv_sub hl [2, 3, 4, 5, 6, 7] rfl)
    · obtain ⟨hz, hv⟩ := hsim.2.1 c46
      rw [if_pos hz, hv] at hP hD
      refine lv_aload_n hx hb fx_Lw_law_313 rfl (lv_at hl 5 rfl) ?_
      refine lv_iconst (v := 0) hx hb fx_Lw_law_314 (by decide) ?_
      refine va_lald (D := D) hx hb hK hP 59 2 fL_at59 rfl (vp_in_nI (n := 0) (N := 1) (by decide) (by decide)) fx_Lw_law_315 ?_
      refine lv_iload hx hb fx_Lw_law_316 (lv_at hl 0 rfl) ?_
      refine lv_i2l hx hb fx_Lw_law_318 rfl ?_
      refine W.lcmp hx hb fx_Lw_law_319 ?_
      refine lv_if_eq (tgt := 325) hx hb fx_Lw_law_320 (by decide) (fun _ => ?_) (fun c47 => absurd fL_lc c47)
      refine lv_goto (tgt := 914) hx hb fx_Lw_law_325 (by decide) ?_
      exact hNext ((fv_Dk_allow σ (xs (nI (8 * j) + 1).toNatClampNeg) (xs (nI (8 * j) + 2).toNatClampNeg) true).2.2) ((fv_Md_allow μ (xs (nI (8 * j) + 1).toNatClampNeg) (xs (nI (8 * j) + 2).toNatClampNeg) true).1.toInt64) y ((fv_Md_allow μ (xs (nI (8 * j) + 1).toNatClampNeg) (xs (nI (8 * j) + 2).toNatClampNeg) true).2) H locs hI1 hJ1 hsim.2.2 hP hD hS ls (lv_sub hl [2, 3, 4, 5, 6, 7] rfl)
set_option maxHeartbeats 4000000 in
theorem fL_case3 {p : Program} {l : Launch} {e : Env} {s : State} {m : MethodId} {below : List Frame} {meth : Method} {c : Code} {b L : Nat} {xs : Nat → Int32} {D : va_G} {cR cP cO cE : ClassId} {ad : Nat → Nat} {oa ob : Nat} {ca : Nat → ClassId} {am : Nat → Nat} {A : Nat → Prop} {j : Nat} (hst : l.stackTraces = false) (hx : p.tables.exec = Jvm.exec) (hb : c.code = code) (hml : c.maxLocals = 9) (hown : s.vm.findClass "FetchDeskLaw" = some m.cls) (hts : ∀ w ∈ lw_tbl, w.before #[Value.ref b] s = true) (hXs : va_X b L xs s s.heap) (hbl : b < s.heap.size) (hbA : ¬ A b) (hA : ∀ q : Nat, s.heap.size ≤ q → A q) (hK : va_K D fn_cl (fL_tys cR cP cO cE ca) s) (hN : fd_N s) (hX : fd_X s) (hXn : fd_Xn s) (hZ : fd_Zs A s s.heap) (hj : j ≤ 4096) {H : Heap} {locs : List Loc} {ls : Array Slot} {σ : FDS} {x : Int64} {y : UInt64} {μ : FMS} (hin : ∀ k : Int32, 0 ≤ k ∧ k < 8 → vp_in (nI (8 * j) + k) L) (hI : fd_Inv σ) (hJ : fm_Inv μ) (hR : fs_Rel σ μ) (hP : va_P D fn_cl (fL_w cR cP cO cE ad oa ob ca am σ x y μ) H) (hD : va_D A (fL_w cR cP cO cE ad oa ob ca am σ x y μ)) (hS : va_S A s.heap H locs) (hl : lv_has ls 9 [(0, .ref b), (1, .ref (ad 0)), (2, .ref (am 0)), (3, .ref oa), (4, .ref ob), (5, .int (nI (8 * j)))]) (hNext : ∀ (σ : FDS) (x : Int64) (y : UInt64) (μ : FMS) (H : Heap) (locs : List Loc), fd_Inv σ → fm_Inv μ → fs_Rel σ μ → va_P D fn_cl (fL_w cR cP cO cE ad oa ob ca am σ x y μ) H → va_D A (fL_w cR cP cO cE ad oa ob ca am σ x y μ) → va_S A s.heap H locs → ∀ ls : Array Slot, lv_has ls 9 [(0, .ref b), (1, .ref (ad 0)), (2, .ref (am 0)), (3, .ref oa), (4, .ref ob), (5, .int (nI (8 * j)))] → W p l e room_1 s m #[Value.ref b] below meth c H locs (82 + j + 1) (1451 + 6 * j + 6) (lw_Z below #[Value.ref b] s) (F0 m 914 ls [])) : W p l e room_1 s m #[Value.ref b] below meth c H locs (82 + j) (1451 + 6 * j) (lw_Z below #[Value.ref b] s) (F0 m 328 ls []) := by
  refine lv_aload_n hx hb fx_Lw_law_328 rfl (lv_at hl 1 rfl) ?_
  refine lv_aload_n hx hb fx_Lw_law_329 rfl (lv_at hl 0 rfl) ?_
  refine lv_iload hx hb fx_Lw_law_330 (lv_at hl 5 rfl) ?_
  refine lv_iconst (v := 1) hx hb fx_Lw_law_332 (by decide) ?_
  refine lv_iadd hx hb fx_Lw_law_333 ?_
  refine va_sld hx hb hXs hbl hbA hS (hin 1 (by decide)) fx_Lw_law_334 ?_
  refine lv_aload_n hx hb fx_Lw_law_335 rfl (lv_at hl 0 rfl) ?_
  refine lv_iload hx hb fx_Lw_law_336 (lv_at hl 5 rfl) ?_
  refine lv_iconst (v := 2) hx hb fx_Lw_law_338 (by decide) ?_
  refine lv_iadd hx hb fx_Lw_law_339 ?_
  refine va_sld hx hb hXs hbl hbA hS (hin 2 (by decide)) fx_Lw_law_340 ?_
  refine lv_if_eq (tgt := 348) hx hb fx_Lw_law_341 (by decide) (fun c48 => ?_) (fun c48 => ?_)
  · refine lv_iconst (v := 0) hx hb fx_Lw_law_348 (by decide) ?_
    refine lv_aload_n hx hb fx_Lw_law_349 rfl (lv_at hl 0 rfl) ?_
    refine lv_iload hx hb fx_Lw_law_350 (lv_at hl 5 rfl) ?_
    refine lv_iconst (v := 3) hx hb fx_Lw_law_352 (by decide) ?_
    refine lv_iadd hx hb fx_Lw_law_353 ?_
    refine va_sld hx hb hXs hbl hbA hS (hin 3 (by decide)) fx_Lw_law_354 ?_
    refine lv_aload_n hx hb fx_Lw_law_355 rfl (lv_at hl 0 rfl) ?_
    refine lv_iload hx hb fx_Lw_law_356 (lv_at hl 5 rfl) ?_
    refine lv_iconst (v := 4) hx hb fx_Lw_law_358 (by decide) ?_
    refine lv_iadd hx hb fx_Lw_law_359 ?_
    refine va_sld hx hb hXs hbl hbA hS (hin 4 (by decide)) fx_Lw_law_360 ?_
    refine lv_aload_n hx hb fx_Lw_law_361 rfl (lv_at hl 0 rfl) ?_
    refine lv_iload hx hb fx_Lw_law_362 (lv_at hl 5 rfl) ?_
    refine lv_iconst (v := 5) hx hb fx_Lw_law_364 (by decide) ?_
    refine lv_iadd hx hb fx_Lw_law_365 ?_
    refine va_sld hx hb hXs hbl hbA hS (hin 5 (by decide)) fx_Lw_law_366 ?_
    refine lv_i2d hx hb fx_Lw_law_367 ?_
    refine lv_ldc2d (v := 4593671619917905920) hx hb hown (hts _ (fb_in fq_729)) fx_Lw_law_368 ?_
    refine lv_dmul hx hb fx_Lw_law_371 (fL_dm _) ?_
    refine fL_callV (vx_runSW (As := [.ref (ad 0), .int (xs (nI (8 * j) + 1).toNatClampNeg), .int (fd_bi false), .int (xs (nI (8 * j) + 3).toNatClampNeg), .int (xs (nI (8 * j) + 4).toNatClampNeg), .double (FP.dmul (FP.i2d (xs (nI (8 * j) + 5).toNatClampNeg)) 4593671619917905920)]) (rest := []) ⟨hx, hb, hml, hown, hts⟩ (fl_asked l hst D cR cP ad H.size σ (xs (nI (8 * j) + 1).toNatClampNeg) false (xs (nI (8 * j) + 3).toNatClampNeg) (xs (nI (8 * j) + 4).toNatClampNeg) (FP.dmul (FP.i2d (xs (nI (8 * j) + 5).toNatClampNeg)) 4593671619917905920) hI) (vx_cwSW 6 hts (fl_goodS fq_323 fq_324 fq_0 fm_Lw_asked) rfl rfl rfl (by decide +kernel) ⟨Nat.le_of_ble_eq_true rfl, Nat.le_of_ble_eq_true rfl⟩) (fL_preV hP hK hD hS hA hN hX hXn hZ) rfl rfl hl.1 rfl (lv_room (Nat.le_of_ble_eq_true rfl)) fx_Lw_law_372 (by show 82 + j + 1 ≤ 604314 ∧ 1451 + 6 * j + 6 ≤ 7283163; omega)) hP hD hS hA (fun r50 u49 H locs h51 hP hD hS => ?_)
    obtain ⟨rfl, rfl, hI1⟩ := h51
    refine lv_istore (lv' := [(6, .int (fl_km_asked (fv_Dk_asked σ (xs (nI (8 * j) + 1).toNatClampNeg) false (xs (nI (8 * j) + 3).toNatClampNeg) (xs (nI (8 * j) + 4).toNatClampNeg) (FP.dmul (FP.i2d (xs (nI (8 * j) + 5).toNatClampNeg)) 4593671619917905920)).1)), (0, .ref b), (1, .ref (ad 0)), (2, .ref (am 0)), (3, .ref oa), (4, .ref ob), (5, .int (nI (8 * j)))]) hx hb fx_Lw_law_375 hl (by decide) rfl (fun ls hl => ?_)
    refine lv_aload_n hx hb fx_Lw_law_377 rfl (lv_at hl 3 rfl) ?_
    refine lv_aload_n hx hb fx_Lw_law_378 rfl (lv_at hl 1 rfl) ?_
    refine lv_iload hx hb fx_Lw_law_379 (lv_at hl 6 rfl) ?_
    refine lv_iconst (v := 1) hx hb fx_Lw_law_381 (by decide) ?_
    refine lv_iadd hx hb fx_Lw_law_382 ?_
    refine va_sld hx hb hXs hbl hbA hS (hin 1 (by decide)) fx_Lw_law_383 ?_
    refine lv_aload_n hx hb fx_Lw_law_384 rfl (lv_at hl 1 rfl) ?_
    refine lv_iload hx hb fx_Lw_law_385 (lv_at hl 6 rfl) ?_
    refine lv_iconst (v := 2) hx hb fx_Lw_law_387 (by decide) ?_
    refine lv_iadd hx hb fx_Lw_law_388 ?_
    refine va_sld hx hb hXs hbl hbA hS (hin 2 (by decide)) fx_Lw_law_389 ?_
    refine lv_if_eq (tgt := 397) hx hb fx_Lw_law_390 (by decide) (fun _ => ?_) (fun c52 => absurd c48 c52)
    refine lv_iconst (v := 0) hx hb fx_Lw_law_397 (by decide) ?_
    refine lv_aload_n hx hb fx_Lw_law_398 rfl (lv_at hl 1 rfl) ?_
    refine lv_iload hx hb fx_Lw_law_399 (lv_at hl 6 rfl) ?_
    refine lv_iconst (v := 3) hx hb fx_Lw_law_401 (by decide) ?_
    refine lv_iadd hx hb fx_Lw_law_402 ?_
    refine va_sld hx hb hXs hbl hbA hS (hin 3 (by decide)) fx_Lw_law_403 ?_
    refine lv_aload_n hx hb fx_Lw_law_404 rfl (lv_at hl 1 rfl) ?_
    refine lv_iload hx hb fx_Lw_law_405 (lv_at hl 6 rfl) ?_
    refine lv_iconst (v := 4) hx hb fx_Lw_law_407 (by decide) ?_
    refine lv_iadd hx hb fx_Lw_law_408 ?_
    refine va_sld hx hb hXs hbl hbA hS (hin 4 (by decide)) fx_Lw_law_409 ?_
    refine lv_aload_n hx hb fx_Lw_law_410 rfl (lv_at hl 1 rfl) ?_
    refine lv_iload hx hb fx_Lw_law_411 (lv_at hl 6 rfl) ?_
    refine lv_iconst (v := 5) hx hb fx_Lw_law_413 (by decide) ?_
    refine lv_iadd hx hb fx_Lw_law_414 ?_
    refine va_sld hx hb hXs hbl hbA hS (hin 5 (by decide)) fx_Lw_law_415 ?_
    refine lv_i2d hx hb fx_Lw_law_416 ?_
    refine lv_ldc2d (v := 4593671619917905920) hx hb hown (hts _ (fb_in fq_729)) fx_Lw_law_417 ?_
    refine lv_dmul hx hb fx_Lw_law_420 (fL_dm _) ?_
    refine fL_callMv (va_runV (As := [.int (xs (nI (8 * j) + 1).toNatClampNeg), .int (fd_bi false), .int (xs (nI (8 * j) + 3).toNatClampNeg), .int (xs (nI (8 * j) + 4).toNatClampNeg), .double (FP.dmul (FP.i2d (xs (nI (8 * j) + 5).toNatClampNeg)) 4593671619917905920)]) (rest := []) ⟨hx, hb, hml, hown, hts⟩ (fc_Md_asked l D ca am H.size μ (xs (nI (8 * j) + 1).toNatClampNeg) false (xs (nI (8 * j) + 3).toNatClampNeg) (xs (nI (8 * j) + 4).toNatClampNeg) (FP.dmul (FP.i2d (xs (nI (8 * j) + 5).toNatClampNeg)) 4593671619917905920) hJ) ⟨callB_of 5 hts (fb_goodL fm_Md_asked) rfl rfl rfl (hts _ (fb_in fq_6)) (hts _ (fb_in fq_656)) (by decide +kernel) ⟨Nat.le_of_ble_eq_true rfl, Nat.le_of_ble_eq_true rfl⟩, (hts _ (fb_in fq_657)), (hts _ (fb_in fq_658))⟩ (fL_preM hP hK hD hN) rfl rfl hl.1 rfl (lv_room (Nat.le_of_ble_eq_true rfl)) fx_Lw_law_421 (by show 82 + j + 1 + 0 ≤ 604314 ∧ 1451 + 6 * j + 6 + 0 ≤ 7283163; omega)) hP hD hS hA (fun u53 H locs h55 hP hD hS => ?_)
    refine W.widen (k := 82 + j + 1) (n := 1451 + 6 * j + 6) (Nat.le_refl _) (Nat.le_refl _) ?_
    obtain ⟨rfl, hJ1⟩ := h55
    have hsim := fs_asked (xs (nI (8 * j) + 1).toNatClampNeg) false (xs (nI (8 * j) + 3).toNatClampNeg) (xs (nI (8 * j) + 4).toNatClampNeg) (FP.dmul (FP.i2d (xs (nI (8 * j) + 5).toNatClampNeg)) 4593671619917905920) hI hJ hR
    refine lv_aload_n hx hb fx_Lw_law_424 rfl (lv_at hl 3 rfl) ?_
    refine fL_callMi (va_runV (As := []) (rest := []) ⟨hx, hb, hml, hown, hts⟩ (fc_Md_thrown l D ca am H.size (fv_Md_asked μ (xs (nI (8 * j) + 1).toNatClampNeg) false (xs (nI (8 * j) + 3).toNatClampNeg) (xs (nI (8 * j) + 4).toNatClampNeg) (FP.dmul (FP.i2d (xs (nI (8 * j) + 5).toNatClampNeg)) 4593671619917905920))  hJ1) ⟨callB_of 0 hts (fb_goodL fm_Md_thrown) rfl rfl rfl (hts _ (fb_in fq_6)) (hts _ (fb_in fq_630)) (by decide +kernel) ⟨Nat.le_of_ble_eq_true rfl, Nat.le_of_ble_eq_true rfl⟩, (hts _ (fb_in fq_631)), (hts _ (fb_in fq_632))⟩ (fL_preM hP hK hD hN) rfl rfl hl.1 rfl (lv_room (Nat.le_of_ble_eq_true rfl)) fx_Lw_law_425 (by show 82 + j + 1 + 0 ≤ 604314 ∧ 1451 + 6 * j + 6 + 0 ≤ 7283163; omega)) hP hD hS hA (fun r57 u56 H locs h58 hP hD hS => ?_)
    refine W.widen (k := 82 + j + 1) (n := 1451 + 6 * j + 6) (Nat.le_refl _) (Nat.le_refl _) ?_
    obtain ⟨rfl, rfl⟩ := h58
    refine lv_iload hx hb fx_Lw_law_428 (lv_at hl 0 rfl) ?_
    refine lv_icmp_eq (tgt := 435) hx hb fx_Lw_law_430 (by decide) (fun _ => ?_) (fun c59 => absurd hsim.1 c59)
    refine lv_goto (tgt := 914) hx hb fx_Lw_law_435 (by decide) ?_
    exact hNext ((fv_Dk_asked σ (xs (nI (8 * j) + 1).toNatClampNeg) false (xs (nI (8 * j) + 3).toNatClampNeg) (xs (nI (8 * j) + 4).toNatClampNeg) (FP.dmul (FP.i2d (xs (nI (8 * j) + 5).toNatClampNeg)) 4593671619917905920)).2) x y (fv_Md_asked μ (xs (nI (8 * j) + 1).toNatClampNeg) false (xs (nI (8 * j) + 3).toNatClampNeg) (xs (nI (8 * j) + 4).toNatClampNeg) (FP.dmul (FP.i2d (xs (nI (8 * j) + 5).toNatClampNeg)) 4593671619917905920)) H locs hI1 hJ1 hsim.2 hP hD hS ls (lv_sub hl [1, 2, 3, 4, 5, 6] rfl)
  · refine lv_iconst (v := 1) hx hb fx_Lw_law_344 (by decide) ?_
    refine lv_goto (tgt := 349) hx hb fx_Lw_law_345 (by decide) ?_
    refine lv_aload_n hx hb fx_Lw_law_349 rfl (lv_at hl 0 rfl) ?_
    refine lv_iload hx hb fx_Lw_law_350 (lv_at hl 5 rfl) ?_
    refine lv_iconst (v := 3) hx hb fx_Lw_law_352 (by decide) ?_
    refine lv_iadd hx hb fx_Lw_law_353 ?_
    refine va_sld hx hb hXs hbl hbA hS (hin 3 (by decide)) fx_Lw_law_354 ?_
    refine lv_aload_n hx hb fx_Lw_law_355 rfl (lv_at hl 0 rfl) ?_
    refine lv_iload hx hb fx_Lw_law_356 (lv_at hl 5 rfl) ?_
    refine lv_iconst (v := 4) hx hb fx_Lw_law_358 (by decide) ?_
    refine lv_iadd hx hb fx_Lw_law_359 ?_
    refine va_sld hx hb hXs hbl hbA hS (hin 4 (by decide)) fx_Lw_law_360 ?_
    refine lv_aload_n hx hb fx_Lw_law_361 rfl (lv_at hl 0 rfl) ?_
    refine lv_iload hx hb fx_Lw_law_362 (lv_at hl 5 rfl) ?_
    refine lv_iconst (v := 5) hx hb fx_Lw_law_364 (by decide) ?_
    refine lv_iadd hx hb fx_Lw_law_365 ?_
    refine va_sld hx hb hXs hbl hbA hS (hin 5 (by decide)) fx_Lw_law_366 ?_
    refine lv_i2d hx hb fx_Lw_law_367 ?_
    refine lv_ldc2d (v := 4593671619917905920) hx hb hown (hts _ (fb_in fq_729)) fx_Lw_law_368 ?_
    refine lv_dmul hx hb fx_Lw_law_371 (fL_dm _) ?_
    refine fL_callV (vx_runSW (As := [.ref (ad 0), .int (xs (nI (8 * j) + 1).toNatClampNeg), .int (fd_bi true), .int (xs (nI (8 * j) + 3).toNatClampNeg), .int (xs (nI (8 * j) + 4).toNatClampNeg), .double (FP.dmul (FP.i2d (xs (nI (8 * j) + 5).toNatClampNeg)) 4593671619917905920)]) (rest := []) ⟨hx, hb, hml, hown, hts⟩ (fl_asked l hst D cR cP ad H.size σ (xs (nI (8 * j) + 1).toNatClampNeg) true (xs (nI (8 * j) + 3).toNatClampNeg) (xs (nI (8 * j) + 4).toNatClampNeg) (FP.dmul (FP.i2d (xs (nI (8 * j) + 5).toNatClampNeg)) 4593671619917905920) hI) (vx_cwSW 6 hts (fl_goodS fq_323 fq_324 fq_0 fm_Lw_asked) rfl rfl rfl (by decide +kernel) ⟨Nat.le_of_ble_eq_true rfl, Nat.le_of_ble_eq_true rfl⟩) (fL_preV hP hK hD hS hA hN hX hXn hZ) rfl rfl hl.1 rfl (lv_room (Nat.le_of_ble_eq_true rfl)) fx_Lw_law_372 (by show 82 + j + 1 ≤ 604314 ∧ 1451 + 6 * j + 6 ≤ 7283163; omega)) hP hD hS hA (fun r61 u60 H locs h62 hP hD hS => ?_)
    obtain ⟨rfl, rfl, hI1⟩ := h62
    refine lv_istore (lv' := [(6, .int (fl_km_asked (fv_Dk_asked σ (xs (nI (8 * j) + 1).toNatClampNeg) true (xs (nI (8 * j) + 3).toNatClampNeg) (xs (nI (8 * j) + 4).toNatClampNeg) (FP.dmul (FP.i2d (xs (nI (8 * j) + 5).toNatClampNeg)) 4593671619917905920)).1)), (0, .ref b), (1, .ref (ad 0)), (2, .ref (am 0)), (3, .ref oa), (4, .ref ob), (5, .int (nI (8 * j)))]) hx hb fx_Lw_law_375 hl (by decide) rfl (fun ls hl => ?_)
    refine lv_aload_n hx hb fx_Lw_law_377 rfl (lv_at hl 3 rfl) ?_
    refine lv_aload_n hx hb fx_Lw_law_378 rfl (lv_at hl 1 rfl) ?_
    refine lv_iload hx hb fx_Lw_law_379 (lv_at hl 6 rfl) ?_
    refine lv_iconst (v := 1) hx hb fx_Lw_law_381 (by decide) ?_
    refine lv_iadd hx hb fx_Lw_law_382 ?_
    refine va_sld hx hb hXs hbl hbA hS (hin 1 (by decide)) fx_Lw_law_383 ?_
    refine lv_aload_n hx hb fx_Lw_law_384 rfl (lv_at hl 1 rfl) ?_
    refine lv_iload hx hb fx_Lw_law_385 (lv_at hl 6 rfl) ?_
    refine lv_iconst (v := 2) hx hb fx_Lw_law_387 (by decide) ?_
    refine lv_iadd hx hb fx_Lw_law_388 ?_
    refine va_sld hx hb hXs hbl hbA hS (hin 2 (by decide)) fx_Lw_law_389 ?_
    refine lv_if_eq (tgt := 397) hx hb fx_Lw_law_390 (by decide) (fun c63 => absurd c63 c48) (fun _ => ?_)
    refine lv_iconst (v := 1) hx hb fx_Lw_law_393 (by decide) ?_
    refine lv_goto (tgt := 398) hx hb fx_Lw_law_394 (by decide) ?_
    refine lv_aload_n hx hb fx_Lw_law_398 rfl (lv_at hl 1 rfl) ?_
    refine lv_iload hx hb fx_Lw_law_399 (lv_at hl 6 rfl) ?_
    refine lv_iconst (v := 3) hx hb fx_Lw_law_401 (by decide) ?_
    refine lv_iadd hx hb fx_Lw_law_402 ?_
    refine va_sld hx hb hXs hbl hbA hS (hin 3 (by decide)) fx_Lw_law_403 ?_
    refine lv_aload_n hx hb fx_Lw_law_404 rfl (lv_at hl 1 rfl) ?_
    refine lv_iload hx hb fx_Lw_law_405 (lv_at hl 6 rfl) ?_
    refine lv_iconst (v := 4) hx hb fx_Lw_law_407 (by decide) ?_
    refine lv_iadd hx hb fx_Lw_law_408 ?_
    refine va_sld hx hb hXs hbl hbA hS (hin 4 (by decide)) fx_Lw_law_409 ?_
    refine lv_aload_n hx hb fx_Lw_law_410 rfl (lv_at hl 1 rfl) ?_
    refine lv_iload hx hb fx_Lw_law_411 (lv_at hl 6 rfl) ?_
    refine lv_iconst (v := 5) hx hb fx_Lw_law_413 (by decide) ?_
    refine lv_iadd hx hb fx_Lw_law_414 ?_
    refine va_sld hx hb hXs hbl hbA hS (hin 5 (by decide)) fx_Lw_law_415 ?_
    refine lv_i2d hx hb fx_Lw_law_416 ?_
    refine lv_ldc2d (v := 4593671619917905920) hx hb hown (hts _ (fb_in fq_729)) fx_Lw_law_417 ?_
    refine lv_dmul hx hb fx_Lw_law_420 (fL_dm _) ?_
    refine fL_callMv (va_runV (As := [.int (xs (nI (8 * j) + 1).toNatClampNeg), .int (fd_bi true), .int (xs (nI (8 * j) + 3).toNatClampNeg), .int (xs (nI (8 * j) + 4).toNatClampNeg), .double (FP.dmul (FP.i2d (xs (nI (8 * j) + 5).toNatClampNeg)) 4593671619917905920)]) (rest := []) ⟨hx, hb, hml, hown, hts⟩ (fc_Md_asked l D ca am H.size μ (xs (nI (8 * j) + 1).toNatClampNeg) true (xs (nI (8 * j) + 3).toNatClampNeg) (xs (nI (8 * j) + 4).toNatClampNeg) (FP.dmul (FP.i2d (xs (nI (8 * j) + 5).toNatClampNeg)) 4593671619917905920) hJ) ⟨callB_of 5 hts (fb_goodL fm_Md_asked) rfl rfl rfl (hts _ (fb_in fq_6)) (hts _ (fb_in fq_656)) (by decide +kernel) ⟨Nat.le_of_ble_eq_true rfl, Nat.le_of_ble_eq_true rfl⟩, (hts _ (fb_in fq_657)), (hts _ (fb_in fq_658))⟩ (fL_preM hP hK hD hN) rfl rfl hl.1 rfl (lv_room (Nat.le_of_ble_eq_true rfl)) fx_Lw_law_421 (by show 82 + j + 1 + 0 ≤ 604314 ∧ 1451 + 6 * j + 6 + 0 ≤ 7283163; omega)) hP hD hS hA (fun u64 H locs h66 hP hD hS => ?_)
    refine W.widen (k := 82 + j + 1) (n := 1451 + 6 * j + 6) (Nat.le_refl _) (Nat.le_refl _) ?_
    obtain ⟨rfl, hJ1⟩ := h66
    have hsim := fs_asked (xs (nI (8 * j) + 1).toNatClampNeg) true (xs (nI (8 * j) + 3).toNatClampNeg) (xs (nI (8 * j) + 4).toNatClampNeg) (FP.dmul (FP.i2d (xs (nI (8 * j) + 5).toNatClampNeg)) 4593671619917905920) hI hJ hR
    refine lv_aload_n hx hb fx_Lw_law_424 rfl (lv_at hl 3 rfl) ?_
    refine fL_callMi (va_runV (As := []) (rest := []) ⟨hx, hb, hml, hown, hts⟩ (fc_Md_thrown l D ca am H.size (fv_Md_asked μ (xs (nI (8 * j) + 1).toNatClampNeg) true (xs (nI (8 * j) + 3).toNatClampNeg) (xs (nI (8 * j) + 4).toNatClampNeg) (FP.dmul (FP.i2d (xs (nI (8 * j) + 5).toNatClampNeg)) 4593671619917905920))  hJ1) ⟨callB_of 0 hts (fb_goodL fm_Md_thrown) rfl rfl rfl (hts _ (fb_in fq_6)) (hts _ (fb_in fq_630)) (by decide +kernel) ⟨Nat.le_of_ble_eq_true rfl, Nat.le_of_ble_eq_true rfl⟩, (hts _ (fb_in fq_631)), (hts _ (fb_in fq_632))⟩ (fL_preM hP hK hD hN) rfl rfl hl.1 rfl (lv_room (Nat.le_of_ble_eq_true rfl)) fx_Lw_law_425 (by show 82 + j + 1 + 0 ≤ 604314 ∧ 1451 + 6 * j + 6 + 0 ≤ 7283163; omega)) hP hD hS hA (fun r68 u67 H locs h69 hP hD hS => ?_)
    refine W.widen (k := 82 + j + 1) (n := 1451 + 6 * j + 6) (Nat.le_refl _) (Nat.le_refl _) ?_
    obtain ⟨rfl, rfl⟩ := h69
    refine lv_iload hx hb fx_Lw_law_428 (lv_at hl 0 rfl) ?_
    refine lv_icmp_eq (tgt := 435) hx hb fx_Lw_law_430 (by decide) (fun _ => ?_) (fun c70 => absurd hsim.1 c70)
    refine lv_goto (tgt := 914) hx hb fx_Lw_law_435 (by decide) ?_
    exact hNext ((fv_Dk_asked σ (xs (nI (8 * j) + 1).toNatClampNeg) true (xs (nI (8 * j) + 3).toNatClampNeg) (xs (nI (8 * j) + 4).toNatClampNeg) (FP.dmul (FP.i2d (xs (nI (8 * j) + 5).toNatClampNeg)) 4593671619917905920)).2) x y (fv_Md_asked μ (xs (nI (8 * j) + 1).toNatClampNeg) true (xs (nI (8 * j) + 3).toNatClampNeg) (xs (nI (8 * j) + 4).toNatClampNeg) (FP.dmul (FP.i2d (xs (nI (8 * j) + 5).toNatClampNeg)) 4593671619917905920)) H locs hI1 hJ1 hsim.2 hP hD hS ls (lv_sub hl [1, 2, 3, 4, 5, 6] rfl)
set_option maxHeartbeats 4000000 in
theorem fL_case4 {p : Program} {l : Launch} {e : Env} {s : State} {m : MethodId} {below : List Frame} {meth : Method} {c : Code} {b L : Nat} {xs : Nat → Int32} {D : va_G} {cR cP cO cE : ClassId} {ad : Nat → Nat} {oa ob : Nat} {ca : Nat → ClassId} {am : Nat → Nat} {A : Nat → Prop} {j : Nat} (hst : l.stackTraces = false) (hx : p.tables.exec = Jvm.exec) (hb : c.code = code) (hml : c.maxLocals = 9) (hown : s.vm.findClass "FetchDeskLaw" = some m.cls) (hts : ∀ w ∈ lw_tbl, w.before #[Value.ref b] s = true) (hXs : va_X b L xs s s.heap) (hbl : b < s.heap.size) (hbA : ¬ A b) (hA : ∀ q : Nat, s.heap.size ≤ q → A q) (hK : va_K D fn_cl (fL_tys cR cP cO cE ca) s) (hN : fd_N s) (hX : fd_X s) (hXn : fd_Xn s) (hZ : fd_Zs A s s.heap) (hj : j ≤ 4096) {H : Heap} {locs : List Loc} {ls : Array Slot} {σ : FDS} {x : Int64} {y : UInt64} {μ : FMS} (hin : ∀ k : Int32, 0 ≤ k ∧ k < 8 → vp_in (nI (8 * j) + k) L) (hI : fd_Inv σ) (hJ : fm_Inv μ) (hR : fs_Rel σ μ) (hP : va_P D fn_cl (fL_w cR cP cO cE ad oa ob ca am σ x y μ) H) (hD : va_D A (fL_w cR cP cO cE ad oa ob ca am σ x y μ)) (hS : va_S A s.heap H locs) (hl : lv_has ls 9 [(0, .ref b), (1, .ref (ad 0)), (2, .ref (am 0)), (3, .ref oa), (4, .ref ob), (5, .int (nI (8 * j)))]) (hNext : ∀ (σ : FDS) (x : Int64) (y : UInt64) (μ : FMS) (H : Heap) (locs : List Loc), fd_Inv σ → fm_Inv μ → fs_Rel σ μ → va_P D fn_cl (fL_w cR cP cO cE ad oa ob ca am σ x y μ) H → va_D A (fL_w cR cP cO cE ad oa ob ca am σ x y μ) → va_S A s.heap H locs → ∀ ls : Array Slot, lv_has ls 9 [(0, .ref b), (1, .ref (ad 0)), (2, .ref (am 0)), (3, .ref oa), (4, .ref ob), (5, .int (nI (8 * j)))] → W p l e room_1 s m #[Value.ref b] below meth c H locs (82 + j + 1) (1451 + 6 * j + 6) (lw_Z below #[Value.ref b] s) (F0 m 914 ls [])) : W p l e room_1 s m #[Value.ref b] below meth c H locs (82 + j) (1451 + 6 * j) (lw_Z below #[Value.ref b] s) (F0 m 438 ls []) := by
  refine lv_aload_n hx hb fx_Lw_law_438 rfl (lv_at hl 1 rfl) ?_
  refine lv_aload_n hx hb fx_Lw_law_439 rfl (lv_at hl 0 rfl) ?_
  refine lv_iload hx hb fx_Lw_law_440 (lv_at hl 5 rfl) ?_
  refine lv_iconst (v := 1) hx hb fx_Lw_law_442 (by decide) ?_
  refine lv_iadd hx hb fx_Lw_law_443 ?_
  refine va_sld hx hb hXs hbl hbA hS (hin 1 (by decide)) fx_Lw_law_444 ?_
  refine lv_i2d hx hb fx_Lw_law_445 ?_
  refine lv_ldc2d (v := 4593671619917905920) hx hb hown (hts _ (fb_in fq_729)) fx_Lw_law_446 ?_
  refine lv_dmul hx hb fx_Lw_law_449 (fL_dm _) ?_
  refine lv_aload hx hb fx_Lw_law_450 (lv_at hl 4 rfl) ?_
  refine fL_callD (vx_runSW (As := [.ref (ad 0), .double (FP.dmul (FP.i2d (xs (nI (8 * j) + 1).toNatClampNeg)) 4593671619917905920), .ref ob]) (rest := []) ⟨hx, hb, hml, hown, hts⟩ (fl_tick l hst D cR cP ad H.size σ (FP.dmul (FP.i2d (xs (nI (8 * j) + 1).toNatClampNeg)) 4593671619917905920) cE ob y hI) (vx_cwSW 3 hts (fl_goodS fq_331 fq_332 fq_0 fm_Lw_tick) rfl rfl rfl (by decide +kernel) ⟨Nat.le_of_ble_eq_true rfl, Nat.le_of_ble_eq_true rfl⟩) (fL_preD hP hK hD hS hA hN hX hXn hZ) rfl rfl hl.1 rfl (lv_room (Nat.le_of_ble_eq_true rfl)) fx_Lw_law_452 (by show 82 + j + 1 ≤ 604314 ∧ 1451 + 6 * j + 6 ≤ 7283163; omega)) hP hD hS hA (fun r72 u71 H locs h73 hP hD hS => ?_)
  obtain ⟨u1, u2⟩ := u71
  dsimp only at h73 hP hD
  obtain ⟨rfl, rfl, rfl, hI1⟩ := h73
  refine lv_istore (lv' := [(6, .int (fl_km_tick (fv_Dk_tick σ (FP.dmul (FP.i2d (xs (nI (8 * j) + 1).toNatClampNeg)) 4593671619917905920)).1)), (0, .ref b), (1, .ref (ad 0)), (2, .ref (am 0)), (3, .ref oa), (4, .ref ob), (5, .int (nI (8 * j)))]) hx hb fx_Lw_law_455 hl (by decide) rfl (fun ls hl => ?_)
  refine lv_aload_n hx hb fx_Lw_law_457 rfl (lv_at hl 3 rfl) ?_
  refine lv_aload_n hx hb fx_Lw_law_458 rfl (lv_at hl 1 rfl) ?_
  refine lv_iload hx hb fx_Lw_law_459 (lv_at hl 6 rfl) ?_
  refine lv_iconst (v := 1) hx hb fx_Lw_law_461 (by decide) ?_
  refine lv_iadd hx hb fx_Lw_law_462 ?_
  refine va_sld hx hb hXs hbl hbA hS (hin 1 (by decide)) fx_Lw_law_463 ?_
  refine lv_i2d hx hb fx_Lw_law_464 ?_
  refine lv_ldc2d (v := 4593671619917905920) hx hb hown (hts _ (fb_in fq_729)) fx_Lw_law_465 ?_
  refine lv_dmul hx hb fx_Lw_law_468 (fL_dm _) ?_
  refine fL_callMd (va_runV (As := [.double (FP.dmul (FP.i2d (xs (nI (8 * j) + 1).toNatClampNeg)) 4593671619917905920)]) (rest := []) ⟨hx, hb, hml, hown, hts⟩ (fc_Md_tick l D ca am H.size μ (FP.dmul (FP.i2d (xs (nI (8 * j) + 1).toNatClampNeg)) 4593671619917905920) hJ) ⟨callB_of 1 hts (fb_goodL fm_Md_tick) rfl rfl rfl (hts _ (fb_in fq_6)) (hts _ (fb_in fq_661)) (by decide +kernel) ⟨Nat.le_of_ble_eq_true rfl, Nat.le_of_ble_eq_true rfl⟩, (hts _ (fb_in fq_662)), (hts _ (fb_in fq_663))⟩ (fL_preM hP hK hD hN) rfl rfl hl.1 rfl (lv_room (Nat.le_of_ble_eq_true rfl)) fx_Lw_law_469 (by show 82 + j + 1 + 0 ≤ 604314 ∧ 1451 + 6 * j + 6 + 0 ≤ 7283163; omega)) hP hD hS hA (fun r75 u74 H locs h76 hP hD hS => ?_)
  refine W.widen (k := 82 + j + 1) (n := 1451 + 6 * j + 6) (Nat.le_refl _) (Nat.le_refl _) ?_
  obtain ⟨hN9, hJ1⟩ := h76
  obtain rfl : (fv_Md_tick μ (FP.dmul (FP.i2d (xs (nI (8 * j) + 1).toNatClampNeg)) 4593671619917905920)).1 = r75 := congrArg Prod.fst hN9
  obtain rfl : (fv_Md_tick μ (FP.dmul (FP.i2d (xs (nI (8 * j) + 1).toNatClampNeg)) 4593671619917905920)).2 = u74 := congrArg Prod.snd hN9
  have hsim := fs_tick (FP.dmul (FP.i2d (xs (nI (8 * j) + 1).toNatClampNeg)) 4593671619917905920) hI hJ hR
  refine lv_dstore (lv' := [(7, .double (fv_Md_tick μ (FP.dmul (FP.i2d (xs (nI (8 * j) + 1).toNatClampNeg)) 4593671619917905920)).1), (6, .int (fl_km_tick (fv_Dk_tick σ (FP.dmul (FP.i2d (xs (nI (8 * j) + 1).toNatClampNeg)) 4593671619917905920)).1)), (0, .ref b), (1, .ref (ad 0)), (2, .ref (am 0)), (3, .ref oa), (4, .ref ob), (5, .int (nI (8 * j)))]) hx hb fx_Lw_law_472 hl (by decide) rfl (fun ls hl => ?_)
  refine lv_aload_n hx hb fx_Lw_law_474 rfl (lv_at hl 4 rfl) ?_
  refine fL_callMi (va_runV (As := []) (rest := []) ⟨hx, hb, hml, hown, hts⟩ (fc_Md_thrown l D ca am H.size ((fv_Md_tick μ (FP.dmul (FP.i2d (xs (nI (8 * j) + 1).toNatClampNeg)) 4593671619917905920)).2)  hJ1) ⟨callB_of 0 hts (fb_goodL fm_Md_thrown) rfl rfl rfl (hts _ (fb_in fq_6)) (hts _ (fb_in fq_630)) (by decide +kernel) ⟨Nat.le_of_ble_eq_true rfl, Nat.le_of_ble_eq_true rfl⟩, (hts _ (fb_in fq_631)), (hts _ (fb_in fq_632))⟩ (fL_preM hP hK hD hN) rfl rfl hl.1 rfl (lv_room (Nat.le_of_ble_eq_true rfl)) fx_Lw_law_475 (by show 82 + j + 1 + 0 ≤ 604314 ∧ 1451 + 6 * j + 6 + 0 ≤ 7283163; omega)) hP hD hS hA (fun r78 u77 H locs h79 hP hD hS => ?_)
  refine W.widen (k := 82 + j + 1) (n := 1451 + 6 * j + 6) (Nat.le_refl _) (Nat.le_refl _) ?_
  obtain ⟨rfl, rfl⟩ := h79
  refine lv_iload hx hb fx_Lw_law_478 (lv_at hl 1 rfl) ?_
  refine lv_icmp_eq (tgt := 485) hx hb fx_Lw_law_480 (by decide) (fun _ => ?_) (fun c80 => absurd hsim.1 c80)
  refine lv_iload hx hb fx_Lw_law_485 (lv_at hl 1 rfl) ?_
  refine lv_if_ne (tgt := 522) hx hb fx_Lw_law_487 (by decide) (fun c81 => ?_) (fun c81 => ?_)
  · refine lv_goto (tgt := 914) hx hb fx_Lw_law_522 (by decide) ?_
    exact hNext ((fv_Dk_tick σ (FP.dmul (FP.i2d (xs (nI (8 * j) + 1).toNatClampNeg)) 4593671619917905920)).2.2) x (if (fv_Dk_tick σ (FP.dmul (FP.i2d (xs (nI (8 * j) + 1).toNatClampNeg)) 4593671619917905920)).1 = 0 then (fv_Dk_tick σ (FP.dmul (FP.i2d (xs (nI (8 * j) + 1).toNatClampNeg)) 4593671619917905920)).2.1 else y) ((fv_Md_tick μ (FP.dmul (FP.i2d (xs (nI (8 * j) + 1).toNatClampNeg)) 4593671619917905920)).2) H locs hI1 hJ1 hsim.2.2 hP hD hS ls (lv_sub hl [2, 3, 4, 5, 6, 7] rfl)
  · obtain ⟨hz, hv⟩ := hsim.2.1 c81
    rw [if_pos hz, hv.1] at hP hD
    refine lv_aload hx hb fx_Lw_law_490 (lv_at hl 6 rfl) ?_
    refine lv_iconst (v := 0) hx hb fx_Lw_law_492 (by decide) ?_
    refine va_dald (D := D) hx hb hK hP 60 3 fL_at60 rfl (vp_in_nI (n := 0) (N := 1) (by decide) (by decide)) fx_Lw_law_493 ?_
    refine lv_dload hx hb fx_Lw_law_494 (lv_at hl 0 rfl) ?_
    refine lv_dcmp hx hb fx_Lw_law_496 ?_
    refine lv_if_eq (tgt := 522) hx hb fx_Lw_law_497 (by decide) (fun _ => ?_) (fun c82 => absurd (fL_dc hv.2) c82)
    refine lv_goto (tgt := 914) hx hb fx_Lw_law_522 (by decide) ?_
    exact hNext ((fv_Dk_tick σ (FP.dmul (FP.i2d (xs (nI (8 * j) + 1).toNatClampNeg)) 4593671619917905920)).2.2) x ((fv_Md_tick μ (FP.dmul (FP.i2d (xs (nI (8 * j) + 1).toNatClampNeg)) 4593671619917905920)).1) ((fv_Md_tick μ (FP.dmul (FP.i2d (xs (nI (8 * j) + 1).toNatClampNeg)) 4593671619917905920)).2) H locs hI1 hJ1 hsim.2.2 hP hD hS ls (lv_sub hl [2, 3, 4, 5, 6, 7] rfl)
set_option maxHeartbeats 4000000 in
theorem fL_case5 {p : Program} {l : Launch} {e : Env} {s : State} {m : MethodId} {below : List Frame} {meth : Method} {c : Code} {b L : Nat} {xs : Nat → Int32} {D : va_G} {cR cP cO cE : ClassId} {ad : Nat → Nat} {oa ob : Nat} {ca : Nat → ClassId} {am : Nat → Nat} {A : Nat → Prop} {j : Nat} (hst : l.stackTraces = false) (hx : p.tables.exec = Jvm.exec) (hb : c.code = code) (hml : c.maxLocals = 9) (hown : s.vm.findClass "FetchDeskLaw" = some m.cls) (hts : ∀ w ∈ lw_tbl, w.before #[Value.ref b] s = true) (hXs : va_X b L xs s s.heap) (hbl : b < s.heap.size) (hbA : ¬ A b) (hA : ∀ q : Nat, s.heap.size ≤ q → A q) (hK : va_K D fn_cl (fL_tys cR cP cO cE ca) s) (hN : fd_N s) (hX : fd_X s) (hXn : fd_Xn s) (hZ : fd_Zs A s s.heap) (hj : j ≤ 4096) {H : Heap} {locs : List Loc} {ls : Array Slot} {σ : FDS} {x : Int64} {y : UInt64} {μ : FMS} (hin : ∀ k : Int32, 0 ≤ k ∧ k < 8 → vp_in (nI (8 * j) + k) L) (hI : fd_Inv σ) (hJ : fm_Inv μ) (hR : fs_Rel σ μ) (hP : va_P D fn_cl (fL_w cR cP cO cE ad oa ob ca am σ x y μ) H) (hD : va_D A (fL_w cR cP cO cE ad oa ob ca am σ x y μ)) (hS : va_S A s.heap H locs) (hl : lv_has ls 9 [(0, .ref b), (1, .ref (ad 0)), (2, .ref (am 0)), (3, .ref oa), (4, .ref ob), (5, .int (nI (8 * j)))]) (hNext : ∀ (σ : FDS) (x : Int64) (y : UInt64) (μ : FMS) (H : Heap) (locs : List Loc), fd_Inv σ → fm_Inv μ → fs_Rel σ μ → va_P D fn_cl (fL_w cR cP cO cE ad oa ob ca am σ x y μ) H → va_D A (fL_w cR cP cO cE ad oa ob ca am σ x y μ) → va_S A s.heap H locs → ∀ ls : Array Slot, lv_has ls 9 [(0, .ref b), (1, .ref (ad 0)), (2, .ref (am 0)), (3, .ref oa), (4, .ref ob), (5, .int (nI (8 * j)))] → W p l e room_1 s m #[Value.ref b] below meth c H locs (82 + j + 1) (1451 + 6 * j + 6) (lw_Z below #[Value.ref b] s) (F0 m 914 ls [])) : W p l e room_1 s m #[Value.ref b] below meth c H locs (82 + j) (1451 + 6 * j) (lw_Z below #[Value.ref b] s) (F0 m 525 ls []) := by
  refine lv_aload_n hx hb fx_Lw_law_525 rfl (lv_at hl 1 rfl) ?_
  refine lv_aload_n hx hb fx_Lw_law_526 rfl (lv_at hl 0 rfl) ?_
  refine lv_iload hx hb fx_Lw_law_527 (lv_at hl 5 rfl) ?_
  refine lv_iconst (v := 1) hx hb fx_Lw_law_529 (by decide) ?_
  refine lv_iadd hx hb fx_Lw_law_530 ?_
  refine va_sld hx hb hXs hbl hbA hS (hin 1 (by decide)) fx_Lw_law_531 ?_
  refine lv_aload_n hx hb fx_Lw_law_532 rfl (lv_at hl 0 rfl) ?_
  refine lv_iload hx hb fx_Lw_law_533 (lv_at hl 5 rfl) ?_
  refine lv_iconst (v := 2) hx hb fx_Lw_law_535 (by decide) ?_
  refine lv_iadd hx hb fx_Lw_law_536 ?_
  refine va_sld hx hb hXs hbl hbA hS (hin 2 (by decide)) fx_Lw_law_537 ?_
  refine lv_aload_n hx hb fx_Lw_law_538 rfl (lv_at hl 0 rfl) ?_
  refine lv_iload hx hb fx_Lw_law_539 (lv_at hl 5 rfl) ?_
  refine lv_iconst (v := 3) hx hb fx_Lw_law_541 (by decide) ?_
  refine lv_iadd hx hb fx_Lw_law_542 ?_
  refine va_sld hx hb hXs hbl hbA hS (hin 3 (by decide)) fx_Lw_law_543 ?_
  refine lv_aload_n hx hb fx_Lw_law_544 rfl (lv_at hl 0 rfl) ?_
  refine lv_iload hx hb fx_Lw_law_545 (lv_at hl 5 rfl) ?_
  refine lv_iconst (v := 4) hx hb fx_Lw_law_547 (by decide) ?_
  refine lv_iadd hx hb fx_Lw_law_548 ?_
  refine va_sld hx hb hXs hbl hbA hS (hin 4 (by decide)) fx_Lw_law_549 ?_
  refine lv_aload_n hx hb fx_Lw_law_550 rfl (lv_at hl 0 rfl) ?_
  refine lv_iload hx hb fx_Lw_law_551 (lv_at hl 5 rfl) ?_
  refine lv_iconst (v := 5) hx hb fx_Lw_law_553 (by decide) ?_
  refine lv_iadd hx hb fx_Lw_law_554 ?_
  refine va_sld hx hb hXs hbl hbA hS (hin 5 (by decide)) fx_Lw_law_555 ?_
  refine lv_aload_n hx hb fx_Lw_law_556 rfl (lv_at hl 0 rfl) ?_
  refine lv_iload hx hb fx_Lw_law_557 (lv_at hl 5 rfl) ?_
  refine lv_bipush (v := 6) hx hb fx_Lw_law_559 (by decide) ?_
  refine lv_iadd hx hb fx_Lw_law_561 ?_
  refine va_sld hx hb hXs hbl hbA hS (hin 6 (by decide)) fx_Lw_law_562 ?_
  refine lv_aload_n hx hb fx_Lw_law_563 rfl (lv_at hl 0 rfl) ?_
  refine lv_iload hx hb fx_Lw_law_564 (lv_at hl 5 rfl) ?_
  refine lv_bipush (v := 7) hx hb fx_Lw_law_566 (by decide) ?_
  refine lv_iadd hx hb fx_Lw_law_568 ?_
  refine va_sld hx hb hXs hbl hbA hS (hin 7 (by decide)) fx_Lw_law_569 ?_
  refine lv_aload_n hx hb fx_Lw_law_570 rfl (lv_at hl 3 rfl) ?_
  refine fL_callL (vx_runSW (As := [.ref (ad 0), .int (xs (nI (8 * j) + 1).toNatClampNeg), .int (xs (nI (8 * j) + 2).toNatClampNeg), .int (xs (nI (8 * j) + 3).toNatClampNeg), .int (xs (nI (8 * j) + 4).toNatClampNeg), .int (xs (nI (8 * j) + 5).toNatClampNeg), .int (xs (nI (8 * j) + 6).toNatClampNeg), .int (xs (nI (8 * j) + 7).toNatClampNeg), .ref oa]) (rest := []) ⟨hx, hb, hml, hown, hts⟩ (fl_fetch l hst D cR cP ad H.size σ (xs (nI (8 * j) + 1).toNatClampNeg) (xs (nI (8 * j) + 2).toNatClampNeg) (xs (nI (8 * j) + 3).toNatClampNeg) (xs (nI (8 * j) + 4).toNatClampNeg) (xs (nI (8 * j) + 5).toNatClampNeg) (xs (nI (8 * j) + 6).toNatClampNeg) (xs (nI (8 * j) + 7).toNatClampNeg) cO oa x hI) (vx_cwSW 9 hts (fl_goodS fq_339 fq_340 fq_0 fm_Lw_fetch) rfl rfl rfl (by decide +kernel) ⟨Nat.le_of_ble_eq_true rfl, Nat.le_of_ble_eq_true rfl⟩) (fL_preL hP hK hD hS hA hN hX hXn hZ) rfl rfl hl.1 rfl (lv_room (Nat.le_of_ble_eq_true rfl)) fx_Lw_law_571 (by show 82 + j + 1 ≤ 604314 ∧ 1451 + 6 * j + 6 ≤ 7283163; omega)) hP hD hS hA (fun r84 u83 H locs h85 hP hD hS => ?_)
  obtain ⟨u1, u2⟩ := u83
  dsimp only at h85 hP hD
  obtain ⟨rfl, rfl, rfl, hI1⟩ := h85
  refine lv_istore (lv' := [(6, .int (fl_km_fetch (fv_Dk_fetch σ (xs (nI (8 * j) + 1).toNatClampNeg) (xs (nI (8 * j) + 2).toNatClampNeg) (xs (nI (8 * j) + 3).toNatClampNeg) (xs (nI (8 * j) + 4).toNatClampNeg) (xs (nI (8 * j) + 5).toNatClampNeg) (xs (nI (8 * j) + 6).toNatClampNeg) (xs (nI (8 * j) + 7).toNatClampNeg)).1)), (0, .ref b), (1, .ref (ad 0)), (2, .ref (am 0)), (3, .ref oa), (4, .ref ob), (5, .int (nI (8 * j)))]) hx hb fx_Lw_law_574 hl (by decide) rfl (fun ls hl => ?_)
  refine lv_aload_n hx hb fx_Lw_law_576 rfl (lv_at hl 3 rfl) ?_
  refine lv_aload_n hx hb fx_Lw_law_577 rfl (lv_at hl 1 rfl) ?_
  refine lv_iload hx hb fx_Lw_law_578 (lv_at hl 6 rfl) ?_
  refine lv_iconst (v := 1) hx hb fx_Lw_law_580 (by decide) ?_
  refine lv_iadd hx hb fx_Lw_law_581 ?_
  refine va_sld hx hb hXs hbl hbA hS (hin 1 (by decide)) fx_Lw_law_582 ?_
  refine lv_aload_n hx hb fx_Lw_law_583 rfl (lv_at hl 1 rfl) ?_
  refine lv_iload hx hb fx_Lw_law_584 (lv_at hl 6 rfl) ?_
  refine lv_iconst (v := 2) hx hb fx_Lw_law_586 (by decide) ?_
  refine lv_iadd hx hb fx_Lw_law_587 ?_
  refine va_sld hx hb hXs hbl hbA hS (hin 2 (by decide)) fx_Lw_law_588 ?_
  refine lv_aload_n hx hb fx_Lw_law_589 rfl (lv_at hl 1 rfl) ?_
  refine lv_iload hx hb fx_Lw_law_590 (lv_at hl 6 rfl) ?_
  refine lv_iconst (v := 3) hx hb fx_Lw_law_592 (by decide) ?_
  refine lv_iadd hx hb fx_Lw_law_593 ?_
  refine va_sld hx hb hXs hbl hbA hS (hin 3 (by decide)) fx_Lw_law_594 ?_
  refine lv_aload_n hx hb fx_Lw_law_595 rfl (lv_at hl 1 rfl) ?_
  refine lv_iload hx hb fx_Lw_law_596 (lv_at hl 6 rfl) ?_
  refine lv_iconst (v := 4) hx hb fx_Lw_law_598 (by decide) ?_
  refine lv_iadd hx hb fx_Lw_law_599 ?_
  refine va_sld hx hb hXs hbl hbA hS (hin 4 (by decide)) fx_Lw_law_600 ?_
  refine lv_aload_n hx hb fx_Lw_law_601 rfl (lv_at hl 1 rfl) ?_
  refine lv_iload hx hb fx_Lw_law_602 (lv_at hl 6 rfl) ?_
  refine lv_iconst (v := 5) hx hb fx_Lw_law_604 (by decide) ?_
  refine lv_iadd hx hb fx_Lw_law_605 ?_
  refine va_sld hx hb hXs hbl hbA hS (hin 5 (by decide)) fx_Lw_law_606 ?_
  refine lv_aload_n hx hb fx_Lw_law_607 rfl (lv_at hl 1 rfl) ?_
  refine lv_iload hx hb fx_Lw_law_608 (lv_at hl 6 rfl) ?_
  refine lv_bipush (v := 6) hx hb fx_Lw_law_610 (by decide) ?_
  refine lv_iadd hx hb fx_Lw_law_612 ?_
  refine va_sld hx hb hXs hbl hbA hS (hin 6 (by decide)) fx_Lw_law_613 ?_
  refine lv_aload_n hx hb fx_Lw_law_614 rfl (lv_at hl 1 rfl) ?_
  refine lv_iload hx hb fx_Lw_law_615 (lv_at hl 6 rfl) ?_
  refine lv_bipush (v := 7) hx hb fx_Lw_law_617 (by decide) ?_
  refine lv_iadd hx hb fx_Lw_law_619 ?_
  refine va_sld hx hb hXs hbl hbA hS (hin 7 (by decide)) fx_Lw_law_620 ?_
  refine fL_callMi (va_runV (As := [.int (xs (nI (8 * j) + 1).toNatClampNeg), .int (xs (nI (8 * j) + 2).toNatClampNeg), .int (xs (nI (8 * j) + 3).toNatClampNeg), .int (xs (nI (8 * j) + 4).toNatClampNeg), .int (xs (nI (8 * j) + 5).toNatClampNeg), .int (xs (nI (8 * j) + 6).toNatClampNeg), .int (xs (nI (8 * j) + 7).toNatClampNeg)]) (rest := []) ⟨hx, hb, hml, hown, hts⟩ (fc_Md_fetch l D ca am H.size μ (xs (nI (8 * j) + 1).toNatClampNeg) (xs (nI (8 * j) + 2).toNatClampNeg) (xs (nI (8 * j) + 3).toNatClampNeg) (xs (nI (8 * j) + 4).toNatClampNeg) (xs (nI (8 * j) + 5).toNatClampNeg) (xs (nI (8 * j) + 6).toNatClampNeg) (xs (nI (8 * j) + 7).toNatClampNeg) hJ) ⟨callB_of 7 hts (fb_goodL fm_Md_fetch) rfl rfl rfl (hts _ (fb_in fq_6)) (hts _ (fb_in fq_666)) (by decide +kernel) ⟨Nat.le_of_ble_eq_true rfl, Nat.le_of_ble_eq_true rfl⟩, (hts _ (fb_in fq_667)), (hts _ (fb_in fq_668))⟩ (fL_preM hP hK hD hN) rfl rfl hl.1 rfl (lv_room (Nat.le_of_ble_eq_true rfl)) fx_Lw_law_621 (by show 82 + j + 1 + 0 ≤ 604314 ∧ 1451 + 6 * j + 6 + 0 ≤ 7283163; omega)) hP hD hS hA (fun r87 u86 H locs h88 hP hD hS => ?_)
  refine W.widen (k := 82 + j + 1) (n := 1451 + 6 * j + 6) (Nat.le_refl _) (Nat.le_refl _) ?_
  obtain ⟨hN9, hJ1⟩ := h88
  obtain rfl : (fv_Md_fetch μ (xs (nI (8 * j) + 1).toNatClampNeg) (xs (nI (8 * j) + 2).toNatClampNeg) (xs (nI (8 * j) + 3).toNatClampNeg) (xs (nI (8 * j) + 4).toNatClampNeg) (xs (nI (8 * j) + 5).toNatClampNeg) (xs (nI (8 * j) + 6).toNatClampNeg) (xs (nI (8 * j) + 7).toNatClampNeg)).1 = r87 := congrArg Prod.fst hN9
  obtain rfl : (fv_Md_fetch μ (xs (nI (8 * j) + 1).toNatClampNeg) (xs (nI (8 * j) + 2).toNatClampNeg) (xs (nI (8 * j) + 3).toNatClampNeg) (xs (nI (8 * j) + 4).toNatClampNeg) (xs (nI (8 * j) + 5).toNatClampNeg) (xs (nI (8 * j) + 6).toNatClampNeg) (xs (nI (8 * j) + 7).toNatClampNeg)).2 = u86 := congrArg Prod.snd hN9
  have hsim := fs_fetch (xs (nI (8 * j) + 1).toNatClampNeg) (xs (nI (8 * j) + 2).toNatClampNeg) (xs (nI (8 * j) + 3).toNatClampNeg) (xs (nI (8 * j) + 4).toNatClampNeg) (xs (nI (8 * j) + 5).toNatClampNeg) (xs (nI (8 * j) + 6).toNatClampNeg) (xs (nI (8 * j) + 7).toNatClampNeg) hI hJ hR
  refine lv_istore (lv' := [(7, .int (fv_Md_fetch μ (xs (nI (8 * j) + 1).toNatClampNeg) (xs (nI (8 * j) + 2).toNatClampNeg) (xs (nI (8 * j) + 3).toNatClampNeg) (xs (nI (8 * j) + 4).toNatClampNeg) (xs (nI (8 * j) + 5).toNatClampNeg) (xs (nI (8 * j) + 6).toNatClampNeg) (xs (nI (8 * j) + 7).toNatClampNeg)).1), (6, .int (fl_km_fetch (fv_Dk_fetch σ (xs (nI (8 * j) + 1).toNatClampNeg) (xs (nI (8 * j) + 2).toNatClampNeg) (xs (nI (8 * j) + 3).toNatClampNeg) (xs (nI (8 * j) + 4).toNatClampNeg) (xs (nI (8 * j) + 5).toNatClampNeg) (xs (nI (8 * j) + 6).toNatClampNeg) (xs (nI (8 * j) + 7).toNatClampNeg)).1)), (0, .ref b), (1, .ref (ad 0)), (2, .ref (am 0)), (3, .ref oa), (4, .ref ob), (5, .int (nI (8 * j)))]) hx hb fx_Lw_law_624 hl (by decide) rfl (fun ls hl => ?_)
  refine lv_aload_n hx hb fx_Lw_law_626 rfl (lv_at hl 4 rfl) ?_
  refine fL_callMi (va_runV (As := []) (rest := []) ⟨hx, hb, hml, hown, hts⟩ (fc_Md_thrown l D ca am H.size ((fv_Md_fetch μ (xs (nI (8 * j) + 1).toNatClampNeg) (xs (nI (8 * j) + 2).toNatClampNeg) (xs (nI (8 * j) + 3).toNatClampNeg) (xs (nI (8 * j) + 4).toNatClampNeg) (xs (nI (8 * j) + 5).toNatClampNeg) (xs (nI (8 * j) + 6).toNatClampNeg) (xs (nI (8 * j) + 7).toNatClampNeg)).2)  hJ1) ⟨callB_of 0 hts (fb_goodL fm_Md_thrown) rfl rfl rfl (hts _ (fb_in fq_6)) (hts _ (fb_in fq_630)) (by decide +kernel) ⟨Nat.le_of_ble_eq_true rfl, Nat.le_of_ble_eq_true rfl⟩, (hts _ (fb_in fq_631)), (hts _ (fb_in fq_632))⟩ (fL_preM hP hK hD hN) rfl rfl hl.1 rfl (lv_room (Nat.le_of_ble_eq_true rfl)) fx_Lw_law_627 (by show 82 + j + 1 + 0 ≤ 604314 ∧ 1451 + 6 * j + 6 + 0 ≤ 7283163; omega)) hP hD hS hA (fun r90 u89 H locs h91 hP hD hS => ?_)
  refine W.widen (k := 82 + j + 1) (n := 1451 + 6 * j + 6) (Nat.le_refl _) (Nat.le_refl _) ?_
  obtain ⟨rfl, rfl⟩ := h91
  refine lv_iload hx hb fx_Lw_law_630 (lv_at hl 1 rfl) ?_
  refine lv_icmp_eq (tgt := 637) hx hb fx_Lw_law_632 (by decide) (fun _ => ?_) (fun c92 => absurd hsim.1 c92)
  refine lv_iload hx hb fx_Lw_law_637 (lv_at hl 1 rfl) ?_
  refine lv_if_ne (tgt := 654) hx hb fx_Lw_law_639 (by decide) (fun c93 => ?_) (fun c93 => ?_)
  · refine lv_goto (tgt := 914) hx hb fx_Lw_law_654 (by decide) ?_
    exact hNext ((fv_Dk_fetch σ (xs (nI (8 * j) + 1).toNatClampNeg) (xs (nI (8 * j) + 2).toNatClampNeg) (xs (nI (8 * j) + 3).toNatClampNeg) (xs (nI (8 * j) + 4).toNatClampNeg) (xs (nI (8 * j) + 5).toNatClampNeg) (xs (nI (8 * j) + 6).toNatClampNeg) (xs (nI (8 * j) + 7).toNatClampNeg)).2.2) (if (fv_Dk_fetch σ (xs (nI (8 * j) + 1).toNatClampNeg) (xs (nI (8 * j) + 2).toNatClampNeg) (xs (nI (8 * j) + 3).toNatClampNeg) (xs (nI (8 * j) + 4).toNatClampNeg) (xs (nI (8 * j) + 5).toNatClampNeg) (xs (nI (8 * j) + 6).toNatClampNeg) (xs (nI (8 * j) + 7).toNatClampNeg)).1 = 0 then (fv_Dk_fetch σ (xs (nI (8 * j) + 1).toNatClampNeg) (xs (nI (8 * j) + 2).toNatClampNeg) (xs (nI (8 * j) + 3).toNatClampNeg) (xs (nI (8 * j) + 4).toNatClampNeg) (xs (nI (8 * j) + 5).toNatClampNeg) (xs (nI (8 * j) + 6).toNatClampNeg) (xs (nI (8 * j) + 7).toNatClampNeg)).2.1.toInt64 else x) y ((fv_Md_fetch μ (xs (nI (8 * j) + 1).toNatClampNeg) (xs (nI (8 * j) + 2).toNatClampNeg) (xs (nI (8 * j) + 3).toNatClampNeg) (xs (nI (8 * j) + 4).toNatClampNeg) (xs (nI (8 * j) + 5).toNatClampNeg) (xs (nI (8 * j) + 6).toNatClampNeg) (xs (nI (8 * j) + 7).toNatClampNeg)).2) H locs hI1 hJ1 hsim.2.2 hP hD hS ls (lv_sub hl [2, 3, 4, 5, 6, 7] rfl)
  · obtain ⟨hz, hv⟩ := hsim.2.1 c93
    rw [if_pos hz, hv] at hP hD
    refine lv_aload_n hx hb fx_Lw_law_642 rfl (lv_at hl 5 rfl) ?_
    refine lv_iconst (v := 0) hx hb fx_Lw_law_643 (by decide) ?_
    refine va_lald (D := D) hx hb hK hP 59 2 fL_at59 rfl (vp_in_nI (n := 0) (N := 1) (by decide) (by decide)) fx_Lw_law_644 ?_
    refine lv_iload hx hb fx_Lw_law_645 (lv_at hl 0 rfl) ?_
    refine lv_i2l hx hb fx_Lw_law_647 rfl ?_
    refine W.lcmp hx hb fx_Lw_law_648 ?_
    refine lv_if_eq (tgt := 654) hx hb fx_Lw_law_649 (by decide) (fun _ => ?_) (fun c94 => absurd fL_lc c94)
    refine lv_goto (tgt := 914) hx hb fx_Lw_law_654 (by decide) ?_
    exact hNext ((fv_Dk_fetch σ (xs (nI (8 * j) + 1).toNatClampNeg) (xs (nI (8 * j) + 2).toNatClampNeg) (xs (nI (8 * j) + 3).toNatClampNeg) (xs (nI (8 * j) + 4).toNatClampNeg) (xs (nI (8 * j) + 5).toNatClampNeg) (xs (nI (8 * j) + 6).toNatClampNeg) (xs (nI (8 * j) + 7).toNatClampNeg)).2.2) ((fv_Md_fetch μ (xs (nI (8 * j) + 1).toNatClampNeg) (xs (nI (8 * j) + 2).toNatClampNeg) (xs (nI (8 * j) + 3).toNatClampNeg) (xs (nI (8 * j) + 4).toNatClampNeg) (xs (nI (8 * j) + 5).toNatClampNeg) (xs (nI (8 * j) + 6).toNatClampNeg) (xs (nI (8 * j) + 7).toNatClampNeg)).1.toInt64) y ((fv_Md_fetch μ (xs (nI (8 * j) + 1).toNatClampNeg) (xs (nI (8 * j) + 2).toNatClampNeg) (xs (nI (8 * j) + 3).toNatClampNeg) (xs (nI (8 * j) + 4).toNatClampNeg) (xs (nI (8 * j) + 5).toNatClampNeg) (xs (nI (8 * j) + 6).toNatClampNeg) (xs (nI (8 * j) + 7).toNatClampNeg)).2) H locs hI1 hJ1 hsim.2.2 hP hD hS ls (lv_sub hl [2, 3, 4, 5, 6, 7] rfl)
set_option maxHeartbeats 4000000 in
theorem fL_case6 {p : Program} {l : Launch} {e : Env} {s : State} {m : MethodId} {below : List Frame} {meth : Method} {c : Code} {b L : Nat} {xs : Nat → Int32} {D : va_G} {cR cP cO cE : ClassId} {ad : Nat → Nat} {oa ob : Nat} {ca : Nat → ClassId} {am : Nat → Nat} {A : Nat → Prop} {j : Nat} (hst : l.stackTraces = false) (hx : p.tables.exec = Jvm.exec) (hb : c.code = code) (hml : c.maxLocals = 9) (hown : s.vm.findClass "FetchDeskLaw" = some m.cls) (hts : ∀ w ∈ lw_tbl, w.before #[Value.ref b] s = true) (hXs : va_X b L xs s s.heap) (hbl : b < s.heap.size) (hbA : ¬ A b) (hA : ∀ q : Nat, s.heap.size ≤ q → A q) (hK : va_K D fn_cl (fL_tys cR cP cO cE ca) s) (hN : fd_N s) (hX : fd_X s) (hXn : fd_Xn s) (hZ : fd_Zs A s s.heap) (hj : j ≤ 4096) {H : Heap} {locs : List Loc} {ls : Array Slot} {σ : FDS} {x : Int64} {y : UInt64} {μ : FMS} (hin : ∀ k : Int32, 0 ≤ k ∧ k < 8 → vp_in (nI (8 * j) + k) L) (hI : fd_Inv σ) (hJ : fm_Inv μ) (hR : fs_Rel σ μ) (hP : va_P D fn_cl (fL_w cR cP cO cE ad oa ob ca am σ x y μ) H) (hD : va_D A (fL_w cR cP cO cE ad oa ob ca am σ x y μ)) (hS : va_S A s.heap H locs) (hl : lv_has ls 9 [(0, .ref b), (1, .ref (ad 0)), (2, .ref (am 0)), (3, .ref oa), (4, .ref ob), (5, .int (nI (8 * j)))]) (hNext : ∀ (σ : FDS) (x : Int64) (y : UInt64) (μ : FMS) (H : Heap) (locs : List Loc), fd_Inv σ → fm_Inv μ → fs_Rel σ μ → va_P D fn_cl (fL_w cR cP cO cE ad oa ob ca am σ x y μ) H → va_D A (fL_w cR cP cO cE ad oa ob ca am σ x y μ) → va_S A s.heap H locs → ∀ ls : Array Slot, lv_has ls 9 [(0, .ref b), (1, .ref (ad 0)), (2, .ref (am 0)), (3, .ref oa), (4, .ref ob), (5, .int (nI (8 * j)))] → W p l e room_1 s m #[Value.ref b] below meth c H locs (82 + j + 1) (1451 + 6 * j + 6) (lw_Z below #[Value.ref b] s) (F0 m 914 ls [])) : W p l e room_1 s m #[Value.ref b] below meth c H locs (82 + j) (1451 + 6 * j) (lw_Z below #[Value.ref b] s) (F0 m 657 ls []) := by
  refine lv_aload_n hx hb fx_Lw_law_657 rfl (lv_at hl 1 rfl) ?_
  refine lv_aload_n hx hb fx_Lw_law_658 rfl (lv_at hl 0 rfl) ?_
  refine lv_iload hx hb fx_Lw_law_659 (lv_at hl 5 rfl) ?_
  refine lv_iconst (v := 1) hx hb fx_Lw_law_661 (by decide) ?_
  refine lv_iadd hx hb fx_Lw_law_662 ?_
  refine va_sld hx hb hXs hbl hbA hS (hin 1 (by decide)) fx_Lw_law_663 ?_
  refine lv_aload_n hx hb fx_Lw_law_664 rfl (lv_at hl 3 rfl) ?_
  refine fL_callL (vx_runSW (As := [.ref (ad 0), .int (xs (nI (8 * j) + 1).toNatClampNeg), .ref oa]) (rest := []) ⟨hx, hb, hml, hown, hts⟩ (fl_told l hst D cR cP ad H.size σ (xs (nI (8 * j) + 1).toNatClampNeg) cO oa x hI) (vx_cwSW 3 hts (fl_goodS fq_473 fq_474 fq_0 fm_Lw_told) rfl rfl rfl (by decide +kernel) ⟨Nat.le_of_ble_eq_true rfl, Nat.le_of_ble_eq_true rfl⟩) (fL_preL hP hK hD hS hA hN hX hXn hZ) rfl rfl hl.1 rfl (lv_room (Nat.le_of_ble_eq_true rfl)) fx_Lw_law_665 (by show 82 + j + 1 ≤ 604314 ∧ 1451 + 6 * j + 6 ≤ 7283163; omega)) hP hD hS hA (fun r96 u95 H locs h97 hP hD hS => ?_)
  obtain ⟨u1, u2⟩ := u95
  dsimp only at h97 hP hD
  obtain ⟨rfl, rfl, rfl, hI1⟩ := h97
  refine lv_istore (lv' := [(6, .int (fl_km_told (fv_Dk_told σ (xs (nI (8 * j) + 1).toNatClampNeg)).1)), (0, .ref b), (1, .ref (ad 0)), (2, .ref (am 0)), (3, .ref oa), (4, .ref ob), (5, .int (nI (8 * j)))]) hx hb fx_Lw_law_668 hl (by decide) rfl (fun ls hl => ?_)
  refine lv_aload_n hx hb fx_Lw_law_670 rfl (lv_at hl 3 rfl) ?_
  refine lv_aload_n hx hb fx_Lw_law_671 rfl (lv_at hl 1 rfl) ?_
  refine lv_iload hx hb fx_Lw_law_672 (lv_at hl 6 rfl) ?_
  refine lv_iconst (v := 1) hx hb fx_Lw_law_674 (by decide) ?_
  refine lv_iadd hx hb fx_Lw_law_675 ?_
  refine va_sld hx hb hXs hbl hbA hS (hin 1 (by decide)) fx_Lw_law_676 ?_
  refine fL_callMi (va_runV (As := [.int (xs (nI (8 * j) + 1).toNatClampNeg)]) (rest := []) ⟨hx, hb, hml, hown, hts⟩ (fc_Md_told l D ca am H.size μ (xs (nI (8 * j) + 1).toNatClampNeg) hJ) ⟨callB_of 1 hts (fb_goodL fm_Md_told) rfl rfl rfl (hts _ (fb_in fq_6)) (hts _ (fb_in fq_713)) (by decide +kernel) ⟨Nat.le_of_ble_eq_true rfl, Nat.le_of_ble_eq_true rfl⟩, (hts _ (fb_in fq_714)), (hts _ (fb_in fq_715))⟩ (fL_preM hP hK hD hN) rfl rfl hl.1 rfl (lv_room (Nat.le_of_ble_eq_true rfl)) fx_Lw_law_677 (by show 82 + j + 1 + 0 ≤ 604314 ∧ 1451 + 6 * j + 6 + 0 ≤ 7283163; omega)) hP hD hS hA (fun r99 u98 H locs h100 hP hD hS => ?_)
  refine W.widen (k := 82 + j + 1) (n := 1451 + 6 * j + 6) (Nat.le_refl _) (Nat.le_refl _) ?_
  obtain ⟨hN9, hJ1⟩ := h100
  obtain rfl : (fv_Md_told μ (xs (nI (8 * j) + 1).toNatClampNeg)).1 = r99 := congrArg Prod.fst hN9
  obtain rfl : (fv_Md_told μ (xs (nI (8 * j) + 1).toNatClampNeg)).2 = u98 := congrArg Prod.snd hN9
  have hsim := fs_told (xs (nI (8 * j) + 1).toNatClampNeg) hI hJ hR
  refine lv_istore (lv' := [(7, .int (fv_Md_told μ (xs (nI (8 * j) + 1).toNatClampNeg)).1), (6, .int (fl_km_told (fv_Dk_told σ (xs (nI (8 * j) + 1).toNatClampNeg)).1)), (0, .ref b), (1, .ref (ad 0)), (2, .ref (am 0)), (3, .ref oa), (4, .ref ob), (5, .int (nI (8 * j)))]) hx hb fx_Lw_law_680 hl (by decide) rfl (fun ls hl => ?_)
  refine lv_aload_n hx hb fx_Lw_law_682 rfl (lv_at hl 4 rfl) ?_
  refine fL_callMi (va_runV (As := []) (rest := []) ⟨hx, hb, hml, hown, hts⟩ (fc_Md_thrown l D ca am H.size ((fv_Md_told μ (xs (nI (8 * j) + 1).toNatClampNeg)).2)  hJ1) ⟨callB_of 0 hts (fb_goodL fm_Md_thrown) rfl rfl rfl (hts _ (fb_in fq_6)) (hts _ (fb_in fq_630)) (by decide +kernel) ⟨Nat.le_of_ble_eq_true rfl, Nat.le_of_ble_eq_true rfl⟩, (hts _ (fb_in fq_631)), (hts _ (fb_in fq_632))⟩ (fL_preM hP hK hD hN) rfl rfl hl.1 rfl (lv_room (Nat.le_of_ble_eq_true rfl)) fx_Lw_law_683 (by show 82 + j + 1 + 0 ≤ 604314 ∧ 1451 + 6 * j + 6 + 0 ≤ 7283163; omega)) hP hD hS hA (fun r102 u101 H locs h103 hP hD hS => ?_)
  refine W.widen (k := 82 + j + 1) (n := 1451 + 6 * j + 6) (Nat.le_refl _) (Nat.le_refl _) ?_
  obtain ⟨rfl, rfl⟩ := h103
  refine lv_iload hx hb fx_Lw_law_686 (lv_at hl 1 rfl) ?_
  refine lv_icmp_eq (tgt := 693) hx hb fx_Lw_law_688 (by decide) (fun _ => ?_) (fun c104 => absurd hsim.1 c104)
  refine lv_iload hx hb fx_Lw_law_693 (lv_at hl 1 rfl) ?_
  refine lv_if_ne (tgt := 710) hx hb fx_Lw_law_695 (by decide) (fun c105 => ?_) (fun c105 => ?_)
  · refine lv_goto (tgt := 914) hx hb fx_Lw_law_710 (by decide) ?_
    exact hNext ((fv_Dk_told σ (xs (nI (8 * j) + 1).toNatClampNeg)).2.2) (if (fv_Dk_told σ (xs (nI (8 * j) + 1).toNatClampNeg)).1 = 0 then (fv_Dk_told σ (xs (nI (8 * j) + 1).toNatClampNeg)).2.1.toInt64 else x) y ((fv_Md_told μ (xs (nI (8 * j) + 1).toNatClampNeg)).2) H locs hI1 hJ1 hsim.2.2 hP hD hS ls (lv_sub hl [2, 3, 4, 5, 6, 7] rfl)
  · obtain ⟨hz, hv⟩ := hsim.2.1 c105
    rw [if_pos hz, hv] at hP hD
    refine lv_aload_n hx hb fx_Lw_law_698 rfl (lv_at hl 5 rfl) ?_
    refine lv_iconst (v := 0) hx hb fx_Lw_law_699 (by decide) ?_
    refine va_lald (D := D) hx hb hK hP 59 2 fL_at59 rfl (vp_in_nI (n := 0) (N := 1) (by decide) (by decide)) fx_Lw_law_700 ?_
    refine lv_iload hx hb fx_Lw_law_701 (lv_at hl 0 rfl) ?_
    refine lv_i2l hx hb fx_Lw_law_703 rfl ?_
    refine W.lcmp hx hb fx_Lw_law_704 ?_
    refine lv_if_eq (tgt := 710) hx hb fx_Lw_law_705 (by decide) (fun _ => ?_) (fun c106 => absurd fL_lc c106)
    refine lv_goto (tgt := 914) hx hb fx_Lw_law_710 (by decide) ?_
    exact hNext ((fv_Dk_told σ (xs (nI (8 * j) + 1).toNatClampNeg)).2.2) ((fv_Md_told μ (xs (nI (8 * j) + 1).toNatClampNeg)).1.toInt64) y ((fv_Md_told μ (xs (nI (8 * j) + 1).toNatClampNeg)).2) H locs hI1 hJ1 hsim.2.2 hP hD hS ls (lv_sub hl [2, 3, 4, 5, 6, 7] rfl)
set_option maxHeartbeats 4000000 in
theorem fL_case7 {p : Program} {l : Launch} {e : Env} {s : State} {m : MethodId} {below : List Frame} {meth : Method} {c : Code} {b L : Nat} {xs : Nat → Int32} {D : va_G} {cR cP cO cE : ClassId} {ad : Nat → Nat} {oa ob : Nat} {ca : Nat → ClassId} {am : Nat → Nat} {A : Nat → Prop} {j : Nat} (hst : l.stackTraces = false) (hx : p.tables.exec = Jvm.exec) (hb : c.code = code) (hml : c.maxLocals = 9) (hown : s.vm.findClass "FetchDeskLaw" = some m.cls) (hts : ∀ w ∈ lw_tbl, w.before #[Value.ref b] s = true) (hXs : va_X b L xs s s.heap) (hbl : b < s.heap.size) (hbA : ¬ A b) (hA : ∀ q : Nat, s.heap.size ≤ q → A q) (hK : va_K D fn_cl (fL_tys cR cP cO cE ca) s) (hN : fd_N s) (hX : fd_X s) (hXn : fd_Xn s) (hZ : fd_Zs A s s.heap) (hj : j ≤ 4096) {H : Heap} {locs : List Loc} {ls : Array Slot} {σ : FDS} {x : Int64} {y : UInt64} {μ : FMS} (hin : ∀ k : Int32, 0 ≤ k ∧ k < 8 → vp_in (nI (8 * j) + k) L) (hI : fd_Inv σ) (hJ : fm_Inv μ) (hR : fs_Rel σ μ) (hP : va_P D fn_cl (fL_w cR cP cO cE ad oa ob ca am σ x y μ) H) (hD : va_D A (fL_w cR cP cO cE ad oa ob ca am σ x y μ)) (hS : va_S A s.heap H locs) (hl : lv_has ls 9 [(0, .ref b), (1, .ref (ad 0)), (2, .ref (am 0)), (3, .ref oa), (4, .ref ob), (5, .int (nI (8 * j)))]) (hNext : ∀ (σ : FDS) (x : Int64) (y : UInt64) (μ : FMS) (H : Heap) (locs : List Loc), fd_Inv σ → fm_Inv μ → fs_Rel σ μ → va_P D fn_cl (fL_w cR cP cO cE ad oa ob ca am σ x y μ) H → va_D A (fL_w cR cP cO cE ad oa ob ca am σ x y μ) → va_S A s.heap H locs → ∀ ls : Array Slot, lv_has ls 9 [(0, .ref b), (1, .ref (ad 0)), (2, .ref (am 0)), (3, .ref oa), (4, .ref ob), (5, .int (nI (8 * j)))] → W p l e room_1 s m #[Value.ref b] below meth c H locs (82 + j + 1) (1451 + 6 * j + 6) (lw_Z below #[Value.ref b] s) (F0 m 914 ls [])) : W p l e room_1 s m #[Value.ref b] below meth c H locs (82 + j) (1451 + 6 * j) (lw_Z below #[Value.ref b] s) (F0 m 713 ls []) := by
  refine lv_aload_n hx hb fx_Lw_law_713 rfl (lv_at hl 1 rfl) ?_
  refine lv_aload_n hx hb fx_Lw_law_714 rfl (lv_at hl 0 rfl) ?_
  refine lv_iload hx hb fx_Lw_law_715 (lv_at hl 5 rfl) ?_
  refine lv_iconst (v := 1) hx hb fx_Lw_law_717 (by decide) ?_
  refine lv_iadd hx hb fx_Lw_law_718 ?_
  refine va_sld hx hb hXs hbl hbA hS (hin 1 (by decide)) fx_Lw_law_719 ?_
  refine lv_aload_n hx hb fx_Lw_law_720 rfl (lv_at hl 0 rfl) ?_
  refine lv_iload hx hb fx_Lw_law_721 (lv_at hl 5 rfl) ?_
  refine lv_iconst (v := 2) hx hb fx_Lw_law_723 (by decide) ?_
  refine lv_iadd hx hb fx_Lw_law_724 ?_
  refine va_sld hx hb hXs hbl hbA hS (hin 2 (by decide)) fx_Lw_law_725 ?_
  refine lv_aload_n hx hb fx_Lw_law_726 rfl (lv_at hl 3 rfl) ?_
  refine fL_callL (vx_runSW (As := [.ref (ad 0), .int (xs (nI (8 * j) + 1).toNatClampNeg), .int (xs (nI (8 * j) + 2).toNatClampNeg), .ref oa]) (rest := []) ⟨hx, hb, hml, hown, hts⟩ (fl_kept l hst D cR cP ad H.size σ (xs (nI (8 * j) + 1).toNatClampNeg) (xs (nI (8 * j) + 2).toNatClampNeg) cO oa x hI) (vx_cwSW 4 hts (fl_goodS fq_480 fq_481 fq_0 fm_Lw_kept) rfl rfl rfl (by decide +kernel) ⟨Nat.le_of_ble_eq_true rfl, Nat.le_of_ble_eq_true rfl⟩) (fL_preL hP hK hD hS hA hN hX hXn hZ) rfl rfl hl.1 rfl (lv_room (Nat.le_of_ble_eq_true rfl)) fx_Lw_law_727 (by show 82 + j + 1 ≤ 604314 ∧ 1451 + 6 * j + 6 ≤ 7283163; omega)) hP hD hS hA (fun r108 u107 H locs h109 hP hD hS => ?_)
  obtain ⟨u1, u2⟩ := u107
  dsimp only at h109 hP hD
  obtain ⟨rfl, rfl, rfl, hI1⟩ := h109
  refine lv_istore (lv' := [(6, .int (fl_km_kept (fv_Dk_kept σ (xs (nI (8 * j) + 1).toNatClampNeg) (xs (nI (8 * j) + 2).toNatClampNeg)).1)), (0, .ref b), (1, .ref (ad 0)), (2, .ref (am 0)), (3, .ref oa), (4, .ref ob), (5, .int (nI (8 * j)))]) hx hb fx_Lw_law_730 hl (by decide) rfl (fun ls hl => ?_)
  refine lv_aload_n hx hb fx_Lw_law_732 rfl (lv_at hl 3 rfl) ?_
  refine lv_aload_n hx hb fx_Lw_law_733 rfl (lv_at hl 1 rfl) ?_
  refine lv_iload hx hb fx_Lw_law_734 (lv_at hl 6 rfl) ?_
  refine lv_iconst (v := 1) hx hb fx_Lw_law_736 (by decide) ?_
  refine lv_iadd hx hb fx_Lw_law_737 ?_
  refine va_sld hx hb hXs hbl hbA hS (hin 1 (by decide)) fx_Lw_law_738 ?_
  refine lv_aload_n hx hb fx_Lw_law_739 rfl (lv_at hl 1 rfl) ?_
  refine lv_iload hx hb fx_Lw_law_740 (lv_at hl 6 rfl) ?_
  refine lv_iconst (v := 2) hx hb fx_Lw_law_742 (by decide) ?_
  refine lv_iadd hx hb fx_Lw_law_743 ?_
  refine va_sld hx hb hXs hbl hbA hS (hin 2 (by decide)) fx_Lw_law_744 ?_
  refine fL_callMi (va_runV (As := [.int (xs (nI (8 * j) + 1).toNatClampNeg), .int (xs (nI (8 * j) + 2).toNatClampNeg)]) (rest := []) ⟨hx, hb, hml, hown, hts⟩ (fc_Md_kept l D ca am H.size μ (xs (nI (8 * j) + 1).toNatClampNeg) (xs (nI (8 * j) + 2).toNatClampNeg) hJ) ⟨callB_of 2 hts (fb_goodL fm_Md_kept) rfl rfl rfl (hts _ (fb_in fq_6)) (hts _ (fb_in fq_717)) (by decide +kernel) ⟨Nat.le_of_ble_eq_true rfl, Nat.le_of_ble_eq_true rfl⟩, (hts _ (fb_in fq_718)), (hts _ (fb_in fq_719))⟩ (fL_preM hP hK hD hN) rfl rfl hl.1 rfl (lv_room (Nat.le_of_ble_eq_true rfl)) fx_Lw_law_745 (by show 82 + j + 1 + 0 ≤ 604314 ∧ 1451 + 6 * j + 6 + 0 ≤ 7283163; omega)) hP hD hS hA (fun r111 u110 H locs h112 hP hD hS => ?_)
  refine W.widen (k := 82 + j + 1) (n := 1451 + 6 * j + 6) (Nat.le_refl _) (Nat.le_refl _) ?_
  obtain ⟨hN9, hJ1⟩ := h112
  obtain rfl : (fv_Md_kept μ (xs (nI (8 * j) + 1).toNatClampNeg) (xs (nI (8 * j) + 2).toNatClampNeg)).1 = r111 := congrArg Prod.fst hN9
  obtain rfl : (fv_Md_kept μ (xs (nI (8 * j) + 1).toNatClampNeg) (xs (nI (8 * j) + 2).toNatClampNeg)).2 = u110 := congrArg Prod.snd hN9
  have hsim := fs_kept (xs (nI (8 * j) + 1).toNatClampNeg) (xs (nI (8 * j) + 2).toNatClampNeg) hI hJ hR
  refine lv_istore (lv' := [(7, .int (fv_Md_kept μ (xs (nI (8 * j) + 1).toNatClampNeg) (xs (nI (8 * j) + 2).toNatClampNeg)).1), (6, .int (fl_km_kept (fv_Dk_kept σ (xs (nI (8 * j) + 1).toNatClampNeg) (xs (nI (8 * j) + 2).toNatClampNeg)).1)), (0, .ref b), (1, .ref (ad 0)), (2, .ref (am 0)), (3, .ref oa), (4, .ref ob), (5, .int (nI (8 * j)))]) hx hb fx_Lw_law_748 hl (by decide) rfl (fun ls hl => ?_)
  refine lv_aload_n hx hb fx_Lw_law_750 rfl (lv_at hl 4 rfl) ?_
  refine fL_callMi (va_runV (As := []) (rest := []) ⟨hx, hb, hml, hown, hts⟩ (fc_Md_thrown l D ca am H.size ((fv_Md_kept μ (xs (nI (8 * j) + 1).toNatClampNeg) (xs (nI (8 * j) + 2).toNatClampNeg)).2)  hJ1) ⟨callB_of 0 hts (fb_goodL fm_Md_thrown) rfl rfl rfl (hts _ (fb_in fq_6)) (hts _ (fb_in fq_630)) (by decide +kernel) ⟨Nat.le_of_ble_eq_true rfl, Nat.le_of_ble_eq_true rfl⟩, (hts _ (fb_in fq_631)), (hts _ (fb_in fq_632))⟩ (fL_preM hP hK hD hN) rfl rfl hl.1 rfl (lv_room (Nat.le_of_ble_eq_true rfl)) fx_Lw_law_751 (by show 82 + j + 1 + 0 ≤ 604314 ∧ 1451 + 6 * j + 6 + 0 ≤ 7283163; omega)) hP hD hS hA (fun r114 u113 H locs h115 hP hD hS => ?_)
  refine W.widen (k := 82 + j + 1) (n := 1451 + 6 * j + 6) (Nat.le_refl _) (Nat.le_refl _) ?_
  obtain ⟨rfl, rfl⟩ := h115
  refine lv_iload hx hb fx_Lw_law_754 (lv_at hl 1 rfl) ?_
  refine lv_icmp_eq (tgt := 761) hx hb fx_Lw_law_756 (by decide) (fun _ => ?_) (fun c116 => absurd hsim.1 c116)
  refine lv_iload hx hb fx_Lw_law_761 (lv_at hl 1 rfl) ?_
  refine lv_if_ne (tgt := 778) hx hb fx_Lw_law_763 (by decide) (fun c117 => ?_) (fun c117 => ?_)
  · refine lv_goto (tgt := 914) hx hb fx_Lw_law_778 (by decide) ?_
    exact hNext ((fv_Dk_kept σ (xs (nI (8 * j) + 1).toNatClampNeg) (xs (nI (8 * j) + 2).toNatClampNeg)).2.2) (if (fv_Dk_kept σ (xs (nI (8 * j) + 1).toNatClampNeg) (xs (nI (8 * j) + 2).toNatClampNeg)).1 = 0 then (fv_Dk_kept σ (xs (nI (8 * j) + 1).toNatClampNeg) (xs (nI (8 * j) + 2).toNatClampNeg)).2.1.toInt64 else x) y ((fv_Md_kept μ (xs (nI (8 * j) + 1).toNatClampNeg) (xs (nI (8 * j) + 2).toNatClampNeg)).2) H locs hI1 hJ1 hsim.2.2 hP hD hS ls (lv_sub hl [2, 3, 4, 5, 6, 7] rfl)
  · obtain ⟨hz, hv⟩ := hsim.2.1 c117
    rw [if_pos hz, hv] at hP hD
    refine lv_aload_n hx hb fx_Lw_law_766 rfl (lv_at hl 5 rfl) ?_
    refine lv_iconst (v := 0) hx hb fx_Lw_law_767 (by decide) ?_
    refine va_lald (D := D) hx hb hK hP 59 2 fL_at59 rfl (vp_in_nI (n := 0) (N := 1) (by decide) (by decide)) fx_Lw_law_768 ?_
    refine lv_iload hx hb fx_Lw_law_769 (lv_at hl 0 rfl) ?_
    refine lv_i2l hx hb fx_Lw_law_771 rfl ?_
    refine W.lcmp hx hb fx_Lw_law_772 ?_
    refine lv_if_eq (tgt := 778) hx hb fx_Lw_law_773 (by decide) (fun _ => ?_) (fun c118 => absurd fL_lc c118)
    refine lv_goto (tgt := 914) hx hb fx_Lw_law_778 (by decide) ?_
    exact hNext ((fv_Dk_kept σ (xs (nI (8 * j) + 1).toNatClampNeg) (xs (nI (8 * j) + 2).toNatClampNeg)).2.2) ((fv_Md_kept μ (xs (nI (8 * j) + 1).toNatClampNeg) (xs (nI (8 * j) + 2).toNatClampNeg)).1.toInt64) y ((fv_Md_kept μ (xs (nI (8 * j) + 1).toNatClampNeg) (xs (nI (8 * j) + 2).toNatClampNeg)).2) H locs hI1 hJ1 hsim.2.2 hP hD hS ls (lv_sub hl [2, 3, 4, 5, 6, 7] rfl)
set_option maxHeartbeats 4000000 in
theorem fL_case8 {p : Program} {l : Launch} {e : Env} {s : State} {m : MethodId} {below : List Frame} {meth : Method} {c : Code} {b L : Nat} {xs : Nat → Int32} {D : va_G} {cR cP cO cE : ClassId} {ad : Nat → Nat} {oa ob : Nat} {ca : Nat → ClassId} {am : Nat → Nat} {A : Nat → Prop} {j : Nat} (hst : l.stackTraces = false) (hx : p.tables.exec = Jvm.exec) (hb : c.code = code) (hml : c.maxLocals = 9) (hown : s.vm.findClass "FetchDeskLaw" = some m.cls) (hts : ∀ w ∈ lw_tbl, w.before #[Value.ref b] s = true) (hXs : va_X b L xs s s.heap) (hbl : b < s.heap.size) (hbA : ¬ A b) (hA : ∀ q : Nat, s.heap.size ≤ q → A q) (hK : va_K D fn_cl (fL_tys cR cP cO cE ca) s) (hN : fd_N s) (hX : fd_X s) (hXn : fd_Xn s) (hZ : fd_Zs A s s.heap) (hj : j ≤ 4096) {H : Heap} {locs : List Loc} {ls : Array Slot} {σ : FDS} {x : Int64} {y : UInt64} {μ : FMS} (hin : ∀ k : Int32, 0 ≤ k ∧ k < 8 → vp_in (nI (8 * j) + k) L) (hI : fd_Inv σ) (hJ : fm_Inv μ) (hR : fs_Rel σ μ) (hP : va_P D fn_cl (fL_w cR cP cO cE ad oa ob ca am σ x y μ) H) (hD : va_D A (fL_w cR cP cO cE ad oa ob ca am σ x y μ)) (hS : va_S A s.heap H locs) (hl : lv_has ls 9 [(0, .ref b), (1, .ref (ad 0)), (2, .ref (am 0)), (3, .ref oa), (4, .ref ob), (5, .int (nI (8 * j)))]) (hNext : ∀ (σ : FDS) (x : Int64) (y : UInt64) (μ : FMS) (H : Heap) (locs : List Loc), fd_Inv σ → fm_Inv μ → fs_Rel σ μ → va_P D fn_cl (fL_w cR cP cO cE ad oa ob ca am σ x y μ) H → va_D A (fL_w cR cP cO cE ad oa ob ca am σ x y μ) → va_S A s.heap H locs → ∀ ls : Array Slot, lv_has ls 9 [(0, .ref b), (1, .ref (ad 0)), (2, .ref (am 0)), (3, .ref oa), (4, .ref ob), (5, .int (nI (8 * j)))] → W p l e room_1 s m #[Value.ref b] below meth c H locs (82 + j + 1) (1451 + 6 * j + 6) (lw_Z below #[Value.ref b] s) (F0 m 914 ls [])) : W p l e room_1 s m #[Value.ref b] below meth c H locs (82 + j) (1451 + 6 * j) (lw_Z below #[Value.ref b] s) (F0 m 781 ls []) := by
  refine lv_aload_n hx hb fx_Lw_law_781 rfl (lv_at hl 1 rfl) ?_
  refine lv_aload_n hx hb fx_Lw_law_782 rfl (lv_at hl 0 rfl) ?_
  refine lv_iload hx hb fx_Lw_law_783 (lv_at hl 5 rfl) ?_
  refine lv_iconst (v := 1) hx hb fx_Lw_law_785 (by decide) ?_
  refine lv_iadd hx hb fx_Lw_law_786 ?_
  refine va_sld hx hb hXs hbl hbA hS (hin 1 (by decide)) fx_Lw_law_787 ?_
  refine lv_aload hx hb fx_Lw_law_788 (lv_at hl 4 rfl) ?_
  refine fL_callD (vx_runSW (As := [.ref (ad 0), .int (xs (nI (8 * j) + 1).toNatClampNeg), .ref ob]) (rest := []) ⟨hx, hb, hml, hown, hts⟩ (fl_left l hst D cR cP ad H.size σ (xs (nI (8 * j) + 1).toNatClampNeg) cE ob y hI) (vx_cwSW 3 hts (fl_goodS fq_507 fq_508 fq_0 fm_Lw_left) rfl rfl rfl (by decide +kernel) ⟨Nat.le_of_ble_eq_true rfl, Nat.le_of_ble_eq_true rfl⟩) (fL_preD hP hK hD hS hA hN hX hXn hZ) rfl rfl hl.1 rfl (lv_room (Nat.le_of_ble_eq_true rfl)) fx_Lw_law_790 (by show 82 + j + 1 ≤ 604314 ∧ 1451 + 6 * j + 6 ≤ 7283163; omega)) hP hD hS hA (fun r120 u119 H locs h121 hP hD hS => ?_)
  obtain ⟨u1, u2⟩ := u119
  dsimp only at h121 hP hD
  obtain ⟨rfl, rfl, rfl, hI1⟩ := h121
  refine lv_istore (lv' := [(6, .int (fl_km_left (fv_Dk_left σ (xs (nI (8 * j) + 1).toNatClampNeg)).1)), (0, .ref b), (1, .ref (ad 0)), (2, .ref (am 0)), (3, .ref oa), (4, .ref ob), (5, .int (nI (8 * j)))]) hx hb fx_Lw_law_793 hl (by decide) rfl (fun ls hl => ?_)
  refine lv_aload_n hx hb fx_Lw_law_795 rfl (lv_at hl 3 rfl) ?_
  refine lv_aload_n hx hb fx_Lw_law_796 rfl (lv_at hl 1 rfl) ?_
  refine lv_iload hx hb fx_Lw_law_797 (lv_at hl 6 rfl) ?_
  refine lv_iconst (v := 1) hx hb fx_Lw_law_799 (by decide) ?_
  refine lv_iadd hx hb fx_Lw_law_800 ?_
  refine va_sld hx hb hXs hbl hbA hS (hin 1 (by decide)) fx_Lw_law_801 ?_
  refine fL_callMd (va_runV (As := [.int (xs (nI (8 * j) + 1).toNatClampNeg)]) (rest := []) ⟨hx, hb, hml, hown, hts⟩ (fc_Md_left l D ca am H.size μ (xs (nI (8 * j) + 1).toNatClampNeg) hJ) ⟨callB_of 1 hts (fb_goodL fm_Md_left) rfl rfl rfl (hts _ (fb_in fq_6)) (hts _ (fb_in fq_721)) (by decide +kernel) ⟨Nat.le_of_ble_eq_true rfl, Nat.le_of_ble_eq_true rfl⟩, (hts _ (fb_in fq_722)), (hts _ (fb_in fq_723))⟩ (fL_preM hP hK hD hN) rfl rfl hl.1 rfl (lv_room (Nat.le_of_ble_eq_true rfl)) fx_Lw_law_802 (by show 82 + j + 1 + 0 ≤ 604314 ∧ 1451 + 6 * j + 6 + 0 ≤ 7283163; omega)) hP hD hS hA (fun r123 u122 H locs h124 hP hD hS => ?_)
  refine W.widen (k := 82 + j + 1) (n := 1451 + 6 * j + 6) (Nat.le_refl _) (Nat.le_refl _) ?_
  obtain ⟨hN9, hJ1⟩ := h124
  obtain rfl : (fv_Md_left μ (xs (nI (8 * j) + 1).toNatClampNeg)).1 = r123 := congrArg Prod.fst hN9
  obtain rfl : (fv_Md_left μ (xs (nI (8 * j) + 1).toNatClampNeg)).2 = u122 := congrArg Prod.snd hN9
  have hsim := fs_left (xs (nI (8 * j) + 1).toNatClampNeg) hI hJ hR
  refine lv_dstore (lv' := [(7, .double (fv_Md_left μ (xs (nI (8 * j) + 1).toNatClampNeg)).1), (6, .int (fl_km_left (fv_Dk_left σ (xs (nI (8 * j) + 1).toNatClampNeg)).1)), (0, .ref b), (1, .ref (ad 0)), (2, .ref (am 0)), (3, .ref oa), (4, .ref ob), (5, .int (nI (8 * j)))]) hx hb fx_Lw_law_805 hl (by decide) rfl (fun ls hl => ?_)
  refine lv_aload_n hx hb fx_Lw_law_807 rfl (lv_at hl 4 rfl) ?_
  refine fL_callMi (va_runV (As := []) (rest := []) ⟨hx, hb, hml, hown, hts⟩ (fc_Md_thrown l D ca am H.size ((fv_Md_left μ (xs (nI (8 * j) + 1).toNatClampNeg)).2)  hJ1) ⟨callB_of 0 hts (fb_goodL fm_Md_thrown) rfl rfl rfl (hts _ (fb_in fq_6)) (hts _ (fb_in fq_630)) (by decide +kernel) ⟨Nat.le_of_ble_eq_true rfl, Nat.le_of_ble_eq_true rfl⟩, (hts _ (fb_in fq_631)), (hts _ (fb_in fq_632))⟩ (fL_preM hP hK hD hN) rfl rfl hl.1 rfl (lv_room (Nat.le_of_ble_eq_true rfl)) fx_Lw_law_808 (by show 82 + j + 1 + 0 ≤ 604314 ∧ 1451 + 6 * j + 6 + 0 ≤ 7283163; omega)) hP hD hS hA (fun r126 u125 H locs h127 hP hD hS => ?_)
  refine W.widen (k := 82 + j + 1) (n := 1451 + 6 * j + 6) (Nat.le_refl _) (Nat.le_refl _) ?_
  obtain ⟨rfl, rfl⟩ := h127
  refine lv_iload hx hb fx_Lw_law_811 (lv_at hl 1 rfl) ?_
  refine lv_icmp_eq (tgt := 818) hx hb fx_Lw_law_813 (by decide) (fun _ => ?_) (fun c128 => absurd hsim.1 c128)
  refine lv_iload hx hb fx_Lw_law_818 (lv_at hl 1 rfl) ?_
  refine lv_if_ne (tgt := 855) hx hb fx_Lw_law_820 (by decide) (fun c129 => ?_) (fun c129 => ?_)
  · refine lv_goto (tgt := 914) hx hb fx_Lw_law_855 (by decide) ?_
    exact hNext ((fv_Dk_left σ (xs (nI (8 * j) + 1).toNatClampNeg)).2.2) x (if (fv_Dk_left σ (xs (nI (8 * j) + 1).toNatClampNeg)).1 = 0 then (fv_Dk_left σ (xs (nI (8 * j) + 1).toNatClampNeg)).2.1 else y) ((fv_Md_left μ (xs (nI (8 * j) + 1).toNatClampNeg)).2) H locs hI1 hJ1 hsim.2.2 hP hD hS ls (lv_sub hl [2, 3, 4, 5, 6, 7] rfl)
  · obtain ⟨hz, hv⟩ := hsim.2.1 c129
    rw [if_pos hz, hv.1] at hP hD
    refine lv_aload hx hb fx_Lw_law_823 (lv_at hl 6 rfl) ?_
    refine lv_iconst (v := 0) hx hb fx_Lw_law_825 (by decide) ?_
    refine va_dald (D := D) hx hb hK hP 60 3 fL_at60 rfl (vp_in_nI (n := 0) (N := 1) (by decide) (by decide)) fx_Lw_law_826 ?_
    refine lv_dload hx hb fx_Lw_law_827 (lv_at hl 0 rfl) ?_
    refine lv_dcmp hx hb fx_Lw_law_829 ?_
    refine lv_if_eq (tgt := 855) hx hb fx_Lw_law_830 (by decide) (fun _ => ?_) (fun c130 => absurd (fL_dc hv.2) c130)
    refine lv_goto (tgt := 914) hx hb fx_Lw_law_855 (by decide) ?_
    exact hNext ((fv_Dk_left σ (xs (nI (8 * j) + 1).toNatClampNeg)).2.2) x ((fv_Md_left μ (xs (nI (8 * j) + 1).toNatClampNeg)).1) ((fv_Md_left μ (xs (nI (8 * j) + 1).toNatClampNeg)).2) H locs hI1 hJ1 hsim.2.2 hP hD hS ls (lv_sub hl [2, 3, 4, 5, 6, 7] rfl)
set_option maxHeartbeats 4000000 in
theorem fL_case9 {p : Program} {l : Launch} {e : Env} {s : State} {m : MethodId} {below : List Frame} {meth : Method} {c : Code} {b L : Nat} {xs : Nat → Int32} {D : va_G} {cR cP cO cE : ClassId} {ad : Nat → Nat} {oa ob : Nat} {ca : Nat → ClassId} {am : Nat → Nat} {A : Nat → Prop} {j : Nat} (hst : l.stackTraces = false) (hx : p.tables.exec = Jvm.exec) (hb : c.code = code) (hml : c.maxLocals = 9) (hown : s.vm.findClass "FetchDeskLaw" = some m.cls) (hts : ∀ w ∈ lw_tbl, w.before #[Value.ref b] s = true) (hXs : va_X b L xs s s.heap) (hbl : b < s.heap.size) (hbA : ¬ A b) (hA : ∀ q : Nat, s.heap.size ≤ q → A q) (hK : va_K D fn_cl (fL_tys cR cP cO cE ca) s) (hN : fd_N s) (hX : fd_X s) (hXn : fd_Xn s) (hZ : fd_Zs A s s.heap) (hj : j ≤ 4096) {H : Heap} {locs : List Loc} {ls : Array Slot} {σ : FDS} {x : Int64} {y : UInt64} {μ : FMS} (hin : ∀ k : Int32, 0 ≤ k ∧ k < 8 → vp_in (nI (8 * j) + k) L) (hI : fd_Inv σ) (hJ : fm_Inv μ) (hR : fs_Rel σ μ) (hP : va_P D fn_cl (fL_w cR cP cO cE ad oa ob ca am σ x y μ) H) (hD : va_D A (fL_w cR cP cO cE ad oa ob ca am σ x y μ)) (hS : va_S A s.heap H locs) (hl : lv_has ls 9 [(0, .ref b), (1, .ref (ad 0)), (2, .ref (am 0)), (3, .ref oa), (4, .ref ob), (5, .int (nI (8 * j)))]) (hNext : ∀ (σ : FDS) (x : Int64) (y : UInt64) (μ : FMS) (H : Heap) (locs : List Loc), fd_Inv σ → fm_Inv μ → fs_Rel σ μ → va_P D fn_cl (fL_w cR cP cO cE ad oa ob ca am σ x y μ) H → va_D A (fL_w cR cP cO cE ad oa ob ca am σ x y μ) → va_S A s.heap H locs → ∀ ls : Array Slot, lv_has ls 9 [(0, .ref b), (1, .ref (ad 0)), (2, .ref (am 0)), (3, .ref oa), (4, .ref ob), (5, .int (nI (8 * j)))] → W p l e room_1 s m #[Value.ref b] below meth c H locs (82 + j + 1) (1451 + 6 * j + 6) (lw_Z below #[Value.ref b] s) (F0 m 914 ls [])) : W p l e room_1 s m #[Value.ref b] below meth c H locs (82 + j) (1451 + 6 * j) (lw_Z below #[Value.ref b] s) (F0 m 858 ls []) := by
  refine lv_aload_n hx hb fx_Lw_law_858 rfl (lv_at hl 1 rfl) ?_
  refine lv_aload_n hx hb fx_Lw_law_859 rfl (lv_at hl 0 rfl) ?_
  refine lv_iload hx hb fx_Lw_law_860 (lv_at hl 5 rfl) ?_
  refine lv_iconst (v := 1) hx hb fx_Lw_law_862 (by decide) ?_
  refine lv_iadd hx hb fx_Lw_law_863 ?_
  refine va_sld hx hb hXs hbl hbA hS (hin 1 (by decide)) fx_Lw_law_864 ?_
  refine lv_aload_n hx hb fx_Lw_law_865 rfl (lv_at hl 3 rfl) ?_
  refine fL_callL (vx_runSW (As := [.ref (ad 0), .int (xs (nI (8 * j) + 1).toNatClampNeg), .ref oa]) (rest := []) ⟨hx, hb, hml, hown, hts⟩ (fl_count l hst D cR cP ad H.size σ (xs (nI (8 * j) + 1).toNatClampNeg) cO oa x hI) (vx_cwSW 3 hts (fl_goodS fq_514 fq_515 fq_0 fm_Lw_count) rfl rfl rfl (by decide +kernel) ⟨Nat.le_of_ble_eq_true rfl, Nat.le_of_ble_eq_true rfl⟩) (fL_preL hP hK hD hS hA hN hX hXn hZ) rfl rfl hl.1 rfl (lv_room (Nat.le_of_ble_eq_true rfl)) fx_Lw_law_866 (by show 82 + j + 1 ≤ 604314 ∧ 1451 + 6 * j + 6 ≤ 7283163; omega)) hP hD hS hA (fun r132 u131 H locs h133 hP hD hS => ?_)
  obtain ⟨u1, u2⟩ := u131
  dsimp only at h133 hP hD
  obtain ⟨rfl, rfl, rfl, hI1⟩ := h133
  refine lv_istore (lv' := [(6, .int (fl_km_count (fv_Dk_count σ (xs (nI (8 * j) + 1).toNatClampNeg)).1)), (0, .ref b), (1, .ref (ad 0)), (2, .ref (am 0)), (3, .ref oa), (4, .ref ob), (5, .int (nI (8 * j)))]) hx hb fx_Lw_law_869 hl (by decide) rfl (fun ls hl => ?_)
  refine lv_aload_n hx hb fx_Lw_law_871 rfl (lv_at hl 3 rfl) ?_
  refine lv_aload_n hx hb fx_Lw_law_872 rfl (lv_at hl 1 rfl) ?_
  refine lv_iload hx hb fx_Lw_law_873 (lv_at hl 6 rfl) ?_
  refine lv_iconst (v := 1) hx hb fx_Lw_law_875 (by decide) ?_
  refine lv_iadd hx hb fx_Lw_law_876 ?_
  refine va_sld hx hb hXs hbl hbA hS (hin 1 (by decide)) fx_Lw_law_877 ?_
  refine fL_callMi (va_runV (As := [.int (xs (nI (8 * j) + 1).toNatClampNeg)]) (rest := []) ⟨hx, hb, hml, hown, hts⟩ (fc_Md_count l D ca am H.size μ (xs (nI (8 * j) + 1).toNatClampNeg) hJ) ⟨callB_of 1 hts (fb_goodL fm_Md_count) rfl rfl rfl (hts _ (fb_in fq_6)) (hts _ (fb_in fq_725)) (by decide +kernel) ⟨Nat.le_of_ble_eq_true rfl, Nat.le_of_ble_eq_true rfl⟩, (hts _ (fb_in fq_726)), (hts _ (fb_in fq_727))⟩ (fL_preM hP hK hD hN) rfl rfl hl.1 rfl (lv_room (Nat.le_of_ble_eq_true rfl)) fx_Lw_law_878 (by show 82 + j + 1 + 0 ≤ 604314 ∧ 1451 + 6 * j + 6 + 0 ≤ 7283163; omega)) hP hD hS hA (fun r135 u134 H locs h136 hP hD hS => ?_)
  refine W.widen (k := 82 + j + 1) (n := 1451 + 6 * j + 6) (Nat.le_refl _) (Nat.le_refl _) ?_
  obtain ⟨hN9, hJ1⟩ := h136
  obtain rfl : (fv_Md_count μ (xs (nI (8 * j) + 1).toNatClampNeg)).1 = r135 := congrArg Prod.fst hN9
  obtain rfl : (fv_Md_count μ (xs (nI (8 * j) + 1).toNatClampNeg)).2 = u134 := congrArg Prod.snd hN9
  have hsim := fs_count (xs (nI (8 * j) + 1).toNatClampNeg) hI hJ hR
  refine lv_istore (lv' := [(7, .int (fv_Md_count μ (xs (nI (8 * j) + 1).toNatClampNeg)).1), (6, .int (fl_km_count (fv_Dk_count σ (xs (nI (8 * j) + 1).toNatClampNeg)).1)), (0, .ref b), (1, .ref (ad 0)), (2, .ref (am 0)), (3, .ref oa), (4, .ref ob), (5, .int (nI (8 * j)))]) hx hb fx_Lw_law_881 hl (by decide) rfl (fun ls hl => ?_)
  refine lv_aload_n hx hb fx_Lw_law_883 rfl (lv_at hl 4 rfl) ?_
  refine fL_callMi (va_runV (As := []) (rest := []) ⟨hx, hb, hml, hown, hts⟩ (fc_Md_thrown l D ca am H.size ((fv_Md_count μ (xs (nI (8 * j) + 1).toNatClampNeg)).2)  hJ1) ⟨callB_of 0 hts (fb_goodL fm_Md_thrown) rfl rfl rfl (hts _ (fb_in fq_6)) (hts _ (fb_in fq_630)) (by decide +kernel) ⟨Nat.le_of_ble_eq_true rfl, Nat.le_of_ble_eq_true rfl⟩, (hts _ (fb_in fq_631)), (hts _ (fb_in fq_632))⟩ (fL_preM hP hK hD hN) rfl rfl hl.1 rfl (lv_room (Nat.le_of_ble_eq_true rfl)) fx_Lw_law_884 (by show 82 + j + 1 + 0 ≤ 604314 ∧ 1451 + 6 * j + 6 + 0 ≤ 7283163; omega)) hP hD hS hA (fun r138 u137 H locs h139 hP hD hS => ?_)
  refine W.widen (k := 82 + j + 1) (n := 1451 + 6 * j + 6) (Nat.le_refl _) (Nat.le_refl _) ?_
  obtain ⟨rfl, rfl⟩ := h139
  refine lv_iload hx hb fx_Lw_law_887 (lv_at hl 1 rfl) ?_
  refine lv_icmp_eq (tgt := 894) hx hb fx_Lw_law_889 (by decide) (fun _ => ?_) (fun c140 => absurd hsim.1 c140)
  refine lv_iload hx hb fx_Lw_law_894 (lv_at hl 1 rfl) ?_
  refine lv_if_ne (tgt := 911) hx hb fx_Lw_law_896 (by decide) (fun c141 => ?_) (fun c141 => ?_)
  · refine lv_goto (tgt := 914) hx hb fx_Lw_law_911 (by decide) ?_
    exact hNext ((fv_Dk_count σ (xs (nI (8 * j) + 1).toNatClampNeg)).2.2) (if (fv_Dk_count σ (xs (nI (8 * j) + 1).toNatClampNeg)).1 = 0 then (fv_Dk_count σ (xs (nI (8 * j) + 1).toNatClampNeg)).2.1.toInt64 else x) y ((fv_Md_count μ (xs (nI (8 * j) + 1).toNatClampNeg)).2) H locs hI1 hJ1 hsim.2.2 hP hD hS ls (lv_sub hl [2, 3, 4, 5, 6, 7] rfl)
  · obtain ⟨hz, hv⟩ := hsim.2.1 c141
    rw [if_pos hz, hv] at hP hD
    refine lv_aload_n hx hb fx_Lw_law_899 rfl (lv_at hl 5 rfl) ?_
    refine lv_iconst (v := 0) hx hb fx_Lw_law_900 (by decide) ?_
    refine va_lald (D := D) hx hb hK hP 59 2 fL_at59 rfl (vp_in_nI (n := 0) (N := 1) (by decide) (by decide)) fx_Lw_law_901 ?_
    refine lv_iload hx hb fx_Lw_law_902 (lv_at hl 0 rfl) ?_
    refine lv_i2l hx hb fx_Lw_law_904 rfl ?_
    refine W.lcmp hx hb fx_Lw_law_905 ?_
    refine lv_if_eq (tgt := 911) hx hb fx_Lw_law_906 (by decide) (fun _ => ?_) (fun c142 => absurd fL_lc c142)
    refine lv_goto (tgt := 914) hx hb fx_Lw_law_911 (by decide) ?_
    exact hNext ((fv_Dk_count σ (xs (nI (8 * j) + 1).toNatClampNeg)).2.2) ((fv_Md_count μ (xs (nI (8 * j) + 1).toNatClampNeg)).1.toInt64) y ((fv_Md_count μ (xs (nI (8 * j) + 1).toNatClampNeg)).2) H locs hI1 hJ1 hsim.2.2 hP hD hS ls (lv_sub hl [2, 3, 4, 5, 6, 7] rfl)
