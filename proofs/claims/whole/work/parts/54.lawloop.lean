/-! the law's loop -/
theorem fL_lt {L j : Nat} (hL : L ≤ 4096) (hj : 8 * j ≤ L) (c0 : ¬ Int32.ofNat L - 8 < nI (8 * j)) : 8 * j + 8 ≤ L := by
  have h1 : (nI (8 * j)).toInt = ((8 * j : Nat) : Int) := nI_toInt (by omega)
  have h2 : (nI L).toInt = (L : Int) := nI_toInt (by omega)
  have h3 : (8 : Int32).toInt = 8 := by decide
  have h4 : (nI L - 8).toInt = (L : Int) - 8 := by
    rw [Int32.toInt_sub, h2, h3, Int.bmod_def]
    omega
  have h5 : ¬ (nI L - 8).toInt < (nI (8 * j)).toInt := fun q => c0 (Int32.lt_iff_toInt_lt.mpr q)
  omega
theorem fL_in {L j : Nat} (hL : L ≤ 4096) (h : 8 * j + 8 ≤ L) (k : Int32) (hk : 0 ≤ k ∧ k < 8) : vp_in (nI (8 * j) + k) L := by
  obtain ⟨i, hi, rfl⟩ := nI_of (x := k) (fun q => by
    have h1 := Int32.le_iff_toInt_le.mp hk.1
    have h2 := Int32.lt_iff_toInt_lt.mp q
    omega)
  have h2 := Int32.lt_iff_toInt_lt.mp hk.2
  rw [nI_toInt hi] at h2
  have h3 : (8 : Int32).toInt = 8 := by decide
  rw [nI_add]
  exact vp_in_nI (by omega) (by omega)
theorem fL_out {w : Int32} (h0 : ¬ w = 0) (h1 : ¬ w = 1) (h2 : ¬ w = 2) (h3 : ¬ w = 3) (h4 : ¬ w = 4) (h5 : ¬ w = 5) (h6 : ¬ w = 6) (h7 : ¬ w = 7) (h8 : ¬ w = 8) (h9 : ¬ w = 9) : w.toInt < 0 ∨ 9 < w.toInt := by
  have g0 := lv_neT h0 (a := 0) (by decide)
  have g1 := lv_neT h1 (a := 1) (by decide)
  have g2 := lv_neT h2 (a := 2) (by decide)
  have g3 := lv_neT h3 (a := 3) (by decide)
  have g4 := lv_neT h4 (a := 4) (by decide)
  have g5 := lv_neT h5 (a := 5) (by decide)
  have g6 := lv_neT h6 (a := 6) (by decide)
  have g7 := lv_neT h7 (a := 7) (by decide)
  have g8 := lv_neT h8 (a := 8) (by decide)
  have g9 := lv_neT h9 (a := 9) (by decide)
  omega
set_option maxHeartbeats 4000000 in
theorem fL_loop {p : Program} {l : Launch} {e : Env} {s : State} {m : MethodId} {below : List Frame} {meth : Method} {c : Code} {b L : Nat} {xs : Nat → Int32} {D : va_G} {cR cP cO cE : ClassId} {ad : Nat → Nat} {oa ob : Nat} {ca : Nat → ClassId} {am : Nat → Nat} {A : Nat → Prop} (hst : l.stackTraces = false) (hx : p.tables.exec = Jvm.exec) (hb : c.code = code) (hml : c.maxLocals = 9) (hown : s.vm.findClass "FetchDeskLaw" = some m.cls) (hts : ∀ w ∈ lw_tbl, w.before #[Value.ref b] s = true) (hXs : va_X b L xs s s.heap) (hbl : b < s.heap.size) (hbA : ¬ A b) (hA : ∀ q : Nat, s.heap.size ≤ q → A q) (hK : va_K D fn_cl (fL_tys cR cP cO cE ca) s) (hN : fd_N s) (hX : fd_X s) (hXn : fd_Xn s) (hZ : fd_Zs A s s.heap) (hr : meth.sig.returnType = ret) (hlocks : meth.locks = false) (hL : L ≤ 4096) (hAc : ∀ q : Nat, A q → s.heap.size ≤ q) : ∀ (n j : Nat) (σ : FDS) (x : Int64) (y : UInt64) (μ : FMS) (H : Heap) (locs : List Loc) (ls : Array Slot), 8 * j ≤ L → L + 8 ≤ 8 * (j + n) → fd_Inv σ → fm_Inv μ → fs_Rel σ μ → va_P D fn_cl (fL_w cR cP cO cE ad oa ob ca am σ x y μ) H → va_D A (fL_w cR cP cO cE ad oa ob ca am σ x y μ) → va_S A s.heap H locs → lv_has ls 9 [(0, .ref b), (1, .ref (ad 0)), (2, .ref (am 0)), (3, .ref oa), (4, .ref ob), (5, .int (nI (8 * j)))] → W p l e room_1 s m #[Value.ref b] below meth c H locs (82 + j) (1451 + 6 * j) (lw_Z below #[Value.ref b] s) (F0 m 28 ls []) := by
  intro n
  induction n with
  | zero =>
    intro j σ x y μ H locs ls h1 h2
    omega
  | succ n ih =>
    intro j σ x y μ H locs ls h1 h2 hI hJ hR hP hD hS hl
    refine lv_iload hx hb fx_Lw_law_28 (lv_at hl 5 rfl) ?_
    refine lv_aload_n hx hb fx_Lw_law_30 rfl (lv_at hl 0 rfl) ?_
    refine va_slen hx hb hXs hbl hbA hS fx_Lw_law_31 ?_
    refine lv_bipush (v := 8) hx hb fx_Lw_law_32 (by decide) ?_
    refine lv_isub hx hb fx_Lw_law_34 ?_
    refine lv_icmp_gt (tgt := 920) hx hb fx_Lw_law_35 (by decide) (fun _ => ?_) (fun c0 => ?_)
    · refine lv_iconst (v := 1) hx hb fx_Lw_law_920 (by decide) ?_
      refine va_forget (fun q hq => hAc _ (hS.2.2 q hq)) ?_
      refine W.widen (k := 604314) (n := 7283163) (by omega) (by omega) ?_
      exact lw_ret hx hb hr hlocks fx_Lw_law_921
    · have hle := fL_lt hL h1 c0
      have hin := fL_in hL hle
      have hj : j ≤ 4096 := by omega
      have hNext : ∀ (σ : FDS) (x : Int64) (y : UInt64) (μ : FMS) (H : Heap) (locs : List Loc), fd_Inv σ → fm_Inv μ → fs_Rel σ μ → va_P D fn_cl (fL_w cR cP cO cE ad oa ob ca am σ x y μ) H → va_D A (fL_w cR cP cO cE ad oa ob ca am σ x y μ) → va_S A s.heap H locs → ∀ ls : Array Slot, lv_has ls 9 [(0, .ref b), (1, .ref (ad 0)), (2, .ref (am 0)), (3, .ref oa), (4, .ref ob), (5, .int (nI (8 * j)))] → W p l e room_1 s m #[Value.ref b] below meth c H locs (82 + j + 1) (1451 + 6 * j + 6) (lw_Z below #[Value.ref b] s) (F0 m 914 ls []) := by
        intro σ x y μ H locs hI hJ hR hP hD hS ls hl
        refine lv_iinc (k := 5) (v := nI (8 * (j + 1))) (lv' := [(5, .int (nI (8 * (j + 1)))), (0, .ref b), (1, .ref (ad 0)), (2, .ref (am 0)), (3, .ref oa), (4, .ref ob)]) hx hb fx_Lw_law_914 hl rfl (nI_add (8 * j) 8) (by decide) rfl (fun ls hl => ?_)
        refine lv_goto (tgt := 28) hx hb fx_Lw_law_917 (by decide) ?_
        refine W.widen (k := 82 + (j + 1)) (n := 1451 + 6 * (j + 1)) (by omega) (by omega) ?_
        exact ih (j + 1) σ x y μ H locs ls (by omega) (by omega) hI hJ hR hP hD hS (lv_sub hl [1, 2, 3, 4, 5, 0] rfl)
      refine lv_aload_n hx hb fx_Lw_law_38 rfl (lv_at hl 0 rfl) ?_
      refine lv_iload hx hb fx_Lw_law_39 (lv_at hl 5 rfl) ?_
      refine va_sld hx hb hXs hbl hbA hS (vp_in_nI (by omega) (by omega)) fx_Lw_law_41 ?_
      refine lv_bipush (v := 15) hx hb fx_Lw_law_42 (by decide) ?_
      refine lv_iand hx hb fx_Lw_law_44 ?_
      generalize xs (nI (8 * j)).toNatClampNeg &&& 15 = w
      by_cases c1 : w = 0
      · subst c1
        refine lv_tableIn (off := 55) (tgt := 100) hx hb fx_Lw_law_45 (by decide) (by decide) (by decide) (by decide) ?_
        exact fL_case0 hst hx hb hml hown hts hXs hbl hbA hA hK hN hX hXn hZ hj hin hI hJ hR hP hD hS hl hNext
      by_cases c2 : w = 1
      · subst c2
        refine lv_tableIn (off := 127) (tgt := 172) hx hb fx_Lw_law_45 (by decide) (by decide) (by decide) (by decide) ?_
        exact fL_case1 hst hx hb hml hown hts hXs hbl hbA hA hK hN hX hXn hZ hj hin hI hJ hR hP hD hS hl hNext
      by_cases c3 : w = 2
      · subst c3
        refine lv_tableIn (off := 187) (tgt := 232) hx hb fx_Lw_law_45 (by decide) (by decide) (by decide) (by decide) ?_
        exact fL_case2 hst hx hb hml hown hts hXs hbl hbA hA hK hN hX hXn hZ hj hin hI hJ hR hP hD hS hl hNext
      by_cases c4 : w = 3
      · subst c4
        refine lv_tableIn (off := 283) (tgt := 328) hx hb fx_Lw_law_45 (by decide) (by decide) (by decide) (by decide) ?_
        exact fL_case3 hst hx hb hml hown hts hXs hbl hbA hA hK hN hX hXn hZ hj hin hI hJ hR hP hD hS hl hNext
      by_cases c5 : w = 4
      · subst c5
        refine lv_tableIn (off := 393) (tgt := 438) hx hb fx_Lw_law_45 (by decide) (by decide) (by decide) (by decide) ?_
        exact fL_case4 hst hx hb hml hown hts hXs hbl hbA hA hK hN hX hXn hZ hj hin hI hJ hR hP hD hS hl hNext
      by_cases c6 : w = 5
      · subst c6
        refine lv_tableIn (off := 480) (tgt := 525) hx hb fx_Lw_law_45 (by decide) (by decide) (by decide) (by decide) ?_
        exact fL_case5 hst hx hb hml hown hts hXs hbl hbA hA hK hN hX hXn hZ hj hin hI hJ hR hP hD hS hl hNext
      by_cases c7 : w = 6
      · subst c7
        refine lv_tableIn (off := 612) (tgt := 657) hx hb fx_Lw_law_45 (by decide) (by decide) (by decide) (by decide) ?_
        exact fL_case6 hst hx hb hml hown hts hXs hbl hbA hA hK hN hX hXn hZ hj hin hI hJ hR hP hD hS hl hNext
      by_cases c8 : w = 7
      · subst c8
        refine lv_tableIn (off := 668) (tgt := 713) hx hb fx_Lw_law_45 (by decide) (by decide) (by decide) (by decide) ?_
        exact fL_case7 hst hx hb hml hown hts hXs hbl hbA hA hK hN hX hXn hZ hj hin hI hJ hR hP hD hS hl hNext
      by_cases c9 : w = 8
      · subst c9
        refine lv_tableIn (off := 736) (tgt := 781) hx hb fx_Lw_law_45 (by decide) (by decide) (by decide) (by decide) ?_
        exact fL_case8 hst hx hb hml hown hts hXs hbl hbA hA hK hN hX hXn hZ hj hin hI hJ hR hP hD hS hl hNext
      by_cases c10 : w = 9
      · subst c10
        refine lv_tableIn (off := 813) (tgt := 858) hx hb fx_Lw_law_45 (by decide) (by decide) (by decide) (by decide) ?_
        exact fL_case9 hst hx hb hml hown hts hXs hbl hbA hA hK hN hX hXn hZ hj hin hI hJ hR hP hD hS hl hNext
      refine lv_tableOut (tgt := 914) hx hb fx_Lw_law_45 (fL_out c1 c2 c3 c4 c5 c6 c7 c8 c9 c10) (by decide) ?_
      refine W.widen (k := 82 + j + 1) (n := 1451 + 6 * j + 6) (by omega) (by omega) ?_
      exact hNext σ x y μ H locs hI hJ hR hP hD hS ls hl
