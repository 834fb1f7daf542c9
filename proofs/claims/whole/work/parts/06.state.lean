/-! rows of our own over the kit: booleans, worlds that a callee gets whole, contracts over one world -/
def fd_bi (b : Bool) : Int32 := cond b 1 0
theorem fd_fit (b : Bool) : fits .boolean (.int (fd_bi b)) = true := by cases b <;> rfl
theorem fd_nar (b : Bool) : narrow .boolean (.int (fd_bi b)) = .int (fd_bi b) := by cases b <;> rfl
theorem fd_bi0 {b : Bool} : fd_bi b = 0 ↔ ¬ b = true := by cases b <;> decide
theorem fd_lt {x : Int32} {n : Nat} (h : vp_in x n) : x.toNatClampNeg < n := by
  unfold vp_in at h
  omega
theorem fd_same {D : va_G} {cl : List vw_C} {ws : va_W} {H H1 : Heap} (hP : va_P D cl ws H) (h : ∀ q : Nat, q < H.size → H1[q]? = H[q]?) : va_P D cl ws H1 := fun k q hk => (hP k q hk).kept (h q.1 (hP k q hk).lt)
theorem fd_free {A : Nat → Prop} {ws : va_W} {H0 H : Heap} {locs : List Loc} (hD : va_D A ws) (hS : va_S A H0 H locs) (hA : ∀ q : Nat, H0.size ≤ q → A q) : ∀ q, va_A ws H.size q → A q := by
  intro q h
  rcases h with ⟨k, e, h⟩ | h
  · exact hD.2 k (q, e) h
  · exact hA q (Nat.le_trans hS.1 h)
/-- a run of cells by their numbers: one of them is set -/
theorem fd_mapset {α : Type} {n i : Nat} {f g : Nat → α} {v : α} (hi : i < n) (hv : g i = v) (ho : ∀ j, j ≠ i → g j = f j) : ((List.range n).map f).set i v = (List.range n).map g := by
  apply List.ext_getElem?
  intro j
  rw [List.getElem?_set, List.getElem?_map, List.getElem?_map]
  by_cases hj : i = j
  · subst hj
    simp [hi, hv]
  · rw [if_neg hj]
    by_cases hl : j < n
    · simp [hl, ho j (Ne.symm hj)]
    · simp [hl]
section FD
variable {p : Program} {l : Launch} {e : Env} {R : Room} {s : State} {m : MethodId} {args : Array Value} {below : List Frame} {meth : Method} {c : Code} {H : Heap} {locs : List Loc} {cells slots : Nat} {Q : State → Prop} {cc : ByteArray} {pc : Nat} {ls : Array Slot} {rest : List Value}
theorem fd_ifeq (hexec : p.tables.exec = Jvm.exec) (hb : c.code = cc) {b : Bool} {off : Int} {tgt : Nat} (hdg : decode cc pc = .ok (.ifCond .eq off, 3)) (ht : (pc : Int) + off = (tgt : Int))
    (kt : ¬ b = true → W p l e R s m args below meth c H locs cells slots Q (F0 m tgt ls rest)) (kf : b = true → W p l e R s m args below meth c H locs cells slots Q (F0 m (pc + 3) ls rest)) : W p l e R s m args below meth c H locs cells slots Q (F0 m pc ls (.int (fd_bi b) :: rest)) :=
  lv_if_eq hexec hb hdg ht (fun h => kt (fd_bi0.mp h)) (fun h => kf (Decidable.byContradiction fun h2 => h (fd_bi0.mpr h2)))
theorem fd_ifne (hexec : p.tables.exec = Jvm.exec) (hb : c.code = cc) {b : Bool} {off : Int} {tgt : Nat} (hdg : decode cc pc = .ok (.ifCond .ne off, 3)) (ht : (pc : Int) + off = (tgt : Int))
    (kt : b = true → W p l e R s m args below meth c H locs cells slots Q (F0 m tgt ls rest)) (kf : ¬ b = true → W p l e R s m args below meth c H locs cells slots Q (F0 m (pc + 3) ls rest)) : W p l e R s m args below meth c H locs cells slots Q (F0 m pc ls (.int (fd_bi b) :: rest)) :=
  lv_if_ne hexec hb hdg ht (fun h => kt (Decidable.byContradiction fun h2 => h (fd_bi0.mpr h2))) (fun h => kf (fd_bi0.mp h))
end FD
/-! what a state of the desk is: its numbers, as one value; the cells that hold it -/
abbrev FDS : Type := (Nat → Int32) × UInt64 × Int32 × (Nat → Nat) × (Nat → Int32) × (Nat → Bool) × (Nat → Nat → Int32) × (Nat → Nat → Bool) × (Nat → UInt64) × (Nat → Nat → Int32) × (Nat → Bool) × (Nat → UInt64)
def fd_dI (σ : FDS) : Nat → Int32 := σ.1
def fd_dT (σ : FDS) : UInt64 := σ.2.1
def fd_mS (σ : FDS) : Int32 := σ.2.2.1
def fd_pF (σ : FDS) : Nat → Nat := σ.2.2.2.1
def fd_qI (σ : FDS) : Nat → Int32 := σ.2.2.2.2.1
def fd_qB (σ : FDS) : Nat → Bool := σ.2.2.2.2.2.1
def fd_rI (σ : FDS) : Nat → Nat → Int32 := σ.2.2.2.2.2.2.1
def fd_rB (σ : FDS) : Nat → Nat → Bool := σ.2.2.2.2.2.2.2.1
def fd_rD (σ : FDS) : Nat → UInt64 := σ.2.2.2.2.2.2.2.2.1
def fd_pI (σ : FDS) : Nat → Nat → Int32 := σ.2.2.2.2.2.2.2.2.2.1
def fd_pB (σ : FDS) : Nat → Bool := σ.2.2.2.2.2.2.2.2.2.2.1
def fd_pD (σ : FDS) : Nat → UInt64 := σ.2.2.2.2.2.2.2.2.2.2.2
def fd_sdI (σ : FDS) (k : Nat) (v : Int32) : FDS := (va_up σ.1 k v, σ.2)
def fd_sdT (σ : FDS) (v : UInt64) : FDS := (σ.1, v, σ.2.2)
def fd_smS (σ : FDS) (v : Int32) : FDS := (σ.1, σ.2.1, v, σ.2.2.2)
def fd_spF (σ : FDS) (k : Nat) (v : Nat) : FDS := (σ.1, σ.2.1, σ.2.2.1, va_up (σ.2.2.2.1) k v, σ.2.2.2.2)
def fd_sqI (σ : FDS) (k : Nat) (v : Int32) : FDS := (σ.1, σ.2.1, σ.2.2.1, σ.2.2.2.1, va_up (σ.2.2.2.2.1) k v, σ.2.2.2.2.2)
def fd_sqB (σ : FDS) (k : Nat) (v : Bool) : FDS := (σ.1, σ.2.1, σ.2.2.1, σ.2.2.2.1, σ.2.2.2.2.1, va_up (σ.2.2.2.2.2.1) k v, σ.2.2.2.2.2.2)
def fd_srI (σ : FDS) (u k : Nat) (v : Int32) : FDS := (σ.1, σ.2.1, σ.2.2.1, σ.2.2.2.1, σ.2.2.2.2.1, σ.2.2.2.2.2.1, va_up (σ.2.2.2.2.2.2.1) u (va_up (σ.2.2.2.2.2.2.1 u) k v), σ.2.2.2.2.2.2.2)
def fd_srB (σ : FDS) (u k : Nat) (v : Bool) : FDS := (σ.1, σ.2.1, σ.2.2.1, σ.2.2.2.1, σ.2.2.2.2.1, σ.2.2.2.2.2.1, σ.2.2.2.2.2.2.1, va_up (σ.2.2.2.2.2.2.2.1) u (va_up (σ.2.2.2.2.2.2.2.1 u) k v), σ.2.2.2.2.2.2.2.2)
def fd_srD (σ : FDS) (u : Nat) (v : UInt64) : FDS := (σ.1, σ.2.1, σ.2.2.1, σ.2.2.2.1, σ.2.2.2.2.1, σ.2.2.2.2.2.1, σ.2.2.2.2.2.2.1, σ.2.2.2.2.2.2.2.1, va_up (σ.2.2.2.2.2.2.2.2.1) u v, σ.2.2.2.2.2.2.2.2.2)
def fd_spI (σ : FDS) (u k : Nat) (v : Int32) : FDS := (σ.1, σ.2.1, σ.2.2.1, σ.2.2.2.1, σ.2.2.2.2.1, σ.2.2.2.2.2.1, σ.2.2.2.2.2.2.1, σ.2.2.2.2.2.2.2.1, σ.2.2.2.2.2.2.2.2.1, va_up (σ.2.2.2.2.2.2.2.2.2.1) u (va_up (σ.2.2.2.2.2.2.2.2.2.1 u) k v), σ.2.2.2.2.2.2.2.2.2.2)
def fd_spB (σ : FDS) (u : Nat) (v : Bool) : FDS := (σ.1, σ.2.1, σ.2.2.1, σ.2.2.2.1, σ.2.2.2.2.1, σ.2.2.2.2.2.1, σ.2.2.2.2.2.2.1, σ.2.2.2.2.2.2.2.1, σ.2.2.2.2.2.2.2.2.1, σ.2.2.2.2.2.2.2.2.2.1, va_up (σ.2.2.2.2.2.2.2.2.2.2.1) u v, σ.2.2.2.2.2.2.2.2.2.2.2)
def fd_spD (σ : FDS) (u : Nat) (v : UInt64) : FDS := (σ.1, σ.2.1, σ.2.2.1, σ.2.2.2.1, σ.2.2.2.2.1, σ.2.2.2.2.2.1, σ.2.2.2.2.2.2.1, σ.2.2.2.2.2.2.2.1, σ.2.2.2.2.2.2.2.2.1, σ.2.2.2.2.2.2.2.2.2.1, σ.2.2.2.2.2.2.2.2.2.2.1, va_up (σ.2.2.2.2.2.2.2.2.2.2.2) u v)
def fd_fDk (ad : Nat → Nat) (σ : FDS) : List Value := [.ref (ad 57), .ref (ad 1), .ref (ad 2), .double (fd_dT σ), .int (fd_dI σ 4), .int (fd_dI σ 5), .int (fd_dI σ 6), .int (fd_dI σ 7), .int (fd_dI σ 8)]
def fd_fMm (ad : Nat → Nat) (σ : FDS) : List Value := [.ref (ad 58), .int (fd_mS σ)]
def fd_fRq (σ : FDS) : List Value := [.int (fd_qI σ 0), .int (fd_qI σ 1), .int (fd_qI σ 2), .int (fd_qI σ 3), .int (fd_qI σ 4), .int (fd_qI σ 5), .int (fd_qI σ 6), .int (fd_qI σ 7), .int (fd_bi (fd_qB σ 8)), .int (fd_bi (fd_qB σ 9)), .int (fd_qI σ 10), .int (fd_qI σ 11), .int (fd_qI σ 12), .int (fd_qI σ 13), .int (fd_qI σ 14)]
def fd_fRs (σ : FDS) (u : Nat) : List Value := [.int (fd_rI σ u 0), .int (fd_rI σ u 1), .int (fd_rI σ u 2), .int (fd_rI σ u 3), .int (fd_rI σ u 4), .int (fd_rI σ u 5), .int (fd_bi (fd_rB σ u 6)), .int (fd_bi (fd_rB σ u 7)), .int (fd_rI σ u 8), .int (fd_rI σ u 9), .double (fd_rD σ u), .int (fd_rI σ u 11), .int (fd_rI σ u 12)]
def fd_fPm (σ : FDS) (u : Nat) : List Value := [.int (fd_pI σ u 0), .int (fd_pI σ u 1), .int (fd_bi (fd_pB σ u)), .int (fd_pI σ u 3), .int (fd_pI σ u 4), .double (fd_pD σ u)]
/-- the desk's cells: itself, its memory, its request, the two arrays, 48 resources, 6 permits; ad: where they lie -/
def fd_w (cR cP : ClassId) (ad : Nat → Nat) (σ : FDS) : va_W :=
  ([(ad 0, .inr (4, fd_fDk ad σ)), (ad 1, .inr (0, fd_fMm ad σ)), (ad 2, .inr (2, fd_fRq σ)), (ad 57, .inl (cR, 48, .inr (.inr (.inr (.inr (fun i => some (ad (3 + i)))))))), (ad 58, .inl (cP, 6, .inr (.inr (.inr (.inr (fun i => some (ad (51 + fd_pF σ i))))))))] : va_W) ++
  ((List.range 48).map (fun i => ((ad (3 + i), .inr (3, fd_fRs σ i)) : Nat × va_E)) ++ (List.range 6).map (fun i => ((ad (51 + i), .inr (1, fd_fPm σ i)) : Nat × va_E)))
abbrev fd_tys (cR cP : ClassId) : List (ClassId × FieldType) := [(cR, .object "FetchDesk$Resource"), (cP, .object "FetchDesk$Permit")]
section FDW
variable {cR cP : ClassId} {ad : Nat → Nat} {σ : FDS}
theorem fd_w_res {j : Nat} (h : j < 48) : (fd_w cR cP ad σ)[5 + j]? = some (ad (3 + j), .inr (3, fd_fRs σ j)) := by
  unfold fd_w
  rw [List.getElem?_append_right (by simp), List.getElem?_append_left (by simp; omega)]
  simp [h]
theorem fd_w_per {j : Nat} (h : j < 6) : (fd_w cR cP ad σ)[53 + j]? = some (ad (51 + j), .inr (1, fd_fPm σ j)) := by
  unfold fd_w
  rw [List.getElem?_append_right (by simp; omega), List.getElem?_append_right (by simp; omega)]
  have e : 53 + j - 5 - 48 = j := by omega
  simp [e, h]
theorem fd_set5 {α : Type} {a0 a1 a2 a3 a4 : α} {X : List α} {j : Nat} {v : α} : ([a0, a1, a2, a3, a4] ++ X).set (5 + j) v = [a0, a1, a2, a3, a4] ++ X.set j v := by
  rw [show 5 + j = j + 1 + 1 + 1 + 1 + 1 by omega]
  rfl
theorem fd_setL {α : Type} {n i : Nat} {f : Nat → α} {Y : List α} {v : α} (h : i < n) : ((List.range n).map f ++ Y).set i v = ((List.range n).map f).set i v ++ Y := by
  rw [List.set_append_left]
  simp [h]
theorem fd_setR {α : Type} {n i : Nat} {f : Nat → α} {Y : List α} {v : α} : ((List.range n).map f ++ Y).set (n + i) v = (List.range n).map f ++ Y.set i v := by
  rw [List.set_append_right _ _ (by simp)]
  simp
theorem fd_set_pF {i v : Nat} : (fd_w cR cP ad σ).set 4 (ad 58, .inl (cP, 6, .inr (.inr (.inr (.inr (va_up (fun i => some (ad (51 + fd_pF σ i))) i (some (ad (51 + v))))))))) = fd_w cR cP ad (fd_spF σ i v) := by
  have e : (va_up (fun i => some (ad (51 + fd_pF σ i))) i (some (ad (51 + v)))) = (fun j => some (ad (51 + fd_pF (fd_spF σ i v) j))) := by
    funext j
    simp only [va_up, fd_pF, fd_spF]
    split <;> rfl
  rw [e]
  rfl
theorem fd_set_Dk_3 {v : UInt64} : (fd_w cR cP ad σ).set 0 ((ad 0), .inr (4, (fd_fDk ad σ).set 3 (.double v))) = fd_w cR cP ad (fd_sdT σ v) := rfl
theorem fd_set_Dk_4 {v : Int32} : (fd_w cR cP ad σ).set 0 ((ad 0), .inr (4, (fd_fDk ad σ).set 4 (.int v))) = fd_w cR cP ad (fd_sdI σ 4 v) := rfl
theorem fd_set_Dk_5 {v : Int32} : (fd_w cR cP ad σ).set 0 ((ad 0), .inr (4, (fd_fDk ad σ).set 5 (.int v))) = fd_w cR cP ad (fd_sdI σ 5 v) := rfl
theorem fd_set_Dk_6 {v : Int32} : (fd_w cR cP ad σ).set 0 ((ad 0), .inr (4, (fd_fDk ad σ).set 6 (.int v))) = fd_w cR cP ad (fd_sdI σ 6 v) := rfl
theorem fd_set_Dk_7 {v : Int32} : (fd_w cR cP ad σ).set 0 ((ad 0), .inr (4, (fd_fDk ad σ).set 7 (.int v))) = fd_w cR cP ad (fd_sdI σ 7 v) := rfl
theorem fd_set_Dk_8 {v : Int32} : (fd_w cR cP ad σ).set 0 ((ad 0), .inr (4, (fd_fDk ad σ).set 8 (.int v))) = fd_w cR cP ad (fd_sdI σ 8 v) := rfl
theorem fd_set_Mm_1 {v : Int32} : (fd_w cR cP ad σ).set 1 ((ad 1), .inr (0, (fd_fMm ad σ).set 1 (.int v))) = fd_w cR cP ad (fd_smS σ v) := rfl
theorem fd_set_Rq_0 {v : Int32} : (fd_w cR cP ad σ).set 2 ((ad 2), .inr (2, (fd_fRq σ).set 0 (.int v))) = fd_w cR cP ad (fd_sqI σ 0 v) := rfl
theorem fd_set_Rq_1 {v : Int32} : (fd_w cR cP ad σ).set 2 ((ad 2), .inr (2, (fd_fRq σ).set 1 (.int v))) = fd_w cR cP ad (fd_sqI σ 1 v) := rfl
theorem fd_set_Rq_2 {v : Int32} : (fd_w cR cP ad σ).set 2 ((ad 2), .inr (2, (fd_fRq σ).set 2 (.int v))) = fd_w cR cP ad (fd_sqI σ 2 v) := rfl
theorem fd_set_Rq_3 {v : Int32} : (fd_w cR cP ad σ).set 2 ((ad 2), .inr (2, (fd_fRq σ).set 3 (.int v))) = fd_w cR cP ad (fd_sqI σ 3 v) := rfl
theorem fd_set_Rq_4 {v : Int32} : (fd_w cR cP ad σ).set 2 ((ad 2), .inr (2, (fd_fRq σ).set 4 (.int v))) = fd_w cR cP ad (fd_sqI σ 4 v) := rfl
theorem fd_set_Rq_5 {v : Int32} : (fd_w cR cP ad σ).set 2 ((ad 2), .inr (2, (fd_fRq σ).set 5 (.int v))) = fd_w cR cP ad (fd_sqI σ 5 v) := rfl
theorem fd_set_Rq_6 {v : Int32} : (fd_w cR cP ad σ).set 2 ((ad 2), .inr (2, (fd_fRq σ).set 6 (.int v))) = fd_w cR cP ad (fd_sqI σ 6 v) := rfl
theorem fd_set_Rq_7 {v : Int32} : (fd_w cR cP ad σ).set 2 ((ad 2), .inr (2, (fd_fRq σ).set 7 (.int v))) = fd_w cR cP ad (fd_sqI σ 7 v) := rfl
theorem fd_set_Rq_8 {v : Bool} : (fd_w cR cP ad σ).set 2 ((ad 2), .inr (2, (fd_fRq σ).set 8 (.int (fd_bi v)))) = fd_w cR cP ad (fd_sqB σ 8 v) := rfl
theorem fd_set_Rq_9 {v : Bool} : (fd_w cR cP ad σ).set 2 ((ad 2), .inr (2, (fd_fRq σ).set 9 (.int (fd_bi v)))) = fd_w cR cP ad (fd_sqB σ 9 v) := rfl
theorem fd_set_Rq_10 {v : Int32} : (fd_w cR cP ad σ).set 2 ((ad 2), .inr (2, (fd_fRq σ).set 10 (.int v))) = fd_w cR cP ad (fd_sqI σ 10 v) := rfl
theorem fd_set_Rq_11 {v : Int32} : (fd_w cR cP ad σ).set 2 ((ad 2), .inr (2, (fd_fRq σ).set 11 (.int v))) = fd_w cR cP ad (fd_sqI σ 11 v) := rfl
theorem fd_set_Rq_12 {v : Int32} : (fd_w cR cP ad σ).set 2 ((ad 2), .inr (2, (fd_fRq σ).set 12 (.int v))) = fd_w cR cP ad (fd_sqI σ 12 v) := rfl
theorem fd_set_Rq_13 {v : Int32} : (fd_w cR cP ad σ).set 2 ((ad 2), .inr (2, (fd_fRq σ).set 13 (.int v))) = fd_w cR cP ad (fd_sqI σ 13 v) := rfl
theorem fd_set_Rq_14 {v : Int32} : (fd_w cR cP ad σ).set 2 ((ad 2), .inr (2, (fd_fRq σ).set 14 (.int v))) = fd_w cR cP ad (fd_sqI σ 14 v) := rfl
theorem fd_set_Rs_0 {j : Nat} {v : Int32} (h : j < 48) : (fd_w cR cP ad σ).set (5 + j) (ad (3 + j), .inr (3, (fd_fRs σ j).set 0 (.int v))) = fd_w cR cP ad (fd_srI σ j 0 v) := by
  unfold fd_w
  rw [fd_set5, fd_setL h, fd_mapset h (g := fun i => (ad (3 + i), .inr (3, fd_fRs (fd_srI σ j 0 v) i))) ?_ ?_]
  · rfl
  · simp only [fd_fRs, fd_srI, fd_rI, fd_rB, fd_rD, va_up_self]
    rfl
  · intro i hi
    simp only [fd_fRs, fd_srI, fd_rI, fd_rB, fd_rD, va_up_ne _ _ hi]
theorem fd_set_Rs_1 {j : Nat} {v : Int32} (h : j < 48) : (fd_w cR cP ad σ).set (5 + j) (ad (3 + j), .inr (3, (fd_fRs σ j).set 1 (.int v))) = fd_w cR cP ad (fd_srI σ j 1 v) := by
  unfold fd_w
  rw [fd_set5, fd_setL h, fd_mapset h (g := fun i => (ad (3 + i), .inr (3, fd_fRs (fd_srI σ j 1 v) i))) ?_ ?_]
  · rfl
  · simp only [fd_fRs, fd_srI, fd_rI, fd_rB, fd_rD, va_up_self]
    rfl
  · intro i hi
    simp only [fd_fRs, fd_srI, fd_rI, fd_rB, fd_rD, va_up_ne _ _ hi]
theorem fd_set_Rs_2 {j : Nat} {v : Int32} (h : j < 48) : (fd_w cR cP ad σ).set (5 + j) (ad (3 + j), .inr (3, (fd_fRs σ j).set 2 (.int v))) = fd_w cR cP ad (fd_srI σ j 2 v) := by
  unfold fd_w
  rw [fd_set5, fd_setL h, fd_mapset h (g := fun i => (ad (3 + i), .inr (3, fd_fRs (fd_srI σ j 2 v) i))) ?_ ?_]
  · rfl
  · simp only [fd_fRs, fd_srI, fd_rI, fd_rB, fd_rD, va_up_self]
    rfl
  · intro i hi
    simp only [fd_fRs, fd_srI, fd_rI, fd_rB, fd_rD, va_up_ne _ _ hi]
theorem fd_set_Rs_3 {j : Nat} {v : Int32} (h : j < 48) : (fd_w cR cP ad σ).set (5 + j) (ad (3 + j), .inr (3, (fd_fRs σ j).set 3 (.int v))) = fd_w cR cP ad (fd_srI σ j 3 v) := by
  unfold fd_w
  rw [fd_set5, fd_setL h, fd_mapset h (g := fun i => (ad (3 + i), .inr (3, fd_fRs (fd_srI σ j 3 v) i))) ?_ ?_]
  · rfl
  · simp only [fd_fRs, fd_srI, fd_rI, fd_rB, fd_rD, va_up_self]
    rfl
  · intro i hi
    simp only [fd_fRs, fd_srI, fd_rI, fd_rB, fd_rD, va_up_ne _ _ hi]
theorem fd_set_Rs_4 {j : Nat} {v : Int32} (h : j < 48) : (fd_w cR cP ad σ).set (5 + j) (ad (3 + j), .inr (3, (fd_fRs σ j).set 4 (.int v))) = fd_w cR cP ad (fd_srI σ j 4 v) := by
  unfold fd_w
  rw [fd_set5, fd_setL h, fd_mapset h (g := fun i => (ad (3 + i), .inr (3, fd_fRs (fd_srI σ j 4 v) i))) ?_ ?_]
  · rfl
  · simp only [fd_fRs, fd_srI, fd_rI, fd_rB, fd_rD, va_up_self]
    rfl
  · intro i hi
    simp only [fd_fRs, fd_srI, fd_rI, fd_rB, fd_rD, va_up_ne _ _ hi]
theorem fd_set_Rs_5 {j : Nat} {v : Int32} (h : j < 48) : (fd_w cR cP ad σ).set (5 + j) (ad (3 + j), .inr (3, (fd_fRs σ j).set 5 (.int v))) = fd_w cR cP ad (fd_srI σ j 5 v) := by
  unfold fd_w
  rw [fd_set5, fd_setL h, fd_mapset h (g := fun i => (ad (3 + i), .inr (3, fd_fRs (fd_srI σ j 5 v) i))) ?_ ?_]
  · rfl
  · simp only [fd_fRs, fd_srI, fd_rI, fd_rB, fd_rD, va_up_self]
    rfl
  · intro i hi
    simp only [fd_fRs, fd_srI, fd_rI, fd_rB, fd_rD, va_up_ne _ _ hi]
theorem fd_set_Rs_6 {j : Nat} {v : Bool} (h : j < 48) : (fd_w cR cP ad σ).set (5 + j) (ad (3 + j), .inr (3, (fd_fRs σ j).set 6 (.int (fd_bi v)))) = fd_w cR cP ad (fd_srB σ j 6 v) := by
  unfold fd_w
  rw [fd_set5, fd_setL h, fd_mapset h (g := fun i => (ad (3 + i), .inr (3, fd_fRs (fd_srB σ j 6 v) i))) ?_ ?_]
  · rfl
  · simp only [fd_fRs, fd_srB, fd_rI, fd_rB, fd_rD, va_up_self]
    rfl
  · intro i hi
    simp only [fd_fRs, fd_srB, fd_rI, fd_rB, fd_rD, va_up_ne _ _ hi]
theorem fd_set_Rs_7 {j : Nat} {v : Bool} (h : j < 48) : (fd_w cR cP ad σ).set (5 + j) (ad (3 + j), .inr (3, (fd_fRs σ j).set 7 (.int (fd_bi v)))) = fd_w cR cP ad (fd_srB σ j 7 v) := by
  unfold fd_w
  rw [fd_set5, fd_setL h, fd_mapset h (g := fun i => (ad (3 + i), .inr (3, fd_fRs (fd_srB σ j 7 v) i))) ?_ ?_]
  · rfl
  · simp only [fd_fRs, fd_srB, fd_rI, fd_rB, fd_rD, va_up_self]
    rfl
  · intro i hi
    simp only [fd_fRs, fd_srB, fd_rI, fd_rB, fd_rD, va_up_ne _ _ hi]
theorem fd_set_Rs_8 {j : Nat} {v : Int32} (h : j < 48) : (fd_w cR cP ad σ).set (5 + j) (ad (3 + j), .inr (3, (fd_fRs σ j).set 8 (.int v))) = fd_w cR cP ad (fd_srI σ j 8 v) := by
  unfold fd_w
  rw [fd_set5, fd_setL h, fd_mapset h (g := fun i => (ad (3 + i), .inr (3, fd_fRs (fd_srI σ j 8 v) i))) ?_ ?_]
  · rfl
  · simp only [fd_fRs, fd_srI, fd_rI, fd_rB, fd_rD, va_up_self]
    rfl
  · intro i hi
    simp only [fd_fRs, fd_srI, fd_rI, fd_rB, fd_rD, va_up_ne _ _ hi]
theorem fd_set_Rs_9 {j : Nat} {v : Int32} (h : j < 48) : (fd_w cR cP ad σ).set (5 + j) (ad (3 + j), .inr (3, (fd_fRs σ j).set 9 (.int v))) = fd_w cR cP ad (fd_srI σ j 9 v) := by
  unfold fd_w
  rw [fd_set5, fd_setL h, fd_mapset h (g := fun i => (ad (3 + i), .inr (3, fd_fRs (fd_srI σ j 9 v) i))) ?_ ?_]
  · rfl
  · simp only [fd_fRs, fd_srI, fd_rI, fd_rB, fd_rD, va_up_self]
    rfl
  · intro i hi
    simp only [fd_fRs, fd_srI, fd_rI, fd_rB, fd_rD, va_up_ne _ _ hi]
theorem fd_set_Rs_10 {j : Nat} {v : UInt64} (h : j < 48) : (fd_w cR cP ad σ).set (5 + j) (ad (3 + j), .inr (3, (fd_fRs σ j).set 10 (.double v))) = fd_w cR cP ad (fd_srD σ j v) := by
  unfold fd_w
  rw [fd_set5, fd_setL h, fd_mapset h (g := fun i => (ad (3 + i), .inr (3, fd_fRs (fd_srD σ j v) i))) ?_ ?_]
  · rfl
  · simp only [fd_fRs, fd_srD, fd_rI, fd_rB, fd_rD, va_up_self]
    rfl
  · intro i hi
    simp only [fd_fRs, fd_srD, fd_rI, fd_rB, fd_rD, va_up_ne _ _ hi]
theorem fd_set_Rs_11 {j : Nat} {v : Int32} (h : j < 48) : (fd_w cR cP ad σ).set (5 + j) (ad (3 + j), .inr (3, (fd_fRs σ j).set 11 (.int v))) = fd_w cR cP ad (fd_srI σ j 11 v) := by
  unfold fd_w
  rw [fd_set5, fd_setL h, fd_mapset h (g := fun i => (ad (3 + i), .inr (3, fd_fRs (fd_srI σ j 11 v) i))) ?_ ?_]
  · rfl
  · simp only [fd_fRs, fd_srI, fd_rI, fd_rB, fd_rD, va_up_self]
    rfl
  · intro i hi
    simp only [fd_fRs, fd_srI, fd_rI, fd_rB, fd_rD, va_up_ne _ _ hi]
theorem fd_set_Rs_12 {j : Nat} {v : Int32} (h : j < 48) : (fd_w cR cP ad σ).set (5 + j) (ad (3 + j), .inr (3, (fd_fRs σ j).set 12 (.int v))) = fd_w cR cP ad (fd_srI σ j 12 v) := by
  unfold fd_w
  rw [fd_set5, fd_setL h, fd_mapset h (g := fun i => (ad (3 + i), .inr (3, fd_fRs (fd_srI σ j 12 v) i))) ?_ ?_]
  · rfl
  · simp only [fd_fRs, fd_srI, fd_rI, fd_rB, fd_rD, va_up_self]
    rfl
  · intro i hi
    simp only [fd_fRs, fd_srI, fd_rI, fd_rB, fd_rD, va_up_ne _ _ hi]
theorem fd_set_Pm_0 {j : Nat} {v : Int32} (h : j < 6) : (fd_w cR cP ad σ).set (53 + j) (ad (51 + j), .inr (1, (fd_fPm σ j).set 0 (.int v))) = fd_w cR cP ad (fd_spI σ j 0 v) := by
  unfold fd_w
  rw [show 53 + j = 5 + (48 + j) by omega, fd_set5, fd_setR, fd_mapset h (g := fun i => (ad (51 + i), .inr (1, fd_fPm (fd_spI σ j 0 v) i))) ?_ ?_]
  · rfl
  · simp only [fd_fPm, fd_spI, fd_pI, fd_pB, fd_pD, va_up_self]
    rfl
  · intro i hi
    simp only [fd_fPm, fd_spI, fd_pI, fd_pB, fd_pD, va_up_ne _ _ hi]
theorem fd_set_Pm_1 {j : Nat} {v : Int32} (h : j < 6) : (fd_w cR cP ad σ).set (53 + j) (ad (51 + j), .inr (1, (fd_fPm σ j).set 1 (.int v))) = fd_w cR cP ad (fd_spI σ j 1 v) := by
  unfold fd_w
  rw [show 53 + j = 5 + (48 + j) by omega, fd_set5, fd_setR, fd_mapset h (g := fun i => (ad (51 + i), .inr (1, fd_fPm (fd_spI σ j 1 v) i))) ?_ ?_]
  · rfl
  · simp only [fd_fPm, fd_spI, fd_pI, fd_pB, fd_pD, va_up_self]
    rfl
  · intro i hi
    simp only [fd_fPm, fd_spI, fd_pI, fd_pB, fd_pD, va_up_ne _ _ hi]
theorem fd_set_Pm_2 {j : Nat} {v : Bool} (h : j < 6) : (fd_w cR cP ad σ).set (53 + j) (ad (51 + j), .inr (1, (fd_fPm σ j).set 2 (.int (fd_bi v)))) = fd_w cR cP ad (fd_spB σ j v) := by
  unfold fd_w
  rw [show 53 + j = 5 + (48 + j) by omega, fd_set5, fd_setR, fd_mapset h (g := fun i => (ad (51 + i), .inr (1, fd_fPm (fd_spB σ j v) i))) ?_ ?_]
  · rfl
  · simp only [fd_fPm, fd_spB, fd_pI, fd_pB, fd_pD, va_up_self]
    rfl
  · intro i hi
    simp only [fd_fPm, fd_spB, fd_pI, fd_pB, fd_pD, va_up_ne _ _ hi]
theorem fd_set_Pm_3 {j : Nat} {v : Int32} (h : j < 6) : (fd_w cR cP ad σ).set (53 + j) (ad (51 + j), .inr (1, (fd_fPm σ j).set 3 (.int v))) = fd_w cR cP ad (fd_spI σ j 3 v) := by
  unfold fd_w
  rw [show 53 + j = 5 + (48 + j) by omega, fd_set5, fd_setR, fd_mapset h (g := fun i => (ad (51 + i), .inr (1, fd_fPm (fd_spI σ j 3 v) i))) ?_ ?_]
  · rfl
  · simp only [fd_fPm, fd_spI, fd_pI, fd_pB, fd_pD, va_up_self]
    rfl
  · intro i hi
    simp only [fd_fPm, fd_spI, fd_pI, fd_pB, fd_pD, va_up_ne _ _ hi]
theorem fd_set_Pm_4 {j : Nat} {v : Int32} (h : j < 6) : (fd_w cR cP ad σ).set (53 + j) (ad (51 + j), .inr (1, (fd_fPm σ j).set 4 (.int v))) = fd_w cR cP ad (fd_spI σ j 4 v) := by
  unfold fd_w
  rw [show 53 + j = 5 + (48 + j) by omega, fd_set5, fd_setR, fd_mapset h (g := fun i => (ad (51 + i), .inr (1, fd_fPm (fd_spI σ j 4 v) i))) ?_ ?_]
  · rfl
  · simp only [fd_fPm, fd_spI, fd_pI, fd_pB, fd_pD, va_up_self]
    rfl
  · intro i hi
    simp only [fd_fPm, fd_spI, fd_pI, fd_pB, fd_pD, va_up_ne _ _ hi]
theorem fd_set_Pm_5 {j : Nat} {v : UInt64} (h : j < 6) : (fd_w cR cP ad σ).set (53 + j) (ad (51 + j), .inr (1, (fd_fPm σ j).set 5 (.double v))) = fd_w cR cP ad (fd_spD σ j v) := by
  unfold fd_w
  rw [show 53 + j = 5 + (48 + j) by omega, fd_set5, fd_setR, fd_mapset h (g := fun i => (ad (51 + i), .inr (1, fd_fPm (fd_spD σ j v) i))) ?_ ?_]
  · rfl
  · simp only [fd_fPm, fd_spD, fd_pI, fd_pB, fd_pD, va_up_self]
    rfl
  · intro i hi
    simp only [fd_fPm, fd_spD, fd_pI, fd_pB, fd_pD, va_up_ne _ _ hi]
end FDW
