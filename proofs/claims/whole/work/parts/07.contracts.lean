/-! contracts over the desk's world -/
/-- what always holds of a state: the request's URL is one; targets are URLs or -1; at most six are remembered; the permits are the six; the time is a number; ages are finite -/
def fd_Inv (σ : FDS) : Prop := vp_in (fd_qI σ 1) 48 ∧ (∀ u, u < 48 → fd_rI σ u 2 = -1 ∨ vp_in (fd_rI σ u 2) 48) ∧ (∃ n : Nat, n ≤ 6 ∧ fd_mS σ = nI n) ∧ (∀ i, i < 6 → fd_pF σ i < 6) ∧ FP.dIsNaN (fd_dT σ) = false ∧ ∀ u, u < 48 → FP.Core.DFin (fd_rD σ u)
theorem fd_inv_sqI {σ : FDS} {k : Nat} {v : Int32} (hk : (1 : Nat) ≠ k) (h : fd_Inv σ) : fd_Inv (fd_sqI σ k v) := ⟨by
  show vp_in (va_up (fd_qI σ) k v 1) 48
  rw [va_up_ne _ _ hk]
  exact h.1, h.2⟩
theorem fd_inv_sdI {σ : FDS} {k : Nat} {v : Int32} (h : fd_Inv σ) : fd_Inv (fd_sdI σ k v) := h
theorem fd_inv_sqB {σ : FDS} {k : Nat} {v : Bool} (h : fd_Inv σ) : fd_Inv (fd_sqB σ k v) := h
theorem fd_inv_srB {σ : FDS} {j k : Nat} {v : Bool} (h : fd_Inv σ) : fd_Inv (fd_srB σ j k v) := h
theorem fd_inv_spI {σ : FDS} {j k : Nat} {v : Int32} (h : fd_Inv σ) : fd_Inv (fd_spI σ j k v) := h
theorem fd_inv_spB {σ : FDS} {j : Nat} {v : Bool} (h : fd_Inv σ) : fd_Inv (fd_spB σ j v) := h
theorem fd_inv_spD {σ : FDS} {j : Nat} {v : UInt64} (h : fd_Inv σ) : fd_Inv (fd_spD σ j v) := h
theorem fd_inv_url {σ : FDS} {v : Int32} (hv : vp_in v 48) (h : fd_Inv σ) : fd_Inv (fd_sqI σ 1 v) := ⟨by
  show vp_in (va_up (fd_qI σ) 1 v 1) 48
  rw [va_up_self]
  exact hv, h.2⟩
theorem fd_inv_srI {σ : FDS} {j k : Nat} {v : Int32} (hk : (2 : Nat) ≠ k) (h : fd_Inv σ) : fd_Inv (fd_srI σ j k v) := ⟨h.1, fun u hu => by
  show va_up (fd_rI σ) j (va_up (fd_rI σ j) k v) u 2 = -1 ∨ vp_in (va_up (fd_rI σ) j (va_up (fd_rI σ j) k v) u 2) 48
  by_cases hj : u = j
  · subst hj
    rw [va_up_self, va_up_ne _ _ hk]
    exact h.2.1 u hu
  · rw [va_up_ne _ _ hj]
    exact h.2.1 u hu, h.2.2⟩
theorem fd_inv_target {σ : FDS} {j : Nat} {v : Int32} (hv : v = -1 ∨ vp_in v 48) (h : fd_Inv σ) : fd_Inv (fd_srI σ j 2 v) := ⟨h.1, fun u hu => by
  show va_up (fd_rI σ) j (va_up (fd_rI σ j) 2 v) u 2 = -1 ∨ vp_in (va_up (fd_rI σ) j (va_up (fd_rI σ j) 2 v) u 2) 48
  by_cases hj : u = j
  · subst hj
    rw [va_up_self, va_up_self]
    exact hv
  · rw [va_up_ne _ _ hj]
    exact h.2.1 u hu, h.2.2⟩
theorem fd_inv_age {σ : FDS} {j : Nat} {v : UInt64} (hv : FP.Core.DFin v) (h : fd_Inv σ) : fd_Inv (fd_srD σ j v) := ⟨h.1, h.2.1, h.2.2.1, h.2.2.2.1, h.2.2.2.2.1, fun u hu => by
  show FP.Core.DFin (va_up (fd_rD σ) j v u)
  by_cases hj : u = j
  · subst hj
    rw [va_up_self]
    exact hv
  · rw [va_up_ne _ _ hj]
    exact h.2.2.2.2.2 u hu⟩
theorem fd_inv_time {σ : FDS} {v : UInt64} (hv : FP.dIsNaN v = false) (h : fd_Inv σ) : fd_Inv (fd_sdT σ v) := ⟨h.1, h.2.1, h.2.2.1, h.2.2.2.1, hv, h.2.2.2.2.2⟩
theorem fd_inv_size {σ : FDS} {v : Int32} (hv : ∃ n : Nat, n ≤ 6 ∧ v = nI n) (h : fd_Inv σ) : fd_Inv (fd_smS σ v) := ⟨h.1, h.2.1, hv, h.2.2.2⟩
theorem fd_inv_pF {σ : FDS} {i v : Nat} (hv : v < 6) (h : fd_Inv σ) : fd_Inv (fd_spF σ i v) := ⟨h.1, h.2.1, h.2.2.1, fun k hk => by
  show va_up (fd_pF σ) i v k < 6
  by_cases hj : k = i
  · subst hj
    rw [va_up_self]
    exact hv
  · rw [va_up_ne _ _ hj]
    exact h.2.2.2.1 k hk, h.2.2.2.2⟩
theorem fd_plt {σ : FDS} {x : Int32} (h : fd_Inv σ) (hx : vp_in x 6) : fd_pF σ x.toNatClampNeg < 6 := h.2.2.2.1 _ (fd_lt hx)
theorem fd_n64 {a : UInt64} (h : FP.dIsNaN a = false) : vf_n64 a := by
  unfold vf_n64
  rw [UInt64.le_iff_toNat_le, FP.Core.mask_toNat]
  have h1 := FP.Core.isNaN_bits a
  have h2 : ¬ (FP.Core.dIsNaN a = true) := by rw [show FP.Core.dIsNaN a = false from h]; decide
  have h3 := fun q => h2 (h1.mpr q)
  have h4 : (9218868437227405312 : UInt64).toNat = 9218868437227405312 := rfl
  show a.toNat % 2 ^ 63 ≤ (9218868437227405312 : UInt64).toNat
  rw [h4]
  exact Nat.le_of_not_lt h3
def fd_N (U : State) : Prop := ∀ w ∈ fn_nw, va_Nw w U
def fd_isN : Cond → Bool
  | .fieldLinkNest .. => true
  | .methodLinkNest .. => true
  | _ => false
theorem fd_allN : ∀ w ∈ fn_nw, fd_isN w = true := by decide +kernel
theorem fd_N_warm {s U : State} (hW : s.WarmedH U.vm) (h : fd_N s) : fd_N U := fun w hw => by
  have h1 := fd_allN w hw
  have h2 := h w hw
  cases w <;> first | exact va_Nw.warmF hW h2 | exact va_Nw.warmM hW h2 | cases h1
theorem fd_N_same {s U : State} (hv : s.vm = U.vm) (h : fd_N s) : fd_N U := fun w hw => by
  have h1 := fd_allN w hw
  have h2 := h w hw
  cases w <;> first | exact va_Nw.same rfl hv h2 | cases h1
/-- a contract's start: the arguments, and the desk's world in state σ -/
def fd_Pc (D : va_G) (cR cP : ClassId) (ad : Nat → Nat) (av : List Value) (σ : FDS) (sz : Nat) : Array Value → State → Prop :=
  va_Pc av (fun U => U.heap.size = sz ∧ va_P D fn_cl (fd_w cR cP ad σ) U.heap ∧ va_K D fn_cl (fd_tys cR cP) U ∧ va_D (fun _ => True) (fd_w cR cP ad σ) ∧ fd_N U)
/-- a contract's end: the desk's world in state u -/
def fd_B (D : va_G) (cR cP : ClassId) (ad : Nat → Nat) (A : Nat → Prop) (u : FDS) (t : State) : Prop := va_P D fn_cl (fd_w cR cP ad u) t.heap ∧ va_D A (fd_w cR cP ad u)
theorem fd_blind {D : va_G} {cR cP : ClassId} {ad : Nat → Nat} {av : List Value} {σ : FDS} {sz : Nat} : FrameBlind (fd_Pc D cR cP ad av σ sz) := fun a U g mk q => by
  obtain ⟨q0, q1, qP, qK, qD, qN⟩ := q
  exact ⟨q0, q1, qP, va_K.moved (u := U) (U := U.calling g mk a) (Vm.Alike.refl U.vm) qK, qD, fd_N_same (s := U) (U := U.calling g mk a) rfl qN⟩
section FDC
variable {p : Program} {l : Launch} {e : Env} {R : Room} {s : State} {m : MethodId} {args : Array Value} {below : List Frame} {meth : Method} {c : Code} {H H0 : Heap} {locs : List Loc} {cells slots : Nat} {Q : State → Prop} {cc : ByteArray} {pc : Nat} {ls : Array Slot} {rest st0 : List Value}
variable {D : va_G} {cR cP : ClassId} {ad : Nat → Nat} {A : Nat → Prop} {σ : FDS}
theorem fd_preS {As : List Value} (hP : va_P D fn_cl (fd_w cR cP ad σ) H) (hK : va_K D fn_cl (fd_tys cR cP) s) (hD : va_D A (fd_w cR cP ad σ)) (hN : fd_N s) : PreS s H (fd_Pc D cR cP ad As σ H.size) As :=
  ⟨fd_blind, fun U hU hW => ⟨rfl, by rw [hU], by rw [hU]; exact hP, va_K.moved hW.alike hK, hD.weaken (fun _ _ _ _ => trivial), fd_N_warm hW hN⟩⟩
theorem fd_preV {As : List Value} {C : String} {b : Addr} (hP : va_P D fn_cl (fd_w cR cP ad σ) H) (hK : va_K D fn_cl (fd_tys cR cP) s) (hD : va_D A (fd_w cR cP ad σ)) (hN : fd_N s) (hr : ∃ cell : Cell, H[b]? = some cell ∧ cell.vm.isStatics = false ∧ s.vm.findClass C = some cell.cls) : PreV s H C b (fd_Pc D cR cP ad (.ref b :: As) σ H.size) As :=
  ⟨fd_blind, hr, fun U hU hW => ⟨rfl, by rw [hU], by rw [hU]; exact hP, va_K.moved hW.alike hK, hD.weaken (fun _ _ _ _ => trivial), fd_N_warm hW hN⟩⟩
/-- a body's walk gives its contract -/
theorem fd_ofW {y : MethodName} {ws' : List Cond} {rm : Room} {av : List Value} {sz maxL : Nat} {ret : Option FieldType} {Qf : (Nat → Prop) → Array Value → State → Outcome → State → Prop} (hy : plainName y.cls = true) (hn : (lg_sl av).length ≤ maxL)
    (body : ∀ (p : Program) (e : Env) (s : State) (m : MethodId) (args : Array Value) (below : List Frame) (meth : Method) (c : Code) (A : Nat → Prop) (Q : State → Prop), Q = MQ below (Qf A) args s 0 0 A → p.tables.exec = Jvm.exec → c.code = cc → meth.sig.returnType = ret → (∀ w ∈ Cond.code y cc maxL ret :: ws', w.before args s = true) → s.vm.findClass y.cls = some m.cls → meth.locks = false → c.maxLocals = maxL →
      va_P D fn_cl (fd_w cR cP ad σ) s.heap → va_K D fn_cl (fd_tys cR cP) s → va_D A (fd_w cR cP ad σ) → va_S A s.heap s.heap [] → (∀ q : Nat, s.heap.size ≤ q → A q) → fd_N s → ∀ ls : Array Slot, lv_has ls maxL (lv_args 0 av) → W p l e rm s m args below meth c s.heap [] 0 0 Q (F0 m 0 ls [])) :
    Met l y (Cond.code y cc maxL ret :: ws') rm (fd_Pc D cR cP ad av σ sz) (Qf (va_A (fd_w cR cP ad σ) sz)) 0 0 (va_A (fd_w cR cP ad σ) sz) := by
  refine Met.ofW (cc := cc) (maxL := maxL) (ret := ret) hy rfl ?_
  intro p e s m args below meth c s₁ B hml hv
  obtain ⟨rfl, hsz, hP, hK, hD0, hN⟩ := hv
  subst hsz
  have hl := lv_entry av (n := maxL) hn
  rw [lg_entry_eq]
  generalize (lg_sl av ++ List.replicate (maxL - (lg_sl av).length) Slot.unset).toArray = ls at hl ⊢
  exact body p e s m _ below meth c _ _ rfl B.exec B.bytes B.returns (atoms_spec (ws := Cond.code y cc maxL ret :: ws') B.pre) (findClass_of_methodNamed B.named) B.notSynchronized hml hP hK (hD0.self (sz := s.heap.size)) va_S.rf (fun q h => Or.inr h) hN ls hl
-- ends
theorem fd_iret {post : Int32 → FDS → Prop} {r : Int32} {u : FDS} (hQ : Q = MQ below (va_Qi post (fd_B D cR cP ad A) A) args s 0 0 A) (hx : p.tables.exec = Jvm.exec) (hb : c.code = cc) (hr : meth.sig.returnType = some .int) (hp : post r u) (hP : va_P D fn_cl (fd_w cR cP ad u) H) (hD : va_D A (fd_w cR cP ad u)) (hS : va_S A s.heap H locs) (hdg : decode cc pc = .ok (.ireturn, 1)) (hlocks : meth.locks = false) :
    W p l e R s m args below meth c H locs 0 0 Q (F0 m pc ls [.int r]) := by
  rw [hQ]
  exact W.iret hx hb hr (fun t ht hW => ⟨⟨r, u, rfl, hp, by rw [ht]; exact hP, hD⟩, hS.F ht⟩) hS.2.2 hdg hlocks
theorem fd_zret {post : Int32 → FDS → Prop} {r : Bool} {u : FDS} (hQ : Q = MQ below (va_Qi post (fd_B D cR cP ad A) A) args s 0 0 A) (hx : p.tables.exec = Jvm.exec) (hb : c.code = cc) (hr : meth.sig.returnType = some .boolean) (hp : post (fd_bi r) u) (hP : va_P D fn_cl (fd_w cR cP ad u) H) (hD : va_D A (fd_w cR cP ad u)) (hS : va_S A s.heap H locs) (hdg : decode cc pc = .ok (.ireturn, 1)) (hlocks : meth.locks = false) :
    W p l e R s m args below meth c H locs 0 0 Q (F0 m pc ls [.int (fd_bi r)]) := by
  rw [hQ]
  exact W.zret hx hb hr (fd_nar r) (fun t ht hW => ⟨⟨fd_bi r, u, rfl, hp, by rw [ht]; exact hP, hD⟩, hS.F ht⟩) hS.2.2 hdg hlocks
theorem fd_dret {post : UInt64 → FDS → Prop} {r : UInt64} {u : FDS} (hQ : Q = MQ below (va_Qd post (fd_B D cR cP ad A) A) args s 0 0 A) (hx : p.tables.exec = Jvm.exec) (hb : c.code = cc) (hr : meth.sig.returnType = some .double) (hp : post r u) (hP : va_P D fn_cl (fd_w cR cP ad u) H) (hD : va_D A (fd_w cR cP ad u)) (hS : va_S A s.heap H locs) (hdg : decode cc pc = .ok (.dreturn, 1)) (hlocks : meth.locks = false) :
    W p l e R s m args below meth c H locs 0 0 Q (F0 m pc ls [.double r]) := by
  rw [hQ]
  exact W.dret hx hb hr (fun t ht hW => ⟨⟨r, u, rfl, hp, by rw [ht]; exact hP, hD⟩, hS.F ht⟩) hS.2.2 hdg hlocks
theorem fd_vret {post : FDS → Prop} {u : FDS} (hQ : Q = MQ below (va_Qv post (fd_B D cR cP ad A) A) args s 0 0 A) (hx : p.tables.exec = Jvm.exec) (hb : c.code = cc) (hr : meth.sig.returnType = none) (hp : post u) (hP : va_P D fn_cl (fd_w cR cP ad u) H) (hD : va_D A (fd_w cR cP ad u)) (hS : va_S A s.heap H locs) (hdg : decode cc pc = .ok (.return_, 1)) (hlocks : meth.locks = false) :
    W p l e R s m args below meth c H locs 0 0 Q (F0 m pc ls []) := by
  rw [hQ]
  exact W.vret hx hb hr (fun t ht hW => ⟨⟨u, rfl, hp, by rw [ht]; exact hP, hD⟩, hS.F ht⟩) hS.2.2 hdg hlocks
-- calls: the callee has the caller's whole world
theorem fd_calli {a : Array Value} {T : Int32} (hr : va_Run p l e R s m args below meth c H locs 0 0 0 0 (F0 m pc ls st0) rest (va_Qi (fun r u => T = r ∧ u = σ) (fd_B D cR cP ad (va_A (fd_w cR cP ad σ) H.size)) (va_A (fd_w cR cP ad σ) H.size) a) (va_A (fd_w cR cP ad σ) H.size)) (hD : va_D A (fd_w cR cP ad σ)) (hS : va_S A s.heap H locs) (hA : ∀ q : Nat, s.heap.size ≤ q → A q)
    (kk : ∀ (H : Heap) (locs : List Loc), va_P D fn_cl (fd_w cR cP ad σ) H → va_D A (fd_w cR cP ad σ) → va_S A s.heap H locs → W p l e R s m args below meth c H locs 0 0 Q (F0 m (pc + 3) ls (.int T :: rest))) : W p l e R s m args below meth c H locs 0 0 Q (F0 m pc ls st0) := by
  have hF := fd_free hD hS hA
  refine va_calli hr hS (fun q _ h => hF q h) hF (fun r u t H1 locs1 ht hvm hw hB hz1 hk1 hS1 => ?_)
  obtain ⟨rfl, rfl⟩ := hw
  obtain ⟨hP1, hD1⟩ := hB
  rw [ht] at hP1
  exact kk H1 locs1 hP1 (hD1.weaken (fun k q _ h => hF q.1 h)) hS1
theorem fd_callz {a : Array Value} {T : Bool} (hr : va_Run p l e R s m args below meth c H locs 0 0 0 0 (F0 m pc ls st0) rest (va_Qi (fun r u => fd_bi T = r ∧ u = σ) (fd_B D cR cP ad (va_A (fd_w cR cP ad σ) H.size)) (va_A (fd_w cR cP ad σ) H.size) a) (va_A (fd_w cR cP ad σ) H.size)) (hD : va_D A (fd_w cR cP ad σ)) (hS : va_S A s.heap H locs) (hA : ∀ q : Nat, s.heap.size ≤ q → A q)
    (kk : ∀ (H : Heap) (locs : List Loc), va_P D fn_cl (fd_w cR cP ad σ) H → va_D A (fd_w cR cP ad σ) → va_S A s.heap H locs → W p l e R s m args below meth c H locs 0 0 Q (F0 m (pc + 3) ls (.int (fd_bi T) :: rest))) : W p l e R s m args below meth c H locs 0 0 Q (F0 m pc ls st0) := fd_calli hr hD hS hA kk
theorem fd_callim {a : Array Value} {T : Int32 × FDS} (hr : va_Run p l e R s m args below meth c H locs 0 0 0 0 (F0 m pc ls st0) rest (va_Qi (fun r u => T = (r, u) ∧ fd_Inv u) (fd_B D cR cP ad (va_A (fd_w cR cP ad σ) H.size)) (va_A (fd_w cR cP ad σ) H.size) a) (va_A (fd_w cR cP ad σ) H.size)) (hD : va_D A (fd_w cR cP ad σ)) (hS : va_S A s.heap H locs) (hA : ∀ q : Nat, s.heap.size ≤ q → A q)
    (kk : ∀ (H : Heap) (locs : List Loc), va_P D fn_cl (fd_w cR cP ad T.2) H → va_D A (fd_w cR cP ad T.2) → va_S A s.heap H locs → fd_Inv T.2 → W p l e R s m args below meth c H locs 0 0 Q (F0 m (pc + 3) ls (.int T.1 :: rest))) : W p l e R s m args below meth c H locs 0 0 Q (F0 m pc ls st0) := by
  have hF := fd_free hD hS hA
  refine va_calli hr hS (fun q _ h => hF q h) hF (fun r u t H1 locs1 ht hvm hw hB hz1 hk1 hS1 => ?_)
  obtain ⟨rfl, hI1⟩ := hw
  obtain ⟨hP1, hD1⟩ := hB
  rw [ht] at hP1
  exact kk H1 locs1 hP1 (hD1.weaken (fun k q _ h => hF q.1 h)) hS1 hI1
theorem fd_callzm {a : Array Value} {T : Bool × FDS} (hr : va_Run p l e R s m args below meth c H locs 0 0 0 0 (F0 m pc ls st0) rest (va_Qi (fun r u => (fd_bi T.1, T.2) = (r, u) ∧ fd_Inv u) (fd_B D cR cP ad (va_A (fd_w cR cP ad σ) H.size)) (va_A (fd_w cR cP ad σ) H.size) a) (va_A (fd_w cR cP ad σ) H.size)) (hD : va_D A (fd_w cR cP ad σ)) (hS : va_S A s.heap H locs) (hA : ∀ q : Nat, s.heap.size ≤ q → A q)
    (kk : ∀ (H : Heap) (locs : List Loc), va_P D fn_cl (fd_w cR cP ad T.2) H → va_D A (fd_w cR cP ad T.2) → va_S A s.heap H locs → fd_Inv T.2 → W p l e R s m args below meth c H locs 0 0 Q (F0 m (pc + 3) ls (.int (fd_bi T.1) :: rest))) : W p l e R s m args below meth c H locs 0 0 Q (F0 m pc ls st0) := fd_callim hr hD hS hA kk
theorem fd_callvm {a : Array Value} {T : FDS} (hr : va_Run p l e R s m args below meth c H locs 0 0 0 0 (F0 m pc ls st0) rest (va_Qv (fun u => T = u ∧ fd_Inv u) (fd_B D cR cP ad (va_A (fd_w cR cP ad σ) H.size)) (va_A (fd_w cR cP ad σ) H.size) a) (va_A (fd_w cR cP ad σ) H.size)) (hD : va_D A (fd_w cR cP ad σ)) (hS : va_S A s.heap H locs) (hA : ∀ q : Nat, s.heap.size ≤ q → A q)
    (kk : ∀ (H : Heap) (locs : List Loc), va_P D fn_cl (fd_w cR cP ad T) H → va_D A (fd_w cR cP ad T) → va_S A s.heap H locs → fd_Inv T → W p l e R s m args below meth c H locs 0 0 Q (F0 m (pc + 3) ls rest)) : W p l e R s m args below meth c H locs 0 0 Q (F0 m pc ls st0) := by
  have hF := fd_free hD hS hA
  refine va_callv hr hS (fun q _ h => hF q h) hF (fun u t H1 locs1 ht hvm hw hB hz1 hk1 hS1 => ?_)
  obtain ⟨rfl, hI1⟩ := hw
  obtain ⟨hP1, hD1⟩ := hB
  rw [ht] at hP1
  exact kk H1 locs1 hP1 (hD1.weaken (fun k q _ h => hF q.1 h)) hS1 hI1
end FDC
