/-! contracts over the model's world -/
/-- a contract's start: the arguments, and the model's world in state σ -/
def fm_Pc (D : va_G) (ca : Nat → ClassId) (am : Nat → Nat) (av : List Value) (σ : FMS) (sz : Nat) : Array Value → State → Prop :=
  va_Pc av (fun U => U.heap.size = sz ∧ va_P D fn_cl (fm_w ca am σ) U.heap ∧ va_K D fn_cl (fm_tys ca) U ∧ va_D (fun _ => True) (fm_w ca am σ) ∧ fd_N U)
/-- a contract's end: the model's world in state u -/
def fm_B (D : va_G) (ca : Nat → ClassId) (am : Nat → Nat) (A : Nat → Prop) (u : FMS) (t : State) : Prop := va_P D fn_cl (fm_w ca am u) t.heap ∧ va_D A (fm_w ca am u)
theorem fm_blind {D : va_G} {ca : Nat → ClassId} {am : Nat → Nat} {av : List Value} {σ : FMS} {sz : Nat} : FrameBlind (fm_Pc D ca am av σ sz) := fun a U g mk q => by
  obtain ⟨q0, q1, qP, qK, qD, qN⟩ := q
  exact ⟨q0, q1, qP, va_K.moved (u := U) (U := U.calling g mk a) (Vm.Alike.refl U.vm) qK, qD, fd_N_same (s := U) (U := U.calling g mk a) rfl qN⟩
section FMC
variable {p : Program} {l : Launch} {e : Env} {R : Room} {s : State} {m : MethodId} {args : Array Value} {below : List Frame} {meth : Method} {c : Code} {H H0 : Heap} {locs : List Loc} {cells slots : Nat} {Q : State → Prop} {cc : ByteArray} {pc : Nat} {ls : Array Slot} {rest st0 : List Value}
variable {D : va_G} {ca : Nat → ClassId} {am : Nat → Nat} {A : Nat → Prop} {σ : FMS}
theorem fm_preS {As : List Value} (hP : va_P D fn_cl (fm_w ca am σ) H) (hK : va_K D fn_cl (fm_tys ca) s) (hD : va_D A (fm_w ca am σ)) (hN : fd_N s) : PreS s H (fm_Pc D ca am As σ H.size) As :=
  ⟨fm_blind, fun U hU hW => ⟨rfl, by rw [hU], by rw [hU]; exact hP, va_K.moved hW.alike hK, hD.weaken (fun _ _ _ _ => trivial), fd_N_warm hW hN⟩⟩
theorem fm_preV {As : List Value} {C : String} {b : Addr} (hP : va_P D fn_cl (fm_w ca am σ) H) (hK : va_K D fn_cl (fm_tys ca) s) (hD : va_D A (fm_w ca am σ)) (hN : fd_N s) (hr : ∃ cell : Cell, H[b]? = some cell ∧ cell.vm.isStatics = false ∧ s.vm.findClass C = some cell.cls) : PreV s H C b (fm_Pc D ca am (.ref b :: As) σ H.size) As :=
  ⟨fm_blind, hr, fun U hU hW => ⟨rfl, by rw [hU], by rw [hU]; exact hP, va_K.moved hW.alike hK, hD.weaken (fun _ _ _ _ => trivial), fd_N_warm hW hN⟩⟩
/-- a body's walk gives its contract -/
theorem fm_ofW {y : MethodName} {ws' : List Cond} {rm : Room} {av : List Value} {sz maxL : Nat} {ret : Option FieldType} {Qf : (Nat → Prop) → Array Value → State → Outcome → State → Prop} (hy : plainName y.cls = true) (hn : (lg_sl av).length ≤ maxL)
    (body : ∀ (p : Program) (e : Env) (s : State) (m : MethodId) (args : Array Value) (below : List Frame) (meth : Method) (c : Code) (A : Nat → Prop) (Q : State → Prop), Q = MQ below (Qf A) args s 0 0 A → p.tables.exec = Jvm.exec → c.code = cc → meth.sig.returnType = ret → (∀ w ∈ Cond.code y cc maxL ret :: ws', w.before args s = true) → s.vm.findClass y.cls = some m.cls → meth.locks = false → c.maxLocals = maxL →
      va_P D fn_cl (fm_w ca am σ) s.heap → va_K D fn_cl (fm_tys ca) s → va_D A (fm_w ca am σ) → va_S A s.heap s.heap [] → (∀ q : Nat, s.heap.size ≤ q → A q) → fd_N s → ∀ ls : Array Slot, lv_has ls maxL (lv_args 0 av) → W p l e rm s m args below meth c s.heap [] 0 0 Q (F0 m 0 ls [])) :
    Met l y (Cond.code y cc maxL ret :: ws') rm (fm_Pc D ca am av σ sz) (Qf (va_A (fm_w ca am σ) sz)) 0 0 (va_A (fm_w ca am σ) sz) := by
  refine Met.ofW (cc := cc) (maxL := maxL) (ret := ret) hy rfl ?_
  intro p e s m args below meth c s₁ B hml hv
  obtain ⟨rfl, hsz, hP, hK, hD0, hN⟩ := hv
  subst hsz
  have hl := lv_entry av (n := maxL) hn
  rw [lg_entry_eq]
  generalize (lg_sl av ++ List.replicate (maxL - (lg_sl av).length) Slot.unset).toArray = ls at hl ⊢
  exact body p e s m _ below meth c _ _ rfl B.exec B.bytes B.returns (atoms_spec (ws := Cond.code y cc maxL ret :: ws') B.pre) (findClass_of_methodNamed B.named) B.notSynchronized hml hP hK (hD0.self (sz := s.heap.size)) va_S.rf (fun q h => Or.inr h) hN ls hl
-- ends
theorem fm_iret {post : Int32 → FMS → Prop} {r : Int32} {u : FMS} (hQ : Q = MQ below (va_Qi post (fm_B D ca am A) A) args s 0 0 A) (hx : p.tables.exec = Jvm.exec) (hb : c.code = cc) (hr : meth.sig.returnType = some .int) (hp : post r u) (hP : va_P D fn_cl (fm_w ca am u) H) (hD : va_D A (fm_w ca am u)) (hS : va_S A s.heap H locs) (hdg : decode cc pc = .ok (.ireturn, 1)) (hlocks : meth.locks = false) :
    W p l e R s m args below meth c H locs 0 0 Q (F0 m pc ls [.int r]) := by
  rw [hQ]
  exact W.iret hx hb hr (fun t ht hW => ⟨⟨r, u, rfl, hp, by rw [ht]; exact hP, hD⟩, hS.F ht⟩) hS.2.2 hdg hlocks
theorem fm_zret {post : Int32 → FMS → Prop} {r : Bool} {u : FMS} (hQ : Q = MQ below (va_Qi post (fm_B D ca am A) A) args s 0 0 A) (hx : p.tables.exec = Jvm.exec) (hb : c.code = cc) (hr : meth.sig.returnType = some .boolean) (hp : post (fd_bi r) u) (hP : va_P D fn_cl (fm_w ca am u) H) (hD : va_D A (fm_w ca am u)) (hS : va_S A s.heap H locs) (hdg : decode cc pc = .ok (.ireturn, 1)) (hlocks : meth.locks = false) :
    W p l e R s m args below meth c H locs 0 0 Q (F0 m pc ls [.int (fd_bi r)]) := by
  rw [hQ]
  exact W.zret hx hb hr (fd_nar r) (fun t ht hW => ⟨⟨fd_bi r, u, rfl, hp, by rw [ht]; exact hP, hD⟩, hS.F ht⟩) hS.2.2 hdg hlocks
theorem fm_dret {post : UInt64 → FMS → Prop} {r : UInt64} {u : FMS} (hQ : Q = MQ below (va_Qd post (fm_B D ca am A) A) args s 0 0 A) (hx : p.tables.exec = Jvm.exec) (hb : c.code = cc) (hr : meth.sig.returnType = some .double) (hp : post r u) (hP : va_P D fn_cl (fm_w ca am u) H) (hD : va_D A (fm_w ca am u)) (hS : va_S A s.heap H locs) (hdg : decode cc pc = .ok (.dreturn, 1)) (hlocks : meth.locks = false) :
    W p l e R s m args below meth c H locs 0 0 Q (F0 m pc ls [.double r]) := by
  rw [hQ]
  exact W.dret hx hb hr (fun t ht hW => ⟨⟨r, u, rfl, hp, by rw [ht]; exact hP, hD⟩, hS.F ht⟩) hS.2.2 hdg hlocks
theorem fm_vret {post : FMS → Prop} {u : FMS} (hQ : Q = MQ below (va_Qv post (fm_B D ca am A) A) args s 0 0 A) (hx : p.tables.exec = Jvm.exec) (hb : c.code = cc) (hr : meth.sig.returnType = none) (hp : post u) (hP : va_P D fn_cl (fm_w ca am u) H) (hD : va_D A (fm_w ca am u)) (hS : va_S A s.heap H locs) (hdg : decode cc pc = .ok (.return_, 1)) (hlocks : meth.locks = false) :
    W p l e R s m args below meth c H locs 0 0 Q (F0 m pc ls []) := by
  rw [hQ]
  exact W.vret hx hb hr (fun t ht hW => ⟨⟨u, rfl, hp, by rw [ht]; exact hP, hD⟩, hS.F ht⟩) hS.2.2 hdg hlocks
-- calls: the callee has the caller's whole world
theorem fm_calli {a : Array Value} {T : Int32} (hr : va_Run p l e R s m args below meth c H locs 0 0 0 0 (F0 m pc ls st0) rest (va_Qi (fun r u => T = r ∧ u = σ) (fm_B D ca am (va_A (fm_w ca am σ) H.size)) (va_A (fm_w ca am σ) H.size) a) (va_A (fm_w ca am σ) H.size)) (hD : va_D A (fm_w ca am σ)) (hS : va_S A s.heap H locs) (hA : ∀ q : Nat, s.heap.size ≤ q → A q)
    (kk : ∀ (H : Heap) (locs : List Loc), va_P D fn_cl (fm_w ca am σ) H → va_D A (fm_w ca am σ) → va_S A s.heap H locs → W p l e R s m args below meth c H locs 0 0 Q (F0 m (pc + 3) ls (.int T :: rest))) : W p l e R s m args below meth c H locs 0 0 Q (F0 m pc ls st0) := by
  have hF := fd_free hD hS hA
  refine va_calli hr hS (fun q _ h => hF q h) hF (fun r u t H1 locs1 ht hvm hw hB hz1 hk1 hS1 => ?_)
  obtain ⟨rfl, rfl⟩ := hw
  obtain ⟨hP1, hD1⟩ := hB
  rw [ht] at hP1
  exact kk H1 locs1 hP1 (hD1.weaken (fun k q _ h => hF q.1 h)) hS1
theorem fm_callz {a : Array Value} {T : Bool} (hr : va_Run p l e R s m args below meth c H locs 0 0 0 0 (F0 m pc ls st0) rest (va_Qi (fun r u => fd_bi T = r ∧ u = σ) (fm_B D ca am (va_A (fm_w ca am σ) H.size)) (va_A (fm_w ca am σ) H.size) a) (va_A (fm_w ca am σ) H.size)) (hD : va_D A (fm_w ca am σ)) (hS : va_S A s.heap H locs) (hA : ∀ q : Nat, s.heap.size ≤ q → A q)
    (kk : ∀ (H : Heap) (locs : List Loc), va_P D fn_cl (fm_w ca am σ) H → va_D A (fm_w ca am σ) → va_S A s.heap H locs → W p l e R s m args below meth c H locs 0 0 Q (F0 m (pc + 3) ls (.int (fd_bi T) :: rest))) : W p l e R s m args below meth c H locs 0 0 Q (F0 m pc ls st0) := fm_calli hr hD hS hA kk
theorem fm_callim {a : Array Value} {T : Int32 × FMS} (hr : va_Run p l e R s m args below meth c H locs 0 0 0 0 (F0 m pc ls st0) rest (va_Qi (fun r u => T = (r, u) ∧ fm_Inv u) (fm_B D ca am (va_A (fm_w ca am σ) H.size)) (va_A (fm_w ca am σ) H.size) a) (va_A (fm_w ca am σ) H.size)) (hD : va_D A (fm_w ca am σ)) (hS : va_S A s.heap H locs) (hA : ∀ q : Nat, s.heap.size ≤ q → A q)
    (kk : ∀ (H : Heap) (locs : List Loc), va_P D fn_cl (fm_w ca am T.2) H → va_D A (fm_w ca am T.2) → va_S A s.heap H locs → fm_Inv T.2 → W p l e R s m args below meth c H locs 0 0 Q (F0 m (pc + 3) ls (.int T.1 :: rest))) : W p l e R s m args below meth c H locs 0 0 Q (F0 m pc ls st0) := by
  have hF := fd_free hD hS hA
  refine va_calli hr hS (fun q _ h => hF q h) hF (fun r u t H1 locs1 ht hvm hw hB hz1 hk1 hS1 => ?_)
  obtain ⟨rfl, hI1⟩ := hw
  obtain ⟨hP1, hD1⟩ := hB
  rw [ht] at hP1
  exact kk H1 locs1 hP1 (hD1.weaken (fun k q _ h => hF q.1 h)) hS1 hI1
theorem fm_callzm {a : Array Value} {T : Bool × FMS} (hr : va_Run p l e R s m args below meth c H locs 0 0 0 0 (F0 m pc ls st0) rest (va_Qi (fun r u => (fd_bi T.1, T.2) = (r, u) ∧ fm_Inv u) (fm_B D ca am (va_A (fm_w ca am σ) H.size)) (va_A (fm_w ca am σ) H.size) a) (va_A (fm_w ca am σ) H.size)) (hD : va_D A (fm_w ca am σ)) (hS : va_S A s.heap H locs) (hA : ∀ q : Nat, s.heap.size ≤ q → A q)
    (kk : ∀ (H : Heap) (locs : List Loc), va_P D fn_cl (fm_w ca am T.2) H → va_D A (fm_w ca am T.2) → va_S A s.heap H locs → fm_Inv T.2 → W p l e R s m args below meth c H locs 0 0 Q (F0 m (pc + 3) ls (.int (fd_bi T.1) :: rest))) : W p l e R s m args below meth c H locs 0 0 Q (F0 m pc ls st0) := fm_callim hr hD hS hA kk
theorem fm_callvm {a : Array Value} {T : FMS} (hr : va_Run p l e R s m args below meth c H locs 0 0 0 0 (F0 m pc ls st0) rest (va_Qv (fun u => T = u ∧ fm_Inv u) (fm_B D ca am (va_A (fm_w ca am σ) H.size)) (va_A (fm_w ca am σ) H.size) a) (va_A (fm_w ca am σ) H.size)) (hD : va_D A (fm_w ca am σ)) (hS : va_S A s.heap H locs) (hA : ∀ q : Nat, s.heap.size ≤ q → A q)
    (kk : ∀ (H : Heap) (locs : List Loc), va_P D fn_cl (fm_w ca am T) H → va_D A (fm_w ca am T) → va_S A s.heap H locs → fm_Inv T → W p l e R s m args below meth c H locs 0 0 Q (F0 m (pc + 3) ls rest)) : W p l e R s m args below meth c H locs 0 0 Q (F0 m pc ls st0) := by
  have hF := fd_free hD hS hA
  refine va_callv hr hS (fun q _ h => hF q h) hF (fun u t H1 locs1 ht hvm hw hB hz1 hk1 hS1 => ?_)
  obtain ⟨rfl, hI1⟩ := hw
  obtain ⟨hP1, hD1⟩ := hB
  rw [ht] at hP1
  exact kk H1 locs1 hP1 (hD1.weaken (fun k q _ h => hF q.1 h)) hS1 hI1
end FMC
