/-! contracts of methods that may throw -/
def fn_xw : List Cond := [.castable "java/lang/IllegalArgumentException" "java/lang/IllegalArgumentException", .declares ⟨"java/lang/RuntimeException", "<init>", "()V"⟩, .declares ⟨"java/lang/Exception", "<init>", "()V"⟩, .declares ⟨"java/lang/Throwable", "<init>", "()V"⟩, .castable "java/lang/UnsupportedOperationException" "java/lang/UnsupportedOperationException", .castable "java/lang/IndexOutOfBoundsException" "java/lang/IndexOutOfBoundsException"]
def fd_X (U : State) : Prop := ∀ w ∈ fn_xw, va_Nw w U
def fd_isX : Cond → Bool
  | .castable .. => true
  | .declares .. => true
  | _ => false
theorem fd_allX : ∀ w ∈ fn_xw, fd_isX w = true := by decide +kernel
theorem fd_X_warm {s U : State} (hW : s.WarmedH U.vm) (h : fd_X s) : fd_X U := fun w hw => by
  have h1 := fd_allX w hw
  have h2 := h w hw
  cases w <;> first | exact va_tabs rfl (rfl : (s.setVm U.vm).vm = U.vm) (by rw [Cond.castable_setVm (args := #[]) hW.alike]; exact h2) | exact va_tabs rfl (rfl : (s.setVm U.vm).vm = U.vm) (by rw [Cond.declares_setVm (args := #[]) hW.alike]; exact h2) | cases h1
theorem fd_X_same {s U : State} (hv : s.vm = U.vm) (h : fd_X s) : fd_X U := fun w hw => by
  have h1 := fd_allX w hw
  have h2 := h w hw
  cases w <;> first | exact va_Nw.same rfl hv h2 | cases h1
theorem fd_X_use {s : State} {args : Array Value} (h : fd_X s) : ∀ w ∈ fn_xw, w.before args s = true := fun w hw => by
  have h1 := fd_allX w hw
  have h2 := h w hw
  cases w <;> first | exact va_Nw.use rfl h2 | cases h1
abbrev fd_nm : List String := ["java/lang/RuntimeException", "java/lang/Exception"]
abbrev fd_E1 : String := "java/lang/IllegalArgumentException"
abbrev fd_E2 : String := "java/lang/UnsupportedOperationException"
abbrev fd_E3 : String := "java/lang/IndexOutOfBoundsException"
theorem ft_g1 : ∀ w ∈ (vx_at0 fn_R_Dk 36 fd_E1 fd_nm).filter goodWord, w ∈ fb_tbl := by decide +kernel
theorem ft_g2 : ∀ w ∈ (vx_at0 fn_R_Dk 114 fd_E2 fd_nm).filter goodWord, w ∈ fb_tbl := by decide +kernel
theorem ft_g3 : ∀ w ∈ (vx_at0 fn_R_Dk 147 fd_E3 fd_nm).filter goodWord, w ∈ fb_tbl := by decide +kernel
theorem ft_n1 : ∀ w ∈ (vx_at0 fn_R_Dk 36 fd_E1 fd_nm).filter (fun w => !goodWord w), w ∈ fn_xw := by decide +kernel
theorem ft_n2 : ∀ w ∈ (vx_at0 fn_R_Dk 114 fd_E2 fd_nm).filter (fun w => !goodWord w), w ∈ fn_xw := by decide +kernel
theorem ft_n3 : ∀ w ∈ (vx_at0 fn_R_Dk 147 fd_E3 fd_nm).filter (fun w => !goodWord w), w ∈ fn_xw := by decide +kernel
theorem ft_o1 : ∀ w ∈ Cond.classLink fn_R_Dk 34 fd_E1 :: Cond.initialized fd_E1 :: vx_at0 fn_R_Dk 36 fd_E1 fd_nm, vx_ot w = true := by decide +kernel
theorem ft_o2 : ∀ w ∈ Cond.classLink fn_R_Dk 112 fd_E2 :: Cond.initialized fd_E2 :: vx_at0 fn_R_Dk 114 fd_E2 fd_nm, vx_ot w = true := by decide +kernel
theorem ft_o3 : ∀ w ∈ Cond.classLink fn_R_Dk 145 fd_E3 :: Cond.initialized fd_E3 :: vx_at0 fn_R_Dk 147 fd_E3 fd_nm, vx_ot w = true := by decide +kernel
def fd_isx (c : Int32) (E : String) : Prop := (c = 1 ∧ E = fd_E1) ∨ (c = 2 ∧ E = fd_E2) ∨ (c = 3 ∧ E = fd_E3)
/-- what the heap's statics hold that a throw reads -/
def fd_Zs (A : Nat → Prop) (U : State) (H : Heap) : Prop := vx_Zq Bundle.tN "UNASSIGNED_STACK" Bundle.steD A U H ∧ vx_Zq Bundle.tN "SUPPRESSED_SENTINEL" Bundle.listD A U H
def fd_Pcx (D : va_G) (cR cP : ClassId) (ad : Nat → Nat) (av : List Value) (σ : FDS) (sz : Nat) : Array Value → State → Prop := fun v U => fd_Pc D cR cP ad av σ sz v U ∧ fd_X U ∧ fd_Zs (va_A (fd_w cR cP ad σ) sz) U U.heap
theorem fd_blindx {D : va_G} {cR cP : ClassId} {ad : Nat → Nat} {av : List Value} {σ : FDS} {sz : Nat} : FrameBlind (fd_Pcx D cR cP ad av σ sz) := fun a U g mk q => by
  obtain ⟨q0, qX, qZ⟩ := q
  exact ⟨fd_blind a U g mk q0, fd_X_same (s := U) (U := U.calling g mk a) rfl qX, vx_Zq.moved (u := U) (U := U.calling g mk a) (Vm.Alike.refl U.vm) qZ.1, vx_Zq.moved (u := U) (U := U.calling g mk a) (Vm.Alike.refl U.vm) qZ.2⟩
section FDX
variable {p : Program} {l : Launch} {e : Env} {R : Room} {s : State} {m : MethodId} {args : Array Value} {below : List Frame} {meth : Method} {c : Code} {H H0 : Heap} {locs : List Loc} {cells slots : Nat} {Q : State → Prop} {cc : ByteArray} {pc : Nat} {ls : Array Slot} {rest st0 : List Value}
variable {D : va_G} {cR cP : ClassId} {ad : Nat → Nat} {A : Nat → Prop} {σ : FDS}
theorem fd_xofW {y : MethodName} {ws' : List Cond} {rm : Room} {av : List Value} {sz maxL : Nat} {ret : Option FieldType} {Qf : (Nat → Prop) → Array Value → State → Outcome → State → Prop} {XC : (Nat → Prop) → String → State → State → Prop} (hy : plainName y.cls = true) (hn : (lg_sl av).length ≤ maxL)
    (body : ∀ (p : Program) (e : Env) (s : State) (m : MethodId) (args : Array Value) (below : List Frame) (meth : Method) (c : Code) (A : Nat → Prop) (Q : State → Prop), Q = vx_MQ below (Qf A) (XC A) args s 1 6 A → p.tables.exec = Jvm.exec → c.code = cc → meth.sig.returnType = ret → (∀ w ∈ Cond.code y cc maxL ret :: ws', w.before args s = true) → s.vm.findClass y.cls = some m.cls → meth.locks = false → c.maxLocals = maxL →
      va_P D fn_cl (fd_w cR cP ad σ) s.heap → va_K D fn_cl (fd_tys cR cP) s → va_D A (fd_w cR cP ad σ) → va_S A s.heap s.heap [] → (∀ q : Nat, s.heap.size ≤ q → A q) → fd_N s → fd_X s → fd_Zs A s s.heap → (∀ x ∈ c.exceptionTable.toList, False) → ∀ ls : Array Slot, lv_has ls maxL (lv_args 0 av) → W p l e rm s m args below meth c s.heap [] 0 0 Q (F0 m 0 ls [])) :
    vx_Met l y (Cond.code y cc maxL ret :: ws') rm (fd_Pcx D cR cP ad av σ sz) (Qf (va_A (fd_w cR cP ad σ) sz)) (XC (va_A (fd_w cR cP ad σ) sz)) 1 6 (va_A (fd_w cR cP ad σ) sz) := by
  refine vx_ofW (cc := cc) (maxL := maxL) (ret := ret) hy rfl ?_
  intro p e s m args below meth c s₁ B hml hex hv
  obtain ⟨⟨rfl, hsz, hP, hK, hD0, hN⟩, hX, hZ⟩ := hv
  subst hsz
  have hl := lv_entry av (n := maxL) hn
  rw [lg_entry_eq]
  generalize (lg_sl av ++ List.replicate (maxL - (lg_sl av).length) Slot.unset).toArray = ls at hl ⊢
  exact body p e s m _ below meth c _ _ rfl B.exec B.bytes B.returns (atoms_spec (ws := Cond.code y cc maxL ret :: ws') B.pre) (findClass_of_methodNamed B.named) B.notSynchronized hml hP hK (hD0.self (sz := s.heap.size)) va_S.rf (fun q h => Or.inr h) hN hX hZ hex ls hl
theorem fd_xiret {post : Int32 → FDS → Prop} {XC : String → State → State → Prop} {r : Int32} {u : FDS} (hQ : Q = vx_MQ below (va_Qi post (fd_B D cR cP ad A) A) XC args s 1 6 A) (hx : p.tables.exec = Jvm.exec) (hb : c.code = cc) (hr : meth.sig.returnType = some .int) (hp : post r u) (hP : va_P D fn_cl (fd_w cR cP ad u) H) (hD : va_D A (fd_w cR cP ad u)) (hS : va_S A s.heap H locs) (hdg : decode cc pc = .ok (.ireturn, 1)) (hlocks : meth.locks = false) :
    W p l e R s m args below meth c H locs 0 0 Q (F0 m pc ls [.int r]) := by
  rw [hQ]
  exact W.widen (k := 1) (n := 6) (by decide) (by decide) (vx_ret (W.iret hx hb hr (fun t ht hW => ⟨⟨r, u, rfl, hp, by rw [ht]; exact hP, hD⟩, hS.F ht⟩) hS.2.2 hdg hlocks))
theorem fd_xdret {post : UInt64 → FDS → Prop} {XC : String → State → State → Prop} {r : UInt64} {u : FDS} (hQ : Q = vx_MQ below (va_Qd post (fd_B D cR cP ad A) A) XC args s 1 6 A) (hx : p.tables.exec = Jvm.exec) (hb : c.code = cc) (hr : meth.sig.returnType = some .double) (hp : post r u) (hP : va_P D fn_cl (fd_w cR cP ad u) H) (hD : va_D A (fd_w cR cP ad u)) (hS : va_S A s.heap H locs) (hdg : decode cc pc = .ok (.dreturn, 1)) (hlocks : meth.locks = false) :
    W p l e R s m args below meth c H locs 0 0 Q (F0 m pc ls [.double r]) := by
  rw [hQ]
  exact W.widen (k := 1) (n := 6) (by decide) (by decide) (vx_ret (W.dret hx hb hr (fun t ht hW => ⟨⟨r, u, rfl, hp, by rw [ht]; exact hP, hD⟩, hS.F ht⟩) hS.2.2 hdg hlocks))
theorem fd_xvret {post : FDS → Prop} {XC : String → State → State → Prop} {u : FDS} (hQ : Q = vx_MQ below (va_Qv post (fd_B D cR cP ad A) A) XC args s 1 6 A) (hx : p.tables.exec = Jvm.exec) (hb : c.code = cc) (hr : meth.sig.returnType = none) (hp : post u) (hP : va_P D fn_cl (fd_w cR cP ad u) H) (hD : va_D A (fd_w cR cP ad u)) (hS : va_S A s.heap H locs) (hdg : decode cc pc = .ok (.return_, 1)) (hlocks : meth.locks = false) :
    W p l e R s m args below meth c H locs 0 0 Q (F0 m pc ls []) := by
  rw [hQ]
  exact W.widen (k := 1) (n := 6) (by decide) (by decide) (vx_ret (W.vret hx hb hr (fun t ht hW => ⟨⟨u, rfl, hp, by rw [ht]; exact hP, hD⟩, hS.F ht⟩) hS.2.2 hdg hlocks))
/-- how a throwing method's exceptional end is told: T E u, and the world in state u -/
abbrev fd_XC (D : va_G) (cR cP : ClassId) (ad : Nat → Nat) (T : String → FDS → Prop) (A : Nat → Prop) : String → State → State → Prop := vx_X (fun _ : FDS => True) (fun E u t => T E u ∧ fd_B D cR cP ad A u t) A
theorem fd_throw {E : String} {ik ic : Nat} (hg : ∀ w ∈ (vx_at0 fn_R_Dk ic E fd_nm).filter goodWord, w ∈ fb_tbl) (hn : ∀ w ∈ (vx_at0 fn_R_Dk ic E fd_nm).filter (fun w => !goodWord w), w ∈ fn_xw) (ho : ∀ w ∈ Cond.classLink fn_R_Dk ik E :: Cond.initialized E :: vx_at0 fn_R_Dk ic E fd_nm, vx_ot w = true) (hfit : Bundle.fit E = true) (hkm : Cond.classLink fn_R_Dk ik E ∈ fb_tbl) (him : Cond.initialized E ∈ fb_tbl)
    {x : Cond} {Qc : Array Value → State → Outcome → State → Prop} {T : String → FDS → Prop} {u : FDS} (hQ : Q = vx_MQ below Qc (fd_XC D cR cP ad T A) args s 1 6 A) (hx : p.tables.exec = Jvm.exec) (hb : c.code = cc) (hst : l.stackTraces = false) (hown : s.vm.findClass fn_R_Dk = some m.cls) (hts : ∀ w ∈ x :: fb_tbl, w.before args s = true) (hX : fd_X s) (hZ : fd_Zs A s s.heap) (hsize : ls.size = c.maxLocals)
    (hex : ∀ x ∈ c.exceptionTable.toList, False) (hlocks : meth.locks = false) (hR : 5 < R.frames ∧ (rest.map fun v => v.category).sum + 81 ≤ R.locals ∧ 1 ≤ R.cells ∧ 6 ≤ R.slots) (hT : T E u) (hP : va_P D fn_cl (fd_w cR cP ad u) H) (hD : va_D A (fd_w cR cP ad u)) (hS : va_S A s.heap H locs)
    (d0 : decode cc pc = .ok (.new ik, 3)) (d3 : decode cc (pc + 3) = .ok (.dup, 1)) (d4 : decode cc (pc + 4) = .ok (.invokespecial ic, 3)) (d7 : decode cc (pc + 7) = .ok (.athrow, 1)) :
    W p l e R s m args below meth c H locs 0 0 Q (F0 m pc ls rest) := by
  rw [hQ]
  refine vx_throw0 (names := fd_nm) (A := A) hx hb hst hown hfit (by decide) (hts _ (List.mem_cons_of_mem _ hkm)) (hts _ (List.mem_cons_of_mem _ him)) (vx_hat (fun w h => hts w (List.mem_cons_of_mem _ (hg w h))) hn (fd_X_use hX)) ho hZ.1 hZ.2 hS hsize d0 d3 d4 d7 (fun x h => (hex x h).elim) hR.1 hR.2.1 (by omega) (by omega) hlocks ?_ hS.2.2 (by decide) (by decide)
  intro t ht h1 h2
  exact ⟨u, trivial, ⟨hT, fd_same hP h2, hD⟩, Nat.le_trans hS.1 h1, fun q hq hA => by rw [h2 q (Nat.lt_of_lt_of_le hq hS.1)]; exact hS.2.1 q hq hA⟩
end FDX
