/-! the law's world: the desk, the two arrays, the model; calls out of it -/
def fL_w (cR cP cO cE : ClassId) (ad : Nat → Nat) (oa ob : Nat) (ca : Nat → ClassId) (am : Nat → Nat) (σ : FDS) (x : Int64) (y : UInt64) (μ : FMS) : va_W :=
  ((fd_w cR cP ad σ ++ ([(oa, .inl (cO, 1, .inr (.inl (fun _ => x))))] : va_W)) ++ ([(ob, .inl (cE, 1, .inr (.inr (.inr (.inl (fun _ => y))))))] : va_W)) ++ fm_w ca am μ
abbrev fL_tys (cR cP cO cE : ClassId) (ca : Nat → ClassId) : List (ClassId × FieldType) := (fd_tys cR cP ++ [(cO, .long), (cE, .double)]) ++ fm_tys ca
theorem fb_in {w : Cond} (h : w ∈ fb_tbl) : w ∈ lw_tbl := (List.mem_filter.mp h).1
theorem fl_goodS {own : String} {idx : Nat} {y : MethodName} {w : Cond} (h1 : Cond.methodLink own idx y ∈ fb_tbl) (h2 : Cond.static y ∈ fb_tbl) (h3 : Cond.initialized y.cls ∈ fb_tbl) (h4 : w ∈ fb_tbl) : GoodIn lw_tbl (va_wsS own idx y (w :: fb_tbl)) := fun v hv => by
  have h : v ∈ fb_tbl := by
    simp only [va_wsS, List.mem_append, List.mem_cons, List.not_mem_nil, or_false] at hv
    rcases hv with (rfl | rfl | rfl) | rfl | h
    · exact h1
    · exact h2
    · exact h3
    · exact h4
    · exact h
  exact ⟨fb_in h, good_of_word (List.mem_filter.mp h).2⟩
section FL
variable {p : Program} {l : Launch} {e : Env} {R : Room} {s : State} {m : MethodId} {args : Array Value} {below : List Frame} {meth : Method} {c : Code} {H : Heap} {locs : List Loc} {cells slots : Nat} {Q : State → Prop} {pc : Nat} {ls : Array Slot} {rest st0 : List Value} {a : Array Value}
variable {D : va_G} {cR cP cO cE : ClassId} {ad : Nat → Nat} {oa ob : Nat} {ca : Nat → ClassId} {am : Nat → Nat} {σ : FDS} {x : Int64} {y : UInt64} {μ : FMS} {A : Nat → Prop}
theorem fL_eV : fL_w cR cP cO cE ad oa ob ca am σ x y μ = (fd_w cR cP ad σ ++ ([] : va_W)) ++ (([(oa, .inl (cO, 1, .inr (.inl (fun _ => x)))), (ob, .inl (cE, 1, .inr (.inr (.inr (.inl (fun _ => y))))))] : va_W) ++ fm_w ca am μ) := by
  unfold fL_w
  simp only [List.append_assoc, List.append_nil, List.nil_append, List.cons_append]
theorem fL_eL : fL_w cR cP cO cE ad oa ob ca am σ x y μ = (fd_w cR cP ad σ ++ ([(oa, .inl (cO, 1, .inr (.inl (fun _ => x))))] : va_W)) ++ (([(ob, .inl (cE, 1, .inr (.inr (.inr (.inl (fun _ => y))))))] : va_W) ++ fm_w ca am μ) := by
  unfold fL_w
  simp only [List.append_assoc]
theorem fL_PV {u : FDS} {H1 : Heap} (hP : va_P D fn_cl (fL_w cR cP cO cE ad oa ob ca am σ x y μ) H) (hD : va_D A (fL_w cR cP cO cE ad oa ob ca am σ x y μ)) (hk : ∀ q : Nat, q < H.size → ¬ va_A (fd_w cR cP ad σ ++ ([] : va_W)) H.size q → H1[q]? = H[q]?) (hF : ∀ q, va_A (fd_w cR cP ad σ ++ ([] : va_W)) H.size q → A q) (hP1 : va_P D fn_cl (fd_w cR cP ad u ++ ([] : va_W)) H1) (hD1 : va_D (va_A (fd_w cR cP ad σ ++ ([] : va_W)) H.size) (fd_w cR cP ad u ++ ([] : va_W))) : va_P D fn_cl (fL_w cR cP cO cE ad oa ob ca am u x y μ) H1 ∧ va_D A (fL_w cR cP cO cE ad oa ob ca am u x y μ) := by
  rw [fL_eV] at hP hD
  rw [fL_eV]
  exact fd_frameL hP hD hk hF hP1 hD1
theorem fL_PL {u : FDS} {x1 : Int64} {H1 : Heap} (hP : va_P D fn_cl (fL_w cR cP cO cE ad oa ob ca am σ x y μ) H) (hD : va_D A (fL_w cR cP cO cE ad oa ob ca am σ x y μ)) (hk : ∀ q : Nat, q < H.size → ¬ va_A (fd_w cR cP ad σ ++ ([(oa, .inl (cO, 1, .inr (.inl (fun _ => x))))] : va_W)) H.size q → H1[q]? = H[q]?) (hF : ∀ q, va_A (fd_w cR cP ad σ ++ ([(oa, .inl (cO, 1, .inr (.inl (fun _ => x))))] : va_W)) H.size q → A q) (hP1 : va_P D fn_cl (fd_w cR cP ad u ++ ([(oa, .inl (cO, 1, .inr (.inl (fun _ => x1))))] : va_W)) H1) (hD1 : va_D (va_A (fd_w cR cP ad σ ++ ([(oa, .inl (cO, 1, .inr (.inl (fun _ => x))))] : va_W)) H.size) (fd_w cR cP ad u ++ ([(oa, .inl (cO, 1, .inr (.inl (fun _ => x1))))] : va_W))) : va_P D fn_cl (fL_w cR cP cO cE ad oa ob ca am u x1 y μ) H1 ∧ va_D A (fL_w cR cP cO cE ad oa ob ca am u x1 y μ) := by
  rw [fL_eL] at hP hD
  rw [fL_eL]
  exact fd_frameL hP hD hk hF hP1 hD1
/-- the two arrays change places -/
def fL_w2 (cR cP cO cE : ClassId) (ad : Nat → Nat) (oa ob : Nat) (ca : Nat → ClassId) (am : Nat → Nat) (σ : FDS) (x : Int64) (y : UInt64) (μ : FMS) : va_W :=
  (fd_w cR cP ad σ ++ ([(ob, .inl (cE, 1, .inr (.inr (.inr (.inl (fun _ => y))))))] : va_W)) ++ (([(oa, .inl (cO, 1, .inr (.inl (fun _ => x))))] : va_W) ++ fm_w ca am μ)
theorem fL_sw {H : Heap} (hP : va_P D fn_cl (fL_w cR cP cO cE ad oa ob ca am σ x y μ) H) (hD : va_D A (fL_w cR cP cO cE ad oa ob ca am σ x y μ)) : va_P D fn_cl (fL_w2 cR cP cO cE ad oa ob ca am σ x y μ) H ∧ va_D A (fL_w2 cR cP cO cE ad oa ob ca am σ x y μ) := by
  unfold fL_w at hP hD
  unfold fL_w2
  rw [← List.append_assoc]
  have hP1 := (fd_PL hP).swap
  have hD1 := (fd_DL hD).swap
  refine ⟨va_P.app hP1 (fd_PR hP), va_D.app hD1 (fd_DR hD) (fun i j p q hi hj => ?_)⟩
  have hm : p ∈ (fd_w cR cP ad σ ++ ([(oa, .inl (cO, 1, .inr (.inl (fun _ => x))))] : va_W)) ++ ([(ob, .inl (cE, 1, .inr (.inr (.inr (.inl (fun _ => y))))))] : va_W) := by
    have := List.mem_of_getElem? hi
    simp only [List.mem_append] at this ⊢
    rcases this with (h | h) | h
    · exact Or.inl (Or.inl h)
    · exact Or.inr h
    · exact Or.inl (Or.inr h)
  obtain ⟨k, hk⟩ := List.getElem?_of_mem hm
  exact fd_DX hD hk hj
theorem fL_ws {H : Heap} (hP : va_P D fn_cl (fL_w2 cR cP cO cE ad oa ob ca am σ x y μ) H) (hD : va_D A (fL_w2 cR cP cO cE ad oa ob ca am σ x y μ)) : va_P D fn_cl (fL_w cR cP cO cE ad oa ob ca am σ x y μ) H ∧ va_D A (fL_w cR cP cO cE ad oa ob ca am σ x y μ) := by
  unfold fL_w2 at hP hD
  unfold fL_w
  rw [← List.append_assoc] at hP hD
  have hP1 := (fd_PL hP).swap
  have hD1 := (fd_DL hD).swap
  refine ⟨va_P.app hP1 (fd_PR hP), va_D.app hD1 (fd_DR hD) (fun i j p q hi hj => ?_)⟩
  have hm : p ∈ (fd_w cR cP ad σ ++ ([(ob, .inl (cE, 1, .inr (.inr (.inr (.inl (fun _ => y))))))] : va_W)) ++ ([(oa, .inl (cO, 1, .inr (.inl (fun _ => x))))] : va_W) := by
    have := List.mem_of_getElem? hi
    simp only [List.mem_append] at this ⊢
    rcases this with (h | h) | h
    · exact Or.inl (Or.inl h)
    · exact Or.inr h
    · exact Or.inl (Or.inr h)
  obtain ⟨k, hk⟩ := List.getElem?_of_mem hm
  exact fd_DX hD hk hj
theorem fL_PD {u : FDS} {y1 : UInt64} {H1 : Heap} (hP : va_P D fn_cl (fL_w cR cP cO cE ad oa ob ca am σ x y μ) H) (hD : va_D A (fL_w cR cP cO cE ad oa ob ca am σ x y μ)) (hk : ∀ q : Nat, q < H.size → ¬ va_A (fd_w cR cP ad σ ++ ([(ob, .inl (cE, 1, .inr (.inr (.inr (.inl (fun _ => y))))))] : va_W)) H.size q → H1[q]? = H[q]?) (hF : ∀ q, va_A (fd_w cR cP ad σ ++ ([(ob, .inl (cE, 1, .inr (.inr (.inr (.inl (fun _ => y))))))] : va_W)) H.size q → A q) (hP1 : va_P D fn_cl (fd_w cR cP ad u ++ ([(ob, .inl (cE, 1, .inr (.inr (.inr (.inl (fun _ => y1))))))] : va_W)) H1) (hD1 : va_D (va_A (fd_w cR cP ad σ ++ ([(ob, .inl (cE, 1, .inr (.inr (.inr (.inl (fun _ => y))))))] : va_W)) H.size) (fd_w cR cP ad u ++ ([(ob, .inl (cE, 1, .inr (.inr (.inr (.inl (fun _ => y1))))))] : va_W))) : va_P D fn_cl (fL_w cR cP cO cE ad oa ob ca am u x y1 μ) H1 ∧ va_D A (fL_w cR cP cO cE ad oa ob ca am u x y1 μ) := by
  obtain ⟨hP, hD⟩ := fL_sw hP hD
  have h := fd_frameL hP hD hk hF hP1 hD1
  exact fL_ws h.1 h.2
theorem fL_PM {u : FMS} {H1 : Heap} (hP : va_P D fn_cl (fL_w cR cP cO cE ad oa ob ca am σ x y μ) H) (hD : va_D A (fL_w cR cP cO cE ad oa ob ca am σ x y μ)) (hk : ∀ q : Nat, q < H.size → ¬ va_A (fm_w ca am μ) H.size q → H1[q]? = H[q]?) (hF : ∀ q, va_A (fm_w ca am μ) H.size q → A q) (hP1 : va_P D fn_cl (fm_w ca am u) H1) (hD1 : va_D (va_A (fm_w ca am μ) H.size) (fm_w ca am u)) : va_P D fn_cl (fL_w cR cP cO cE ad oa ob ca am σ x y u) H1 ∧ va_D A (fL_w cR cP cO cE ad oa ob ca am σ x y u) := fd_frameR hP hD hk hF hP1 hD1
-- calls
theorem fL_callV {P : Int32 → FDS → Prop} (hr : va_Run p l e R s m args below meth c H locs cells slots 1 6 (F0 m pc ls st0) rest (va_Qi P (fun u t => va_P D fn_cl (fd_w cR cP ad u ++ ([] : va_W)) t.heap ∧ va_D (va_A (fd_w cR cP ad σ ++ ([] : va_W)) H.size) (fd_w cR cP ad u ++ ([] : va_W))) (va_A (fd_w cR cP ad σ ++ ([] : va_W)) H.size) a) (va_A (fd_w cR cP ad σ ++ ([] : va_W)) H.size)) (hP : va_P D fn_cl (fL_w cR cP cO cE ad oa ob ca am σ x y μ) H) (hD : va_D A (fL_w cR cP cO cE ad oa ob ca am σ x y μ)) (hS : va_S A s.heap H locs) (hA : ∀ q : Nat, s.heap.size ≤ q → A q)
    (kk : ∀ (r : Int32) (u : FDS) (H : Heap) (locs : List Loc), P r u → va_P D fn_cl (fL_w cR cP cO cE ad oa ob ca am u x y μ) H → va_D A (fL_w cR cP cO cE ad oa ob ca am u x y μ) → va_S A s.heap H locs → W p l e R s m args below meth c H locs (cells + 1) (slots + 6) Q (F0 m (pc + 3) ls (.int r :: rest))) : W p l e R s m args below meth c H locs cells slots Q (F0 m pc ls st0) := by
  have hF : ∀ q, va_A (fd_w cR cP ad σ ++ ([] : va_W)) H.size q → A q := fd_free (by have h := hD; rw [fL_eV] at h; exact fd_DL h) hS hA
  refine va_calli hr hS (fun q _ h => hF q h) hF (fun r u t H1 locs1 ht hvm hw hB hz1 hk1 hS1 => ?_)
  obtain ⟨hP1, hD1⟩ := hB
  rw [ht] at hP1
  obtain ⟨h1, h2⟩ := fL_PV hP hD hk1 hF hP1 hD1
  exact kk r u H1 locs1 hw h1 h2 hS1
theorem fL_callL {P : Int32 → FDS × Int64 → Prop} (hr : va_Run p l e R s m args below meth c H locs cells slots 1 6 (F0 m pc ls st0) rest (va_Qi P (fun u t => va_P D fn_cl (fd_w cR cP ad u.1 ++ ([(oa, .inl (cO, 1, .inr (.inl (fun _ => u.2))))] : va_W)) t.heap ∧ va_D (va_A (fd_w cR cP ad σ ++ ([(oa, .inl (cO, 1, .inr (.inl (fun _ => x))))] : va_W)) H.size) (fd_w cR cP ad u.1 ++ ([(oa, .inl (cO, 1, .inr (.inl (fun _ => u.2))))] : va_W))) (va_A (fd_w cR cP ad σ ++ ([(oa, .inl (cO, 1, .inr (.inl (fun _ => x))))] : va_W)) H.size) a) (va_A (fd_w cR cP ad σ ++ ([(oa, .inl (cO, 1, .inr (.inl (fun _ => x))))] : va_W)) H.size)) (hP : va_P D fn_cl (fL_w cR cP cO cE ad oa ob ca am σ x y μ) H) (hD : va_D A (fL_w cR cP cO cE ad oa ob ca am σ x y μ)) (hS : va_S A s.heap H locs) (hA : ∀ q : Nat, s.heap.size ≤ q → A q)
    (kk : ∀ (r : Int32) (u : FDS × Int64) (H : Heap) (locs : List Loc), P r u → va_P D fn_cl (fL_w cR cP cO cE ad oa ob ca am u.1 u.2 y μ) H → va_D A (fL_w cR cP cO cE ad oa ob ca am u.1 u.2 y μ) → va_S A s.heap H locs → W p l e R s m args below meth c H locs (cells + 1) (slots + 6) Q (F0 m (pc + 3) ls (.int r :: rest))) : W p l e R s m args below meth c H locs cells slots Q (F0 m pc ls st0) := by
  have hF : ∀ q, va_A (fd_w cR cP ad σ ++ ([(oa, .inl (cO, 1, .inr (.inl (fun _ => x))))] : va_W)) H.size q → A q := fd_free (by have h := hD; rw [fL_eL] at h; exact fd_DL h) hS hA
  refine va_calli hr hS (fun q _ h => hF q h) hF (fun r u t H1 locs1 ht hvm hw hB hz1 hk1 hS1 => ?_)
  obtain ⟨hP1, hD1⟩ := hB
  rw [ht] at hP1
  obtain ⟨h1, h2⟩ := fL_PL hP hD hk1 hF hP1 hD1
  exact kk r u H1 locs1 hw h1 h2 hS1
theorem fL_callD {P : Int32 → FDS × UInt64 → Prop} (hr : va_Run p l e R s m args below meth c H locs cells slots 1 6 (F0 m pc ls st0) rest (va_Qi P (fun u t => va_P D fn_cl (fd_w cR cP ad u.1 ++ ([(ob, .inl (cE, 1, .inr (.inr (.inr (.inl (fun _ => u.2))))))] : va_W)) t.heap ∧ va_D (va_A (fd_w cR cP ad σ ++ ([(ob, .inl (cE, 1, .inr (.inr (.inr (.inl (fun _ => y))))))] : va_W)) H.size) (fd_w cR cP ad u.1 ++ ([(ob, .inl (cE, 1, .inr (.inr (.inr (.inl (fun _ => u.2))))))] : va_W))) (va_A (fd_w cR cP ad σ ++ ([(ob, .inl (cE, 1, .inr (.inr (.inr (.inl (fun _ => y))))))] : va_W)) H.size) a) (va_A (fd_w cR cP ad σ ++ ([(ob, .inl (cE, 1, .inr (.inr (.inr (.inl (fun _ => y))))))] : va_W)) H.size)) (hP : va_P D fn_cl (fL_w cR cP cO cE ad oa ob ca am σ x y μ) H) (hD : va_D A (fL_w cR cP cO cE ad oa ob ca am σ x y μ)) (hS : va_S A s.heap H locs) (hA : ∀ q : Nat, s.heap.size ≤ q → A q)
    (kk : ∀ (r : Int32) (u : FDS × UInt64) (H : Heap) (locs : List Loc), P r u → va_P D fn_cl (fL_w cR cP cO cE ad oa ob ca am u.1 x u.2 μ) H → va_D A (fL_w cR cP cO cE ad oa ob ca am u.1 x u.2 μ) → va_S A s.heap H locs → W p l e R s m args below meth c H locs (cells + 1) (slots + 6) Q (F0 m (pc + 3) ls (.int r :: rest))) : W p l e R s m args below meth c H locs cells slots Q (F0 m pc ls st0) := by
  have hF : ∀ q, va_A (fd_w cR cP ad σ ++ ([(ob, .inl (cE, 1, .inr (.inr (.inr (.inl (fun _ => y))))))] : va_W)) H.size q → A q := fd_free (fd_DL (fL_sw hP hD).2) hS hA
  refine va_calli hr hS (fun q _ h => hF q h) hF (fun r u t H1 locs1 ht hvm hw hB hz1 hk1 hS1 => ?_)
  obtain ⟨hP1, hD1⟩ := hB
  rw [ht] at hP1
  obtain ⟨h1, h2⟩ := fL_PD hP hD hk1 hF hP1 hD1
  exact kk r u H1 locs1 hw h1 h2 hS1
theorem fL_callMi {P : Int32 → FMS → Prop} (hr : va_Run p l e R s m args below meth c H locs cells slots 0 0 (F0 m pc ls st0) rest (va_Qi P (fm_B D ca am (va_A (fm_w ca am μ) H.size)) (va_A (fm_w ca am μ) H.size) a) (va_A (fm_w ca am μ) H.size)) (hP : va_P D fn_cl (fL_w cR cP cO cE ad oa ob ca am σ x y μ) H) (hD : va_D A (fL_w cR cP cO cE ad oa ob ca am σ x y μ)) (hS : va_S A s.heap H locs) (hA : ∀ q : Nat, s.heap.size ≤ q → A q)
    (kk : ∀ (r : Int32) (u : FMS) (H : Heap) (locs : List Loc), P r u → va_P D fn_cl (fL_w cR cP cO cE ad oa ob ca am σ x y u) H → va_D A (fL_w cR cP cO cE ad oa ob ca am σ x y u) → va_S A s.heap H locs → W p l e R s m args below meth c H locs (cells + 0) (slots + 0) Q (F0 m (pc + 3) ls (.int r :: rest))) : W p l e R s m args below meth c H locs cells slots Q (F0 m pc ls st0) := by
  have hF : ∀ q, va_A (fm_w ca am μ) H.size q → A q := fd_free (fd_DR hD) hS hA
  refine va_calli hr hS (fun q _ h => hF q h) hF (fun r u t H1 locs1 ht hvm hw hB hz1 hk1 hS1 => ?_)
  obtain ⟨hP1, hD1⟩ := hB
  rw [ht] at hP1
  obtain ⟨h1, h2⟩ := fL_PM hP hD hk1 hF hP1 hD1
  exact kk r u H1 locs1 hw h1 h2 hS1
theorem fL_callMd {P : UInt64 → FMS → Prop} (hr : va_Run p l e R s m args below meth c H locs cells slots 0 0 (F0 m pc ls st0) rest (va_Qd P (fm_B D ca am (va_A (fm_w ca am μ) H.size)) (va_A (fm_w ca am μ) H.size) a) (va_A (fm_w ca am μ) H.size)) (hP : va_P D fn_cl (fL_w cR cP cO cE ad oa ob ca am σ x y μ) H) (hD : va_D A (fL_w cR cP cO cE ad oa ob ca am σ x y μ)) (hS : va_S A s.heap H locs) (hA : ∀ q : Nat, s.heap.size ≤ q → A q)
    (kk : ∀ (r : UInt64) (u : FMS) (H : Heap) (locs : List Loc), P r u → va_P D fn_cl (fL_w cR cP cO cE ad oa ob ca am σ x y u) H → va_D A (fL_w cR cP cO cE ad oa ob ca am σ x y u) → va_S A s.heap H locs → W p l e R s m args below meth c H locs (cells + 0) (slots + 0) Q (F0 m (pc + 3) ls (.double r :: rest))) : W p l e R s m args below meth c H locs cells slots Q (F0 m pc ls st0) := by
  have hF : ∀ q, va_A (fm_w ca am μ) H.size q → A q := fd_free (fd_DR hD) hS hA
  refine va_calld hr hS (fun q _ h => hF q h) hF (fun r u t H1 locs1 ht hvm hw hB hz1 hk1 hS1 => ?_)
  obtain ⟨hP1, hD1⟩ := hB
  rw [ht] at hP1
  obtain ⟨h1, h2⟩ := fL_PM hP hD hk1 hF hP1 hD1
  exact kk r u H1 locs1 hw h1 h2 hS1
theorem fL_callMv {P : FMS → Prop} (hr : va_Run p l e R s m args below meth c H locs cells slots 0 0 (F0 m pc ls st0) rest (va_Qv P (fm_B D ca am (va_A (fm_w ca am μ) H.size)) (va_A (fm_w ca am μ) H.size) a) (va_A (fm_w ca am μ) H.size)) (hP : va_P D fn_cl (fL_w cR cP cO cE ad oa ob ca am σ x y μ) H) (hD : va_D A (fL_w cR cP cO cE ad oa ob ca am σ x y μ)) (hS : va_S A s.heap H locs) (hA : ∀ q : Nat, s.heap.size ≤ q → A q)
    (kk : ∀ (u : FMS) (H : Heap) (locs : List Loc), P u → va_P D fn_cl (fL_w cR cP cO cE ad oa ob ca am σ x y u) H → va_D A (fL_w cR cP cO cE ad oa ob ca am σ x y u) → va_S A s.heap H locs → W p l e R s m args below meth c H locs (cells + 0) (slots + 0) Q (F0 m (pc + 3) ls rest)) : W p l e R s m args below meth c H locs cells slots Q (F0 m pc ls st0) := by
  have hF : ∀ q, va_A (fm_w ca am μ) H.size q → A q := fd_free (fd_DR hD) hS hA
  refine va_callv hr hS (fun q _ h => hF q h) hF (fun u t H1 locs1 ht hvm hw hB hz1 hk1 hS1 => ?_)
  obtain ⟨hP1, hD1⟩ := hB
  rw [ht] at hP1
  obtain ⟨h1, h2⟩ := fL_PM hP hD hk1 hF hP1 hD1
  exact kk u H1 locs1 hw h1 h2 hS1
end FL
