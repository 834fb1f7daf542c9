/-- the desk's state and the model's say the same -/
def fs_Rel (σ : FDS) (μ : FMS) : Prop :=
  (∀ u, u < 48 → fd_rI σ u 0 = fm_aI μ 0 u ∧ fd_rI σ u 1 = fm_aI μ 1 u ∧ fd_rI σ u 2 = fm_aI μ 2 u ∧ fd_rI σ u 3 = fm_aI μ 3 u ∧ fd_rI σ u 4 = fm_aI μ 4 u ∧ fd_rI σ u 5 = fm_aI μ 5 u ∧ fd_rB σ u 6 = fm_aZ μ 10 u ∧ fd_rB σ u 7 = fm_aZ μ 11 u ∧ fd_rI σ u 8 = fm_aI μ 6 u ∧ fd_rI σ u 9 = fm_aI μ 7 u ∧ fd_rD σ u = fm_aD μ 13 u ∧ fd_rI σ u 11 = fm_aI μ 8 u ∧ fd_rI σ u 12 = fm_aI μ 9 u) ∧
  (fd_dT σ = fm_mT μ ∧ fd_dI σ 4 = fm_mI μ 22 ∧ fd_dI σ 5 = fm_mI μ 23 ∧ fd_dI σ 6 = fm_mI μ 24 ∧ fd_dI σ 7 = fm_mI μ 25 ∧ fd_dI σ 8 = fm_mI μ 26 ∧ fd_mS σ = fm_mI μ 21) ∧
  (∀ i : Nat, i < 6 → ¬ fd_mS σ ≤ nI i → fd_pI σ (fd_pF σ i) 0 = fm_aI μ 15 i ∧ fd_pI σ (fd_pF σ i) 1 = fm_aI μ 16 i ∧ fd_pB σ (fd_pF σ i) = fm_aZ μ 12 i ∧ fd_pI σ (fd_pF σ i) 3 = fm_aI μ 17 i ∧ fd_pI σ (fd_pF σ i) 4 = fm_aI μ 18 i ∧ fd_pD σ (fd_pF σ i) = fm_aD μ 14 i) ∧
  (∀ i j : Nat, i < 6 → j < 6 → fd_pF σ i = fd_pF σ j → i = j) ∧
  (∀ i j : Nat, i < j → j < 6 → ¬ fd_mS σ ≤ nI j → ¬ (fm_aI μ 15 i = fm_aI μ 15 j ∧ fm_aI μ 16 i = fm_aI μ 16 j ∧ fm_aZ μ 12 i = fm_aZ μ 12 j)) ∧
  (fd_qI σ 10 = fm_aI μ 19 0 ∧ fd_qI σ 7 = fm_aI μ 19 1 ∧ fd_qI σ 1 = fm_aI μ 19 2 ∧ fd_qI σ 0 = fm_aI μ 19 3 ∧ fd_qI σ 2 = fm_aI μ 19 4 ∧ fd_bi (fd_qB σ 9) = fm_aI μ 19 5 ∧ fd_qI σ 11 = fm_aI μ 19 6 ∧ fd_qI σ 12 = fm_aI μ 19 7 ∧ fd_qI σ 13 = fm_aI μ 19 8 ∧ fd_qI σ 14 = fm_aI μ 19 9)
theorem fs_serve {σ : FDS} {μ : FMS} (p1 : Int32) (p2 : Int32) (p3 : Int32) (p4 : Int32) (hI : fd_Inv σ) (hJ : fm_Inv μ) (hR : fs_Rel σ μ) : fm_mI (fv_Md_serve μ p1 p2 p3 p4) 27 = fl_km_serve (fv_Dk_serve σ p1 p2 p3 p4).1 ∧ fs_Rel (fv_Dk_serve σ p1 p2 p3 p4).2 (fv_Md_serve μ p1 p2 p3 p4) := by
  sorry
theorem fs_headers {σ : FDS} {μ : FMS} (p1 : Int32) (p2 : Int32) (p3 : Int32) (hI : fd_Inv σ) (hJ : fm_Inv μ) (hR : fs_Rel σ μ) : fm_mI (fv_Md_headers μ p1 p2 p3) 27 = fl_km_headers (fv_Dk_headers σ p1 p2 p3).1 ∧ fs_Rel (fv_Dk_headers σ p1 p2 p3).2 (fv_Md_headers μ p1 p2 p3) := by
  sorry
theorem fs_allow {σ : FDS} {μ : FMS} (p1 : Int32) (p2 : Int32) (p3 : Bool) (hI : fd_Inv σ) (hJ : fm_Inv μ) (hR : fs_Rel σ μ) : fm_mI (fv_Md_allow μ p1 p2 p3).2 27 = fl_km_allow (fv_Dk_allow σ p1 p2 p3).1 ∧ (fl_km_allow (fv_Dk_allow σ p1 p2 p3).1 = 0 → (fv_Dk_allow σ p1 p2 p3).1 = 0 ∧ (fv_Dk_allow σ p1 p2 p3).2.1 = (fv_Md_allow μ p1 p2 p3).1) ∧ fs_Rel (fv_Dk_allow σ p1 p2 p3).2.2 (fv_Md_allow μ p1 p2 p3).2 := by
  sorry
theorem fs_asked {σ : FDS} {μ : FMS} (p1 : Int32) (p2 : Bool) (p3 : Int32) (p4 : Int32) (p5 : UInt64) (hI : fd_Inv σ) (hJ : fm_Inv μ) (hR : fs_Rel σ μ) : fm_mI (fv_Md_asked μ p1 p2 p3 p4 p5) 27 = fl_km_asked (fv_Dk_asked σ p1 p2 p3 p4 p5).1 ∧ fs_Rel (fv_Dk_asked σ p1 p2 p3 p4 p5).2 (fv_Md_asked μ p1 p2 p3 p4 p5) := by
  sorry
theorem fs_tick {σ : FDS} {μ : FMS} (p1 : UInt64) (hI : fd_Inv σ) (hJ : fm_Inv μ) (hR : fs_Rel σ μ) : fm_mI (fv_Md_tick μ p1).2 27 = fl_km_tick (fv_Dk_tick σ p1).1 ∧ (fl_km_tick (fv_Dk_tick σ p1).1 = 0 → (fv_Dk_tick σ p1).1 = 0 ∧ (fv_Dk_tick σ p1).2.1 = (fv_Md_tick μ p1).1 ∧ FP.dIsNaN (fv_Md_tick μ p1).1 = false) ∧ fs_Rel (fv_Dk_tick σ p1).2.2 (fv_Md_tick μ p1).2 := by
  sorry
theorem fs_fetch {σ : FDS} {μ : FMS} (p1 : Int32) (p2 : Int32) (p3 : Int32) (p4 : Int32) (p5 : Int32) (p6 : Int32) (p7 : Int32) (hI : fd_Inv σ) (hJ : fm_Inv μ) (hR : fs_Rel σ μ) : fm_mI (fv_Md_fetch μ p1 p2 p3 p4 p5 p6 p7).2 27 = fl_km_fetch (fv_Dk_fetch σ p1 p2 p3 p4 p5 p6 p7).1 ∧ (fl_km_fetch (fv_Dk_fetch σ p1 p2 p3 p4 p5 p6 p7).1 = 0 → (fv_Dk_fetch σ p1 p2 p3 p4 p5 p6 p7).1 = 0 ∧ (fv_Dk_fetch σ p1 p2 p3 p4 p5 p6 p7).2.1 = (fv_Md_fetch μ p1 p2 p3 p4 p5 p6 p7).1) ∧ fs_Rel (fv_Dk_fetch σ p1 p2 p3 p4 p5 p6 p7).2.2 (fv_Md_fetch μ p1 p2 p3 p4 p5 p6 p7).2 := by
  sorry
theorem fs_told {σ : FDS} {μ : FMS} (p1 : Int32) (hI : fd_Inv σ) (hJ : fm_Inv μ) (hR : fs_Rel σ μ) : fm_mI (fv_Md_told μ p1).2 27 = fl_km_told (fv_Dk_told σ p1).1 ∧ (fl_km_told (fv_Dk_told σ p1).1 = 0 → (fv_Dk_told σ p1).1 = 0 ∧ (fv_Dk_told σ p1).2.1 = (fv_Md_told μ p1).1) ∧ fs_Rel (fv_Dk_told σ p1).2.2 (fv_Md_told μ p1).2 := by
  sorry
theorem fs_kept {σ : FDS} {μ : FMS} (p1 : Int32) (p2 : Int32) (hI : fd_Inv σ) (hJ : fm_Inv μ) (hR : fs_Rel σ μ) : fm_mI (fv_Md_kept μ p1 p2).2 27 = fl_km_kept (fv_Dk_kept σ p1 p2).1 ∧ (fl_km_kept (fv_Dk_kept σ p1 p2).1 = 0 → (fv_Dk_kept σ p1 p2).1 = 0 ∧ (fv_Dk_kept σ p1 p2).2.1 = (fv_Md_kept μ p1 p2).1) ∧ fs_Rel (fv_Dk_kept σ p1 p2).2.2 (fv_Md_kept μ p1 p2).2 := by
  sorry
theorem fs_left {σ : FDS} {μ : FMS} (p1 : Int32) (hI : fd_Inv σ) (hJ : fm_Inv μ) (hR : fs_Rel σ μ) : fm_mI (fv_Md_left μ p1).2 27 = fl_km_left (fv_Dk_left σ p1).1 ∧ (fl_km_left (fv_Dk_left σ p1).1 = 0 → (fv_Dk_left σ p1).1 = 0 ∧ (fv_Dk_left σ p1).2.1 = (fv_Md_left μ p1).1 ∧ FP.dIsNaN (fv_Md_left μ p1).1 = false) ∧ fs_Rel (fv_Dk_left σ p1).2.2 (fv_Md_left μ p1).2 := by
  sorry
theorem fs_count {σ : FDS} {μ : FMS} (p1 : Int32) (hI : fd_Inv σ) (hJ : fm_Inv μ) (hR : fs_Rel σ μ) : fm_mI (fv_Md_count μ p1).2 27 = fl_km_count (fv_Dk_count σ p1).1 ∧ (fl_km_count (fv_Dk_count σ p1).1 = 0 → (fv_Dk_count σ p1).1 = 0 ∧ (fv_Dk_count σ p1).2.1 = (fv_Md_count μ p1).1) ∧ fs_Rel (fv_Dk_count σ p1).2.2 (fv_Md_count μ p1).2 := by
  sorry
theorem fs_start : fd_Inv fd_init ∧ fm_Inv fm_init ∧ fs_Rel fd_init fm_init := by
  sorry
