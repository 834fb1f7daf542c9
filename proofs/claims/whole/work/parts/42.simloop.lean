/-! desk and model do the same: rounds -/
theorem fs_c9 : (9 : Int32).toNatClampNeg = 9 ∧ (6 : Int32).toNatClampNeg = 6 ∧ (7 : Int32).toNatClampNeg = 7 ∧ (8 : Int32).toNatClampNeg = 8 := by decide
theorem fs_take {σ : FDS} {ν : FMS} {v2 : Bool} {p1 p2 p3 s : Int32} {u : Nat} (h : fs_H σ ν v2 p1 p2 p3) (h9 : fd_qB σ 9 = fm_mZ ν) (h10 : fd_qI σ 10 = 0) (hurl : (fm_mI ν 29).toNatClampNeg = u) (hu : u < 48) (hs : s = if v2 = true then p1 else 0) (hp : v2 = true → p1 = 1 ∨ p1 = 2) : fs_End (fv_Rq_takeResponse σ u) (fv_Md_answer ν s) 0 := by
  obtain ⟨hR, hN, ⟨m, hM⟩, hQ, hF, hZ, hV, hS⟩ := id h
  obtain ⟨a0, a1, -, a3, a4, -⟩ := hR u hu
  obtain ⟨k9, k6, k7, k8⟩ := fs_c9
  unfold fv_Rq_takeResponse
  rw [hF.1, hF.2.1, a0, a1, a3, a4]
  cases hv : v2
  · rw [hv] at hs h
    have hs : s = 0 := hs
    subst hs
    simp only [Bool.false_eq_true, if_false]
    refine fs_show h h9 h10 (Or.inr ?_)
    unfold fv_Md_answer fv_Md_answer_j10
    rw [if_pos (by decide), if_pos rfl, k9, k6, k7, k8, hurl]
  · rw [hv] at hs h
    have hs : s = p1 := hs
    subst hs
    simp only [if_true]
    rcases hp hv with rfl | rfl
    · rw [if_pos rfl]
      refine fs_show h h9 h10 (Or.inr ?_)
      unfold fv_Md_answer fv_Md_answer_j10
      rw [if_pos (by decide), if_neg (by decide), k9, k6, k7, k8, hurl]
    · rw [if_neg (by decide)]
      refine fs_show h h9 h10 (Or.inl ⟨?_, rfl, rfl, rfl⟩)
      unfold fv_Md_answer
      rw [if_neg (by decide), k9]
theorem fs_tail2 {σ : FDS} {ν : FMS} {v2 : Bool} {p1 p2 p3 s : Int32} {u k : Nat} (h : fs_H σ ν v2 p1 p2 p3) (h9 : fd_qB σ 9 = fm_mZ ν) (h10 : fd_qI σ 10 = 0) (hurl : (fm_mI ν 29).toNatClampNeg = u) (hk : k ≤ 4) (hs : s = if v2 = true then p1 else 0) (hp : v2 = true → p1 = 1 ∨ p1 = 2) : fs_Out (fd_t2 σ u (nI k)) (fm_t2 p3 (nI k) v2 s ν) p1 p2 p3 k := by
  obtain ⟨hR, hN, ⟨m, hM⟩, hQ, hF, hZ, hV, hS⟩ := id h
  have hu : u < 48 := by rw [← hurl]; exact fd_lt hV.2.1
  obtain ⟨a0, a1, a2, -⟩ := hR u hu
  have hred := fs_red a0 a2 (hS.1 u hu)
  have htake := fs_take h h9 h10 hurl hu hs hp
  unfold fd_t2 fm_t2
  rw [hurl]
  by_cases c1 : fv_Md_isMoved ν (fm_aI ν 0 u) = true
  · rw [if_pos c1]
    by_cases c2 : 0 ≤ fm_aI ν 2 u
    · rw [if_pos c2, if_pos (hred.mpr ⟨c1, c2⟩)]
      unfold fv_Rq_meetRedirect
      rw [hF.2.2.2]
      by_cases d1 : p3 = 1
      · rw [if_pos d1, if_pos d1]
        exact Or.inl ⟨4, ν, rfl, rfl, fs_err h h9 4 (by decide)⟩
      · rw [if_neg d1, if_neg d1]
        by_cases d2 : p3 = 2
        · rw [if_pos d2, if_pos d2]
          refine Or.inl ⟨0, _, rfl, rfl, fs_show h h9 h10 (Or.inl ⟨?_, rfl, rfl, rfl⟩)⟩
          unfold fv_Md_answer
          rw [if_neg (by decide), fs_c9.1]
        · rw [if_neg d2, if_neg d2]
          by_cases d3 : k = 4
          · subst d3
            rw [if_neg (by decide), if_pos (by decide)]
            exact Or.inl ⟨5, ν, rfl, rfl, fs_err h h9 5 (by decide)⟩
          · have e4 : (4 : Int32) = nI 4 := rfl
            rw [if_pos (by rw [e4]; exact nI_lt (by omega) (by decide)), if_neg (by rw [e4, nI_eq (by omega) (by decide)]; exact d3)]
            refine Or.inr ⟨_, _, by rw [nI_1], rfl, ?_, by omega⟩
            rw [fs_follow_eq, fs_move_eq ν (by rw [hurl]; exact c1), a2, a0, hurl, hQ.1, hQ.2.1, hQ.2.2.1]
            refine fs_fo h _ _ ((hS.1 u hu).resolve_left (fun q => ?_))
            rw [q] at c2
            exact absurd c2 (by decide)
    · rw [if_neg c2, if_neg (fun q => c2 (hred.mp q).2)]
      exact Or.inl ⟨0, _, rfl, rfl, htake⟩
  · rw [if_neg c1, if_neg (fun q => c1 (hred.mp q).1)]
    exact Or.inl ⟨0, _, rfl, rfl, htake⟩
theorem fs_tail {σ : FDS} {ν : FMS} {v2 : Bool} {p1 p2 p3 : Int32} {u k : Nat} (h : fs_H σ ν v2 p1 p2 p3) (h9 : fd_qB σ 9 = fm_mZ ν) (h10 : fd_qI σ 10 = 0) (hurl : (fm_mI ν 29).toNatClampNeg = u) (hk : k ≤ 4) (hp : v2 = true → p1 = 1 ∨ p1 = 2) : fs_Out (fd_t σ u (nI k)) (fm_t p1 p3 (nI k) v2 ν) p1 p2 p3 k := by
  obtain ⟨hR, hN, ⟨m, hM⟩, hQ, hF, hZ, hV, hS⟩ := id h
  have hu : u < 48 := by rw [← hurl]; exact fd_lt hV.2.1
  have em : fv_Rq_mustPass σ = (if v2 = true then if p1 = 1 then true else false else false) := by
    rw [← hF.1, ← hF.2.1]
    rfl
  have t2 := fun s (hs : s = if v2 = true then p1 else 0) => fs_tail2 h h9 h10 hurl hk hs hp
  unfold fd_t fm_t
  rw [em, fs_passes (fs_Q_of hQ h9) hR hu hurl hV.1]
  by_cases cv : v2 = true
  · rw [if_pos cv, if_pos cv]
    by_cases c1 : p1 = 1
    · rw [if_pos c1, if_pos c1, if_pos rfl]
      by_cases c2 : fv_Md_passes ν = true
      · rw [if_pos c2, if_pos c2]
        exact t2 p1 (by rw [if_pos cv])
      · rw [if_neg c2, if_neg c2]
        exact Or.inl ⟨3, ν, rfl, rfl, fs_err h h9 3 (by decide)⟩
    · rw [if_neg c1, if_neg c1, if_neg (by decide)]
      exact t2 p1 (by rw [if_pos cv])
  · rw [if_neg cv, if_neg cv, if_neg (by decide)]
    exact t2 0 (by rw [if_neg cv])
theorem fs_round {σ : FDS} {μ0 μ : FMS} {far : Bool} {p1 p2 p3 : Int32} {k : Nat} (h : fs_H σ μ far p1 p2 p3) (hp : p1 = 0 ∨ p1 = 1 ∨ p1 = 2) (hk : k ≤ 4) : fs_Out (fv_Dk_goOneRound σ (nI k)) (fv_Md_go_l6s μ0 p1 p2 p3 μ far (nI k)) p1 p2 p3 k := by
  obtain ⟨v1, e1⟩ : ∃ v1, v1 = (if ((fm_mI μ 29) / 8) = (fm_mI μ 28) then if far = true then false else true else false) := ⟨_, rfl⟩
  obtain ⟨v2, e2⟩ : ∃ v2, v2 = (if v1 = true then false else true) := ⟨_, rfl⟩
  obtain ⟨v3, e3⟩ : ∃ v3, v3 = (if p2 = 2 then true else if p2 = 1 then if v1 = true then true else false else false) := ⟨_, rfl⟩
  have eg : fv_Md_go_l6s μ0 p1 p2 p3 μ far (nI k) = fv_Md_go_j3 μ0 p1 p2 p3 μ far (nI k) v1 v2 v3 := by
    rw [e3, e2, e1]
    rfl
  rw [eg, fs_go3, fs_gor]
  obtain ⟨h1, h19⟩ := fs_enter h e1 e2 e3
  generalize fv_Rq_enterRound σ = σ1 at h1 h19 ⊢
  generalize (fm_saI (fm_smZ μ v3) 19 (1 : Int32).toNatClampNeg ((fm_aI μ 19 (1 : Int32).toNatClampNeg) + 1)) = μ1 at h1 h19 ⊢
  have hq1 : fd_qI σ1 1 = fm_mI μ1 29 := h1.2.2.2.1.2.1
  rw [hq1]
  obtain ⟨b1, b2, b3, b4, b5, b6⟩ := fs_ebr h1 h19 rfl
  rw [b1]
  by_cases c : (fm_pre μ1 v2 p1).1 = 0
  · rw [if_pos c, if_pos c, c, fs_c163]
    obtain ⟨d1, d2, d3, d4⟩ := fs_cnt b2 b3 (by rw [b6])
    refine fs_tail d1 d2 d3 d4 hk (fun hv => ?_)
    rcases hp with q | q | q
    · exact absurd q (b4 c hv)
    · exact Or.inl q
    · exact Or.inr q
  · rw [if_neg c, if_neg c]
    refine Or.inl ⟨(fm_pre μ1 v2 p1).1, (fm_pre μ1 v2 p1).2, rfl, rfl, fs_err b2 b3 _ ?_⟩
    rcases b5 with q | q | q
    · exact absurd q c
    · rw [q]; decide
    · rw [q]; decide
theorem fs_loop {p1 p2 p3 : Int32} (hp : p1 = 0 ∨ p1 = 1 ∨ p1 = 2) (σ0 : FDS) (μ0 : FMS) : ∀ (n k : Nat) (σ : FDS) (μ : FMS) (far : Bool), n + k = 5 → 1 ≤ n → fs_H σ μ far p1 p2 p3 → ∃ err μ', fv_Md_go_l6 n μ0 p1 p2 p3 μ far (nI k) = (err, μ') ∧ fs_End (fv_Dk_goThroughRounds_l4 (n + 1) σ0 σ true (nI k)) μ' err := by
  intro n
  induction n with
  | zero => intro k σ μ far h1 h2; omega
  | succ n ih =>
    intro k σ μ far h1 h2 h
    have e4 : (4 : Int32) = nI 4 := rfl
    have ed : fv_Dk_goThroughRounds_l4 (n + 1 + 1) σ0 σ true (nI k) = fv_Dk_goThroughRounds_l4 (n + 1) σ0 ((fv_Dk_goOneRound σ (nI k)).2) ((fv_Dk_goOneRound σ (nI k)).1) (nI k + 1) := by
      conv => lhs; unfold fv_Dk_goThroughRounds_l4
      rw [if_pos rfl, if_neg (by rw [e4]; exact nI_nlt (by omega) (by decide))]
    have em : fv_Md_go_l6 (n + 1) μ0 p1 p2 p3 μ far (nI k) = fd_or (fv_Md_go_l6s μ0 p1 p2 p3 μ far (nI k)) (fun q => fv_Md_go_l6 n μ0 p1 p2 p3 q.1 q.2.1 q.2.2) := rfl
    rw [ed, em]
    rcases fs_round (μ0 := μ0) h hp (show k ≤ 4 by omega) with ⟨err, μ', y1, y2, y3⟩ | ⟨μ', v, y1, y2, y3, y4⟩
    · rw [y1, y2]
      refine ⟨err, μ', rfl, ?_⟩
      have : fv_Dk_goThroughRounds_l4 (n + 1) σ0 ((fv_Dk_goOneRound σ (nI k)).2) false (nI k + 1) = (fv_Dk_goOneRound σ (nI k)).2 := by
        unfold fv_Dk_goThroughRounds_l4
        rw [if_neg (by decide)]
      rw [this]
      exact y3
    · rw [y1, y2, nI_1]
      obtain ⟨err, μ2, g1, g2⟩ := ih (k + 1) _ μ' v (by omega) (by omega) y3
      exact ⟨err, μ2, g1, g2⟩
