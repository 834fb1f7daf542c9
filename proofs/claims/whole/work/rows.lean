section
/-- a private method of a class that the tables say can be made, by its rows of tables_1 -/
def lw_okq (q : MethodName × Nat) : Prop := (q.1.cls ≠ "java/lang/invoke/MethodHandle" ∧ q.1.cls ≠ "java/lang/invoke/VarHandle") ∧ Cond.instantiable q.1.cls q.2 ∈ tables_1 ∧ Cond.privateMethod q.1 ∈ tables_1 ∧ Cond.instanceMethod q.1 ∈ tables_1
theorem lw_p0 : lw_okq (⟨"java/lang/Throwable", "fillInStackTrace", "(I)Ljava/lang/Throwable;"⟩, 6) := ⟨⟨by decide +kernel, by decide +kernel⟩, List.mem_of_getElem? (i := 282) (by decide +kernel), List.mem_of_getElem? (i := 280) (by decide +kernel), List.mem_of_getElem? (i := 281) (by decide +kernel)⟩
theorem lw_p1 : lw_okq (⟨"FetchDesk$Request", "begin", "(IIIIIII)V"⟩, 15) := ⟨⟨by decide +kernel, by decide +kernel⟩, List.mem_of_getElem? (i := 134) (by decide +kernel), List.mem_of_getElem? (i := 363) (by decide +kernel), List.mem_of_getElem? (i := 364) (by decide +kernel)⟩
theorem lw_p2 : lw_okq (⟨"FetchDesk$Request", "show", "(IIII)V"⟩, 15) := ⟨⟨by decide +kernel, by decide +kernel⟩, List.mem_of_getElem? (i := 134) (by decide +kernel), List.mem_of_getElem? (i := 367) (by decide +kernel), List.mem_of_getElem? (i := 368) (by decide +kernel)⟩
theorem lw_p3 : lw_okq (⟨"FetchDesk", "goThroughRounds", "()V"⟩, 9) := ⟨⟨by decide +kernel, by decide +kernel⟩, List.mem_of_getElem? (i := 14) (by decide +kernel), List.mem_of_getElem? (i := 371) (by decide +kernel), List.mem_of_getElem? (i := 372) (by decide +kernel)⟩
theorem lw_p4 : lw_okq (⟨"FetchDesk", "goOneRound", "(I)Z"⟩, 9) := ⟨⟨by decide +kernel, by decide +kernel⟩, List.mem_of_getElem? (i := 14) (by decide +kernel), List.mem_of_getElem? (i := 375) (by decide +kernel), List.mem_of_getElem? (i := 376) (by decide +kernel)⟩
theorem lw_p5 : lw_okq (⟨"FetchDesk$Request", "enterRound", "()V"⟩, 15) := ⟨⟨by decide +kernel, by decide +kernel⟩, List.mem_of_getElem? (i := 134) (by decide +kernel), List.mem_of_getElem? (i := 379) (by decide +kernel), List.mem_of_getElem? (i := 380) (by decide +kernel)⟩
theorem lw_p6 : lw_okq (⟨"FetchDesk", "errorBeforeRequesting", "(LFetchDesk$Resource;)I"⟩, 9) := ⟨⟨by decide +kernel, by decide +kernel⟩, List.mem_of_getElem? (i := 14) (by decide +kernel), List.mem_of_getElem? (i := 386) (by decide +kernel), List.mem_of_getElem? (i := 387) (by decide +kernel)⟩
theorem lw_p7 : lw_okq (⟨"FetchDesk$Request", "mustPass", "()Z"⟩, 15) := ⟨⟨by decide +kernel, by decide +kernel⟩, List.mem_of_getElem? (i := 134) (by decide +kernel), List.mem_of_getElem? (i := 390) (by decide +kernel), List.mem_of_getElem? (i := 391) (by decide +kernel)⟩
theorem lw_p8 : lw_okq (⟨"FetchDesk$Memory", "covers", "(LFetchDesk$Request;D)Z"⟩, 2) := ⟨⟨by decide +kernel, by decide +kernel⟩, List.mem_of_getElem? (i := 81) (by decide +kernel), List.mem_of_getElem? (i := 394) (by decide +kernel), List.mem_of_getElem? (i := 395) (by decide +kernel)⟩
theorem lw_p9 : lw_okq (⟨"FetchDesk$Memory", "find", "(LFetchDesk$Request;)I"⟩, 2) := ⟨⟨by decide +kernel, by decide +kernel⟩, List.mem_of_getElem? (i := 81) (by decide +kernel), List.mem_of_getElem? (i := 398) (by decide +kernel), List.mem_of_getElem? (i := 399) (by decide +kernel)⟩
theorem lw_p10 : lw_okq (⟨"FetchDesk", "ask", "(LFetchDesk$Resource;)Z"⟩, 9) := ⟨⟨by decide +kernel, by decide +kernel⟩, List.mem_of_getElem? (i := 14) (by decide +kernel), List.mem_of_getElem? (i := 405) (by decide +kernel), List.mem_of_getElem? (i := 406) (by decide +kernel)⟩
theorem lw_p11 : lw_okq (⟨"FetchDesk$Memory", "forget", "(LFetchDesk$Request;)V"⟩, 2) := ⟨⟨by decide +kernel, by decide +kernel⟩, List.mem_of_getElem? (i := 81) (by decide +kernel), List.mem_of_getElem? (i := 409) (by decide +kernel), List.mem_of_getElem? (i := 410) (by decide +kernel)⟩
theorem lw_p12 : lw_okq (⟨"FetchDesk$Memory", "drop", "(I)V"⟩, 2) := ⟨⟨by decide +kernel, by decide +kernel⟩, List.mem_of_getElem? (i := 81) (by decide +kernel), List.mem_of_getElem? (i := 413) (by decide +kernel), List.mem_of_getElem? (i := 414) (by decide +kernel)⟩
theorem lw_p13 : lw_okq (⟨"FetchDesk$Request", "passes", "(LFetchDesk$Resource;)Z"⟩, 15) := ⟨⟨by decide +kernel, by decide +kernel⟩, List.mem_of_getElem? (i := 134) (by decide +kernel), List.mem_of_getElem? (i := 417) (by decide +kernel), List.mem_of_getElem? (i := 418) (by decide +kernel)⟩
theorem lw_p14 : lw_okq (⟨"FetchDesk$Memory", "remember", "(LFetchDesk$Request;LFetchDesk$Resource;D)V"⟩, 2) := ⟨⟨by decide +kernel, by decide +kernel⟩, List.mem_of_getElem? (i := 81) (by decide +kernel), List.mem_of_getElem? (i := 422) (by decide +kernel), List.mem_of_getElem? (i := 423) (by decide +kernel)⟩
theorem lw_p15 : lw_okq (⟨"FetchDesk$Memory", "firstToEnd", "()I"⟩, 2) := ⟨⟨by decide +kernel, by decide +kernel⟩, List.mem_of_getElem? (i := 81) (by decide +kernel), List.mem_of_getElem? (i := 426) (by decide +kernel), List.mem_of_getElem? (i := 427) (by decide +kernel)⟩
def lw_privs_1 : List (MethodName × Nat) := [(⟨"java/lang/Throwable", "fillInStackTrace", "(I)Ljava/lang/Throwable;"⟩, 6), (⟨"FetchDesk$Request", "begin", "(IIIIIII)V"⟩, 15), (⟨"FetchDesk$Request", "show", "(IIII)V"⟩, 15), (⟨"FetchDesk", "goThroughRounds", "()V"⟩, 9), (⟨"FetchDesk", "goOneRound", "(I)Z"⟩, 9), (⟨"FetchDesk$Request", "enterRound", "()V"⟩, 15), (⟨"FetchDesk", "errorBeforeRequesting", "(LFetchDesk$Resource;)I"⟩, 9), (⟨"FetchDesk$Request", "mustPass", "()Z"⟩, 15), (⟨"FetchDesk$Memory", "covers", "(LFetchDesk$Request;D)Z"⟩, 2), (⟨"FetchDesk$Memory", "find", "(LFetchDesk$Request;)I"⟩, 2), (⟨"FetchDesk", "ask", "(LFetchDesk$Resource;)Z"⟩, 9), (⟨"FetchDesk$Memory", "forget", "(LFetchDesk$Request;)V"⟩, 2), (⟨"FetchDesk$Memory", "drop", "(I)V"⟩, 2), (⟨"FetchDesk$Request", "passes", "(LFetchDesk$Resource;)Z"⟩, 15), (⟨"FetchDesk$Memory", "remember", "(LFetchDesk$Request;LFetchDesk$Resource;D)V"⟩, 2), (⟨"FetchDesk$Memory", "firstToEnd", "()I"⟩, 2)]
theorem lw_r1 : ∀ q ∈ lw_privs_1, lw_okq q := List.forall_mem_cons.mpr ⟨lw_p0, List.forall_mem_cons.mpr ⟨lw_p1, List.forall_mem_cons.mpr ⟨lw_p2, List.forall_mem_cons.mpr ⟨lw_p3, List.forall_mem_cons.mpr ⟨lw_p4, List.forall_mem_cons.mpr ⟨lw_p5, List.forall_mem_cons.mpr ⟨lw_p6, List.forall_mem_cons.mpr ⟨lw_p7, List.forall_mem_cons.mpr ⟨lw_p8, List.forall_mem_cons.mpr ⟨lw_p9, List.forall_mem_cons.mpr ⟨lw_p10, List.forall_mem_cons.mpr ⟨lw_p11, List.forall_mem_cons.mpr ⟨lw_p12, List.forall_mem_cons.mpr ⟨lw_p13, List.forall_mem_cons.mpr ⟨lw_p14, List.forall_mem_cons.mpr ⟨lw_p15, fun _ h => absurd h List.not_mem_nil⟩⟩⟩⟩⟩⟩⟩⟩⟩⟩⟩⟩⟩⟩⟩⟩
theorem lw_p16 : lw_okq (⟨"FetchDesk$Permit", "write", "(LFetchDesk$Request;LFetchDesk$Resource;D)V"⟩, 6) := ⟨⟨by decide +kernel, by decide +kernel⟩, List.mem_of_getElem? (i := 88) (by decide +kernel), List.mem_of_getElem? (i := 431) (by decide +kernel), List.mem_of_getElem? (i := 432) (by decide +kernel)⟩
theorem lw_p17 : lw_okq (⟨"FetchDesk", "countRequested", "(LFetchDesk$Resource;)V"⟩, 9) := ⟨⟨by decide +kernel, by decide +kernel⟩, List.mem_of_getElem? (i := 14) (by decide +kernel), List.mem_of_getElem? (i := 435) (by decide +kernel), List.mem_of_getElem? (i := 436) (by decide +kernel)⟩
theorem lw_p18 : lw_okq (⟨"FetchDesk$Resource", "isRedirect", "()Z"⟩, 13) := ⟨⟨by decide +kernel, by decide +kernel⟩, List.mem_of_getElem? (i := 23) (by decide +kernel), List.mem_of_getElem? (i := 439) (by decide +kernel), List.mem_of_getElem? (i := 440) (by decide +kernel)⟩
theorem lw_p19 : lw_okq (⟨"FetchDesk$Request", "meetRedirect", "(LFetchDesk$Resource;I)Z"⟩, 15) := ⟨⟨by decide +kernel, by decide +kernel⟩, List.mem_of_getElem? (i := 134) (by decide +kernel), List.mem_of_getElem? (i := 443) (by decide +kernel), List.mem_of_getElem? (i := 444) (by decide +kernel)⟩
theorem lw_p20 : lw_okq (⟨"FetchDesk$Request", "follow", "(LFetchDesk$Resource;)V"⟩, 15) := ⟨⟨by decide +kernel, by decide +kernel⟩, List.mem_of_getElem? (i := 134) (by decide +kernel), List.mem_of_getElem? (i := 447) (by decide +kernel), List.mem_of_getElem? (i := 448) (by decide +kernel)⟩
theorem lw_p21 : lw_okq (⟨"FetchDesk$Resource", "turnsIntoGet", "(I)Z"⟩, 13) := ⟨⟨by decide +kernel, by decide +kernel⟩, List.mem_of_getElem? (i := 23) (by decide +kernel), List.mem_of_getElem? (i := 451) (by decide +kernel), List.mem_of_getElem? (i := 452) (by decide +kernel)⟩
theorem lw_p22 : lw_okq (⟨"FetchDesk$Request", "takeResponse", "(LFetchDesk$Resource;)V"⟩, 15) := ⟨⟨by decide +kernel, by decide +kernel⟩, List.mem_of_getElem? (i := 134) (by decide +kernel), List.mem_of_getElem? (i := 455) (by decide +kernel), List.mem_of_getElem? (i := 456) (by decide +kernel)⟩
theorem lw_p23 : lw_okq (⟨"FetchDesk$Memory", "holds", "(I)Z"⟩, 2) := ⟨⟨by decide +kernel, by decide +kernel⟩, List.mem_of_getElem? (i := 81) (by decide +kernel), List.mem_of_getElem? (i := 489) (by decide +kernel), List.mem_of_getElem? (i := 490) (by decide +kernel)⟩
theorem lw_p24 : lw_okq (⟨"FetchDeskModel", "fail", "(I)I"⟩, 33) := ⟨⟨by decide +kernel, by decide +kernel⟩, List.mem_of_getElem? (i := 522) (by decide +kernel), List.mem_of_getElem? (i := 653) (by decide +kernel), List.mem_of_getElem? (i := 654) (by decide +kernel)⟩
theorem lw_p25 : lw_okq (⟨"FetchDeskModel", "go", "(III)I"⟩, 33) := ⟨⟨by decide +kernel, by decide +kernel⟩, List.mem_of_getElem? (i := 522) (by decide +kernel), List.mem_of_getElem? (i := 674) (by decide +kernel), List.mem_of_getElem? (i := 675) (by decide +kernel)⟩
theorem lw_p26 : lw_okq (⟨"FetchDeskModel", "isRemembered", "()Z"⟩, 33) := ⟨⟨by decide +kernel, by decide +kernel⟩, List.mem_of_getElem? (i := 522) (by decide +kernel), List.mem_of_getElem? (i := 678) (by decide +kernel), List.mem_of_getElem? (i := 679) (by decide +kernel)⟩
theorem lw_p27 : lw_okq (⟨"FetchDeskModel", "isSame", "(I)Z"⟩, 33) := ⟨⟨by decide +kernel, by decide +kernel⟩, List.mem_of_getElem? (i := 522) (by decide +kernel), List.mem_of_getElem? (i := 682) (by decide +kernel), List.mem_of_getElem? (i := 683) (by decide +kernel)⟩
theorem lw_p28 : lw_okq (⟨"FetchDeskModel", "ask", "()Z"⟩, 33) := ⟨⟨by decide +kernel, by decide +kernel⟩, List.mem_of_getElem? (i := 522) (by decide +kernel), List.mem_of_getElem? (i := 686) (by decide +kernel), List.mem_of_getElem? (i := 687) (by decide +kernel)⟩
theorem lw_p29 : lw_okq (⟨"FetchDeskModel", "forget", "(I)V"⟩, 33) := ⟨⟨by decide +kernel, by decide +kernel⟩, List.mem_of_getElem? (i := 522) (by decide +kernel), List.mem_of_getElem? (i := 690) (by decide +kernel), List.mem_of_getElem? (i := 691) (by decide +kernel)⟩
theorem lw_p30 : lw_okq (⟨"FetchDeskModel", "passes", "()Z"⟩, 33) := ⟨⟨by decide +kernel, by decide +kernel⟩, List.mem_of_getElem? (i := 522) (by decide +kernel), List.mem_of_getElem? (i := 694) (by decide +kernel), List.mem_of_getElem? (i := 695) (by decide +kernel)⟩
theorem lw_p31 : lw_okq (⟨"FetchDeskModel", "keep", "()V"⟩, 33) := ⟨⟨by decide +kernel, by decide +kernel⟩, List.mem_of_getElem? (i := 522) (by decide +kernel), List.mem_of_getElem? (i := 698) (by decide +kernel), List.mem_of_getElem? (i := 699) (by decide +kernel)⟩
def lw_privs_2 : List (MethodName × Nat) := [(⟨"FetchDesk$Permit", "write", "(LFetchDesk$Request;LFetchDesk$Resource;D)V"⟩, 6), (⟨"FetchDesk", "countRequested", "(LFetchDesk$Resource;)V"⟩, 9), (⟨"FetchDesk$Resource", "isRedirect", "()Z"⟩, 13), (⟨"FetchDesk$Request", "meetRedirect", "(LFetchDesk$Resource;I)Z"⟩, 15), (⟨"FetchDesk$Request", "follow", "(LFetchDesk$Resource;)V"⟩, 15), (⟨"FetchDesk$Resource", "turnsIntoGet", "(I)Z"⟩, 13), (⟨"FetchDesk$Request", "takeResponse", "(LFetchDesk$Resource;)V"⟩, 15), (⟨"FetchDesk$Memory", "holds", "(I)Z"⟩, 2), (⟨"FetchDeskModel", "fail", "(I)I"⟩, 33), (⟨"FetchDeskModel", "go", "(III)I"⟩, 33), (⟨"FetchDeskModel", "isRemembered", "()Z"⟩, 33), (⟨"FetchDeskModel", "isSame", "(I)Z"⟩, 33), (⟨"FetchDeskModel", "ask", "()Z"⟩, 33), (⟨"FetchDeskModel", "forget", "(I)V"⟩, 33), (⟨"FetchDeskModel", "passes", "()Z"⟩, 33), (⟨"FetchDeskModel", "keep", "()V"⟩, 33)]
theorem lw_r2 : ∀ q ∈ lw_privs_2, lw_okq q := List.forall_mem_cons.mpr ⟨lw_p16, List.forall_mem_cons.mpr ⟨lw_p17, List.forall_mem_cons.mpr ⟨lw_p18, List.forall_mem_cons.mpr ⟨lw_p19, List.forall_mem_cons.mpr ⟨lw_p20, List.forall_mem_cons.mpr ⟨lw_p21, List.forall_mem_cons.mpr ⟨lw_p22, List.forall_mem_cons.mpr ⟨lw_p23, List.forall_mem_cons.mpr ⟨lw_p24, List.forall_mem_cons.mpr ⟨lw_p25, List.forall_mem_cons.mpr ⟨lw_p26, List.forall_mem_cons.mpr ⟨lw_p27, List.forall_mem_cons.mpr ⟨lw_p28, List.forall_mem_cons.mpr ⟨lw_p29, List.forall_mem_cons.mpr ⟨lw_p30, List.forall_mem_cons.mpr ⟨lw_p31, fun _ h => absurd h List.not_mem_nil⟩⟩⟩⟩⟩⟩⟩⟩⟩⟩⟩⟩⟩⟩⟩⟩
theorem lw_p32 : lw_okq (⟨"FetchDeskModel", "answer", "(I)V"⟩, 33) := ⟨⟨by decide +kernel, by decide +kernel⟩, List.mem_of_getElem? (i := 522) (by decide +kernel), List.mem_of_getElem? (i := 706) (by decide +kernel), List.mem_of_getElem? (i := 707) (by decide +kernel)⟩
theorem lw_p33 : lw_okq (⟨"FetchDeskModel", "move", "()V"⟩, 33) := ⟨⟨by decide +kernel, by decide +kernel⟩, List.mem_of_getElem? (i := 522) (by decide +kernel), List.mem_of_getElem? (i := 710) (by decide +kernel), List.mem_of_getElem? (i := 711) (by decide +kernel)⟩
def lw_privs_3 : List (MethodName × Nat) := [(⟨"FetchDeskModel", "answer", "(I)V"⟩, 33), (⟨"FetchDeskModel", "move", "()V"⟩, 33)]
theorem lw_r3 : ∀ q ∈ lw_privs_3, lw_okq q := List.forall_mem_cons.mpr ⟨lw_p32, List.forall_mem_cons.mpr ⟨lw_p33, fun _ h => absurd h List.not_mem_nil⟩⟩
def lw_privs : List (MethodName × Nat) := lw_privs_1 ++ (lw_privs_2 ++ (lw_privs_3))
def lw_tbl : List Cond := k2_sels lw_privs ++ tables_1
theorem lw_privs_ok : ∀ q ∈ lw_privs, lw_okq q := by
  show ∀ q ∈ lw_privs_1 ++ (lw_privs_2 ++ (lw_privs_3)), lw_okq q
  exact List.forall_mem_append.mpr ⟨lw_r1, List.forall_mem_append.mpr ⟨lw_r2, lw_r3⟩⟩
/-! the words that every contract of ours carries: all good words of the tables -/
def fb_tbl : List Cond := lw_tbl.filter goodWord
theorem fb_memP {w : Cond} {i : Nat} (h : (k2_sels lw_privs)[i]? = some w) (hg : goodWord w = true) : w ∈ fb_tbl := List.mem_filter.mpr ⟨List.mem_append_left _ (List.mem_of_getElem? h), hg⟩
theorem fb_mem1 {w : Cond} {i : Nat} (h : tables_1_1[i]? = some w) (hg : goodWord w = true) : w ∈ fb_tbl := List.mem_filter.mpr ⟨List.mem_append_right _ (List.mem_append_left _ (List.mem_of_getElem? h)), hg⟩
theorem fb_mem2 {w : Cond} {i : Nat} (h : tables_1_2[i]? = some w) (hg : goodWord w = true) : w ∈ fb_tbl := List.mem_filter.mpr ⟨List.mem_append_right _ (List.mem_append_right _ (List.mem_append_left _ (List.mem_of_getElem? h))), hg⟩
theorem fb_mem3 {w : Cond} {i : Nat} (h : tables_1_3[i]? = some w) (hg : goodWord w = true) : w ∈ fb_tbl := List.mem_filter.mpr ⟨List.mem_append_right _ (List.mem_append_right _ (List.mem_append_right _ (List.mem_append_left _ (List.mem_of_getElem? h)))), hg⟩
theorem fb_mem4 {w : Cond} {i : Nat} (h : tables_1_4[i]? = some w) (hg : goodWord w = true) : w ∈ fb_tbl := List.mem_filter.mpr ⟨List.mem_append_right _ (List.mem_append_right _ (List.mem_append_right _ (List.mem_append_right _ (List.mem_of_getElem? h)))), hg⟩
theorem fb_lw1 {w : Cond} {i : Nat} (h : tables_1_1[i]? = some w) : w ∈ lw_tbl := List.mem_append_right _ (List.mem_append_left _ (List.mem_of_getElem? h))
theorem fb_lw2 {w : Cond} {i : Nat} (h : tables_1_2[i]? = some w) : w ∈ lw_tbl := List.mem_append_right _ (List.mem_append_right _ (List.mem_append_left _ (List.mem_of_getElem? h)))
theorem fb_lw3 {w : Cond} {i : Nat} (h : tables_1_3[i]? = some w) : w ∈ lw_tbl := List.mem_append_right _ (List.mem_append_right _ (List.mem_append_right _ (List.mem_append_left _ (List.mem_of_getElem? h))))
theorem fb_lw4 {w : Cond} {i : Nat} (h : tables_1_4[i]? = some w) : w ∈ lw_tbl := List.mem_append_right _ (List.mem_append_right _ (List.mem_append_right _ (List.mem_append_right _ (List.mem_of_getElem? h))))
theorem fb_good {x w : Cond} (hw : w ∈ fb_tbl) : GoodIn (x :: fb_tbl) (w :: fb_tbl) := fun v hv => by
  have h : v ∈ fb_tbl := by
    rcases List.mem_cons.mp hv with rfl | h
    · exact hw
    · exact h
  exact ⟨List.mem_cons_of_mem _ h, good_of_word (List.mem_filter.mp h).2⟩
theorem fb_goodL {w : Cond} (hw : w ∈ fb_tbl) : GoodIn lw_tbl (w :: fb_tbl) := fun v hv => by
  have h : v ∈ fb_tbl := by
    rcases List.mem_cons.mp hv with rfl | h
    · exact hw
    · exact h
  exact ⟨(List.mem_filter.mp h).1, good_of_word (List.mem_filter.mp h).2⟩
end
section
/-! ===== BEGIN exceptions that leave a method, and their catching by the caller (launches without stack traces) ===== -/
section VXA
/-! The laws vx_back, vx_callV, vx_callS, vx_callSW, vx_throw0, vx_throwS follow proofs of the library, with one case more: JvmDerived/Free/Laws.lean (Back.of_free), Shelf42/LK1.lean (callV, callS), Shelf/KitTraced.lean (throwNew0V, throwNewS). -/
/-- where a method has thrown q: the class by its name, the cell, what was written, the world -/
def vx_T (XC : String → State → State → Prop) (st : State) (q : Addr) (t : State) (mc ms : Nat) (free : Addr → Prop) : Prop :=
  ∃ (E : String) (ce : Cell) (L : List Loc), XC E st t ∧ t.heap[q]? = some ce ∧ ce.vm = .none ∧ st.vm.findClass E = some ce.cls ∧ st.WarmedH t.vm ∧ st.sameButNew ({ t with vm := st.vm } : State) L mc ms ∧ ∀ z ∈ L, free z.base
def vx_Q (Qc : Array Value → State → Outcome → State → Prop) (XC : String → State → State → Prop) (mc ms : Nat) (free : Addr → Prop) : Array Value → State → Outcome → State → Prop := fun a st o t =>
  (Qc a st o t ∧ ∃ L, FrameEnd st o t L mc ms ∧ ∀ q ∈ L, free q.base) ∨ ∃ q, o = .threw q ∧ vx_T XC st q t mc ms free
/-- a callee that returns or throws -/
def vx_Met (l : Launch) (y : MethodName) (ws : List Cond) (rm : Room) (Pc : Array Value → State → Prop) (Qc : Array Value → State → Outcome → State → Prop) (XC : String → State → State → Prop) (mc ms : Nat) (free : Addr → Prop) : Prop :=
  MetFree l y (headSpec ws rm) Pc (fun _ _ _ _ _ => True) (vx_Q Qc XC mc ms free)
def vx_Post (XC : String → State → State → Prop) (mc ms : Nat) (free : Addr → Prop) : Pt → Array Value → Addr → Pt → Prop := fun A a q B =>
  ∃ (g : JFrame) (mk : MethodId) (t : State) (L : List Loc) (E : String) (ce : Cell), B.U.heap = t.heap ∧ B.U.vm = t.vm ∧ XC E (A.U.calling g mk a) t ∧ t.heap[q]? = some ce ∧ ce.vm = .none ∧ A.U.vm.findClass E = some ce.cls ∧ B.locs = A.locs ++ L ∧ (∀ z ∈ L, free z.base) ∧ B.cells = A.cells + mc ∧ B.slots = A.slots + ms
def vx_Back (l : Launch) (R : Room) (p : Program) (e : Env) (below : List Frame) (s : State) (sargs : Array Value) (y : MethodName) (len W9 : Nat)
    (Pre : Pt → Array Value → Prop) (Post : Pt → Array Value → Option Value → Pt → Prop) (PostX : Pt → Array Value → Addr → Pt → Prop) : Prop :=
  ∀ (m : MethodId) (meth : Method) (c : Code) (A : Pt) (g : JFrame) (ig : Instr) (mk : MethodId) (a : Array Value),
    Stand p l e R s m sargs below meth c A.U A.locs A.cells A.slots → g.method = m → g.locals.size = c.maxLocals → decode c.code g.pc = .ok (ig, len) →
    2 * g.monitorRoom + (g.stack.map fun v => v.category).sum ≤ W9 → A.U.methodNamed? y = some mk → Pre A a →
    (∃ (v : Option Value) (B : Pt), Stand p l e R s m sargs below meth c B.U B.locs B.cells B.slots ∧ Post A a v B ∧
      Steps p.tables e below (doInvoke e (A.U.setTop g) [] mk a).1 (B.U.setTop { g with pc := g.pc + len, stack := v.toList ++ g.stack })) ∨
    (∃ (q : Addr) (B : Pt), Stand p l e R s m sargs below meth c B.U B.locs B.cells B.slots ∧ PostX A a q B ∧
      Steps p.tables e below (doInvoke e (A.U.setTop g) [] mk a).1 ((B.U.setTop g).pushFrame (.throwing q)))
section Payer
variable {l : Launch} {R : Room} {p : Program} {e : Env} {below : List Frame} {s : State} {sargs : Array Value} {y : MethodName} {len W9 : Nat}
theorem vx_back {ws : List Cond} {rm : Room} {Pc : Array Value → State → Prop} {Qc : Array Value → State → Outcome → State → Prop} {XC : String → State → State → Prop} {mc ms : Nat} {free : Addr → Prop} {bytes : ByteArray} {maxL : Nat} {ret : Option FieldType}
    (hM : vx_Met l y ws rm Pc Qc XC mc ms free) (hblind : FrameBlind Pc) (hrc : rm.cells = mc) (hrs : rm.slots = ms)
    (hframes : rm.frames + 1 ≤ R.frames) (hlocals : W9 + (maxL + 11) + rm.locals ≤ R.locals)
    (hws : ∀ w ∈ ws, ∀ a' U, s.WarmedH U.vm → w.before a' U = true) (hcode : Cond.code y bytes maxL ret ∈ ws) (hinit : ∀ a' U, s.WarmedH U.vm → (Cond.initialized y.cls).before a' U = true) :
    vx_Back l R p e below s sargs y len W9 (PreOf R mc ms Pc) (PostOf Qc mc ms free) (vx_Post XC mc ms free) := by
  intro m meth c A g ig mk a X hg hsize hdg hW hn hp
  have h1 : (headSpec ws rm).pre.before a A.U = true := atoms_intro fun w hw => hws w hw _ _ X.warmed
  have h2 : (Cond.code y bytes maxL ret).before a A.U = true := hws _ hcode _ _ X.warmed
  have h3 : (Cond.initialized y.cls).before a A.U = true := hinit _ _ X.warmed
  have h4 : A.cells + (headSpec ws rm).room.cells ≤ R.cells := by rw [show (headSpec ws rm).room.cells = mc from hrc]; exact hp.1
  have h5 : A.slots + (headSpec ws rm).room.slots ≤ R.slots := by rw [show (headSpec ws rm).room.slots = ms from hrs]; exact hp.2.1
  have hPc : Pc a (A.U.calling g mk a) := hblind _ _ _ _ hp.2.2
  obtain ⟨U, Ls, c0, s0⟩ := A
  dsimp only [Pt.U, Pt.locs, Pt.cells, Pt.slots] at h1 h2 h3 h4 h5 X hn hPc ⊢
  obtain ⟨methY, cY, hmY, hcY, -, hlY, -, -, -, -⟩ := Cond.code_spec hn h2
  obtain ⟨kY, hkY, -⟩ := className_of_methodNamed hn
  have hinitY : kY.init = .initialized := Cond.initialized_spec (findClass_of_methodNamed hn) hkY h3
  have h : At U g.method c below := by rw [hg]; exact X.here
  have hlocals9 : W9 + (maxL + 11) + (headSpec ws rm).room.locals ≤ R.locals := hlocals
  have happ : (headSpec ws rm).appliesLoose y e.platform (U.calling g mk a) = true :=
    Spec.appliesLoose_calling (g := g) h hdg hn hkY hinitY
      (X.room_calling (g := g) (R' := (headSpec ws rm).room) hsize hmY hcY hframes (by rw [hlY]; omega) h4 h5) h1
  obtain ⟨mid, hmid⟩ := h.above
  have hfr : (U.setTop g).frames = (.java g :: mid) ++ below := by rw [State.frames_setTop' g h.top, hmid]; rfl
  obtain ⟨o, s₂, hsteps, -, hend, hq⟩ := Steps.callFree hM p X.admits X.cas X.clock (acts := []) hfr happ hPc trivial
  have hq' : vx_Q Qc XC mc ms free a (U.calling g mk a) o s₂ := hq
  rw [State.frames_setTop' g h.top] at hend
  obtain ⟨g₀, hg0⟩ := Option.isSome_iff_exists.mp h.top
  obtain ⟨r, hr⟩ := State.topJava?_eq_some.mp hg0
  have hr' : (({ U with heap := s₂.heap, slotsUsed := s₂.slotsUsed } : State).setVm s₂.vm).frames = .java g₀ :: r := hr
  rcases hq' with ⟨hqc, L, hfe, hL⟩ | ⟨q, rfl, E, ce, L, hx, hce, hcv, hcl, hW₂, hsm, hL⟩
  · obtain ⟨⟨v, rfl⟩, hW₂, e2, q2, q3, q4, q5, q6⟩ := id hfe
    have e3 : s₂ = ({ (U.calling g mk a).setFrames s₂.frames with heap := s₂.heap, slotsUsed := s₂.slotsUsed } : State).setVm s₂.vm := by
      have : s₂ = ({ s₂ with vm := (U.calling g mk a).vm } : State).setVm s₂.vm := rfl
      rw [e2] at this
      exact this
    obtain ⟨c₂, i₂, len₂, hc₂, hd₂, hf₂⟩ := hend
    have hW' : U.WarmedH s₂.vm := hW₂
    have hcc : c₂ = c := by
      have h1 : s₂.code? g.method = U.code? g.method := by
        rw [State.code?_eq, State.code?_eq, hW'.alike.method?]
      exact Option.some.inj (hc₂.symm.trans (h1.trans h.code))
    subst hcc
    have hlen : len₂ = len := by rw [hdg] at hd₂; cases hd₂; rfl
    subst hlen
    have hs₂ : s₂ = (({ U with heap := s₂.heap, slotsUsed := s₂.slotsUsed } : State).setVm s₂.vm).setTop { g with pc := g.pc + len₂, stack := v.toList ++ g.stack } := by
      refine e3.trans ?_
      rw [hf₂, State.calling_eq h.top, State.setFrames_setFrames, State.setTop_of_frames _ hr', hr]
      rfl
    have hsame : U.sameButNew ({ U with heap := s₂.heap, slotsUsed := s₂.slotsUsed } : State) L mc ms := by
      refine ⟨?_, q2, q3, q4, q5, q6⟩
      obtain ⟨t, ht, -⟩ := State.frames_cons hr
      show ({ U with heap := s₂.heap, slotsUsed := s₂.slotsUsed } : State) = { U.setFrames U.frames with heap := s₂.heap, slotsUsed := s₂.slotsUsed }
      rw [State.setFrames_self ht]
    subst hg
    refine Or.inl ⟨v, ⟨(({ U with heap := s₂.heap, slotsUsed := s₂.slotsUsed } : State).setVm s₂.vm), Ls ++ L, c0 + mc, s0 + ms⟩,
      ⟨X.admits, X.cas, X.clock, X.frames, X.room, X.hears, X.method, X.code, (X.here.setHeapUsed s₂.heap s₂.slotsUsed).setVm hW'.alike, X.tail, State.WarmedH.trans X.warmed hW', X.limits, X.bytes, X.same.trans (hsame.setVm s.vm)⟩,
      ⟨g, mk, s₂, L, rfl, rfl, hqc, rfl, hL, rfl, rfl⟩, ?_⟩
    show Steps p.tables e below _ ((({ U with heap := s₂.heap, slotsUsed := s₂.slotsUsed } : State).setVm s₂.vm).setTop { g with pc := g.pc + len₂, stack := v.toList ++ g.stack })
    rw [← hs₂]
    exact hsteps
  · obtain ⟨e2, q2, q3, q4, q5, q6⟩ := id hsm
    have e3 : s₂ = ({ (U.calling g mk a).setFrames s₂.frames with heap := s₂.heap, slotsUsed := s₂.slotsUsed } : State).setVm s₂.vm := by
      have : s₂ = ({ s₂ with vm := (U.calling g mk a).vm } : State).setVm s₂.vm := rfl
      rw [e2] at this
      exact this
    have hf₂ : s₂.frames = .throwing q :: .java g :: U.frames.tail := hend
    have hW' : U.WarmedH s₂.vm := hW₂
    have hs₂ : s₂ = ((({ U with heap := s₂.heap, slotsUsed := s₂.slotsUsed } : State).setVm s₂.vm).setTop g).pushFrame (.throwing q) := by
      refine e3.trans ?_
      rw [hf₂, State.calling_eq h.top, State.setFrames_setFrames, State.pushFrame, State.frames_setTop _ hr', State.setTop_of_frames _ hr', State.setFrames_setFrames, hr]
      rfl
    have hsame : U.sameButNew ({ U with heap := s₂.heap, slotsUsed := s₂.slotsUsed } : State) L mc ms := by
      refine ⟨?_, q2, q3, q4, q5, q6⟩
      obtain ⟨t, ht, -⟩ := State.frames_cons hr
      show ({ U with heap := s₂.heap, slotsUsed := s₂.slotsUsed } : State) = { U.setFrames U.frames with heap := s₂.heap, slotsUsed := s₂.slotsUsed }
      rw [State.setFrames_self ht]
    subst hg
    refine Or.inr ⟨q, ⟨(({ U with heap := s₂.heap, slotsUsed := s₂.slotsUsed } : State).setVm s₂.vm), Ls ++ L, c0 + mc, s0 + ms⟩,
      ⟨X.admits, X.cas, X.clock, X.frames, X.room, X.hears, X.method, X.code, (X.here.setHeapUsed s₂.heap s₂.slotsUsed).setVm hW'.alike, X.tail, State.WarmedH.trans X.warmed hW', X.limits, X.bytes, X.same.trans (hsame.setVm s.vm)⟩,
      ⟨g, mk, s₂, L, E, ce, rfl, rfl, hx, hce, hcv, hcl, rfl, hL, rfl, rfl⟩, ?_⟩
    show Steps p.tables e below _ (((({ U with heap := s₂.heap, slotsUsed := s₂.slotsUsed } : State).setVm s₂.vm).setTop g).pushFrame (.throwing q))
    rw [← hs₂]
    exact hsteps
end Payer
section Calls
variable {p : Program} {l : Launch} {e : Env} {R : Room} {s : State} {m : MethodId} {args : Array Value} {below : List Frame} {meth : Method} {c : Code} {T : State} {locs : List Loc} {cells slots : Nat}
theorem vx_callV (X : Stand p l e R s m args below meth c T locs cells slots) (hexec : p.tables.exec = Jvm.exec) {own C : String} {index : Nat} {y : MethodName} {bytes : ByteArray} {maxL : Nat} {ret : Option FieldType}
    (hown : s.vm.findClass own = some m.cls) (hlink : (Cond.methodLink own index y).before args s = true) (hinst : (Cond.instanceMethod y).before args s = true) (hsel : (Cond.selects C y y).before args s = true)
    (hcode : (Cond.code y bytes maxL ret).before args s = true) (hy : y.cls ≠ "java/lang/invoke/MethodHandle" ∧ y.cls ≠ "java/lang/invoke/VarHandle")
    {W9 : Nat} {Pre : Pt → Array Value → Prop} {Post : Pt → Array Value → Option Value → Pt → Prop} {PostX : Pt → Array Value → Addr → Pt → Prop} (hK : vx_Back l R p e below s args y 3 W9 Pre Post PostX)
    {b : Addr} {cellB : Cell} (hcell : T.heap[b]? = some cellB) (hobj : cellB.vm.isStatics = false) (hcls : s.vm.findClass C = some cellB.cls)
    {g : JFrame} (hg : g.method = m) (hsize : g.locals.size = c.maxLocals) {argsL rest : List Value} (hlen : ∀ sig, parseMethodDescriptor y.desc = some sig → argsL.length = sig.parameters.length)
    (hstack : g.stack = argsL.reverse ++ .ref b :: rest) (hW : 2 * g.monitorRoom + (rest.map fun v => v.category).sum ≤ W9) (hdg : decode c.code g.pc = .ok (.invokevirtual index, 3))
    (hpre : ∀ vm₁, s.WarmedH vm₁ → Pre ⟨T.setVm vm₁, locs, cells, slots⟩ (Value.ref b :: argsL).toArray) :
    (∃ (v : Option Value) (vm₁ : Vm) (B : Pt), s.WarmedH vm₁ ∧ Stand p l e R s m args below meth c B.U B.locs B.cells B.slots ∧ Post ⟨T.setVm vm₁, locs, cells, slots⟩ (Value.ref b :: argsL).toArray v B ∧
      ∀ target, Steps p.tables e below (B.U.setTop { g with pc := g.pc + 3, stack := v.toList ++ rest }) target → Steps p.tables e below (T.setTop g) target) ∨
    (∃ (q : Addr) (vm₁ : Vm) (B : Pt), s.WarmedH vm₁ ∧ Stand p l e R s m args below meth c B.U B.locs B.cells B.slots ∧ PostX ⟨T.setVm vm₁, locs, cells, slots⟩ (Value.ref b :: argsL).toArray q B ∧
      Steps p.tables e below (T.setTop g) ((B.U.setTop { g with stack := rest }).pushFrame (.throwing q))) := by
  obtain ⟨mk, methM, hnamed, hmethM, hstM, habM⟩ := Cond.instanceMethod_spec hinst
  obtain ⟨methM', cM, hmethM', -, -, -, -, -, -, hsigM⟩ := Cond.code_spec hnamed hcode
  cases hmethM.symm.trans hmethM'
  obtain ⟨c2, r2, m2, q1, q2, q3, q4, kP, hkP, hkPi⟩ := Cond.selects_spec hsel
  cases hcls.symm.trans q1
  cases (State.methodFound?_of_named hnamed hy).symm.trans q2
  cases hnamed.symm.trans q3
  have hselP : selectMethod e.platform s.vm cellB.cls mk = .method mk := by rw [Launch.admits_selectMethod X.admits]; exact q4
  obtain ⟨vm₁, X₁, hstep₁⟩ := X.invokevirtual hexec hown hlink hnamed hmethM hstM hkP hkPi hy (a := b) (cell := cellB) hcell
    (fun z h => by rw [h] at hobj; cases hobj) hselP hmethM habM hkP hkPi (g := g) hg (argsL := argsL) (rest := rest) (hlen _ hsigM) hstack hdg
  rcases hK m meth c ⟨T.setVm vm₁, locs, cells, slots⟩ { g with stack := rest } (.invokevirtual index) mk (Value.ref b :: argsL).toArray X₁ hg hsize hdg hW (X₁.named hnamed) (hpre vm₁ X₁.warmed) with ⟨v, B, X', hpost, hsteps⟩ | ⟨q, B, X', hpost, hsteps⟩
  · exact Or.inl ⟨v, vm₁, B, X₁.warmed, X', hpost, fun target h => hstep₁ _ fun acts => by rw [doInvoke_state]; exact hsteps.trans h⟩
  · exact Or.inr ⟨q, vm₁, B, X₁.warmed, X', hpost, hstep₁ _ fun acts => by rw [doInvoke_state]; exact hsteps⟩
theorem vx_callS (X : Stand p l e R s m args below meth c T locs cells slots) (hexec : p.tables.exec = Jvm.exec) {own : String} {index : Nat} {y : MethodName} {bytes : ByteArray} {maxL : Nat} {ret : Option FieldType}
    (hown : s.vm.findClass own = some m.cls) (hlink : (Cond.methodLink own index y).before args s = true) (hstat : (Cond.static y).before args s = true) (hinit : (Cond.initialized y.cls).before args s = true)
    (hcode : (Cond.code y bytes maxL ret).before args s = true) (hy : y.cls ≠ "java/lang/invoke/MethodHandle" ∧ y.cls ≠ "java/lang/invoke/VarHandle")
    {W9 : Nat} {Pre : Pt → Array Value → Prop} {Post : Pt → Array Value → Option Value → Pt → Prop} {PostX : Pt → Array Value → Addr → Pt → Prop} (hK : vx_Back l R p e below s args y 3 W9 Pre Post PostX)
    {g : JFrame} (hg : g.method = m) (hsize : g.locals.size = c.maxLocals) {argsL rest : List Value} (hlen : ∀ sig, parseMethodDescriptor y.desc = some sig → argsL.length = sig.parameters.length)
    (hstack : g.stack = argsL.reverse ++ rest) (hW : 2 * g.monitorRoom + (rest.map fun v => v.category).sum ≤ W9) (hdg : decode c.code g.pc = .ok (.invokestatic index, 3))
    (hpre : ∀ vm₁, s.WarmedH vm₁ → Pre ⟨T.setVm vm₁, locs, cells, slots⟩ argsL.toArray) :
    (∃ (v : Option Value) (vm₁ : Vm) (B : Pt), s.WarmedH vm₁ ∧ Stand p l e R s m args below meth c B.U B.locs B.cells B.slots ∧ Post ⟨T.setVm vm₁, locs, cells, slots⟩ argsL.toArray v B ∧
      ∀ target, Steps p.tables e below (B.U.setTop { g with pc := g.pc + 3, stack := v.toList ++ rest }) target → Steps p.tables e below (T.setTop g) target) ∨
    (∃ (q : Addr) (vm₁ : Vm) (B : Pt), s.WarmedH vm₁ ∧ Stand p l e R s m args below meth c B.U B.locs B.cells B.slots ∧ PostX ⟨T.setVm vm₁, locs, cells, slots⟩ argsL.toArray q B ∧
      Steps p.tables e below (T.setTop g) ((B.U.setTop { g with stack := rest }).pushFrame (.throwing q))) := by
  obtain ⟨mk, hnamed⟩ := Cond.code_named hcode
  obtain ⟨methM, cM, hmethM, -, -, -, -, -, -, hsigM⟩ := Cond.code_spec hnamed hcode
  have hstatic : methM.isStatic = true := Cond.static_spec hnamed hmethM hstat
  obtain ⟨kP, hkP, -⟩ := className_of_methodNamed hnamed
  have hinitP : kP.init = .initialized := Cond.initialized_spec (findClass_of_methodNamed hnamed) hkP hinit
  obtain ⟨vm₁, X₁, hstep₁⟩ := X.invokestatic hexec hown hlink hnamed hmethM hstatic hkP hinitP hy (g := g) hg (argsL := argsL) (rest := rest) (hlen _ hsigM) hstack hdg
  rcases hK m meth c ⟨T.setVm vm₁, locs, cells, slots⟩ { g with stack := rest } (.invokestatic index) mk argsL.toArray X₁ hg hsize hdg hW (X₁.named hnamed) (hpre vm₁ X₁.warmed) with ⟨v, B, X', hpost, hsteps⟩ | ⟨q, B, X', hpost, hsteps⟩
  · exact Or.inl ⟨v, vm₁, B, X₁.warmed, X', hpost, fun target h => hstep₁ _ fun acts => by rw [doInvoke_state]; exact hsteps.trans h⟩
  · exact Or.inr ⟨q, vm₁, B, X₁.warmed, X', hpost, hstep₁ _ fun acts => by rw [doInvoke_state]; exact hsteps⟩
end Calls
theorem vx_cls {s : State} {T : State} {vm₁ : Vm} {E : String} {k : ClassId} (hW : s.WarmedH vm₁) (h : (T.setVm vm₁).vm.findClass E = some k) : s.vm.findClass E = some k := by
  have h1 : vm₁.findClass E = some k := h
  rw [hW.alike.findClass] at h1
  exact h1
/-- the method's frame g, with q thrown over it -/
def vx_W (p : Program) (l : Launch) (e : Env) (R : Room) (s : State) (m : MethodId) (args : Array Value) (below : List Frame) (meth : Method) (c : Code) (H : Heap) (locs : List Loc) (cells slots : Nat) (Q : State → Prop) (g : JFrame) (q : Addr) : Prop :=
  ∀ T : State, T.heap = H → Stand p l e R s m args below meth c T locs cells slots → ∃ t, Steps p.tables e below ((T.setTop g).pushFrame (.throwing q)) t ∧ Q t
def vx_Run (p : Program) (l : Launch) (e : Env) (R : Room) (s : State) (m : MethodId) (args : Array Value) (below : List Frame) (meth : Method) (c : Code) (H : Heap) (locs : List Loc) (cells slots mc ms : Nat) (g : JFrame) (rest : List Value) (Qa : State → Outcome → State → Prop) (XC : String → State → State → Prop) (free : Addr → Prop) : Prop :=
  ∀ T : State, T.heap = H → Stand p l e R s m args below meth c T locs cells slots →
    (∃ (v : Option Value) (st₀ t T' : State) (L : List Loc), st₀.heap = H ∧ Stand p l e R s m args below meth c T' (locs ++ L) (cells + mc) (slots + ms) ∧ (∀ q ∈ L, free q.base) ∧ T'.heap = t.heap ∧ T'.vm = t.vm ∧ Qa st₀ (.returned v) t ∧
      Goes p e below T g T' { g with pc := g.pc + 3, stack := v.toList ++ rest }) ∨
    (∃ (q : Addr) (st₀ t T' : State) (L : List Loc) (E : String) (ce : Cell), st₀.heap = H ∧ Stand p l e R s m args below meth c T' (locs ++ L) (cells + mc) (slots + ms) ∧ (∀ z ∈ L, free z.base) ∧ T'.heap = t.heap ∧ T'.vm = t.vm ∧ XC E st₀ t ∧ t.heap[q]? = some ce ∧ ce.vm = .none ∧ s.vm.findClass E = some ce.cls ∧
      Steps p.tables e below (T.setTop g) ((T'.setTop { g with stack := rest }).pushFrame (.throwing q)))
def vx_X {S : Type} (px : S → Prop) (B : String → S → State → Prop) (A : Nat → Prop) : String → State → State → Prop := fun E st t => ∃ u : S, px u ∧ B E u t ∧ va_F A st t
section Runs
variable {p : Program} {l : Launch} {e : Env} {R : Room} {s : State} {m : MethodId} {args : Array Value} {below : List Frame} {meth : Method} {c : Code} {H : Heap} {locs : List Loc} {cells slots : Nat}
variable {y : MethodName} {bytes cc : ByteArray} {maxL nL mc ms n index : Nat} {ret : Option FieldType} {ws : List Cond} {rm : Room} {Pc : Array Value → State → Prop} {Qc : Array Value → State → Outcome → State → Prop} {XC : String → State → State → Prop} {free : Addr → Prop} {Ts : List Cond} {own C : String} {b : Addr} {As rest : List Value} {g : JFrame}
theorem vx_callBack (cb : CallB R s args own index y bytes maxL ret ws rm mc ms n) (hM : vx_Met l y ws rm Pc Qc XC mc ms free) (hbl : FrameBlind Pc) : vx_Back l R p e below s args y 3 8 (PreOf R mc ms Pc) (PostOf Qc mc ms free) (vx_Post XC mc ms free) := by
  obtain ⟨hrc, hrs, hfr, hlo, hws, hcw, -, hini, -⟩ := cb
  exact vx_back (bytes := bytes) (maxL := maxL) (ret := ret) hM hbl hrc hrs hfr hlo hws hcw (fun a' U hW => word_at hW (Or.inl (by first | rfl | simp [Cond.onTables, Cond.keeps, Cond.steady])) hini)
theorem vx_runV (S : CallFix p m c cc nL s args Ts own) (hM : vx_Met l y ws rm Pc Qc XC mc ms free) (cw : CallW R s args own C index y bytes maxL ret ws rm mc ms n) (hp : PreV s H C b Pc As)
    (hg : g.method = m) (hn : As.length = n) (hsize : g.locals.size = nL) (hstack : g.stack = As.reverse ++ .ref b :: rest) (hW : 2 * g.monitorRoom + (rest.map fun v => v.category).sum ≤ 8) (hdg : decode cc g.pc = .ok (.invokevirtual index, 3)) (hf : cells + mc ≤ R.cells ∧ slots + ms ≤ R.slots) :
    vx_Run p l e R s m args below meth c H locs cells slots mc ms g rest (Qc (Value.ref b :: As).toArray) XC free := by
  have hK : vx_Back l R p e below s args y 3 8 (PreOf R mc ms Pc) (PostOf Qc mc ms free) (vx_Post XC mc ms free) := vx_callBack cw.1 hM hp.1
  obtain ⟨⟨-, -, -, -, -, -, hcode, -, hy, hlen, hl⟩, hin, hse⟩ := cw
  obtain ⟨hx, hb, hml, ho, -⟩ := S
  obtain ⟨-, ⟨cellB, hcB, hoB, hclB⟩, hPc⟩ := hp
  intro T hT X
  rcases vx_callV X hx (C := C) (bytes := bytes) (maxL := maxL) (ret := ret) ho hl hin hse hcode hy hK (by rw [hT]; exact hcB) hoB hclB hg (hsize.trans hml.symm) (argsL := As) (rest := rest) (fun sig h => hn.trans (hlen sig h)) hstack hW (by rw [hb]; exact hdg)
    (fun vm₁ hW₁ => ⟨hf.1, hf.2, hPc (T.setVm vm₁) hT hW₁⟩) with ⟨v, vm₁, ⟨U', l2, c2, s2⟩, hW₁, X', ⟨g', mk, t, L, e1, e2, hq, h1, hL, h2, h3⟩, st⟩ | ⟨q, vm₁, ⟨U', l2, c2, s2⟩, hW₁, X', ⟨g', mk, t, L, E, ce, e1, e2, hq, hce, hcv, hcl, h1, hL, h2, h3⟩, st⟩
  · dsimp only [Pt.U, Pt.locs, Pt.cells, Pt.slots] at X' e1 e2 h1 h2 h3 st
    subst h1; subst h2; subst h3
    exact Or.inl ⟨v, (T.setVm vm₁).calling g' mk (Value.ref b :: As).toArray, t, U', L, hT, X', hL, e1, e2, hq, st⟩
  · dsimp only [Pt.U, Pt.locs, Pt.cells, Pt.slots] at X' e1 e2 h1 h2 h3 st hcl
    subst h1; subst h2; subst h3
    exact Or.inr ⟨q, (T.setVm vm₁).calling g' mk (Value.ref b :: As).toArray, t, U', L, E, ce, hT, X', hL, e1, e2, hq, hce, hcv, vx_cls hW₁ hcl, st⟩
theorem vx_runS (S : CallFix p m c cc nL s args Ts own) (hM : vx_Met l y ws rm Pc Qc XC mc ms free) (cw : CallB R s args own index y bytes maxL ret ws rm mc ms n ∧ (Cond.static y).before args s = true) (hp : PreS s H Pc As)
    (hg : g.method = m) (hn : As.length = n) (hsize : g.locals.size = nL) (hstack : g.stack = As.reverse ++ rest) (hW : 2 * g.monitorRoom + (rest.map fun v => v.category).sum ≤ 8) (hdg : decode cc g.pc = .ok (.invokestatic index, 3)) (hf : cells + mc ≤ R.cells ∧ slots + ms ≤ R.slots) :
    vx_Run p l e R s m args below meth c H locs cells slots mc ms g rest (Qc As.toArray) XC free := by
  have hK : vx_Back l R p e below s args y 3 8 (PreOf R mc ms Pc) (PostOf Qc mc ms free) (vx_Post XC mc ms free) := vx_callBack cw.1 hM hp.1
  obtain ⟨⟨-, -, -, -, -, -, hcode, hini, hy, hlen, hl⟩, hstt⟩ := cw
  obtain ⟨hx, hb, hml, ho, -⟩ := S
  intro T hT X
  rcases vx_callS X hx (bytes := bytes) (maxL := maxL) (ret := ret) ho hl hstt hini hcode hy hK hg (hsize.trans hml.symm) (argsL := As) (rest := rest) (fun sig h => hn.trans (hlen sig h)) hstack hW (by rw [hb]; exact hdg)
    (fun vm₁ hW₁ => ⟨hf.1, hf.2, hp.2 (T.setVm vm₁) hT hW₁⟩) with ⟨v, vm₁, ⟨U', l2, c2, s2⟩, hW₁, X', ⟨g', mk, t, L, e1, e2, hq, h1, hL, h2, h3⟩, st⟩ | ⟨q, vm₁, ⟨U', l2, c2, s2⟩, hW₁, X', ⟨g', mk, t, L, E, ce, e1, e2, hq, hce, hcv, hcl, h1, hL, h2, h3⟩, st⟩
  · dsimp only [Pt.U, Pt.locs, Pt.cells, Pt.slots] at X' e1 e2 h1 h2 h3 st
    subst h1; subst h2; subst h3
    exact Or.inl ⟨v, (T.setVm vm₁).calling g' mk As.toArray, t, U', L, hT, X', hL, e1, e2, hq, st⟩
  · dsimp only [Pt.U, Pt.locs, Pt.cells, Pt.slots] at X' e1 e2 h1 h2 h3 st hcl
    subst h1; subst h2; subst h3
    exact Or.inr ⟨q, (T.setVm vm₁).calling g' mk As.toArray, t, U', L, E, ce, hT, X', hL, e1, e2, hq, hce, hcv, vx_cls hW₁ hcl, st⟩
end Runs
section Rows
variable {p : Program} {l : Launch} {e : Env} {R : Room} {s : State} {m : MethodId} {args : Array Value} {below : List Frame} {meth : Method} {c : Code} {H : Heap} {locs : List Loc} {cells slots : Nat} {Q : State → Prop}
variable {mc ms : Nat} {free : Addr → Prop} {A0 A1 : Nat → Prop} {H0 : Heap} {a : Array Value} {pc : Nat} {ls : Array Slot} {st0 rest : List Value}
theorem vx_keep {st₀ t T' : State} {L : List Loc} (h0 : st₀.heap = H) (e1 : T'.heap = t.heap) (hS : va_S A0 H0 H locs) (hA : ∀ q, q < H.size → A1 q → A0 q) (hf : ∀ q, free q → A0 q) (hL : ∀ q ∈ L, free q.base) (hF : va_F A1 st₀ t) :
    H.size ≤ T'.heap.size ∧ (∀ q : Nat, q < H.size → ¬ A1 q → T'.heap[q]? = H[q]?) ∧ va_S A0 H0 T'.heap (locs ++ L) := by
  obtain ⟨hz, hk⟩ := hF
  rw [h0] at hz hk
  exact ⟨by rw [e1]; exact hz, fun q h1 h2 => by rw [e1]; exact hk q h1 h2,
    ⟨Nat.le_trans hS.1 (by rw [e1]; exact hz), fun q h1 h2 => by rw [e1, hk q (Nat.lt_of_lt_of_le h1 hS.1) (fun z => h2 (hA q (Nat.lt_of_lt_of_le h1 hS.1) z))]; exact hS.2.1 q h1 h2, fun q hq => by
      rcases List.mem_append.mp hq with h | h
      · exact hS.2.2 q h
      · exact hf _ (hL q h)⟩⟩
theorem vx_calli {S SX : Type} {post : Int32 → S → Prop} {px : SX → Prop} {B : S → State → Prop} {BX : String → SX → State → Prop} {AX : Nat → Prop} (hr : vx_Run p l e R s m args below meth c H locs cells slots mc ms (F0 m pc ls st0) rest (va_Qi post B A1 a) (vx_X px BX AX) free) (hS : va_S A0 H0 H locs) (hA : ∀ q, q < H.size → A1 q → A0 q) (hf : ∀ q, free q → A0 q) (hAX : ∀ q, q < H.size → AX q → A0 q)
    (kx : ∀ (E : String) (ce : Cell) (q9 : Addr) (u : SX) (t : State) (H1 : Heap) (locs1 : List Loc), t.heap = H1 → s.vm.Alike t.vm → px u → BX E u t → H.size ≤ H1.size → (∀ q : Nat, q < H.size → ¬ AX q → H1[q]? = H[q]?) → va_S A0 H0 H1 locs1 → H1[q9]? = some ce → ce.vm = .none → s.vm.findClass E = some ce.cls → vx_W p l e R s m args below meth c H1 locs1 (cells + mc) (slots + ms) Q (F0 m pc ls rest) q9)
    (kk : ∀ (r : Int32) (u : S) (t : State) (H1 : Heap) (locs1 : List Loc), t.heap = H1 → s.vm.Alike t.vm → post r u → B u t → H.size ≤ H1.size → (∀ q : Nat, q < H.size → ¬ A1 q → H1[q]? = H[q]?) → va_S A0 H0 H1 locs1 → W p l e R s m args below meth c H1 locs1 (cells + mc) (slots + ms) Q (F0 m (pc + 3) ls (.int r :: rest))) : W p l e R s m args below meth c H locs cells slots Q (F0 m pc ls st0) := by
  intro T hT X
  rcases hr T hT X with ⟨v, st₀, t, T', L, h0, X', hL, e1, e2, ⟨⟨r, u, hv, hp, hb⟩, hF⟩, st⟩ | ⟨q, st₀, t, T', L, E, ce, h0, X', hL, e1, e2, ⟨u, hp, hb, hF⟩, hce, hcv, hcl, st⟩
  · cases hv
    obtain ⟨k1, k2, k3⟩ := vx_keep h0 e1 hS hA hf hL hF
    obtain ⟨t2, a1, b1⟩ := kk r u t T'.heap (locs ++ L) e1.symm (by rw [← e2]; exact X'.warmed.alike) hp hb k1 k2 k3 T' rfl X'
    exact ⟨t2, st t2 a1, b1⟩
  · obtain ⟨k1, k2, k3⟩ := vx_keep h0 e1 hS hAX hf hL hF
    obtain ⟨t2, a1, b1⟩ := kx E ce q u t T'.heap (locs ++ L) e1.symm (by rw [← e2]; exact X'.warmed.alike) hp hb k1 k2 k3 (by rw [e1]; exact hce) hcv hcl T' rfl X'
    exact ⟨t2, st.trans a1, b1⟩
theorem vx_calll {S SX : Type} {post : Int64 → S → Prop} {px : SX → Prop} {B : S → State → Prop} {BX : String → SX → State → Prop} {AX : Nat → Prop} (hr : vx_Run p l e R s m args below meth c H locs cells slots mc ms (F0 m pc ls st0) rest (va_Ql post B A1 a) (vx_X px BX AX) free) (hS : va_S A0 H0 H locs) (hA : ∀ q, q < H.size → A1 q → A0 q) (hf : ∀ q, free q → A0 q) (hAX : ∀ q, q < H.size → AX q → A0 q)
    (kx : ∀ (E : String) (ce : Cell) (q9 : Addr) (u : SX) (t : State) (H1 : Heap) (locs1 : List Loc), t.heap = H1 → s.vm.Alike t.vm → px u → BX E u t → H.size ≤ H1.size → (∀ q : Nat, q < H.size → ¬ AX q → H1[q]? = H[q]?) → va_S A0 H0 H1 locs1 → H1[q9]? = some ce → ce.vm = .none → s.vm.findClass E = some ce.cls → vx_W p l e R s m args below meth c H1 locs1 (cells + mc) (slots + ms) Q (F0 m pc ls rest) q9)
    (kk : ∀ (r : Int64) (u : S) (t : State) (H1 : Heap) (locs1 : List Loc), t.heap = H1 → s.vm.Alike t.vm → post r u → B u t → H.size ≤ H1.size → (∀ q : Nat, q < H.size → ¬ A1 q → H1[q]? = H[q]?) → va_S A0 H0 H1 locs1 → W p l e R s m args below meth c H1 locs1 (cells + mc) (slots + ms) Q (F0 m (pc + 3) ls (.long r :: rest))) : W p l e R s m args below meth c H locs cells slots Q (F0 m pc ls st0) := by
  intro T hT X
  rcases hr T hT X with ⟨v, st₀, t, T', L, h0, X', hL, e1, e2, ⟨⟨r, u, hv, hp, hb⟩, hF⟩, st⟩ | ⟨q, st₀, t, T', L, E, ce, h0, X', hL, e1, e2, ⟨u, hp, hb, hF⟩, hce, hcv, hcl, st⟩
  · cases hv
    obtain ⟨k1, k2, k3⟩ := vx_keep h0 e1 hS hA hf hL hF
    obtain ⟨t2, a1, b1⟩ := kk r u t T'.heap (locs ++ L) e1.symm (by rw [← e2]; exact X'.warmed.alike) hp hb k1 k2 k3 T' rfl X'
    exact ⟨t2, st t2 a1, b1⟩
  · obtain ⟨k1, k2, k3⟩ := vx_keep h0 e1 hS hAX hf hL hF
    obtain ⟨t2, a1, b1⟩ := kx E ce q u t T'.heap (locs ++ L) e1.symm (by rw [← e2]; exact X'.warmed.alike) hp hb k1 k2 k3 (by rw [e1]; exact hce) hcv hcl T' rfl X'
    exact ⟨t2, st.trans a1, b1⟩
theorem vx_callf {S SX : Type} {post : UInt32 → S → Prop} {px : SX → Prop} {B : S → State → Prop} {BX : String → SX → State → Prop} {AX : Nat → Prop} (hr : vx_Run p l e R s m args below meth c H locs cells slots mc ms (F0 m pc ls st0) rest (va_Qf post B A1 a) (vx_X px BX AX) free) (hS : va_S A0 H0 H locs) (hA : ∀ q, q < H.size → A1 q → A0 q) (hf : ∀ q, free q → A0 q) (hAX : ∀ q, q < H.size → AX q → A0 q)
    (kx : ∀ (E : String) (ce : Cell) (q9 : Addr) (u : SX) (t : State) (H1 : Heap) (locs1 : List Loc), t.heap = H1 → s.vm.Alike t.vm → px u → BX E u t → H.size ≤ H1.size → (∀ q : Nat, q < H.size → ¬ AX q → H1[q]? = H[q]?) → va_S A0 H0 H1 locs1 → H1[q9]? = some ce → ce.vm = .none → s.vm.findClass E = some ce.cls → vx_W p l e R s m args below meth c H1 locs1 (cells + mc) (slots + ms) Q (F0 m pc ls rest) q9)
    (kk : ∀ (r : UInt32) (u : S) (t : State) (H1 : Heap) (locs1 : List Loc), t.heap = H1 → s.vm.Alike t.vm → post r u → B u t → H.size ≤ H1.size → (∀ q : Nat, q < H.size → ¬ A1 q → H1[q]? = H[q]?) → va_S A0 H0 H1 locs1 → W p l e R s m args below meth c H1 locs1 (cells + mc) (slots + ms) Q (F0 m (pc + 3) ls (.float r :: rest))) : W p l e R s m args below meth c H locs cells slots Q (F0 m pc ls st0) := by
  intro T hT X
  rcases hr T hT X with ⟨v, st₀, t, T', L, h0, X', hL, e1, e2, ⟨⟨r, u, hv, hp, hb⟩, hF⟩, st⟩ | ⟨q, st₀, t, T', L, E, ce, h0, X', hL, e1, e2, ⟨u, hp, hb, hF⟩, hce, hcv, hcl, st⟩
  · cases hv
    obtain ⟨k1, k2, k3⟩ := vx_keep h0 e1 hS hA hf hL hF
    obtain ⟨t2, a1, b1⟩ := kk r u t T'.heap (locs ++ L) e1.symm (by rw [← e2]; exact X'.warmed.alike) hp hb k1 k2 k3 T' rfl X'
    exact ⟨t2, st t2 a1, b1⟩
  · obtain ⟨k1, k2, k3⟩ := vx_keep h0 e1 hS hAX hf hL hF
    obtain ⟨t2, a1, b1⟩ := kx E ce q u t T'.heap (locs ++ L) e1.symm (by rw [← e2]; exact X'.warmed.alike) hp hb k1 k2 k3 (by rw [e1]; exact hce) hcv hcl T' rfl X'
    exact ⟨t2, st.trans a1, b1⟩
theorem vx_calld {S SX : Type} {post : UInt64 → S → Prop} {px : SX → Prop} {B : S → State → Prop} {BX : String → SX → State → Prop} {AX : Nat → Prop} (hr : vx_Run p l e R s m args below meth c H locs cells slots mc ms (F0 m pc ls st0) rest (va_Qd post B A1 a) (vx_X px BX AX) free) (hS : va_S A0 H0 H locs) (hA : ∀ q, q < H.size → A1 q → A0 q) (hf : ∀ q, free q → A0 q) (hAX : ∀ q, q < H.size → AX q → A0 q)
    (kx : ∀ (E : String) (ce : Cell) (q9 : Addr) (u : SX) (t : State) (H1 : Heap) (locs1 : List Loc), t.heap = H1 → s.vm.Alike t.vm → px u → BX E u t → H.size ≤ H1.size → (∀ q : Nat, q < H.size → ¬ AX q → H1[q]? = H[q]?) → va_S A0 H0 H1 locs1 → H1[q9]? = some ce → ce.vm = .none → s.vm.findClass E = some ce.cls → vx_W p l e R s m args below meth c H1 locs1 (cells + mc) (slots + ms) Q (F0 m pc ls rest) q9)
    (kk : ∀ (r : UInt64) (u : S) (t : State) (H1 : Heap) (locs1 : List Loc), t.heap = H1 → s.vm.Alike t.vm → post r u → B u t → H.size ≤ H1.size → (∀ q : Nat, q < H.size → ¬ A1 q → H1[q]? = H[q]?) → va_S A0 H0 H1 locs1 → W p l e R s m args below meth c H1 locs1 (cells + mc) (slots + ms) Q (F0 m (pc + 3) ls (.double r :: rest))) : W p l e R s m args below meth c H locs cells slots Q (F0 m pc ls st0) := by
  intro T hT X
  rcases hr T hT X with ⟨v, st₀, t, T', L, h0, X', hL, e1, e2, ⟨⟨r, u, hv, hp, hb⟩, hF⟩, st⟩ | ⟨q, st₀, t, T', L, E, ce, h0, X', hL, e1, e2, ⟨u, hp, hb, hF⟩, hce, hcv, hcl, st⟩
  · cases hv
    obtain ⟨k1, k2, k3⟩ := vx_keep h0 e1 hS hA hf hL hF
    obtain ⟨t2, a1, b1⟩ := kk r u t T'.heap (locs ++ L) e1.symm (by rw [← e2]; exact X'.warmed.alike) hp hb k1 k2 k3 T' rfl X'
    exact ⟨t2, st t2 a1, b1⟩
  · obtain ⟨k1, k2, k3⟩ := vx_keep h0 e1 hS hAX hf hL hF
    obtain ⟨t2, a1, b1⟩ := kx E ce q u t T'.heap (locs ++ L) e1.symm (by rw [← e2]; exact X'.warmed.alike) hp hb k1 k2 k3 (by rw [e1]; exact hce) hcv hcl T' rfl X'
    exact ⟨t2, st.trans a1, b1⟩
theorem vx_callv {S SX : Type} {post : S → Prop} {px : SX → Prop} {B : S → State → Prop} {BX : String → SX → State → Prop} {AX : Nat → Prop} (hr : vx_Run p l e R s m args below meth c H locs cells slots mc ms (F0 m pc ls st0) rest (va_Qv post B A1 a) (vx_X px BX AX) free) (hS : va_S A0 H0 H locs) (hA : ∀ q, q < H.size → A1 q → A0 q) (hf : ∀ q, free q → A0 q) (hAX : ∀ q, q < H.size → AX q → A0 q)
    (kx : ∀ (E : String) (ce : Cell) (q9 : Addr) (u : SX) (t : State) (H1 : Heap) (locs1 : List Loc), t.heap = H1 → s.vm.Alike t.vm → px u → BX E u t → H.size ≤ H1.size → (∀ q : Nat, q < H.size → ¬ AX q → H1[q]? = H[q]?) → va_S A0 H0 H1 locs1 → H1[q9]? = some ce → ce.vm = .none → s.vm.findClass E = some ce.cls → vx_W p l e R s m args below meth c H1 locs1 (cells + mc) (slots + ms) Q (F0 m pc ls rest) q9)
    (kk : ∀ (u : S) (t : State) (H1 : Heap) (locs1 : List Loc), t.heap = H1 → s.vm.Alike t.vm → post u → B u t → H.size ≤ H1.size → (∀ q : Nat, q < H.size → ¬ A1 q → H1[q]? = H[q]?) → va_S A0 H0 H1 locs1 → W p l e R s m args below meth c H1 locs1 (cells + mc) (slots + ms) Q (F0 m (pc + 3) ls (rest))) : W p l e R s m args below meth c H locs cells slots Q (F0 m pc ls st0) := by
  intro T hT X
  rcases hr T hT X with ⟨v, st₀, t, T', L, h0, X', hL, e1, e2, ⟨⟨u, hv, hp, hb⟩, hF⟩, st⟩ | ⟨q, st₀, t, T', L, E, ce, h0, X', hL, e1, e2, ⟨u, hp, hb, hF⟩, hce, hcv, hcl, st⟩
  · cases hv
    obtain ⟨k1, k2, k3⟩ := vx_keep h0 e1 hS hA hf hL hF
    obtain ⟨t2, a1, b1⟩ := kk u t T'.heap (locs ++ L) e1.symm (by rw [← e2]; exact X'.warmed.alike) hp hb k1 k2 k3 T' rfl X'
    exact ⟨t2, st t2 a1, b1⟩
  · obtain ⟨k1, k2, k3⟩ := vx_keep h0 e1 hS hAX hf hL hF
    obtain ⟨t2, a1, b1⟩ := kx E ce q u t T'.heap (locs ++ L) e1.symm (by rw [← e2]; exact X'.warmed.alike) hp hb k1 k2 k3 (by rw [e1]; exact hce) hcv hcl T' rfl X'
    exact ⟨t2, st.trans a1, b1⟩
/-- caught by the row x of this method's table; the rows ahead don't take it -/
theorem vx_catch {own name : String} {E : String} {ce : Cell} {q : Addr} (hown : s.vm.findClass own = some m.cls) (pre : List ExceptionTableEntry) (x : ExceptionTableEntry) (suf : List ExceptionTableEntry) (hsplit : c.exceptionTable.toList = pre ++ x :: suf)
    (hpass : ∀ z ∈ pre, covers z pc = false ∨ (z.catchType ≠ 0 ∧ ∃ nm : String, (Cond.classLink own z.catchType nm).before args s = true ∧ va_Nc E nm s)) (hx : covers x pc = true) (h0 : x.catchType ≠ 0)
    (hlink : (Cond.classLink own x.catchType name).before args s = true) (hcast : (Cond.castable E name).before args s = true) (hcell : H[q]? = some ce) (hv : ce.vm = .none) (hcl : s.vm.findClass E = some ce.cls)
    (kk : W p l e R s m args below meth c H locs cells slots Q (F0 m x.handlerPc ls [.ref q])) : vx_W p l e R s m args below meth c H locs cells slots Q (F0 m pc ls rest) q := by
  intro T hT X
  have hpl : e.platform.magicAccessors = ({} : Platform).magicAccessors := by rw [X.admits.platform]
  obtain ⟨c3, c4, hc3, hc4, hasg⟩ := Cond.castable_spec hcast
  cases Option.some.inj (hc3.symm.trans hcl)
  obtain ⟨c5, hc5, hcl5⟩ := Cond.classLink_spec hown hlink e.platform hpl
  cases Option.some.inj (hc4.symm.trans hc5)
  obtain ⟨vm', X', st⟩ := X.thenCaughtThrough q (g := F0 m pc ls rest) rfl (Steps.refl _) (by rw [hT]; exact hcell) (by rw [hv]; rfl) (by obtain ⟨k9, h9, -⟩ := Vm.findClass_spec hcl; exact ⟨k9, h9⟩) pre x suf hsplit
    (fun z hz => by
      rcases hpass z hz with h | ⟨hz0, nm, hl1, hn1⟩
      · exact Or.inl h
      · obtain ⟨c6, hc6, hcl6⟩ := Cond.classLink_spec hown hl1 e.platform hpl
        obtain ⟨a8, b8, h1, h2, h3⟩ := hn1
        cases Option.some.inj (h1.symm.trans hcl)
        cases Option.some.inj (h2.symm.trans hc6)
        exact Or.inr ⟨hz0, _, hcl6, h3⟩) hx (Or.inr ⟨h0, c4, hcl5, hasg⟩)
  obtain ⟨t, a1, b1⟩ := kk (T.setVm vm') hT X'
  exact ⟨t, st.trans a1, b1⟩
end Rows
section Ends
variable {p : Program} {l : Launch} {e : Env} {R : Room} {s : State} {m : MethodId} {args : Array Value} {below : List Frame} {meth : Method} {c : Code} {H : Heap} {locs : List Loc} {cells slots : Nat} {Q : State → Prop}
variable {mc ms : Nat} {free : Addr → Prop} {A0 A1 : Nat → Prop} {H0 : Heap} {a : Array Value} {ls : Array Slot} {st0 rest : List Value}
variable {Qc : Array Value → State → Outcome → State → Prop} {XC : String → State → State → Prop}
/-- what a body that may throw owes at its end -/
def vx_MQ (below : List Frame) (Qc : Array Value → State → Outcome → State → Prop) (XC : String → State → State → Prop) (a : Array Value) (s : State) (mc ms : Nat) (free : Addr → Prop) : State → Prop := fun t =>
  ∃ o, t.status = .running ∧ Ended t below o ∧ vx_Q Qc XC mc ms free a s o t
theorem vx_ret {g : JFrame} {mc ms : Nat} (k : W p l e R s m args below meth c H locs cells slots (MQ below Qc args s mc ms free) g) : W p l e R s m args below meth c H locs cells slots (vx_MQ below Qc XC args s mc ms free) g := by
  intro T hT X
  obtain ⟨t, a1, o, b1, b2, b3, b4⟩ := k T hT X
  exact ⟨t, a1, o, b1, b2, Or.inl ⟨b3, b4⟩⟩
/-- not caught here: it goes on to the caller -/
theorem vx_widen {g : JFrame} {q : Addr} {k n : Nat} (h1 : cells ≤ k) (h2 : slots ≤ n) (kk : vx_W p l e R s m args below meth c H locs k n Q g q) : vx_W p l e R s m args below meth c H locs cells slots Q g q := fun T hT X => kk T hT (stand_widen X h1 h2)
theorem vx_out {pc : Nat} {E : String} {ce : Cell} {q : Addr} {mc ms : Nat} (hout : ∀ x ∈ c.exceptionTable.toList, covers x pc = false) (hlocks : meth.locks = false) (hcell : H[q]? = some ce) (hv : ce.vm = .none) (hcl : s.vm.findClass E = some ce.cls)
    (hx : ∀ t : State, t.heap = H → s.vm.Alike t.vm → XC E s t) (hf : ∀ z ∈ locs, free z.base) (hc : cells ≤ mc) (hs : slots ≤ ms) :
    vx_W p l e R s m args below meth c H locs cells slots (vx_MQ below Qc XC args s mc ms free) (F0 m pc ls rest) q := by
  intro T hT X
  obtain ⟨st1, hrun, hend, hW, hsm⟩ := X.leaveThrown q (g := F0 m pc ls rest) rfl rfl rfl hout hlocks
  have hcell9 : (T.setFrames (.throwing q :: below)).heap[q]? = some ce := by
    show T.heap[q]? = some ce
    rw [hT]; exact hcell
  exact ⟨_, st1, .threw q, hrun, hend, Or.inr ⟨q, rfl, E, ce, locs, hx _ hT hW.alike, hcell9, hv, hcl, hW, hsm.mono hc hs, hf⟩⟩
theorem vx_frame {U : State} {k n : Nat} (h : s.sameButNew ({ U with vm := s.vm } : State) locs k n) : s.heap.size ≤ U.heap.size ∧ ∀ q : Nat, q < s.heap.size → (∀ z ∈ locs, z.base ≠ q) → U.heap[q]? = s.heap[q]? := by
  obtain ⟨-, h2, -, -, -, h6⟩ := h
  refine ⟨h2, fun q hq hz => ?_⟩
  obtain ⟨c9, e1, e2, e3, e4⟩ := h6 q _ (Array.getElem?_eq_getElem hq)
  have hs : c9.slots = (s.heap[q]).slots := Array.ext_getElem? fun i => e4 i fun hm => hz _ hm rfl
  have h9 : c9 = s.heap[q] := by
    rw [hs] at e2
    exact e2
  have e5 : U.heap[q]? = some c9 := e1
  rw [e5, h9, Array.getElem?_eq_getElem hq]
/-- the words of a throw but the four that speak of the heap -/
def vx_no (w : Cond) : Bool := decide (w ≠ .isRef (.static Bundle.tN "UNASSIGNED_STACK" Bundle.steD)) && decide (w ≠ .isRef (.static Bundle.tN "SUPPRESSED_SENTINEL" Bundle.listD)) && decide (w ≠ .laysStatic Bundle.tN "UNASSIGNED_STACK" Bundle.steD) && decide (w ≠ .laysStatic Bundle.tN "SUPPRESSED_SENTINEL" Bundle.listD)
def vx_at0 (own : String) (ic : Nat) (X : String) (names : List String) : List Cond := (Bundle.ownAtoms0 own ic X names).filter vx_no
def vx_atS (own : String) (ic : Nat) (X : String) (names : List String) : List Cond := (Bundle.ownAtoms own ic X names).filter vx_no
/-- a word that the tables alone decide, or a good one -/
def vx_ot (w : Cond) : Bool := w.onTables || goodWord w
theorem vx_ot_at {args a' : Array Value} {s U : State} {w : Cond} (hW : s.WarmedH U.vm) (hvm : s.vm = U.vm) (hg : vx_ot w = true) (h : w.before args s = true) : w.before a' U = true := by
  simp only [vx_ot, Bool.or_eq_true] at hg
  rcases hg with hg | hg
  · exact va_tabs hg hvm h
  · exact word_at hW (good_of_word hg) h
/-- a list's words: the good ones out of the method's own list, the others by premises of their own -/
theorem vx_hat {args : Array Value} {s : State} {L B : List Cond} (h1 : ∀ w ∈ L.filter goodWord, w.before args s = true) (h2 : ∀ w ∈ L.filter (fun w => !goodWord w), w ∈ B) (h3 : ∀ w ∈ B, w.before args s = true) : ∀ w ∈ L, w.before args s = true := by
  intro w hw
  by_cases g : goodWord w = true
  · exact h1 w (List.mem_filter.mpr ⟨hw, g⟩)
  · refine h3 w (h2 w (List.mem_filter.mpr ⟨hw, ?_⟩))
    show (!goodWord w) = true
    cases hgw : goodWord w
    · rfl
    · exact absurd hgw g
theorem vx_c {args : Array Value} {s : State} {w : Cond} {B : List Cond} (h : w.before args s = true) (t : ∀ w ∈ B, w.before args s = true) : ∀ w' ∈ w :: B, w'.before args s = true := fun w' h' => (List.mem_cons.mp h').elim (fun e => by rw [e]; exact h) (t w')
theorem vx_n {args : Array Value} {s : State} : ∀ w ∈ ([] : List Cond), w.before args s = true := fun _ h => nomatch h
theorem vx_own {args : Array Value} {s : State} {L : List Cond} (h1 : ∀ w ∈ L.filter vx_no, w.before args s = true)
    (hU : (Cond.isRef (.static Bundle.tN "UNASSIGNED_STACK" Bundle.steD)).before args s = true) (hN : (Cond.isRef (.static Bundle.tN "SUPPRESSED_SENTINEL" Bundle.listD)).before args s = true)
    (lU : (Cond.laysStatic Bundle.tN "UNASSIGNED_STACK" Bundle.steD).before args s = true) (lN : (Cond.laysStatic Bundle.tN "SUPPRESSED_SENTINEL" Bundle.listD).before args s = true) : ∀ w ∈ L, w.before args s = true := by
  intro w hw
  by_cases e1 : w = .isRef (.static Bundle.tN "UNASSIGNED_STACK" Bundle.steD)
  · rw [e1]; exact hU
  · by_cases e2 : w = .isRef (.static Bundle.tN "SUPPRESSED_SENTINEL" Bundle.listD)
    · rw [e2]; exact hN
    · by_cases e3 : w = .laysStatic Bundle.tN "UNASSIGNED_STACK" Bundle.steD
      · rw [e3]; exact lU
      · by_cases e4 : w = .laysStatic Bundle.tN "SUPPRESSED_SENTINEL" Bundle.listD
        · rw [e4]; exact lN
        · exact h1 w (List.mem_filter.mpr ⟨hw, by unfold vx_no; rw [decide_eq_true e1, decide_eq_true e2, decide_eq_true e3, decide_eq_true e4]; rfl⟩)
/-- where a static field lies, its class's statics cell in H -/
def vx_L (C n d : String) (A : Nat → Prop) (U : State) (H : Heap) : Prop := ∃ (c : ClassId) (k : Class) (i : Nat) (f : Field) (a : Nat) (cell : Cell), U.vm.findClass C = some c ∧ U.fieldFound? C n d = some (c, k, i, f) ∧ f.isStatic = true ∧ k.statics = some a ∧ H[a]? = some cell ∧ cell.vm.isStatics = true ∧ cell.cls = c ∧ f.slot < cell.slots.size ∧ k.staticTypes[f.slot]? = some f.type ∧ ¬ A a
theorem vx_L.moved {C n d : String} {A : Nat → Prop} {u U : State} {H : Heap} (hvm : u.vm.Alike U.vm) (h : vx_L C n d A u H) : vx_L C n d A U H := by
  obtain ⟨c, k, i, f, a, cell, h1, h2, h3, h4, h5, h6, h7, h8, h9, h10⟩ := h
  obtain ⟨k', hi', he⟩ := State.fieldFound?_setVm hvm h2
  exact ⟨c, k', i, f, a, cell, by rw [hvm.findClass]; exact h1, hi', h3, by rw [he]; exact h4, h5, h6, h7, h8, by rw [he]; exact h9, h10⟩
theorem vx_L.kept {C n d : String} {A : Nat → Prop} {U : State} {H H1 : Heap} (h : vx_L C n d A U H) (hq : ∀ a : Nat, a < H.size → ¬ A a → H1[a]? = H[a]?) : vx_L C n d A U H1 := by
  obtain ⟨c, k, i, f, a, cell, h1, h2, h3, h4, h5, h6, h7, h8, h9, h10⟩ := h
  exact ⟨c, k, i, f, a, cell, h1, h2, h3, h4, by rw [hq a (Array.getElem?_eq_some_iff.mp h5).1 h10]; exact h5, h6, h7, h8, h9, h10⟩
theorem vx_L.narrow {C n d : String} {A B : Nat → Prop} {U : State} {H : Heap} (h : vx_L C n d A U H) (hAB : ∀ q, B q → A q) : vx_L C n d B U H := by
  obtain ⟨c, k, i, f, a, cell, h1, h2, h3, h4, h5, h6, h7, h8, h9, h10⟩ := h
  exact ⟨c, k, i, f, a, cell, h1, h2, h3, h4, h5, h6, h7, h8, h9, fun z => h10 (hAB _ z)⟩
theorem vx_L.word {C n d : String} {A : Nat → Prop} {s : State} {args : Array Value} (h : vx_L C n d A s s.heap) : (Cond.laysStatic C n d).before args s = true := by
  obtain ⟨c, k, i, f, a, cell, h1, h2, h3, h4, h5, h6, h7, h8, h9, -⟩ := h
  show (Cond.laysStatic C n d).holds args s none s [] = true
  exact Cond.laysStatic_of h1 h2 h3 h4 h5 h6 h7 h8 h9
/-- .. and what it holds: null or some reference -/
def vx_Zq (C n d : String) (A : Nat → Prop) (U : State) (H : Heap) : Prop := va_Zq C n d A U H ∧ vx_L C n d A U H
theorem vx_Zq.moved {C n d : String} {A : Nat → Prop} {u U : State} {H : Heap} (hvm : u.vm.Alike U.vm) (h : vx_Zq C n d A u H) : vx_Zq C n d A U H := ⟨va_Zq.moved hvm h.1, vx_L.moved hvm h.2⟩
theorem vx_Zq.kept {C n d : String} {A : Nat → Prop} {U : State} {H H1 : Heap} (h : vx_Zq C n d A U H) (hq : ∀ a : Nat, a < H.size → ¬ A a → H1[a]? = H[a]?) : vx_Zq C n d A U H1 := ⟨va_Zq.kept h.1 hq, vx_L.kept h.2 hq⟩
theorem vx_Zq.narrow {C n d : String} {A B : Nat → Prop} {U : State} {H : Heap} (h : vx_Zq C n d A U H) (hAB : ∀ q, B q → A q) : vx_Zq C n d B U H := ⟨va_Zq.narrow h.1 hAB, vx_L.narrow h.2 hAB⟩
theorem vx_Zqof {args : Array Value} {s : State} {C n d : String} {A : Nat → Prop} (hl : (Cond.laysStatic C n d).before args s = true) (hini : (Cond.initialized C).before args s = true) (h : (Cond.isRef (.static C n d)).before args s = true) (hA : ∀ a : Nat, a < s.heap.size → ¬ A a) : vx_Zq C n d A s s.heap := by
  refine ⟨va_Zqof hl hini h hA, ?_⟩
  obtain ⟨c, k, i, f, a, cell, h1, h2, h3, h4, h5, h6, h7, h8, h9⟩ := Cond.laysStatic_spec hl
  exact ⟨c, k, i, f, a, cell, h1, h2, h3, h4, h5, h6, h7, h8, h9, hA a (Array.getElem?_eq_some_iff.mp h5).1⟩
theorem vx_isRef {C n d : String} {v : Value} {A : Nat → Prop} {s : State} {args : Array Value} (h : va_Z C n d v A s s.heap) (hv : v.isRef = true) : (Cond.isRef (.static C n d)).before args s = true := by
  obtain ⟨cf, kf, fi, f, a, cell, h1, h2, h3, h4, h5, h6, h7, -⟩ := h
  have he : (Term.static C n d).eval args s none [] s = some v := by
    simp [Term.eval, State.fieldNamed?, h1, h2, h4, h5, h6, h7]
  simp only [Cond.before, Cond.holds, Cond.value, he]
  cases v <;> simp_all [Value.isRef]
theorem vx_isRefq {C n d : String} {A : Nat → Prop} {s : State} {args : Array Value} (h : va_Zq C n d A s s.heap) : (Cond.isRef (.static C n d)).before args s = true := by
  rcases h with h | ⟨t, h⟩
  · exact vx_isRef h rfl
  · exact vx_isRef h rfl
/-- the same frame, seen from here: as if the method were called anew in this heap -/
theorem vx_rebase {T : State} (X : Stand p l e R s m args below meth c T locs cells slots) {R' : Room} (hf : R'.frames ≤ R.frames) (hl : R'.locals ≤ R.locals) (hc : cells + R'.cells ≤ R.cells) (hs : slots + R'.slots ≤ R.slots) :
    Stand p l e R' ((T.setVm s.vm).setFrames (.invoking m args :: below)) m args below meth c T [] 0 0 := by
  have htop : (T.setVm s.vm).topJava?.isSome := X.here.top
  have hF : ((T.setVm s.vm).setFrames (.invoking m args :: below)).frames = .invoking m args :: below := State.frames_setFrames _ (State.cur_lt_of_top htop)
  obtain ⟨g₀, hg0⟩ := Option.isSome_iff_exists.mp htop
  obtain ⟨r, hr⟩ := State.topJava?_eq_some.mp hg0
  have hl9 : e.platform.stackLimits (T.setVm s.vm).me = e.platform.stackLimits s.me := X.limits
  have hb9 : (T.setVm s.vm).me.stackBytes = s.me.stackBytes := X.bytes
  refine ⟨X.admits, X.cas, X.clock, hF, ?_, X.hears, X.method, X.code, X.here, X.tail, X.warmed, ?_, ?_, ?_⟩
  · have h := X.room
    have hU : ((T.setVm s.vm).setFrames (.invoking m args :: below)).localsInUse = s.localsInUse := by
      rw [State.localsInUse_invoking hF (meth := meth) (c := c) X.method X.code, State.localsInUse_invoking X.frames X.method X.code]
    simp only [State.hasRoom, Bool.and_eq_true, decide_eq_true_eq] at h ⊢
    obtain ⟨⟨⟨⟨h1, h2, h3, h4, h5, h6⟩, h7⟩, h8⟩, h9⟩ := h
    rw [X.frames, List.length_cons] at h2 h3
    have q1 := X.heapSize
    have q2 := X.used
    simp only [hF, hU, List.length_cons, State.stackLimits_setFrames, State.stackBytes_setFrames, hl9, hb9]
    refine ⟨⟨⟨⟨by omega, by omega, by omega, by omega, by omega, h6⟩, ?_⟩, ?_⟩, X.book⟩
    · show T.heap.size + R'.cells ≤ e.platform.maxCells
      omega
    · show T.slotsUsed + R'.slots ≤ e.platform.maxSlots
      omega
  · rw [State.stackLimits_setFrames]; rfl
  · rw [State.stackBytes_setFrames]; rfl
  · refine ⟨?_, Nat.le_refl _, Nat.le_refl _, ?_, ?_, fun a c9 h9 => ⟨c9, h9, rfl, rfl, fun _ _ => rfl⟩⟩
    · obtain ⟨t, ht, -⟩ := State.frames_cons hr
      show T.setVm s.vm = { ((T.setVm s.vm).setFrames (.invoking m args :: below)).setFrames (T.setVm s.vm).frames with heap := T.heap, slotsUsed := T.slotsUsed }
      rw [State.setFrames_setFrames, State.setFrames_self ht]
      rfl
    · show T.slotsUsed = T.slotsUsed + ((T.heap.toList.drop T.heap.size).map (·.slots.size)).sum
      rw [List.drop_eq_nil_of_le (Nat.le_of_eq Array.length_toList)]
      rfl
    · show ((T.heap.toList.drop T.heap.size).map (·.slots.size)).sum ≤ 0
      rw [List.drop_eq_nil_of_le (Nat.le_of_eq Array.length_toList)]
      exact Nat.le_refl _
/-- 'throw new E()': new; dup; invokespecial; athrow -/
theorem vx_throw0 {cc : ByteArray} {pc : Nat} (hexec : p.tables.exec = Jvm.exec) (hb : c.code = cc) (hl : l.stackTraces = false) {own cls : String} {names : List String} {ik ic mc ms : Nat} {A : Nat → Prop}
    (hown : s.vm.findClass own = some m.cls) (hcls : Bundle.fit cls = true) (hnames : ∀ n ∈ names, Bundle.fit n = true)
    (hk : (Cond.classLink own ik cls).before args s = true) (hini : (Cond.initialized cls).before args s = true) (hat : ∀ w ∈ vx_at0 own ic cls names, w.before args s = true)
    (hgood : ∀ w ∈ Cond.classLink own ik cls :: Cond.initialized cls :: vx_at0 own ic cls names, vx_ot w = true)
    (hU : vx_Zq Bundle.tN "UNASSIGNED_STACK" Bundle.steD A s s.heap) (hN : vx_Zq Bundle.tN "SUPPRESSED_SENTINEL" Bundle.listD A s s.heap) (hS : va_S A s.heap H locs) (hsize : ls.size = c.maxLocals)
    (d0 : decode cc pc = .ok (.new ik, 3)) (d3 : decode cc (pc + 3) = .ok (.dup, 1)) (d4 : decode cc (pc + 4) = .ok (.invokespecial ic, 3)) (d7 : decode cc (pc + 7) = .ok (.athrow, 1))
    (hout : ∀ x ∈ c.exceptionTable.toList, covers x (pc + 7) = false)
    (hRframes : names.length + 3 < R.frames) (hRlocals : (rest.map fun v => v.category).sum + (13 * (names.length + 1) + 42) ≤ R.locals) (hRcells : cells + 1 ≤ R.cells) (hRslots : slots + 6 ≤ R.slots) (hlocks : meth.locks = false)
    (hx : ∀ t : State, s.vm.Alike t.vm → H.size ≤ t.heap.size → (∀ q : Nat, q < H.size → t.heap[q]? = H[q]?) → XC cls s t)
    (hf : ∀ z ∈ locs, free z.base) (hc : cells + 1 ≤ mc) (hs : slots + 6 ≤ ms) :
    W p l e R s m args below meth c H locs cells slots (vx_MQ below Qc XC args s mc ms free) (F0 m pc ls rest) := by
  intro T hT X
  have htr : e.platform.stackTraces = false := (show e.platform.stackTraces = l.stackTraces by rw [X.admits.platform]).trans hl
  have Y := vx_rebase X (R' := { frames := R.frames, locals := R.locals, cells := 1, slots := 6 }) (Nat.le_refl _) (Nat.le_refl _) hRcells hRslots
  obtain ⟨s', hA⟩ : ∃ z, z = (T.setVm s.vm).setFrames (.invoking m args :: below) := ⟨_, rfl⟩
  rw [← hA] at Y
  have hvm : s'.vm = s.vm := by rw [hA]; rfl
  have hhp : s'.heap = H := by rw [hA]; exact hT
  have hW0 : s.WarmedH s'.vm := by rw [hvm]; exact State.WarmedH.refl s
  have hat' : ∀ w ∈ vx_at0 own ic cls names, w.before args s' = true := fun w hw => vx_ot_at hW0 hvm.symm (hgood w (List.mem_cons_of_mem _ (List.mem_cons_of_mem _ hw))) (hat w hw)
  have hk' : (Cond.classLink own ik cls).before args s' = true := vx_ot_at hW0 hvm.symm (hgood _ List.mem_cons_self) hk
  have hini' : (Cond.initialized cls).before args s' = true := vx_ot_at hW0 hvm.symm (hgood _ (List.mem_cons_of_mem _ List.mem_cons_self)) hini
  have hU' : vx_Zq Bundle.tN "UNASSIGNED_STACK" Bundle.steD A s' s'.heap := by rw [hhp]; exact vx_Zq.moved hW0.alike (hU.kept hS.2.1)
  have hN' : vx_Zq Bundle.tN "SUPPRESSED_SENTINEL" Bundle.listD A s' s'.heap := by rw [hhp]; exact vx_Zq.moved hW0.alike (hN.kept hS.2.1)
  have h : ∀ w ∈ Bundle.ownAtoms0 own ic cls names, w.before args s' = true := vx_own hat' (vx_isRefq hU'.1) (vx_isRefq hN'.1) hU'.2.word hN'.2.word
  have hown' : s'.vm.findClass own = some m.cls := by rw [hvm]; exact hown
  have hins : (Cond.instantiable cls 6).before args s' = true := h _ (by simp [Bundle.ownAtoms0])
  obtain ⟨vm₁, cX, kX, hfX, hkX, -, -, X₁, st1⟩ := Y.newCold hexec (own := own) (C := cls) (index := ik) (n := 6) hown' hk' hins hini'
    (g := F0 m pc ls rest) rfl (by rw [hb]; exact d0) (Nat.le_refl _) (Nat.le_refl _)
  generalize hT1 : (T.setVm vm₁).pushCell { cls := cX, slots := kX.instanceTypes.map defaultValue, vm := .none } = T1 at X₁ st1
  have hcat : (Value.ref T.heap.size).category = 1 := rfl
  have hcellA : T1.heap[T.heap.size]? = some (freshCell cX kX) := by rw [← hT1]; exact State.heap_pushCell_size _ _
  have d3' : decode c.code (pc + 3) = .ok (.dup, 1) := by rw [hb]; exact d3
  obtain ⟨U, hsteps, hrun, hend, hW, hsame, ce, hce, hO⟩ := X₁.ctorThrow0 hexec htr (own := own) (cls := cls) (names := names) (ic := ic) hown' hcls hnames h (fun x hx => nomatch hx) hfX hkX hcellA (by rw [hhp, hT]; exact Nat.le_refl _)
    (g := { method := m, pc := pc + 4, locals := ls, stack := .ref T.heap.size :: .ref T.heap.size :: rest, locked := none }) rfl hsize rfl rfl (rest := rest) rfl
    (by rw [hb]; exact d4) (by rw [hb]; exact d7) hout hRframes (by simp only [List.map_cons, List.sum_cons, hcat]; omega) hlocks
  obtain ⟨f1, f2⟩ := vx_frame hsame
  rw [hhp] at f1 f2
  have hWs : s.WarmedH U.vm := State.WarmedH.trans hW0 hW
  have hcl : s.vm.findClass cls = some ce.cls := by
    have h9 := hO.cls
    rw [hvm] at h9
    exact h9
  have hall : s.sameButNew ({ U with vm := s.vm } : State) locs mc ms := by
    subst hA
    obtain ⟨e1, e2⟩ := hsame
    rw [State.setFrames_setFrames] at e1
    have h2 : (T.setVm s.vm).sameButNew ({ U with vm := s.vm } : State) [] (0 + 1) (0 + 6) := ⟨e1, e2⟩
    have h3 := X.same.trans h2
    rw [List.append_nil] at h3
    exact h3.mono hc hs
  refine ⟨U, ?_, .threw T.heap.size, hrun, hend, Or.inr ⟨T.heap.size, rfl, cls, ce, locs, hx U hWs.alike f1 (fun q hq => f2 q hq (fun z hz => nomatch hz)), hce, hO.vm, hcl, hWs, hall, hf⟩⟩
  refine st1 _ ?_
  show Steps p.tables e below (T1.setTop { method := m, pc := pc + 3, locals := ls, stack := .ref T.heap.size :: rest, locked := none }) _
  jvm_step X₁.here [X₁.here.top, hexec, d3', Value.category]
  exact hsteps
/-- 'throw new E("text")': new; dup; ldc; invokespecial; athrow -/
theorem vx_throwS {cc : ByteArray} {pc : Nat} (hexec : p.tables.exec = Jvm.exec) (hb : c.code = cc) (hl : l.stackTraces = false) {own cls text : String} {names : List String} {ik is ic mc ms sa : Nat} {A : Nat → Prop}
    (hown : s.vm.findClass own = some m.cls) (hcls : Bundle.fit cls = true) (hnames : ∀ n ∈ names, Bundle.fit n = true)
    (hk : (Cond.classLink own ik cls).before args s = true) (hini : (Cond.initialized cls).before args s = true) (hstr : vk_R own is text sa s) (hat : ∀ w ∈ vx_atS own ic cls names, w.before args s = true)
    (hgood : ∀ w ∈ Cond.classLink own ik cls :: Cond.initialized cls :: vx_atS own ic cls names, vx_ot w = true)
    (hU : vx_Zq Bundle.tN "UNASSIGNED_STACK" Bundle.steD A s s.heap) (hN : vx_Zq Bundle.tN "SUPPRESSED_SENTINEL" Bundle.listD A s s.heap) (hS : va_S A s.heap H locs) (hsize : ls.size = c.maxLocals)
    (d0 : decode cc pc = .ok (.new ik, 3)) (d3 : decode cc (pc + 3) = .ok (.dup, 1)) (d4 : decode cc (pc + 4) = .ok (.ldc is, 2)) (d6 : decode cc (pc + 6) = .ok (.invokespecial ic, 3)) (d9 : decode cc (pc + 9) = .ok (.athrow, 1))
    (hout : ∀ x ∈ c.exceptionTable.toList, covers x (pc + 9) = false)
    (hRframes : names.length + 3 < R.frames) (hRlocals : (rest.map fun v => v.category).sum + (13 * (names.length + 1) + 43) ≤ R.locals) (hRcells : cells + 1 ≤ R.cells) (hRslots : slots + 6 ≤ R.slots) (hlocks : meth.locks = false)
    (hx : ∀ t : State, s.vm.Alike t.vm → H.size ≤ t.heap.size → (∀ q : Nat, q < H.size → t.heap[q]? = H[q]?) → XC cls s t)
    (hf : ∀ z ∈ locs, free z.base) (hc : cells + 1 ≤ mc) (hs : slots + 6 ≤ ms) :
    W p l e R s m args below meth c H locs cells slots (vx_MQ below Qc XC args s mc ms free) (F0 m pc ls rest) := by
  intro T hT X
  have htr : e.platform.stackTraces = false := (show e.platform.stackTraces = l.stackTraces by rw [X.admits.platform]).trans hl
  have Y := vx_rebase X (R' := { frames := R.frames, locals := R.locals, cells := 1, slots := 6 }) (Nat.le_refl _) (Nat.le_refl _) hRcells hRslots
  obtain ⟨s', hA⟩ : ∃ z, z = (T.setVm s.vm).setFrames (.invoking m args :: below) := ⟨_, rfl⟩
  rw [← hA] at Y
  have hvm : s'.vm = s.vm := by rw [hA]; rfl
  have hhp : s'.heap = H := by rw [hA]; exact hT
  have hW0 : s.WarmedH s'.vm := by rw [hvm]; exact State.WarmedH.refl s
  have hat' : ∀ w ∈ vx_atS own ic cls names, w.before args s' = true := fun w hw => vx_ot_at hW0 hvm.symm (hgood w (List.mem_cons_of_mem _ (List.mem_cons_of_mem _ hw))) (hat w hw)
  have hk' : (Cond.classLink own ik cls).before args s' = true := vx_ot_at hW0 hvm.symm (hgood _ List.mem_cons_self) hk
  have hini' : (Cond.initialized cls).before args s' = true := vx_ot_at hW0 hvm.symm (hgood _ (List.mem_cons_of_mem _ List.mem_cons_self)) hini
  have hU' : vx_Zq Bundle.tN "UNASSIGNED_STACK" Bundle.steD A s' s'.heap := by rw [hhp]; exact vx_Zq.moved hW0.alike (hU.kept hS.2.1)
  have hN' : vx_Zq Bundle.tN "SUPPRESSED_SENTINEL" Bundle.listD A s' s'.heap := by rw [hhp]; exact vx_Zq.moved hW0.alike (hN.kept hS.2.1)
  have h : ∀ w ∈ Bundle.ownAtoms own ic cls names, w.before args s' = true := vx_own hat' (vx_isRefq hU'.1) (vx_isRefq hN'.1) hU'.2.word hN'.2.word
  have hown' : s'.vm.findClass own = some m.cls := by rw [hvm]; exact hown
  have hins : (Cond.instantiable cls 6).before args s' = true := h _ (by simp [Bundle.ownAtoms])
  obtain ⟨vm₁, cX, kX, hfX, hkX, -, -, X₁, st1⟩ := Y.newCold hexec (own := own) (C := cls) (index := ik) (n := 6) hown' hk' hins hini'
    (g := F0 m pc ls rest) rfl (by rw [hb]; exact d0) (Nat.le_refl _) (Nat.le_refl _)
  generalize hT1 : (T.setVm vm₁).pushCell { cls := cX, slots := kX.instanceTypes.map defaultValue, vm := .none } = T1 at X₁ st1
  have hcat : (Value.ref T.heap.size).category = 1 := rfl
  have hcellA : T1.heap[T.heap.size]? = some (freshCell cX kX) := by rw [← hT1]; exact State.heap_pushCell_size _ _
  have d3' : decode c.code (pc + 3) = .ok (.dup, 1) := by rw [hb]; exact d3
  have d4' : decode c.code (pc + 4) = .ok (.ldc is, 2) := by rw [hb]; exact d4
  have hstr' : vk_R own is text sa s' := vk_R.warm hW0 hstr
  obtain ⟨U, hsteps, hrun, hend, hW, hsame, ce, hce, hO⟩ := X₁.ctorThrowS hexec htr (own := own) (cls := cls) (names := names) (ic := ic) hown' hcls hnames h (fun x hx => nomatch hx) hfX hkX hcellA (by rw [hhp, hT]; exact Nat.le_refl _) (msg := .ref sa) rfl
    (g := { method := m, pc := pc + 6, locals := ls, stack := .ref sa :: .ref T.heap.size :: .ref T.heap.size :: rest, locked := none }) rfl hsize rfl rfl (rest := rest) rfl
    (by rw [hb]; exact d6) (by rw [hb]; exact d9) hout hRframes (by simp only [List.map_cons, List.sum_cons, hcat]; omega) hlocks
  obtain ⟨f1, f2⟩ := vx_frame hsame
  rw [hhp] at f1 f2
  have hWs : s.WarmedH U.vm := State.WarmedH.trans hW0 hW
  have hcl : s.vm.findClass cls = some ce.cls := by
    have h9 := hO.cls
    rw [hvm] at h9
    exact h9
  have hall : s.sameButNew ({ U with vm := s.vm } : State) locs mc ms := by
    subst hA
    obtain ⟨e1, e2⟩ := hsame
    rw [State.setFrames_setFrames] at e1
    have h2 : (T.setVm s.vm).sameButNew ({ U with vm := s.vm } : State) [] (0 + 1) (0 + 6) := ⟨e1, e2⟩
    have h3 := X.same.trans h2
    rw [List.append_nil] at h3
    exact h3.mono hc hs
  refine ⟨U, ?_, .threw T.heap.size, hrun, hend, Or.inr ⟨T.heap.size, rfl, cls, ce, locs, hx U hWs.alike f1 (fun q hq => f2 q hq (fun z hz => nomatch hz)), hce, hO.vm, hcl, hWs, hall, hf⟩⟩
  refine st1 _ ?_
  show Steps p.tables e below (T1.setTop { method := m, pc := pc + 3, locals := ls, stack := .ref T.heap.size :: rest, locked := none }) _
  jvm_step X₁.here [X₁.here.top, hexec, d3', Value.category]
  exact X₁.ldcString hexec (own := own) (text := text) (index := is) (a := sa) hown' hstr'.1 hstr'.2
    (g := { method := m, pc := pc + 4, locals := ls, stack := .ref T.heap.size :: .ref T.heap.size :: rest, locked := none }) rfl d4' _ hsteps
/-- 'throw new E("text")', the text by a wide index -/
theorem vx_throwSW {cc : ByteArray} {pc : Nat} (hexec : p.tables.exec = Jvm.exec) (hb : c.code = cc) (hl : l.stackTraces = false) {own cls text : String} {names : List String} {ik is ic mc ms sa : Nat} {A : Nat → Prop}
    (hown : s.vm.findClass own = some m.cls) (hcls : Bundle.fit cls = true) (hnames : ∀ n ∈ names, Bundle.fit n = true)
    (hk : (Cond.classLink own ik cls).before args s = true) (hini : (Cond.initialized cls).before args s = true) (hstr : vk_R own is text sa s) (hat : ∀ w ∈ vx_atS own ic cls names, w.before args s = true)
    (hgood : ∀ w ∈ Cond.classLink own ik cls :: Cond.initialized cls :: vx_atS own ic cls names, vx_ot w = true)
    (hU : vx_Zq Bundle.tN "UNASSIGNED_STACK" Bundle.steD A s s.heap) (hN : vx_Zq Bundle.tN "SUPPRESSED_SENTINEL" Bundle.listD A s s.heap) (hS : va_S A s.heap H locs) (hsize : ls.size = c.maxLocals)
    (d0 : decode cc pc = .ok (.new ik, 3)) (d3 : decode cc (pc + 3) = .ok (.dup, 1)) (d4 : decode cc (pc + 4) = .ok (.ldc_w is, 3)) (d7 : decode cc (pc + 7) = .ok (.invokespecial ic, 3)) (d10 : decode cc (pc + 10) = .ok (.athrow, 1))
    (hout : ∀ x ∈ c.exceptionTable.toList, covers x (pc + 10) = false)
    (hRframes : names.length + 3 < R.frames) (hRlocals : (rest.map fun v => v.category).sum + (13 * (names.length + 1) + 43) ≤ R.locals) (hRcells : cells + 1 ≤ R.cells) (hRslots : slots + 6 ≤ R.slots) (hlocks : meth.locks = false)
    (hx : ∀ t : State, s.vm.Alike t.vm → H.size ≤ t.heap.size → (∀ q : Nat, q < H.size → t.heap[q]? = H[q]?) → XC cls s t)
    (hf : ∀ z ∈ locs, free z.base) (hc : cells + 1 ≤ mc) (hs : slots + 6 ≤ ms) :
    W p l e R s m args below meth c H locs cells slots (vx_MQ below Qc XC args s mc ms free) (F0 m pc ls rest) := by
  intro T hT X
  have htr : e.platform.stackTraces = false := (show e.platform.stackTraces = l.stackTraces by rw [X.admits.platform]).trans hl
  have Y := vx_rebase X (R' := { frames := R.frames, locals := R.locals, cells := 1, slots := 6 }) (Nat.le_refl _) (Nat.le_refl _) hRcells hRslots
  obtain ⟨s', hA⟩ : ∃ z, z = (T.setVm s.vm).setFrames (.invoking m args :: below) := ⟨_, rfl⟩
  rw [← hA] at Y
  have hvm : s'.vm = s.vm := by rw [hA]; rfl
  have hhp : s'.heap = H := by rw [hA]; exact hT
  have hW0 : s.WarmedH s'.vm := by rw [hvm]; exact State.WarmedH.refl s
  have hat' : ∀ w ∈ vx_atS own ic cls names, w.before args s' = true := fun w hw => vx_ot_at hW0 hvm.symm (hgood w (List.mem_cons_of_mem _ (List.mem_cons_of_mem _ hw))) (hat w hw)
  have hk' : (Cond.classLink own ik cls).before args s' = true := vx_ot_at hW0 hvm.symm (hgood _ List.mem_cons_self) hk
  have hini' : (Cond.initialized cls).before args s' = true := vx_ot_at hW0 hvm.symm (hgood _ (List.mem_cons_of_mem _ List.mem_cons_self)) hini
  have hU' : vx_Zq Bundle.tN "UNASSIGNED_STACK" Bundle.steD A s' s'.heap := by rw [hhp]; exact vx_Zq.moved hW0.alike (hU.kept hS.2.1)
  have hN' : vx_Zq Bundle.tN "SUPPRESSED_SENTINEL" Bundle.listD A s' s'.heap := by rw [hhp]; exact vx_Zq.moved hW0.alike (hN.kept hS.2.1)
  have h : ∀ w ∈ Bundle.ownAtoms own ic cls names, w.before args s' = true := vx_own hat' (vx_isRefq hU'.1) (vx_isRefq hN'.1) hU'.2.word hN'.2.word
  have hown' : s'.vm.findClass own = some m.cls := by rw [hvm]; exact hown
  have hins : (Cond.instantiable cls 6).before args s' = true := h _ (by simp [Bundle.ownAtoms])
  obtain ⟨vm₁, cX, kX, hfX, hkX, -, -, X₁, st1⟩ := Y.newCold hexec (own := own) (C := cls) (index := ik) (n := 6) hown' hk' hins hini'
    (g := F0 m pc ls rest) rfl (by rw [hb]; exact d0) (Nat.le_refl _) (Nat.le_refl _)
  generalize hT1 : (T.setVm vm₁).pushCell { cls := cX, slots := kX.instanceTypes.map defaultValue, vm := .none } = T1 at X₁ st1
  have hcat : (Value.ref T.heap.size).category = 1 := rfl
  have hcellA : T1.heap[T.heap.size]? = some (freshCell cX kX) := by rw [← hT1]; exact State.heap_pushCell_size _ _
  have d3' : decode c.code (pc + 3) = .ok (.dup, 1) := by rw [hb]; exact d3
  have d4' : decode c.code (pc + 4) = .ok (.ldc_w is, 3) := by rw [hb]; exact d4
  have hstr' : vk_R own is text sa s' := vk_R.warm hW0 hstr
  obtain ⟨U, hsteps, hrun, hend, hW, hsame, ce, hce, hO⟩ := X₁.ctorThrowS hexec htr (own := own) (cls := cls) (names := names) (ic := ic) hown' hcls hnames h (fun x hx => nomatch hx) hfX hkX hcellA (by rw [hhp, hT]; exact Nat.le_refl _) (msg := .ref sa) rfl
    (g := { method := m, pc := pc + 7, locals := ls, stack := .ref sa :: .ref T.heap.size :: .ref T.heap.size :: rest, locked := none }) rfl hsize rfl rfl (rest := rest) rfl
    (by rw [hb]; exact d7) (by rw [hb]; exact d10) hout hRframes (by simp only [List.map_cons, List.sum_cons, hcat]; omega) hlocks
  obtain ⟨f1, f2⟩ := vx_frame hsame
  rw [hhp] at f1 f2
  have hWs : s.WarmedH U.vm := State.WarmedH.trans hW0 hW
  have hcl : s.vm.findClass cls = some ce.cls := by
    have h9 := hO.cls
    rw [hvm] at h9
    exact h9
  have hall : s.sameButNew ({ U with vm := s.vm } : State) locs mc ms := by
    subst hA
    obtain ⟨e1, e2⟩ := hsame
    rw [State.setFrames_setFrames] at e1
    have h2 : (T.setVm s.vm).sameButNew ({ U with vm := s.vm } : State) [] (0 + 1) (0 + 6) := ⟨e1, e2⟩
    have h3 := X.same.trans h2
    rw [List.append_nil] at h3
    exact h3.mono hc hs
  refine ⟨U, ?_, .threw T.heap.size, hrun, hend, Or.inr ⟨T.heap.size, rfl, cls, ce, locs, hx U hWs.alike f1 (fun q hq => f2 q hq (fun z hz => nomatch hz)), hce, hO.vm, hcl, hWs, hall, hf⟩⟩
  refine st1 _ ?_
  show Steps p.tables e below (T1.setTop { method := m, pc := pc + 3, locals := ls, stack := .ref T.heap.size :: rest, locked := none }) _
  jvm_step X₁.here [X₁.here.top, hexec, d3', Value.category]
  exact X₁.ldcStringW hexec (own := own) (text := text) (index := is) (a := sa) hown' hstr'.1 hstr'.2
    (g := { method := m, pc := pc + 4, locals := ls, stack := .ref T.heap.size :: .ref T.heap.size :: rest, locked := none }) rfl d4' _ hsteps
end Ends
section Bodies
variable {l : Launch}
theorem vx_ofW {y : MethodName} {ws ws' : List Cond} {rm : Room} {Pc : Array Value → State → Prop} {Qc : Array Value → State → Outcome → State → Prop} {XC : String → State → State → Prop} {mc ms : Nat} {free : Addr → Prop} {cc : ByteArray} {maxL : Nat} {ret : Option FieldType}
    (hy : plainName y.cls = true) (hw : ws = Cond.code y cc maxL ret :: ws')
    (body : ∀ p e s m args below meth c s₁, BodyLoose p l y (headSpec ws rm) cc maxL ret e s m args below meth c s₁ → c.maxLocals = maxL → (∀ x ∈ c.exceptionTable.toList, False) → Pc args s →
      W p l e (headSpec ws rm).room s m args below meth c s.heap [] 0 0 (vx_MQ below Qc XC args s mc ms free) (entryFrame m args maxL)) : vx_Met l y ws rm Pc Qc XC mc ms free := by
  refine MetFree.of_bodyS (code := cc) (maxLocals := maxL) (ret := ret) hy ?_ ?_
  · intro args s m h hn
    obtain ⟨meth, c, h1, h2, h3, h4, h5, h6, -, -⟩ := Cond.code_spec hn (atoms_spec (ws := ws) h _ (by rw [hw]; exact List.mem_cons_self))
    exact ⟨meth, c, h1, h2, h3, h4, h5, h6⟩
  · intro p e s m args below meth c s₁ B hml hP _
    have hh0 : s₁.heap = s.heap := by rw [B.state]; rfl
    have ht : ∀ x ∈ c.exceptionTable.toList, False := by
      obtain ⟨meth9, c9, h1, h2, -, -, -, -, h7, -⟩ := Cond.code_spec B.named (atoms_spec (ws := ws) B.pre _ (by rw [hw]; exact List.mem_cons_self))
      cases Option.some.inj (h1.symm.trans B.method)
      cases Option.some.inj (h2.symm.trans (Stand.of_body B).code)
      intro x hx
      rw [Array.isEmpty_iff.mp h7] at hx
      cases hx
    obtain ⟨t, a1, o, b1, b2, b3⟩ := body p e s m args below meth c s₁ B hml ht hP s₁ hh0 (Stand.of_body B)
    exact ⟨t, o, a1, b1, b2, b3⟩
/-- the table of a body with handlers -/
theorem vx_table {p : Program} {x y : MethodName} {S : Spec} {cc bytes : ByteArray} {maxL maxL' : Nat} {ret ret' : Option FieldType} {e : Env} {s s₁ : State} {m : MethodId} {args : Array Value} {below : List Frame} {meth : Method} {c : Code} {hh : List (Nat × Nat × Nat × Nat)}
    (B : BodyLoose p l y S cc maxL ret e s m args below meth c s₁) (h : (Cond.codeWith y bytes maxL' ret' hh).before args s = true) : c.exceptionTable.toList = tableOf hh := by
  obtain ⟨m9, meth9, c9, hn9, h1, h2, -, -, h6, -⟩ := Cond.codeWith_spec h
  cases Option.some.inj (hn9.symm.trans B.named)
  cases Option.some.inj (h1.symm.trans B.method)
  cases Option.some.inj (h2.symm.trans (Stand.of_body B).code)
  rw [← h6, table_eq]
end Bodies
end VXA
/-! ===== END ===== -/
/-! ===== BEGIN a static call of a method with an exception table ===== -/
section VXS
variable {p : Program} {l : Launch} {e : Env} {R : Room} {s : State} {m : MethodId} {args : Array Value} {below : List Frame} {meth : Method} {c : Code} {T : State} {H : Heap} {locs : List Loc} {cells slots : Nat}
abbrev vx_CSW (R : Room) (s : State) (args : Array Value) (own : String) (index : Nat) (y : MethodName) (bytes : ByteArray) (maxL : Nat) (ret : Option FieldType) (hh : List (Nat × Nat × Nat × Nat)) (ws : List Cond) (rm : Room) (mc ms n : Nat) : Prop :=
  (rm.cells = mc ∧ rm.slots = ms ∧ rm.frames + 1 ≤ R.frames ∧ 8 + (maxL + 11) + rm.locals ≤ R.locals ∧ (∀ w ∈ ws, ∀ (a' : Array Value) (U : State), s.WarmedH U.vm → w.before a' U = true) ∧ Cond.codeWith y bytes maxL ret hh ∈ ws) ∧
  (Cond.codeWith y bytes maxL ret hh).before args s = true ∧ (Cond.initialized y.cls).before args s = true ∧ (y.cls ≠ "java/lang/invoke/MethodHandle" ∧ y.cls ≠ "java/lang/invoke/VarHandle") ∧
  (∀ sig, parseMethodDescriptor y.desc = some sig → n = sig.parameters.length) ∧ (Cond.methodLink own index y).before args s = true ∧ (Cond.static y).before args s = true
theorem vx_cwSW {own : String} {index maxL mc ms : Nat} {y : MethodName} {bytes : ByteArray} {ret : Option FieldType} {hh : List (Nat × Nat × Nat × Nat)} {Ts ws ws' : List Cond} {rm : Room} (n : Nat) (ht : ∀ w ∈ Ts, w.before args s = true) (hT : GoodIn Ts (va_wsS own index y ws)) (hw : ws = Cond.codeWith y bytes maxL ret hh :: ws') (hrc : rm.cells = mc) (hrs : rm.slots = ms)
    (hd : y.cls ≠ "java/lang/invoke/MethodHandle" ∧ y.cls ≠ "java/lang/invoke/VarHandle" ∧ (parseMethodDescriptor y.desc).map (fun d => d.parameters.length) = some n) (hR : rm.frames + 1 ≤ R.frames ∧ 8 + (maxL + 11) + rm.locals ≤ R.locals) :
    vx_CSW R s args own index y bytes maxL ret hh ws rm mc ms n := by
  have ok : ∀ w ∈ va_wsS own index y ws, w.before args s = true := fun w h => ht w (hT w h).1
  have hG : GoodIn Ts ws := fun w h => hT w (by unfold va_wsS; exact List.mem_append_right _ h)
  have hc : Cond.codeWith y bytes maxL ret hh ∈ ws := by rw [hw]; exact List.mem_cons_self
  refine ⟨⟨hrc, hrs, hR.1, hR.2, pay_in ht hG, hc⟩, ht _ (hG _ hc).1, ok _ (by simp [va_wsS]), ⟨hd.1, hd.2.1⟩, fun sig h => ?_, ok _ (by simp [va_wsS]), ok _ (by simp [va_wsS])⟩
  have h2 := hd.2.2
  rw [h] at h2
  exact (Option.some.inj h2).symm
theorem vx_callSW (X : Stand p l e R s m args below meth c T locs cells slots) (hexec : p.tables.exec = Jvm.exec) {own : String} {index : Nat} {y : MethodName} {bytes : ByteArray} {maxL : Nat} {ret : Option FieldType} {hh : List (Nat × Nat × Nat × Nat)}
    (hown : s.vm.findClass own = some m.cls) (hlink : (Cond.methodLink own index y).before args s = true) (hstat : (Cond.static y).before args s = true) (hinit : (Cond.initialized y.cls).before args s = true)
    (hcode : (Cond.codeWith y bytes maxL ret hh).before args s = true) (hy : y.cls ≠ "java/lang/invoke/MethodHandle" ∧ y.cls ≠ "java/lang/invoke/VarHandle")
    {W9 : Nat} {Pre : Pt → Array Value → Prop} {Post : Pt → Array Value → Option Value → Pt → Prop} (hK : Back l R p e below s args y 3 W9 Pre Post)
    {g : JFrame} (hg : g.method = m) (hsize : g.locals.size = c.maxLocals) {argsL rest : List Value} (hlen : ∀ sig, parseMethodDescriptor y.desc = some sig → argsL.length = sig.parameters.length)
    (hstack : g.stack = argsL.reverse ++ rest) (hW : 2 * g.monitorRoom + (rest.map fun v => v.category).sum ≤ W9) (hdg : decode c.code g.pc = .ok (.invokestatic index, 3))
    (hpre : ∀ vm₁, s.WarmedH vm₁ → Pre ⟨T.setVm vm₁, locs, cells, slots⟩ argsL.toArray) :
    ∃ (v : Option Value) (vm₁ : Vm) (B : Pt), s.WarmedH vm₁ ∧ Stand p l e R s m args below meth c B.U B.locs B.cells B.slots ∧ Post ⟨T.setVm vm₁, locs, cells, slots⟩ argsL.toArray v B ∧
      ∀ target, Steps p.tables e below (B.U.setTop { g with pc := g.pc + 3, stack := v.toList ++ rest }) target → Steps p.tables e below (T.setTop g) target := by
  obtain ⟨mk, methM, cM, hnamed, hmethM, -, -, -, -, -, -, hsigM⟩ := Cond.codeWith_spec hcode
  have hstatic : methM.isStatic = true := Cond.static_spec hnamed hmethM hstat
  obtain ⟨kP, hkP, -⟩ := className_of_methodNamed hnamed
  have hinitP : kP.init = .initialized := Cond.initialized_spec (findClass_of_methodNamed hnamed) hkP hinit
  obtain ⟨vm₁, X₁, hstep₁⟩ := X.invokestatic hexec hown hlink hnamed hmethM hstatic hkP hinitP hy (g := g) hg (argsL := argsL) (rest := rest) (hlen _ hsigM) hstack hdg
  obtain ⟨v, B, X', hpost, hsteps⟩ := hK m meth c ⟨T.setVm vm₁, locs, cells, slots⟩ { g with stack := rest } (.invokestatic index) mk argsL.toArray X₁ hg hsize hdg hW (X₁.named hnamed) (hpre vm₁ X₁.warmed)
  exact ⟨v, vm₁, B, X₁.warmed, X', hpost, fun target h => hstep₁ _ fun acts => by rw [doInvoke_state]; exact hsteps.trans h⟩
theorem vx_runSW {y : MethodName} {bytes cc : ByteArray} {maxL nL mc ms n index : Nat} {ret : Option FieldType} {hh : List (Nat × Nat × Nat × Nat)} {ws : List Cond} {rm : Room} {Pc : Array Value → State → Prop} {Qc : Array Value → State → Outcome → State → Prop} {free : Addr → Prop} {Ts : List Cond} {own : String} {As rest : List Value} {g : JFrame}
    (S : CallFix p m c cc nL s args Ts own) (hM : Met l y ws rm Pc Qc mc ms free) (cw : vx_CSW R s args own index y bytes maxL ret hh ws rm mc ms n) (hp : PreS s H Pc As)
    (hg : g.method = m) (hn : As.length = n) (hsize : g.locals.size = nL) (hstack : g.stack = As.reverse ++ rest) (hW : 2 * g.monitorRoom + (rest.map fun v => v.category).sum ≤ 8) (hdg : decode cc g.pc = .ok (.invokestatic index, 3)) (hf : cells + mc ≤ R.cells ∧ slots + ms ≤ R.slots) :
    va_Run p l e R s m args below meth c H locs cells slots mc ms g rest (Qc As.toArray) (free) := by
  obtain ⟨⟨hrc, hrs, hfr, hlo, hws, hcw⟩, hcode, hini, hy, hlen, hl, hstt⟩ := cw
  have hK : Back l R p e below s args y 3 8 (PreOf R mc ms Pc) (PostOf Qc mc ms free) := va_backW (hh := hh) (bytes := bytes) (maxL := maxL) (ret := ret) hM hp.1 hrc hrs hfr hlo hws hcw (fun a' U hW => word_at hW (Or.inl (by first | rfl | simp [Cond.onTables, Cond.keeps, Cond.steady])) hini)
  obtain ⟨hx, hb, hml, ho, -⟩ := S
  intro T hT X
  obtain ⟨v, vm₁, ⟨U', l2, c2, s2⟩, hW₁, X', ⟨g', mk, t, L, e1, e2, hq, h1, hL, h2, h3⟩, st⟩ := vx_callSW X hx (hh := hh) (bytes := bytes) (maxL := maxL) (ret := ret) ho hl hstt hini hcode hy hK hg (hsize.trans hml.symm) (argsL := As) (rest := rest) (fun sig h => hn.trans (hlen sig h)) hstack hW (by rw [hb]; exact hdg)
    (fun vm₁ hW₁ => ⟨hf.1, hf.2, hp.2 (T.setVm vm₁) hT hW₁⟩)
  dsimp only [Pt.U, Pt.locs, Pt.cells, Pt.slots] at X' e1 e2 h1 h2 h3 st
  subst h1; subst h2; subst h3
  exact ⟨v, (T.setVm vm₁).calling g' mk As.toArray, t, U', L, hT, X', hL, e1, e2, hq, st⟩
/-- not caught here, past rows that name other classes: it goes on to the caller -/
theorem vx_outP {p : Program} {l : Launch} {e : Env} {R : Room} {s : State} {m : MethodId} {args : Array Value} {below : List Frame} {meth : Method} {c : Code} {H : Heap} {locs : List Loc} {cells slots : Nat} {free : Addr → Prop} {ls : Array Slot} {rest : List Value} {Qc : Array Value → State → Outcome → State → Prop} {XC : String → State → State → Prop}
    {pc : Nat} {own E : String} {ce : Cell} {q : Addr} {mc ms : Nat} (hown : s.vm.findClass own = some m.cls) (hlocks : meth.locks = false)
    (hpass : ∀ z ∈ c.exceptionTable.toList, covers z pc = false ∨ (z.catchType ≠ 0 ∧ ∃ nm : String, (Cond.classLink own z.catchType nm).before args s = true ∧ va_Nc E nm s)) (hcell : H[q]? = some ce) (hv : ce.vm = .none) (hcl : s.vm.findClass E = some ce.cls)
    (hx : ∀ t : State, t.heap = H → s.vm.Alike t.vm → XC E s t) (hf : ∀ z ∈ locs, free z.base) (hc : cells ≤ mc) (hs : slots ≤ ms) :
    vx_W p l e R s m args below meth c H locs cells slots (vx_MQ below Qc XC args s mc ms free) (F0 m pc ls rest) q := by
  intro T hT X
  have hpl : e.platform.magicAccessors = ({} : Platform).magicAccessors := by rw [X.admits.platform]
  obtain ⟨vm', hW', X', st⟩ := X.outThrough hlocks q (g := F0 m pc ls rest) rfl rfl rfl (cell := ce) (by rw [hT]; exact hcell) (by rw [hv]; rfl)
    (by obtain ⟨k9, h9, -⟩ := Vm.findClass_spec hcl; exact ⟨k9, h9⟩) (fun z hz => by
      rcases hpass z hz with h | ⟨hz0, nm, hl1, hn1⟩
      · exact Or.inl h
      · obtain ⟨c6, hc6, hcl6⟩ := Cond.classLink_spec hown hl1 e.platform hpl
        obtain ⟨a8, b8, h1, h2, h3⟩ := hn1
        cases Option.some.inj (h1.symm.trans hcl)
        cases Option.some.inj (h2.symm.trans hc6)
        exact Or.inr ⟨hz0, _, hcl6, h3⟩)
  obtain ⟨g₀, hfr⟩ := X'.frames_eq
  have hcell9 : ((T.setVm vm').setFrames (.throwing q :: below)).heap[q]? = some ce := by
    show T.heap[q]? = some ce
    rw [hT]; exact hcell
  have hend : Ended ((T.setVm vm').setFrames (.throwing q :: below)) below (.threw q) := State.frames_setFrames _ (State.cur_lt_of_frames hfr)
  refine ⟨(T.setVm vm').setFrames (.throwing q :: below), ?_, .threw q, X'.here.running, hend, Or.inr ⟨q, rfl, E, ce, locs, hx _ hT (X'.ends _).1.alike, hcell9, hv, hcl, (X'.ends _).1, (X'.ends _).2.mono hc hs, hf⟩⟩
  rw [X.pushThrowing_eq]
  exact st
/-- a thing of a world lies in the heap -/
theorem vx_lt {D : va_G} {cl : List vw_C} {ws : va_W} {H1 : Heap} (h : va_P D cl ws H1) {k : Nat} {q : Nat × va_E} (hk : ws[k]? = some q) : q.1 < H1.size := (h k q hk).lt
end VXS
/-! ===== END ===== -/
/-! ===== BEGIN methods with a table of their own: called by a name, returning or throwing ===== -/
section VXH
/-! vx_backW, vx_callVX, vx_callSX, vx_callVW, vx_runVW, vx_runVX, vx_runSX, vx_ofWH follow the same proofs as their sisters above (Free/Laws.lean, Shelf42/LK1.lean); vx_outP calls Shelf42/NT130.lean (outThrough). -/
section
variable {l : Launch} {R : Room} {p : Program} {e : Env} {below : List Frame} {s : State} {sargs : Array Value} {y : MethodName} {len W9 : Nat}
theorem vx_backW {ws : List Cond} {rm : Room} {Pc : Array Value → State → Prop} {Qc : Array Value → State → Outcome → State → Prop} {XC : String → State → State → Prop} {mc ms : Nat} {free : Addr → Prop} {bytes : ByteArray} {maxL : Nat} {ret : Option FieldType} {hh : List (Nat × Nat × Nat × Nat)}
    (hM : vx_Met l y ws rm Pc Qc XC mc ms free) (hblind : FrameBlind Pc) (hrc : rm.cells = mc) (hrs : rm.slots = ms)
    (hframes : rm.frames + 1 ≤ R.frames) (hlocals : W9 + (maxL + 11) + rm.locals ≤ R.locals)
    (hws : ∀ w ∈ ws, ∀ a' U, s.WarmedH U.vm → w.before a' U = true) (hcode : Cond.codeWith y bytes maxL ret hh ∈ ws) (hinit : ∀ a' U, s.WarmedH U.vm → (Cond.initialized y.cls).before a' U = true) :
    vx_Back l R p e below s sargs y len W9 (PreOf R mc ms Pc) (PostOf Qc mc ms free) (vx_Post XC mc ms free) := by
  intro m meth c A g ig mk a X hg hsize hdg hW hn hp
  have h1 : (headSpec ws rm).pre.before a A.U = true := atoms_intro fun w hw => hws w hw _ _ X.warmed
  have h2 : (Cond.codeWith y bytes maxL ret hh).before a A.U = true := hws _ hcode _ _ X.warmed
  have h3 : (Cond.initialized y.cls).before a A.U = true := hinit _ _ X.warmed
  have h4 : A.cells + (headSpec ws rm).room.cells ≤ R.cells := by rw [show (headSpec ws rm).room.cells = mc from hrc]; exact hp.1
  have h5 : A.slots + (headSpec ws rm).room.slots ≤ R.slots := by rw [show (headSpec ws rm).room.slots = ms from hrs]; exact hp.2.1
  have hPc : Pc a (A.U.calling g mk a) := hblind _ _ _ _ hp.2.2
  obtain ⟨U, Ls, c0, s0⟩ := A
  dsimp only [Pt.U, Pt.locs, Pt.cells, Pt.slots] at h1 h2 h3 h4 h5 X hn hPc ⊢
  obtain ⟨m9, methY, cY, hn9, hmY, hcY, -, hlY, -⟩ := Cond.codeWith_spec h2
  cases Option.some.inj (hn9.symm.trans hn)
  obtain ⟨kY, hkY, -⟩ := className_of_methodNamed hn
  have hinitY : kY.init = .initialized := Cond.initialized_spec (findClass_of_methodNamed hn) hkY h3
  have h : At U g.method c below := by rw [hg]; exact X.here
  have hlocals9 : W9 + (maxL + 11) + (headSpec ws rm).room.locals ≤ R.locals := hlocals
  have happ : (headSpec ws rm).appliesLoose y e.platform (U.calling g mk a) = true :=
    Spec.appliesLoose_calling (g := g) h hdg hn hkY hinitY
      (X.room_calling (g := g) (R' := (headSpec ws rm).room) hsize hmY hcY hframes (by rw [hlY]; omega) h4 h5) h1
  obtain ⟨mid, hmid⟩ := h.above
  have hfr : (U.setTop g).frames = (.java g :: mid) ++ below := by rw [State.frames_setTop' g h.top, hmid]; rfl
  obtain ⟨o, s₂, hsteps, -, hend, hq⟩ := Steps.callFree hM p X.admits X.cas X.clock (acts := []) hfr happ hPc trivial
  have hq' : vx_Q Qc XC mc ms free a (U.calling g mk a) o s₂ := hq
  rw [State.frames_setTop' g h.top] at hend
  obtain ⟨g₀, hg0⟩ := Option.isSome_iff_exists.mp h.top
  obtain ⟨r, hr⟩ := State.topJava?_eq_some.mp hg0
  have hr' : (({ U with heap := s₂.heap, slotsUsed := s₂.slotsUsed } : State).setVm s₂.vm).frames = .java g₀ :: r := hr
  rcases hq' with ⟨hqc, L, hfe, hL⟩ | ⟨q, rfl, E, ce, L, hx, hce, hcv, hcl, hW₂, hsm, hL⟩
  · obtain ⟨⟨v, rfl⟩, hW₂, e2, q2, q3, q4, q5, q6⟩ := id hfe
    have e3 : s₂ = ({ (U.calling g mk a).setFrames s₂.frames with heap := s₂.heap, slotsUsed := s₂.slotsUsed } : State).setVm s₂.vm := by
      have : s₂ = ({ s₂ with vm := (U.calling g mk a).vm } : State).setVm s₂.vm := rfl
      rw [e2] at this
      exact this
    obtain ⟨c₂, i₂, len₂, hc₂, hd₂, hf₂⟩ := hend
    have hW' : U.WarmedH s₂.vm := hW₂
    have hcc : c₂ = c := by
      have h1 : s₂.code? g.method = U.code? g.method := by
        rw [State.code?_eq, State.code?_eq, hW'.alike.method?]
      exact Option.some.inj (hc₂.symm.trans (h1.trans h.code))
    subst hcc
    have hlen : len₂ = len := by rw [hdg] at hd₂; cases hd₂; rfl
    subst hlen
    have hs₂ : s₂ = (({ U with heap := s₂.heap, slotsUsed := s₂.slotsUsed } : State).setVm s₂.vm).setTop { g with pc := g.pc + len₂, stack := v.toList ++ g.stack } := by
      refine e3.trans ?_
      rw [hf₂, State.calling_eq h.top, State.setFrames_setFrames, State.setTop_of_frames _ hr', hr]
      rfl
    have hsame : U.sameButNew ({ U with heap := s₂.heap, slotsUsed := s₂.slotsUsed } : State) L mc ms := by
      refine ⟨?_, q2, q3, q4, q5, q6⟩
      obtain ⟨t, ht, -⟩ := State.frames_cons hr
      show ({ U with heap := s₂.heap, slotsUsed := s₂.slotsUsed } : State) = { U.setFrames U.frames with heap := s₂.heap, slotsUsed := s₂.slotsUsed }
      rw [State.setFrames_self ht]
    subst hg
    refine Or.inl ⟨v, ⟨(({ U with heap := s₂.heap, slotsUsed := s₂.slotsUsed } : State).setVm s₂.vm), Ls ++ L, c0 + mc, s0 + ms⟩,
      ⟨X.admits, X.cas, X.clock, X.frames, X.room, X.hears, X.method, X.code, (X.here.setHeapUsed s₂.heap s₂.slotsUsed).setVm hW'.alike, X.tail, State.WarmedH.trans X.warmed hW', X.limits, X.bytes, X.same.trans (hsame.setVm s.vm)⟩,
      ⟨g, mk, s₂, L, rfl, rfl, hqc, rfl, hL, rfl, rfl⟩, ?_⟩
    show Steps p.tables e below _ ((({ U with heap := s₂.heap, slotsUsed := s₂.slotsUsed } : State).setVm s₂.vm).setTop { g with pc := g.pc + len₂, stack := v.toList ++ g.stack })
    rw [← hs₂]
    exact hsteps
  · obtain ⟨e2, q2, q3, q4, q5, q6⟩ := id hsm
    have e3 : s₂ = ({ (U.calling g mk a).setFrames s₂.frames with heap := s₂.heap, slotsUsed := s₂.slotsUsed } : State).setVm s₂.vm := by
      have : s₂ = ({ s₂ with vm := (U.calling g mk a).vm } : State).setVm s₂.vm := rfl
      rw [e2] at this
      exact this
    have hf₂ : s₂.frames = .throwing q :: .java g :: U.frames.tail := hend
    have hW' : U.WarmedH s₂.vm := hW₂
    have hs₂ : s₂ = ((({ U with heap := s₂.heap, slotsUsed := s₂.slotsUsed } : State).setVm s₂.vm).setTop g).pushFrame (.throwing q) := by
      refine e3.trans ?_
      rw [hf₂, State.calling_eq h.top, State.setFrames_setFrames, State.pushFrame, State.frames_setTop _ hr', State.setTop_of_frames _ hr', State.setFrames_setFrames, hr]
      rfl
    have hsame : U.sameButNew ({ U with heap := s₂.heap, slotsUsed := s₂.slotsUsed } : State) L mc ms := by
      refine ⟨?_, q2, q3, q4, q5, q6⟩
      obtain ⟨t, ht, -⟩ := State.frames_cons hr
      show ({ U with heap := s₂.heap, slotsUsed := s₂.slotsUsed } : State) = { U.setFrames U.frames with heap := s₂.heap, slotsUsed := s₂.slotsUsed }
      rw [State.setFrames_self ht]
    subst hg
    refine Or.inr ⟨q, ⟨(({ U with heap := s₂.heap, slotsUsed := s₂.slotsUsed } : State).setVm s₂.vm), Ls ++ L, c0 + mc, s0 + ms⟩,
      ⟨X.admits, X.cas, X.clock, X.frames, X.room, X.hears, X.method, X.code, (X.here.setHeapUsed s₂.heap s₂.slotsUsed).setVm hW'.alike, X.tail, State.WarmedH.trans X.warmed hW', X.limits, X.bytes, X.same.trans (hsame.setVm s.vm)⟩,
      ⟨g, mk, s₂, L, E, ce, rfl, rfl, hx, hce, hcv, hcl, rfl, hL, rfl, rfl⟩, ?_⟩
    show Steps p.tables e below _ (((({ U with heap := s₂.heap, slotsUsed := s₂.slotsUsed } : State).setVm s₂.vm).setTop g).pushFrame (.throwing q))
    rw [← hs₂]
    exact hsteps
end
variable {p : Program} {l : Launch} {e : Env} {R : Room} {s : State} {m : MethodId} {args : Array Value} {below : List Frame} {meth : Method} {c : Code} {T : State} {H : Heap} {locs : List Loc} {cells slots : Nat}
theorem vx_callVX (X : Stand p l e R s m args below meth c T locs cells slots) (hexec : p.tables.exec = Jvm.exec) {own C : String} {index : Nat} {y : MethodName} {bytes : ByteArray} {maxL : Nat} {ret : Option FieldType} {hh : List (Nat × Nat × Nat × Nat)}
    (hown : s.vm.findClass own = some m.cls) (hlink : (Cond.methodLink own index y).before args s = true) (hinst : (Cond.instanceMethod y).before args s = true) (hsel : (Cond.selects C y y).before args s = true)
    (hcode : (Cond.codeWith y bytes maxL ret hh).before args s = true) (hy : y.cls ≠ "java/lang/invoke/MethodHandle" ∧ y.cls ≠ "java/lang/invoke/VarHandle")
    {W9 : Nat} {Pre : Pt → Array Value → Prop} {Post : Pt → Array Value → Option Value → Pt → Prop} {PostX : Pt → Array Value → Addr → Pt → Prop} (hK : vx_Back l R p e below s args y 3 W9 Pre Post PostX)
    {b : Addr} {cellB : Cell} (hcell : T.heap[b]? = some cellB) (hobj : cellB.vm.isStatics = false) (hcls : s.vm.findClass C = some cellB.cls)
    {g : JFrame} (hg : g.method = m) (hsize : g.locals.size = c.maxLocals) {argsL rest : List Value} (hlen : ∀ sig, parseMethodDescriptor y.desc = some sig → argsL.length = sig.parameters.length)
    (hstack : g.stack = argsL.reverse ++ .ref b :: rest) (hW : 2 * g.monitorRoom + (rest.map fun v => v.category).sum ≤ W9) (hdg : decode c.code g.pc = .ok (.invokevirtual index, 3))
    (hpre : ∀ vm₁, s.WarmedH vm₁ → Pre ⟨T.setVm vm₁, locs, cells, slots⟩ (Value.ref b :: argsL).toArray) :
    (∃ (v : Option Value) (vm₁ : Vm) (B : Pt), s.WarmedH vm₁ ∧ Stand p l e R s m args below meth c B.U B.locs B.cells B.slots ∧ Post ⟨T.setVm vm₁, locs, cells, slots⟩ (Value.ref b :: argsL).toArray v B ∧
      ∀ target, Steps p.tables e below (B.U.setTop { g with pc := g.pc + 3, stack := v.toList ++ rest }) target → Steps p.tables e below (T.setTop g) target) ∨
    (∃ (q : Addr) (vm₁ : Vm) (B : Pt), s.WarmedH vm₁ ∧ Stand p l e R s m args below meth c B.U B.locs B.cells B.slots ∧ PostX ⟨T.setVm vm₁, locs, cells, slots⟩ (Value.ref b :: argsL).toArray q B ∧
      Steps p.tables e below (T.setTop g) ((B.U.setTop { g with stack := rest }).pushFrame (.throwing q))) := by
  obtain ⟨mk, methM, hnamed, hmethM, hstM, habM⟩ := Cond.instanceMethod_spec hinst
  obtain ⟨m8, methM', cM, hn8, hmethM', -, -, -, -, -, -, hsigM⟩ := Cond.codeWith_spec hcode
  cases Option.some.inj (hn8.symm.trans hnamed)
  cases hmethM.symm.trans hmethM'
  obtain ⟨c2, r2, m2, q1, q2, q3, q4, kP, hkP, hkPi⟩ := Cond.selects_spec hsel
  cases hcls.symm.trans q1
  cases (State.methodFound?_of_named hnamed hy).symm.trans q2
  cases hnamed.symm.trans q3
  have hselP : selectMethod e.platform s.vm cellB.cls mk = .method mk := by rw [Launch.admits_selectMethod X.admits]; exact q4
  obtain ⟨vm₁, X₁, hstep₁⟩ := X.invokevirtual hexec hown hlink hnamed hmethM hstM hkP hkPi hy (a := b) (cell := cellB) hcell
    (fun z h => by rw [h] at hobj; cases hobj) hselP hmethM habM hkP hkPi (g := g) hg (argsL := argsL) (rest := rest) (hlen _ hsigM) hstack hdg
  rcases hK m meth c ⟨T.setVm vm₁, locs, cells, slots⟩ { g with stack := rest } (.invokevirtual index) mk (Value.ref b :: argsL).toArray X₁ hg hsize hdg hW (X₁.named hnamed) (hpre vm₁ X₁.warmed) with ⟨v, B, X', hpost, hsteps⟩ | ⟨q, B, X', hpost, hsteps⟩
  · exact Or.inl ⟨v, vm₁, B, X₁.warmed, X', hpost, fun target h => hstep₁ _ fun acts => by rw [doInvoke_state]; exact hsteps.trans h⟩
  · exact Or.inr ⟨q, vm₁, B, X₁.warmed, X', hpost, hstep₁ _ fun acts => by rw [doInvoke_state]; exact hsteps⟩
theorem vx_callSX (X : Stand p l e R s m args below meth c T locs cells slots) (hexec : p.tables.exec = Jvm.exec) {own : String} {index : Nat} {y : MethodName} {bytes : ByteArray} {maxL : Nat} {ret : Option FieldType} {hh : List (Nat × Nat × Nat × Nat)}
    (hown : s.vm.findClass own = some m.cls) (hlink : (Cond.methodLink own index y).before args s = true) (hstat : (Cond.static y).before args s = true) (hinit : (Cond.initialized y.cls).before args s = true)
    (hcode : (Cond.codeWith y bytes maxL ret hh).before args s = true) (hy : y.cls ≠ "java/lang/invoke/MethodHandle" ∧ y.cls ≠ "java/lang/invoke/VarHandle")
    {W9 : Nat} {Pre : Pt → Array Value → Prop} {Post : Pt → Array Value → Option Value → Pt → Prop} {PostX : Pt → Array Value → Addr → Pt → Prop} (hK : vx_Back l R p e below s args y 3 W9 Pre Post PostX)
    {g : JFrame} (hg : g.method = m) (hsize : g.locals.size = c.maxLocals) {argsL rest : List Value} (hlen : ∀ sig, parseMethodDescriptor y.desc = some sig → argsL.length = sig.parameters.length)
    (hstack : g.stack = argsL.reverse ++ rest) (hW : 2 * g.monitorRoom + (rest.map fun v => v.category).sum ≤ W9) (hdg : decode c.code g.pc = .ok (.invokestatic index, 3))
    (hpre : ∀ vm₁, s.WarmedH vm₁ → Pre ⟨T.setVm vm₁, locs, cells, slots⟩ argsL.toArray) :
    (∃ (v : Option Value) (vm₁ : Vm) (B : Pt), s.WarmedH vm₁ ∧ Stand p l e R s m args below meth c B.U B.locs B.cells B.slots ∧ Post ⟨T.setVm vm₁, locs, cells, slots⟩ argsL.toArray v B ∧
      ∀ target, Steps p.tables e below (B.U.setTop { g with pc := g.pc + 3, stack := v.toList ++ rest }) target → Steps p.tables e below (T.setTop g) target) ∨
    (∃ (q : Addr) (vm₁ : Vm) (B : Pt), s.WarmedH vm₁ ∧ Stand p l e R s m args below meth c B.U B.locs B.cells B.slots ∧ PostX ⟨T.setVm vm₁, locs, cells, slots⟩ argsL.toArray q B ∧
      Steps p.tables e below (T.setTop g) ((B.U.setTop { g with stack := rest }).pushFrame (.throwing q))) := by
  obtain ⟨mk, methM, cM, hnamed, hmethM, -, -, -, -, -, -, hsigM⟩ := Cond.codeWith_spec hcode
  have hstatic : methM.isStatic = true := Cond.static_spec hnamed hmethM hstat
  obtain ⟨kP, hkP, -⟩ := className_of_methodNamed hnamed
  have hinitP : kP.init = .initialized := Cond.initialized_spec (findClass_of_methodNamed hnamed) hkP hinit
  obtain ⟨vm₁, X₁, hstep₁⟩ := X.invokestatic hexec hown hlink hnamed hmethM hstatic hkP hinitP hy (g := g) hg (argsL := argsL) (rest := rest) (hlen _ hsigM) hstack hdg
  rcases hK m meth c ⟨T.setVm vm₁, locs, cells, slots⟩ { g with stack := rest } (.invokestatic index) mk argsL.toArray X₁ hg hsize hdg hW (X₁.named hnamed) (hpre vm₁ X₁.warmed) with ⟨v, B, X', hpost, hsteps⟩ | ⟨q, B, X', hpost, hsteps⟩
  · exact Or.inl ⟨v, vm₁, B, X₁.warmed, X', hpost, fun target h => hstep₁ _ fun acts => by rw [doInvoke_state]; exact hsteps.trans h⟩
  · exact Or.inr ⟨q, vm₁, B, X₁.warmed, X', hpost, hstep₁ _ fun acts => by rw [doInvoke_state]; exact hsteps⟩
theorem vx_callVW (X : Stand p l e R s m args below meth c T locs cells slots) (hexec : p.tables.exec = Jvm.exec) {own C : String} {index : Nat} {y : MethodName} {bytes : ByteArray} {maxL : Nat} {ret : Option FieldType} {hh : List (Nat × Nat × Nat × Nat)}
    (hown : s.vm.findClass own = some m.cls) (hlink : (Cond.methodLink own index y).before args s = true) (hinst : (Cond.instanceMethod y).before args s = true) (hsel : (Cond.selects C y y).before args s = true)
    (hcode : (Cond.codeWith y bytes maxL ret hh).before args s = true) (hy : y.cls ≠ "java/lang/invoke/MethodHandle" ∧ y.cls ≠ "java/lang/invoke/VarHandle")
    {W9 : Nat} {Pre : Pt → Array Value → Prop} {Post : Pt → Array Value → Option Value → Pt → Prop} (hK : Back l R p e below s args y 3 W9 Pre Post)
    {b : Addr} {cellB : Cell} (hcell : T.heap[b]? = some cellB) (hobj : cellB.vm.isStatics = false) (hcls : s.vm.findClass C = some cellB.cls)
    {g : JFrame} (hg : g.method = m) (hsize : g.locals.size = c.maxLocals) {argsL rest : List Value} (hlen : ∀ sig, parseMethodDescriptor y.desc = some sig → argsL.length = sig.parameters.length)
    (hstack : g.stack = argsL.reverse ++ .ref b :: rest) (hW : 2 * g.monitorRoom + (rest.map fun v => v.category).sum ≤ W9) (hdg : decode c.code g.pc = .ok (.invokevirtual index, 3))
    (hpre : ∀ vm₁, s.WarmedH vm₁ → Pre ⟨T.setVm vm₁, locs, cells, slots⟩ (Value.ref b :: argsL).toArray) :
    ∃ (v : Option Value) (vm₁ : Vm) (B : Pt), s.WarmedH vm₁ ∧ Stand p l e R s m args below meth c B.U B.locs B.cells B.slots ∧ Post ⟨T.setVm vm₁, locs, cells, slots⟩ (Value.ref b :: argsL).toArray v B ∧
      ∀ target, Steps p.tables e below (B.U.setTop { g with pc := g.pc + 3, stack := v.toList ++ rest }) target → Steps p.tables e below (T.setTop g) target := by
  obtain ⟨mk, methM, hnamed, hmethM, hstM, habM⟩ := Cond.instanceMethod_spec hinst
  obtain ⟨m8, methM', cM, hn8, hmethM', -, -, -, -, -, -, hsigM⟩ := Cond.codeWith_spec hcode
  cases Option.some.inj (hn8.symm.trans hnamed)
  cases hmethM.symm.trans hmethM'
  obtain ⟨c2, r2, m2, q1, q2, q3, q4, kP, hkP, hkPi⟩ := Cond.selects_spec hsel
  cases hcls.symm.trans q1
  cases (State.methodFound?_of_named hnamed hy).symm.trans q2
  cases hnamed.symm.trans q3
  have hselP : selectMethod e.platform s.vm cellB.cls mk = .method mk := by rw [Launch.admits_selectMethod X.admits]; exact q4
  obtain ⟨vm₁, X₁, hstep₁⟩ := X.invokevirtual hexec hown hlink hnamed hmethM hstM hkP hkPi hy (a := b) (cell := cellB) hcell
    (fun z h => by rw [h] at hobj; cases hobj) hselP hmethM habM hkP hkPi (g := g) hg (argsL := argsL) (rest := rest) (hlen _ hsigM) hstack hdg
  obtain ⟨v, B, X', hpost, hsteps⟩ := hK m meth c ⟨T.setVm vm₁, locs, cells, slots⟩ { g with stack := rest } (.invokevirtual index) mk (Value.ref b :: argsL).toArray X₁ hg hsize hdg hW (X₁.named hnamed) (hpre vm₁ X₁.warmed)
  exact ⟨v, vm₁, B, X₁.warmed, X', hpost, fun target h => hstep₁ _ fun acts => by rw [doInvoke_state]; exact hsteps.trans h⟩
abbrev vx_CVW (R : Room) (s : State) (args : Array Value) (own C : String) (index : Nat) (y : MethodName) (bytes : ByteArray) (maxL : Nat) (ret : Option FieldType) (hh : List (Nat × Nat × Nat × Nat)) (ws : List Cond) (rm : Room) (mc ms n : Nat) : Prop :=
  (rm.cells = mc ∧ rm.slots = ms ∧ rm.frames + 1 ≤ R.frames ∧ 8 + (maxL + 11) + rm.locals ≤ R.locals ∧ (∀ w ∈ ws, ∀ (a' : Array Value) (U : State), s.WarmedH U.vm → w.before a' U = true) ∧ Cond.codeWith y bytes maxL ret hh ∈ ws) ∧
  (Cond.codeWith y bytes maxL ret hh).before args s = true ∧ (Cond.initialized y.cls).before args s = true ∧ (y.cls ≠ "java/lang/invoke/MethodHandle" ∧ y.cls ≠ "java/lang/invoke/VarHandle") ∧
  (∀ sig, parseMethodDescriptor y.desc = some sig → n = sig.parameters.length) ∧ (Cond.methodLink own index y).before args s = true ∧ (Cond.instanceMethod y).before args s = true ∧ (Cond.selects C y y).before args s = true
theorem vx_cwVW {own C : String} {index maxL mc ms : Nat} {y : MethodName} {bytes : ByteArray} {ret : Option FieldType} {hh : List (Nat × Nat × Nat × Nat)} {Ts ws ws' : List Cond} {rm : Room} (n : Nat) (ht : ∀ w ∈ Ts, w.before args s = true) (hT : GoodIn Ts (wsV own index C y ws)) (hw : ws = Cond.codeWith y bytes maxL ret hh :: ws') (hrc : rm.cells = mc) (hrs : rm.slots = ms)
    (hd : y.cls = C ∧ y.cls ≠ "java/lang/invoke/MethodHandle" ∧ y.cls ≠ "java/lang/invoke/VarHandle" ∧ (parseMethodDescriptor y.desc).map (fun d => d.parameters.length) = some n) (hR : rm.frames + 1 ≤ R.frames ∧ 8 + (maxL + 11) + rm.locals ≤ R.locals) :
    vx_CVW R s args own C index y bytes maxL ret hh ws rm mc ms n := by
  obtain ⟨hC, hd⟩ := hd
  subst hC
  have ok : ∀ w ∈ wsV own index y.cls y ws, w.before args s = true := fun w h => ht w (hT w h).1
  have hG : GoodIn Ts ws := fun w h => hT w (by unfold wsV; exact List.mem_append_right _ h)
  have hc : Cond.codeWith y bytes maxL ret hh ∈ ws := by rw [hw]; exact List.mem_cons_self
  refine ⟨⟨hrc, hrs, hR.1, hR.2, pay_in ht hG, hc⟩, ht _ (hG _ hc).1, ok _ (by simp [wsV]), ⟨hd.1, hd.2.1⟩, fun sig h => ?_, ok _ (by simp [wsV]), ok _ (by simp [wsV]), ok _ (by simp [wsV])⟩
  have h2 := hd.2.2
  rw [h] at h2
  exact (Option.some.inj h2).symm
theorem vx_runVW {y : MethodName} {bytes cc : ByteArray} {maxL nL mc ms n index : Nat} {ret : Option FieldType} {hh : List (Nat × Nat × Nat × Nat)} {ws : List Cond} {rm : Room} {Pc : Array Value → State → Prop} {Qc : Array Value → State → Outcome → State → Prop} {free : Addr → Prop} {Ts : List Cond} {own C : String} {b : Addr} {As rest : List Value} {g : JFrame}
    (S : CallFix p m c cc nL s args Ts own) (hM : Met l y ws rm Pc Qc mc ms free) (cw : vx_CVW R s args own C index y bytes maxL ret hh ws rm mc ms n) (hp : PreV s H C b Pc As)
    (hg : g.method = m) (hn : As.length = n) (hsize : g.locals.size = nL) (hstack : g.stack = As.reverse ++ .ref b :: rest) (hW : 2 * g.monitorRoom + (rest.map fun v => v.category).sum ≤ 8) (hdg : decode cc g.pc = .ok (.invokevirtual index, 3)) (hf : cells + mc ≤ R.cells ∧ slots + ms ≤ R.slots) :
    va_Run p l e R s m args below meth c H locs cells slots mc ms g rest (Qc (Value.ref b :: As).toArray) free := by
  obtain ⟨⟨hrc, hrs, hfr, hlo, hws, hcw⟩, hcode, hini, hy, hlen, hl, hin, hse⟩ := cw
  have hK : Back l R p e below s args y 3 8 (PreOf R mc ms Pc) (PostOf Qc mc ms free) := va_backW (hh := hh) (bytes := bytes) (maxL := maxL) (ret := ret) hM hp.1 hrc hrs hfr hlo hws hcw (fun a' U hW => word_at hW (Or.inl (by first | rfl | simp [Cond.onTables, Cond.keeps, Cond.steady])) hini)
  obtain ⟨hx, hb, hml, ho, -⟩ := S
  obtain ⟨-, ⟨cellB, hcB, hoB, hclB⟩, hPc⟩ := hp
  intro T hT X
  obtain ⟨v, vm₁, ⟨U', l2, c2, s2⟩, hW₁, X', ⟨g', mk, t, L, e1, e2, hq, h1, hL, h2, h3⟩, st⟩ := vx_callVW X hx (C := C) (hh := hh) (bytes := bytes) (maxL := maxL) (ret := ret) ho hl hin hse hcode hy hK (by rw [hT]; exact hcB) hoB hclB hg (hsize.trans hml.symm) (argsL := As) (rest := rest) (fun sig h => hn.trans (hlen sig h)) hstack hW (by rw [hb]; exact hdg)
    (fun vm₁ hW₁ => ⟨hf.1, hf.2, hPc (T.setVm vm₁) hT hW₁⟩)
  dsimp only [Pt.U, Pt.locs, Pt.cells, Pt.slots] at X' e1 e2 h1 h2 h3 st
  subst h1; subst h2; subst h3
  exact ⟨v, (T.setVm vm₁).calling g' mk (Value.ref b :: As).toArray, t, U', L, hT, X', hL, e1, e2, hq, st⟩
section
variable {y : MethodName} {bytes cc : ByteArray} {maxL nL mc ms n index : Nat} {ret : Option FieldType} {ws : List Cond} {rm : Room} {Pc : Array Value → State → Prop} {Qc : Array Value → State → Outcome → State → Prop} {XC : String → State → State → Prop} {free : Addr → Prop} {Ts : List Cond} {own C : String} {b : Addr} {As rest : List Value} {g : JFrame}
theorem vx_runVX {hh : List (Nat × Nat × Nat × Nat)} (S : CallFix p m c cc nL s args Ts own) (hM : vx_Met l y ws rm Pc Qc XC mc ms free) (cw : vx_CVW R s args own C index y bytes maxL ret hh ws rm mc ms n) (hp : PreV s H C b Pc As)
    (hg : g.method = m) (hn : As.length = n) (hsize : g.locals.size = nL) (hstack : g.stack = As.reverse ++ .ref b :: rest) (hW : 2 * g.monitorRoom + (rest.map fun v => v.category).sum ≤ 8) (hdg : decode cc g.pc = .ok (.invokevirtual index, 3)) (hf : cells + mc ≤ R.cells ∧ slots + ms ≤ R.slots) :
    vx_Run p l e R s m args below meth c H locs cells slots mc ms g rest (Qc (Value.ref b :: As).toArray) XC free := by
  obtain ⟨⟨hrc, hrs, hfr, hlo, hws, hcw⟩, hcode, hini, hy, hlen, hl, hin, hse⟩ := cw
  have hK : vx_Back l R p e below s args y 3 8 (PreOf R mc ms Pc) (PostOf Qc mc ms free) (vx_Post XC mc ms free) := vx_backW (hh := hh) (bytes := bytes) (maxL := maxL) (ret := ret) hM hp.1 hrc hrs hfr hlo hws hcw (fun a' U hW => word_at hW (Or.inl (by first | rfl | simp [Cond.onTables, Cond.keeps, Cond.steady])) hini)
  obtain ⟨hx, hb, hml, ho, -⟩ := S
  obtain ⟨-, ⟨cellB, hcB, hoB, hclB⟩, hPc⟩ := hp
  intro T hT X
  rcases vx_callVX X hx (C := C) (hh := hh) (bytes := bytes) (maxL := maxL) (ret := ret) ho hl hin hse hcode hy hK (by rw [hT]; exact hcB) hoB hclB hg (hsize.trans hml.symm) (argsL := As) (rest := rest) (fun sig h => hn.trans (hlen sig h)) hstack hW (by rw [hb]; exact hdg)
    (fun vm₁ hW₁ => ⟨hf.1, hf.2, hPc (T.setVm vm₁) hT hW₁⟩) with ⟨v, vm₁, ⟨U', l2, c2, s2⟩, hW₁, X', ⟨g', mk, t, L, e1, e2, hq, h1, hL, h2, h3⟩, st⟩ | ⟨q, vm₁, ⟨U', l2, c2, s2⟩, hW₁, X', ⟨g', mk, t, L, E, ce, e1, e2, hq, hce, hcv, hcl, h1, hL, h2, h3⟩, st⟩
  · dsimp only [Pt.U, Pt.locs, Pt.cells, Pt.slots] at X' e1 e2 h1 h2 h3 st
    subst h1; subst h2; subst h3
    exact Or.inl ⟨v, (T.setVm vm₁).calling g' mk (Value.ref b :: As).toArray, t, U', L, hT, X', hL, e1, e2, hq, st⟩
  · dsimp only [Pt.U, Pt.locs, Pt.cells, Pt.slots] at X' e1 e2 h1 h2 h3 st hcl
    subst h1; subst h2; subst h3
    exact Or.inr ⟨q, (T.setVm vm₁).calling g' mk (Value.ref b :: As).toArray, t, U', L, E, ce, hT, X', hL, e1, e2, hq, hce, hcv, vx_cls hW₁ hcl, st⟩
theorem vx_runSX {hh : List (Nat × Nat × Nat × Nat)} (S : CallFix p m c cc nL s args Ts own) (hM : vx_Met l y ws rm Pc Qc XC mc ms free) (cw : vx_CSW R s args own index y bytes maxL ret hh ws rm mc ms n) (hp : PreS s H Pc As)
    (hg : g.method = m) (hn : As.length = n) (hsize : g.locals.size = nL) (hstack : g.stack = As.reverse ++ rest) (hW : 2 * g.monitorRoom + (rest.map fun v => v.category).sum ≤ 8) (hdg : decode cc g.pc = .ok (.invokestatic index, 3)) (hf : cells + mc ≤ R.cells ∧ slots + ms ≤ R.slots) :
    vx_Run p l e R s m args below meth c H locs cells slots mc ms g rest (Qc As.toArray) XC free := by
  obtain ⟨⟨hrc, hrs, hfr, hlo, hws, hcw⟩, hcode, hini, hy, hlen, hl, hstt⟩ := cw
  have hK : vx_Back l R p e below s args y 3 8 (PreOf R mc ms Pc) (PostOf Qc mc ms free) (vx_Post XC mc ms free) := vx_backW (hh := hh) (bytes := bytes) (maxL := maxL) (ret := ret) hM hp.1 hrc hrs hfr hlo hws hcw (fun a' U hW => word_at hW (Or.inl (by first | rfl | simp [Cond.onTables, Cond.keeps, Cond.steady])) hini)
  obtain ⟨hx, hb, hml, ho, -⟩ := S
  intro T hT X
  rcases vx_callSX X hx (hh := hh) (bytes := bytes) (maxL := maxL) (ret := ret) ho hl hstt hini hcode hy hK hg (hsize.trans hml.symm) (argsL := As) (rest := rest) (fun sig h => hn.trans (hlen sig h)) hstack hW (by rw [hb]; exact hdg)
    (fun vm₁ hW₁ => ⟨hf.1, hf.2, hp.2 (T.setVm vm₁) hT hW₁⟩) with ⟨v, vm₁, ⟨U', l2, c2, s2⟩, hW₁, X', ⟨g', mk, t, L, e1, e2, hq, h1, hL, h2, h3⟩, st⟩ | ⟨q, vm₁, ⟨U', l2, c2, s2⟩, hW₁, X', ⟨g', mk, t, L, E, ce, e1, e2, hq, hce, hcv, hcl, h1, hL, h2, h3⟩, st⟩
  · dsimp only [Pt.U, Pt.locs, Pt.cells, Pt.slots] at X' e1 e2 h1 h2 h3 st
    subst h1; subst h2; subst h3
    exact Or.inl ⟨v, (T.setVm vm₁).calling g' mk As.toArray, t, U', L, hT, X', hL, e1, e2, hq, st⟩
  · dsimp only [Pt.U, Pt.locs, Pt.cells, Pt.slots] at X' e1 e2 h1 h2 h3 st hcl
    subst h1; subst h2; subst h3
    exact Or.inr ⟨q, (T.setVm vm₁).calling g' mk As.toArray, t, U', L, E, ce, hT, X', hL, e1, e2, hq, hce, hcv, vx_cls hW₁ hcl, st⟩
end
end VXH
theorem vx_ofWH {l : Launch} {y : MethodName} {ws ws' : List Cond} {rm : Room} {Pc : Array Value → State → Prop} {Qc : Array Value → State → Outcome → State → Prop} {XC : String → State → State → Prop} {mc ms : Nat} {free : Addr → Prop} {cc : ByteArray} {maxL : Nat} {ret : Option FieldType} {hh : List (Nat × Nat × Nat × Nat)}
    (hy : plainName y.cls = true) (hw : ws = Cond.codeWith y cc maxL ret hh :: ws')
    (body : ∀ p e s m args below meth c s₁, BodyLoose p l y (headSpec ws rm) cc maxL ret e s m args below meth c s₁ → c.maxLocals = maxL → Pc args s →
      W p l e (headSpec ws rm).room s m args below meth c s.heap [] 0 0 (vx_MQ below Qc XC args s mc ms free) (entryFrame m args maxL)) : vx_Met l y ws rm Pc Qc XC mc ms free := by
  refine MetFree.of_bodyS (code := cc) (maxLocals := maxL) (ret := ret) hy ?_ ?_
  · intro args s m h hn
    obtain ⟨m9, meth, c, hn9, h1, h2, h3, h4, -, h5, h6, -⟩ := Cond.codeWith_spec (atoms_spec (ws := ws) h _ (by rw [hw]; exact List.mem_cons_self))
    cases hn.symm.trans hn9
    exact ⟨meth, c, h1, h2, h3, h4, h5, h6⟩
  · intro p e s m args below meth c s₁ B hml hP _
    have hh0 : s₁.heap = s.heap := by rw [B.state]; rfl
    obtain ⟨t, a1, o, b1, b2, b3⟩ := body p e s m args below meth c s₁ B hml hP s₁ hh0 (Stand.of_body B)
    exact ⟨t, o, a1, b1, b2, b3⟩
/-! ===== END ===== -/
end
section
/-! names of the classes, their fields, their methods -/
def fn_R_Mm : String := "FetchDesk$Memory"
def fn_T_Mm : u_T := fun k => match k with
  | 0 => ("FetchDesk$Memory", "permits", "[LFetchDesk$Permit;", true)
  | _ => ("FetchDesk$Memory", "size", "I", false)
def fn_t_Mm : Nat → FieldType := fun k => match k with
  | 0 => .array (.object "FetchDesk$Permit")
  | _ => .int
theorem fn_n_Mm : ∀ a, a < 2 → ∀ b, b < 2 → a ≠ b → (fn_T_Mm a).2.1 ≠ (fn_T_Mm b).2.1 := by decide +kernel
theorem fn_k_Mm : ∀ k, k < 2 → parseFieldDescriptor (fn_T_Mm k).2.2.1 = some (fn_t_Mm k) := by decide +kernel
theorem fl_128 : (Cond.laysFinal fn_R_Mm "FetchDesk$Memory" "permits" "[LFetchDesk$Permit;") ∈ fb_tbl := fb_mem1 (i := 128) rfl rfl
theorem fl_130 : (Cond.lays fn_R_Mm "FetchDesk$Memory" "size" "I") ∈ fb_tbl := fb_mem1 (i := 130) rfl rfl
theorem fn_i_Mm : ∀ w ∈ u_ws fn_R_Mm fn_T_Mm 2, w ∈ fb_tbl := List.forall_mem_cons.mpr ⟨fl_128, List.forall_mem_cons.mpr ⟨fl_130, fun _ h => absurd h List.not_mem_nil⟩⟩
theorem fn_j_Mm {x : Cond} : ∀ w ∈ u_ws fn_R_Mm fn_T_Mm 2, w ∈ x :: fb_tbl := fun w h => List.mem_cons_of_mem _ (fn_i_Mm w h)
def fn_R_Pm : String := "FetchDesk$Permit"
def fn_T_Pm : u_T := fun k => match k with
  | 0 => ("FetchDesk$Permit", "origin", "I", false)
  | 1 => ("FetchDesk$Permit", "url", "I", false)
  | 2 => ("FetchDesk$Permit", "withCredentials", "Z", false)
  | 3 => ("FetchDesk$Permit", "methods", "I", false)
  | 4 => ("FetchDesk$Permit", "headers", "I", false)
  | _ => ("FetchDesk$Permit", "end", "D", false)
def fn_t_Pm : Nat → FieldType := fun k => match k with
  | 0 => .int
  | 1 => .int
  | 2 => .boolean
  | 3 => .int
  | 4 => .int
  | _ => .double
theorem fn_n_Pm : ∀ a, a < 6 → ∀ b, b < 6 → a ≠ b → (fn_T_Pm a).2.1 ≠ (fn_T_Pm b).2.1 := by decide +kernel
theorem fn_k_Pm : ∀ k, k < 6 → parseFieldDescriptor (fn_T_Pm k).2.2.1 = some (fn_t_Pm k) := by decide +kernel
theorem fl_111 : (Cond.lays fn_R_Pm "FetchDesk$Permit" "origin" "I") ∈ fb_tbl := fb_mem1 (i := 111) rfl rfl
theorem fl_113 : (Cond.lays fn_R_Pm "FetchDesk$Permit" "url" "I") ∈ fb_tbl := fb_mem1 (i := 113) rfl rfl
theorem fl_115 : (Cond.lays fn_R_Pm "FetchDesk$Permit" "withCredentials" "Z") ∈ fb_tbl := fb_mem1 (i := 115) rfl rfl
theorem fl_117 : (Cond.lays fn_R_Pm "FetchDesk$Permit" "methods" "I") ∈ fb_tbl := fb_mem1 (i := 117) rfl rfl
theorem fl_119 : (Cond.lays fn_R_Pm "FetchDesk$Permit" "headers" "I") ∈ fb_tbl := fb_mem1 (i := 119) rfl rfl
theorem fl_121 : (Cond.lays fn_R_Pm "FetchDesk$Permit" "end" "D") ∈ fb_tbl := fb_mem1 (i := 121) rfl rfl
theorem fn_i_Pm : ∀ w ∈ u_ws fn_R_Pm fn_T_Pm 6, w ∈ fb_tbl := List.forall_mem_cons.mpr ⟨fl_111, List.forall_mem_cons.mpr ⟨fl_113, List.forall_mem_cons.mpr ⟨fl_115, List.forall_mem_cons.mpr ⟨fl_117, List.forall_mem_cons.mpr ⟨fl_119, List.forall_mem_cons.mpr ⟨fl_121, fun _ h => absurd h List.not_mem_nil⟩⟩⟩⟩⟩⟩
theorem fn_j_Pm {x : Cond} : ∀ w ∈ u_ws fn_R_Pm fn_T_Pm 6, w ∈ x :: fb_tbl := fun w h => List.mem_cons_of_mem _ (fn_i_Pm w h)
def fn_R_Rq : String := "FetchDesk$Request"
def fn_T_Rq : u_T := fun k => match k with
  | 0 => ("FetchDesk$Request", "origin", "I", false)
  | 1 => ("FetchDesk$Request", "url", "I", false)
  | 2 => ("FetchDesk$Request", "method", "I", false)
  | 3 => ("FetchDesk$Request", "headers", "I", false)
  | 4 => ("FetchDesk$Request", "mode", "I", false)
  | 5 => ("FetchDesk$Request", "credentials", "I", false)
  | 6 => ("FetchDesk$Request", "redirects", "I", false)
  | 7 => ("FetchDesk$Request", "rounds", "I", false)
  | 8 => ("FetchDesk$Request", "far", "Z", false)
  | 9 => ("FetchDesk$Request", "sendsCredentials", "Z", false)
  | 10 => ("FetchDesk$Request", "error", "I", false)
  | 11 => ("FetchDesk$Request", "shownStatus", "I", false)
  | 12 => ("FetchDesk$Request", "shownBody", "I", false)
  | 13 => ("FetchDesk$Request", "shownHeaders", "I", false)
  | _ => ("FetchDesk$Request", "sort", "I", false)
def fn_t_Rq : Nat → FieldType := fun k => match k with
  | 0 => .int
  | 1 => .int
  | 2 => .int
  | 3 => .int
  | 4 => .int
  | 5 => .int
  | 6 => .int
  | 7 => .int
  | 8 => .boolean
  | 9 => .boolean
  | 10 => .int
  | 11 => .int
  | 12 => .int
  | 13 => .int
  | _ => .int
theorem fn_n_Rq : ∀ a, a < 15 → ∀ b, b < 15 → a ≠ b → (fn_T_Rq a).2.1 ≠ (fn_T_Rq b).2.1 := by decide +kernel
theorem fn_k_Rq : ∀ k, k < 15 → parseFieldDescriptor (fn_T_Rq k).2.2.1 = some (fn_t_Rq k) := by decide +kernel
theorem fl_173 : (Cond.lays fn_R_Rq "FetchDesk$Request" "origin" "I") ∈ fb_tbl := fb_mem1 (i := 173) rfl rfl
theorem fl_175 : (Cond.lays fn_R_Rq "FetchDesk$Request" "url" "I") ∈ fb_tbl := fb_mem1 (i := 175) rfl rfl
theorem fl_177 : (Cond.lays fn_R_Rq "FetchDesk$Request" "method" "I") ∈ fb_tbl := fb_mem1 (i := 177) rfl rfl
theorem fl_179 : (Cond.lays fn_R_Rq "FetchDesk$Request" "headers" "I") ∈ fb_tbl := fb_mem1 (i := 179) rfl rfl
theorem fl_181 : (Cond.lays fn_R_Rq "FetchDesk$Request" "mode" "I") ∈ fb_tbl := fb_mem1 (i := 181) rfl rfl
theorem fl_183 : (Cond.lays fn_R_Rq "FetchDesk$Request" "credentials" "I") ∈ fb_tbl := fb_mem1 (i := 183) rfl rfl
theorem fl_185 : (Cond.lays fn_R_Rq "FetchDesk$Request" "redirects" "I") ∈ fb_tbl := fb_mem1 (i := 185) rfl rfl
theorem fl_187 : (Cond.lays fn_R_Rq "FetchDesk$Request" "rounds" "I") ∈ fb_tbl := fb_mem1 (i := 187) rfl rfl
theorem fl_189 : (Cond.lays fn_R_Rq "FetchDesk$Request" "far" "Z") ∈ fb_tbl := fb_mem1 (i := 189) rfl rfl
theorem fl_191 : (Cond.lays fn_R_Rq "FetchDesk$Request" "sendsCredentials" "Z") ∈ fb_tbl := fb_mem1 (i := 191) rfl rfl
theorem fl_193 : (Cond.lays fn_R_Rq "FetchDesk$Request" "error" "I") ∈ fb_tbl := fb_mem1 (i := 193) rfl rfl
theorem fl_195 : (Cond.lays fn_R_Rq "FetchDesk$Request" "shownStatus" "I") ∈ fb_tbl := fb_mem1 (i := 195) rfl rfl
theorem fl_197 : (Cond.lays fn_R_Rq "FetchDesk$Request" "shownBody" "I") ∈ fb_tbl := fb_mem1 (i := 197) rfl rfl
theorem fl_199 : (Cond.lays fn_R_Rq "FetchDesk$Request" "shownHeaders" "I") ∈ fb_tbl := fb_mem1 (i := 199) rfl rfl
theorem fl_201 : (Cond.lays fn_R_Rq "FetchDesk$Request" "sort" "I") ∈ fb_tbl := fb_mem1 (i := 201) rfl rfl
theorem fn_i_Rq : ∀ w ∈ u_ws fn_R_Rq fn_T_Rq 15, w ∈ fb_tbl := List.forall_mem_cons.mpr ⟨fl_173, List.forall_mem_cons.mpr ⟨fl_175, List.forall_mem_cons.mpr ⟨fl_177, List.forall_mem_cons.mpr ⟨fl_179, List.forall_mem_cons.mpr ⟨fl_181, List.forall_mem_cons.mpr ⟨fl_183, List.forall_mem_cons.mpr ⟨fl_185, List.forall_mem_cons.mpr ⟨fl_187, List.forall_mem_cons.mpr ⟨fl_189, List.forall_mem_cons.mpr ⟨fl_191, List.forall_mem_cons.mpr ⟨fl_193, List.forall_mem_cons.mpr ⟨fl_195, List.forall_mem_cons.mpr ⟨fl_197, List.forall_mem_cons.mpr ⟨fl_199, List.forall_mem_cons.mpr ⟨fl_201, fun _ h => absurd h List.not_mem_nil⟩⟩⟩⟩⟩⟩⟩⟩⟩⟩⟩⟩⟩⟩⟩
theorem fn_j_Rq {x : Cond} : ∀ w ∈ u_ws fn_R_Rq fn_T_Rq 15, w ∈ x :: fb_tbl := fun w h => List.mem_cons_of_mem _ (fn_i_Rq w h)
def fn_R_Rs : String := "FetchDesk$Resource"
def fn_T_Rs : u_T := fun k => match k with
  | 0 => ("FetchDesk$Resource", "status", "I", false)
  | 1 => ("FetchDesk$Resource", "body", "I", false)
  | 2 => ("FetchDesk$Resource", "target", "I", false)
  | 3 => ("FetchDesk$Resource", "givenHeaders", "I", false)
  | 4 => ("FetchDesk$Resource", "exposedHeaders", "I", false)
  | 5 => ("FetchDesk$Resource", "allowedOrigins", "I", false)
  | 6 => ("FetchDesk$Resource", "allowsCredentials", "Z", false)
  | 7 => ("FetchDesk$Resource", "okWhenAsked", "Z", false)
  | 8 => ("FetchDesk$Resource", "askedMethods", "I", false)
  | 9 => ("FetchDesk$Resource", "askedHeaders", "I", false)
  | 10 => ("FetchDesk$Resource", "age", "D", false)
  | 11 => ("FetchDesk$Resource", "requestedCount", "I", false)
  | _ => ("FetchDesk$Resource", "requestedWithCredentialsCount", "I", false)
def fn_t_Rs : Nat → FieldType := fun k => match k with
  | 0 => .int
  | 1 => .int
  | 2 => .int
  | 3 => .int
  | 4 => .int
  | 5 => .int
  | 6 => .boolean
  | 7 => .boolean
  | 8 => .int
  | 9 => .int
  | 10 => .double
  | 11 => .int
  | _ => .int
theorem fn_n_Rs : ∀ a, a < 13 → ∀ b, b < 13 → a ≠ b → (fn_T_Rs a).2.1 ≠ (fn_T_Rs b).2.1 := by decide +kernel
theorem fn_k_Rs : ∀ k, k < 13 → parseFieldDescriptor (fn_T_Rs k).2.2.1 = some (fn_t_Rs k) := by decide +kernel
theorem fl_53 : (Cond.lays fn_R_Rs "FetchDesk$Resource" "status" "I") ∈ fb_tbl := fb_mem1 (i := 53) rfl rfl
theorem fl_55 : (Cond.lays fn_R_Rs "FetchDesk$Resource" "body" "I") ∈ fb_tbl := fb_mem1 (i := 55) rfl rfl
theorem fl_57 : (Cond.lays fn_R_Rs "FetchDesk$Resource" "target" "I") ∈ fb_tbl := fb_mem1 (i := 57) rfl rfl
theorem fl_59 : (Cond.lays fn_R_Rs "FetchDesk$Resource" "givenHeaders" "I") ∈ fb_tbl := fb_mem1 (i := 59) rfl rfl
theorem fl_61 : (Cond.lays fn_R_Rs "FetchDesk$Resource" "exposedHeaders" "I") ∈ fb_tbl := fb_mem1 (i := 61) rfl rfl
theorem fl_63 : (Cond.lays fn_R_Rs "FetchDesk$Resource" "allowedOrigins" "I") ∈ fb_tbl := fb_mem1 (i := 63) rfl rfl
theorem fl_65 : (Cond.lays fn_R_Rs "FetchDesk$Resource" "allowsCredentials" "Z") ∈ fb_tbl := fb_mem1 (i := 65) rfl rfl
theorem fl_67 : (Cond.lays fn_R_Rs "FetchDesk$Resource" "okWhenAsked" "Z") ∈ fb_tbl := fb_mem1 (i := 67) rfl rfl
theorem fl_69 : (Cond.lays fn_R_Rs "FetchDesk$Resource" "askedMethods" "I") ∈ fb_tbl := fb_mem1 (i := 69) rfl rfl
theorem fl_71 : (Cond.lays fn_R_Rs "FetchDesk$Resource" "askedHeaders" "I") ∈ fb_tbl := fb_mem1 (i := 71) rfl rfl
theorem fl_73 : (Cond.lays fn_R_Rs "FetchDesk$Resource" "age" "D") ∈ fb_tbl := fb_mem1 (i := 73) rfl rfl
theorem fl_75 : (Cond.lays fn_R_Rs "FetchDesk$Resource" "requestedCount" "I") ∈ fb_tbl := fb_mem1 (i := 75) rfl rfl
theorem fl_77 : (Cond.lays fn_R_Rs "FetchDesk$Resource" "requestedWithCredentialsCount" "I") ∈ fb_tbl := fb_mem1 (i := 77) rfl rfl
theorem fn_i_Rs : ∀ w ∈ u_ws fn_R_Rs fn_T_Rs 13, w ∈ fb_tbl := List.forall_mem_cons.mpr ⟨fl_53, List.forall_mem_cons.mpr ⟨fl_55, List.forall_mem_cons.mpr ⟨fl_57, List.forall_mem_cons.mpr ⟨fl_59, List.forall_mem_cons.mpr ⟨fl_61, List.forall_mem_cons.mpr ⟨fl_63, List.forall_mem_cons.mpr ⟨fl_65, List.forall_mem_cons.mpr ⟨fl_67, List.forall_mem_cons.mpr ⟨fl_69, List.forall_mem_cons.mpr ⟨fl_71, List.forall_mem_cons.mpr ⟨fl_73, List.forall_mem_cons.mpr ⟨fl_75, List.forall_mem_cons.mpr ⟨fl_77, fun _ h => absurd h List.not_mem_nil⟩⟩⟩⟩⟩⟩⟩⟩⟩⟩⟩⟩⟩
theorem fn_j_Rs {x : Cond} : ∀ w ∈ u_ws fn_R_Rs fn_T_Rs 13, w ∈ x :: fb_tbl := fun w h => List.mem_cons_of_mem _ (fn_i_Rs w h)
def fn_R_Dk : String := "FetchDesk"
def fn_T_Dk : u_T := fun k => match k with
  | 0 => ("FetchDesk", "resources", "[LFetchDesk$Resource;", true)
  | 1 => ("FetchDesk", "memory", "LFetchDesk$Memory;", true)
  | 2 => ("FetchDesk", "latest", "LFetchDesk$Request;", true)
  | 3 => ("FetchDesk", "time", "D", false)
  | 4 => ("FetchDesk", "requestCount", "I", false)
  | 5 => ("FetchDesk", "errorCount", "I", false)
  | 6 => ("FetchDesk", "requestedCount", "I", false)
  | 7 => ("FetchDesk", "askedCount", "I", false)
  | _ => ("FetchDesk", "rememberedCount", "I", false)
def fn_t_Dk : Nat → FieldType := fun k => match k with
  | 0 => .array (.object "FetchDesk$Resource")
  | 1 => .object "FetchDesk$Memory"
  | 2 => .object "FetchDesk$Request"
  | 3 => .double
  | 4 => .int
  | 5 => .int
  | 6 => .int
  | 7 => .int
  | _ => .int
theorem fn_n_Dk : ∀ a, a < 9 → ∀ b, b < 9 → a ≠ b → (fn_T_Dk a).2.1 ≠ (fn_T_Dk b).2.1 := by decide +kernel
theorem fn_k_Dk : ∀ k, k < 9 → parseFieldDescriptor (fn_T_Dk k).2.2.1 = some (fn_t_Dk k) := by decide +kernel
theorem fl_213 : (Cond.laysFinal fn_R_Dk "FetchDesk" "resources" "[LFetchDesk$Resource;") ∈ fb_tbl := fb_mem1 (i := 213) rfl rfl
theorem fl_215 : (Cond.laysFinal fn_R_Dk "FetchDesk" "memory" "LFetchDesk$Memory;") ∈ fb_tbl := fb_mem1 (i := 215) rfl rfl
theorem fl_217 : (Cond.laysFinal fn_R_Dk "FetchDesk" "latest" "LFetchDesk$Request;") ∈ fb_tbl := fb_mem1 (i := 217) rfl rfl
theorem fl_219 : (Cond.lays fn_R_Dk "FetchDesk" "time" "D") ∈ fb_tbl := fb_mem1 (i := 219) rfl rfl
theorem fl_221 : (Cond.lays fn_R_Dk "FetchDesk" "requestCount" "I") ∈ fb_tbl := fb_mem1 (i := 221) rfl rfl
theorem fl_223 : (Cond.lays fn_R_Dk "FetchDesk" "errorCount" "I") ∈ fb_tbl := fb_mem1 (i := 223) rfl rfl
theorem fl_225 : (Cond.lays fn_R_Dk "FetchDesk" "requestedCount" "I") ∈ fb_tbl := fb_mem1 (i := 225) rfl rfl
theorem fl_227 : (Cond.lays fn_R_Dk "FetchDesk" "askedCount" "I") ∈ fb_tbl := fb_mem1 (i := 227) rfl rfl
theorem fl_229 : (Cond.lays fn_R_Dk "FetchDesk" "rememberedCount" "I") ∈ fb_tbl := fb_mem1 (i := 229) rfl rfl
theorem fn_i_Dk : ∀ w ∈ u_ws fn_R_Dk fn_T_Dk 9, w ∈ fb_tbl := List.forall_mem_cons.mpr ⟨fl_213, List.forall_mem_cons.mpr ⟨fl_215, List.forall_mem_cons.mpr ⟨fl_217, List.forall_mem_cons.mpr ⟨fl_219, List.forall_mem_cons.mpr ⟨fl_221, List.forall_mem_cons.mpr ⟨fl_223, List.forall_mem_cons.mpr ⟨fl_225, List.forall_mem_cons.mpr ⟨fl_227, List.forall_mem_cons.mpr ⟨fl_229, fun _ h => absurd h List.not_mem_nil⟩⟩⟩⟩⟩⟩⟩⟩⟩
theorem fn_j_Dk {x : Cond} : ∀ w ∈ u_ws fn_R_Dk fn_T_Dk 9, w ∈ x :: fb_tbl := fun w h => List.mem_cons_of_mem _ (fn_i_Dk w h)
def fn_R_Md : String := "FetchDeskModel"
def fn_T_Md : u_T := fun k => match k with
  | 0 => ("FetchDeskModel", "status", "[I", true)
  | 1 => ("FetchDeskModel", "body", "[I", true)
  | 2 => ("FetchDeskModel", "target", "[I", true)
  | 3 => ("FetchDeskModel", "given", "[I", true)
  | 4 => ("FetchDeskModel", "exposed", "[I", true)
  | 5 => ("FetchDeskModel", "allowed", "[I", true)
  | 6 => ("FetchDeskModel", "methods", "[I", true)
  | 7 => ("FetchDeskModel", "takes", "[I", true)
  | 8 => ("FetchDeskModel", "requested", "[I", true)
  | 9 => ("FetchDeskModel", "trusted", "[I", true)
  | 10 => ("FetchDeskModel", "trusts", "[Z", true)
  | 11 => ("FetchDeskModel", "ok", "[Z", true)
  | 12 => ("FetchDeskModel", "withKept", "[Z", true)
  | 13 => ("FetchDeskModel", "age", "[D", true)
  | 14 => ("FetchDeskModel", "endKept", "[D", true)
  | 15 => ("FetchDeskModel", "originKept", "[I", true)
  | 16 => ("FetchDeskModel", "urlKept", "[I", true)
  | 17 => ("FetchDeskModel", "methodsKept", "[I", true)
  | 18 => ("FetchDeskModel", "headersKept", "[I", true)
  | 19 => ("FetchDeskModel", "told", "[I", true)
  | 20 => ("FetchDeskModel", "time", "D", false)
  | 21 => ("FetchDeskModel", "kept", "I", false)
  | 22 => ("FetchDeskModel", "requests", "I", false)
  | 23 => ("FetchDeskModel", "errors", "I", false)
  | 24 => ("FetchDeskModel", "all", "I", false)
  | 25 => ("FetchDeskModel", "asks", "I", false)
  | 26 => ("FetchDeskModel", "remembered", "I", false)
  | 27 => ("FetchDeskModel", "thrown", "I", false)
  | 28 => ("FetchDeskModel", "origin", "I", false)
  | 29 => ("FetchDeskModel", "url", "I", false)
  | 30 => ("FetchDeskModel", "method", "I", false)
  | 31 => ("FetchDeskModel", "headers", "I", false)
  | _ => ("FetchDeskModel", "sent", "Z", false)
def fn_t_Md : Nat → FieldType := fun k => match k with
  | 0 => .array .int
  | 1 => .array .int
  | 2 => .array .int
  | 3 => .array .int
  | 4 => .array .int
  | 5 => .array .int
  | 6 => .array .int
  | 7 => .array .int
  | 8 => .array .int
  | 9 => .array .int
  | 10 => .array .boolean
  | 11 => .array .boolean
  | 12 => .array .boolean
  | 13 => .array .double
  | 14 => .array .double
  | 15 => .array .int
  | 16 => .array .int
  | 17 => .array .int
  | 18 => .array .int
  | 19 => .array .int
  | 20 => .double
  | 21 => .int
  | 22 => .int
  | 23 => .int
  | 24 => .int
  | 25 => .int
  | 26 => .int
  | 27 => .int
  | 28 => .int
  | 29 => .int
  | 30 => .int
  | 31 => .int
  | _ => .boolean
theorem fn_n_Md : ∀ a, a < 33 → ∀ b, b < 33 → a ≠ b → (fn_T_Md a).2.1 ≠ (fn_T_Md b).2.1 := by decide +kernel
theorem fn_k_Md : ∀ k, k < 33 → parseFieldDescriptor (fn_T_Md k).2.2.1 = some (fn_t_Md k) := by decide +kernel
theorem fl_560 : (Cond.laysFinal fn_R_Md "FetchDeskModel" "status" "[I") ∈ fb_tbl := fb_mem3 (i := 80) rfl rfl
theorem fl_562 : (Cond.laysFinal fn_R_Md "FetchDeskModel" "body" "[I") ∈ fb_tbl := fb_mem3 (i := 82) rfl rfl
theorem fl_564 : (Cond.laysFinal fn_R_Md "FetchDeskModel" "target" "[I") ∈ fb_tbl := fb_mem3 (i := 84) rfl rfl
theorem fl_566 : (Cond.laysFinal fn_R_Md "FetchDeskModel" "given" "[I") ∈ fb_tbl := fb_mem3 (i := 86) rfl rfl
theorem fl_568 : (Cond.laysFinal fn_R_Md "FetchDeskModel" "exposed" "[I") ∈ fb_tbl := fb_mem3 (i := 88) rfl rfl
theorem fl_570 : (Cond.laysFinal fn_R_Md "FetchDeskModel" "allowed" "[I") ∈ fb_tbl := fb_mem3 (i := 90) rfl rfl
theorem fl_572 : (Cond.laysFinal fn_R_Md "FetchDeskModel" "methods" "[I") ∈ fb_tbl := fb_mem3 (i := 92) rfl rfl
theorem fl_574 : (Cond.laysFinal fn_R_Md "FetchDeskModel" "takes" "[I") ∈ fb_tbl := fb_mem3 (i := 94) rfl rfl
theorem fl_576 : (Cond.laysFinal fn_R_Md "FetchDeskModel" "requested" "[I") ∈ fb_tbl := fb_mem3 (i := 96) rfl rfl
theorem fl_578 : (Cond.laysFinal fn_R_Md "FetchDeskModel" "trusted" "[I") ∈ fb_tbl := fb_mem3 (i := 98) rfl rfl
theorem fl_580 : (Cond.laysFinal fn_R_Md "FetchDeskModel" "trusts" "[Z") ∈ fb_tbl := fb_mem3 (i := 100) rfl rfl
theorem fl_582 : (Cond.laysFinal fn_R_Md "FetchDeskModel" "ok" "[Z") ∈ fb_tbl := fb_mem3 (i := 102) rfl rfl
theorem fl_584 : (Cond.laysFinal fn_R_Md "FetchDeskModel" "withKept" "[Z") ∈ fb_tbl := fb_mem3 (i := 104) rfl rfl
theorem fl_586 : (Cond.laysFinal fn_R_Md "FetchDeskModel" "age" "[D") ∈ fb_tbl := fb_mem3 (i := 106) rfl rfl
theorem fl_588 : (Cond.laysFinal fn_R_Md "FetchDeskModel" "endKept" "[D") ∈ fb_tbl := fb_mem3 (i := 108) rfl rfl
theorem fl_590 : (Cond.laysFinal fn_R_Md "FetchDeskModel" "originKept" "[I") ∈ fb_tbl := fb_mem3 (i := 110) rfl rfl
theorem fl_592 : (Cond.laysFinal fn_R_Md "FetchDeskModel" "urlKept" "[I") ∈ fb_tbl := fb_mem3 (i := 112) rfl rfl
theorem fl_594 : (Cond.laysFinal fn_R_Md "FetchDeskModel" "methodsKept" "[I") ∈ fb_tbl := fb_mem3 (i := 114) rfl rfl
theorem fl_596 : (Cond.laysFinal fn_R_Md "FetchDeskModel" "headersKept" "[I") ∈ fb_tbl := fb_mem3 (i := 116) rfl rfl
theorem fl_598 : (Cond.laysFinal fn_R_Md "FetchDeskModel" "told" "[I") ∈ fb_tbl := fb_mem3 (i := 118) rfl rfl
theorem fl_600 : (Cond.lays fn_R_Md "FetchDeskModel" "time" "D") ∈ fb_tbl := fb_mem3 (i := 120) rfl rfl
theorem fl_602 : (Cond.lays fn_R_Md "FetchDeskModel" "kept" "I") ∈ fb_tbl := fb_mem3 (i := 122) rfl rfl
theorem fl_604 : (Cond.lays fn_R_Md "FetchDeskModel" "requests" "I") ∈ fb_tbl := fb_mem3 (i := 124) rfl rfl
theorem fl_606 : (Cond.lays fn_R_Md "FetchDeskModel" "errors" "I") ∈ fb_tbl := fb_mem3 (i := 126) rfl rfl
theorem fl_608 : (Cond.lays fn_R_Md "FetchDeskModel" "all" "I") ∈ fb_tbl := fb_mem3 (i := 128) rfl rfl
theorem fl_610 : (Cond.lays fn_R_Md "FetchDeskModel" "asks" "I") ∈ fb_tbl := fb_mem3 (i := 130) rfl rfl
theorem fl_612 : (Cond.lays fn_R_Md "FetchDeskModel" "remembered" "I") ∈ fb_tbl := fb_mem3 (i := 132) rfl rfl
theorem fl_614 : (Cond.lays fn_R_Md "FetchDeskModel" "thrown" "I") ∈ fb_tbl := fb_mem3 (i := 134) rfl rfl
theorem fl_616 : (Cond.lays fn_R_Md "FetchDeskModel" "origin" "I") ∈ fb_tbl := fb_mem3 (i := 136) rfl rfl
theorem fl_618 : (Cond.lays fn_R_Md "FetchDeskModel" "url" "I") ∈ fb_tbl := fb_mem3 (i := 138) rfl rfl
theorem fl_620 : (Cond.lays fn_R_Md "FetchDeskModel" "method" "I") ∈ fb_tbl := fb_mem3 (i := 140) rfl rfl
theorem fl_622 : (Cond.lays fn_R_Md "FetchDeskModel" "headers" "I") ∈ fb_tbl := fb_mem3 (i := 142) rfl rfl
theorem fl_624 : (Cond.lays fn_R_Md "FetchDeskModel" "sent" "Z") ∈ fb_tbl := fb_mem3 (i := 144) rfl rfl
theorem fn_i_Md : ∀ w ∈ u_ws fn_R_Md fn_T_Md 33, w ∈ fb_tbl := List.forall_mem_cons.mpr ⟨fl_560, List.forall_mem_cons.mpr ⟨fl_562, List.forall_mem_cons.mpr ⟨fl_564, List.forall_mem_cons.mpr ⟨fl_566, List.forall_mem_cons.mpr ⟨fl_568, List.forall_mem_cons.mpr ⟨fl_570, List.forall_mem_cons.mpr ⟨fl_572, List.forall_mem_cons.mpr ⟨fl_574, List.forall_mem_cons.mpr ⟨fl_576, List.forall_mem_cons.mpr ⟨fl_578, List.forall_mem_cons.mpr ⟨fl_580, List.forall_mem_cons.mpr ⟨fl_582, List.forall_mem_cons.mpr ⟨fl_584, List.forall_mem_cons.mpr ⟨fl_586, List.forall_mem_cons.mpr ⟨fl_588, List.forall_mem_cons.mpr ⟨fl_590, List.forall_mem_cons.mpr ⟨fl_592, List.forall_mem_cons.mpr ⟨fl_594, List.forall_mem_cons.mpr ⟨fl_596, List.forall_mem_cons.mpr ⟨fl_598, List.forall_mem_cons.mpr ⟨fl_600, List.forall_mem_cons.mpr ⟨fl_602, List.forall_mem_cons.mpr ⟨fl_604, List.forall_mem_cons.mpr ⟨fl_606, List.forall_mem_cons.mpr ⟨fl_608, List.forall_mem_cons.mpr ⟨fl_610, List.forall_mem_cons.mpr ⟨fl_612, List.forall_mem_cons.mpr ⟨fl_614, List.forall_mem_cons.mpr ⟨fl_616, List.forall_mem_cons.mpr ⟨fl_618, List.forall_mem_cons.mpr ⟨fl_620, List.forall_mem_cons.mpr ⟨fl_622, List.forall_mem_cons.mpr ⟨fl_624, fun _ h => absurd h List.not_mem_nil⟩⟩⟩⟩⟩⟩⟩⟩⟩⟩⟩⟩⟩⟩⟩⟩⟩⟩⟩⟩⟩⟩⟩⟩⟩⟩⟩⟩⟩⟩⟩⟩⟩
theorem fn_j_Md {x : Cond} : ∀ w ∈ u_ws fn_R_Md fn_T_Md 33, w ∈ x :: fb_tbl := fun w h => List.mem_cons_of_mem _ (fn_i_Md w h)
abbrev fn_cl : List vw_C := [(fn_R_Mm, fn_T_Mm, 2), (fn_R_Pm, fn_T_Pm, 6), (fn_R_Rq, fn_T_Rq, 15), (fn_R_Rs, fn_T_Rs, 13), (fn_R_Dk, fn_T_Dk, 9), (fn_R_Md, fn_T_Md, 33)]
abbrev fb_Dk_init : ByteArray := prog_1_method_1_code
def fy_Dk_init : MethodName := ⟨fn_R_Dk, "<init>", "()V"⟩
abbrev fw_Dk_init : Cond := .code fy_Dk_init fb_Dk_init 2 none
theorem fm_Dk_init : fw_Dk_init ∈ fb_tbl := fb_mem1 (i := 17) rfl rfl
abbrev fb_Dk_serve : ByteArray := prog_1_method_2_code
def fy_Dk_serve : MethodName := ⟨fn_R_Dk, "serve", "(IIII)V"⟩
abbrev fw_Dk_serve : Cond := .code fy_Dk_serve fb_Dk_serve 8 none
theorem fm_Dk_serve : fw_Dk_serve ∈ fb_tbl := fb_mem1 (i := 239) rfl rfl
abbrev fb_Dk_headers : ByteArray := prog_1_method_3_code
def fy_Dk_headers : MethodName := ⟨fn_R_Dk, "headers", "(III)V"⟩
abbrev fw_Dk_headers : Cond := .code fy_Dk_headers fb_Dk_headers 5 none
theorem fm_Dk_headers : fw_Dk_headers ∈ fb_tbl := fb_mem2 (i := 72) rfl rfl
abbrev fb_Dk_allow : ByteArray := prog_1_method_4_code
def fy_Dk_allow : MethodName := ⟨fn_R_Dk, "allow", "(IIZ)I"⟩
abbrev fw_Dk_allow : Cond := .code fy_Dk_allow fb_Dk_allow 6 (some .int)
theorem fm_Dk_allow : fw_Dk_allow ∈ fb_tbl := fb_mem2 (i := 82) rfl rfl
abbrev fb_Dk_asked : ByteArray := prog_1_method_5_code
def fy_Dk_asked : MethodName := ⟨fn_R_Dk, "asked", "(IZIID)V"⟩
abbrev fw_Dk_asked : Cond := .code fy_Dk_asked fb_Dk_asked 9 none
theorem fm_Dk_asked : fw_Dk_asked ∈ fb_tbl := fb_mem2 (i := 89) rfl rfl
abbrev fb_Dk_tick : ByteArray := prog_1_method_6_code
def fy_Dk_tick : MethodName := ⟨fn_R_Dk, "tick", "(D)D"⟩
abbrev fw_Dk_tick : Cond := .code fy_Dk_tick fb_Dk_tick 4 (some .double)
theorem fm_Dk_tick : fw_Dk_tick ∈ fb_tbl := fb_mem2 (i := 97) rfl rfl
abbrev fb_Dk_fetch : ByteArray := prog_1_method_7_code
def fy_Dk_fetch : MethodName := ⟨fn_R_Dk, "fetch", "(IIIIIII)I"⟩
abbrev fw_Dk_fetch : Cond := .code fy_Dk_fetch fb_Dk_fetch 8 (some .int)
theorem fm_Dk_fetch : fw_Dk_fetch ∈ fb_tbl := fb_mem2 (i := 106) rfl rfl
abbrev fb_Dk_told : ByteArray := prog_1_method_8_code
def fy_Dk_told : MethodName := ⟨fn_R_Dk, "told", "(I)I"⟩
abbrev fw_Dk_told : Cond := .code fy_Dk_told fb_Dk_told 2 (some .int)
theorem fm_Dk_told : fw_Dk_told ∈ fb_tbl := fb_mem2 (i := 239) rfl rfl
abbrev fb_Dk_kept : ByteArray := prog_1_method_9_code
def fy_Dk_kept : MethodName := ⟨fn_R_Dk, "kept", "(II)I"⟩
abbrev fw_Dk_kept : Cond := .code fy_Dk_kept fb_Dk_kept 4 (some .int)
theorem fm_Dk_kept : fw_Dk_kept ∈ fb_tbl := fb_mem3 (i := 7) rfl rfl
abbrev fb_Dk_left : ByteArray := prog_1_method_10_code
def fy_Dk_left : MethodName := ⟨fn_R_Dk, "left", "(I)D"⟩
abbrev fw_Dk_left : Cond := .code fy_Dk_left fb_Dk_left 4 (some .double)
theorem fm_Dk_left : fw_Dk_left ∈ fb_tbl := fb_mem3 (i := 33) rfl rfl
abbrev fb_Dk_count : ByteArray := prog_1_method_11_code
def fy_Dk_count : MethodName := ⟨fn_R_Dk, "count", "(I)I"⟩
abbrev fw_Dk_count : Cond := .code fy_Dk_count fb_Dk_count 2 (some .int)
theorem fm_Dk_count : fw_Dk_count ∈ fb_tbl := fb_mem3 (i := 40) rfl rfl
abbrev fb_Dk_goThroughRounds : ByteArray := prog_1_method_12_code
def fy_Dk_goThroughRounds : MethodName := ⟨fn_R_Dk, "goThroughRounds", "()V"⟩
abbrev fw_Dk_goThroughRounds : Cond := .code fy_Dk_goThroughRounds fb_Dk_goThroughRounds 3 none
theorem fm_Dk_goThroughRounds : fw_Dk_goThroughRounds ∈ fb_tbl := fb_mem2 (i := 133) rfl rfl
abbrev fb_Dk_goOneRound : ByteArray := prog_1_method_13_code
def fy_Dk_goOneRound : MethodName := ⟨fn_R_Dk, "goOneRound", "(I)Z"⟩
abbrev fw_Dk_goOneRound : Cond := .code fy_Dk_goOneRound fb_Dk_goOneRound 3 (some .boolean)
theorem fm_Dk_goOneRound : fw_Dk_goOneRound ∈ fb_tbl := fb_mem2 (i := 137) rfl rfl
abbrev fb_Dk_errorBeforeRequesting : ByteArray := prog_1_method_14_code
def fy_Dk_errorBeforeRequesting : MethodName := ⟨fn_R_Dk, "errorBeforeRequesting", "(LFetchDesk$Resource;)I"⟩
abbrev fw_Dk_errorBeforeRequesting : Cond := .code fy_Dk_errorBeforeRequesting fb_Dk_errorBeforeRequesting 2 (some .int)
theorem fm_Dk_errorBeforeRequesting : fw_Dk_errorBeforeRequesting ∈ fb_tbl := fb_mem2 (i := 148) rfl rfl
abbrev fb_Dk_ask : ByteArray := prog_1_method_15_code
def fy_Dk_ask : MethodName := ⟨fn_R_Dk, "ask", "(LFetchDesk$Resource;)Z"⟩
abbrev fw_Dk_ask : Cond := .code fy_Dk_ask fb_Dk_ask 3 (some .boolean)
theorem fm_Dk_ask : fw_Dk_ask ∈ fb_tbl := fb_mem2 (i := 167) rfl rfl
abbrev fb_Dk_countRequested : ByteArray := prog_1_method_16_code
def fy_Dk_countRequested : MethodName := ⟨fn_R_Dk, "countRequested", "(LFetchDesk$Resource;)V"⟩
abbrev fw_Dk_countRequested : Cond := .code fy_Dk_countRequested fb_Dk_countRequested 2 none
theorem fm_Dk_countRequested : fw_Dk_countRequested ∈ fb_tbl := fb_mem2 (i := 197) rfl rfl
abbrev fb_Dk_isOrigin : ByteArray := prog_1_method_17_code
def fy_Dk_isOrigin : MethodName := ⟨fn_R_Dk, "isOrigin", "(I)Z"⟩
abbrev fw_Dk_isOrigin : Cond := .code fy_Dk_isOrigin fb_Dk_isOrigin 1 (some .boolean)
theorem fm_Dk_isOrigin : fw_Dk_isOrigin ∈ fb_tbl := fb_mem2 (i := 109) rfl rfl
abbrev fb_Dk_isUrl : ByteArray := prog_1_method_18_code
def fy_Dk_isUrl : MethodName := ⟨fn_R_Dk, "isUrl", "(I)Z"⟩
abbrev fw_Dk_isUrl : Cond := .code fy_Dk_isUrl fb_Dk_isUrl 1 (some .boolean)
theorem fm_Dk_isUrl : fw_Dk_isUrl ∈ fb_tbl := fb_mem2 (i := 2) rfl rfl
abbrev fb_Dk_isMethod : ByteArray := prog_1_method_19_code
def fy_Dk_isMethod : MethodName := ⟨fn_R_Dk, "isMethod", "(I)Z"⟩
abbrev fw_Dk_isMethod : Cond := .code fy_Dk_isMethod fb_Dk_isMethod 1 (some .boolean)
theorem fm_Dk_isMethod : fw_Dk_isMethod ∈ fb_tbl := fb_mem2 (i := 112) rfl rfl
abbrev fb_Dk_isFourBits : ByteArray := prog_1_method_20_code
def fy_Dk_isFourBits : MethodName := ⟨fn_R_Dk, "isFourBits", "(I)Z"⟩
abbrev fw_Dk_isFourBits : Cond := .code fy_Dk_isFourBits fb_Dk_isFourBits 1 (some .boolean)
theorem fm_Dk_isFourBits : fw_Dk_isFourBits ∈ fb_tbl := fb_mem2 (i := 75) rfl rfl
abbrev fb_Dk_isChoice : ByteArray := prog_1_method_21_code
def fy_Dk_isChoice : MethodName := ⟨fn_R_Dk, "isChoice", "(I)Z"⟩
abbrev fw_Dk_isChoice : Cond := .code fy_Dk_isChoice fb_Dk_isChoice 1 (some .boolean)
theorem fm_Dk_isChoice : fw_Dk_isChoice ∈ fb_tbl := fb_mem2 (i := 115) rfl rfl
abbrev fb_Dk_isSimple : ByteArray := prog_1_method_22_code
def fy_Dk_isSimple : MethodName := ⟨fn_R_Dk, "isSimple", "(I)Z"⟩
abbrev fw_Dk_isSimple : Cond := .code fy_Dk_isSimple fb_Dk_isSimple 1 (some .boolean)
theorem fm_Dk_isSimple : fw_Dk_isSimple ∈ fb_tbl := fb_mem2 (i := 121) rfl rfl
abbrev fb_Dk_isPlain : ByteArray := prog_1_method_23_code
def fy_Dk_isPlain : MethodName := ⟨fn_R_Dk, "isPlain", "(II)Z"⟩
abbrev fw_Dk_isPlain : Cond := .code fy_Dk_isPlain fb_Dk_isPlain 2 (some .boolean)
theorem fm_Dk_isPlain : fw_Dk_isPlain ∈ fb_tbl := fb_mem2 (i := 118) rfl rfl
abbrev fb_Dk_lets : ByteArray := prog_1_method_24_code
def fy_Dk_lets : MethodName := ⟨fn_R_Dk, "lets", "(IILFetchDesk$Request;)Z"⟩
abbrev fw_Dk_lets : Cond := .code fy_Dk_lets fb_Dk_lets 5 (some .boolean)
theorem fm_Dk_lets : fw_Dk_lets ∈ fb_tbl := fb_mem2 (i := 163) rfl rfl
abbrev fb_Dk_originOf : ByteArray := prog_1_method_25_code
def fy_Dk_originOf : MethodName := ⟨fn_R_Dk, "originOf", "(I)I"⟩
abbrev fw_Dk_originOf : Cond := .code fy_Dk_originOf fb_Dk_originOf 1 (some .int)
theorem fm_Dk_originOf : fw_Dk_originOf ∈ fb_tbl := fb_mem2 (i := 144) rfl rfl
abbrev fb_Mm_init : ByteArray := prog_2_method_1_code
def fy_Mm_init : MethodName := ⟨fn_R_Mm, "<init>", "()V"⟩
abbrev fw_Mm_init : Cond := .code fy_Mm_init fb_Mm_init 2 none
theorem fm_Mm_init : fw_Mm_init ∈ fb_tbl := fb_mem1 (i := 84) rfl rfl
abbrev fb_Mm_holds : ByteArray := prog_2_method_2_code
def fy_Mm_holds : MethodName := ⟨fn_R_Mm, "holds", "(I)Z"⟩
abbrev fw_Mm_holds : Cond := .code fy_Mm_holds fb_Mm_holds 2 (some .boolean)
theorem fm_Mm_holds : fw_Mm_holds ∈ fb_tbl := fb_mem3 (i := 11) rfl rfl
abbrev fb_Mm_find : ByteArray := prog_2_method_3_code
def fy_Mm_find : MethodName := ⟨fn_R_Mm, "find", "(LFetchDesk$Request;)I"⟩
abbrev fw_Mm_find : Cond := .code fy_Mm_find fb_Mm_find 4 (some .int)
theorem fm_Mm_find : fw_Mm_find ∈ fb_tbl := fb_mem2 (i := 160) rfl rfl
abbrev fb_Mm_covers : ByteArray := prog_2_method_4_code
def fy_Mm_covers : MethodName := ⟨fn_R_Mm, "covers", "(LFetchDesk$Request;D)Z"⟩
abbrev fw_Mm_covers : Cond := .code fy_Mm_covers fb_Mm_covers 6 (some .boolean)
theorem fm_Mm_covers : fw_Mm_covers ∈ fb_tbl := fb_mem2 (i := 156) rfl rfl
abbrev fb_Mm_forget : ByteArray := prog_2_method_5_code
def fy_Mm_forget : MethodName := ⟨fn_R_Mm, "forget", "(LFetchDesk$Request;)V"⟩
abbrev fw_Mm_forget : Cond := .code fy_Mm_forget fb_Mm_forget 3 none
theorem fm_Mm_forget : fw_Mm_forget ∈ fb_tbl := fb_mem2 (i := 171) rfl rfl
abbrev fb_Mm_remember : ByteArray := prog_2_method_6_code
def fy_Mm_remember : MethodName := ⟨fn_R_Mm, "remember", "(LFetchDesk$Request;LFetchDesk$Resource;D)V"⟩
abbrev fw_Mm_remember : Cond := .code fy_Mm_remember fb_Mm_remember 7 none
theorem fm_Mm_remember : fw_Mm_remember ∈ fb_tbl := fb_mem2 (i := 184) rfl rfl
abbrev fb_Mm_firstToEnd : ByteArray := prog_2_method_7_code
def fy_Mm_firstToEnd : MethodName := ⟨fn_R_Mm, "firstToEnd", "()I"⟩
abbrev fw_Mm_firstToEnd : Cond := .code fy_Mm_firstToEnd fb_Mm_firstToEnd 3 (some .int)
theorem fm_Mm_firstToEnd : fw_Mm_firstToEnd ∈ fb_tbl := fb_mem2 (i := 188) rfl rfl
abbrev fb_Mm_drop : ByteArray := prog_2_method_8_code
def fy_Mm_drop : MethodName := ⟨fn_R_Mm, "drop", "(I)V"⟩
abbrev fw_Mm_drop : Cond := .code fy_Mm_drop fb_Mm_drop 4 none
theorem fm_Mm_drop : fw_Mm_drop ∈ fb_tbl := fb_mem2 (i := 175) rfl rfl
abbrev fb_Pm_init : ByteArray := prog_3_method_1_code
def fy_Pm_init : MethodName := ⟨fn_R_Pm, "<init>", "()V"⟩
abbrev fw_Pm_init : Cond := .code fy_Pm_init fb_Pm_init 1 none
theorem fm_Pm_init : fw_Pm_init ∈ fb_tbl := fb_mem1 (i := 91) rfl rfl
abbrev fb_Pm_write : ByteArray := prog_3_method_2_code
def fy_Pm_write : MethodName := ⟨fn_R_Pm, "write", "(LFetchDesk$Request;LFetchDesk$Resource;D)V"⟩
abbrev fw_Pm_write : Cond := .code fy_Pm_write fb_Pm_write 5 none
theorem fm_Pm_write : fw_Pm_write ∈ fb_tbl := fb_mem2 (i := 193) rfl rfl
abbrev fb_Rq_init : ByteArray := prog_4_method_1_code
def fy_Rq_init : MethodName := ⟨fn_R_Rq, "<init>", "()V"⟩
abbrev fw_Rq_init : Cond := .code fy_Rq_init fb_Rq_init 1 none
theorem fm_Rq_init : fw_Rq_init ∈ fb_tbl := fb_mem1 (i := 137) rfl rfl
abbrev fb_Rq_begin : ByteArray := prog_4_method_2_code
def fy_Rq_begin : MethodName := ⟨fn_R_Rq, "begin", "(IIIIIII)V"⟩
abbrev fw_Rq_begin : Cond := .code fy_Rq_begin fb_Rq_begin 8 none
theorem fm_Rq_begin : fw_Rq_begin ∈ fb_tbl := fb_mem2 (i := 125) rfl rfl
abbrev fb_Rq_show : ByteArray := prog_4_method_3_code
def fy_Rq_show : MethodName := ⟨fn_R_Rq, "show", "(IIII)V"⟩
abbrev fw_Rq_show : Cond := .code fy_Rq_show fb_Rq_show 5 none
theorem fm_Rq_show : fw_Rq_show ∈ fb_tbl := fb_mem2 (i := 129) rfl rfl
abbrev fb_Rq_enterRound : ByteArray := prog_4_method_4_code
def fy_Rq_enterRound : MethodName := ⟨fn_R_Rq, "enterRound", "()V"⟩
abbrev fw_Rq_enterRound : Cond := .code fy_Rq_enterRound fb_Rq_enterRound 1 none
theorem fm_Rq_enterRound : fw_Rq_enterRound ∈ fb_tbl := fb_mem2 (i := 141) rfl rfl
abbrev fb_Rq_mustPass : ByteArray := prog_4_method_5_code
def fy_Rq_mustPass : MethodName := ⟨fn_R_Rq, "mustPass", "()Z"⟩
abbrev fw_Rq_mustPass : Cond := .code fy_Rq_mustPass fb_Rq_mustPass 1 (some .boolean)
theorem fm_Rq_mustPass : fw_Rq_mustPass ∈ fb_tbl := fb_mem2 (i := 152) rfl rfl
abbrev fb_Rq_passes : ByteArray := prog_4_method_6_code
def fy_Rq_passes : MethodName := ⟨fn_R_Rq, "passes", "(LFetchDesk$Resource;)Z"⟩
abbrev fw_Rq_passes : Cond := .code fy_Rq_passes fb_Rq_passes 3 (some .boolean)
theorem fm_Rq_passes : fw_Rq_passes ∈ fb_tbl := fb_mem2 (i := 179) rfl rfl
abbrev fb_Rq_meetRedirect : ByteArray := prog_4_method_7_code
def fy_Rq_meetRedirect : MethodName := ⟨fn_R_Rq, "meetRedirect", "(LFetchDesk$Resource;I)Z"⟩
abbrev fw_Rq_meetRedirect : Cond := .code fy_Rq_meetRedirect fb_Rq_meetRedirect 3 (some .boolean)
theorem fm_Rq_meetRedirect : fw_Rq_meetRedirect ∈ fb_tbl := fb_mem2 (i := 205) rfl rfl
abbrev fb_Rq_follow : ByteArray := prog_4_method_8_code
def fy_Rq_follow : MethodName := ⟨fn_R_Rq, "follow", "(LFetchDesk$Resource;)V"⟩
abbrev fw_Rq_follow : Cond := .code fy_Rq_follow fb_Rq_follow 3 none
theorem fm_Rq_follow : fw_Rq_follow ∈ fb_tbl := fb_mem2 (i := 209) rfl rfl
abbrev fb_Rq_takeResponse : ByteArray := prog_4_method_9_code
def fy_Rq_takeResponse : MethodName := ⟨fn_R_Rq, "takeResponse", "(LFetchDesk$Resource;)V"⟩
abbrev fw_Rq_takeResponse : Cond := .code fy_Rq_takeResponse fb_Rq_takeResponse 3 none
theorem fm_Rq_takeResponse : fw_Rq_takeResponse ∈ fb_tbl := fb_mem2 (i := 217) rfl rfl
abbrev fb_Rs_init : ByteArray := prog_5_method_1_code
def fy_Rs_init : MethodName := ⟨fn_R_Rs, "<init>", "()V"⟩
abbrev fw_Rs_init : Cond := .code fy_Rs_init fb_Rs_init 1 none
theorem fm_Rs_init : fw_Rs_init ∈ fb_tbl := fb_mem1 (i := 26) rfl rfl
abbrev fb_Rs_isRedirect : ByteArray := prog_5_method_2_code
def fy_Rs_isRedirect : MethodName := ⟨fn_R_Rs, "isRedirect", "()Z"⟩
abbrev fw_Rs_isRedirect : Cond := .code fy_Rs_isRedirect fb_Rs_isRedirect 1 (some .boolean)
theorem fm_Rs_isRedirect : fw_Rs_isRedirect ∈ fb_tbl := fb_mem2 (i := 201) rfl rfl
abbrev fb_Rs_turnsIntoGet : ByteArray := prog_5_method_3_code
def fy_Rs_turnsIntoGet : MethodName := ⟨fn_R_Rs, "turnsIntoGet", "(I)Z"⟩
abbrev fw_Rs_turnsIntoGet : Cond := .code fy_Rs_turnsIntoGet fb_Rs_turnsIntoGet 2 (some .boolean)
theorem fm_Rs_turnsIntoGet : fw_Rs_turnsIntoGet ∈ fb_tbl := fb_mem2 (i := 213) rfl rfl
end
section
/-! decode rows of the desk -/
theorem fx_Dk_init_0 : decode fb_Dk_init 0 = .ok (.aload_n 0, 1) := by decide +kernel
theorem fx_Dk_init_1 : decode fb_Dk_init 1 = .ok (.invokespecial 3, 3) := by decide +kernel
theorem fx_Dk_init_4 : decode fb_Dk_init 4 = .ok (.aload_n 0, 1) := by decide +kernel
theorem fx_Dk_init_5 : decode fb_Dk_init 5 = .ok (.bipush 48, 2) := by decide +kernel
theorem fx_Dk_init_7 : decode fb_Dk_init 7 = .ok (.anewarray 9, 3) := by decide +kernel
theorem fx_Dk_init_10 : decode fb_Dk_init 10 = .ok (.putfield 11, 3) := by decide +kernel
theorem fx_Dk_init_13 : decode fb_Dk_init 13 = .ok (.iconst 0, 1) := by decide +kernel
theorem fx_Dk_init_14 : decode fb_Dk_init 14 = .ok (.istore_n 1, 1) := by decide +kernel
theorem fx_Dk_init_15 : decode fb_Dk_init 15 = .ok (.iload_n 1, 1) := by decide +kernel
theorem fx_Dk_init_16 : decode fb_Dk_init 16 = .ok (.bipush 48, 2) := by decide +kernel
theorem fx_Dk_init_18 : decode fb_Dk_init 18 = .ok (.if_icmp .ge 22, 3) := by decide +kernel
theorem fx_Dk_init_21 : decode fb_Dk_init 21 = .ok (.aload_n 0, 1) := by decide +kernel
theorem fx_Dk_init_22 : decode fb_Dk_init 22 = .ok (.getfield 11, 3) := by decide +kernel
theorem fx_Dk_init_25 : decode fb_Dk_init 25 = .ok (.iload_n 1, 1) := by decide +kernel
theorem fx_Dk_init_26 : decode fb_Dk_init 26 = .ok (.new 9, 3) := by decide +kernel
theorem fx_Dk_init_29 : decode fb_Dk_init 29 = .ok (.dup, 1) := by decide +kernel
theorem fx_Dk_init_30 : decode fb_Dk_init 30 = .ok (.invokespecial 15, 3) := by decide +kernel
theorem fx_Dk_init_33 : decode fb_Dk_init 33 = .ok (.aastore, 1) := by decide +kernel
theorem fx_Dk_init_34 : decode fb_Dk_init 34 = .ok (.iinc 1 1, 3) := by decide +kernel
theorem fx_Dk_init_37 : decode fb_Dk_init 37 = .ok (.goto (-22), 3) := by decide +kernel
theorem fx_Dk_init_40 : decode fb_Dk_init 40 = .ok (.aload_n 0, 1) := by decide +kernel
theorem fx_Dk_init_41 : decode fb_Dk_init 41 = .ok (.new 16, 3) := by decide +kernel
theorem fx_Dk_init_44 : decode fb_Dk_init 44 = .ok (.dup, 1) := by decide +kernel
theorem fx_Dk_init_45 : decode fb_Dk_init 45 = .ok (.invokespecial 18, 3) := by decide +kernel
theorem fx_Dk_init_48 : decode fb_Dk_init 48 = .ok (.putfield 19, 3) := by decide +kernel
theorem fx_Dk_init_51 : decode fb_Dk_init 51 = .ok (.aload_n 0, 1) := by decide +kernel
theorem fx_Dk_init_52 : decode fb_Dk_init 52 = .ok (.new 23, 3) := by decide +kernel
theorem fx_Dk_init_55 : decode fb_Dk_init 55 = .ok (.dup, 1) := by decide +kernel
theorem fx_Dk_init_56 : decode fb_Dk_init 56 = .ok (.invokespecial 25, 3) := by decide +kernel
theorem fx_Dk_init_59 : decode fb_Dk_init 59 = .ok (.putfield 26, 3) := by decide +kernel
theorem fx_Dk_init_62 : decode fb_Dk_init 62 = .ok (.return_, 1) := by decide +kernel
theorem fx_Dk_serve_0 : decode fb_Dk_serve 0 = .ok (.iload_n 2, 1) := by decide +kernel
theorem fx_Dk_serve_1 : decode fb_Dk_serve 1 = .ok (.sipush 200, 3) := by decide +kernel
theorem fx_Dk_serve_4 : decode fb_Dk_serve 4 = .ok (.if_icmp .lt 14, 3) := by decide +kernel
theorem fx_Dk_serve_7 : decode fb_Dk_serve 7 = .ok (.iload_n 2, 1) := by decide +kernel
theorem fx_Dk_serve_8 : decode fb_Dk_serve 8 = .ok (.sipush 599, 3) := by decide +kernel
theorem fx_Dk_serve_11 : decode fb_Dk_serve 11 = .ok (.if_icmp .gt 7, 3) := by decide +kernel
theorem fx_Dk_serve_14 : decode fb_Dk_serve 14 = .ok (.iconst 1, 1) := by decide +kernel
theorem fx_Dk_serve_15 : decode fb_Dk_serve 15 = .ok (.goto 4, 3) := by decide +kernel
theorem fx_Dk_serve_18 : decode fb_Dk_serve 18 = .ok (.iconst 0, 1) := by decide +kernel
theorem fx_Dk_serve_19 : decode fb_Dk_serve 19 = .ok (.istore 5, 2) := by decide +kernel
theorem fx_Dk_serve_21 : decode fb_Dk_serve 21 = .ok (.iload 4, 2) := by decide +kernel
theorem fx_Dk_serve_23 : decode fb_Dk_serve 23 = .ok (.iconst (-1), 1) := by decide +kernel
theorem fx_Dk_serve_24 : decode fb_Dk_serve 24 = .ok (.if_icmp .eq 11, 3) := by decide +kernel
theorem fx_Dk_serve_27 : decode fb_Dk_serve 27 = .ok (.iload 4, 2) := by decide +kernel
theorem fx_Dk_serve_29 : decode fb_Dk_serve 29 = .ok (.invokestatic 30, 3) := by decide +kernel
theorem fx_Dk_serve_32 : decode fb_Dk_serve 32 = .ok (.ifCond .eq 7, 3) := by decide +kernel
theorem fx_Dk_serve_35 : decode fb_Dk_serve 35 = .ok (.iconst 1, 1) := by decide +kernel
theorem fx_Dk_serve_36 : decode fb_Dk_serve 36 = .ok (.goto 4, 3) := by decide +kernel
theorem fx_Dk_serve_39 : decode fb_Dk_serve 39 = .ok (.iconst 0, 1) := by decide +kernel
theorem fx_Dk_serve_40 : decode fb_Dk_serve 40 = .ok (.istore 6, 2) := by decide +kernel
theorem fx_Dk_serve_42 : decode fb_Dk_serve 42 = .ok (.iload_n 1, 1) := by decide +kernel
theorem fx_Dk_serve_43 : decode fb_Dk_serve 43 = .ok (.invokestatic 30, 3) := by decide +kernel
theorem fx_Dk_serve_46 : decode fb_Dk_serve 46 = .ok (.ifCond .eq 13, 3) := by decide +kernel
theorem fx_Dk_serve_49 : decode fb_Dk_serve 49 = .ok (.iload 5, 2) := by decide +kernel
theorem fx_Dk_serve_51 : decode fb_Dk_serve 51 = .ok (.ifCond .eq 8, 3) := by decide +kernel
theorem fx_Dk_serve_54 : decode fb_Dk_serve 54 = .ok (.iload 6, 2) := by decide +kernel
theorem fx_Dk_serve_56 : decode fb_Dk_serve 56 = .ok (.ifCond .ne 11, 3) := by decide +kernel
theorem fx_Dk_serve_59 : decode fb_Dk_serve 59 = .ok (.new 34, 3) := by decide +kernel
theorem fx_Dk_serve_62 : decode fb_Dk_serve 62 = .ok (.dup, 1) := by decide +kernel
theorem fx_Dk_serve_63 : decode fb_Dk_serve 63 = .ok (.invokespecial 36, 3) := by decide +kernel
theorem fx_Dk_serve_66 : decode fb_Dk_serve 66 = .ok (.athrow, 1) := by decide +kernel
theorem fx_Dk_serve_67 : decode fb_Dk_serve 67 = .ok (.aload_n 0, 1) := by decide +kernel
theorem fx_Dk_serve_68 : decode fb_Dk_serve 68 = .ok (.getfield 11, 3) := by decide +kernel
theorem fx_Dk_serve_71 : decode fb_Dk_serve 71 = .ok (.iload_n 1, 1) := by decide +kernel
theorem fx_Dk_serve_72 : decode fb_Dk_serve 72 = .ok (.aaload, 1) := by decide +kernel
theorem fx_Dk_serve_73 : decode fb_Dk_serve 73 = .ok (.astore 7, 2) := by decide +kernel
theorem fx_Dk_serve_75 : decode fb_Dk_serve 75 = .ok (.aload 7, 2) := by decide +kernel
theorem fx_Dk_serve_77 : decode fb_Dk_serve 77 = .ok (.iload_n 2, 1) := by decide +kernel
theorem fx_Dk_serve_78 : decode fb_Dk_serve 78 = .ok (.putfield 37, 3) := by decide +kernel
theorem fx_Dk_serve_81 : decode fb_Dk_serve 81 = .ok (.aload 7, 2) := by decide +kernel
theorem fx_Dk_serve_83 : decode fb_Dk_serve 83 = .ok (.iload_n 3, 1) := by decide +kernel
theorem fx_Dk_serve_84 : decode fb_Dk_serve 84 = .ok (.putfield 41, 3) := by decide +kernel
theorem fx_Dk_serve_87 : decode fb_Dk_serve 87 = .ok (.aload 7, 2) := by decide +kernel
theorem fx_Dk_serve_89 : decode fb_Dk_serve 89 = .ok (.iload 4, 2) := by decide +kernel
theorem fx_Dk_serve_91 : decode fb_Dk_serve 91 = .ok (.putfield 44, 3) := by decide +kernel
theorem fx_Dk_serve_94 : decode fb_Dk_serve 94 = .ok (.return_, 1) := by decide +kernel
theorem fx_Dk_headers_0 : decode fb_Dk_headers 0 = .ok (.iload_n 1, 1) := by decide +kernel
theorem fx_Dk_headers_1 : decode fb_Dk_headers 1 = .ok (.invokestatic 30, 3) := by decide +kernel
theorem fx_Dk_headers_4 : decode fb_Dk_headers 4 = .ok (.ifCond .eq 17, 3) := by decide +kernel
theorem fx_Dk_headers_7 : decode fb_Dk_headers 7 = .ok (.iload_n 2, 1) := by decide +kernel
theorem fx_Dk_headers_8 : decode fb_Dk_headers 8 = .ok (.invokestatic 47, 3) := by decide +kernel
theorem fx_Dk_headers_11 : decode fb_Dk_headers 11 = .ok (.ifCond .eq 10, 3) := by decide +kernel
theorem fx_Dk_headers_14 : decode fb_Dk_headers 14 = .ok (.iload_n 3, 1) := by decide +kernel
theorem fx_Dk_headers_15 : decode fb_Dk_headers 15 = .ok (.invokestatic 47, 3) := by decide +kernel
theorem fx_Dk_headers_18 : decode fb_Dk_headers 18 = .ok (.ifCond .ne 11, 3) := by decide +kernel
theorem fx_Dk_headers_21 : decode fb_Dk_headers 21 = .ok (.new 34, 3) := by decide +kernel
theorem fx_Dk_headers_24 : decode fb_Dk_headers 24 = .ok (.dup, 1) := by decide +kernel
theorem fx_Dk_headers_25 : decode fb_Dk_headers 25 = .ok (.invokespecial 36, 3) := by decide +kernel
theorem fx_Dk_headers_28 : decode fb_Dk_headers 28 = .ok (.athrow, 1) := by decide +kernel
theorem fx_Dk_headers_29 : decode fb_Dk_headers 29 = .ok (.aload_n 0, 1) := by decide +kernel
theorem fx_Dk_headers_30 : decode fb_Dk_headers 30 = .ok (.getfield 11, 3) := by decide +kernel
theorem fx_Dk_headers_33 : decode fb_Dk_headers 33 = .ok (.iload_n 1, 1) := by decide +kernel
theorem fx_Dk_headers_34 : decode fb_Dk_headers 34 = .ok (.aaload, 1) := by decide +kernel
theorem fx_Dk_headers_35 : decode fb_Dk_headers 35 = .ok (.astore 4, 2) := by decide +kernel
theorem fx_Dk_headers_37 : decode fb_Dk_headers 37 = .ok (.aload 4, 2) := by decide +kernel
theorem fx_Dk_headers_39 : decode fb_Dk_headers 39 = .ok (.iload_n 2, 1) := by decide +kernel
theorem fx_Dk_headers_40 : decode fb_Dk_headers 40 = .ok (.putfield 50, 3) := by decide +kernel
theorem fx_Dk_headers_43 : decode fb_Dk_headers 43 = .ok (.aload 4, 2) := by decide +kernel
theorem fx_Dk_headers_45 : decode fb_Dk_headers 45 = .ok (.iload_n 3, 1) := by decide +kernel
theorem fx_Dk_headers_46 : decode fb_Dk_headers 46 = .ok (.putfield 53, 3) := by decide +kernel
theorem fx_Dk_headers_49 : decode fb_Dk_headers 49 = .ok (.return_, 1) := by decide +kernel
theorem fx_Dk_allow_0 : decode fb_Dk_allow 0 = .ok (.iload_n 1, 1) := by decide +kernel
theorem fx_Dk_allow_1 : decode fb_Dk_allow 1 = .ok (.invokestatic 30, 3) := by decide +kernel
theorem fx_Dk_allow_4 : decode fb_Dk_allow 4 = .ok (.ifCond .eq 14, 3) := by decide +kernel
theorem fx_Dk_allow_7 : decode fb_Dk_allow 7 = .ok (.iload_n 2, 1) := by decide +kernel
theorem fx_Dk_allow_8 : decode fb_Dk_allow 8 = .ok (.ifCond .lt 10, 3) := by decide +kernel
theorem fx_Dk_allow_11 : decode fb_Dk_allow 11 = .ok (.iload_n 2, 1) := by decide +kernel
theorem fx_Dk_allow_12 : decode fb_Dk_allow 12 = .ok (.sipush 255, 3) := by decide +kernel
theorem fx_Dk_allow_15 : decode fb_Dk_allow 15 = .ok (.if_icmp .le 11, 3) := by decide +kernel
theorem fx_Dk_allow_18 : decode fb_Dk_allow 18 = .ok (.new 34, 3) := by decide +kernel
theorem fx_Dk_allow_21 : decode fb_Dk_allow 21 = .ok (.dup, 1) := by decide +kernel
theorem fx_Dk_allow_22 : decode fb_Dk_allow 22 = .ok (.invokespecial 36, 3) := by decide +kernel
theorem fx_Dk_allow_25 : decode fb_Dk_allow 25 = .ok (.athrow, 1) := by decide +kernel
theorem fx_Dk_allow_26 : decode fb_Dk_allow 26 = .ok (.aload_n 0, 1) := by decide +kernel
theorem fx_Dk_allow_27 : decode fb_Dk_allow 27 = .ok (.getfield 11, 3) := by decide +kernel
theorem fx_Dk_allow_30 : decode fb_Dk_allow 30 = .ok (.iload_n 1, 1) := by decide +kernel
theorem fx_Dk_allow_31 : decode fb_Dk_allow 31 = .ok (.aaload, 1) := by decide +kernel
theorem fx_Dk_allow_32 : decode fb_Dk_allow 32 = .ok (.astore 4, 2) := by decide +kernel
theorem fx_Dk_allow_34 : decode fb_Dk_allow 34 = .ok (.aload 4, 2) := by decide +kernel
theorem fx_Dk_allow_36 : decode fb_Dk_allow 36 = .ok (.getfield 56, 3) := by decide +kernel
theorem fx_Dk_allow_39 : decode fb_Dk_allow 39 = .ok (.istore 5, 2) := by decide +kernel
theorem fx_Dk_allow_41 : decode fb_Dk_allow 41 = .ok (.aload 4, 2) := by decide +kernel
theorem fx_Dk_allow_43 : decode fb_Dk_allow 43 = .ok (.iload_n 2, 1) := by decide +kernel
theorem fx_Dk_allow_44 : decode fb_Dk_allow 44 = .ok (.putfield 56, 3) := by decide +kernel
theorem fx_Dk_allow_47 : decode fb_Dk_allow 47 = .ok (.aload 4, 2) := by decide +kernel
theorem fx_Dk_allow_49 : decode fb_Dk_allow 49 = .ok (.iload_n 3, 1) := by decide +kernel
theorem fx_Dk_allow_50 : decode fb_Dk_allow 50 = .ok (.putfield 59, 3) := by decide +kernel
theorem fx_Dk_allow_53 : decode fb_Dk_allow 53 = .ok (.iload 5, 2) := by decide +kernel
theorem fx_Dk_allow_55 : decode fb_Dk_allow 55 = .ok (.ireturn, 1) := by decide +kernel
theorem fx_Dk_asked_0 : decode fb_Dk_asked 0 = .ok (.dload 5, 2) := by decide +kernel
theorem fx_Dk_asked_2 : decode fb_Dk_asked 2 = .ok (.dconst 0, 1) := by decide +kernel
theorem fx_Dk_asked_3 : decode fb_Dk_asked 3 = .ok (.dcmp .l, 1) := by decide +kernel
theorem fx_Dk_asked_4 : decode fb_Dk_asked 4 = .ok (.ifCond .lt 16, 3) := by decide +kernel
theorem fx_Dk_asked_7 : decode fb_Dk_asked 7 = .ok (.dload 5, 2) := by decide +kernel
theorem fx_Dk_asked_9 : decode fb_Dk_asked 9 = .ok (.ldc2_w 63, 3) := by decide +kernel
theorem fx_Dk_asked_12 : decode fb_Dk_asked 12 = .ok (.dcmp .g, 1) := by decide +kernel
theorem fx_Dk_asked_13 : decode fb_Dk_asked 13 = .ok (.ifCond .gt 7, 3) := by decide +kernel
theorem fx_Dk_asked_16 : decode fb_Dk_asked 16 = .ok (.iconst 1, 1) := by decide +kernel
theorem fx_Dk_asked_17 : decode fb_Dk_asked 17 = .ok (.goto 4, 3) := by decide +kernel
theorem fx_Dk_asked_20 : decode fb_Dk_asked 20 = .ok (.iconst 0, 1) := by decide +kernel
theorem fx_Dk_asked_21 : decode fb_Dk_asked 21 = .ok (.istore 7, 2) := by decide +kernel
theorem fx_Dk_asked_23 : decode fb_Dk_asked 23 = .ok (.iload_n 1, 1) := by decide +kernel
theorem fx_Dk_asked_24 : decode fb_Dk_asked 24 = .ok (.invokestatic 30, 3) := by decide +kernel
theorem fx_Dk_asked_27 : decode fb_Dk_asked 27 = .ok (.ifCond .eq 23, 3) := by decide +kernel
theorem fx_Dk_asked_30 : decode fb_Dk_asked 30 = .ok (.iload_n 3, 1) := by decide +kernel
theorem fx_Dk_asked_31 : decode fb_Dk_asked 31 = .ok (.invokestatic 47, 3) := by decide +kernel
theorem fx_Dk_asked_34 : decode fb_Dk_asked 34 = .ok (.ifCond .eq 16, 3) := by decide +kernel
theorem fx_Dk_asked_37 : decode fb_Dk_asked 37 = .ok (.iload 4, 2) := by decide +kernel
theorem fx_Dk_asked_39 : decode fb_Dk_asked 39 = .ok (.invokestatic 47, 3) := by decide +kernel
theorem fx_Dk_asked_42 : decode fb_Dk_asked 42 = .ok (.ifCond .eq 8, 3) := by decide +kernel
theorem fx_Dk_asked_45 : decode fb_Dk_asked 45 = .ok (.iload 7, 2) := by decide +kernel
theorem fx_Dk_asked_47 : decode fb_Dk_asked 47 = .ok (.ifCond .ne 11, 3) := by decide +kernel
theorem fx_Dk_asked_50 : decode fb_Dk_asked 50 = .ok (.new 34, 3) := by decide +kernel
theorem fx_Dk_asked_53 : decode fb_Dk_asked 53 = .ok (.dup, 1) := by decide +kernel
theorem fx_Dk_asked_54 : decode fb_Dk_asked 54 = .ok (.invokespecial 36, 3) := by decide +kernel
theorem fx_Dk_asked_57 : decode fb_Dk_asked 57 = .ok (.athrow, 1) := by decide +kernel
theorem fx_Dk_asked_58 : decode fb_Dk_asked 58 = .ok (.aload_n 0, 1) := by decide +kernel
theorem fx_Dk_asked_59 : decode fb_Dk_asked 59 = .ok (.getfield 11, 3) := by decide +kernel
theorem fx_Dk_asked_62 : decode fb_Dk_asked 62 = .ok (.iload_n 1, 1) := by decide +kernel
theorem fx_Dk_asked_63 : decode fb_Dk_asked 63 = .ok (.aaload, 1) := by decide +kernel
theorem fx_Dk_asked_64 : decode fb_Dk_asked 64 = .ok (.astore 8, 2) := by decide +kernel
theorem fx_Dk_asked_66 : decode fb_Dk_asked 66 = .ok (.aload 8, 2) := by decide +kernel
theorem fx_Dk_asked_68 : decode fb_Dk_asked 68 = .ok (.iload_n 2, 1) := by decide +kernel
theorem fx_Dk_asked_69 : decode fb_Dk_asked 69 = .ok (.putfield 65, 3) := by decide +kernel
theorem fx_Dk_asked_72 : decode fb_Dk_asked 72 = .ok (.aload 8, 2) := by decide +kernel
theorem fx_Dk_asked_74 : decode fb_Dk_asked 74 = .ok (.iload_n 3, 1) := by decide +kernel
theorem fx_Dk_asked_75 : decode fb_Dk_asked 75 = .ok (.putfield 68, 3) := by decide +kernel
theorem fx_Dk_asked_78 : decode fb_Dk_asked 78 = .ok (.aload 8, 2) := by decide +kernel
theorem fx_Dk_asked_80 : decode fb_Dk_asked 80 = .ok (.iload 4, 2) := by decide +kernel
theorem fx_Dk_asked_82 : decode fb_Dk_asked 82 = .ok (.putfield 71, 3) := by decide +kernel
theorem fx_Dk_asked_85 : decode fb_Dk_asked 85 = .ok (.aload 8, 2) := by decide +kernel
theorem fx_Dk_asked_87 : decode fb_Dk_asked 87 = .ok (.dload 5, 2) := by decide +kernel
theorem fx_Dk_asked_89 : decode fb_Dk_asked 89 = .ok (.putfield 74, 3) := by decide +kernel
theorem fx_Dk_asked_92 : decode fb_Dk_asked 92 = .ok (.return_, 1) := by decide +kernel
theorem fx_Dk_tick_0 : decode fb_Dk_tick 0 = .ok (.dload_n 1, 1) := by decide +kernel
theorem fx_Dk_tick_1 : decode fb_Dk_tick 1 = .ok (.dconst 0, 1) := by decide +kernel
theorem fx_Dk_tick_2 : decode fb_Dk_tick 2 = .ok (.dcmp .l, 1) := by decide +kernel
theorem fx_Dk_tick_3 : decode fb_Dk_tick 3 = .ok (.ifCond .le 15, 3) := by decide +kernel
theorem fx_Dk_tick_6 : decode fb_Dk_tick 6 = .ok (.dload_n 1, 1) := by decide +kernel
theorem fx_Dk_tick_7 : decode fb_Dk_tick 7 = .ok (.ldc2_w 78, 3) := by decide +kernel
theorem fx_Dk_tick_10 : decode fb_Dk_tick 10 = .ok (.dcmp .g, 1) := by decide +kernel
theorem fx_Dk_tick_11 : decode fb_Dk_tick 11 = .ok (.ifCond .gt 7, 3) := by decide +kernel
theorem fx_Dk_tick_14 : decode fb_Dk_tick 14 = .ok (.iconst 1, 1) := by decide +kernel
theorem fx_Dk_tick_15 : decode fb_Dk_tick 15 = .ok (.goto 4, 3) := by decide +kernel
theorem fx_Dk_tick_18 : decode fb_Dk_tick 18 = .ok (.iconst 0, 1) := by decide +kernel
theorem fx_Dk_tick_19 : decode fb_Dk_tick 19 = .ok (.istore_n 3, 1) := by decide +kernel
theorem fx_Dk_tick_20 : decode fb_Dk_tick 20 = .ok (.iload_n 3, 1) := by decide +kernel
theorem fx_Dk_tick_21 : decode fb_Dk_tick 21 = .ok (.ifCond .ne 11, 3) := by decide +kernel
theorem fx_Dk_tick_24 : decode fb_Dk_tick 24 = .ok (.new 34, 3) := by decide +kernel
theorem fx_Dk_tick_27 : decode fb_Dk_tick 27 = .ok (.dup, 1) := by decide +kernel
theorem fx_Dk_tick_28 : decode fb_Dk_tick 28 = .ok (.invokespecial 36, 3) := by decide +kernel
theorem fx_Dk_tick_31 : decode fb_Dk_tick 31 = .ok (.athrow, 1) := by decide +kernel
theorem fx_Dk_tick_32 : decode fb_Dk_tick 32 = .ok (.aload_n 0, 1) := by decide +kernel
theorem fx_Dk_tick_33 : decode fb_Dk_tick 33 = .ok (.aload_n 0, 1) := by decide +kernel
theorem fx_Dk_tick_34 : decode fb_Dk_tick 34 = .ok (.getfield 80, 3) := by decide +kernel
theorem fx_Dk_tick_37 : decode fb_Dk_tick 37 = .ok (.dload_n 1, 1) := by decide +kernel
theorem fx_Dk_tick_38 : decode fb_Dk_tick 38 = .ok (.dadd, 1) := by decide +kernel
theorem fx_Dk_tick_39 : decode fb_Dk_tick 39 = .ok (.putfield 80, 3) := by decide +kernel
theorem fx_Dk_tick_42 : decode fb_Dk_tick 42 = .ok (.aload_n 0, 1) := by decide +kernel
theorem fx_Dk_tick_43 : decode fb_Dk_tick 43 = .ok (.getfield 80, 3) := by decide +kernel
theorem fx_Dk_tick_46 : decode fb_Dk_tick 46 = .ok (.dreturn, 1) := by decide +kernel
theorem fx_Dk_fetch_0 : decode fb_Dk_fetch 0 = .ok (.iload_n 1, 1) := by decide +kernel
theorem fx_Dk_fetch_1 : decode fb_Dk_fetch 1 = .ok (.invokestatic 83, 3) := by decide +kernel
theorem fx_Dk_fetch_4 : decode fb_Dk_fetch 4 = .ok (.ifCond .eq 25, 3) := by decide +kernel
theorem fx_Dk_fetch_7 : decode fb_Dk_fetch 7 = .ok (.iload_n 2, 1) := by decide +kernel
theorem fx_Dk_fetch_8 : decode fb_Dk_fetch 8 = .ok (.invokestatic 30, 3) := by decide +kernel
theorem fx_Dk_fetch_11 : decode fb_Dk_fetch 11 = .ok (.ifCond .eq 18, 3) := by decide +kernel
theorem fx_Dk_fetch_14 : decode fb_Dk_fetch 14 = .ok (.iload_n 3, 1) := by decide +kernel
theorem fx_Dk_fetch_15 : decode fb_Dk_fetch 15 = .ok (.invokestatic 86, 3) := by decide +kernel
theorem fx_Dk_fetch_18 : decode fb_Dk_fetch 18 = .ok (.ifCond .eq 11, 3) := by decide +kernel
theorem fx_Dk_fetch_21 : decode fb_Dk_fetch 21 = .ok (.iload 4, 2) := by decide +kernel
theorem fx_Dk_fetch_23 : decode fb_Dk_fetch 23 = .ok (.invokestatic 47, 3) := by decide +kernel
theorem fx_Dk_fetch_26 : decode fb_Dk_fetch 26 = .ok (.ifCond .ne 11, 3) := by decide +kernel
theorem fx_Dk_fetch_29 : decode fb_Dk_fetch 29 = .ok (.new 34, 3) := by decide +kernel
theorem fx_Dk_fetch_32 : decode fb_Dk_fetch 32 = .ok (.dup, 1) := by decide +kernel
theorem fx_Dk_fetch_33 : decode fb_Dk_fetch 33 = .ok (.invokespecial 36, 3) := by decide +kernel
theorem fx_Dk_fetch_36 : decode fb_Dk_fetch 36 = .ok (.athrow, 1) := by decide +kernel
theorem fx_Dk_fetch_37 : decode fb_Dk_fetch 37 = .ok (.iload 5, 2) := by decide +kernel
theorem fx_Dk_fetch_39 : decode fb_Dk_fetch 39 = .ok (.invokestatic 89, 3) := by decide +kernel
theorem fx_Dk_fetch_42 : decode fb_Dk_fetch 42 = .ok (.ifCond .eq 19, 3) := by decide +kernel
theorem fx_Dk_fetch_45 : decode fb_Dk_fetch 45 = .ok (.iload 6, 2) := by decide +kernel
theorem fx_Dk_fetch_47 : decode fb_Dk_fetch 47 = .ok (.invokestatic 89, 3) := by decide +kernel
theorem fx_Dk_fetch_50 : decode fb_Dk_fetch 50 = .ok (.ifCond .eq 11, 3) := by decide +kernel
theorem fx_Dk_fetch_53 : decode fb_Dk_fetch 53 = .ok (.iload 7, 2) := by decide +kernel
theorem fx_Dk_fetch_55 : decode fb_Dk_fetch 55 = .ok (.invokestatic 89, 3) := by decide +kernel
theorem fx_Dk_fetch_58 : decode fb_Dk_fetch 58 = .ok (.ifCond .ne 11, 3) := by decide +kernel
theorem fx_Dk_fetch_61 : decode fb_Dk_fetch 61 = .ok (.new 34, 3) := by decide +kernel
theorem fx_Dk_fetch_64 : decode fb_Dk_fetch 64 = .ok (.dup, 1) := by decide +kernel
theorem fx_Dk_fetch_65 : decode fb_Dk_fetch 65 = .ok (.invokespecial 36, 3) := by decide +kernel
theorem fx_Dk_fetch_68 : decode fb_Dk_fetch 68 = .ok (.athrow, 1) := by decide +kernel
theorem fx_Dk_fetch_69 : decode fb_Dk_fetch 69 = .ok (.iload 5, 2) := by decide +kernel
theorem fx_Dk_fetch_71 : decode fb_Dk_fetch 71 = .ok (.iconst 2, 1) := by decide +kernel
theorem fx_Dk_fetch_72 : decode fb_Dk_fetch 72 = .ok (.if_icmp .ne 20, 3) := by decide +kernel
theorem fx_Dk_fetch_75 : decode fb_Dk_fetch 75 = .ok (.iload_n 3, 1) := by decide +kernel
theorem fx_Dk_fetch_76 : decode fb_Dk_fetch 76 = .ok (.iload 4, 2) := by decide +kernel
theorem fx_Dk_fetch_78 : decode fb_Dk_fetch 78 = .ok (.invokestatic 92, 3) := by decide +kernel
theorem fx_Dk_fetch_81 : decode fb_Dk_fetch 81 = .ok (.ifCond .ne 11, 3) := by decide +kernel
theorem fx_Dk_fetch_84 : decode fb_Dk_fetch 84 = .ok (.new 34, 3) := by decide +kernel
theorem fx_Dk_fetch_87 : decode fb_Dk_fetch 87 = .ok (.dup, 1) := by decide +kernel
theorem fx_Dk_fetch_88 : decode fb_Dk_fetch 88 = .ok (.invokespecial 36, 3) := by decide +kernel
theorem fx_Dk_fetch_91 : decode fb_Dk_fetch 91 = .ok (.athrow, 1) := by decide +kernel
theorem fx_Dk_fetch_92 : decode fb_Dk_fetch 92 = .ok (.aload_n 0, 1) := by decide +kernel
theorem fx_Dk_fetch_93 : decode fb_Dk_fetch 93 = .ok (.getfield 26, 3) := by decide +kernel
theorem fx_Dk_fetch_96 : decode fb_Dk_fetch 96 = .ok (.iload_n 1, 1) := by decide +kernel
theorem fx_Dk_fetch_97 : decode fb_Dk_fetch 97 = .ok (.iload_n 2, 1) := by decide +kernel
theorem fx_Dk_fetch_98 : decode fb_Dk_fetch 98 = .ok (.iload_n 3, 1) := by decide +kernel
theorem fx_Dk_fetch_99 : decode fb_Dk_fetch 99 = .ok (.iload 4, 2) := by decide +kernel
theorem fx_Dk_fetch_101 : decode fb_Dk_fetch 101 = .ok (.iload 5, 2) := by decide +kernel
theorem fx_Dk_fetch_103 : decode fb_Dk_fetch 103 = .ok (.iload 6, 2) := by decide +kernel
theorem fx_Dk_fetch_105 : decode fb_Dk_fetch 105 = .ok (.iload 7, 2) := by decide +kernel
theorem fx_Dk_fetch_107 : decode fb_Dk_fetch 107 = .ok (.invokevirtual 96, 3) := by decide +kernel
theorem fx_Dk_fetch_110 : decode fb_Dk_fetch 110 = .ok (.aload_n 0, 1) := by decide +kernel
theorem fx_Dk_fetch_111 : decode fb_Dk_fetch 111 = .ok (.dup, 1) := by decide +kernel
theorem fx_Dk_fetch_112 : decode fb_Dk_fetch 112 = .ok (.getfield 100, 3) := by decide +kernel
theorem fx_Dk_fetch_115 : decode fb_Dk_fetch 115 = .ok (.iconst 1, 1) := by decide +kernel
theorem fx_Dk_fetch_116 : decode fb_Dk_fetch 116 = .ok (.iadd, 1) := by decide +kernel
theorem fx_Dk_fetch_117 : decode fb_Dk_fetch 117 = .ok (.putfield 100, 3) := by decide +kernel
theorem fx_Dk_fetch_120 : decode fb_Dk_fetch 120 = .ok (.aload_n 0, 1) := by decide +kernel
theorem fx_Dk_fetch_121 : decode fb_Dk_fetch 121 = .ok (.invokevirtual 103, 3) := by decide +kernel
theorem fx_Dk_fetch_124 : decode fb_Dk_fetch 124 = .ok (.aload_n 0, 1) := by decide +kernel
theorem fx_Dk_fetch_125 : decode fb_Dk_fetch 125 = .ok (.getfield 26, 3) := by decide +kernel
theorem fx_Dk_fetch_128 : decode fb_Dk_fetch 128 = .ok (.getfield 106, 3) := by decide +kernel
theorem fx_Dk_fetch_131 : decode fb_Dk_fetch 131 = .ok (.ifCond .eq 21, 3) := by decide +kernel
theorem fx_Dk_fetch_134 : decode fb_Dk_fetch 134 = .ok (.aload_n 0, 1) := by decide +kernel
theorem fx_Dk_fetch_135 : decode fb_Dk_fetch 135 = .ok (.dup, 1) := by decide +kernel
theorem fx_Dk_fetch_136 : decode fb_Dk_fetch 136 = .ok (.getfield 109, 3) := by decide +kernel
theorem fx_Dk_fetch_139 : decode fb_Dk_fetch 139 = .ok (.iconst 1, 1) := by decide +kernel
theorem fx_Dk_fetch_140 : decode fb_Dk_fetch 140 = .ok (.iadd, 1) := by decide +kernel
theorem fx_Dk_fetch_141 : decode fb_Dk_fetch 141 = .ok (.putfield 109, 3) := by decide +kernel
theorem fx_Dk_fetch_144 : decode fb_Dk_fetch 144 = .ok (.new 112, 3) := by decide +kernel
theorem fx_Dk_fetch_147 : decode fb_Dk_fetch 147 = .ok (.dup, 1) := by decide +kernel
theorem fx_Dk_fetch_148 : decode fb_Dk_fetch 148 = .ok (.invokespecial 114, 3) := by decide +kernel
theorem fx_Dk_fetch_151 : decode fb_Dk_fetch 151 = .ok (.athrow, 1) := by decide +kernel
theorem fx_Dk_fetch_152 : decode fb_Dk_fetch 152 = .ok (.aload_n 0, 1) := by decide +kernel
theorem fx_Dk_fetch_153 : decode fb_Dk_fetch 153 = .ok (.getfield 26, 3) := by decide +kernel
theorem fx_Dk_fetch_156 : decode fb_Dk_fetch 156 = .ok (.getfield 115, 3) := by decide +kernel
theorem fx_Dk_fetch_159 : decode fb_Dk_fetch 159 = .ok (.ireturn, 1) := by decide +kernel
theorem fx_Dk_told_0 : decode fb_Dk_told 0 = .ok (.iload_n 1, 1) := by decide +kernel
theorem fx_Dk_told_1 : decode fb_Dk_told 1 = .ok (.tableswitch 143 0 9 #[55, 63, 71, 79, 87, 95, 111, 119, 127, 135], 55) := by decide +kernel
theorem fx_Dk_told_56 : decode fb_Dk_told 56 = .ok (.aload_n 0, 1) := by decide +kernel
theorem fx_Dk_told_57 : decode fb_Dk_told 57 = .ok (.getfield 26, 3) := by decide +kernel
theorem fx_Dk_told_60 : decode fb_Dk_told 60 = .ok (.getfield 106, 3) := by decide +kernel
theorem fx_Dk_told_63 : decode fb_Dk_told 63 = .ok (.ireturn, 1) := by decide +kernel
theorem fx_Dk_told_64 : decode fb_Dk_told 64 = .ok (.aload_n 0, 1) := by decide +kernel
theorem fx_Dk_told_65 : decode fb_Dk_told 65 = .ok (.getfield 26, 3) := by decide +kernel
theorem fx_Dk_told_68 : decode fb_Dk_told 68 = .ok (.getfield 118, 3) := by decide +kernel
theorem fx_Dk_told_71 : decode fb_Dk_told 71 = .ok (.ireturn, 1) := by decide +kernel
theorem fx_Dk_told_72 : decode fb_Dk_told 72 = .ok (.aload_n 0, 1) := by decide +kernel
theorem fx_Dk_told_73 : decode fb_Dk_told 73 = .ok (.getfield 26, 3) := by decide +kernel
theorem fx_Dk_told_76 : decode fb_Dk_told 76 = .ok (.getfield 121, 3) := by decide +kernel
theorem fx_Dk_told_79 : decode fb_Dk_told 79 = .ok (.ireturn, 1) := by decide +kernel
theorem fx_Dk_told_80 : decode fb_Dk_told 80 = .ok (.aload_n 0, 1) := by decide +kernel
theorem fx_Dk_told_81 : decode fb_Dk_told 81 = .ok (.getfield 26, 3) := by decide +kernel
theorem fx_Dk_told_84 : decode fb_Dk_told 84 = .ok (.getfield 124, 3) := by decide +kernel
theorem fx_Dk_told_87 : decode fb_Dk_told 87 = .ok (.ireturn, 1) := by decide +kernel
theorem fx_Dk_told_88 : decode fb_Dk_told 88 = .ok (.aload_n 0, 1) := by decide +kernel
theorem fx_Dk_told_89 : decode fb_Dk_told 89 = .ok (.getfield 26, 3) := by decide +kernel
theorem fx_Dk_told_92 : decode fb_Dk_told 92 = .ok (.getfield 127, 3) := by decide +kernel
theorem fx_Dk_told_95 : decode fb_Dk_told 95 = .ok (.ireturn, 1) := by decide +kernel
theorem fx_Dk_told_96 : decode fb_Dk_told 96 = .ok (.aload_n 0, 1) := by decide +kernel
theorem fx_Dk_told_97 : decode fb_Dk_told 97 = .ok (.getfield 26, 3) := by decide +kernel
theorem fx_Dk_told_100 : decode fb_Dk_told 100 = .ok (.getfield 130, 3) := by decide +kernel
theorem fx_Dk_told_103 : decode fb_Dk_told 103 = .ok (.ifCond .eq 7, 3) := by decide +kernel
theorem fx_Dk_told_106 : decode fb_Dk_told 106 = .ok (.iconst 1, 1) := by decide +kernel
theorem fx_Dk_told_107 : decode fb_Dk_told 107 = .ok (.goto 4, 3) := by decide +kernel
theorem fx_Dk_told_110 : decode fb_Dk_told 110 = .ok (.iconst 0, 1) := by decide +kernel
theorem fx_Dk_told_111 : decode fb_Dk_told 111 = .ok (.ireturn, 1) := by decide +kernel
theorem fx_Dk_told_112 : decode fb_Dk_told 112 = .ok (.aload_n 0, 1) := by decide +kernel
theorem fx_Dk_told_113 : decode fb_Dk_told 113 = .ok (.getfield 26, 3) := by decide +kernel
theorem fx_Dk_told_116 : decode fb_Dk_told 116 = .ok (.getfield 133, 3) := by decide +kernel
theorem fx_Dk_told_119 : decode fb_Dk_told 119 = .ok (.ireturn, 1) := by decide +kernel
theorem fx_Dk_told_120 : decode fb_Dk_told 120 = .ok (.aload_n 0, 1) := by decide +kernel
theorem fx_Dk_told_121 : decode fb_Dk_told 121 = .ok (.getfield 26, 3) := by decide +kernel
theorem fx_Dk_told_124 : decode fb_Dk_told 124 = .ok (.getfield 136, 3) := by decide +kernel
theorem fx_Dk_told_127 : decode fb_Dk_told 127 = .ok (.ireturn, 1) := by decide +kernel
theorem fx_Dk_told_128 : decode fb_Dk_told 128 = .ok (.aload_n 0, 1) := by decide +kernel
theorem fx_Dk_told_129 : decode fb_Dk_told 129 = .ok (.getfield 26, 3) := by decide +kernel
theorem fx_Dk_told_132 : decode fb_Dk_told 132 = .ok (.getfield 139, 3) := by decide +kernel
theorem fx_Dk_told_135 : decode fb_Dk_told 135 = .ok (.ireturn, 1) := by decide +kernel
theorem fx_Dk_told_136 : decode fb_Dk_told 136 = .ok (.aload_n 0, 1) := by decide +kernel
theorem fx_Dk_told_137 : decode fb_Dk_told 137 = .ok (.getfield 26, 3) := by decide +kernel
theorem fx_Dk_told_140 : decode fb_Dk_told 140 = .ok (.getfield 115, 3) := by decide +kernel
theorem fx_Dk_told_143 : decode fb_Dk_told 143 = .ok (.ireturn, 1) := by decide +kernel
theorem fx_Dk_told_144 : decode fb_Dk_told 144 = .ok (.new 34, 3) := by decide +kernel
theorem fx_Dk_told_147 : decode fb_Dk_told 147 = .ok (.dup, 1) := by decide +kernel
theorem fx_Dk_told_148 : decode fb_Dk_told 148 = .ok (.invokespecial 36, 3) := by decide +kernel
theorem fx_Dk_told_151 : decode fb_Dk_told 151 = .ok (.athrow, 1) := by decide +kernel
theorem fx_Dk_kept_0 : decode fb_Dk_kept 0 = .ok (.iload_n 2, 1) := by decide +kernel
theorem fx_Dk_kept_1 : decode fb_Dk_kept 1 = .ok (.ifCond .lt 9, 3) := by decide +kernel
theorem fx_Dk_kept_4 : decode fb_Dk_kept 4 = .ok (.iload_n 2, 1) := by decide +kernel
theorem fx_Dk_kept_5 : decode fb_Dk_kept 5 = .ok (.bipush 6, 2) := by decide +kernel
theorem fx_Dk_kept_7 : decode fb_Dk_kept 7 = .ok (.if_icmp .lt 11, 3) := by decide +kernel
theorem fx_Dk_kept_10 : decode fb_Dk_kept 10 = .ok (.new 34, 3) := by decide +kernel
theorem fx_Dk_kept_13 : decode fb_Dk_kept 13 = .ok (.dup, 1) := by decide +kernel
theorem fx_Dk_kept_14 : decode fb_Dk_kept 14 = .ok (.invokespecial 36, 3) := by decide +kernel
theorem fx_Dk_kept_17 : decode fb_Dk_kept 17 = .ok (.athrow, 1) := by decide +kernel
theorem fx_Dk_kept_18 : decode fb_Dk_kept 18 = .ok (.aload_n 0, 1) := by decide +kernel
theorem fx_Dk_kept_19 : decode fb_Dk_kept 19 = .ok (.getfield 19, 3) := by decide +kernel
theorem fx_Dk_kept_22 : decode fb_Dk_kept 22 = .ok (.iload_n 1, 1) := by decide +kernel
theorem fx_Dk_kept_23 : decode fb_Dk_kept 23 = .ok (.invokevirtual 142, 3) := by decide +kernel
theorem fx_Dk_kept_26 : decode fb_Dk_kept 26 = .ok (.ifCond .ne 11, 3) := by decide +kernel
theorem fx_Dk_kept_29 : decode fb_Dk_kept 29 = .ok (.new 145, 3) := by decide +kernel
theorem fx_Dk_kept_32 : decode fb_Dk_kept 32 = .ok (.dup, 1) := by decide +kernel
theorem fx_Dk_kept_33 : decode fb_Dk_kept 33 = .ok (.invokespecial 147, 3) := by decide +kernel
theorem fx_Dk_kept_36 : decode fb_Dk_kept 36 = .ok (.athrow, 1) := by decide +kernel
theorem fx_Dk_kept_37 : decode fb_Dk_kept 37 = .ok (.aload_n 0, 1) := by decide +kernel
theorem fx_Dk_kept_38 : decode fb_Dk_kept 38 = .ok (.getfield 19, 3) := by decide +kernel
theorem fx_Dk_kept_41 : decode fb_Dk_kept 41 = .ok (.getfield 148, 3) := by decide +kernel
theorem fx_Dk_kept_44 : decode fb_Dk_kept 44 = .ok (.iload_n 1, 1) := by decide +kernel
theorem fx_Dk_kept_45 : decode fb_Dk_kept 45 = .ok (.aaload, 1) := by decide +kernel
theorem fx_Dk_kept_46 : decode fb_Dk_kept 46 = .ok (.astore_n 3, 1) := by decide +kernel
theorem fx_Dk_kept_47 : decode fb_Dk_kept 47 = .ok (.iload_n 2, 1) := by decide +kernel
theorem fx_Dk_kept_48 : decode fb_Dk_kept 48 = .ok (.tableswitch 69 0 4 #[36, 41, 46, 59, 64], 36) := by decide +kernel
theorem fx_Dk_kept_84 : decode fb_Dk_kept 84 = .ok (.aload_n 3, 1) := by decide +kernel
theorem fx_Dk_kept_85 : decode fb_Dk_kept 85 = .ok (.getfield 152, 3) := by decide +kernel
theorem fx_Dk_kept_88 : decode fb_Dk_kept 88 = .ok (.ireturn, 1) := by decide +kernel
theorem fx_Dk_kept_89 : decode fb_Dk_kept 89 = .ok (.aload_n 3, 1) := by decide +kernel
theorem fx_Dk_kept_90 : decode fb_Dk_kept 90 = .ok (.getfield 155, 3) := by decide +kernel
theorem fx_Dk_kept_93 : decode fb_Dk_kept 93 = .ok (.ireturn, 1) := by decide +kernel
theorem fx_Dk_kept_94 : decode fb_Dk_kept 94 = .ok (.aload_n 3, 1) := by decide +kernel
theorem fx_Dk_kept_95 : decode fb_Dk_kept 95 = .ok (.getfield 156, 3) := by decide +kernel
theorem fx_Dk_kept_98 : decode fb_Dk_kept 98 = .ok (.ifCond .eq 7, 3) := by decide +kernel
theorem fx_Dk_kept_101 : decode fb_Dk_kept 101 = .ok (.iconst 1, 1) := by decide +kernel
theorem fx_Dk_kept_102 : decode fb_Dk_kept 102 = .ok (.goto 4, 3) := by decide +kernel
theorem fx_Dk_kept_105 : decode fb_Dk_kept 105 = .ok (.iconst 0, 1) := by decide +kernel
theorem fx_Dk_kept_106 : decode fb_Dk_kept 106 = .ok (.ireturn, 1) := by decide +kernel
theorem fx_Dk_kept_107 : decode fb_Dk_kept 107 = .ok (.aload_n 3, 1) := by decide +kernel
theorem fx_Dk_kept_108 : decode fb_Dk_kept 108 = .ok (.getfield 159, 3) := by decide +kernel
theorem fx_Dk_kept_111 : decode fb_Dk_kept 111 = .ok (.ireturn, 1) := by decide +kernel
theorem fx_Dk_kept_112 : decode fb_Dk_kept 112 = .ok (.aload_n 3, 1) := by decide +kernel
theorem fx_Dk_kept_113 : decode fb_Dk_kept 113 = .ok (.getfield 162, 3) := by decide +kernel
theorem fx_Dk_kept_116 : decode fb_Dk_kept 116 = .ok (.ireturn, 1) := by decide +kernel
theorem fx_Dk_kept_117 : decode fb_Dk_kept 117 = .ok (.aload_n 0, 1) := by decide +kernel
theorem fx_Dk_kept_118 : decode fb_Dk_kept 118 = .ok (.getfield 80, 3) := by decide +kernel
theorem fx_Dk_kept_121 : decode fb_Dk_kept 121 = .ok (.aload_n 3, 1) := by decide +kernel
theorem fx_Dk_kept_122 : decode fb_Dk_kept 122 = .ok (.getfield 165, 3) := by decide +kernel
theorem fx_Dk_kept_125 : decode fb_Dk_kept 125 = .ok (.dcmp .g, 1) := by decide +kernel
theorem fx_Dk_kept_126 : decode fb_Dk_kept 126 = .ok (.ifCond .ge 7, 3) := by decide +kernel
theorem fx_Dk_kept_129 : decode fb_Dk_kept 129 = .ok (.iconst 1, 1) := by decide +kernel
theorem fx_Dk_kept_130 : decode fb_Dk_kept 130 = .ok (.goto 4, 3) := by decide +kernel
theorem fx_Dk_kept_133 : decode fb_Dk_kept 133 = .ok (.iconst 0, 1) := by decide +kernel
theorem fx_Dk_kept_134 : decode fb_Dk_kept 134 = .ok (.ireturn, 1) := by decide +kernel
theorem fx_Dk_left_0 : decode fb_Dk_left 0 = .ok (.aload_n 0, 1) := by decide +kernel
theorem fx_Dk_left_1 : decode fb_Dk_left 1 = .ok (.getfield 19, 3) := by decide +kernel
theorem fx_Dk_left_4 : decode fb_Dk_left 4 = .ok (.iload_n 1, 1) := by decide +kernel
theorem fx_Dk_left_5 : decode fb_Dk_left 5 = .ok (.invokevirtual 142, 3) := by decide +kernel
theorem fx_Dk_left_8 : decode fb_Dk_left 8 = .ok (.ifCond .ne 11, 3) := by decide +kernel
theorem fx_Dk_left_11 : decode fb_Dk_left 11 = .ok (.new 145, 3) := by decide +kernel
theorem fx_Dk_left_14 : decode fb_Dk_left 14 = .ok (.dup, 1) := by decide +kernel
theorem fx_Dk_left_15 : decode fb_Dk_left 15 = .ok (.invokespecial 147, 3) := by decide +kernel
theorem fx_Dk_left_18 : decode fb_Dk_left 18 = .ok (.athrow, 1) := by decide +kernel
theorem fx_Dk_left_19 : decode fb_Dk_left 19 = .ok (.aload_n 0, 1) := by decide +kernel
theorem fx_Dk_left_20 : decode fb_Dk_left 20 = .ok (.getfield 19, 3) := by decide +kernel
theorem fx_Dk_left_23 : decode fb_Dk_left 23 = .ok (.getfield 148, 3) := by decide +kernel
theorem fx_Dk_left_26 : decode fb_Dk_left 26 = .ok (.iload_n 1, 1) := by decide +kernel
theorem fx_Dk_left_27 : decode fb_Dk_left 27 = .ok (.aaload, 1) := by decide +kernel
theorem fx_Dk_left_28 : decode fb_Dk_left 28 = .ok (.getfield 165, 3) := by decide +kernel
theorem fx_Dk_left_31 : decode fb_Dk_left 31 = .ok (.dstore_n 2, 1) := by decide +kernel
theorem fx_Dk_left_32 : decode fb_Dk_left 32 = .ok (.aload_n 0, 1) := by decide +kernel
theorem fx_Dk_left_33 : decode fb_Dk_left 33 = .ok (.getfield 80, 3) := by decide +kernel
theorem fx_Dk_left_36 : decode fb_Dk_left 36 = .ok (.dload_n 2, 1) := by decide +kernel
theorem fx_Dk_left_37 : decode fb_Dk_left 37 = .ok (.dcmp .g, 1) := by decide +kernel
theorem fx_Dk_left_38 : decode fb_Dk_left 38 = .ok (.ifCond .ge 12, 3) := by decide +kernel
theorem fx_Dk_left_41 : decode fb_Dk_left 41 = .ok (.dload_n 2, 1) := by decide +kernel
theorem fx_Dk_left_42 : decode fb_Dk_left 42 = .ok (.aload_n 0, 1) := by decide +kernel
theorem fx_Dk_left_43 : decode fb_Dk_left 43 = .ok (.getfield 80, 3) := by decide +kernel
theorem fx_Dk_left_46 : decode fb_Dk_left 46 = .ok (.dsub, 1) := by decide +kernel
theorem fx_Dk_left_47 : decode fb_Dk_left 47 = .ok (.goto 4, 3) := by decide +kernel
theorem fx_Dk_left_50 : decode fb_Dk_left 50 = .ok (.dconst 0, 1) := by decide +kernel
theorem fx_Dk_left_51 : decode fb_Dk_left 51 = .ok (.dreturn, 1) := by decide +kernel
theorem fx_Dk_count_0 : decode fb_Dk_count 0 = .ok (.iload_n 1, 1) := by decide +kernel
theorem fx_Dk_count_1 : decode fb_Dk_count 1 = .ok (.bipush 10, 2) := by decide +kernel
theorem fx_Dk_count_3 : decode fb_Dk_count 3 = .ok (.isub, 1) := by decide +kernel
theorem fx_Dk_count_4 : decode fb_Dk_count 4 = .ok (.invokestatic 30, 3) := by decide +kernel
theorem fx_Dk_count_7 : decode fb_Dk_count 7 = .ok (.ifCond .eq 16, 3) := by decide +kernel
theorem fx_Dk_count_10 : decode fb_Dk_count 10 = .ok (.aload_n 0, 1) := by decide +kernel
theorem fx_Dk_count_11 : decode fb_Dk_count 11 = .ok (.getfield 11, 3) := by decide +kernel
theorem fx_Dk_count_14 : decode fb_Dk_count 14 = .ok (.iload_n 1, 1) := by decide +kernel
theorem fx_Dk_count_15 : decode fb_Dk_count 15 = .ok (.bipush 10, 2) := by decide +kernel
theorem fx_Dk_count_17 : decode fb_Dk_count 17 = .ok (.isub, 1) := by decide +kernel
theorem fx_Dk_count_18 : decode fb_Dk_count 18 = .ok (.aaload, 1) := by decide +kernel
theorem fx_Dk_count_19 : decode fb_Dk_count 19 = .ok (.getfield 168, 3) := by decide +kernel
theorem fx_Dk_count_22 : decode fb_Dk_count 22 = .ok (.ireturn, 1) := by decide +kernel
theorem fx_Dk_count_23 : decode fb_Dk_count 23 = .ok (.iload_n 1, 1) := by decide +kernel
theorem fx_Dk_count_24 : decode fb_Dk_count 24 = .ok (.bipush 60, 2) := by decide +kernel
theorem fx_Dk_count_26 : decode fb_Dk_count 26 = .ok (.isub, 1) := by decide +kernel
theorem fx_Dk_count_27 : decode fb_Dk_count 27 = .ok (.invokestatic 30, 3) := by decide +kernel
theorem fx_Dk_count_30 : decode fb_Dk_count 30 = .ok (.ifCond .eq 16, 3) := by decide +kernel
theorem fx_Dk_count_33 : decode fb_Dk_count 33 = .ok (.aload_n 0, 1) := by decide +kernel
theorem fx_Dk_count_34 : decode fb_Dk_count 34 = .ok (.getfield 11, 3) := by decide +kernel
theorem fx_Dk_count_37 : decode fb_Dk_count 37 = .ok (.iload_n 1, 1) := by decide +kernel
theorem fx_Dk_count_38 : decode fb_Dk_count 38 = .ok (.bipush 60, 2) := by decide +kernel
theorem fx_Dk_count_40 : decode fb_Dk_count 40 = .ok (.isub, 1) := by decide +kernel
theorem fx_Dk_count_41 : decode fb_Dk_count 41 = .ok (.aaload, 1) := by decide +kernel
theorem fx_Dk_count_42 : decode fb_Dk_count 42 = .ok (.getfield 171, 3) := by decide +kernel
theorem fx_Dk_count_45 : decode fb_Dk_count 45 = .ok (.ireturn, 1) := by decide +kernel
theorem fx_Dk_count_46 : decode fb_Dk_count 46 = .ok (.iload_n 1, 1) := by decide +kernel
theorem fx_Dk_count_47 : decode fb_Dk_count 47 = .ok (.tableswitch 70 0 5 #[37, 42, 47, 52, 57, 62], 37) := by decide +kernel
theorem fx_Dk_count_84 : decode fb_Dk_count 84 = .ok (.aload_n 0, 1) := by decide +kernel
theorem fx_Dk_count_85 : decode fb_Dk_count 85 = .ok (.getfield 100, 3) := by decide +kernel
theorem fx_Dk_count_88 : decode fb_Dk_count 88 = .ok (.ireturn, 1) := by decide +kernel
theorem fx_Dk_count_89 : decode fb_Dk_count 89 = .ok (.aload_n 0, 1) := by decide +kernel
theorem fx_Dk_count_90 : decode fb_Dk_count 90 = .ok (.getfield 109, 3) := by decide +kernel
theorem fx_Dk_count_93 : decode fb_Dk_count 93 = .ok (.ireturn, 1) := by decide +kernel
theorem fx_Dk_count_94 : decode fb_Dk_count 94 = .ok (.aload_n 0, 1) := by decide +kernel
theorem fx_Dk_count_95 : decode fb_Dk_count 95 = .ok (.getfield 174, 3) := by decide +kernel
theorem fx_Dk_count_98 : decode fb_Dk_count 98 = .ok (.ireturn, 1) := by decide +kernel
theorem fx_Dk_count_99 : decode fb_Dk_count 99 = .ok (.aload_n 0, 1) := by decide +kernel
theorem fx_Dk_count_100 : decode fb_Dk_count 100 = .ok (.getfield 175, 3) := by decide +kernel
theorem fx_Dk_count_103 : decode fb_Dk_count 103 = .ok (.ireturn, 1) := by decide +kernel
theorem fx_Dk_count_104 : decode fb_Dk_count 104 = .ok (.aload_n 0, 1) := by decide +kernel
theorem fx_Dk_count_105 : decode fb_Dk_count 105 = .ok (.getfield 178, 3) := by decide +kernel
theorem fx_Dk_count_108 : decode fb_Dk_count 108 = .ok (.ireturn, 1) := by decide +kernel
theorem fx_Dk_count_109 : decode fb_Dk_count 109 = .ok (.aload_n 0, 1) := by decide +kernel
theorem fx_Dk_count_110 : decode fb_Dk_count 110 = .ok (.getfield 19, 3) := by decide +kernel
theorem fx_Dk_count_113 : decode fb_Dk_count 113 = .ok (.getfield 181, 3) := by decide +kernel
theorem fx_Dk_count_116 : decode fb_Dk_count 116 = .ok (.ireturn, 1) := by decide +kernel
theorem fx_Dk_count_117 : decode fb_Dk_count 117 = .ok (.new 34, 3) := by decide +kernel
theorem fx_Dk_count_120 : decode fb_Dk_count 120 = .ok (.dup, 1) := by decide +kernel
theorem fx_Dk_count_121 : decode fb_Dk_count 121 = .ok (.invokespecial 36, 3) := by decide +kernel
theorem fx_Dk_count_124 : decode fb_Dk_count 124 = .ok (.athrow, 1) := by decide +kernel
theorem fx_Dk_goThroughRounds_0 : decode fb_Dk_goThroughRounds 0 = .ok (.iconst 1, 1) := by decide +kernel
theorem fx_Dk_goThroughRounds_1 : decode fb_Dk_goThroughRounds 1 = .ok (.istore_n 1, 1) := by decide +kernel
theorem fx_Dk_goThroughRounds_2 : decode fb_Dk_goThroughRounds 2 = .ok (.iconst 0, 1) := by decide +kernel
theorem fx_Dk_goThroughRounds_3 : decode fb_Dk_goThroughRounds 3 = .ok (.istore_n 2, 1) := by decide +kernel
theorem fx_Dk_goThroughRounds_4 : decode fb_Dk_goThroughRounds 4 = .ok (.iload_n 1, 1) := by decide +kernel
theorem fx_Dk_goThroughRounds_5 : decode fb_Dk_goThroughRounds 5 = .ok (.ifCond .eq 20, 3) := by decide +kernel
theorem fx_Dk_goThroughRounds_8 : decode fb_Dk_goThroughRounds 8 = .ok (.iload_n 2, 1) := by decide +kernel
theorem fx_Dk_goThroughRounds_9 : decode fb_Dk_goThroughRounds 9 = .ok (.iconst 4, 1) := by decide +kernel
theorem fx_Dk_goThroughRounds_10 : decode fb_Dk_goThroughRounds 10 = .ok (.if_icmp .gt 15, 3) := by decide +kernel
theorem fx_Dk_goThroughRounds_13 : decode fb_Dk_goThroughRounds 13 = .ok (.aload_n 0, 1) := by decide +kernel
theorem fx_Dk_goThroughRounds_14 : decode fb_Dk_goThroughRounds 14 = .ok (.iload_n 2, 1) := by decide +kernel
theorem fx_Dk_goThroughRounds_15 : decode fb_Dk_goThroughRounds 15 = .ok (.invokevirtual 184, 3) := by decide +kernel
theorem fx_Dk_goThroughRounds_18 : decode fb_Dk_goThroughRounds 18 = .ok (.istore_n 1, 1) := by decide +kernel
theorem fx_Dk_goThroughRounds_19 : decode fb_Dk_goThroughRounds 19 = .ok (.iinc 2 1, 3) := by decide +kernel
theorem fx_Dk_goThroughRounds_22 : decode fb_Dk_goThroughRounds 22 = .ok (.goto (-18), 3) := by decide +kernel
theorem fx_Dk_goThroughRounds_25 : decode fb_Dk_goThroughRounds 25 = .ok (.return_, 1) := by decide +kernel
theorem fx_Dk_goOneRound_0 : decode fb_Dk_goOneRound 0 = .ok (.aload_n 0, 1) := by decide +kernel
theorem fx_Dk_goOneRound_1 : decode fb_Dk_goOneRound 1 = .ok (.getfield 26, 3) := by decide +kernel
theorem fx_Dk_goOneRound_4 : decode fb_Dk_goOneRound 4 = .ok (.invokevirtual 187, 3) := by decide +kernel
theorem fx_Dk_goOneRound_7 : decode fb_Dk_goOneRound 7 = .ok (.aload_n 0, 1) := by decide +kernel
theorem fx_Dk_goOneRound_8 : decode fb_Dk_goOneRound 8 = .ok (.getfield 11, 3) := by decide +kernel
theorem fx_Dk_goOneRound_11 : decode fb_Dk_goOneRound 11 = .ok (.aload_n 0, 1) := by decide +kernel
theorem fx_Dk_goOneRound_12 : decode fb_Dk_goOneRound 12 = .ok (.getfield 26, 3) := by decide +kernel
theorem fx_Dk_goOneRound_15 : decode fb_Dk_goOneRound 15 = .ok (.getfield 121, 3) := by decide +kernel
theorem fx_Dk_goOneRound_18 : decode fb_Dk_goOneRound 18 = .ok (.aaload, 1) := by decide +kernel
theorem fx_Dk_goOneRound_19 : decode fb_Dk_goOneRound 19 = .ok (.astore_n 2, 1) := by decide +kernel
theorem fx_Dk_goOneRound_20 : decode fb_Dk_goOneRound 20 = .ok (.aload_n 0, 1) := by decide +kernel
theorem fx_Dk_goOneRound_21 : decode fb_Dk_goOneRound 21 = .ok (.getfield 26, 3) := by decide +kernel
theorem fx_Dk_goOneRound_24 : decode fb_Dk_goOneRound 24 = .ok (.aload_n 0, 1) := by decide +kernel
theorem fx_Dk_goOneRound_25 : decode fb_Dk_goOneRound 25 = .ok (.aload_n 2, 1) := by decide +kernel
theorem fx_Dk_goOneRound_26 : decode fb_Dk_goOneRound 26 = .ok (.invokevirtual 190, 3) := by decide +kernel
theorem fx_Dk_goOneRound_29 : decode fb_Dk_goOneRound 29 = .ok (.putfield 106, 3) := by decide +kernel
theorem fx_Dk_goOneRound_32 : decode fb_Dk_goOneRound 32 = .ok (.aload_n 0, 1) := by decide +kernel
theorem fx_Dk_goOneRound_33 : decode fb_Dk_goOneRound 33 = .ok (.getfield 26, 3) := by decide +kernel
theorem fx_Dk_goOneRound_36 : decode fb_Dk_goOneRound 36 = .ok (.getfield 106, 3) := by decide +kernel
theorem fx_Dk_goOneRound_39 : decode fb_Dk_goOneRound 39 = .ok (.ifCond .eq 5, 3) := by decide +kernel
theorem fx_Dk_goOneRound_42 : decode fb_Dk_goOneRound 42 = .ok (.iconst 0, 1) := by decide +kernel
theorem fx_Dk_goOneRound_43 : decode fb_Dk_goOneRound 43 = .ok (.ireturn, 1) := by decide +kernel
theorem fx_Dk_goOneRound_44 : decode fb_Dk_goOneRound 44 = .ok (.aload_n 0, 1) := by decide +kernel
theorem fx_Dk_goOneRound_45 : decode fb_Dk_goOneRound 45 = .ok (.aload_n 2, 1) := by decide +kernel
theorem fx_Dk_goOneRound_46 : decode fb_Dk_goOneRound 46 = .ok (.invokevirtual 194, 3) := by decide +kernel
theorem fx_Dk_goOneRound_49 : decode fb_Dk_goOneRound 49 = .ok (.aload_n 0, 1) := by decide +kernel
theorem fx_Dk_goOneRound_50 : decode fb_Dk_goOneRound 50 = .ok (.getfield 26, 3) := by decide +kernel
theorem fx_Dk_goOneRound_53 : decode fb_Dk_goOneRound 53 = .ok (.invokevirtual 198, 3) := by decide +kernel
theorem fx_Dk_goOneRound_56 : decode fb_Dk_goOneRound 56 = .ok (.ifCond .eq 24, 3) := by decide +kernel
theorem fx_Dk_goOneRound_59 : decode fb_Dk_goOneRound 59 = .ok (.aload_n 0, 1) := by decide +kernel
theorem fx_Dk_goOneRound_60 : decode fb_Dk_goOneRound 60 = .ok (.getfield 26, 3) := by decide +kernel
theorem fx_Dk_goOneRound_63 : decode fb_Dk_goOneRound 63 = .ok (.aload_n 2, 1) := by decide +kernel
theorem fx_Dk_goOneRound_64 : decode fb_Dk_goOneRound 64 = .ok (.invokevirtual 202, 3) := by decide +kernel
theorem fx_Dk_goOneRound_67 : decode fb_Dk_goOneRound 67 = .ok (.ifCond .ne 13, 3) := by decide +kernel
theorem fx_Dk_goOneRound_70 : decode fb_Dk_goOneRound 70 = .ok (.aload_n 0, 1) := by decide +kernel
theorem fx_Dk_goOneRound_71 : decode fb_Dk_goOneRound 71 = .ok (.getfield 26, 3) := by decide +kernel
theorem fx_Dk_goOneRound_74 : decode fb_Dk_goOneRound 74 = .ok (.iconst 3, 1) := by decide +kernel
theorem fx_Dk_goOneRound_75 : decode fb_Dk_goOneRound 75 = .ok (.putfield 106, 3) := by decide +kernel
theorem fx_Dk_goOneRound_78 : decode fb_Dk_goOneRound 78 = .ok (.iconst 0, 1) := by decide +kernel
theorem fx_Dk_goOneRound_79 : decode fb_Dk_goOneRound 79 = .ok (.ireturn, 1) := by decide +kernel
theorem fx_Dk_goOneRound_80 : decode fb_Dk_goOneRound 80 = .ok (.aload_n 2, 1) := by decide +kernel
theorem fx_Dk_goOneRound_81 : decode fb_Dk_goOneRound 81 = .ok (.invokevirtual 206, 3) := by decide +kernel
theorem fx_Dk_goOneRound_84 : decode fb_Dk_goOneRound 84 = .ok (.ifCond .eq 13, 3) := by decide +kernel
theorem fx_Dk_goOneRound_87 : decode fb_Dk_goOneRound 87 = .ok (.aload_n 0, 1) := by decide +kernel
theorem fx_Dk_goOneRound_88 : decode fb_Dk_goOneRound 88 = .ok (.getfield 26, 3) := by decide +kernel
theorem fx_Dk_goOneRound_91 : decode fb_Dk_goOneRound 91 = .ok (.aload_n 2, 1) := by decide +kernel
theorem fx_Dk_goOneRound_92 : decode fb_Dk_goOneRound 92 = .ok (.iload_n 1, 1) := by decide +kernel
theorem fx_Dk_goOneRound_93 : decode fb_Dk_goOneRound 93 = .ok (.invokevirtual 209, 3) := by decide +kernel
theorem fx_Dk_goOneRound_96 : decode fb_Dk_goOneRound 96 = .ok (.ireturn, 1) := by decide +kernel
theorem fx_Dk_goOneRound_97 : decode fb_Dk_goOneRound 97 = .ok (.aload_n 0, 1) := by decide +kernel
theorem fx_Dk_goOneRound_98 : decode fb_Dk_goOneRound 98 = .ok (.getfield 26, 3) := by decide +kernel
theorem fx_Dk_goOneRound_101 : decode fb_Dk_goOneRound 101 = .ok (.aload_n 2, 1) := by decide +kernel
theorem fx_Dk_goOneRound_102 : decode fb_Dk_goOneRound 102 = .ok (.invokevirtual 213, 3) := by decide +kernel
theorem fx_Dk_goOneRound_105 : decode fb_Dk_goOneRound 105 = .ok (.iconst 0, 1) := by decide +kernel
theorem fx_Dk_goOneRound_106 : decode fb_Dk_goOneRound 106 = .ok (.ireturn, 1) := by decide +kernel
theorem fx_Dk_errorBeforeRequesting_0 : decode fb_Dk_errorBeforeRequesting 0 = .ok (.aload_n 0, 1) := by decide +kernel
theorem fx_Dk_errorBeforeRequesting_1 : decode fb_Dk_errorBeforeRequesting 1 = .ok (.getfield 26, 3) := by decide +kernel
theorem fx_Dk_errorBeforeRequesting_4 : decode fb_Dk_errorBeforeRequesting 4 = .ok (.getfield 216, 3) := by decide +kernel
theorem fx_Dk_errorBeforeRequesting_7 : decode fb_Dk_errorBeforeRequesting 7 = .ok (.ifCond .eq 15, 3) := by decide +kernel
theorem fx_Dk_errorBeforeRequesting_10 : decode fb_Dk_errorBeforeRequesting 10 = .ok (.aload_n 0, 1) := by decide +kernel
theorem fx_Dk_errorBeforeRequesting_11 : decode fb_Dk_errorBeforeRequesting 11 = .ok (.getfield 26, 3) := by decide +kernel
theorem fx_Dk_errorBeforeRequesting_14 : decode fb_Dk_errorBeforeRequesting 14 = .ok (.getfield 219, 3) := by decide +kernel
theorem fx_Dk_errorBeforeRequesting_17 : decode fb_Dk_errorBeforeRequesting 17 = .ok (.ifCond .ne 5, 3) := by decide +kernel
theorem fx_Dk_errorBeforeRequesting_20 : decode fb_Dk_errorBeforeRequesting 20 = .ok (.iconst 1, 1) := by decide +kernel
theorem fx_Dk_errorBeforeRequesting_21 : decode fb_Dk_errorBeforeRequesting 21 = .ok (.ireturn, 1) := by decide +kernel
theorem fx_Dk_errorBeforeRequesting_22 : decode fb_Dk_errorBeforeRequesting 22 = .ok (.aload_n 0, 1) := by decide +kernel
theorem fx_Dk_errorBeforeRequesting_23 : decode fb_Dk_errorBeforeRequesting 23 = .ok (.getfield 26, 3) := by decide +kernel
theorem fx_Dk_errorBeforeRequesting_26 : decode fb_Dk_errorBeforeRequesting 26 = .ok (.invokevirtual 198, 3) := by decide +kernel
theorem fx_Dk_errorBeforeRequesting_29 : decode fb_Dk_errorBeforeRequesting 29 = .ok (.ifCond .eq 23, 3) := by decide +kernel
theorem fx_Dk_errorBeforeRequesting_32 : decode fb_Dk_errorBeforeRequesting 32 = .ok (.aload_n 0, 1) := by decide +kernel
theorem fx_Dk_errorBeforeRequesting_33 : decode fb_Dk_errorBeforeRequesting 33 = .ok (.getfield 26, 3) := by decide +kernel
theorem fx_Dk_errorBeforeRequesting_36 : decode fb_Dk_errorBeforeRequesting 36 = .ok (.getfield 127, 3) := by decide +kernel
theorem fx_Dk_errorBeforeRequesting_39 : decode fb_Dk_errorBeforeRequesting 39 = .ok (.aload_n 0, 1) := by decide +kernel
theorem fx_Dk_errorBeforeRequesting_40 : decode fb_Dk_errorBeforeRequesting 40 = .ok (.getfield 26, 3) := by decide +kernel
theorem fx_Dk_errorBeforeRequesting_43 : decode fb_Dk_errorBeforeRequesting 43 = .ok (.getfield 222, 3) := by decide +kernel
theorem fx_Dk_errorBeforeRequesting_46 : decode fb_Dk_errorBeforeRequesting 46 = .ok (.invokestatic 92, 3) := by decide +kernel
theorem fx_Dk_errorBeforeRequesting_49 : decode fb_Dk_errorBeforeRequesting 49 = .ok (.ifCond .eq 5, 3) := by decide +kernel
theorem fx_Dk_errorBeforeRequesting_52 : decode fb_Dk_errorBeforeRequesting 52 = .ok (.iconst 0, 1) := by decide +kernel
theorem fx_Dk_errorBeforeRequesting_53 : decode fb_Dk_errorBeforeRequesting 53 = .ok (.ireturn, 1) := by decide +kernel
theorem fx_Dk_errorBeforeRequesting_54 : decode fb_Dk_errorBeforeRequesting 54 = .ok (.aload_n 0, 1) := by decide +kernel
theorem fx_Dk_errorBeforeRequesting_55 : decode fb_Dk_errorBeforeRequesting 55 = .ok (.getfield 19, 3) := by decide +kernel
theorem fx_Dk_errorBeforeRequesting_58 : decode fb_Dk_errorBeforeRequesting 58 = .ok (.aload_n 0, 1) := by decide +kernel
theorem fx_Dk_errorBeforeRequesting_59 : decode fb_Dk_errorBeforeRequesting 59 = .ok (.getfield 26, 3) := by decide +kernel
theorem fx_Dk_errorBeforeRequesting_62 : decode fb_Dk_errorBeforeRequesting 62 = .ok (.aload_n 0, 1) := by decide +kernel
theorem fx_Dk_errorBeforeRequesting_63 : decode fb_Dk_errorBeforeRequesting 63 = .ok (.getfield 80, 3) := by decide +kernel
theorem fx_Dk_errorBeforeRequesting_66 : decode fb_Dk_errorBeforeRequesting 66 = .ok (.invokevirtual 223, 3) := by decide +kernel
theorem fx_Dk_errorBeforeRequesting_69 : decode fb_Dk_errorBeforeRequesting 69 = .ok (.ifCond .eq 15, 3) := by decide +kernel
theorem fx_Dk_errorBeforeRequesting_72 : decode fb_Dk_errorBeforeRequesting 72 = .ok (.aload_n 0, 1) := by decide +kernel
theorem fx_Dk_errorBeforeRequesting_73 : decode fb_Dk_errorBeforeRequesting 73 = .ok (.dup, 1) := by decide +kernel
theorem fx_Dk_errorBeforeRequesting_74 : decode fb_Dk_errorBeforeRequesting 74 = .ok (.getfield 178, 3) := by decide +kernel
theorem fx_Dk_errorBeforeRequesting_77 : decode fb_Dk_errorBeforeRequesting 77 = .ok (.iconst 1, 1) := by decide +kernel
theorem fx_Dk_errorBeforeRequesting_78 : decode fb_Dk_errorBeforeRequesting 78 = .ok (.iadd, 1) := by decide +kernel
theorem fx_Dk_errorBeforeRequesting_79 : decode fb_Dk_errorBeforeRequesting 79 = .ok (.putfield 178, 3) := by decide +kernel
theorem fx_Dk_errorBeforeRequesting_82 : decode fb_Dk_errorBeforeRequesting 82 = .ok (.iconst 0, 1) := by decide +kernel
theorem fx_Dk_errorBeforeRequesting_83 : decode fb_Dk_errorBeforeRequesting 83 = .ok (.ireturn, 1) := by decide +kernel
theorem fx_Dk_errorBeforeRequesting_84 : decode fb_Dk_errorBeforeRequesting 84 = .ok (.aload_n 0, 1) := by decide +kernel
theorem fx_Dk_errorBeforeRequesting_85 : decode fb_Dk_errorBeforeRequesting 85 = .ok (.aload_n 1, 1) := by decide +kernel
theorem fx_Dk_errorBeforeRequesting_86 : decode fb_Dk_errorBeforeRequesting 86 = .ok (.invokevirtual 227, 3) := by decide +kernel
theorem fx_Dk_errorBeforeRequesting_89 : decode fb_Dk_errorBeforeRequesting 89 = .ok (.ifCond .eq 7, 3) := by decide +kernel
theorem fx_Dk_errorBeforeRequesting_92 : decode fb_Dk_errorBeforeRequesting 92 = .ok (.iconst 0, 1) := by decide +kernel
theorem fx_Dk_errorBeforeRequesting_93 : decode fb_Dk_errorBeforeRequesting 93 = .ok (.goto 4, 3) := by decide +kernel
theorem fx_Dk_errorBeforeRequesting_96 : decode fb_Dk_errorBeforeRequesting 96 = .ok (.iconst 2, 1) := by decide +kernel
theorem fx_Dk_errorBeforeRequesting_97 : decode fb_Dk_errorBeforeRequesting 97 = .ok (.ireturn, 1) := by decide +kernel
theorem fx_Dk_ask_0 : decode fb_Dk_ask 0 = .ok (.aload_n 0, 1) := by decide +kernel
theorem fx_Dk_ask_1 : decode fb_Dk_ask 1 = .ok (.dup, 1) := by decide +kernel
theorem fx_Dk_ask_2 : decode fb_Dk_ask 2 = .ok (.getfield 175, 3) := by decide +kernel
theorem fx_Dk_ask_5 : decode fb_Dk_ask 5 = .ok (.iconst 1, 1) := by decide +kernel
theorem fx_Dk_ask_6 : decode fb_Dk_ask 6 = .ok (.iadd, 1) := by decide +kernel
theorem fx_Dk_ask_7 : decode fb_Dk_ask 7 = .ok (.putfield 175, 3) := by decide +kernel
theorem fx_Dk_ask_10 : decode fb_Dk_ask 10 = .ok (.aload_n 0, 1) := by decide +kernel
theorem fx_Dk_ask_11 : decode fb_Dk_ask 11 = .ok (.getfield 19, 3) := by decide +kernel
theorem fx_Dk_ask_14 : decode fb_Dk_ask 14 = .ok (.aload_n 0, 1) := by decide +kernel
theorem fx_Dk_ask_15 : decode fb_Dk_ask 15 = .ok (.getfield 26, 3) := by decide +kernel
theorem fx_Dk_ask_18 : decode fb_Dk_ask 18 = .ok (.invokevirtual 230, 3) := by decide +kernel
theorem fx_Dk_ask_21 : decode fb_Dk_ask 21 = .ok (.aload_n 1, 1) := by decide +kernel
theorem fx_Dk_ask_22 : decode fb_Dk_ask 22 = .ok (.getfield 65, 3) := by decide +kernel
theorem fx_Dk_ask_25 : decode fb_Dk_ask 25 = .ok (.ifCond .eq 18, 3) := by decide +kernel
theorem fx_Dk_ask_28 : decode fb_Dk_ask 28 = .ok (.aload_n 0, 1) := by decide +kernel
theorem fx_Dk_ask_29 : decode fb_Dk_ask 29 = .ok (.getfield 26, 3) := by decide +kernel
theorem fx_Dk_ask_32 : decode fb_Dk_ask 32 = .ok (.aload_n 1, 1) := by decide +kernel
theorem fx_Dk_ask_33 : decode fb_Dk_ask 33 = .ok (.invokevirtual 202, 3) := by decide +kernel
theorem fx_Dk_ask_36 : decode fb_Dk_ask 36 = .ok (.ifCond .eq 7, 3) := by decide +kernel
theorem fx_Dk_ask_39 : decode fb_Dk_ask 39 = .ok (.iconst 1, 1) := by decide +kernel
theorem fx_Dk_ask_40 : decode fb_Dk_ask 40 = .ok (.goto 4, 3) := by decide +kernel
theorem fx_Dk_ask_43 : decode fb_Dk_ask 43 = .ok (.iconst 0, 1) := by decide +kernel
theorem fx_Dk_ask_44 : decode fb_Dk_ask 44 = .ok (.istore_n 2, 1) := by decide +kernel
theorem fx_Dk_ask_45 : decode fb_Dk_ask 45 = .ok (.iload_n 2, 1) := by decide +kernel
theorem fx_Dk_ask_46 : decode fb_Dk_ask 46 = .ok (.ifCond .eq 21, 3) := by decide +kernel
theorem fx_Dk_ask_49 : decode fb_Dk_ask 49 = .ok (.aload_n 1, 1) := by decide +kernel
theorem fx_Dk_ask_50 : decode fb_Dk_ask 50 = .ok (.getfield 68, 3) := by decide +kernel
theorem fx_Dk_ask_53 : decode fb_Dk_ask 53 = .ok (.aload_n 1, 1) := by decide +kernel
theorem fx_Dk_ask_54 : decode fb_Dk_ask 54 = .ok (.getfield 71, 3) := by decide +kernel
theorem fx_Dk_ask_57 : decode fb_Dk_ask 57 = .ok (.aload_n 0, 1) := by decide +kernel
theorem fx_Dk_ask_58 : decode fb_Dk_ask 58 = .ok (.getfield 26, 3) := by decide +kernel
theorem fx_Dk_ask_61 : decode fb_Dk_ask 61 = .ok (.invokestatic 234, 3) := by decide +kernel
theorem fx_Dk_ask_64 : decode fb_Dk_ask 64 = .ok (.ifCond .ne 5, 3) := by decide +kernel
theorem fx_Dk_ask_67 : decode fb_Dk_ask 67 = .ok (.iconst 0, 1) := by decide +kernel
theorem fx_Dk_ask_68 : decode fb_Dk_ask 68 = .ok (.ireturn, 1) := by decide +kernel
theorem fx_Dk_ask_69 : decode fb_Dk_ask 69 = .ok (.aload_n 1, 1) := by decide +kernel
theorem fx_Dk_ask_70 : decode fb_Dk_ask 70 = .ok (.getfield 74, 3) := by decide +kernel
theorem fx_Dk_ask_73 : decode fb_Dk_ask 73 = .ok (.dconst 0, 1) := by decide +kernel
theorem fx_Dk_ask_74 : decode fb_Dk_ask 74 = .ok (.dcmp .l, 1) := by decide +kernel
theorem fx_Dk_ask_75 : decode fb_Dk_ask 75 = .ok (.ifCond .le 31, 3) := by decide +kernel
theorem fx_Dk_ask_78 : decode fb_Dk_ask 78 = .ok (.aload_n 0, 1) := by decide +kernel
theorem fx_Dk_ask_79 : decode fb_Dk_ask 79 = .ok (.getfield 26, 3) := by decide +kernel
theorem fx_Dk_ask_82 : decode fb_Dk_ask 82 = .ok (.getfield 124, 3) := by decide +kernel
theorem fx_Dk_ask_85 : decode fb_Dk_ask 85 = .ok (.bipush 6, 2) := by decide +kernel
theorem fx_Dk_ask_87 : decode fb_Dk_ask 87 = .ok (.if_icmp .eq 19, 3) := by decide +kernel
theorem fx_Dk_ask_90 : decode fb_Dk_ask 90 = .ok (.aload_n 0, 1) := by decide +kernel
theorem fx_Dk_ask_91 : decode fb_Dk_ask 91 = .ok (.getfield 19, 3) := by decide +kernel
theorem fx_Dk_ask_94 : decode fb_Dk_ask 94 = .ok (.aload_n 0, 1) := by decide +kernel
theorem fx_Dk_ask_95 : decode fb_Dk_ask 95 = .ok (.getfield 26, 3) := by decide +kernel
theorem fx_Dk_ask_98 : decode fb_Dk_ask 98 = .ok (.aload_n 1, 1) := by decide +kernel
theorem fx_Dk_ask_99 : decode fb_Dk_ask 99 = .ok (.aload_n 0, 1) := by decide +kernel
theorem fx_Dk_ask_100 : decode fb_Dk_ask 100 = .ok (.getfield 80, 3) := by decide +kernel
theorem fx_Dk_ask_103 : decode fb_Dk_ask 103 = .ok (.invokevirtual 238, 3) := by decide +kernel
theorem fx_Dk_ask_106 : decode fb_Dk_ask 106 = .ok (.iconst 1, 1) := by decide +kernel
theorem fx_Dk_ask_107 : decode fb_Dk_ask 107 = .ok (.ireturn, 1) := by decide +kernel
theorem fx_Dk_countRequested_0 : decode fb_Dk_countRequested 0 = .ok (.aload_n 0, 1) := by decide +kernel
theorem fx_Dk_countRequested_1 : decode fb_Dk_countRequested 1 = .ok (.dup, 1) := by decide +kernel
theorem fx_Dk_countRequested_2 : decode fb_Dk_countRequested 2 = .ok (.getfield 174, 3) := by decide +kernel
theorem fx_Dk_countRequested_5 : decode fb_Dk_countRequested 5 = .ok (.iconst 1, 1) := by decide +kernel
theorem fx_Dk_countRequested_6 : decode fb_Dk_countRequested 6 = .ok (.iadd, 1) := by decide +kernel
theorem fx_Dk_countRequested_7 : decode fb_Dk_countRequested 7 = .ok (.putfield 174, 3) := by decide +kernel
theorem fx_Dk_countRequested_10 : decode fb_Dk_countRequested 10 = .ok (.aload_n 1, 1) := by decide +kernel
theorem fx_Dk_countRequested_11 : decode fb_Dk_countRequested 11 = .ok (.dup, 1) := by decide +kernel
theorem fx_Dk_countRequested_12 : decode fb_Dk_countRequested 12 = .ok (.getfield 168, 3) := by decide +kernel
theorem fx_Dk_countRequested_15 : decode fb_Dk_countRequested 15 = .ok (.iconst 1, 1) := by decide +kernel
theorem fx_Dk_countRequested_16 : decode fb_Dk_countRequested 16 = .ok (.iadd, 1) := by decide +kernel
theorem fx_Dk_countRequested_17 : decode fb_Dk_countRequested 17 = .ok (.putfield 168, 3) := by decide +kernel
theorem fx_Dk_countRequested_20 : decode fb_Dk_countRequested 20 = .ok (.aload_n 0, 1) := by decide +kernel
theorem fx_Dk_countRequested_21 : decode fb_Dk_countRequested 21 = .ok (.getfield 26, 3) := by decide +kernel
theorem fx_Dk_countRequested_24 : decode fb_Dk_countRequested 24 = .ok (.getfield 130, 3) := by decide +kernel
theorem fx_Dk_countRequested_27 : decode fb_Dk_countRequested 27 = .ok (.ifCond .eq 13, 3) := by decide +kernel
theorem fx_Dk_countRequested_30 : decode fb_Dk_countRequested 30 = .ok (.aload_n 1, 1) := by decide +kernel
theorem fx_Dk_countRequested_31 : decode fb_Dk_countRequested 31 = .ok (.dup, 1) := by decide +kernel
theorem fx_Dk_countRequested_32 : decode fb_Dk_countRequested 32 = .ok (.getfield 171, 3) := by decide +kernel
theorem fx_Dk_countRequested_35 : decode fb_Dk_countRequested 35 = .ok (.iconst 1, 1) := by decide +kernel
theorem fx_Dk_countRequested_36 : decode fb_Dk_countRequested 36 = .ok (.iadd, 1) := by decide +kernel
theorem fx_Dk_countRequested_37 : decode fb_Dk_countRequested 37 = .ok (.putfield 171, 3) := by decide +kernel
theorem fx_Dk_countRequested_40 : decode fb_Dk_countRequested 40 = .ok (.return_, 1) := by decide +kernel
theorem fx_Dk_isOrigin_0 : decode fb_Dk_isOrigin 0 = .ok (.iload_n 0, 1) := by decide +kernel
theorem fx_Dk_isOrigin_1 : decode fb_Dk_isOrigin 1 = .ok (.ifCond .lt 13, 3) := by decide +kernel
theorem fx_Dk_isOrigin_4 : decode fb_Dk_isOrigin 4 = .ok (.iload_n 0, 1) := by decide +kernel
theorem fx_Dk_isOrigin_5 : decode fb_Dk_isOrigin 5 = .ok (.bipush 6, 2) := by decide +kernel
theorem fx_Dk_isOrigin_7 : decode fb_Dk_isOrigin 7 = .ok (.if_icmp .ge 7, 3) := by decide +kernel
theorem fx_Dk_isOrigin_10 : decode fb_Dk_isOrigin 10 = .ok (.iconst 1, 1) := by decide +kernel
theorem fx_Dk_isOrigin_11 : decode fb_Dk_isOrigin 11 = .ok (.goto 4, 3) := by decide +kernel
theorem fx_Dk_isOrigin_14 : decode fb_Dk_isOrigin 14 = .ok (.iconst 0, 1) := by decide +kernel
theorem fx_Dk_isOrigin_15 : decode fb_Dk_isOrigin 15 = .ok (.ireturn, 1) := by decide +kernel
theorem fx_Dk_isUrl_0 : decode fb_Dk_isUrl 0 = .ok (.iload_n 0, 1) := by decide +kernel
theorem fx_Dk_isUrl_1 : decode fb_Dk_isUrl 1 = .ok (.ifCond .lt 13, 3) := by decide +kernel
theorem fx_Dk_isUrl_4 : decode fb_Dk_isUrl 4 = .ok (.iload_n 0, 1) := by decide +kernel
theorem fx_Dk_isUrl_5 : decode fb_Dk_isUrl 5 = .ok (.bipush 48, 2) := by decide +kernel
theorem fx_Dk_isUrl_7 : decode fb_Dk_isUrl 7 = .ok (.if_icmp .ge 7, 3) := by decide +kernel
theorem fx_Dk_isUrl_10 : decode fb_Dk_isUrl 10 = .ok (.iconst 1, 1) := by decide +kernel
theorem fx_Dk_isUrl_11 : decode fb_Dk_isUrl 11 = .ok (.goto 4, 3) := by decide +kernel
theorem fx_Dk_isUrl_14 : decode fb_Dk_isUrl 14 = .ok (.iconst 0, 1) := by decide +kernel
theorem fx_Dk_isUrl_15 : decode fb_Dk_isUrl 15 = .ok (.ireturn, 1) := by decide +kernel
theorem fx_Dk_isMethod_0 : decode fb_Dk_isMethod 0 = .ok (.iload_n 0, 1) := by decide +kernel
theorem fx_Dk_isMethod_1 : decode fb_Dk_isMethod 1 = .ok (.ifCond .lt 12, 3) := by decide +kernel
theorem fx_Dk_isMethod_4 : decode fb_Dk_isMethod 4 = .ok (.iload_n 0, 1) := by decide +kernel
theorem fx_Dk_isMethod_5 : decode fb_Dk_isMethod 5 = .ok (.iconst 4, 1) := by decide +kernel
theorem fx_Dk_isMethod_6 : decode fb_Dk_isMethod 6 = .ok (.if_icmp .ge 7, 3) := by decide +kernel
theorem fx_Dk_isMethod_9 : decode fb_Dk_isMethod 9 = .ok (.iconst 1, 1) := by decide +kernel
theorem fx_Dk_isMethod_10 : decode fb_Dk_isMethod 10 = .ok (.goto 4, 3) := by decide +kernel
theorem fx_Dk_isMethod_13 : decode fb_Dk_isMethod 13 = .ok (.iconst 0, 1) := by decide +kernel
theorem fx_Dk_isMethod_14 : decode fb_Dk_isMethod 14 = .ok (.ireturn, 1) := by decide +kernel
theorem fx_Dk_isFourBits_0 : decode fb_Dk_isFourBits 0 = .ok (.iload_n 0, 1) := by decide +kernel
theorem fx_Dk_isFourBits_1 : decode fb_Dk_isFourBits 1 = .ok (.ifCond .lt 13, 3) := by decide +kernel
theorem fx_Dk_isFourBits_4 : decode fb_Dk_isFourBits 4 = .ok (.iload_n 0, 1) := by decide +kernel
theorem fx_Dk_isFourBits_5 : decode fb_Dk_isFourBits 5 = .ok (.bipush 15, 2) := by decide +kernel
theorem fx_Dk_isFourBits_7 : decode fb_Dk_isFourBits 7 = .ok (.if_icmp .gt 7, 3) := by decide +kernel
theorem fx_Dk_isFourBits_10 : decode fb_Dk_isFourBits 10 = .ok (.iconst 1, 1) := by decide +kernel
theorem fx_Dk_isFourBits_11 : decode fb_Dk_isFourBits 11 = .ok (.goto 4, 3) := by decide +kernel
theorem fx_Dk_isFourBits_14 : decode fb_Dk_isFourBits 14 = .ok (.iconst 0, 1) := by decide +kernel
theorem fx_Dk_isFourBits_15 : decode fb_Dk_isFourBits 15 = .ok (.ireturn, 1) := by decide +kernel
theorem fx_Dk_isChoice_0 : decode fb_Dk_isChoice 0 = .ok (.iload_n 0, 1) := by decide +kernel
theorem fx_Dk_isChoice_1 : decode fb_Dk_isChoice 1 = .ok (.ifCond .lt 12, 3) := by decide +kernel
theorem fx_Dk_isChoice_4 : decode fb_Dk_isChoice 4 = .ok (.iload_n 0, 1) := by decide +kernel
theorem fx_Dk_isChoice_5 : decode fb_Dk_isChoice 5 = .ok (.iconst 3, 1) := by decide +kernel
theorem fx_Dk_isChoice_6 : decode fb_Dk_isChoice 6 = .ok (.if_icmp .ge 7, 3) := by decide +kernel
theorem fx_Dk_isChoice_9 : decode fb_Dk_isChoice 9 = .ok (.iconst 1, 1) := by decide +kernel
theorem fx_Dk_isChoice_10 : decode fb_Dk_isChoice 10 = .ok (.goto 4, 3) := by decide +kernel
theorem fx_Dk_isChoice_13 : decode fb_Dk_isChoice 13 = .ok (.iconst 0, 1) := by decide +kernel
theorem fx_Dk_isChoice_14 : decode fb_Dk_isChoice 14 = .ok (.ireturn, 1) := by decide +kernel
theorem fx_Dk_isSimple_0 : decode fb_Dk_isSimple 0 = .ok (.iload_n 0, 1) := by decide +kernel
theorem fx_Dk_isSimple_1 : decode fb_Dk_isSimple 1 = .ok (.ifCond .eq 8, 3) := by decide +kernel
theorem fx_Dk_isSimple_4 : decode fb_Dk_isSimple 4 = .ok (.iload_n 0, 1) := by decide +kernel
theorem fx_Dk_isSimple_5 : decode fb_Dk_isSimple 5 = .ok (.iconst 1, 1) := by decide +kernel
theorem fx_Dk_isSimple_6 : decode fb_Dk_isSimple 6 = .ok (.if_icmp .ne 7, 3) := by decide +kernel
theorem fx_Dk_isSimple_9 : decode fb_Dk_isSimple 9 = .ok (.iconst 1, 1) := by decide +kernel
theorem fx_Dk_isSimple_10 : decode fb_Dk_isSimple 10 = .ok (.goto 4, 3) := by decide +kernel
theorem fx_Dk_isSimple_13 : decode fb_Dk_isSimple 13 = .ok (.iconst 0, 1) := by decide +kernel
theorem fx_Dk_isSimple_14 : decode fb_Dk_isSimple 14 = .ok (.ireturn, 1) := by decide +kernel
theorem fx_Dk_isPlain_0 : decode fb_Dk_isPlain 0 = .ok (.iload_n 0, 1) := by decide +kernel
theorem fx_Dk_isPlain_1 : decode fb_Dk_isPlain 1 = .ok (.invokestatic 242, 3) := by decide +kernel
theorem fx_Dk_isPlain_4 : decode fb_Dk_isPlain 4 = .ok (.ifCond .eq 11, 3) := by decide +kernel
theorem fx_Dk_isPlain_7 : decode fb_Dk_isPlain 7 = .ok (.iload_n 1, 1) := by decide +kernel
theorem fx_Dk_isPlain_8 : decode fb_Dk_isPlain 8 = .ok (.ifCond .ne 7, 3) := by decide +kernel
theorem fx_Dk_isPlain_11 : decode fb_Dk_isPlain 11 = .ok (.iconst 1, 1) := by decide +kernel
theorem fx_Dk_isPlain_12 : decode fb_Dk_isPlain 12 = .ok (.goto 4, 3) := by decide +kernel
theorem fx_Dk_isPlain_15 : decode fb_Dk_isPlain 15 = .ok (.iconst 0, 1) := by decide +kernel
theorem fx_Dk_isPlain_16 : decode fb_Dk_isPlain 16 = .ok (.ireturn, 1) := by decide +kernel
theorem fx_Dk_lets_0 : decode fb_Dk_lets 0 = .ok (.aload_n 2, 1) := by decide +kernel
theorem fx_Dk_lets_1 : decode fb_Dk_lets 1 = .ok (.getfield 127, 3) := by decide +kernel
theorem fx_Dk_lets_4 : decode fb_Dk_lets 4 = .ok (.invokestatic 242, 3) := by decide +kernel
theorem fx_Dk_lets_7 : decode fb_Dk_lets 7 = .ok (.ifCond .ne 14, 3) := by decide +kernel
theorem fx_Dk_lets_10 : decode fb_Dk_lets 10 = .ok (.iload_n 0, 1) := by decide +kernel
theorem fx_Dk_lets_11 : decode fb_Dk_lets 11 = .ok (.iconst 1, 1) := by decide +kernel
theorem fx_Dk_lets_12 : decode fb_Dk_lets 12 = .ok (.aload_n 2, 1) := by decide +kernel
theorem fx_Dk_lets_13 : decode fb_Dk_lets 13 = .ok (.getfield 127, 3) := by decide +kernel
theorem fx_Dk_lets_16 : decode fb_Dk_lets 16 = .ok (.ishl, 1) := by decide +kernel
theorem fx_Dk_lets_17 : decode fb_Dk_lets 17 = .ok (.iand, 1) := by decide +kernel
theorem fx_Dk_lets_18 : decode fb_Dk_lets 18 = .ok (.ifCond .eq 7, 3) := by decide +kernel
theorem fx_Dk_lets_21 : decode fb_Dk_lets 21 = .ok (.iconst 1, 1) := by decide +kernel
theorem fx_Dk_lets_22 : decode fb_Dk_lets 22 = .ok (.goto 4, 3) := by decide +kernel
theorem fx_Dk_lets_25 : decode fb_Dk_lets 25 = .ok (.iconst 0, 1) := by decide +kernel
theorem fx_Dk_lets_26 : decode fb_Dk_lets 26 = .ok (.istore_n 3, 1) := by decide +kernel
theorem fx_Dk_lets_27 : decode fb_Dk_lets 27 = .ok (.aload_n 2, 1) := by decide +kernel
theorem fx_Dk_lets_28 : decode fb_Dk_lets 28 = .ok (.getfield 222, 3) := by decide +kernel
theorem fx_Dk_lets_31 : decode fb_Dk_lets 31 = .ok (.iload_n 1, 1) := by decide +kernel
theorem fx_Dk_lets_32 : decode fb_Dk_lets 32 = .ok (.iconst (-1), 1) := by decide +kernel
theorem fx_Dk_lets_33 : decode fb_Dk_lets 33 = .ok (.ixor, 1) := by decide +kernel
theorem fx_Dk_lets_34 : decode fb_Dk_lets 34 = .ok (.iand, 1) := by decide +kernel
theorem fx_Dk_lets_35 : decode fb_Dk_lets 35 = .ok (.ifCond .ne 7, 3) := by decide +kernel
theorem fx_Dk_lets_38 : decode fb_Dk_lets 38 = .ok (.iconst 1, 1) := by decide +kernel
theorem fx_Dk_lets_39 : decode fb_Dk_lets 39 = .ok (.goto 4, 3) := by decide +kernel
theorem fx_Dk_lets_42 : decode fb_Dk_lets 42 = .ok (.iconst 0, 1) := by decide +kernel
theorem fx_Dk_lets_43 : decode fb_Dk_lets 43 = .ok (.istore 4, 2) := by decide +kernel
theorem fx_Dk_lets_45 : decode fb_Dk_lets 45 = .ok (.iload_n 3, 1) := by decide +kernel
theorem fx_Dk_lets_46 : decode fb_Dk_lets 46 = .ok (.ifCond .eq 12, 3) := by decide +kernel
theorem fx_Dk_lets_49 : decode fb_Dk_lets 49 = .ok (.iload 4, 2) := by decide +kernel
theorem fx_Dk_lets_51 : decode fb_Dk_lets 51 = .ok (.ifCond .eq 7, 3) := by decide +kernel
theorem fx_Dk_lets_54 : decode fb_Dk_lets 54 = .ok (.iconst 1, 1) := by decide +kernel
theorem fx_Dk_lets_55 : decode fb_Dk_lets 55 = .ok (.goto 4, 3) := by decide +kernel
theorem fx_Dk_lets_58 : decode fb_Dk_lets 58 = .ok (.iconst 0, 1) := by decide +kernel
theorem fx_Dk_lets_59 : decode fb_Dk_lets 59 = .ok (.ireturn, 1) := by decide +kernel
theorem fx_Dk_originOf_0 : decode fb_Dk_originOf 0 = .ok (.iload_n 0, 1) := by decide +kernel
theorem fx_Dk_originOf_1 : decode fb_Dk_originOf 1 = .ok (.bipush 8, 2) := by decide +kernel
theorem fx_Dk_originOf_3 : decode fb_Dk_originOf 3 = .ok (.idiv, 1) := by decide +kernel
theorem fx_Dk_originOf_4 : decode fb_Dk_originOf 4 = .ok (.ireturn, 1) := by decide +kernel
theorem fx_Mm_init_0 : decode fb_Mm_init 0 = .ok (.aload_n 0, 1) := by decide +kernel
theorem fx_Mm_init_1 : decode fb_Mm_init 1 = .ok (.invokespecial 3, 3) := by decide +kernel
theorem fx_Mm_init_4 : decode fb_Mm_init 4 = .ok (.aload_n 0, 1) := by decide +kernel
theorem fx_Mm_init_5 : decode fb_Mm_init 5 = .ok (.bipush 6, 2) := by decide +kernel
theorem fx_Mm_init_7 : decode fb_Mm_init 7 = .ok (.anewarray 9, 3) := by decide +kernel
theorem fx_Mm_init_10 : decode fb_Mm_init 10 = .ok (.putfield 11, 3) := by decide +kernel
theorem fx_Mm_init_13 : decode fb_Mm_init 13 = .ok (.iconst 0, 1) := by decide +kernel
theorem fx_Mm_init_14 : decode fb_Mm_init 14 = .ok (.istore_n 1, 1) := by decide +kernel
theorem fx_Mm_init_15 : decode fb_Mm_init 15 = .ok (.iload_n 1, 1) := by decide +kernel
theorem fx_Mm_init_16 : decode fb_Mm_init 16 = .ok (.bipush 6, 2) := by decide +kernel
theorem fx_Mm_init_18 : decode fb_Mm_init 18 = .ok (.if_icmp .ge 22, 3) := by decide +kernel
theorem fx_Mm_init_21 : decode fb_Mm_init 21 = .ok (.aload_n 0, 1) := by decide +kernel
theorem fx_Mm_init_22 : decode fb_Mm_init 22 = .ok (.getfield 11, 3) := by decide +kernel
theorem fx_Mm_init_25 : decode fb_Mm_init 25 = .ok (.iload_n 1, 1) := by decide +kernel
theorem fx_Mm_init_26 : decode fb_Mm_init 26 = .ok (.new 9, 3) := by decide +kernel
theorem fx_Mm_init_29 : decode fb_Mm_init 29 = .ok (.dup, 1) := by decide +kernel
theorem fx_Mm_init_30 : decode fb_Mm_init 30 = .ok (.invokespecial 17, 3) := by decide +kernel
theorem fx_Mm_init_33 : decode fb_Mm_init 33 = .ok (.aastore, 1) := by decide +kernel
theorem fx_Mm_init_34 : decode fb_Mm_init 34 = .ok (.iinc 1 1, 3) := by decide +kernel
theorem fx_Mm_init_37 : decode fb_Mm_init 37 = .ok (.goto (-22), 3) := by decide +kernel
theorem fx_Mm_init_40 : decode fb_Mm_init 40 = .ok (.return_, 1) := by decide +kernel
theorem fx_Mm_holds_0 : decode fb_Mm_holds 0 = .ok (.iload_n 1, 1) := by decide +kernel
theorem fx_Mm_holds_1 : decode fb_Mm_holds 1 = .ok (.ifCond .lt 15, 3) := by decide +kernel
theorem fx_Mm_holds_4 : decode fb_Mm_holds 4 = .ok (.iload_n 1, 1) := by decide +kernel
theorem fx_Mm_holds_5 : decode fb_Mm_holds 5 = .ok (.aload_n 0, 1) := by decide +kernel
theorem fx_Mm_holds_6 : decode fb_Mm_holds 6 = .ok (.getfield 18, 3) := by decide +kernel
theorem fx_Mm_holds_9 : decode fb_Mm_holds 9 = .ok (.if_icmp .ge 7, 3) := by decide +kernel
theorem fx_Mm_holds_12 : decode fb_Mm_holds 12 = .ok (.iconst 1, 1) := by decide +kernel
theorem fx_Mm_holds_13 : decode fb_Mm_holds 13 = .ok (.goto 4, 3) := by decide +kernel
theorem fx_Mm_holds_16 : decode fb_Mm_holds 16 = .ok (.iconst 0, 1) := by decide +kernel
theorem fx_Mm_holds_17 : decode fb_Mm_holds 17 = .ok (.ireturn, 1) := by decide +kernel
theorem fx_Mm_find_0 : decode fb_Mm_find 0 = .ok (.iconst 0, 1) := by decide +kernel
theorem fx_Mm_find_1 : decode fb_Mm_find 1 = .ok (.istore_n 2, 1) := by decide +kernel
theorem fx_Mm_find_2 : decode fb_Mm_find 2 = .ok (.iload_n 2, 1) := by decide +kernel
theorem fx_Mm_find_3 : decode fb_Mm_find 3 = .ok (.aload_n 0, 1) := by decide +kernel
theorem fx_Mm_find_4 : decode fb_Mm_find 4 = .ok (.getfield 18, 3) := by decide +kernel
theorem fx_Mm_find_7 : decode fb_Mm_find 7 = .ok (.if_icmp .ge 51, 3) := by decide +kernel
theorem fx_Mm_find_10 : decode fb_Mm_find 10 = .ok (.aload_n 0, 1) := by decide +kernel
theorem fx_Mm_find_11 : decode fb_Mm_find 11 = .ok (.getfield 11, 3) := by decide +kernel
theorem fx_Mm_find_14 : decode fb_Mm_find 14 = .ok (.iload_n 2, 1) := by decide +kernel
theorem fx_Mm_find_15 : decode fb_Mm_find 15 = .ok (.aaload, 1) := by decide +kernel
theorem fx_Mm_find_16 : decode fb_Mm_find 16 = .ok (.astore_n 3, 1) := by decide +kernel
theorem fx_Mm_find_17 : decode fb_Mm_find 17 = .ok (.aload_n 3, 1) := by decide +kernel
theorem fx_Mm_find_18 : decode fb_Mm_find 18 = .ok (.getfield 22, 3) := by decide +kernel
theorem fx_Mm_find_21 : decode fb_Mm_find 21 = .ok (.aload_n 1, 1) := by decide +kernel
theorem fx_Mm_find_22 : decode fb_Mm_find 22 = .ok (.getfield 25, 3) := by decide +kernel
theorem fx_Mm_find_25 : decode fb_Mm_find 25 = .ok (.if_icmp .ne 27, 3) := by decide +kernel
theorem fx_Mm_find_28 : decode fb_Mm_find 28 = .ok (.aload_n 3, 1) := by decide +kernel
theorem fx_Mm_find_29 : decode fb_Mm_find 29 = .ok (.getfield 28, 3) := by decide +kernel
theorem fx_Mm_find_32 : decode fb_Mm_find 32 = .ok (.aload_n 1, 1) := by decide +kernel
theorem fx_Mm_find_33 : decode fb_Mm_find 33 = .ok (.getfield 31, 3) := by decide +kernel
theorem fx_Mm_find_36 : decode fb_Mm_find 36 = .ok (.if_icmp .ne 16, 3) := by decide +kernel
theorem fx_Mm_find_39 : decode fb_Mm_find 39 = .ok (.aload_n 3, 1) := by decide +kernel
theorem fx_Mm_find_40 : decode fb_Mm_find 40 = .ok (.getfield 32, 3) := by decide +kernel
theorem fx_Mm_find_43 : decode fb_Mm_find 43 = .ok (.aload_n 1, 1) := by decide +kernel
theorem fx_Mm_find_44 : decode fb_Mm_find 44 = .ok (.getfield 36, 3) := by decide +kernel
theorem fx_Mm_find_47 : decode fb_Mm_find 47 = .ok (.if_icmp .ne 5, 3) := by decide +kernel
theorem fx_Mm_find_50 : decode fb_Mm_find 50 = .ok (.iload_n 2, 1) := by decide +kernel
theorem fx_Mm_find_51 : decode fb_Mm_find 51 = .ok (.ireturn, 1) := by decide +kernel
theorem fx_Mm_find_52 : decode fb_Mm_find 52 = .ok (.iinc 2 1, 3) := by decide +kernel
theorem fx_Mm_find_55 : decode fb_Mm_find 55 = .ok (.goto (-53), 3) := by decide +kernel
theorem fx_Mm_find_58 : decode fb_Mm_find 58 = .ok (.iconst (-1), 1) := by decide +kernel
theorem fx_Mm_find_59 : decode fb_Mm_find 59 = .ok (.ireturn, 1) := by decide +kernel
theorem fx_Mm_covers_0 : decode fb_Mm_covers 0 = .ok (.aload_n 0, 1) := by decide +kernel
theorem fx_Mm_covers_1 : decode fb_Mm_covers 1 = .ok (.aload_n 1, 1) := by decide +kernel
theorem fx_Mm_covers_2 : decode fb_Mm_covers 2 = .ok (.invokevirtual 39, 3) := by decide +kernel
theorem fx_Mm_covers_5 : decode fb_Mm_covers 5 = .ok (.istore 4, 2) := by decide +kernel
theorem fx_Mm_covers_7 : decode fb_Mm_covers 7 = .ok (.iload 4, 2) := by decide +kernel
theorem fx_Mm_covers_9 : decode fb_Mm_covers 9 = .ok (.iconst (-1), 1) := by decide +kernel
theorem fx_Mm_covers_10 : decode fb_Mm_covers 10 = .ok (.if_icmp .ne 5, 3) := by decide +kernel
theorem fx_Mm_covers_13 : decode fb_Mm_covers 13 = .ok (.iconst 0, 1) := by decide +kernel
theorem fx_Mm_covers_14 : decode fb_Mm_covers 14 = .ok (.ireturn, 1) := by decide +kernel
theorem fx_Mm_covers_15 : decode fb_Mm_covers 15 = .ok (.aload_n 0, 1) := by decide +kernel
theorem fx_Mm_covers_16 : decode fb_Mm_covers 16 = .ok (.getfield 11, 3) := by decide +kernel
theorem fx_Mm_covers_19 : decode fb_Mm_covers 19 = .ok (.iload 4, 2) := by decide +kernel
theorem fx_Mm_covers_21 : decode fb_Mm_covers 21 = .ok (.aaload, 1) := by decide +kernel
theorem fx_Mm_covers_22 : decode fb_Mm_covers 22 = .ok (.astore 5, 2) := by decide +kernel
theorem fx_Mm_covers_24 : decode fb_Mm_covers 24 = .ok (.dload_n 2, 1) := by decide +kernel
theorem fx_Mm_covers_25 : decode fb_Mm_covers 25 = .ok (.aload 5, 2) := by decide +kernel
theorem fx_Mm_covers_27 : decode fb_Mm_covers 27 = .ok (.getfield 43, 3) := by decide +kernel
theorem fx_Mm_covers_30 : decode fb_Mm_covers 30 = .ok (.dcmp .g, 1) := by decide +kernel
theorem fx_Mm_covers_31 : decode fb_Mm_covers 31 = .ok (.ifCond .ge 24, 3) := by decide +kernel
theorem fx_Mm_covers_34 : decode fb_Mm_covers 34 = .ok (.aload 5, 2) := by decide +kernel
theorem fx_Mm_covers_36 : decode fb_Mm_covers 36 = .ok (.getfield 47, 3) := by decide +kernel
theorem fx_Mm_covers_39 : decode fb_Mm_covers 39 = .ok (.aload 5, 2) := by decide +kernel
theorem fx_Mm_covers_41 : decode fb_Mm_covers 41 = .ok (.getfield 50, 3) := by decide +kernel
theorem fx_Mm_covers_44 : decode fb_Mm_covers 44 = .ok (.aload_n 1, 1) := by decide +kernel
theorem fx_Mm_covers_45 : decode fb_Mm_covers 45 = .ok (.invokestatic 53, 3) := by decide +kernel
theorem fx_Mm_covers_48 : decode fb_Mm_covers 48 = .ok (.ifCond .eq 7, 3) := by decide +kernel
theorem fx_Mm_covers_51 : decode fb_Mm_covers 51 = .ok (.iconst 1, 1) := by decide +kernel
theorem fx_Mm_covers_52 : decode fb_Mm_covers 52 = .ok (.goto 4, 3) := by decide +kernel
theorem fx_Mm_covers_55 : decode fb_Mm_covers 55 = .ok (.iconst 0, 1) := by decide +kernel
theorem fx_Mm_covers_56 : decode fb_Mm_covers 56 = .ok (.ireturn, 1) := by decide +kernel
theorem fx_Mm_forget_0 : decode fb_Mm_forget 0 = .ok (.aload_n 0, 1) := by decide +kernel
theorem fx_Mm_forget_1 : decode fb_Mm_forget 1 = .ok (.aload_n 1, 1) := by decide +kernel
theorem fx_Mm_forget_2 : decode fb_Mm_forget 2 = .ok (.invokevirtual 39, 3) := by decide +kernel
theorem fx_Mm_forget_5 : decode fb_Mm_forget 5 = .ok (.istore_n 2, 1) := by decide +kernel
theorem fx_Mm_forget_6 : decode fb_Mm_forget 6 = .ok (.iload_n 2, 1) := by decide +kernel
theorem fx_Mm_forget_7 : decode fb_Mm_forget 7 = .ok (.iconst (-1), 1) := by decide +kernel
theorem fx_Mm_forget_8 : decode fb_Mm_forget 8 = .ok (.if_icmp .eq 8, 3) := by decide +kernel
theorem fx_Mm_forget_11 : decode fb_Mm_forget 11 = .ok (.aload_n 0, 1) := by decide +kernel
theorem fx_Mm_forget_12 : decode fb_Mm_forget 12 = .ok (.iload_n 2, 1) := by decide +kernel
theorem fx_Mm_forget_13 : decode fb_Mm_forget 13 = .ok (.invokevirtual 57, 3) := by decide +kernel
theorem fx_Mm_forget_16 : decode fb_Mm_forget 16 = .ok (.return_, 1) := by decide +kernel
theorem fx_Mm_remember_0 : decode fb_Mm_remember 0 = .ok (.aload_n 0, 1) := by decide +kernel
theorem fx_Mm_remember_1 : decode fb_Mm_remember 1 = .ok (.getfield 18, 3) := by decide +kernel
theorem fx_Mm_remember_4 : decode fb_Mm_remember 4 = .ok (.bipush 6, 2) := by decide +kernel
theorem fx_Mm_remember_6 : decode fb_Mm_remember 6 = .ok (.if_icmp .ne 11, 3) := by decide +kernel
theorem fx_Mm_remember_9 : decode fb_Mm_remember 9 = .ok (.aload_n 0, 1) := by decide +kernel
theorem fx_Mm_remember_10 : decode fb_Mm_remember 10 = .ok (.aload_n 0, 1) := by decide +kernel
theorem fx_Mm_remember_11 : decode fb_Mm_remember 11 = .ok (.invokevirtual 61, 3) := by decide +kernel
theorem fx_Mm_remember_14 : decode fb_Mm_remember 14 = .ok (.invokevirtual 57, 3) := by decide +kernel
theorem fx_Mm_remember_17 : decode fb_Mm_remember 17 = .ok (.aload_n 2, 1) := by decide +kernel
theorem fx_Mm_remember_18 : decode fb_Mm_remember 18 = .ok (.getfield 65, 3) := by decide +kernel
theorem fx_Mm_remember_21 : decode fb_Mm_remember 21 = .ok (.ldc2_w 70, 3) := by decide +kernel
theorem fx_Mm_remember_24 : decode fb_Mm_remember 24 = .ok (.dcmp .g, 1) := by decide +kernel
theorem fx_Mm_remember_25 : decode fb_Mm_remember 25 = .ok (.ifCond .ge 10, 3) := by decide +kernel
theorem fx_Mm_remember_28 : decode fb_Mm_remember 28 = .ok (.aload_n 2, 1) := by decide +kernel
theorem fx_Mm_remember_29 : decode fb_Mm_remember 29 = .ok (.getfield 65, 3) := by decide +kernel
theorem fx_Mm_remember_32 : decode fb_Mm_remember 32 = .ok (.goto 6, 3) := by decide +kernel
theorem fx_Mm_remember_35 : decode fb_Mm_remember 35 = .ok (.ldc2_w 70, 3) := by decide +kernel
theorem fx_Mm_remember_38 : decode fb_Mm_remember 38 = .ok (.dstore 5, 2) := by decide +kernel
theorem fx_Mm_remember_40 : decode fb_Mm_remember 40 = .ok (.aload_n 0, 1) := by decide +kernel
theorem fx_Mm_remember_41 : decode fb_Mm_remember 41 = .ok (.getfield 11, 3) := by decide +kernel
theorem fx_Mm_remember_44 : decode fb_Mm_remember 44 = .ok (.aload_n 0, 1) := by decide +kernel
theorem fx_Mm_remember_45 : decode fb_Mm_remember 45 = .ok (.getfield 18, 3) := by decide +kernel
theorem fx_Mm_remember_48 : decode fb_Mm_remember 48 = .ok (.aaload, 1) := by decide +kernel
theorem fx_Mm_remember_49 : decode fb_Mm_remember 49 = .ok (.aload_n 1, 1) := by decide +kernel
theorem fx_Mm_remember_50 : decode fb_Mm_remember 50 = .ok (.aload_n 2, 1) := by decide +kernel
theorem fx_Mm_remember_51 : decode fb_Mm_remember 51 = .ok (.dload_n 3, 1) := by decide +kernel
theorem fx_Mm_remember_52 : decode fb_Mm_remember 52 = .ok (.dload 5, 2) := by decide +kernel
theorem fx_Mm_remember_54 : decode fb_Mm_remember 54 = .ok (.dadd, 1) := by decide +kernel
theorem fx_Mm_remember_55 : decode fb_Mm_remember 55 = .ok (.invokevirtual 72, 3) := by decide +kernel
theorem fx_Mm_remember_58 : decode fb_Mm_remember 58 = .ok (.aload_n 0, 1) := by decide +kernel
theorem fx_Mm_remember_59 : decode fb_Mm_remember 59 = .ok (.dup, 1) := by decide +kernel
theorem fx_Mm_remember_60 : decode fb_Mm_remember 60 = .ok (.getfield 18, 3) := by decide +kernel
theorem fx_Mm_remember_63 : decode fb_Mm_remember 63 = .ok (.iconst 1, 1) := by decide +kernel
theorem fx_Mm_remember_64 : decode fb_Mm_remember 64 = .ok (.iadd, 1) := by decide +kernel
theorem fx_Mm_remember_65 : decode fb_Mm_remember 65 = .ok (.putfield 18, 3) := by decide +kernel
theorem fx_Mm_remember_68 : decode fb_Mm_remember 68 = .ok (.return_, 1) := by decide +kernel
theorem fx_Mm_firstToEnd_0 : decode fb_Mm_firstToEnd 0 = .ok (.iconst 0, 1) := by decide +kernel
theorem fx_Mm_firstToEnd_1 : decode fb_Mm_firstToEnd 1 = .ok (.istore_n 1, 1) := by decide +kernel
theorem fx_Mm_firstToEnd_2 : decode fb_Mm_firstToEnd 2 = .ok (.iconst 1, 1) := by decide +kernel
theorem fx_Mm_firstToEnd_3 : decode fb_Mm_firstToEnd 3 = .ok (.istore_n 2, 1) := by decide +kernel
theorem fx_Mm_firstToEnd_4 : decode fb_Mm_firstToEnd 4 = .ok (.iload_n 2, 1) := by decide +kernel
theorem fx_Mm_firstToEnd_5 : decode fb_Mm_firstToEnd 5 = .ok (.aload_n 0, 1) := by decide +kernel
theorem fx_Mm_firstToEnd_6 : decode fb_Mm_firstToEnd 6 = .ok (.getfield 18, 3) := by decide +kernel
theorem fx_Mm_firstToEnd_9 : decode fb_Mm_firstToEnd 9 = .ok (.if_icmp .ge 33, 3) := by decide +kernel
theorem fx_Mm_firstToEnd_12 : decode fb_Mm_firstToEnd 12 = .ok (.aload_n 0, 1) := by decide +kernel
theorem fx_Mm_firstToEnd_13 : decode fb_Mm_firstToEnd 13 = .ok (.getfield 11, 3) := by decide +kernel
theorem fx_Mm_firstToEnd_16 : decode fb_Mm_firstToEnd 16 = .ok (.iload_n 2, 1) := by decide +kernel
theorem fx_Mm_firstToEnd_17 : decode fb_Mm_firstToEnd 17 = .ok (.aaload, 1) := by decide +kernel
theorem fx_Mm_firstToEnd_18 : decode fb_Mm_firstToEnd 18 = .ok (.getfield 43, 3) := by decide +kernel
theorem fx_Mm_firstToEnd_21 : decode fb_Mm_firstToEnd 21 = .ok (.aload_n 0, 1) := by decide +kernel
theorem fx_Mm_firstToEnd_22 : decode fb_Mm_firstToEnd 22 = .ok (.getfield 11, 3) := by decide +kernel
theorem fx_Mm_firstToEnd_25 : decode fb_Mm_firstToEnd 25 = .ok (.iload_n 1, 1) := by decide +kernel
theorem fx_Mm_firstToEnd_26 : decode fb_Mm_firstToEnd 26 = .ok (.aaload, 1) := by decide +kernel
theorem fx_Mm_firstToEnd_27 : decode fb_Mm_firstToEnd 27 = .ok (.getfield 43, 3) := by decide +kernel
theorem fx_Mm_firstToEnd_30 : decode fb_Mm_firstToEnd 30 = .ok (.dcmp .g, 1) := by decide +kernel
theorem fx_Mm_firstToEnd_31 : decode fb_Mm_firstToEnd 31 = .ok (.ifCond .ge 5, 3) := by decide +kernel
theorem fx_Mm_firstToEnd_34 : decode fb_Mm_firstToEnd 34 = .ok (.iload_n 2, 1) := by decide +kernel
theorem fx_Mm_firstToEnd_35 : decode fb_Mm_firstToEnd 35 = .ok (.istore_n 1, 1) := by decide +kernel
theorem fx_Mm_firstToEnd_36 : decode fb_Mm_firstToEnd 36 = .ok (.iinc 2 1, 3) := by decide +kernel
theorem fx_Mm_firstToEnd_39 : decode fb_Mm_firstToEnd 39 = .ok (.goto (-35), 3) := by decide +kernel
theorem fx_Mm_firstToEnd_42 : decode fb_Mm_firstToEnd 42 = .ok (.iload_n 1, 1) := by decide +kernel
theorem fx_Mm_firstToEnd_43 : decode fb_Mm_firstToEnd 43 = .ok (.ireturn, 1) := by decide +kernel
theorem fx_Mm_drop_0 : decode fb_Mm_drop 0 = .ok (.aload_n 0, 1) := by decide +kernel
theorem fx_Mm_drop_1 : decode fb_Mm_drop 1 = .ok (.getfield 11, 3) := by decide +kernel
theorem fx_Mm_drop_4 : decode fb_Mm_drop 4 = .ok (.iload_n 1, 1) := by decide +kernel
theorem fx_Mm_drop_5 : decode fb_Mm_drop 5 = .ok (.aaload, 1) := by decide +kernel
theorem fx_Mm_drop_6 : decode fb_Mm_drop 6 = .ok (.astore_n 2, 1) := by decide +kernel
theorem fx_Mm_drop_7 : decode fb_Mm_drop 7 = .ok (.iload_n 1, 1) := by decide +kernel
theorem fx_Mm_drop_8 : decode fb_Mm_drop 8 = .ok (.iconst 1, 1) := by decide +kernel
theorem fx_Mm_drop_9 : decode fb_Mm_drop 9 = .ok (.iadd, 1) := by decide +kernel
theorem fx_Mm_drop_10 : decode fb_Mm_drop 10 = .ok (.istore_n 3, 1) := by decide +kernel
theorem fx_Mm_drop_11 : decode fb_Mm_drop 11 = .ok (.iload_n 3, 1) := by decide +kernel
theorem fx_Mm_drop_12 : decode fb_Mm_drop 12 = .ok (.aload_n 0, 1) := by decide +kernel
theorem fx_Mm_drop_13 : decode fb_Mm_drop 13 = .ok (.getfield 18, 3) := by decide +kernel
theorem fx_Mm_drop_16 : decode fb_Mm_drop 16 = .ok (.if_icmp .ge 23, 3) := by decide +kernel
theorem fx_Mm_drop_19 : decode fb_Mm_drop 19 = .ok (.aload_n 0, 1) := by decide +kernel
theorem fx_Mm_drop_20 : decode fb_Mm_drop 20 = .ok (.getfield 11, 3) := by decide +kernel
theorem fx_Mm_drop_23 : decode fb_Mm_drop 23 = .ok (.iload_n 3, 1) := by decide +kernel
theorem fx_Mm_drop_24 : decode fb_Mm_drop 24 = .ok (.iconst 1, 1) := by decide +kernel
theorem fx_Mm_drop_25 : decode fb_Mm_drop 25 = .ok (.isub, 1) := by decide +kernel
theorem fx_Mm_drop_26 : decode fb_Mm_drop 26 = .ok (.aload_n 0, 1) := by decide +kernel
theorem fx_Mm_drop_27 : decode fb_Mm_drop 27 = .ok (.getfield 11, 3) := by decide +kernel
theorem fx_Mm_drop_30 : decode fb_Mm_drop 30 = .ok (.iload_n 3, 1) := by decide +kernel
theorem fx_Mm_drop_31 : decode fb_Mm_drop 31 = .ok (.aaload, 1) := by decide +kernel
theorem fx_Mm_drop_32 : decode fb_Mm_drop 32 = .ok (.aastore, 1) := by decide +kernel
theorem fx_Mm_drop_33 : decode fb_Mm_drop 33 = .ok (.iinc 3 1, 3) := by decide +kernel
theorem fx_Mm_drop_36 : decode fb_Mm_drop 36 = .ok (.goto (-25), 3) := by decide +kernel
theorem fx_Mm_drop_39 : decode fb_Mm_drop 39 = .ok (.aload_n 0, 1) := by decide +kernel
theorem fx_Mm_drop_40 : decode fb_Mm_drop 40 = .ok (.dup, 1) := by decide +kernel
theorem fx_Mm_drop_41 : decode fb_Mm_drop 41 = .ok (.getfield 18, 3) := by decide +kernel
theorem fx_Mm_drop_44 : decode fb_Mm_drop 44 = .ok (.iconst 1, 1) := by decide +kernel
theorem fx_Mm_drop_45 : decode fb_Mm_drop 45 = .ok (.isub, 1) := by decide +kernel
theorem fx_Mm_drop_46 : decode fb_Mm_drop 46 = .ok (.putfield 18, 3) := by decide +kernel
theorem fx_Mm_drop_49 : decode fb_Mm_drop 49 = .ok (.aload_n 0, 1) := by decide +kernel
theorem fx_Mm_drop_50 : decode fb_Mm_drop 50 = .ok (.getfield 11, 3) := by decide +kernel
theorem fx_Mm_drop_53 : decode fb_Mm_drop 53 = .ok (.aload_n 0, 1) := by decide +kernel
theorem fx_Mm_drop_54 : decode fb_Mm_drop 54 = .ok (.getfield 18, 3) := by decide +kernel
theorem fx_Mm_drop_57 : decode fb_Mm_drop 57 = .ok (.aload_n 2, 1) := by decide +kernel
theorem fx_Mm_drop_58 : decode fb_Mm_drop 58 = .ok (.aastore, 1) := by decide +kernel
theorem fx_Mm_drop_59 : decode fb_Mm_drop 59 = .ok (.return_, 1) := by decide +kernel
theorem fx_Pm_init_0 : decode fb_Pm_init 0 = .ok (.aload_n 0, 1) := by decide +kernel
theorem fx_Pm_init_1 : decode fb_Pm_init 1 = .ok (.invokespecial 1, 3) := by decide +kernel
theorem fx_Pm_init_4 : decode fb_Pm_init 4 = .ok (.return_, 1) := by decide +kernel
theorem fx_Pm_write_0 : decode fb_Pm_write 0 = .ok (.aload_n 0, 1) := by decide +kernel
theorem fx_Pm_write_1 : decode fb_Pm_write 1 = .ok (.aload_n 1, 1) := by decide +kernel
theorem fx_Pm_write_2 : decode fb_Pm_write 2 = .ok (.getfield 7, 3) := by decide +kernel
theorem fx_Pm_write_5 : decode fb_Pm_write 5 = .ok (.putfield 13, 3) := by decide +kernel
theorem fx_Pm_write_8 : decode fb_Pm_write 8 = .ok (.aload_n 0, 1) := by decide +kernel
theorem fx_Pm_write_9 : decode fb_Pm_write 9 = .ok (.aload_n 1, 1) := by decide +kernel
theorem fx_Pm_write_10 : decode fb_Pm_write 10 = .ok (.getfield 16, 3) := by decide +kernel
theorem fx_Pm_write_13 : decode fb_Pm_write 13 = .ok (.putfield 19, 3) := by decide +kernel
theorem fx_Pm_write_16 : decode fb_Pm_write 16 = .ok (.aload_n 0, 1) := by decide +kernel
theorem fx_Pm_write_17 : decode fb_Pm_write 17 = .ok (.aload_n 1, 1) := by decide +kernel
theorem fx_Pm_write_18 : decode fb_Pm_write 18 = .ok (.getfield 20, 3) := by decide +kernel
theorem fx_Pm_write_21 : decode fb_Pm_write 21 = .ok (.putfield 24, 3) := by decide +kernel
theorem fx_Pm_write_24 : decode fb_Pm_write 24 = .ok (.aload_n 0, 1) := by decide +kernel
theorem fx_Pm_write_25 : decode fb_Pm_write 25 = .ok (.aload_n 2, 1) := by decide +kernel
theorem fx_Pm_write_26 : decode fb_Pm_write 26 = .ok (.getfield 27, 3) := by decide +kernel
theorem fx_Pm_write_29 : decode fb_Pm_write 29 = .ok (.putfield 32, 3) := by decide +kernel
theorem fx_Pm_write_32 : decode fb_Pm_write 32 = .ok (.aload_n 0, 1) := by decide +kernel
theorem fx_Pm_write_33 : decode fb_Pm_write 33 = .ok (.aload_n 2, 1) := by decide +kernel
theorem fx_Pm_write_34 : decode fb_Pm_write 34 = .ok (.getfield 35, 3) := by decide +kernel
theorem fx_Pm_write_37 : decode fb_Pm_write 37 = .ok (.putfield 38, 3) := by decide +kernel
theorem fx_Pm_write_40 : decode fb_Pm_write 40 = .ok (.aload_n 0, 1) := by decide +kernel
theorem fx_Pm_write_41 : decode fb_Pm_write 41 = .ok (.dload_n 3, 1) := by decide +kernel
theorem fx_Pm_write_42 : decode fb_Pm_write 42 = .ok (.putfield 41, 3) := by decide +kernel
theorem fx_Pm_write_45 : decode fb_Pm_write 45 = .ok (.return_, 1) := by decide +kernel
theorem fx_Rq_init_0 : decode fb_Rq_init 0 = .ok (.aload_n 0, 1) := by decide +kernel
theorem fx_Rq_init_1 : decode fb_Rq_init 1 = .ok (.invokespecial 3, 3) := by decide +kernel
theorem fx_Rq_init_4 : decode fb_Rq_init 4 = .ok (.return_, 1) := by decide +kernel
theorem fx_Rq_begin_0 : decode fb_Rq_begin 0 = .ok (.aload_n 0, 1) := by decide +kernel
theorem fx_Rq_begin_1 : decode fb_Rq_begin 1 = .ok (.iload_n 1, 1) := by decide +kernel
theorem fx_Rq_begin_2 : decode fb_Rq_begin 2 = .ok (.putfield 9, 3) := by decide +kernel
theorem fx_Rq_begin_5 : decode fb_Rq_begin 5 = .ok (.aload_n 0, 1) := by decide +kernel
theorem fx_Rq_begin_6 : decode fb_Rq_begin 6 = .ok (.iload_n 2, 1) := by decide +kernel
theorem fx_Rq_begin_7 : decode fb_Rq_begin 7 = .ok (.putfield 15, 3) := by decide +kernel
theorem fx_Rq_begin_10 : decode fb_Rq_begin 10 = .ok (.aload_n 0, 1) := by decide +kernel
theorem fx_Rq_begin_11 : decode fb_Rq_begin 11 = .ok (.iload_n 3, 1) := by decide +kernel
theorem fx_Rq_begin_12 : decode fb_Rq_begin 12 = .ok (.putfield 18, 3) := by decide +kernel
theorem fx_Rq_begin_15 : decode fb_Rq_begin 15 = .ok (.aload_n 0, 1) := by decide +kernel
theorem fx_Rq_begin_16 : decode fb_Rq_begin 16 = .ok (.iload 4, 2) := by decide +kernel
theorem fx_Rq_begin_18 : decode fb_Rq_begin 18 = .ok (.putfield 21, 3) := by decide +kernel
theorem fx_Rq_begin_21 : decode fb_Rq_begin 21 = .ok (.aload_n 0, 1) := by decide +kernel
theorem fx_Rq_begin_22 : decode fb_Rq_begin 22 = .ok (.iload 5, 2) := by decide +kernel
theorem fx_Rq_begin_24 : decode fb_Rq_begin 24 = .ok (.putfield 24, 3) := by decide +kernel
theorem fx_Rq_begin_27 : decode fb_Rq_begin 27 = .ok (.aload_n 0, 1) := by decide +kernel
theorem fx_Rq_begin_28 : decode fb_Rq_begin 28 = .ok (.iload 6, 2) := by decide +kernel
theorem fx_Rq_begin_30 : decode fb_Rq_begin 30 = .ok (.putfield 27, 3) := by decide +kernel
theorem fx_Rq_begin_33 : decode fb_Rq_begin 33 = .ok (.aload_n 0, 1) := by decide +kernel
theorem fx_Rq_begin_34 : decode fb_Rq_begin 34 = .ok (.iload 7, 2) := by decide +kernel
theorem fx_Rq_begin_36 : decode fb_Rq_begin 36 = .ok (.putfield 30, 3) := by decide +kernel
theorem fx_Rq_begin_39 : decode fb_Rq_begin 39 = .ok (.aload_n 0, 1) := by decide +kernel
theorem fx_Rq_begin_40 : decode fb_Rq_begin 40 = .ok (.iconst 0, 1) := by decide +kernel
theorem fx_Rq_begin_41 : decode fb_Rq_begin 41 = .ok (.putfield 33, 3) := by decide +kernel
theorem fx_Rq_begin_44 : decode fb_Rq_begin 44 = .ok (.aload_n 0, 1) := by decide +kernel
theorem fx_Rq_begin_45 : decode fb_Rq_begin 45 = .ok (.iconst 0, 1) := by decide +kernel
theorem fx_Rq_begin_46 : decode fb_Rq_begin 46 = .ok (.putfield 36, 3) := by decide +kernel
theorem fx_Rq_begin_49 : decode fb_Rq_begin 49 = .ok (.aload_n 0, 1) := by decide +kernel
theorem fx_Rq_begin_50 : decode fb_Rq_begin 50 = .ok (.iconst 0, 1) := by decide +kernel
theorem fx_Rq_begin_51 : decode fb_Rq_begin 51 = .ok (.putfield 40, 3) := by decide +kernel
theorem fx_Rq_begin_54 : decode fb_Rq_begin 54 = .ok (.aload_n 0, 1) := by decide +kernel
theorem fx_Rq_begin_55 : decode fb_Rq_begin 55 = .ok (.iconst 0, 1) := by decide +kernel
theorem fx_Rq_begin_56 : decode fb_Rq_begin 56 = .ok (.putfield 43, 3) := by decide +kernel
theorem fx_Rq_begin_59 : decode fb_Rq_begin 59 = .ok (.aload_n 0, 1) := by decide +kernel
theorem fx_Rq_begin_60 : decode fb_Rq_begin 60 = .ok (.iconst 0, 1) := by decide +kernel
theorem fx_Rq_begin_61 : decode fb_Rq_begin 61 = .ok (.iconst 0, 1) := by decide +kernel
theorem fx_Rq_begin_62 : decode fb_Rq_begin 62 = .ok (.iconst 0, 1) := by decide +kernel
theorem fx_Rq_begin_63 : decode fb_Rq_begin 63 = .ok (.iconst 0, 1) := by decide +kernel
theorem fx_Rq_begin_64 : decode fb_Rq_begin 64 = .ok (.invokevirtual 46, 3) := by decide +kernel
theorem fx_Rq_begin_67 : decode fb_Rq_begin 67 = .ok (.return_, 1) := by decide +kernel
theorem fx_Rq_show_0 : decode fb_Rq_show 0 = .ok (.aload_n 0, 1) := by decide +kernel
theorem fx_Rq_show_1 : decode fb_Rq_show 1 = .ok (.iload_n 1, 1) := by decide +kernel
theorem fx_Rq_show_2 : decode fb_Rq_show 2 = .ok (.putfield 50, 3) := by decide +kernel
theorem fx_Rq_show_5 : decode fb_Rq_show 5 = .ok (.aload_n 0, 1) := by decide +kernel
theorem fx_Rq_show_6 : decode fb_Rq_show 6 = .ok (.iload_n 2, 1) := by decide +kernel
theorem fx_Rq_show_7 : decode fb_Rq_show 7 = .ok (.putfield 53, 3) := by decide +kernel
theorem fx_Rq_show_10 : decode fb_Rq_show 10 = .ok (.aload_n 0, 1) := by decide +kernel
theorem fx_Rq_show_11 : decode fb_Rq_show 11 = .ok (.iload_n 3, 1) := by decide +kernel
theorem fx_Rq_show_12 : decode fb_Rq_show 12 = .ok (.putfield 56, 3) := by decide +kernel
theorem fx_Rq_show_15 : decode fb_Rq_show 15 = .ok (.aload_n 0, 1) := by decide +kernel
theorem fx_Rq_show_16 : decode fb_Rq_show 16 = .ok (.iload 4, 2) := by decide +kernel
theorem fx_Rq_show_18 : decode fb_Rq_show 18 = .ok (.putfield 59, 3) := by decide +kernel
theorem fx_Rq_show_21 : decode fb_Rq_show 21 = .ok (.return_, 1) := by decide +kernel
theorem fx_Rq_enterRound_0 : decode fb_Rq_enterRound 0 = .ok (.aload_n 0, 1) := by decide +kernel
theorem fx_Rq_enterRound_1 : decode fb_Rq_enterRound 1 = .ok (.dup, 1) := by decide +kernel
theorem fx_Rq_enterRound_2 : decode fb_Rq_enterRound 2 = .ok (.getfield 33, 3) := by decide +kernel
theorem fx_Rq_enterRound_5 : decode fb_Rq_enterRound 5 = .ok (.iconst 1, 1) := by decide +kernel
theorem fx_Rq_enterRound_6 : decode fb_Rq_enterRound 6 = .ok (.iadd, 1) := by decide +kernel
theorem fx_Rq_enterRound_7 : decode fb_Rq_enterRound 7 = .ok (.putfield 33, 3) := by decide +kernel
theorem fx_Rq_enterRound_10 : decode fb_Rq_enterRound 10 = .ok (.aload_n 0, 1) := by decide +kernel
theorem fx_Rq_enterRound_11 : decode fb_Rq_enterRound 11 = .ok (.aload_n 0, 1) := by decide +kernel
theorem fx_Rq_enterRound_12 : decode fb_Rq_enterRound 12 = .ok (.getfield 36, 3) := by decide +kernel
theorem fx_Rq_enterRound_15 : decode fb_Rq_enterRound 15 = .ok (.ifCond .ne 17, 3) := by decide +kernel
theorem fx_Rq_enterRound_18 : decode fb_Rq_enterRound 18 = .ok (.aload_n 0, 1) := by decide +kernel
theorem fx_Rq_enterRound_19 : decode fb_Rq_enterRound 19 = .ok (.getfield 15, 3) := by decide +kernel
theorem fx_Rq_enterRound_22 : decode fb_Rq_enterRound 22 = .ok (.invokestatic 62, 3) := by decide +kernel
theorem fx_Rq_enterRound_25 : decode fb_Rq_enterRound 25 = .ok (.aload_n 0, 1) := by decide +kernel
theorem fx_Rq_enterRound_26 : decode fb_Rq_enterRound 26 = .ok (.getfield 9, 3) := by decide +kernel
theorem fx_Rq_enterRound_29 : decode fb_Rq_enterRound 29 = .ok (.if_icmp .eq 7, 3) := by decide +kernel
theorem fx_Rq_enterRound_32 : decode fb_Rq_enterRound 32 = .ok (.iconst 1, 1) := by decide +kernel
theorem fx_Rq_enterRound_33 : decode fb_Rq_enterRound 33 = .ok (.goto 4, 3) := by decide +kernel
theorem fx_Rq_enterRound_36 : decode fb_Rq_enterRound 36 = .ok (.iconst 0, 1) := by decide +kernel
theorem fx_Rq_enterRound_37 : decode fb_Rq_enterRound 37 = .ok (.putfield 36, 3) := by decide +kernel
theorem fx_Rq_enterRound_40 : decode fb_Rq_enterRound 40 = .ok (.aload_n 0, 1) := by decide +kernel
theorem fx_Rq_enterRound_41 : decode fb_Rq_enterRound 41 = .ok (.aload_n 0, 1) := by decide +kernel
theorem fx_Rq_enterRound_42 : decode fb_Rq_enterRound 42 = .ok (.getfield 27, 3) := by decide +kernel
theorem fx_Rq_enterRound_45 : decode fb_Rq_enterRound 45 = .ok (.iconst 2, 1) := by decide +kernel
theorem fx_Rq_enterRound_46 : decode fb_Rq_enterRound 46 = .ok (.if_icmp .eq 18, 3) := by decide +kernel
theorem fx_Rq_enterRound_49 : decode fb_Rq_enterRound 49 = .ok (.aload_n 0, 1) := by decide +kernel
theorem fx_Rq_enterRound_50 : decode fb_Rq_enterRound 50 = .ok (.getfield 27, 3) := by decide +kernel
theorem fx_Rq_enterRound_53 : decode fb_Rq_enterRound 53 = .ok (.iconst 1, 1) := by decide +kernel
theorem fx_Rq_enterRound_54 : decode fb_Rq_enterRound 54 = .ok (.if_icmp .ne 14, 3) := by decide +kernel
theorem fx_Rq_enterRound_57 : decode fb_Rq_enterRound 57 = .ok (.aload_n 0, 1) := by decide +kernel
theorem fx_Rq_enterRound_58 : decode fb_Rq_enterRound 58 = .ok (.getfield 36, 3) := by decide +kernel
theorem fx_Rq_enterRound_61 : decode fb_Rq_enterRound 61 = .ok (.ifCond .ne 7, 3) := by decide +kernel
theorem fx_Rq_enterRound_64 : decode fb_Rq_enterRound 64 = .ok (.iconst 1, 1) := by decide +kernel
theorem fx_Rq_enterRound_65 : decode fb_Rq_enterRound 65 = .ok (.goto 4, 3) := by decide +kernel
theorem fx_Rq_enterRound_68 : decode fb_Rq_enterRound 68 = .ok (.iconst 0, 1) := by decide +kernel
theorem fx_Rq_enterRound_69 : decode fb_Rq_enterRound 69 = .ok (.putfield 40, 3) := by decide +kernel
theorem fx_Rq_enterRound_72 : decode fb_Rq_enterRound 72 = .ok (.return_, 1) := by decide +kernel
theorem fx_Rq_mustPass_0 : decode fb_Rq_mustPass 0 = .ok (.aload_n 0, 1) := by decide +kernel
theorem fx_Rq_mustPass_1 : decode fb_Rq_mustPass 1 = .ok (.getfield 36, 3) := by decide +kernel
theorem fx_Rq_mustPass_4 : decode fb_Rq_mustPass 4 = .ok (.ifCond .eq 15, 3) := by decide +kernel
theorem fx_Rq_mustPass_7 : decode fb_Rq_mustPass 7 = .ok (.aload_n 0, 1) := by decide +kernel
theorem fx_Rq_mustPass_8 : decode fb_Rq_mustPass 8 = .ok (.getfield 24, 3) := by decide +kernel
theorem fx_Rq_mustPass_11 : decode fb_Rq_mustPass 11 = .ok (.iconst 1, 1) := by decide +kernel
theorem fx_Rq_mustPass_12 : decode fb_Rq_mustPass 12 = .ok (.if_icmp .ne 7, 3) := by decide +kernel
theorem fx_Rq_mustPass_15 : decode fb_Rq_mustPass 15 = .ok (.iconst 1, 1) := by decide +kernel
theorem fx_Rq_mustPass_16 : decode fb_Rq_mustPass 16 = .ok (.goto 4, 3) := by decide +kernel
theorem fx_Rq_mustPass_19 : decode fb_Rq_mustPass 19 = .ok (.iconst 0, 1) := by decide +kernel
theorem fx_Rq_mustPass_20 : decode fb_Rq_mustPass 20 = .ok (.ireturn, 1) := by decide +kernel
theorem fx_Rq_passes_0 : decode fb_Rq_passes 0 = .ok (.aload_n 1, 1) := by decide +kernel
theorem fx_Rq_passes_1 : decode fb_Rq_passes 1 = .ok (.getfield 66, 3) := by decide +kernel
theorem fx_Rq_passes_4 : decode fb_Rq_passes 4 = .ok (.iconst 1, 1) := by decide +kernel
theorem fx_Rq_passes_5 : decode fb_Rq_passes 5 = .ok (.aload_n 0, 1) := by decide +kernel
theorem fx_Rq_passes_6 : decode fb_Rq_passes 6 = .ok (.getfield 9, 3) := by decide +kernel
theorem fx_Rq_passes_9 : decode fb_Rq_passes 9 = .ok (.ishl, 1) := by decide +kernel
theorem fx_Rq_passes_10 : decode fb_Rq_passes 10 = .ok (.iand, 1) := by decide +kernel
theorem fx_Rq_passes_11 : decode fb_Rq_passes 11 = .ok (.ifCond .eq 7, 3) := by decide +kernel
theorem fx_Rq_passes_14 : decode fb_Rq_passes 14 = .ok (.iconst 1, 1) := by decide +kernel
theorem fx_Rq_passes_15 : decode fb_Rq_passes 15 = .ok (.goto 4, 3) := by decide +kernel
theorem fx_Rq_passes_18 : decode fb_Rq_passes 18 = .ok (.iconst 0, 1) := by decide +kernel
theorem fx_Rq_passes_19 : decode fb_Rq_passes 19 = .ok (.istore_n 2, 1) := by decide +kernel
theorem fx_Rq_passes_20 : decode fb_Rq_passes 20 = .ok (.aload_n 0, 1) := by decide +kernel
theorem fx_Rq_passes_21 : decode fb_Rq_passes 21 = .ok (.getfield 40, 3) := by decide +kernel
theorem fx_Rq_passes_24 : decode fb_Rq_passes 24 = .ok (.ifCond .eq 20, 3) := by decide +kernel
theorem fx_Rq_passes_27 : decode fb_Rq_passes 27 = .ok (.iload_n 2, 1) := by decide +kernel
theorem fx_Rq_passes_28 : decode fb_Rq_passes 28 = .ok (.ifCond .eq 14, 3) := by decide +kernel
theorem fx_Rq_passes_31 : decode fb_Rq_passes 31 = .ok (.aload_n 1, 1) := by decide +kernel
theorem fx_Rq_passes_32 : decode fb_Rq_passes 32 = .ok (.getfield 71, 3) := by decide +kernel
theorem fx_Rq_passes_35 : decode fb_Rq_passes 35 = .ok (.ifCond .eq 7, 3) := by decide +kernel
theorem fx_Rq_passes_38 : decode fb_Rq_passes 38 = .ok (.iconst 1, 1) := by decide +kernel
theorem fx_Rq_passes_39 : decode fb_Rq_passes 39 = .ok (.goto 4, 3) := by decide +kernel
theorem fx_Rq_passes_42 : decode fb_Rq_passes 42 = .ok (.iconst 0, 1) := by decide +kernel
theorem fx_Rq_passes_43 : decode fb_Rq_passes 43 = .ok (.ireturn, 1) := by decide +kernel
theorem fx_Rq_passes_44 : decode fb_Rq_passes 44 = .ok (.iload_n 2, 1) := by decide +kernel
theorem fx_Rq_passes_45 : decode fb_Rq_passes 45 = .ok (.ifCond .ne 14, 3) := by decide +kernel
theorem fx_Rq_passes_48 : decode fb_Rq_passes 48 = .ok (.aload_n 1, 1) := by decide +kernel
theorem fx_Rq_passes_49 : decode fb_Rq_passes 49 = .ok (.getfield 66, 3) := by decide +kernel
theorem fx_Rq_passes_52 : decode fb_Rq_passes 52 = .ok (.sipush 128, 3) := by decide +kernel
theorem fx_Rq_passes_55 : decode fb_Rq_passes 55 = .ok (.iand, 1) := by decide +kernel
theorem fx_Rq_passes_56 : decode fb_Rq_passes 56 = .ok (.ifCond .eq 7, 3) := by decide +kernel
theorem fx_Rq_passes_59 : decode fb_Rq_passes 59 = .ok (.iconst 1, 1) := by decide +kernel
theorem fx_Rq_passes_60 : decode fb_Rq_passes 60 = .ok (.goto 4, 3) := by decide +kernel
theorem fx_Rq_passes_63 : decode fb_Rq_passes 63 = .ok (.iconst 0, 1) := by decide +kernel
theorem fx_Rq_passes_64 : decode fb_Rq_passes 64 = .ok (.ireturn, 1) := by decide +kernel
theorem fx_Rq_meetRedirect_0 : decode fb_Rq_meetRedirect 0 = .ok (.aload_n 0, 1) := by decide +kernel
theorem fx_Rq_meetRedirect_1 : decode fb_Rq_meetRedirect 1 = .ok (.getfield 30, 3) := by decide +kernel
theorem fx_Rq_meetRedirect_4 : decode fb_Rq_meetRedirect 4 = .ok (.iconst 1, 1) := by decide +kernel
theorem fx_Rq_meetRedirect_5 : decode fb_Rq_meetRedirect 5 = .ok (.if_icmp .ne 10, 3) := by decide +kernel
theorem fx_Rq_meetRedirect_8 : decode fb_Rq_meetRedirect 8 = .ok (.aload_n 0, 1) := by decide +kernel
theorem fx_Rq_meetRedirect_9 : decode fb_Rq_meetRedirect 9 = .ok (.iconst 4, 1) := by decide +kernel
theorem fx_Rq_meetRedirect_10 : decode fb_Rq_meetRedirect 10 = .ok (.putfield 43, 3) := by decide +kernel
theorem fx_Rq_meetRedirect_13 : decode fb_Rq_meetRedirect 13 = .ok (.iconst 0, 1) := by decide +kernel
theorem fx_Rq_meetRedirect_14 : decode fb_Rq_meetRedirect 14 = .ok (.ireturn, 1) := by decide +kernel
theorem fx_Rq_meetRedirect_15 : decode fb_Rq_meetRedirect 15 = .ok (.aload_n 0, 1) := by decide +kernel
theorem fx_Rq_meetRedirect_16 : decode fb_Rq_meetRedirect 16 = .ok (.getfield 30, 3) := by decide +kernel
theorem fx_Rq_meetRedirect_19 : decode fb_Rq_meetRedirect 19 = .ok (.iconst 2, 1) := by decide +kernel
theorem fx_Rq_meetRedirect_20 : decode fb_Rq_meetRedirect 20 = .ok (.if_icmp .ne 13, 3) := by decide +kernel
theorem fx_Rq_meetRedirect_23 : decode fb_Rq_meetRedirect 23 = .ok (.aload_n 0, 1) := by decide +kernel
theorem fx_Rq_meetRedirect_24 : decode fb_Rq_meetRedirect 24 = .ok (.iconst 0, 1) := by decide +kernel
theorem fx_Rq_meetRedirect_25 : decode fb_Rq_meetRedirect 25 = .ok (.iconst 0, 1) := by decide +kernel
theorem fx_Rq_meetRedirect_26 : decode fb_Rq_meetRedirect 26 = .ok (.iconst 0, 1) := by decide +kernel
theorem fx_Rq_meetRedirect_27 : decode fb_Rq_meetRedirect 27 = .ok (.iconst 3, 1) := by decide +kernel
theorem fx_Rq_meetRedirect_28 : decode fb_Rq_meetRedirect 28 = .ok (.invokevirtual 46, 3) := by decide +kernel
theorem fx_Rq_meetRedirect_31 : decode fb_Rq_meetRedirect 31 = .ok (.iconst 0, 1) := by decide +kernel
theorem fx_Rq_meetRedirect_32 : decode fb_Rq_meetRedirect 32 = .ok (.ireturn, 1) := by decide +kernel
theorem fx_Rq_meetRedirect_33 : decode fb_Rq_meetRedirect 33 = .ok (.iload_n 2, 1) := by decide +kernel
theorem fx_Rq_meetRedirect_34 : decode fb_Rq_meetRedirect 34 = .ok (.iconst 4, 1) := by decide +kernel
theorem fx_Rq_meetRedirect_35 : decode fb_Rq_meetRedirect 35 = .ok (.if_icmp .lt 10, 3) := by decide +kernel
theorem fx_Rq_meetRedirect_38 : decode fb_Rq_meetRedirect 38 = .ok (.aload_n 0, 1) := by decide +kernel
theorem fx_Rq_meetRedirect_39 : decode fb_Rq_meetRedirect 39 = .ok (.iconst 5, 1) := by decide +kernel
theorem fx_Rq_meetRedirect_40 : decode fb_Rq_meetRedirect 40 = .ok (.putfield 43, 3) := by decide +kernel
theorem fx_Rq_meetRedirect_43 : decode fb_Rq_meetRedirect 43 = .ok (.iconst 0, 1) := by decide +kernel
theorem fx_Rq_meetRedirect_44 : decode fb_Rq_meetRedirect 44 = .ok (.ireturn, 1) := by decide +kernel
theorem fx_Rq_meetRedirect_45 : decode fb_Rq_meetRedirect 45 = .ok (.aload_n 0, 1) := by decide +kernel
theorem fx_Rq_meetRedirect_46 : decode fb_Rq_meetRedirect 46 = .ok (.aload_n 1, 1) := by decide +kernel
theorem fx_Rq_meetRedirect_47 : decode fb_Rq_meetRedirect 47 = .ok (.invokevirtual 74, 3) := by decide +kernel
theorem fx_Rq_meetRedirect_50 : decode fb_Rq_meetRedirect 50 = .ok (.iconst 1, 1) := by decide +kernel
theorem fx_Rq_meetRedirect_51 : decode fb_Rq_meetRedirect 51 = .ok (.ireturn, 1) := by decide +kernel
theorem fx_Rq_follow_0 : decode fb_Rq_follow 0 = .ok (.aload_n 0, 1) := by decide +kernel
theorem fx_Rq_follow_1 : decode fb_Rq_follow 1 = .ok (.getfield 15, 3) := by decide +kernel
theorem fx_Rq_follow_4 : decode fb_Rq_follow 4 = .ok (.invokestatic 62, 3) := by decide +kernel
theorem fx_Rq_follow_7 : decode fb_Rq_follow 7 = .ok (.istore_n 2, 1) := by decide +kernel
theorem fx_Rq_follow_8 : decode fb_Rq_follow 8 = .ok (.aload_n 1, 1) := by decide +kernel
theorem fx_Rq_follow_9 : decode fb_Rq_follow 9 = .ok (.getfield 78, 3) := by decide +kernel
theorem fx_Rq_follow_12 : decode fb_Rq_follow 12 = .ok (.invokestatic 62, 3) := by decide +kernel
theorem fx_Rq_follow_15 : decode fb_Rq_follow 15 = .ok (.iload_n 2, 1) := by decide +kernel
theorem fx_Rq_follow_16 : decode fb_Rq_follow 16 = .ok (.if_icmp .eq 17, 3) := by decide +kernel
theorem fx_Rq_follow_19 : decode fb_Rq_follow 19 = .ok (.iload_n 2, 1) := by decide +kernel
theorem fx_Rq_follow_20 : decode fb_Rq_follow 20 = .ok (.aload_n 0, 1) := by decide +kernel
theorem fx_Rq_follow_21 : decode fb_Rq_follow 21 = .ok (.getfield 9, 3) := by decide +kernel
theorem fx_Rq_follow_24 : decode fb_Rq_follow 24 = .ok (.if_icmp .eq 9, 3) := by decide +kernel
theorem fx_Rq_follow_27 : decode fb_Rq_follow 27 = .ok (.aload_n 0, 1) := by decide +kernel
theorem fx_Rq_follow_28 : decode fb_Rq_follow 28 = .ok (.bipush 6, 2) := by decide +kernel
theorem fx_Rq_follow_30 : decode fb_Rq_follow 30 = .ok (.putfield 9, 3) := by decide +kernel
theorem fx_Rq_follow_33 : decode fb_Rq_follow 33 = .ok (.aload_n 1, 1) := by decide +kernel
theorem fx_Rq_follow_34 : decode fb_Rq_follow 34 = .ok (.aload_n 0, 1) := by decide +kernel
theorem fx_Rq_follow_35 : decode fb_Rq_follow 35 = .ok (.getfield 18, 3) := by decide +kernel
theorem fx_Rq_follow_38 : decode fb_Rq_follow 38 = .ok (.invokevirtual 81, 3) := by decide +kernel
theorem fx_Rq_follow_41 : decode fb_Rq_follow 41 = .ok (.ifCond .eq 13, 3) := by decide +kernel
theorem fx_Rq_follow_44 : decode fb_Rq_follow 44 = .ok (.aload_n 0, 1) := by decide +kernel
theorem fx_Rq_follow_45 : decode fb_Rq_follow 45 = .ok (.iconst 0, 1) := by decide +kernel
theorem fx_Rq_follow_46 : decode fb_Rq_follow 46 = .ok (.putfield 18, 3) := by decide +kernel
theorem fx_Rq_follow_49 : decode fb_Rq_follow 49 = .ok (.aload_n 0, 1) := by decide +kernel
theorem fx_Rq_follow_50 : decode fb_Rq_follow 50 = .ok (.iconst 0, 1) := by decide +kernel
theorem fx_Rq_follow_51 : decode fb_Rq_follow 51 = .ok (.putfield 21, 3) := by decide +kernel
theorem fx_Rq_follow_54 : decode fb_Rq_follow 54 = .ok (.aload_n 0, 1) := by decide +kernel
theorem fx_Rq_follow_55 : decode fb_Rq_follow 55 = .ok (.aload_n 1, 1) := by decide +kernel
theorem fx_Rq_follow_56 : decode fb_Rq_follow 56 = .ok (.getfield 78, 3) := by decide +kernel
theorem fx_Rq_follow_59 : decode fb_Rq_follow 59 = .ok (.putfield 15, 3) := by decide +kernel
theorem fx_Rq_follow_62 : decode fb_Rq_follow 62 = .ok (.return_, 1) := by decide +kernel
theorem fx_Rq_takeResponse_0 : decode fb_Rq_takeResponse 0 = .ok (.aload_n 0, 1) := by decide +kernel
theorem fx_Rq_takeResponse_1 : decode fb_Rq_takeResponse 1 = .ok (.getfield 36, 3) := by decide +kernel
theorem fx_Rq_takeResponse_4 : decode fb_Rq_takeResponse 4 = .ok (.ifCond .ne 23, 3) := by decide +kernel
theorem fx_Rq_takeResponse_7 : decode fb_Rq_takeResponse 7 = .ok (.aload_n 0, 1) := by decide +kernel
theorem fx_Rq_takeResponse_8 : decode fb_Rq_takeResponse 8 = .ok (.aload_n 1, 1) := by decide +kernel
theorem fx_Rq_takeResponse_9 : decode fb_Rq_takeResponse 9 = .ok (.getfield 85, 3) := by decide +kernel
theorem fx_Rq_takeResponse_12 : decode fb_Rq_takeResponse 12 = .ok (.aload_n 1, 1) := by decide +kernel
theorem fx_Rq_takeResponse_13 : decode fb_Rq_takeResponse 13 = .ok (.getfield 88, 3) := by decide +kernel
theorem fx_Rq_takeResponse_16 : decode fb_Rq_takeResponse 16 = .ok (.aload_n 1, 1) := by decide +kernel
theorem fx_Rq_takeResponse_17 : decode fb_Rq_takeResponse 17 = .ok (.getfield 91, 3) := by decide +kernel
theorem fx_Rq_takeResponse_20 : decode fb_Rq_takeResponse 20 = .ok (.iconst 0, 1) := by decide +kernel
theorem fx_Rq_takeResponse_21 : decode fb_Rq_takeResponse 21 = .ok (.invokevirtual 46, 3) := by decide +kernel
theorem fx_Rq_takeResponse_24 : decode fb_Rq_takeResponse 24 = .ok (.goto 46, 3) := by decide +kernel
theorem fx_Rq_takeResponse_27 : decode fb_Rq_takeResponse 27 = .ok (.aload_n 0, 1) := by decide +kernel
theorem fx_Rq_takeResponse_28 : decode fb_Rq_takeResponse 28 = .ok (.getfield 24, 3) := by decide +kernel
theorem fx_Rq_takeResponse_31 : decode fb_Rq_takeResponse 31 = .ok (.iconst 1, 1) := by decide +kernel
theorem fx_Rq_takeResponse_32 : decode fb_Rq_takeResponse 32 = .ok (.if_icmp .ne 30, 3) := by decide +kernel
theorem fx_Rq_takeResponse_35 : decode fb_Rq_takeResponse 35 = .ok (.aload_n 1, 1) := by decide +kernel
theorem fx_Rq_takeResponse_36 : decode fb_Rq_takeResponse 36 = .ok (.getfield 91, 3) := by decide +kernel
theorem fx_Rq_takeResponse_39 : decode fb_Rq_takeResponse 39 = .ok (.aload_n 1, 1) := by decide +kernel
theorem fx_Rq_takeResponse_40 : decode fb_Rq_takeResponse 40 = .ok (.getfield 94, 3) := by decide +kernel
theorem fx_Rq_takeResponse_43 : decode fb_Rq_takeResponse 43 = .ok (.iand, 1) := by decide +kernel
theorem fx_Rq_takeResponse_44 : decode fb_Rq_takeResponse 44 = .ok (.istore_n 2, 1) := by decide +kernel
theorem fx_Rq_takeResponse_45 : decode fb_Rq_takeResponse 45 = .ok (.aload_n 0, 1) := by decide +kernel
theorem fx_Rq_takeResponse_46 : decode fb_Rq_takeResponse 46 = .ok (.aload_n 1, 1) := by decide +kernel
theorem fx_Rq_takeResponse_47 : decode fb_Rq_takeResponse 47 = .ok (.getfield 85, 3) := by decide +kernel
theorem fx_Rq_takeResponse_50 : decode fb_Rq_takeResponse 50 = .ok (.aload_n 1, 1) := by decide +kernel
theorem fx_Rq_takeResponse_51 : decode fb_Rq_takeResponse 51 = .ok (.getfield 88, 3) := by decide +kernel
theorem fx_Rq_takeResponse_54 : decode fb_Rq_takeResponse 54 = .ok (.iload_n 2, 1) := by decide +kernel
theorem fx_Rq_takeResponse_55 : decode fb_Rq_takeResponse 55 = .ok (.iconst 1, 1) := by decide +kernel
theorem fx_Rq_takeResponse_56 : decode fb_Rq_takeResponse 56 = .ok (.invokevirtual 46, 3) := by decide +kernel
theorem fx_Rq_takeResponse_59 : decode fb_Rq_takeResponse 59 = .ok (.goto 11, 3) := by decide +kernel
theorem fx_Rq_takeResponse_62 : decode fb_Rq_takeResponse 62 = .ok (.aload_n 0, 1) := by decide +kernel
theorem fx_Rq_takeResponse_63 : decode fb_Rq_takeResponse 63 = .ok (.iconst 0, 1) := by decide +kernel
theorem fx_Rq_takeResponse_64 : decode fb_Rq_takeResponse 64 = .ok (.iconst 0, 1) := by decide +kernel
theorem fx_Rq_takeResponse_65 : decode fb_Rq_takeResponse 65 = .ok (.iconst 0, 1) := by decide +kernel
theorem fx_Rq_takeResponse_66 : decode fb_Rq_takeResponse 66 = .ok (.iconst 2, 1) := by decide +kernel
theorem fx_Rq_takeResponse_67 : decode fb_Rq_takeResponse 67 = .ok (.invokevirtual 46, 3) := by decide +kernel
theorem fx_Rq_takeResponse_70 : decode fb_Rq_takeResponse 70 = .ok (.return_, 1) := by decide +kernel
theorem fx_Rs_init_0 : decode fb_Rs_init 0 = .ok (.aload_n 0, 1) := by decide +kernel
theorem fx_Rs_init_1 : decode fb_Rs_init 1 = .ok (.invokespecial 3, 3) := by decide +kernel
theorem fx_Rs_init_4 : decode fb_Rs_init 4 = .ok (.aload_n 0, 1) := by decide +kernel
theorem fx_Rs_init_5 : decode fb_Rs_init 5 = .ok (.sipush 200, 3) := by decide +kernel
theorem fx_Rs_init_8 : decode fb_Rs_init 8 = .ok (.putfield 9, 3) := by decide +kernel
theorem fx_Rs_init_11 : decode fb_Rs_init 11 = .ok (.aload_n 0, 1) := by decide +kernel
theorem fx_Rs_init_12 : decode fb_Rs_init 12 = .ok (.iconst (-1), 1) := by decide +kernel
theorem fx_Rs_init_13 : decode fb_Rs_init 13 = .ok (.putfield 15, 3) := by decide +kernel
theorem fx_Rs_init_16 : decode fb_Rs_init 16 = .ok (.return_, 1) := by decide +kernel
theorem fx_Rs_isRedirect_0 : decode fb_Rs_isRedirect 0 = .ok (.aload_n 0, 1) := by decide +kernel
theorem fx_Rs_isRedirect_1 : decode fb_Rs_isRedirect 1 = .ok (.getfield 15, 3) := by decide +kernel
theorem fx_Rs_isRedirect_4 : decode fb_Rs_isRedirect 4 = .ok (.iconst (-1), 1) := by decide +kernel
theorem fx_Rs_isRedirect_5 : decode fb_Rs_isRedirect 5 = .ok (.if_icmp .ne 5, 3) := by decide +kernel
theorem fx_Rs_isRedirect_8 : decode fb_Rs_isRedirect 8 = .ok (.iconst 0, 1) := by decide +kernel
theorem fx_Rs_isRedirect_9 : decode fb_Rs_isRedirect 9 = .ok (.ireturn, 1) := by decide +kernel
theorem fx_Rs_isRedirect_10 : decode fb_Rs_isRedirect 10 = .ok (.aload_n 0, 1) := by decide +kernel
theorem fx_Rs_isRedirect_11 : decode fb_Rs_isRedirect 11 = .ok (.getfield 9, 3) := by decide +kernel
theorem fx_Rs_isRedirect_14 : decode fb_Rs_isRedirect 14 = .ok (.tableswitch 48 301 308 #[46, 46, 46, 48, 48, 48, 46, 46], 46) := by decide +kernel
theorem fx_Rs_isRedirect_60 : decode fb_Rs_isRedirect 60 = .ok (.iconst 1, 1) := by decide +kernel
theorem fx_Rs_isRedirect_61 : decode fb_Rs_isRedirect 61 = .ok (.ireturn, 1) := by decide +kernel
theorem fx_Rs_isRedirect_62 : decode fb_Rs_isRedirect 62 = .ok (.iconst 0, 1) := by decide +kernel
theorem fx_Rs_isRedirect_63 : decode fb_Rs_isRedirect 63 = .ok (.ireturn, 1) := by decide +kernel
theorem fx_Rs_turnsIntoGet_0 : decode fb_Rs_turnsIntoGet 0 = .ok (.aload_n 0, 1) := by decide +kernel
theorem fx_Rs_turnsIntoGet_1 : decode fb_Rs_turnsIntoGet 1 = .ok (.getfield 9, 3) := by decide +kernel
theorem fx_Rs_turnsIntoGet_4 : decode fb_Rs_turnsIntoGet 4 = .ok (.sipush 303, 3) := by decide +kernel
theorem fx_Rs_turnsIntoGet_7 : decode fb_Rs_turnsIntoGet 7 = .ok (.if_icmp .ne 13, 3) := by decide +kernel
theorem fx_Rs_turnsIntoGet_10 : decode fb_Rs_turnsIntoGet 10 = .ok (.iload_n 1, 1) := by decide +kernel
theorem fx_Rs_turnsIntoGet_11 : decode fb_Rs_turnsIntoGet 11 = .ok (.ifCond .eq 7, 3) := by decide +kernel
theorem fx_Rs_turnsIntoGet_14 : decode fb_Rs_turnsIntoGet 14 = .ok (.iconst 1, 1) := by decide +kernel
theorem fx_Rs_turnsIntoGet_15 : decode fb_Rs_turnsIntoGet 15 = .ok (.goto 4, 3) := by decide +kernel
theorem fx_Rs_turnsIntoGet_18 : decode fb_Rs_turnsIntoGet 18 = .ok (.iconst 0, 1) := by decide +kernel
theorem fx_Rs_turnsIntoGet_19 : decode fb_Rs_turnsIntoGet 19 = .ok (.ireturn, 1) := by decide +kernel
theorem fx_Rs_turnsIntoGet_20 : decode fb_Rs_turnsIntoGet 20 = .ok (.aload_n 0, 1) := by decide +kernel
theorem fx_Rs_turnsIntoGet_21 : decode fb_Rs_turnsIntoGet 21 = .ok (.getfield 9, 3) := by decide +kernel
theorem fx_Rs_turnsIntoGet_24 : decode fb_Rs_turnsIntoGet 24 = .ok (.sipush 301, 3) := by decide +kernel
theorem fx_Rs_turnsIntoGet_27 : decode fb_Rs_turnsIntoGet 27 = .ok (.if_icmp .eq 13, 3) := by decide +kernel
theorem fx_Rs_turnsIntoGet_30 : decode fb_Rs_turnsIntoGet 30 = .ok (.aload_n 0, 1) := by decide +kernel
theorem fx_Rs_turnsIntoGet_31 : decode fb_Rs_turnsIntoGet 31 = .ok (.getfield 9, 3) := by decide +kernel
theorem fx_Rs_turnsIntoGet_34 : decode fb_Rs_turnsIntoGet 34 = .ok (.sipush 302, 3) := by decide +kernel
theorem fx_Rs_turnsIntoGet_37 : decode fb_Rs_turnsIntoGet 37 = .ok (.if_icmp .ne 12, 3) := by decide +kernel
theorem fx_Rs_turnsIntoGet_40 : decode fb_Rs_turnsIntoGet 40 = .ok (.iload_n 1, 1) := by decide +kernel
theorem fx_Rs_turnsIntoGet_41 : decode fb_Rs_turnsIntoGet 41 = .ok (.iconst 1, 1) := by decide +kernel
theorem fx_Rs_turnsIntoGet_42 : decode fb_Rs_turnsIntoGet 42 = .ok (.if_icmp .ne 7, 3) := by decide +kernel
theorem fx_Rs_turnsIntoGet_45 : decode fb_Rs_turnsIntoGet 45 = .ok (.iconst 1, 1) := by decide +kernel
theorem fx_Rs_turnsIntoGet_46 : decode fb_Rs_turnsIntoGet 46 = .ok (.goto 4, 3) := by decide +kernel
theorem fx_Rs_turnsIntoGet_49 : decode fb_Rs_turnsIntoGet 49 = .ok (.iconst 0, 1) := by decide +kernel
theorem fx_Rs_turnsIntoGet_50 : decode fb_Rs_turnsIntoGet 50 = .ok (.ireturn, 1) := by decide +kernel
end
section
/-! the words of the tables, by their numbers there -/
def fn_R_Lw : String := "FetchDeskLaw"
abbrev fb_Md_init : ByteArray := prog_7_method_1_code
def fy_Md_init : MethodName := ⟨fn_R_Md, "<init>", "()V"⟩
abbrev fw_Md_init : Cond := .code fy_Md_init fb_Md_init 2 none
theorem fm_Md_init : fw_Md_init ∈ fb_tbl := fb_mem3 (i := 45) rfl rfl
abbrev fb_Md_thrown : ByteArray := prog_7_method_2_code
def fy_Md_thrown : MethodName := ⟨fn_R_Md, "thrown", "()I"⟩
abbrev fw_Md_thrown : Cond := .code fy_Md_thrown fb_Md_thrown 1 (some .int)
theorem fm_Md_thrown : fw_Md_thrown ∈ fb_tbl := fb_mem3 (i := 153) rfl rfl
abbrev fb_Md_in : ByteArray := prog_7_method_3_code
def fy_Md_in : MethodName := ⟨fn_R_Md, "in", "(III)Z"⟩
abbrev fw_Md_in : Cond := .code fy_Md_in fb_Md_in 3 (some .boolean)
theorem fm_Md_in : fw_Md_in ∈ fb_tbl := fb_mem3 (i := 163) rfl rfl
abbrev fb_Md_fail : ByteArray := prog_7_method_4_code
def fy_Md_fail : MethodName := ⟨fn_R_Md, "fail", "(I)I"⟩
abbrev fw_Md_fail : Cond := .code fy_Md_fail fb_Md_fail 2 (some .int)
theorem fm_Md_fail : fw_Md_fail ∈ fb_tbl := fb_mem3 (i := 175) rfl rfl
abbrev fb_Md_isUrl : ByteArray := prog_7_method_5_code
def fy_Md_isUrl : MethodName := ⟨fn_R_Md, "isUrl", "(I)Z"⟩
abbrev fw_Md_isUrl : Cond := .code fy_Md_isUrl fb_Md_isUrl 1 (some .boolean)
theorem fm_Md_isUrl : fw_Md_isUrl ∈ fb_tbl := fb_mem3 (i := 160) rfl rfl
abbrev fb_Md_serve : ByteArray := prog_7_method_6_code
def fy_Md_serve : MethodName := ⟨fn_R_Md, "serve", "(IIII)V"⟩
abbrev fw_Md_serve : Cond := .code fy_Md_serve fb_Md_serve 5 none
theorem fm_Md_serve : fw_Md_serve ∈ fb_tbl := fb_mem3 (i := 157) rfl rfl
abbrev fb_Md_headers : ByteArray := prog_7_method_7_code
def fy_Md_headers : MethodName := ⟨fn_R_Md, "headers", "(III)V"⟩
abbrev fw_Md_headers : Cond := .code fy_Md_headers fb_Md_headers 4 none
theorem fm_Md_headers : fw_Md_headers ∈ fb_tbl := fb_mem3 (i := 167) rfl rfl
abbrev fb_Md_allow : ByteArray := prog_7_method_8_code
def fy_Md_allow : MethodName := ⟨fn_R_Md, "allow", "(IIZ)I"⟩
abbrev fw_Md_allow : Cond := .code fy_Md_allow fb_Md_allow 5 (some .int)
theorem fm_Md_allow : fw_Md_allow ∈ fb_tbl := fb_mem3 (i := 171) rfl rfl
abbrev fb_Md_asked : ByteArray := prog_7_method_9_code
def fy_Md_asked : MethodName := ⟨fn_R_Md, "asked", "(IZIID)V"⟩
abbrev fw_Md_asked : Cond := .code fy_Md_asked fb_Md_asked 7 none
theorem fm_Md_asked : fw_Md_asked ∈ fb_tbl := fb_mem3 (i := 179) rfl rfl
abbrev fb_Md_tick : ByteArray := prog_7_method_10_code
def fy_Md_tick : MethodName := ⟨fn_R_Md, "tick", "(D)D"⟩
abbrev fw_Md_tick : Cond := .code fy_Md_tick fb_Md_tick 3 (some .double)
theorem fm_Md_tick : fw_Md_tick ∈ fb_tbl := fb_mem3 (i := 184) rfl rfl
abbrev fb_Md_passes : ByteArray := prog_7_method_11_code
def fy_Md_passes : MethodName := ⟨fn_R_Md, "passes", "()Z"⟩
abbrev fw_Md_passes : Cond := .code fy_Md_passes fb_Md_passes 3 (some .boolean)
theorem fm_Md_passes : fw_Md_passes ∈ fb_tbl := fb_mem3 (i := 216) rfl rfl
abbrev fb_Md_isSimple : ByteArray := prog_7_method_12_code
def fy_Md_isSimple : MethodName := ⟨fn_R_Md, "isSimple", "(I)Z"⟩
abbrev fw_Md_isSimple : Cond := .code fy_Md_isSimple fb_Md_isSimple 1 (some .boolean)
theorem fm_Md_isSimple : fw_Md_isSimple ∈ fb_tbl := fb_mem3 (i := 192) rfl rfl
abbrev fb_Md_isSame : ByteArray := prog_7_method_13_code
def fy_Md_isSame : MethodName := ⟨fn_R_Md, "isSame", "(I)Z"⟩
abbrev fw_Md_isSame : Cond := .code fy_Md_isSame fb_Md_isSame 2 (some .boolean)
theorem fm_Md_isSame : fw_Md_isSame ∈ fb_tbl := fb_mem3 (i := 204) rfl rfl
abbrev fb_Md_isRemembered : ByteArray := prog_7_method_14_code
def fy_Md_isRemembered : MethodName := ⟨fn_R_Md, "isRemembered", "()Z"⟩
abbrev fw_Md_isRemembered : Cond := .code fy_Md_isRemembered fb_Md_isRemembered 2 (some .boolean)
theorem fm_Md_isRemembered : fw_Md_isRemembered ∈ fb_tbl := fb_mem3 (i := 200) rfl rfl
abbrev fb_Md_forget : ByteArray := prog_7_method_15_code
def fy_Md_forget : MethodName := ⟨fn_R_Md, "forget", "(I)V"⟩
abbrev fw_Md_forget : Cond := .code fy_Md_forget fb_Md_forget 3 none
theorem fm_Md_forget : fw_Md_forget ∈ fb_tbl := fb_mem3 (i := 212) rfl rfl
abbrev fb_Md_keep : ByteArray := prog_7_method_16_code
def fy_Md_keep : MethodName := ⟨fn_R_Md, "keep", "()V"⟩
abbrev fw_Md_keep : Cond := .code fy_Md_keep fb_Md_keep 3 none
theorem fm_Md_keep : fw_Md_keep ∈ fb_tbl := fb_mem3 (i := 220) rfl rfl
abbrev fb_Md_ask : ByteArray := prog_7_method_17_code
def fy_Md_ask : MethodName := ⟨fn_R_Md, "ask", "()Z"⟩
abbrev fw_Md_ask : Cond := .code fy_Md_ask fb_Md_ask 3 (some .boolean)
theorem fm_Md_ask : fw_Md_ask ∈ fb_tbl := fb_mem3 (i := 208) rfl rfl
abbrev fb_Md_isMoved : ByteArray := prog_7_method_18_code
def fy_Md_isMoved : MethodName := ⟨fn_R_Md, "isMoved", "(I)Z"⟩
abbrev fw_Md_isMoved : Cond := .code fy_Md_isMoved fb_Md_isMoved 1 (some .boolean)
theorem fm_Md_isMoved : fw_Md_isMoved ∈ fb_tbl := fb_mem3 (i := 224) rfl rfl
abbrev fb_Md_move : ByteArray := prog_7_method_19_code
def fy_Md_move : MethodName := ⟨fn_R_Md, "move", "()V"⟩
abbrev fw_Md_move : Cond := .code fy_Md_move fb_Md_move 3 none
theorem fm_Md_move : fw_Md_move ∈ fb_tbl := fb_mem3 (i := 232) rfl rfl
abbrev fb_Md_answer : ByteArray := prog_7_method_20_code
def fy_Md_answer : MethodName := ⟨fn_R_Md, "answer", "(I)V"⟩
abbrev fw_Md_answer : Cond := .code fy_Md_answer fb_Md_answer 2 none
theorem fm_Md_answer : fw_Md_answer ∈ fb_tbl := fb_mem3 (i := 228) rfl rfl
abbrev fb_Md_go : ByteArray := prog_7_method_21_code
def fy_Md_go : MethodName := ⟨fn_R_Md, "go", "(III)I"⟩
abbrev fw_Md_go : Cond := .code fy_Md_go fb_Md_go 9 (some .int)
theorem fm_Md_go : fw_Md_go ∈ fb_tbl := fb_mem3 (i := 196) rfl rfl
abbrev fb_Md_fetch : ByteArray := prog_7_method_22_code
def fy_Md_fetch : MethodName := ⟨fn_R_Md, "fetch", "(IIIIIII)I"⟩
abbrev fw_Md_fetch : Cond := .code fy_Md_fetch fb_Md_fetch 10 (some .int)
theorem fm_Md_fetch : fw_Md_fetch ∈ fb_tbl := fb_mem3 (i := 189) rfl rfl
abbrev fb_Md_told : ByteArray := prog_7_method_23_code
def fy_Md_told : MethodName := ⟨fn_R_Md, "told", "(I)I"⟩
abbrev fw_Md_told : Cond := .code fy_Md_told fb_Md_told 2 (some .int)
theorem fm_Md_told : fw_Md_told ∈ fb_tbl := fb_mem3 (i := 236) rfl rfl
abbrev fb_Md_kept : ByteArray := prog_7_method_24_code
def fy_Md_kept : MethodName := ⟨fn_R_Md, "kept", "(II)I"⟩
abbrev fw_Md_kept : Cond := .code fy_Md_kept fb_Md_kept 3 (some .int)
theorem fm_Md_kept : fw_Md_kept ∈ fb_tbl := fb_mem4 (i := 0) rfl rfl
abbrev fb_Md_left : ByteArray := prog_7_method_25_code
def fy_Md_left : MethodName := ⟨fn_R_Md, "left", "(I)D"⟩
abbrev fw_Md_left : Cond := .code fy_Md_left fb_Md_left 2 (some .double)
theorem fm_Md_left : fw_Md_left ∈ fb_tbl := fb_mem4 (i := 4) rfl rfl
abbrev fb_Md_count : ByteArray := prog_7_method_26_code
def fy_Md_count : MethodName := ⟨fn_R_Md, "count", "(I)I"⟩
abbrev fw_Md_count : Cond := .code fy_Md_count fb_Md_count 2 (some .int)
theorem fm_Md_count : fw_Md_count ∈ fb_tbl := fb_mem4 (i := 8) rfl rfl
abbrev fb_Lw_serve : ByteArray := method_3_code
def fy_Lw_serve : MethodName := ⟨fn_R_Lw, "serve", "(LFetchDesk;IIII)I"⟩
abbrev fb_Lw_headers : ByteArray := method_4_code
def fy_Lw_headers : MethodName := ⟨fn_R_Lw, "headers", "(LFetchDesk;III)I"⟩
abbrev fb_Lw_allow : ByteArray := method_5_code
def fy_Lw_allow : MethodName := ⟨fn_R_Lw, "allow", "(LFetchDesk;IIZ[J)I"⟩
abbrev fb_Lw_asked : ByteArray := method_6_code
def fy_Lw_asked : MethodName := ⟨fn_R_Lw, "asked", "(LFetchDesk;IZIID)I"⟩
abbrev fb_Lw_tick : ByteArray := method_7_code
def fy_Lw_tick : MethodName := ⟨fn_R_Lw, "tick", "(LFetchDesk;D[D)I"⟩
abbrev fb_Lw_fetch : ByteArray := method_8_code
def fy_Lw_fetch : MethodName := ⟨fn_R_Lw, "fetch", "(LFetchDesk;IIIIIII[J)I"⟩
abbrev fb_Lw_told : ByteArray := method_9_code
def fy_Lw_told : MethodName := ⟨fn_R_Lw, "told", "(LFetchDesk;I[J)I"⟩
abbrev fb_Lw_kept : ByteArray := method_10_code
def fy_Lw_kept : MethodName := ⟨fn_R_Lw, "kept", "(LFetchDesk;II[J)I"⟩
abbrev fb_Lw_left : ByteArray := method_11_code
def fy_Lw_left : MethodName := ⟨fn_R_Lw, "left", "(LFetchDesk;I[D)I"⟩
abbrev fb_Lw_count : ByteArray := method_12_code
def fy_Lw_count : MethodName := ⟨fn_R_Lw, "count", "(LFetchDesk;I[J)I"⟩
theorem fq_0 : ((.initialized fn_R_Lw) : Cond) ∈ fb_tbl := fb_mem1 (i := 0) rfl rfl
theorem fq_1 : ((.initialized fn_R_Dk) : Cond) ∈ fb_tbl := fb_mem1 (i := 1) rfl rfl
theorem fq_2 : ((.initialized fn_R_Rs) : Cond) ∈ fb_tbl := fb_mem1 (i := 2) rfl rfl
theorem fq_3 : ((.initialized fn_R_Mm) : Cond) ∈ fb_tbl := fb_mem1 (i := 3) rfl rfl
theorem fq_4 : ((.initialized fn_R_Pm) : Cond) ∈ fb_tbl := fb_mem1 (i := 4) rfl rfl
theorem fq_5 : ((.initialized fn_R_Rq) : Cond) ∈ fb_tbl := fb_mem1 (i := 5) rfl rfl
theorem fq_6 : ((.initialized fn_R_Md) : Cond) ∈ fb_tbl := fb_mem1 (i := 6) rfl rfl
theorem fq_7 : ((.initialized "java/lang/Throwable") : Cond) ∈ fb_tbl := fb_mem1 (i := 7) rfl rfl
theorem fq_8 : ((.initialized "java/lang/Exception") : Cond) ∈ fb_tbl := fb_mem1 (i := 8) rfl rfl
theorem fq_9 : ((.initialized "java/lang/RuntimeException") : Cond) ∈ fb_tbl := fb_mem1 (i := 9) rfl rfl
theorem fq_10 : ((.initialized "java/lang/IllegalArgumentException") : Cond) ∈ fb_tbl := fb_mem1 (i := 10) rfl rfl
theorem fq_11 : ((.initialized "java/lang/UnsupportedOperationException") : Cond) ∈ fb_tbl := fb_mem1 (i := 11) rfl rfl
theorem fq_12 : ((.initialized "java/lang/IndexOutOfBoundsException") : Cond) ∈ fb_tbl := fb_mem1 (i := 12) rfl rfl
theorem fq_13 : ((.classLink fn_R_Lw 8 fn_R_Dk) : Cond) ∈ fb_tbl := fb_mem1 (i := 13) rfl rfl
theorem fq_14 : ((.instantiable fn_R_Dk 9) : Cond) ∈ fb_tbl := fb_mem1 (i := 14) rfl rfl
theorem fq_15 : ((.methodLink fn_R_Lw 54 fy_Dk_init) : Cond) ∈ fb_tbl := fb_mem1 (i := 15) rfl rfl
theorem fq_16 : ((.instanceMethod fy_Dk_init) : Cond) ∈ fb_tbl := fb_mem1 (i := 16) rfl rfl
theorem fq_18 : ((.methodLink fn_R_Dk 3 objectInit) : Cond) ∈ fb_tbl := fb_mem1 (i := 18) rfl rfl
theorem fq_19 : ((.instanceMethod objectInit) : Cond) ∈ fb_tbl := fb_mem1 (i := 19) rfl rfl
theorem fq_21 : ((.classLink fn_R_Dk 9 fn_R_Rs) : Cond) ∈ fb_tbl := fb_mem1 (i := 21) rfl rfl
theorem fq_23 : ((.instantiable fn_R_Rs 13) : Cond) ∈ fb_tbl := fb_mem1 (i := 23) rfl rfl
theorem fq_25 : ((.instanceMethod fy_Rs_init) : Cond) ∈ fb_tbl := fb_mem1 (i := 25) rfl rfl
theorem fq_27 : ((.methodLink fn_R_Rs 3 objectInit) : Cond) ∈ fb_tbl := fb_mem1 (i := 27) rfl rfl
theorem fq_28 : ((.fieldLink fn_R_Rs 9 "FetchDesk$Resource" "status" "I") : Cond) ∈ fb_tbl := fb_mem1 (i := 28) rfl rfl
theorem fq_33 : ((.fieldLink fn_R_Rs 15 "FetchDesk$Resource" "target" "I") : Cond) ∈ fb_tbl := fb_mem1 (i := 33) rfl rfl
theorem fq_80 : ((.classLink fn_R_Dk 16 fn_R_Mm) : Cond) ∈ fb_tbl := fb_mem1 (i := 80) rfl rfl
theorem fq_81 : ((.instantiable fn_R_Mm 2) : Cond) ∈ fb_tbl := fb_mem1 (i := 81) rfl rfl
theorem fq_83 : ((.instanceMethod fy_Mm_init) : Cond) ∈ fb_tbl := fb_mem1 (i := 83) rfl rfl
theorem fq_85 : ((.methodLink fn_R_Mm 3 objectInit) : Cond) ∈ fb_tbl := fb_mem1 (i := 85) rfl rfl
theorem fq_86 : ((.classLink fn_R_Mm 9 fn_R_Pm) : Cond) ∈ fb_tbl := fb_mem1 (i := 86) rfl rfl
theorem fq_88 : ((.instantiable fn_R_Pm 6) : Cond) ∈ fb_tbl := fb_mem1 (i := 88) rfl rfl
theorem fq_90 : ((.instanceMethod fy_Pm_init) : Cond) ∈ fb_tbl := fb_mem1 (i := 90) rfl rfl
theorem fq_92 : ((.methodLink fn_R_Pm 1 objectInit) : Cond) ∈ fb_tbl := fb_mem1 (i := 92) rfl rfl
theorem fq_93 : ((.fieldLink fn_R_Pm 13 "FetchDesk$Permit" "origin" "I") : Cond) ∈ fb_tbl := fb_mem1 (i := 93) rfl rfl
theorem fq_96 : ((.fieldLink fn_R_Pm 19 "FetchDesk$Permit" "url" "I") : Cond) ∈ fb_tbl := fb_mem1 (i := 96) rfl rfl
theorem fq_99 : ((.fieldLink fn_R_Pm 24 "FetchDesk$Permit" "withCredentials" "Z") : Cond) ∈ fb_tbl := fb_mem1 (i := 99) rfl rfl
theorem fq_102 : ((.fieldLink fn_R_Pm 32 "FetchDesk$Permit" "methods" "I") : Cond) ∈ fb_tbl := fb_mem1 (i := 102) rfl rfl
theorem fq_105 : ((.fieldLink fn_R_Pm 38 "FetchDesk$Permit" "headers" "I") : Cond) ∈ fb_tbl := fb_mem1 (i := 105) rfl rfl
theorem fq_108 : ((.fieldLink fn_R_Pm 41 "FetchDesk$Permit" "end" "D") : Cond) ∈ fb_tbl := fb_mem1 (i := 108) rfl rfl
theorem fq_124 : ((.fieldLink fn_R_Mm 11 "FetchDesk$Memory" "permits" "[LFetchDesk$Permit;") : Cond) ∈ fb_tbl := fb_mem1 (i := 124) rfl rfl
theorem fq_126 : ((.fieldLink fn_R_Mm 18 "FetchDesk$Memory" "size" "I") : Cond) ∈ fb_tbl := fb_mem1 (i := 126) rfl rfl
theorem fq_133 : ((.classLink fn_R_Dk 23 fn_R_Rq) : Cond) ∈ fb_tbl := fb_mem1 (i := 133) rfl rfl
theorem fq_134 : ((.instantiable fn_R_Rq 15) : Cond) ∈ fb_tbl := fb_mem1 (i := 134) rfl rfl
theorem fq_136 : ((.instanceMethod fy_Rq_init) : Cond) ∈ fb_tbl := fb_mem1 (i := 136) rfl rfl
theorem fq_138 : ((.methodLink fn_R_Rq 3 objectInit) : Cond) ∈ fb_tbl := fb_mem1 (i := 138) rfl rfl
theorem fq_139 : ((.fieldLink fn_R_Rq 9 "FetchDesk$Request" "origin" "I") : Cond) ∈ fb_tbl := fb_mem1 (i := 139) rfl rfl
theorem fq_143 : ((.fieldLink fn_R_Rq 15 "FetchDesk$Request" "url" "I") : Cond) ∈ fb_tbl := fb_mem1 (i := 143) rfl rfl
theorem fq_147 : ((.fieldLink fn_R_Rq 18 "FetchDesk$Request" "method" "I") : Cond) ∈ fb_tbl := fb_mem1 (i := 147) rfl rfl
theorem fq_149 : ((.fieldLink fn_R_Rq 21 "FetchDesk$Request" "headers" "I") : Cond) ∈ fb_tbl := fb_mem1 (i := 149) rfl rfl
theorem fq_151 : ((.fieldLink fn_R_Rq 24 "FetchDesk$Request" "mode" "I") : Cond) ∈ fb_tbl := fb_mem1 (i := 151) rfl rfl
theorem fq_153 : ((.fieldLink fn_R_Rq 27 "FetchDesk$Request" "credentials" "I") : Cond) ∈ fb_tbl := fb_mem1 (i := 153) rfl rfl
theorem fq_154 : ((.fieldLink fn_R_Rq 30 "FetchDesk$Request" "redirects" "I") : Cond) ∈ fb_tbl := fb_mem1 (i := 154) rfl rfl
theorem fq_155 : ((.fieldLink fn_R_Rq 33 "FetchDesk$Request" "rounds" "I") : Cond) ∈ fb_tbl := fb_mem1 (i := 155) rfl rfl
theorem fq_157 : ((.fieldLink fn_R_Rq 36 "FetchDesk$Request" "far" "Z") : Cond) ∈ fb_tbl := fb_mem1 (i := 157) rfl rfl
theorem fq_160 : ((.fieldLink fn_R_Rq 40 "FetchDesk$Request" "sendsCredentials" "Z") : Cond) ∈ fb_tbl := fb_mem1 (i := 160) rfl rfl
theorem fq_163 : ((.fieldLink fn_R_Rq 43 "FetchDesk$Request" "error" "I") : Cond) ∈ fb_tbl := fb_mem1 (i := 163) rfl rfl
theorem fq_165 : ((.fieldLink fn_R_Rq 50 "FetchDesk$Request" "shownStatus" "I") : Cond) ∈ fb_tbl := fb_mem1 (i := 165) rfl rfl
theorem fq_167 : ((.fieldLink fn_R_Rq 53 "FetchDesk$Request" "shownBody" "I") : Cond) ∈ fb_tbl := fb_mem1 (i := 167) rfl rfl
theorem fq_169 : ((.fieldLink fn_R_Rq 56 "FetchDesk$Request" "shownHeaders" "I") : Cond) ∈ fb_tbl := fb_mem1 (i := 169) rfl rfl
theorem fq_171 : ((.fieldLink fn_R_Rq 59 "FetchDesk$Request" "sort" "I") : Cond) ∈ fb_tbl := fb_mem1 (i := 171) rfl rfl
theorem fq_204 : ((.fieldLink fn_R_Dk 11 "FetchDesk" "resources" "[LFetchDesk$Resource;") : Cond) ∈ fb_tbl := fb_mem1 (i := 204) rfl rfl
theorem fq_205 : ((.fieldLink fn_R_Dk 19 "FetchDesk" "memory" "LFetchDesk$Memory;") : Cond) ∈ fb_tbl := fb_mem1 (i := 205) rfl rfl
theorem fq_206 : ((.fieldLink fn_R_Dk 26 "FetchDesk" "latest" "LFetchDesk$Request;") : Cond) ∈ fb_tbl := fb_mem1 (i := 206) rfl rfl
theorem fq_207 : ((.fieldLink fn_R_Dk 80 "FetchDesk" "time" "D") : Cond) ∈ fb_tbl := fb_mem1 (i := 207) rfl rfl
theorem fq_208 : ((.fieldLink fn_R_Dk 100 "FetchDesk" "requestCount" "I") : Cond) ∈ fb_tbl := fb_mem1 (i := 208) rfl rfl
theorem fq_209 : ((.fieldLink fn_R_Dk 109 "FetchDesk" "errorCount" "I") : Cond) ∈ fb_tbl := fb_mem1 (i := 209) rfl rfl
theorem fq_210 : ((.fieldLink fn_R_Dk 174 "FetchDesk" "requestedCount" "I") : Cond) ∈ fb_tbl := fb_mem1 (i := 210) rfl rfl
theorem fq_211 : ((.fieldLink fn_R_Dk 175 "FetchDesk" "askedCount" "I") : Cond) ∈ fb_tbl := fb_mem1 (i := 211) rfl rfl
theorem fq_212 : ((.fieldLink fn_R_Dk 178 "FetchDesk" "rememberedCount" "I") : Cond) ∈ fb_tbl := fb_mem1 (i := 212) rfl rfl
theorem fq_232 : ((.methodLink fn_R_Lw 58 fy_Lw_serve) : Cond) ∈ fb_tbl := fb_mem1 (i := 232) rfl rfl
theorem fq_233 : ((.static fy_Lw_serve) : Cond) ∈ fb_tbl := fb_mem1 (i := 233) rfl rfl
theorem fq_235 : ((.classLink fn_R_Lw 13 "java/lang/IllegalArgumentException") : Cond) ∈ fb_tbl := fb_mem1 (i := 235) rfl rfl
theorem fq_236 : ((.methodLink fn_R_Lw 7 fy_Dk_serve) : Cond) ∈ fb_tbl := fb_mem1 (i := 236) rfl rfl
theorem fq_237 : ((.instanceMethod fy_Dk_serve) : Cond) ∈ fb_tbl := fb_mem1 (i := 237) rfl rfl
theorem fq_238 : ((.selects fn_R_Dk fy_Dk_serve fy_Dk_serve) : Cond) ∈ fb_tbl := fb_mem1 (i := 238) rfl rfl
theorem fq_240 : ((.methodLink fn_R_Dk 30 fy_Dk_isUrl) : Cond) ∈ fb_tbl := fb_mem2 (i := 0) rfl rfl
theorem fq_241 : ((.static fy_Dk_isUrl) : Cond) ∈ fb_tbl := fb_mem2 (i := 1) rfl rfl
theorem fq_243 : ((.classLink fn_R_Dk 34 "java/lang/IllegalArgumentException") : Cond) ∈ fb_tbl := fb_mem2 (i := 3) rfl rfl
theorem fq_266 : ((.instanceMethod ⟨"java/lang/Throwable", "<init>", "()V"⟩) : Cond) ∈ fb_tbl := fb_mem2 (i := 26) rfl rfl
theorem fq_268 : ((.methodLink "java/lang/Throwable" 1 objectInit) : Cond) ∈ fb_tbl := fb_mem2 (i := 28) rfl rfl
theorem fq_273 : ((.methodLink "java/lang/Throwable" 27 ⟨"java/lang/Throwable", "fillInStackTrace", "()Ljava/lang/Throwable;"⟩) : Cond) ∈ fb_tbl := fb_mem2 (i := 33) rfl rfl
theorem fq_274 : ((.instanceMethod ⟨"java/lang/Throwable", "fillInStackTrace", "()Ljava/lang/Throwable;"⟩) : Cond) ∈ fb_tbl := fb_mem2 (i := 34) rfl rfl
theorem fq_279 : ((.methodLink "java/lang/Throwable" 202 ⟨"java/lang/Throwable", "fillInStackTrace", "(I)Ljava/lang/Throwable;"⟩) : Cond) ∈ fb_tbl := fb_mem2 (i := 39) rfl rfl
theorem fq_281 : ((.instanceMethod ⟨"java/lang/Throwable", "fillInStackTrace", "(I)Ljava/lang/Throwable;"⟩) : Cond) ∈ fb_tbl := fb_mem2 (i := 41) rfl rfl
theorem fq_284 : ((.methodLink fn_R_Dk 36 ⟨"java/lang/IllegalArgumentException", "<init>", "()V"⟩) : Cond) ∈ fb_tbl := fb_mem2 (i := 44) rfl rfl
theorem fq_285 : ((.instanceMethod ⟨"java/lang/IllegalArgumentException", "<init>", "()V"⟩) : Cond) ∈ fb_tbl := fb_mem2 (i := 45) rfl rfl
theorem fq_287 : ((.methodLink "java/lang/IllegalArgumentException" 1 ⟨"java/lang/RuntimeException", "<init>", "()V"⟩) : Cond) ∈ fb_tbl := fb_mem2 (i := 47) rfl rfl
theorem fq_288 : ((.instanceMethod ⟨"java/lang/RuntimeException", "<init>", "()V"⟩) : Cond) ∈ fb_tbl := fb_mem2 (i := 48) rfl rfl
theorem fq_290 : ((.methodLink "java/lang/RuntimeException" 1 ⟨"java/lang/Exception", "<init>", "()V"⟩) : Cond) ∈ fb_tbl := fb_mem2 (i := 50) rfl rfl
theorem fq_291 : ((.instanceMethod ⟨"java/lang/Exception", "<init>", "()V"⟩) : Cond) ∈ fb_tbl := fb_mem2 (i := 51) rfl rfl
theorem fq_293 : ((.methodLink "java/lang/Exception" 1 ⟨"java/lang/Throwable", "<init>", "()V"⟩) : Cond) ∈ fb_tbl := fb_mem2 (i := 53) rfl rfl
theorem fq_306 : ((.methodLink fn_R_Lw 68 fy_Lw_headers) : Cond) ∈ fb_tbl := fb_mem2 (i := 66) rfl rfl
theorem fq_307 : ((.static fy_Lw_headers) : Cond) ∈ fb_tbl := fb_mem2 (i := 67) rfl rfl
theorem fq_309 : ((.methodLink fn_R_Lw 15 fy_Dk_headers) : Cond) ∈ fb_tbl := fb_mem2 (i := 69) rfl rfl
theorem fq_310 : ((.instanceMethod fy_Dk_headers) : Cond) ∈ fb_tbl := fb_mem2 (i := 70) rfl rfl
theorem fq_311 : ((.selects fn_R_Dk fy_Dk_headers fy_Dk_headers) : Cond) ∈ fb_tbl := fb_mem2 (i := 71) rfl rfl
theorem fq_313 : ((.methodLink fn_R_Dk 47 fy_Dk_isFourBits) : Cond) ∈ fb_tbl := fb_mem2 (i := 73) rfl rfl
theorem fq_314 : ((.static fy_Dk_isFourBits) : Cond) ∈ fb_tbl := fb_mem2 (i := 74) rfl rfl
theorem fq_316 : ((.methodLink fn_R_Lw 72 fy_Lw_allow) : Cond) ∈ fb_tbl := fb_mem2 (i := 76) rfl rfl
theorem fq_317 : ((.static fy_Lw_allow) : Cond) ∈ fb_tbl := fb_mem2 (i := 77) rfl rfl
theorem fq_319 : ((.methodLink fn_R_Lw 19 fy_Dk_allow) : Cond) ∈ fb_tbl := fb_mem2 (i := 79) rfl rfl
theorem fq_320 : ((.instanceMethod fy_Dk_allow) : Cond) ∈ fb_tbl := fb_mem2 (i := 80) rfl rfl
theorem fq_321 : ((.selects fn_R_Dk fy_Dk_allow fy_Dk_allow) : Cond) ∈ fb_tbl := fb_mem2 (i := 81) rfl rfl
theorem fq_323 : ((.methodLink fn_R_Lw 78 fy_Lw_asked) : Cond) ∈ fb_tbl := fb_mem2 (i := 83) rfl rfl
theorem fq_324 : ((.static fy_Lw_asked) : Cond) ∈ fb_tbl := fb_mem2 (i := 84) rfl rfl
theorem fq_326 : ((.methodLink fn_R_Lw 23 fy_Dk_asked) : Cond) ∈ fb_tbl := fb_mem2 (i := 86) rfl rfl
theorem fq_327 : ((.instanceMethod fy_Dk_asked) : Cond) ∈ fb_tbl := fb_mem2 (i := 87) rfl rfl
theorem fq_328 : ((.selects fn_R_Dk fy_Dk_asked fy_Dk_asked) : Cond) ∈ fb_tbl := fb_mem2 (i := 88) rfl rfl
theorem fq_330 : ((.constantDouble fn_R_Dk 63 4636737291354636288) : Cond) ∈ fb_tbl := fb_mem2 (i := 90) rfl rfl
theorem fq_331 : ((.methodLink fn_R_Lw 82 fy_Lw_tick) : Cond) ∈ fb_tbl := fb_mem2 (i := 91) rfl rfl
theorem fq_332 : ((.static fy_Lw_tick) : Cond) ∈ fb_tbl := fb_mem2 (i := 92) rfl rfl
theorem fq_334 : ((.methodLink fn_R_Lw 27 fy_Dk_tick) : Cond) ∈ fb_tbl := fb_mem2 (i := 94) rfl rfl
theorem fq_335 : ((.instanceMethod fy_Dk_tick) : Cond) ∈ fb_tbl := fb_mem2 (i := 95) rfl rfl
theorem fq_336 : ((.selects fn_R_Dk fy_Dk_tick fy_Dk_tick) : Cond) ∈ fb_tbl := fb_mem2 (i := 96) rfl rfl
theorem fq_338 : ((.constantDouble fn_R_Dk 78 4652007308841189376) : Cond) ∈ fb_tbl := fb_mem2 (i := 98) rfl rfl
theorem fq_339 : ((.methodLink fn_R_Lw 86 fy_Lw_fetch) : Cond) ∈ fb_tbl := fb_mem2 (i := 99) rfl rfl
theorem fq_340 : ((.static fy_Lw_fetch) : Cond) ∈ fb_tbl := fb_mem2 (i := 100) rfl rfl
theorem fq_342 : ((.classLink fn_R_Lw 35 "java/lang/UnsupportedOperationException") : Cond) ∈ fb_tbl := fb_mem2 (i := 102) rfl rfl
theorem fq_343 : ((.methodLink fn_R_Lw 31 fy_Dk_fetch) : Cond) ∈ fb_tbl := fb_mem2 (i := 103) rfl rfl
theorem fq_344 : ((.instanceMethod fy_Dk_fetch) : Cond) ∈ fb_tbl := fb_mem2 (i := 104) rfl rfl
theorem fq_345 : ((.selects fn_R_Dk fy_Dk_fetch fy_Dk_fetch) : Cond) ∈ fb_tbl := fb_mem2 (i := 105) rfl rfl
theorem fq_347 : ((.methodLink fn_R_Dk 83 fy_Dk_isOrigin) : Cond) ∈ fb_tbl := fb_mem2 (i := 107) rfl rfl
theorem fq_348 : ((.static fy_Dk_isOrigin) : Cond) ∈ fb_tbl := fb_mem2 (i := 108) rfl rfl
theorem fq_350 : ((.methodLink fn_R_Dk 86 fy_Dk_isMethod) : Cond) ∈ fb_tbl := fb_mem2 (i := 110) rfl rfl
theorem fq_351 : ((.static fy_Dk_isMethod) : Cond) ∈ fb_tbl := fb_mem2 (i := 111) rfl rfl
theorem fq_353 : ((.methodLink fn_R_Dk 89 fy_Dk_isChoice) : Cond) ∈ fb_tbl := fb_mem2 (i := 113) rfl rfl
theorem fq_354 : ((.static fy_Dk_isChoice) : Cond) ∈ fb_tbl := fb_mem2 (i := 114) rfl rfl
theorem fq_356 : ((.methodLink fn_R_Dk 92 fy_Dk_isPlain) : Cond) ∈ fb_tbl := fb_mem2 (i := 116) rfl rfl
theorem fq_357 : ((.static fy_Dk_isPlain) : Cond) ∈ fb_tbl := fb_mem2 (i := 117) rfl rfl
theorem fq_359 : ((.methodLink fn_R_Dk 242 fy_Dk_isSimple) : Cond) ∈ fb_tbl := fb_mem2 (i := 119) rfl rfl
theorem fq_360 : ((.static fy_Dk_isSimple) : Cond) ∈ fb_tbl := fb_mem2 (i := 120) rfl rfl
theorem fq_364 : ((.instanceMethod fy_Rq_begin) : Cond) ∈ fb_tbl := fb_mem2 (i := 124) rfl rfl
theorem fq_366 : ((.methodLink fn_R_Rq 46 fy_Rq_show) : Cond) ∈ fb_tbl := fb_mem2 (i := 126) rfl rfl
theorem fq_368 : ((.instanceMethod fy_Rq_show) : Cond) ∈ fb_tbl := fb_mem2 (i := 128) rfl rfl
theorem fq_370 : ((.methodLink fn_R_Dk 103 fy_Dk_goThroughRounds) : Cond) ∈ fb_tbl := fb_mem2 (i := 130) rfl rfl
theorem fq_372 : ((.instanceMethod fy_Dk_goThroughRounds) : Cond) ∈ fb_tbl := fb_mem2 (i := 132) rfl rfl
theorem fq_374 : ((.methodLink fn_R_Dk 184 fy_Dk_goOneRound) : Cond) ∈ fb_tbl := fb_mem2 (i := 134) rfl rfl
theorem fq_376 : ((.instanceMethod fy_Dk_goOneRound) : Cond) ∈ fb_tbl := fb_mem2 (i := 136) rfl rfl
theorem fq_380 : ((.instanceMethod fy_Rq_enterRound) : Cond) ∈ fb_tbl := fb_mem2 (i := 140) rfl rfl
theorem fq_383 : ((.static fy_Dk_originOf) : Cond) ∈ fb_tbl := fb_mem2 (i := 143) rfl rfl
theorem fq_385 : ((.methodLink fn_R_Dk 190 fy_Dk_errorBeforeRequesting) : Cond) ∈ fb_tbl := fb_mem2 (i := 145) rfl rfl
theorem fq_387 : ((.instanceMethod fy_Dk_errorBeforeRequesting) : Cond) ∈ fb_tbl := fb_mem2 (i := 147) rfl rfl
theorem fq_391 : ((.instanceMethod fy_Rq_mustPass) : Cond) ∈ fb_tbl := fb_mem2 (i := 151) rfl rfl
theorem fq_395 : ((.instanceMethod fy_Mm_covers) : Cond) ∈ fb_tbl := fb_mem2 (i := 155) rfl rfl
theorem fq_397 : ((.methodLink fn_R_Mm 39 fy_Mm_find) : Cond) ∈ fb_tbl := fb_mem2 (i := 157) rfl rfl
theorem fq_399 : ((.instanceMethod fy_Mm_find) : Cond) ∈ fb_tbl := fb_mem2 (i := 159) rfl rfl
theorem fq_402 : ((.static fy_Dk_lets) : Cond) ∈ fb_tbl := fb_mem2 (i := 162) rfl rfl
theorem fq_404 : ((.methodLink fn_R_Dk 227 fy_Dk_ask) : Cond) ∈ fb_tbl := fb_mem2 (i := 164) rfl rfl
theorem fq_406 : ((.instanceMethod fy_Dk_ask) : Cond) ∈ fb_tbl := fb_mem2 (i := 166) rfl rfl
theorem fq_410 : ((.instanceMethod fy_Mm_forget) : Cond) ∈ fb_tbl := fb_mem2 (i := 170) rfl rfl
theorem fq_412 : ((.methodLink fn_R_Mm 57 fy_Mm_drop) : Cond) ∈ fb_tbl := fb_mem2 (i := 172) rfl rfl
theorem fq_414 : ((.instanceMethod fy_Mm_drop) : Cond) ∈ fb_tbl := fb_mem2 (i := 174) rfl rfl
theorem fq_418 : ((.instanceMethod fy_Rq_passes) : Cond) ∈ fb_tbl := fb_mem2 (i := 178) rfl rfl
theorem fq_420 : ((.methodLink fn_R_Dk 234 fy_Dk_lets) : Cond) ∈ fb_tbl := fb_mem2 (i := 180) rfl rfl
theorem fq_423 : ((.instanceMethod fy_Mm_remember) : Cond) ∈ fb_tbl := fb_mem2 (i := 183) rfl rfl
theorem fq_425 : ((.methodLink fn_R_Mm 61 fy_Mm_firstToEnd) : Cond) ∈ fb_tbl := fb_mem2 (i := 185) rfl rfl
theorem fq_427 : ((.instanceMethod fy_Mm_firstToEnd) : Cond) ∈ fb_tbl := fb_mem2 (i := 187) rfl rfl
theorem fq_429 : ((.constantDouble fn_R_Mm 70 4621819117588971520) : Cond) ∈ fb_tbl := fb_mem2 (i := 189) rfl rfl
theorem fq_432 : ((.instanceMethod fy_Pm_write) : Cond) ∈ fb_tbl := fb_mem2 (i := 192) rfl rfl
theorem fq_434 : ((.methodLink fn_R_Dk 194 fy_Dk_countRequested) : Cond) ∈ fb_tbl := fb_mem2 (i := 194) rfl rfl
theorem fq_436 : ((.instanceMethod fy_Dk_countRequested) : Cond) ∈ fb_tbl := fb_mem2 (i := 196) rfl rfl
theorem fq_440 : ((.instanceMethod fy_Rs_isRedirect) : Cond) ∈ fb_tbl := fb_mem2 (i := 200) rfl rfl
theorem fq_444 : ((.instanceMethod fy_Rq_meetRedirect) : Cond) ∈ fb_tbl := fb_mem2 (i := 204) rfl rfl
theorem fq_446 : ((.methodLink fn_R_Rq 74 fy_Rq_follow) : Cond) ∈ fb_tbl := fb_mem2 (i := 206) rfl rfl
theorem fq_448 : ((.instanceMethod fy_Rq_follow) : Cond) ∈ fb_tbl := fb_mem2 (i := 208) rfl rfl
theorem fq_452 : ((.instanceMethod fy_Rs_turnsIntoGet) : Cond) ∈ fb_tbl := fb_mem2 (i := 212) rfl rfl
theorem fq_456 : ((.instanceMethod fy_Rq_takeResponse) : Cond) ∈ fb_tbl := fb_mem2 (i := 216) rfl rfl
theorem fq_458 : ((.classLink fn_R_Dk 112 "java/lang/UnsupportedOperationException") : Cond) ∈ fb_tbl := fb_mem2 (i := 218) rfl rfl
theorem fq_467 : ((.methodLink fn_R_Dk 114 ⟨"java/lang/UnsupportedOperationException", "<init>", "()V"⟩) : Cond) ∈ fb_tbl := fb_mem2 (i := 227) rfl rfl
theorem fq_468 : ((.instanceMethod ⟨"java/lang/UnsupportedOperationException", "<init>", "()V"⟩) : Cond) ∈ fb_tbl := fb_mem2 (i := 228) rfl rfl
theorem fq_470 : ((.methodLink "java/lang/UnsupportedOperationException" 1 ⟨"java/lang/RuntimeException", "<init>", "()V"⟩) : Cond) ∈ fb_tbl := fb_mem2 (i := 230) rfl rfl
theorem fq_473 : ((.methodLink fn_R_Lw 90 fy_Lw_told) : Cond) ∈ fb_tbl := fb_mem2 (i := 233) rfl rfl
theorem fq_474 : ((.static fy_Lw_told) : Cond) ∈ fb_tbl := fb_mem2 (i := 234) rfl rfl
theorem fq_476 : ((.methodLink fn_R_Lw 37 fy_Dk_told) : Cond) ∈ fb_tbl := fb_mem2 (i := 236) rfl rfl
theorem fq_477 : ((.instanceMethod fy_Dk_told) : Cond) ∈ fb_tbl := fb_mem2 (i := 237) rfl rfl
theorem fq_478 : ((.selects fn_R_Dk fy_Dk_told fy_Dk_told) : Cond) ∈ fb_tbl := fb_mem2 (i := 238) rfl rfl
theorem fq_480 : ((.methodLink fn_R_Lw 94 fy_Lw_kept) : Cond) ∈ fb_tbl := fb_mem3 (i := 0) rfl rfl
theorem fq_481 : ((.static fy_Lw_kept) : Cond) ∈ fb_tbl := fb_mem3 (i := 1) rfl rfl
theorem fq_483 : ((.classLink fn_R_Lw 45 "java/lang/IndexOutOfBoundsException") : Cond) ∈ fb_tbl := fb_mem3 (i := 3) rfl rfl
theorem fq_484 : ((.methodLink fn_R_Lw 41 fy_Dk_kept) : Cond) ∈ fb_tbl := fb_mem3 (i := 4) rfl rfl
theorem fq_485 : ((.instanceMethod fy_Dk_kept) : Cond) ∈ fb_tbl := fb_mem3 (i := 5) rfl rfl
theorem fq_486 : ((.selects fn_R_Dk fy_Dk_kept fy_Dk_kept) : Cond) ∈ fb_tbl := fb_mem3 (i := 6) rfl rfl
theorem fq_490 : ((.instanceMethod fy_Mm_holds) : Cond) ∈ fb_tbl := fb_mem3 (i := 10) rfl rfl
theorem fq_492 : ((.classLink fn_R_Dk 145 "java/lang/IndexOutOfBoundsException") : Cond) ∈ fb_tbl := fb_mem3 (i := 12) rfl rfl
theorem fq_501 : ((.methodLink fn_R_Dk 147 ⟨"java/lang/IndexOutOfBoundsException", "<init>", "()V"⟩) : Cond) ∈ fb_tbl := fb_mem3 (i := 21) rfl rfl
theorem fq_502 : ((.instanceMethod ⟨"java/lang/IndexOutOfBoundsException", "<init>", "()V"⟩) : Cond) ∈ fb_tbl := fb_mem3 (i := 22) rfl rfl
theorem fq_504 : ((.methodLink "java/lang/IndexOutOfBoundsException" 1 ⟨"java/lang/RuntimeException", "<init>", "()V"⟩) : Cond) ∈ fb_tbl := fb_mem3 (i := 24) rfl rfl
theorem fq_507 : ((.methodLink fn_R_Lw 98 fy_Lw_left) : Cond) ∈ fb_tbl := fb_mem3 (i := 27) rfl rfl
theorem fq_508 : ((.static fy_Lw_left) : Cond) ∈ fb_tbl := fb_mem3 (i := 28) rfl rfl
theorem fq_510 : ((.methodLink fn_R_Lw 47 fy_Dk_left) : Cond) ∈ fb_tbl := fb_mem3 (i := 30) rfl rfl
theorem fq_511 : ((.instanceMethod fy_Dk_left) : Cond) ∈ fb_tbl := fb_mem3 (i := 31) rfl rfl
theorem fq_512 : ((.selects fn_R_Dk fy_Dk_left fy_Dk_left) : Cond) ∈ fb_tbl := fb_mem3 (i := 32) rfl rfl
theorem fq_514 : ((.methodLink fn_R_Lw 102 fy_Lw_count) : Cond) ∈ fb_tbl := fb_mem3 (i := 34) rfl rfl
theorem fq_515 : ((.static fy_Lw_count) : Cond) ∈ fb_tbl := fb_mem3 (i := 35) rfl rfl
theorem fq_517 : ((.methodLink fn_R_Lw 51 fy_Dk_count) : Cond) ∈ fb_tbl := fb_mem3 (i := 37) rfl rfl
theorem fq_518 : ((.instanceMethod fy_Dk_count) : Cond) ∈ fb_tbl := fb_mem3 (i := 38) rfl rfl
theorem fq_519 : ((.selects fn_R_Dk fy_Dk_count fy_Dk_count) : Cond) ∈ fb_tbl := fb_mem3 (i := 39) rfl rfl
theorem fq_521 : ((.classLink fn_R_Lw 55 fn_R_Md) : Cond) ∈ fb_tbl := fb_mem3 (i := 41) rfl rfl
theorem fq_522 : ((.instantiable fn_R_Md 33) : Cond) ∈ fb_tbl := fb_mem3 (i := 42) rfl rfl
theorem fq_523 : ((.methodLink fn_R_Lw 57 fy_Md_init) : Cond) ∈ fb_tbl := fb_mem3 (i := 43) rfl rfl
theorem fq_524 : ((.instanceMethod fy_Md_init) : Cond) ∈ fb_tbl := fb_mem3 (i := 44) rfl rfl
theorem fq_526 : ((.methodLink fn_R_Md 1 objectInit) : Cond) ∈ fb_tbl := fb_mem3 (i := 46) rfl rfl
theorem fq_527 : ((.fieldLink fn_R_Md 7 "FetchDeskModel" "status" "[I") : Cond) ∈ fb_tbl := fb_mem3 (i := 47) rfl rfl
theorem fq_528 : ((.fieldLink fn_R_Md 13 "FetchDeskModel" "body" "[I") : Cond) ∈ fb_tbl := fb_mem3 (i := 48) rfl rfl
theorem fq_529 : ((.fieldLink fn_R_Md 16 "FetchDeskModel" "target" "[I") : Cond) ∈ fb_tbl := fb_mem3 (i := 49) rfl rfl
theorem fq_530 : ((.fieldLink fn_R_Md 19 "FetchDeskModel" "given" "[I") : Cond) ∈ fb_tbl := fb_mem3 (i := 50) rfl rfl
theorem fq_531 : ((.fieldLink fn_R_Md 22 "FetchDeskModel" "exposed" "[I") : Cond) ∈ fb_tbl := fb_mem3 (i := 51) rfl rfl
theorem fq_532 : ((.fieldLink fn_R_Md 25 "FetchDeskModel" "allowed" "[I") : Cond) ∈ fb_tbl := fb_mem3 (i := 52) rfl rfl
theorem fq_533 : ((.fieldLink fn_R_Md 28 "FetchDeskModel" "methods" "[I") : Cond) ∈ fb_tbl := fb_mem3 (i := 53) rfl rfl
theorem fq_534 : ((.fieldLink fn_R_Md 31 "FetchDeskModel" "takes" "[I") : Cond) ∈ fb_tbl := fb_mem3 (i := 54) rfl rfl
theorem fq_535 : ((.fieldLink fn_R_Md 34 "FetchDeskModel" "requested" "[I") : Cond) ∈ fb_tbl := fb_mem3 (i := 55) rfl rfl
theorem fq_536 : ((.fieldLink fn_R_Md 37 "FetchDeskModel" "trusted" "[I") : Cond) ∈ fb_tbl := fb_mem3 (i := 56) rfl rfl
theorem fq_537 : ((.fieldLink fn_R_Md 40 "FetchDeskModel" "trusts" "[Z") : Cond) ∈ fb_tbl := fb_mem3 (i := 57) rfl rfl
theorem fq_538 : ((.fieldLink fn_R_Md 44 "FetchDeskModel" "ok" "[Z") : Cond) ∈ fb_tbl := fb_mem3 (i := 58) rfl rfl
theorem fq_539 : ((.fieldLink fn_R_Md 47 "FetchDeskModel" "withKept" "[Z") : Cond) ∈ fb_tbl := fb_mem3 (i := 59) rfl rfl
theorem fq_540 : ((.fieldLink fn_R_Md 50 "FetchDeskModel" "age" "[D") : Cond) ∈ fb_tbl := fb_mem3 (i := 60) rfl rfl
theorem fq_541 : ((.fieldLink fn_R_Md 54 "FetchDeskModel" "endKept" "[D") : Cond) ∈ fb_tbl := fb_mem3 (i := 61) rfl rfl
theorem fq_542 : ((.fieldLink fn_R_Md 57 "FetchDeskModel" "originKept" "[I") : Cond) ∈ fb_tbl := fb_mem3 (i := 62) rfl rfl
theorem fq_543 : ((.fieldLink fn_R_Md 60 "FetchDeskModel" "urlKept" "[I") : Cond) ∈ fb_tbl := fb_mem3 (i := 63) rfl rfl
theorem fq_544 : ((.fieldLink fn_R_Md 63 "FetchDeskModel" "methodsKept" "[I") : Cond) ∈ fb_tbl := fb_mem3 (i := 64) rfl rfl
theorem fq_545 : ((.fieldLink fn_R_Md 66 "FetchDeskModel" "headersKept" "[I") : Cond) ∈ fb_tbl := fb_mem3 (i := 65) rfl rfl
theorem fq_546 : ((.fieldLink fn_R_Md 69 "FetchDeskModel" "told" "[I") : Cond) ∈ fb_tbl := fb_mem3 (i := 66) rfl rfl
theorem fq_547 : ((.fieldLink fn_R_Md 92 "FetchDeskModel" "time" "D") : Cond) ∈ fb_tbl := fb_mem3 (i := 67) rfl rfl
theorem fq_548 : ((.fieldLink fn_R_Md 106 "FetchDeskModel" "kept" "I") : Cond) ∈ fb_tbl := fb_mem3 (i := 68) rfl rfl
theorem fq_549 : ((.fieldLink fn_R_Md 158 "FetchDeskModel" "requests" "I") : Cond) ∈ fb_tbl := fb_mem3 (i := 69) rfl rfl
theorem fq_550 : ((.fieldLink fn_R_Md 165 "FetchDeskModel" "errors" "I") : Cond) ∈ fb_tbl := fb_mem3 (i := 70) rfl rfl
theorem fq_551 : ((.fieldLink fn_R_Md 146 "FetchDeskModel" "all" "I") : Cond) ∈ fb_tbl := fb_mem3 (i := 71) rfl rfl
theorem fq_552 : ((.fieldLink fn_R_Md 127 "FetchDeskModel" "asks" "I") : Cond) ∈ fb_tbl := fb_mem3 (i := 72) rfl rfl
theorem fq_553 : ((.fieldLink fn_R_Md 140 "FetchDeskModel" "remembered" "I") : Cond) ∈ fb_tbl := fb_mem3 (i := 73) rfl rfl
theorem fq_554 : ((.fieldLink fn_R_Md 72 "FetchDeskModel" "thrown" "I") : Cond) ∈ fb_tbl := fb_mem3 (i := 74) rfl rfl
theorem fq_555 : ((.fieldLink fn_R_Md 99 "FetchDeskModel" "origin" "I") : Cond) ∈ fb_tbl := fb_mem3 (i := 75) rfl rfl
theorem fq_556 : ((.fieldLink fn_R_Md 96 "FetchDeskModel" "url" "I") : Cond) ∈ fb_tbl := fb_mem3 (i := 76) rfl rfl
theorem fq_557 : ((.fieldLink fn_R_Md 112 "FetchDeskModel" "method" "I") : Cond) ∈ fb_tbl := fb_mem3 (i := 77) rfl rfl
theorem fq_558 : ((.fieldLink fn_R_Md 118 "FetchDeskModel" "headers" "I") : Cond) ∈ fb_tbl := fb_mem3 (i := 78) rfl rfl
theorem fq_559 : ((.fieldLink fn_R_Md 102 "FetchDeskModel" "sent" "Z") : Cond) ∈ fb_tbl := fb_mem3 (i := 79) rfl rfl
theorem fq_627 : ((.arrayClass .int) : Cond) ∈ fb_tbl := fb_mem3 (i := 147) rfl rfl
theorem fq_628 : ((.arrayClass .boolean) : Cond) ∈ fb_tbl := fb_mem3 (i := 148) rfl rfl
theorem fq_629 : ((.arrayClass .double) : Cond) ∈ fb_tbl := fb_mem3 (i := 149) rfl rfl
theorem fq_630 : ((.methodLink fn_R_Lw 64 fy_Md_thrown) : Cond) ∈ fb_tbl := fb_mem3 (i := 150) rfl rfl
theorem fq_631 : ((.instanceMethod fy_Md_thrown) : Cond) ∈ fb_tbl := fb_mem3 (i := 151) rfl rfl
theorem fq_632 : ((.selects fn_R_Md fy_Md_thrown fy_Md_thrown) : Cond) ∈ fb_tbl := fb_mem3 (i := 152) rfl rfl
theorem fq_634 : ((.methodLink fn_R_Lw 63 fy_Md_serve) : Cond) ∈ fb_tbl := fb_mem3 (i := 154) rfl rfl
theorem fq_635 : ((.instanceMethod fy_Md_serve) : Cond) ∈ fb_tbl := fb_mem3 (i := 155) rfl rfl
theorem fq_636 : ((.selects fn_R_Md fy_Md_serve fy_Md_serve) : Cond) ∈ fb_tbl := fb_mem3 (i := 156) rfl rfl
theorem fq_638 : ((.methodLink fn_R_Md 80 fy_Md_isUrl) : Cond) ∈ fb_tbl := fb_mem3 (i := 158) rfl rfl
theorem fq_639 : ((.static fy_Md_isUrl) : Cond) ∈ fb_tbl := fb_mem3 (i := 159) rfl rfl
theorem fq_641 : ((.methodLink fn_R_Md 76 fy_Md_in) : Cond) ∈ fb_tbl := fb_mem3 (i := 161) rfl rfl
theorem fq_642 : ((.static fy_Md_in) : Cond) ∈ fb_tbl := fb_mem3 (i := 162) rfl rfl
theorem fq_644 : ((.methodLink fn_R_Lw 71 fy_Md_headers) : Cond) ∈ fb_tbl := fb_mem3 (i := 164) rfl rfl
theorem fq_645 : ((.instanceMethod fy_Md_headers) : Cond) ∈ fb_tbl := fb_mem3 (i := 165) rfl rfl
theorem fq_646 : ((.selects fn_R_Md fy_Md_headers fy_Md_headers) : Cond) ∈ fb_tbl := fb_mem3 (i := 166) rfl rfl
theorem fq_648 : ((.methodLink fn_R_Lw 75 fy_Md_allow) : Cond) ∈ fb_tbl := fb_mem3 (i := 168) rfl rfl
theorem fq_649 : ((.instanceMethod fy_Md_allow) : Cond) ∈ fb_tbl := fb_mem3 (i := 169) rfl rfl
theorem fq_650 : ((.selects fn_R_Md fy_Md_allow fy_Md_allow) : Cond) ∈ fb_tbl := fb_mem3 (i := 170) rfl rfl
theorem fq_652 : ((.methodLink fn_R_Md 84 fy_Md_fail) : Cond) ∈ fb_tbl := fb_mem3 (i := 172) rfl rfl
theorem fq_654 : ((.instanceMethod fy_Md_fail) : Cond) ∈ fb_tbl := fb_mem3 (i := 174) rfl rfl
theorem fq_656 : ((.methodLink fn_R_Lw 81 fy_Md_asked) : Cond) ∈ fb_tbl := fb_mem3 (i := 176) rfl rfl
theorem fq_657 : ((.instanceMethod fy_Md_asked) : Cond) ∈ fb_tbl := fb_mem3 (i := 177) rfl rfl
theorem fq_658 : ((.selects fn_R_Md fy_Md_asked fy_Md_asked) : Cond) ∈ fb_tbl := fb_mem3 (i := 178) rfl rfl
theorem fq_660 : ((.constantDouble fn_R_Md 88 4636737291354636288) : Cond) ∈ fb_tbl := fb_mem3 (i := 180) rfl rfl
theorem fq_661 : ((.methodLink fn_R_Lw 85 fy_Md_tick) : Cond) ∈ fb_tbl := fb_mem3 (i := 181) rfl rfl
theorem fq_662 : ((.instanceMethod fy_Md_tick) : Cond) ∈ fb_tbl := fb_mem3 (i := 182) rfl rfl
theorem fq_663 : ((.selects fn_R_Md fy_Md_tick fy_Md_tick) : Cond) ∈ fb_tbl := fb_mem3 (i := 183) rfl rfl
theorem fq_665 : ((.constantDouble fn_R_Md 90 4652007308841189376) : Cond) ∈ fb_tbl := fb_mem3 (i := 185) rfl rfl
theorem fq_666 : ((.methodLink fn_R_Lw 89 fy_Md_fetch) : Cond) ∈ fb_tbl := fb_mem3 (i := 186) rfl rfl
theorem fq_667 : ((.instanceMethod fy_Md_fetch) : Cond) ∈ fb_tbl := fb_mem3 (i := 187) rfl rfl
theorem fq_668 : ((.selects fn_R_Md fy_Md_fetch fy_Md_fetch) : Cond) ∈ fb_tbl := fb_mem3 (i := 188) rfl rfl
theorem fq_670 : ((.methodLink fn_R_Md 115 fy_Md_isSimple) : Cond) ∈ fb_tbl := fb_mem3 (i := 190) rfl rfl
theorem fq_671 : ((.static fy_Md_isSimple) : Cond) ∈ fb_tbl := fb_mem3 (i := 191) rfl rfl
theorem fq_673 : ((.methodLink fn_R_Md 161 fy_Md_go) : Cond) ∈ fb_tbl := fb_mem3 (i := 193) rfl rfl
theorem fq_675 : ((.instanceMethod fy_Md_go) : Cond) ∈ fb_tbl := fb_mem3 (i := 195) rfl rfl
theorem fq_677 : ((.methodLink fn_R_Md 137 fy_Md_isRemembered) : Cond) ∈ fb_tbl := fb_mem3 (i := 197) rfl rfl
theorem fq_679 : ((.instanceMethod fy_Md_isRemembered) : Cond) ∈ fb_tbl := fb_mem3 (i := 199) rfl rfl
theorem fq_681 : ((.methodLink fn_R_Md 109 fy_Md_isSame) : Cond) ∈ fb_tbl := fb_mem3 (i := 201) rfl rfl
theorem fq_683 : ((.instanceMethod fy_Md_isSame) : Cond) ∈ fb_tbl := fb_mem3 (i := 203) rfl rfl
theorem fq_685 : ((.methodLink fn_R_Md 143 fy_Md_ask) : Cond) ∈ fb_tbl := fb_mem3 (i := 205) rfl rfl
theorem fq_687 : ((.instanceMethod fy_Md_ask) : Cond) ∈ fb_tbl := fb_mem3 (i := 207) rfl rfl
theorem fq_689 : ((.methodLink fn_R_Md 121 fy_Md_forget) : Cond) ∈ fb_tbl := fb_mem3 (i := 209) rfl rfl
theorem fq_691 : ((.instanceMethod fy_Md_forget) : Cond) ∈ fb_tbl := fb_mem3 (i := 211) rfl rfl
theorem fq_693 : ((.methodLink fn_R_Md 130 fy_Md_passes) : Cond) ∈ fb_tbl := fb_mem3 (i := 213) rfl rfl
theorem fq_695 : ((.instanceMethod fy_Md_passes) : Cond) ∈ fb_tbl := fb_mem3 (i := 215) rfl rfl
theorem fq_697 : ((.methodLink fn_R_Md 134 fy_Md_keep) : Cond) ∈ fb_tbl := fb_mem3 (i := 217) rfl rfl
theorem fq_699 : ((.instanceMethod fy_Md_keep) : Cond) ∈ fb_tbl := fb_mem3 (i := 219) rfl rfl
theorem fq_701 : ((.constantDouble fn_R_Md 125 4621819117588971520) : Cond) ∈ fb_tbl := fb_mem3 (i := 221) rfl rfl
theorem fq_702 : ((.methodLink fn_R_Md 149 fy_Md_isMoved) : Cond) ∈ fb_tbl := fb_mem3 (i := 222) rfl rfl
theorem fq_703 : ((.static fy_Md_isMoved) : Cond) ∈ fb_tbl := fb_mem3 (i := 223) rfl rfl
theorem fq_705 : ((.methodLink fn_R_Md 152 fy_Md_answer) : Cond) ∈ fb_tbl := fb_mem3 (i := 225) rfl rfl
theorem fq_707 : ((.instanceMethod fy_Md_answer) : Cond) ∈ fb_tbl := fb_mem3 (i := 227) rfl rfl
theorem fq_709 : ((.methodLink fn_R_Md 155 fy_Md_move) : Cond) ∈ fb_tbl := fb_mem3 (i := 229) rfl rfl
theorem fq_711 : ((.instanceMethod fy_Md_move) : Cond) ∈ fb_tbl := fb_mem3 (i := 231) rfl rfl
theorem fq_713 : ((.methodLink fn_R_Lw 93 fy_Md_told) : Cond) ∈ fb_tbl := fb_mem3 (i := 233) rfl rfl
theorem fq_714 : ((.instanceMethod fy_Md_told) : Cond) ∈ fb_tbl := fb_mem3 (i := 234) rfl rfl
theorem fq_715 : ((.selects fn_R_Md fy_Md_told fy_Md_told) : Cond) ∈ fb_tbl := fb_mem3 (i := 235) rfl rfl
theorem fq_717 : ((.methodLink fn_R_Lw 97 fy_Md_kept) : Cond) ∈ fb_tbl := fb_mem3 (i := 237) rfl rfl
theorem fq_718 : ((.instanceMethod fy_Md_kept) : Cond) ∈ fb_tbl := fb_mem3 (i := 238) rfl rfl
theorem fq_719 : ((.selects fn_R_Md fy_Md_kept fy_Md_kept) : Cond) ∈ fb_tbl := fb_mem3 (i := 239) rfl rfl
theorem fq_721 : ((.methodLink fn_R_Lw 101 fy_Md_left) : Cond) ∈ fb_tbl := fb_mem4 (i := 1) rfl rfl
theorem fq_722 : ((.instanceMethod fy_Md_left) : Cond) ∈ fb_tbl := fb_mem4 (i := 2) rfl rfl
theorem fq_723 : ((.selects fn_R_Md fy_Md_left fy_Md_left) : Cond) ∈ fb_tbl := fb_mem4 (i := 3) rfl rfl
theorem fq_725 : ((.methodLink fn_R_Lw 104 fy_Md_count) : Cond) ∈ fb_tbl := fb_mem4 (i := 5) rfl rfl
theorem fq_726 : ((.instanceMethod fy_Md_count) : Cond) ∈ fb_tbl := fb_mem4 (i := 6) rfl rfl
theorem fq_727 : ((.selects fn_R_Md fy_Md_count fy_Md_count) : Cond) ∈ fb_tbl := fb_mem4 (i := 7) rfl rfl
theorem fq_729 : ((.constantDouble fn_R_Lw 76 4593671619917905920) : Cond) ∈ fb_tbl := fb_mem4 (i := 9) rfl rfl
theorem fq_730 : ((.arrayClass .long) : Cond) ∈ fb_tbl := fb_mem4 (i := 10) rfl rfl
def fn_nw : List Cond := [.methodLinkNest fn_R_Dk 15 fy_Rs_init "FetchDesk",
  .fieldLinkNest fn_R_Dk 37 "FetchDesk$Resource" "status" "I" "FetchDesk",
  .fieldLinkNest fn_R_Rq 85 "FetchDesk$Resource" "status" "I" "FetchDesk",
  .fieldLinkNest fn_R_Dk 41 "FetchDesk$Resource" "body" "I" "FetchDesk",
  .fieldLinkNest fn_R_Rq 88 "FetchDesk$Resource" "body" "I" "FetchDesk",
  .fieldLinkNest fn_R_Dk 44 "FetchDesk$Resource" "target" "I" "FetchDesk",
  .fieldLinkNest fn_R_Rq 78 "FetchDesk$Resource" "target" "I" "FetchDesk",
  .fieldLinkNest fn_R_Dk 50 "FetchDesk$Resource" "givenHeaders" "I" "FetchDesk",
  .fieldLinkNest fn_R_Rq 91 "FetchDesk$Resource" "givenHeaders" "I" "FetchDesk",
  .fieldLinkNest fn_R_Dk 53 "FetchDesk$Resource" "exposedHeaders" "I" "FetchDesk",
  .fieldLinkNest fn_R_Rq 94 "FetchDesk$Resource" "exposedHeaders" "I" "FetchDesk",
  .fieldLinkNest fn_R_Dk 56 "FetchDesk$Resource" "allowedOrigins" "I" "FetchDesk",
  .fieldLinkNest fn_R_Rq 66 "FetchDesk$Resource" "allowedOrigins" "I" "FetchDesk",
  .fieldLinkNest fn_R_Dk 59 "FetchDesk$Resource" "allowsCredentials" "Z" "FetchDesk",
  .fieldLinkNest fn_R_Rq 71 "FetchDesk$Resource" "allowsCredentials" "Z" "FetchDesk",
  .fieldLinkNest fn_R_Dk 65 "FetchDesk$Resource" "okWhenAsked" "Z" "FetchDesk",
  .fieldLinkNest fn_R_Pm 27 "FetchDesk$Resource" "askedMethods" "I" "FetchDesk",
  .fieldLinkNest fn_R_Dk 68 "FetchDesk$Resource" "askedMethods" "I" "FetchDesk",
  .fieldLinkNest fn_R_Pm 35 "FetchDesk$Resource" "askedHeaders" "I" "FetchDesk",
  .fieldLinkNest fn_R_Dk 71 "FetchDesk$Resource" "askedHeaders" "I" "FetchDesk",
  .fieldLinkNest fn_R_Dk 74 "FetchDesk$Resource" "age" "D" "FetchDesk",
  .fieldLinkNest fn_R_Mm 65 "FetchDesk$Resource" "age" "D" "FetchDesk",
  .fieldLinkNest fn_R_Dk 168 "FetchDesk$Resource" "requestedCount" "I" "FetchDesk",
  .fieldLinkNest fn_R_Dk 171 "FetchDesk$Resource" "requestedWithCredentialsCount" "I" "FetchDesk",
  .methodLinkNest fn_R_Dk 18 fy_Mm_init "FetchDesk",
  .methodLinkNest fn_R_Mm 17 fy_Pm_init "FetchDesk",
  .fieldLinkNest fn_R_Mm 22 "FetchDesk$Permit" "origin" "I" "FetchDesk",
  .fieldLinkNest fn_R_Dk 152 "FetchDesk$Permit" "origin" "I" "FetchDesk",
  .fieldLinkNest fn_R_Mm 28 "FetchDesk$Permit" "url" "I" "FetchDesk",
  .fieldLinkNest fn_R_Dk 155 "FetchDesk$Permit" "url" "I" "FetchDesk",
  .fieldLinkNest fn_R_Mm 32 "FetchDesk$Permit" "withCredentials" "Z" "FetchDesk",
  .fieldLinkNest fn_R_Dk 156 "FetchDesk$Permit" "withCredentials" "Z" "FetchDesk",
  .fieldLinkNest fn_R_Mm 47 "FetchDesk$Permit" "methods" "I" "FetchDesk",
  .fieldLinkNest fn_R_Dk 159 "FetchDesk$Permit" "methods" "I" "FetchDesk",
  .fieldLinkNest fn_R_Mm 50 "FetchDesk$Permit" "headers" "I" "FetchDesk",
  .fieldLinkNest fn_R_Dk 162 "FetchDesk$Permit" "headers" "I" "FetchDesk",
  .fieldLinkNest fn_R_Mm 43 "FetchDesk$Permit" "end" "D" "FetchDesk",
  .fieldLinkNest fn_R_Dk 165 "FetchDesk$Permit" "end" "D" "FetchDesk",
  .fieldLinkNest fn_R_Dk 148 "FetchDesk$Memory" "permits" "[LFetchDesk$Permit;" "FetchDesk",
  .fieldLinkNest fn_R_Dk 181 "FetchDesk$Memory" "size" "I" "FetchDesk",
  .methodLinkNest fn_R_Dk 25 fy_Rq_init "FetchDesk",
  .fieldLinkNest fn_R_Pm 7 "FetchDesk$Request" "origin" "I" "FetchDesk",
  .fieldLinkNest fn_R_Mm 25 "FetchDesk$Request" "origin" "I" "FetchDesk",
  .fieldLinkNest fn_R_Dk 124 "FetchDesk$Request" "origin" "I" "FetchDesk",
  .fieldLinkNest fn_R_Pm 16 "FetchDesk$Request" "url" "I" "FetchDesk",
  .fieldLinkNest fn_R_Mm 31 "FetchDesk$Request" "url" "I" "FetchDesk",
  .fieldLinkNest fn_R_Dk 121 "FetchDesk$Request" "url" "I" "FetchDesk",
  .fieldLinkNest fn_R_Dk 127 "FetchDesk$Request" "method" "I" "FetchDesk",
  .fieldLinkNest fn_R_Dk 222 "FetchDesk$Request" "headers" "I" "FetchDesk",
  .fieldLinkNest fn_R_Dk 219 "FetchDesk$Request" "mode" "I" "FetchDesk",
  .fieldLinkNest fn_R_Dk 118 "FetchDesk$Request" "rounds" "I" "FetchDesk",
  .fieldLinkNest fn_R_Dk 216 "FetchDesk$Request" "far" "Z" "FetchDesk",
  .fieldLinkNest fn_R_Pm 20 "FetchDesk$Request" "sendsCredentials" "Z" "FetchDesk",
  .fieldLinkNest fn_R_Mm 36 "FetchDesk$Request" "sendsCredentials" "Z" "FetchDesk",
  .fieldLinkNest fn_R_Dk 130 "FetchDesk$Request" "sendsCredentials" "Z" "FetchDesk",
  .fieldLinkNest fn_R_Dk 106 "FetchDesk$Request" "error" "I" "FetchDesk",
  .fieldLinkNest fn_R_Dk 133 "FetchDesk$Request" "shownStatus" "I" "FetchDesk",
  .fieldLinkNest fn_R_Dk 136 "FetchDesk$Request" "shownBody" "I" "FetchDesk",
  .fieldLinkNest fn_R_Dk 139 "FetchDesk$Request" "shownHeaders" "I" "FetchDesk",
  .fieldLinkNest fn_R_Dk 115 "FetchDesk$Request" "sort" "I" "FetchDesk",
  .methodLinkNest fn_R_Dk 96 fy_Rq_begin "FetchDesk",
  .methodLinkNest fn_R_Dk 187 fy_Rq_enterRound "FetchDesk",
  .methodLinkNest fn_R_Rq 62 fy_Dk_originOf "FetchDesk",
  .methodLinkNest fn_R_Dk 198 fy_Rq_mustPass "FetchDesk",
  .methodLinkNest fn_R_Dk 223 fy_Mm_covers "FetchDesk",
  .methodLinkNest fn_R_Mm 53 fy_Dk_lets "FetchDesk",
  .methodLinkNest fn_R_Dk 230 fy_Mm_forget "FetchDesk",
  .methodLinkNest fn_R_Dk 202 fy_Rq_passes "FetchDesk",
  .methodLinkNest fn_R_Dk 238 fy_Mm_remember "FetchDesk",
  .methodLinkNest fn_R_Mm 72 fy_Pm_write "FetchDesk",
  .methodLinkNest fn_R_Dk 206 fy_Rs_isRedirect "FetchDesk",
  .methodLinkNest fn_R_Dk 209 fy_Rq_meetRedirect "FetchDesk",
  .methodLinkNest fn_R_Rq 81 fy_Rs_turnsIntoGet "FetchDesk",
  .methodLinkNest fn_R_Dk 213 fy_Rq_takeResponse "FetchDesk",
  .methodLinkNest fn_R_Dk 142 fy_Mm_holds "FetchDesk"]
theorem fq_24 : ((.methodLinkNest fn_R_Dk 15 fy_Rs_init "FetchDesk") : Cond) ∈ fn_nw := List.mem_of_getElem? (i := 0) rfl
theorem fq_29 : ((.fieldLinkNest fn_R_Dk 37 "FetchDesk$Resource" "status" "I" "FetchDesk") : Cond) ∈ fn_nw := List.mem_of_getElem? (i := 1) rfl
theorem fq_30 : ((.fieldLinkNest fn_R_Rq 85 "FetchDesk$Resource" "status" "I" "FetchDesk") : Cond) ∈ fn_nw := List.mem_of_getElem? (i := 2) rfl
theorem fq_31 : ((.fieldLinkNest fn_R_Dk 41 "FetchDesk$Resource" "body" "I" "FetchDesk") : Cond) ∈ fn_nw := List.mem_of_getElem? (i := 3) rfl
theorem fq_32 : ((.fieldLinkNest fn_R_Rq 88 "FetchDesk$Resource" "body" "I" "FetchDesk") : Cond) ∈ fn_nw := List.mem_of_getElem? (i := 4) rfl
theorem fq_34 : ((.fieldLinkNest fn_R_Dk 44 "FetchDesk$Resource" "target" "I" "FetchDesk") : Cond) ∈ fn_nw := List.mem_of_getElem? (i := 5) rfl
theorem fq_35 : ((.fieldLinkNest fn_R_Rq 78 "FetchDesk$Resource" "target" "I" "FetchDesk") : Cond) ∈ fn_nw := List.mem_of_getElem? (i := 6) rfl
theorem fq_36 : ((.fieldLinkNest fn_R_Dk 50 "FetchDesk$Resource" "givenHeaders" "I" "FetchDesk") : Cond) ∈ fn_nw := List.mem_of_getElem? (i := 7) rfl
theorem fq_37 : ((.fieldLinkNest fn_R_Rq 91 "FetchDesk$Resource" "givenHeaders" "I" "FetchDesk") : Cond) ∈ fn_nw := List.mem_of_getElem? (i := 8) rfl
theorem fq_38 : ((.fieldLinkNest fn_R_Dk 53 "FetchDesk$Resource" "exposedHeaders" "I" "FetchDesk") : Cond) ∈ fn_nw := List.mem_of_getElem? (i := 9) rfl
theorem fq_39 : ((.fieldLinkNest fn_R_Rq 94 "FetchDesk$Resource" "exposedHeaders" "I" "FetchDesk") : Cond) ∈ fn_nw := List.mem_of_getElem? (i := 10) rfl
theorem fq_40 : ((.fieldLinkNest fn_R_Dk 56 "FetchDesk$Resource" "allowedOrigins" "I" "FetchDesk") : Cond) ∈ fn_nw := List.mem_of_getElem? (i := 11) rfl
theorem fq_41 : ((.fieldLinkNest fn_R_Rq 66 "FetchDesk$Resource" "allowedOrigins" "I" "FetchDesk") : Cond) ∈ fn_nw := List.mem_of_getElem? (i := 12) rfl
theorem fq_42 : ((.fieldLinkNest fn_R_Dk 59 "FetchDesk$Resource" "allowsCredentials" "Z" "FetchDesk") : Cond) ∈ fn_nw := List.mem_of_getElem? (i := 13) rfl
theorem fq_43 : ((.fieldLinkNest fn_R_Rq 71 "FetchDesk$Resource" "allowsCredentials" "Z" "FetchDesk") : Cond) ∈ fn_nw := List.mem_of_getElem? (i := 14) rfl
theorem fq_44 : ((.fieldLinkNest fn_R_Dk 65 "FetchDesk$Resource" "okWhenAsked" "Z" "FetchDesk") : Cond) ∈ fn_nw := List.mem_of_getElem? (i := 15) rfl
theorem fq_45 : ((.fieldLinkNest fn_R_Pm 27 "FetchDesk$Resource" "askedMethods" "I" "FetchDesk") : Cond) ∈ fn_nw := List.mem_of_getElem? (i := 16) rfl
theorem fq_46 : ((.fieldLinkNest fn_R_Dk 68 "FetchDesk$Resource" "askedMethods" "I" "FetchDesk") : Cond) ∈ fn_nw := List.mem_of_getElem? (i := 17) rfl
theorem fq_47 : ((.fieldLinkNest fn_R_Pm 35 "FetchDesk$Resource" "askedHeaders" "I" "FetchDesk") : Cond) ∈ fn_nw := List.mem_of_getElem? (i := 18) rfl
theorem fq_48 : ((.fieldLinkNest fn_R_Dk 71 "FetchDesk$Resource" "askedHeaders" "I" "FetchDesk") : Cond) ∈ fn_nw := List.mem_of_getElem? (i := 19) rfl
theorem fq_49 : ((.fieldLinkNest fn_R_Dk 74 "FetchDesk$Resource" "age" "D" "FetchDesk") : Cond) ∈ fn_nw := List.mem_of_getElem? (i := 20) rfl
theorem fq_50 : ((.fieldLinkNest fn_R_Mm 65 "FetchDesk$Resource" "age" "D" "FetchDesk") : Cond) ∈ fn_nw := List.mem_of_getElem? (i := 21) rfl
theorem fq_51 : ((.fieldLinkNest fn_R_Dk 168 "FetchDesk$Resource" "requestedCount" "I" "FetchDesk") : Cond) ∈ fn_nw := List.mem_of_getElem? (i := 22) rfl
theorem fq_52 : ((.fieldLinkNest fn_R_Dk 171 "FetchDesk$Resource" "requestedWithCredentialsCount" "I" "FetchDesk") : Cond) ∈ fn_nw := List.mem_of_getElem? (i := 23) rfl
theorem fq_82 : ((.methodLinkNest fn_R_Dk 18 fy_Mm_init "FetchDesk") : Cond) ∈ fn_nw := List.mem_of_getElem? (i := 24) rfl
theorem fq_89 : ((.methodLinkNest fn_R_Mm 17 fy_Pm_init "FetchDesk") : Cond) ∈ fn_nw := List.mem_of_getElem? (i := 25) rfl
theorem fq_94 : ((.fieldLinkNest fn_R_Mm 22 "FetchDesk$Permit" "origin" "I" "FetchDesk") : Cond) ∈ fn_nw := List.mem_of_getElem? (i := 26) rfl
theorem fq_95 : ((.fieldLinkNest fn_R_Dk 152 "FetchDesk$Permit" "origin" "I" "FetchDesk") : Cond) ∈ fn_nw := List.mem_of_getElem? (i := 27) rfl
theorem fq_97 : ((.fieldLinkNest fn_R_Mm 28 "FetchDesk$Permit" "url" "I" "FetchDesk") : Cond) ∈ fn_nw := List.mem_of_getElem? (i := 28) rfl
theorem fq_98 : ((.fieldLinkNest fn_R_Dk 155 "FetchDesk$Permit" "url" "I" "FetchDesk") : Cond) ∈ fn_nw := List.mem_of_getElem? (i := 29) rfl
theorem fq_100 : ((.fieldLinkNest fn_R_Mm 32 "FetchDesk$Permit" "withCredentials" "Z" "FetchDesk") : Cond) ∈ fn_nw := List.mem_of_getElem? (i := 30) rfl
theorem fq_101 : ((.fieldLinkNest fn_R_Dk 156 "FetchDesk$Permit" "withCredentials" "Z" "FetchDesk") : Cond) ∈ fn_nw := List.mem_of_getElem? (i := 31) rfl
theorem fq_103 : ((.fieldLinkNest fn_R_Mm 47 "FetchDesk$Permit" "methods" "I" "FetchDesk") : Cond) ∈ fn_nw := List.mem_of_getElem? (i := 32) rfl
theorem fq_104 : ((.fieldLinkNest fn_R_Dk 159 "FetchDesk$Permit" "methods" "I" "FetchDesk") : Cond) ∈ fn_nw := List.mem_of_getElem? (i := 33) rfl
theorem fq_106 : ((.fieldLinkNest fn_R_Mm 50 "FetchDesk$Permit" "headers" "I" "FetchDesk") : Cond) ∈ fn_nw := List.mem_of_getElem? (i := 34) rfl
theorem fq_107 : ((.fieldLinkNest fn_R_Dk 162 "FetchDesk$Permit" "headers" "I" "FetchDesk") : Cond) ∈ fn_nw := List.mem_of_getElem? (i := 35) rfl
theorem fq_109 : ((.fieldLinkNest fn_R_Mm 43 "FetchDesk$Permit" "end" "D" "FetchDesk") : Cond) ∈ fn_nw := List.mem_of_getElem? (i := 36) rfl
theorem fq_110 : ((.fieldLinkNest fn_R_Dk 165 "FetchDesk$Permit" "end" "D" "FetchDesk") : Cond) ∈ fn_nw := List.mem_of_getElem? (i := 37) rfl
theorem fq_125 : ((.fieldLinkNest fn_R_Dk 148 "FetchDesk$Memory" "permits" "[LFetchDesk$Permit;" "FetchDesk") : Cond) ∈ fn_nw := List.mem_of_getElem? (i := 38) rfl
theorem fq_127 : ((.fieldLinkNest fn_R_Dk 181 "FetchDesk$Memory" "size" "I" "FetchDesk") : Cond) ∈ fn_nw := List.mem_of_getElem? (i := 39) rfl
theorem fq_135 : ((.methodLinkNest fn_R_Dk 25 fy_Rq_init "FetchDesk") : Cond) ∈ fn_nw := List.mem_of_getElem? (i := 40) rfl
theorem fq_140 : ((.fieldLinkNest fn_R_Pm 7 "FetchDesk$Request" "origin" "I" "FetchDesk") : Cond) ∈ fn_nw := List.mem_of_getElem? (i := 41) rfl
theorem fq_141 : ((.fieldLinkNest fn_R_Mm 25 "FetchDesk$Request" "origin" "I" "FetchDesk") : Cond) ∈ fn_nw := List.mem_of_getElem? (i := 42) rfl
theorem fq_142 : ((.fieldLinkNest fn_R_Dk 124 "FetchDesk$Request" "origin" "I" "FetchDesk") : Cond) ∈ fn_nw := List.mem_of_getElem? (i := 43) rfl
theorem fq_144 : ((.fieldLinkNest fn_R_Pm 16 "FetchDesk$Request" "url" "I" "FetchDesk") : Cond) ∈ fn_nw := List.mem_of_getElem? (i := 44) rfl
theorem fq_145 : ((.fieldLinkNest fn_R_Mm 31 "FetchDesk$Request" "url" "I" "FetchDesk") : Cond) ∈ fn_nw := List.mem_of_getElem? (i := 45) rfl
theorem fq_146 : ((.fieldLinkNest fn_R_Dk 121 "FetchDesk$Request" "url" "I" "FetchDesk") : Cond) ∈ fn_nw := List.mem_of_getElem? (i := 46) rfl
theorem fq_148 : ((.fieldLinkNest fn_R_Dk 127 "FetchDesk$Request" "method" "I" "FetchDesk") : Cond) ∈ fn_nw := List.mem_of_getElem? (i := 47) rfl
theorem fq_150 : ((.fieldLinkNest fn_R_Dk 222 "FetchDesk$Request" "headers" "I" "FetchDesk") : Cond) ∈ fn_nw := List.mem_of_getElem? (i := 48) rfl
theorem fq_152 : ((.fieldLinkNest fn_R_Dk 219 "FetchDesk$Request" "mode" "I" "FetchDesk") : Cond) ∈ fn_nw := List.mem_of_getElem? (i := 49) rfl
theorem fq_156 : ((.fieldLinkNest fn_R_Dk 118 "FetchDesk$Request" "rounds" "I" "FetchDesk") : Cond) ∈ fn_nw := List.mem_of_getElem? (i := 50) rfl
theorem fq_158 : ((.fieldLinkNest fn_R_Dk 216 "FetchDesk$Request" "far" "Z" "FetchDesk") : Cond) ∈ fn_nw := List.mem_of_getElem? (i := 51) rfl
theorem fq_159 : ((.fieldLinkNest fn_R_Pm 20 "FetchDesk$Request" "sendsCredentials" "Z" "FetchDesk") : Cond) ∈ fn_nw := List.mem_of_getElem? (i := 52) rfl
theorem fq_161 : ((.fieldLinkNest fn_R_Mm 36 "FetchDesk$Request" "sendsCredentials" "Z" "FetchDesk") : Cond) ∈ fn_nw := List.mem_of_getElem? (i := 53) rfl
theorem fq_162 : ((.fieldLinkNest fn_R_Dk 130 "FetchDesk$Request" "sendsCredentials" "Z" "FetchDesk") : Cond) ∈ fn_nw := List.mem_of_getElem? (i := 54) rfl
theorem fq_164 : ((.fieldLinkNest fn_R_Dk 106 "FetchDesk$Request" "error" "I" "FetchDesk") : Cond) ∈ fn_nw := List.mem_of_getElem? (i := 55) rfl
theorem fq_166 : ((.fieldLinkNest fn_R_Dk 133 "FetchDesk$Request" "shownStatus" "I" "FetchDesk") : Cond) ∈ fn_nw := List.mem_of_getElem? (i := 56) rfl
theorem fq_168 : ((.fieldLinkNest fn_R_Dk 136 "FetchDesk$Request" "shownBody" "I" "FetchDesk") : Cond) ∈ fn_nw := List.mem_of_getElem? (i := 57) rfl
theorem fq_170 : ((.fieldLinkNest fn_R_Dk 139 "FetchDesk$Request" "shownHeaders" "I" "FetchDesk") : Cond) ∈ fn_nw := List.mem_of_getElem? (i := 58) rfl
theorem fq_172 : ((.fieldLinkNest fn_R_Dk 115 "FetchDesk$Request" "sort" "I" "FetchDesk") : Cond) ∈ fn_nw := List.mem_of_getElem? (i := 59) rfl
theorem fq_362 : ((.methodLinkNest fn_R_Dk 96 fy_Rq_begin "FetchDesk") : Cond) ∈ fn_nw := List.mem_of_getElem? (i := 60) rfl
theorem fq_378 : ((.methodLinkNest fn_R_Dk 187 fy_Rq_enterRound "FetchDesk") : Cond) ∈ fn_nw := List.mem_of_getElem? (i := 61) rfl
theorem fq_382 : ((.methodLinkNest fn_R_Rq 62 fy_Dk_originOf "FetchDesk") : Cond) ∈ fn_nw := List.mem_of_getElem? (i := 62) rfl
theorem fq_389 : ((.methodLinkNest fn_R_Dk 198 fy_Rq_mustPass "FetchDesk") : Cond) ∈ fn_nw := List.mem_of_getElem? (i := 63) rfl
theorem fq_393 : ((.methodLinkNest fn_R_Dk 223 fy_Mm_covers "FetchDesk") : Cond) ∈ fn_nw := List.mem_of_getElem? (i := 64) rfl
theorem fq_401 : ((.methodLinkNest fn_R_Mm 53 fy_Dk_lets "FetchDesk") : Cond) ∈ fn_nw := List.mem_of_getElem? (i := 65) rfl
theorem fq_408 : ((.methodLinkNest fn_R_Dk 230 fy_Mm_forget "FetchDesk") : Cond) ∈ fn_nw := List.mem_of_getElem? (i := 66) rfl
theorem fq_416 : ((.methodLinkNest fn_R_Dk 202 fy_Rq_passes "FetchDesk") : Cond) ∈ fn_nw := List.mem_of_getElem? (i := 67) rfl
theorem fq_421 : ((.methodLinkNest fn_R_Dk 238 fy_Mm_remember "FetchDesk") : Cond) ∈ fn_nw := List.mem_of_getElem? (i := 68) rfl
theorem fq_430 : ((.methodLinkNest fn_R_Mm 72 fy_Pm_write "FetchDesk") : Cond) ∈ fn_nw := List.mem_of_getElem? (i := 69) rfl
theorem fq_438 : ((.methodLinkNest fn_R_Dk 206 fy_Rs_isRedirect "FetchDesk") : Cond) ∈ fn_nw := List.mem_of_getElem? (i := 70) rfl
theorem fq_442 : ((.methodLinkNest fn_R_Dk 209 fy_Rq_meetRedirect "FetchDesk") : Cond) ∈ fn_nw := List.mem_of_getElem? (i := 71) rfl
theorem fq_450 : ((.methodLinkNest fn_R_Rq 81 fy_Rs_turnsIntoGet "FetchDesk") : Cond) ∈ fn_nw := List.mem_of_getElem? (i := 72) rfl
theorem fq_454 : ((.methodLinkNest fn_R_Dk 213 fy_Rq_takeResponse "FetchDesk") : Cond) ∈ fn_nw := List.mem_of_getElem? (i := 73) rfl
theorem fq_488 : ((.methodLinkNest fn_R_Dk 142 fy_Mm_holds "FetchDesk") : Cond) ∈ fn_nw := List.mem_of_getElem? (i := 74) rfl
theorem fp_Rq_begin : (Cond.selects fn_R_Rq fy_Rq_begin fy_Rq_begin) ∈ fb_tbl := fb_memP (i := 1) rfl rfl
theorem fp_Rq_show : (Cond.selects fn_R_Rq fy_Rq_show fy_Rq_show) ∈ fb_tbl := fb_memP (i := 2) rfl rfl
theorem fp_Dk_goThroughRounds : (Cond.selects fn_R_Dk fy_Dk_goThroughRounds fy_Dk_goThroughRounds) ∈ fb_tbl := fb_memP (i := 3) rfl rfl
theorem fp_Dk_goOneRound : (Cond.selects fn_R_Dk fy_Dk_goOneRound fy_Dk_goOneRound) ∈ fb_tbl := fb_memP (i := 4) rfl rfl
theorem fp_Rq_enterRound : (Cond.selects fn_R_Rq fy_Rq_enterRound fy_Rq_enterRound) ∈ fb_tbl := fb_memP (i := 5) rfl rfl
theorem fp_Dk_errorBeforeRequesting : (Cond.selects fn_R_Dk fy_Dk_errorBeforeRequesting fy_Dk_errorBeforeRequesting) ∈ fb_tbl := fb_memP (i := 6) rfl rfl
theorem fp_Rq_mustPass : (Cond.selects fn_R_Rq fy_Rq_mustPass fy_Rq_mustPass) ∈ fb_tbl := fb_memP (i := 7) rfl rfl
theorem fp_Mm_covers : (Cond.selects fn_R_Mm fy_Mm_covers fy_Mm_covers) ∈ fb_tbl := fb_memP (i := 8) rfl rfl
theorem fp_Mm_find : (Cond.selects fn_R_Mm fy_Mm_find fy_Mm_find) ∈ fb_tbl := fb_memP (i := 9) rfl rfl
theorem fp_Dk_ask : (Cond.selects fn_R_Dk fy_Dk_ask fy_Dk_ask) ∈ fb_tbl := fb_memP (i := 10) rfl rfl
theorem fp_Mm_forget : (Cond.selects fn_R_Mm fy_Mm_forget fy_Mm_forget) ∈ fb_tbl := fb_memP (i := 11) rfl rfl
theorem fp_Mm_drop : (Cond.selects fn_R_Mm fy_Mm_drop fy_Mm_drop) ∈ fb_tbl := fb_memP (i := 12) rfl rfl
theorem fp_Rq_passes : (Cond.selects fn_R_Rq fy_Rq_passes fy_Rq_passes) ∈ fb_tbl := fb_memP (i := 13) rfl rfl
theorem fp_Mm_remember : (Cond.selects fn_R_Mm fy_Mm_remember fy_Mm_remember) ∈ fb_tbl := fb_memP (i := 14) rfl rfl
theorem fp_Mm_firstToEnd : (Cond.selects fn_R_Mm fy_Mm_firstToEnd fy_Mm_firstToEnd) ∈ fb_tbl := fb_memP (i := 15) rfl rfl
theorem fp_Pm_write : (Cond.selects fn_R_Pm fy_Pm_write fy_Pm_write) ∈ fb_tbl := fb_memP (i := 16) rfl rfl
theorem fp_Dk_countRequested : (Cond.selects fn_R_Dk fy_Dk_countRequested fy_Dk_countRequested) ∈ fb_tbl := fb_memP (i := 17) rfl rfl
theorem fp_Rs_isRedirect : (Cond.selects fn_R_Rs fy_Rs_isRedirect fy_Rs_isRedirect) ∈ fb_tbl := fb_memP (i := 18) rfl rfl
theorem fp_Rq_meetRedirect : (Cond.selects fn_R_Rq fy_Rq_meetRedirect fy_Rq_meetRedirect) ∈ fb_tbl := fb_memP (i := 19) rfl rfl
theorem fp_Rq_follow : (Cond.selects fn_R_Rq fy_Rq_follow fy_Rq_follow) ∈ fb_tbl := fb_memP (i := 20) rfl rfl
theorem fp_Rs_turnsIntoGet : (Cond.selects fn_R_Rs fy_Rs_turnsIntoGet fy_Rs_turnsIntoGet) ∈ fb_tbl := fb_memP (i := 21) rfl rfl
theorem fp_Rq_takeResponse : (Cond.selects fn_R_Rq fy_Rq_takeResponse fy_Rq_takeResponse) ∈ fb_tbl := fb_memP (i := 22) rfl rfl
theorem fp_Mm_holds : (Cond.selects fn_R_Mm fy_Mm_holds fy_Mm_holds) ∈ fb_tbl := fb_memP (i := 23) rfl rfl
theorem fp_Md_fail : (Cond.selects fn_R_Md fy_Md_fail fy_Md_fail) ∈ fb_tbl := fb_memP (i := 24) rfl rfl
theorem fp_Md_go : (Cond.selects fn_R_Md fy_Md_go fy_Md_go) ∈ fb_tbl := fb_memP (i := 25) rfl rfl
theorem fp_Md_isRemembered : (Cond.selects fn_R_Md fy_Md_isRemembered fy_Md_isRemembered) ∈ fb_tbl := fb_memP (i := 26) rfl rfl
theorem fp_Md_isSame : (Cond.selects fn_R_Md fy_Md_isSame fy_Md_isSame) ∈ fb_tbl := fb_memP (i := 27) rfl rfl
theorem fp_Md_ask : (Cond.selects fn_R_Md fy_Md_ask fy_Md_ask) ∈ fb_tbl := fb_memP (i := 28) rfl rfl
theorem fp_Md_forget : (Cond.selects fn_R_Md fy_Md_forget fy_Md_forget) ∈ fb_tbl := fb_memP (i := 29) rfl rfl
theorem fp_Md_passes : (Cond.selects fn_R_Md fy_Md_passes fy_Md_passes) ∈ fb_tbl := fb_memP (i := 30) rfl rfl
theorem fp_Md_keep : (Cond.selects fn_R_Md fy_Md_keep fy_Md_keep) ∈ fb_tbl := fb_memP (i := 31) rfl rfl
theorem fp_Md_answer : (Cond.selects fn_R_Md fy_Md_answer fy_Md_answer) ∈ fb_tbl := fb_memP (i := 32) rfl rfl
theorem fp_Md_move : (Cond.selects fn_R_Md fy_Md_move fy_Md_move) ∈ fb_tbl := fb_memP (i := 33) rfl rfl
end
section
/-! rows of our own over the kit: booleans, worlds that a callee gets whole, contracts over one world -/
def fd_bi (b : Bool) : Int32 := cond b 1 0
theorem fd_fit (b : Bool) : fits .boolean (.int (fd_bi b)) = true := by cases b <;> rfl
theorem fd_nar (b : Bool) : narrow .boolean (.int (fd_bi b)) = .int (fd_bi b) := by cases b <;> rfl
theorem fd_bi0 {b : Bool} : fd_bi b = 0 ↔ ¬ b = true := by cases b <;> decide
theorem fd_lt {x : Int32} {n : Nat} (h : vp_in x n) : x.toNatClampNeg < n := by
  unfold vp_in at h
  omega
theorem fd_same {D : va_G} {cl : List vw_C} {ws : va_W} {H H1 : Heap} (hP : va_P D cl ws H) (h : ∀ q : Nat, q < H.size → H1[q]? = H[q]?) : va_P D cl ws H1 := fun k q hk => (hP k q hk).kept (h q.1 (hP k q hk).lt)
theorem fd_free {A : Nat → Prop} {ws : va_W} {H0 H : Heap} {locs : List Loc} (hD : va_D A ws) (hS : va_S A H0 H locs) (hA : ∀ q : Nat, H0.size ≤ q → A q) : ∀ q, va_A ws H.size q → A q := by
  intro q h
  rcases h with ⟨k, e, h⟩ | h
  · exact hD.2 k (q, e) h
  · exact hA q (Nat.le_trans hS.1 h)
/-- a run of cells by their numbers: one of them is set -/
theorem fd_mapset {α : Type} {n i : Nat} {f g : Nat → α} {v : α} (hi : i < n) (hv : g i = v) (ho : ∀ j, j ≠ i → g j = f j) : ((List.range n).map f).set i v = (List.range n).map g := by
  apply List.ext_getElem?
  intro j
  rw [List.getElem?_set, List.getElem?_map, List.getElem?_map]
  by_cases hj : i = j
  · subst hj
    simp [hi, hv]
  · rw [if_neg hj]
    by_cases hl : j < n
    · simp [hl, ho j (Ne.symm hj)]
    · simp [hl]
section FD
variable {p : Program} {l : Launch} {e : Env} {R : Room} {s : State} {m : MethodId} {args : Array Value} {below : List Frame} {meth : Method} {c : Code} {H : Heap} {locs : List Loc} {cells slots : Nat} {Q : State → Prop} {cc : ByteArray} {pc : Nat} {ls : Array Slot} {rest : List Value}
theorem fd_ifeq (hexec : p.tables.exec = Jvm.exec) (hb : c.code = cc) {b : Bool} {off : Int} {tgt : Nat} (hdg : decode cc pc = .ok (.ifCond .eq off, 3)) (ht : (pc : Int) + off = (tgt : Int))
    (kt : ¬ b = true → W p l e R s m args below meth c H locs cells slots Q (F0 m tgt ls rest)) (kf : b = true → W p l e R s m args below meth c H locs cells slots Q (F0 m (pc + 3) ls rest)) : W p l e R s m args below meth c H locs cells slots Q (F0 m pc ls (.int (fd_bi b) :: rest)) :=
  lv_if_eq hexec hb hdg ht (fun h => kt (fd_bi0.mp h)) (fun h => kf (Decidable.byContradiction fun h2 => h (fd_bi0.mpr h2)))
theorem fd_ifne (hexec : p.tables.exec = Jvm.exec) (hb : c.code = cc) {b : Bool} {off : Int} {tgt : Nat} (hdg : decode cc pc = .ok (.ifCond .ne off, 3)) (ht : (pc : Int) + off = (tgt : Int))
    (kt : b = true → W p l e R s m args below meth c H locs cells slots Q (F0 m tgt ls rest)) (kf : ¬ b = true → W p l e R s m args below meth c H locs cells slots Q (F0 m (pc + 3) ls rest)) : W p l e R s m args below meth c H locs cells slots Q (F0 m pc ls (.int (fd_bi b) :: rest)) :=
  lv_if_ne hexec hb hdg ht (fun h => kt (Decidable.byContradiction fun h2 => h (fd_bi0.mpr h2))) (fun h => kf (fd_bi0.mp h))
end FD
/-! what a state of the desk is: its numbers, as one value; the cells that hold it -/
abbrev FDS : Type := (Nat → Int32) × UInt64 × Int32 × (Nat → Nat) × (Nat → Int32) × (Nat → Bool) × (Nat → Nat → Int32) × (Nat → Nat → Bool) × (Nat → UInt64) × (Nat → Nat → Int32) × (Nat → Bool) × (Nat → UInt64)
def fd_dI (σ : FDS) : Nat → Int32 := σ.1
def fd_dT (σ : FDS) : UInt64 := σ.2.1
def fd_mS (σ : FDS) : Int32 := σ.2.2.1
def fd_pF (σ : FDS) : Nat → Nat := σ.2.2.2.1
def fd_qI (σ : FDS) : Nat → Int32 := σ.2.2.2.2.1
def fd_qB (σ : FDS) : Nat → Bool := σ.2.2.2.2.2.1
def fd_rI (σ : FDS) : Nat → Nat → Int32 := σ.2.2.2.2.2.2.1
def fd_rB (σ : FDS) : Nat → Nat → Bool := σ.2.2.2.2.2.2.2.1
def fd_rD (σ : FDS) : Nat → UInt64 := σ.2.2.2.2.2.2.2.2.1
def fd_pI (σ : FDS) : Nat → Nat → Int32 := σ.2.2.2.2.2.2.2.2.2.1
def fd_pB (σ : FDS) : Nat → Bool := σ.2.2.2.2.2.2.2.2.2.2.1
def fd_pD (σ : FDS) : Nat → UInt64 := σ.2.2.2.2.2.2.2.2.2.2.2
def fd_sdI (σ : FDS) (k : Nat) (v : Int32) : FDS := (va_up σ.1 k v, σ.2)
def fd_sdT (σ : FDS) (v : UInt64) : FDS := (σ.1, v, σ.2.2)
def fd_smS (σ : FDS) (v : Int32) : FDS := (σ.1, σ.2.1, v, σ.2.2.2)
def fd_spF (σ : FDS) (k : Nat) (v : Nat) : FDS := (σ.1, σ.2.1, σ.2.2.1, va_up (σ.2.2.2.1) k v, σ.2.2.2.2)
def fd_sqI (σ : FDS) (k : Nat) (v : Int32) : FDS := (σ.1, σ.2.1, σ.2.2.1, σ.2.2.2.1, va_up (σ.2.2.2.2.1) k v, σ.2.2.2.2.2)
def fd_sqB (σ : FDS) (k : Nat) (v : Bool) : FDS := (σ.1, σ.2.1, σ.2.2.1, σ.2.2.2.1, σ.2.2.2.2.1, va_up (σ.2.2.2.2.2.1) k v, σ.2.2.2.2.2.2)
def fd_srI (σ : FDS) (u k : Nat) (v : Int32) : FDS := (σ.1, σ.2.1, σ.2.2.1, σ.2.2.2.1, σ.2.2.2.2.1, σ.2.2.2.2.2.1, va_up (σ.2.2.2.2.2.2.1) u (va_up (σ.2.2.2.2.2.2.1 u) k v), σ.2.2.2.2.2.2.2)
def fd_srB (σ : FDS) (u k : Nat) (v : Bool) : FDS := (σ.1, σ.2.1, σ.2.2.1, σ.2.2.2.1, σ.2.2.2.2.1, σ.2.2.2.2.2.1, σ.2.2.2.2.2.2.1, va_up (σ.2.2.2.2.2.2.2.1) u (va_up (σ.2.2.2.2.2.2.2.1 u) k v), σ.2.2.2.2.2.2.2.2)
def fd_srD (σ : FDS) (u : Nat) (v : UInt64) : FDS := (σ.1, σ.2.1, σ.2.2.1, σ.2.2.2.1, σ.2.2.2.2.1, σ.2.2.2.2.2.1, σ.2.2.2.2.2.2.1, σ.2.2.2.2.2.2.2.1, va_up (σ.2.2.2.2.2.2.2.2.1) u v, σ.2.2.2.2.2.2.2.2.2)
def fd_spI (σ : FDS) (u k : Nat) (v : Int32) : FDS := (σ.1, σ.2.1, σ.2.2.1, σ.2.2.2.1, σ.2.2.2.2.1, σ.2.2.2.2.2.1, σ.2.2.2.2.2.2.1, σ.2.2.2.2.2.2.2.1, σ.2.2.2.2.2.2.2.2.1, va_up (σ.2.2.2.2.2.2.2.2.2.1) u (va_up (σ.2.2.2.2.2.2.2.2.2.1 u) k v), σ.2.2.2.2.2.2.2.2.2.2)
def fd_spB (σ : FDS) (u : Nat) (v : Bool) : FDS := (σ.1, σ.2.1, σ.2.2.1, σ.2.2.2.1, σ.2.2.2.2.1, σ.2.2.2.2.2.1, σ.2.2.2.2.2.2.1, σ.2.2.2.2.2.2.2.1, σ.2.2.2.2.2.2.2.2.1, σ.2.2.2.2.2.2.2.2.2.1, va_up (σ.2.2.2.2.2.2.2.2.2.2.1) u v, σ.2.2.2.2.2.2.2.2.2.2.2)
def fd_spD (σ : FDS) (u : Nat) (v : UInt64) : FDS := (σ.1, σ.2.1, σ.2.2.1, σ.2.2.2.1, σ.2.2.2.2.1, σ.2.2.2.2.2.1, σ.2.2.2.2.2.2.1, σ.2.2.2.2.2.2.2.1, σ.2.2.2.2.2.2.2.2.1, σ.2.2.2.2.2.2.2.2.2.1, σ.2.2.2.2.2.2.2.2.2.2.1, va_up (σ.2.2.2.2.2.2.2.2.2.2.2) u v)
def fd_fDk (ad : Nat → Nat) (σ : FDS) : List Value := [.ref (ad 57), .ref (ad 1), .ref (ad 2), .double (fd_dT σ), .int (fd_dI σ 4), .int (fd_dI σ 5), .int (fd_dI σ 6), .int (fd_dI σ 7), .int (fd_dI σ 8)]
def fd_fMm (ad : Nat → Nat) (σ : FDS) : List Value := [.ref (ad 58), .int (fd_mS σ)]
def fd_fRq (σ : FDS) : List Value := [.int (fd_qI σ 0), .int (fd_qI σ 1), .int (fd_qI σ 2), .int (fd_qI σ 3), .int (fd_qI σ 4), .int (fd_qI σ 5), .int (fd_qI σ 6), .int (fd_qI σ 7), .int (fd_bi (fd_qB σ 8)), .int (fd_bi (fd_qB σ 9)), .int (fd_qI σ 10), .int (fd_qI σ 11), .int (fd_qI σ 12), .int (fd_qI σ 13), .int (fd_qI σ 14)]
def fd_fRs (σ : FDS) (u : Nat) : List Value := [.int (fd_rI σ u 0), .int (fd_rI σ u 1), .int (fd_rI σ u 2), .int (fd_rI σ u 3), .int (fd_rI σ u 4), .int (fd_rI σ u 5), .int (fd_bi (fd_rB σ u 6)), .int (fd_bi (fd_rB σ u 7)), .int (fd_rI σ u 8), .int (fd_rI σ u 9), .double (fd_rD σ u), .int (fd_rI σ u 11), .int (fd_rI σ u 12)]
def fd_fPm (σ : FDS) (u : Nat) : List Value := [.int (fd_pI σ u 0), .int (fd_pI σ u 1), .int (fd_bi (fd_pB σ u)), .int (fd_pI σ u 3), .int (fd_pI σ u 4), .double (fd_pD σ u)]
/-- the desk's cells: itself, its memory, its request, the two arrays, 48 resources, 6 permits; ad: where they lie -/
def fd_w (cR cP : ClassId) (ad : Nat → Nat) (σ : FDS) : va_W :=
  ([(ad 0, .inr (4, fd_fDk ad σ)), (ad 1, .inr (0, fd_fMm ad σ)), (ad 2, .inr (2, fd_fRq σ)), (ad 57, .inl (cR, 48, .inr (.inr (.inr (.inr (fun i => some (ad (3 + i)))))))), (ad 58, .inl (cP, 6, .inr (.inr (.inr (.inr (fun i => some (ad (51 + fd_pF σ i))))))))] : va_W) ++
  ((List.range 48).map (fun i => ((ad (3 + i), .inr (3, fd_fRs σ i)) : Nat × va_E)) ++ (List.range 6).map (fun i => ((ad (51 + i), .inr (1, fd_fPm σ i)) : Nat × va_E)))
abbrev fd_tys (cR cP : ClassId) : List (ClassId × FieldType) := [(cR, .object "FetchDesk$Resource"), (cP, .object "FetchDesk$Permit")]
section FDW
variable {cR cP : ClassId} {ad : Nat → Nat} {σ : FDS}
theorem fd_w_res {j : Nat} (h : j < 48) : (fd_w cR cP ad σ)[5 + j]? = some (ad (3 + j), .inr (3, fd_fRs σ j)) := by
  unfold fd_w
  rw [List.getElem?_append_right (by simp), List.getElem?_append_left (by simp; omega)]
  simp [h]
theorem fd_w_per {j : Nat} (h : j < 6) : (fd_w cR cP ad σ)[53 + j]? = some (ad (51 + j), .inr (1, fd_fPm σ j)) := by
  unfold fd_w
  rw [List.getElem?_append_right (by simp; omega), List.getElem?_append_right (by simp; omega)]
  have e : 53 + j - 5 - 48 = j := by omega
  simp [e, h]
theorem fd_set5 {α : Type} {a0 a1 a2 a3 a4 : α} {X : List α} {j : Nat} {v : α} : ([a0, a1, a2, a3, a4] ++ X).set (5 + j) v = [a0, a1, a2, a3, a4] ++ X.set j v := by
  rw [show 5 + j = j + 1 + 1 + 1 + 1 + 1 by omega]
  rfl
theorem fd_setL {α : Type} {n i : Nat} {f : Nat → α} {Y : List α} {v : α} (h : i < n) : ((List.range n).map f ++ Y).set i v = ((List.range n).map f).set i v ++ Y := by
  rw [List.set_append_left]
  simp [h]
theorem fd_setR {α : Type} {n i : Nat} {f : Nat → α} {Y : List α} {v : α} : ((List.range n).map f ++ Y).set (n + i) v = (List.range n).map f ++ Y.set i v := by
  rw [List.set_append_right _ _ (by simp)]
  simp
theorem fd_set_pF {i v : Nat} : (fd_w cR cP ad σ).set 4 (ad 58, .inl (cP, 6, .inr (.inr (.inr (.inr (va_up (fun i => some (ad (51 + fd_pF σ i))) i (some (ad (51 + v))))))))) = fd_w cR cP ad (fd_spF σ i v) := by
  have e : (va_up (fun i => some (ad (51 + fd_pF σ i))) i (some (ad (51 + v)))) = (fun j => some (ad (51 + fd_pF (fd_spF σ i v) j))) := by
    funext j
    simp only [va_up, fd_pF, fd_spF]
    split <;> rfl
  rw [e]
  rfl
theorem fd_set_Dk_3 {v : UInt64} : (fd_w cR cP ad σ).set 0 ((ad 0), .inr (4, (fd_fDk ad σ).set 3 (.double v))) = fd_w cR cP ad (fd_sdT σ v) := rfl
theorem fd_set_Dk_4 {v : Int32} : (fd_w cR cP ad σ).set 0 ((ad 0), .inr (4, (fd_fDk ad σ).set 4 (.int v))) = fd_w cR cP ad (fd_sdI σ 4 v) := rfl
theorem fd_set_Dk_5 {v : Int32} : (fd_w cR cP ad σ).set 0 ((ad 0), .inr (4, (fd_fDk ad σ).set 5 (.int v))) = fd_w cR cP ad (fd_sdI σ 5 v) := rfl
theorem fd_set_Dk_6 {v : Int32} : (fd_w cR cP ad σ).set 0 ((ad 0), .inr (4, (fd_fDk ad σ).set 6 (.int v))) = fd_w cR cP ad (fd_sdI σ 6 v) := rfl
theorem fd_set_Dk_7 {v : Int32} : (fd_w cR cP ad σ).set 0 ((ad 0), .inr (4, (fd_fDk ad σ).set 7 (.int v))) = fd_w cR cP ad (fd_sdI σ 7 v) := rfl
theorem fd_set_Dk_8 {v : Int32} : (fd_w cR cP ad σ).set 0 ((ad 0), .inr (4, (fd_fDk ad σ).set 8 (.int v))) = fd_w cR cP ad (fd_sdI σ 8 v) := rfl
theorem fd_set_Mm_1 {v : Int32} : (fd_w cR cP ad σ).set 1 ((ad 1), .inr (0, (fd_fMm ad σ).set 1 (.int v))) = fd_w cR cP ad (fd_smS σ v) := rfl
theorem fd_set_Rq_0 {v : Int32} : (fd_w cR cP ad σ).set 2 ((ad 2), .inr (2, (fd_fRq σ).set 0 (.int v))) = fd_w cR cP ad (fd_sqI σ 0 v) := rfl
theorem fd_set_Rq_1 {v : Int32} : (fd_w cR cP ad σ).set 2 ((ad 2), .inr (2, (fd_fRq σ).set 1 (.int v))) = fd_w cR cP ad (fd_sqI σ 1 v) := rfl
theorem fd_set_Rq_2 {v : Int32} : (fd_w cR cP ad σ).set 2 ((ad 2), .inr (2, (fd_fRq σ).set 2 (.int v))) = fd_w cR cP ad (fd_sqI σ 2 v) := rfl
theorem fd_set_Rq_3 {v : Int32} : (fd_w cR cP ad σ).set 2 ((ad 2), .inr (2, (fd_fRq σ).set 3 (.int v))) = fd_w cR cP ad (fd_sqI σ 3 v) := rfl
theorem fd_set_Rq_4 {v : Int32} : (fd_w cR cP ad σ).set 2 ((ad 2), .inr (2, (fd_fRq σ).set 4 (.int v))) = fd_w cR cP ad (fd_sqI σ 4 v) := rfl
theorem fd_set_Rq_5 {v : Int32} : (fd_w cR cP ad σ).set 2 ((ad 2), .inr (2, (fd_fRq σ).set 5 (.int v))) = fd_w cR cP ad (fd_sqI σ 5 v) := rfl
theorem fd_set_Rq_6 {v : Int32} : (fd_w cR cP ad σ).set 2 ((ad 2), .inr (2, (fd_fRq σ).set 6 (.int v))) = fd_w cR cP ad (fd_sqI σ 6 v) := rfl
theorem fd_set_Rq_7 {v : Int32} : (fd_w cR cP ad σ).set 2 ((ad 2), .inr (2, (fd_fRq σ).set 7 (.int v))) = fd_w cR cP ad (fd_sqI σ 7 v) := rfl
theorem fd_set_Rq_8 {v : Bool} : (fd_w cR cP ad σ).set 2 ((ad 2), .inr (2, (fd_fRq σ).set 8 (.int (fd_bi v)))) = fd_w cR cP ad (fd_sqB σ 8 v) := rfl
theorem fd_set_Rq_9 {v : Bool} : (fd_w cR cP ad σ).set 2 ((ad 2), .inr (2, (fd_fRq σ).set 9 (.int (fd_bi v)))) = fd_w cR cP ad (fd_sqB σ 9 v) := rfl
theorem fd_set_Rq_10 {v : Int32} : (fd_w cR cP ad σ).set 2 ((ad 2), .inr (2, (fd_fRq σ).set 10 (.int v))) = fd_w cR cP ad (fd_sqI σ 10 v) := rfl
theorem fd_set_Rq_11 {v : Int32} : (fd_w cR cP ad σ).set 2 ((ad 2), .inr (2, (fd_fRq σ).set 11 (.int v))) = fd_w cR cP ad (fd_sqI σ 11 v) := rfl
theorem fd_set_Rq_12 {v : Int32} : (fd_w cR cP ad σ).set 2 ((ad 2), .inr (2, (fd_fRq σ).set 12 (.int v))) = fd_w cR cP ad (fd_sqI σ 12 v) := rfl
theorem fd_set_Rq_13 {v : Int32} : (fd_w cR cP ad σ).set 2 ((ad 2), .inr (2, (fd_fRq σ).set 13 (.int v))) = fd_w cR cP ad (fd_sqI σ 13 v) := rfl
theorem fd_set_Rq_14 {v : Int32} : (fd_w cR cP ad σ).set 2 ((ad 2), .inr (2, (fd_fRq σ).set 14 (.int v))) = fd_w cR cP ad (fd_sqI σ 14 v) := rfl
theorem fd_set_Rs_0 {j : Nat} {v : Int32} (h : j < 48) : (fd_w cR cP ad σ).set (5 + j) (ad (3 + j), .inr (3, (fd_fRs σ j).set 0 (.int v))) = fd_w cR cP ad (fd_srI σ j 0 v) := by
  unfold fd_w
  rw [fd_set5, fd_setL h, fd_mapset h (g := fun i => (ad (3 + i), .inr (3, fd_fRs (fd_srI σ j 0 v) i))) ?_ ?_]
  · rfl
  · simp only [fd_fRs, fd_srI, fd_rI, fd_rB, fd_rD, va_up_self]
    rfl
  · intro i hi
    simp only [fd_fRs, fd_srI, fd_rI, fd_rB, fd_rD, va_up_ne _ _ hi]
theorem fd_set_Rs_1 {j : Nat} {v : Int32} (h : j < 48) : (fd_w cR cP ad σ).set (5 + j) (ad (3 + j), .inr (3, (fd_fRs σ j).set 1 (.int v))) = fd_w cR cP ad (fd_srI σ j 1 v) := by
  unfold fd_w
  rw [fd_set5, fd_setL h, fd_mapset h (g := fun i => (ad (3 + i), .inr (3, fd_fRs (fd_srI σ j 1 v) i))) ?_ ?_]
  · rfl
  · simp only [fd_fRs, fd_srI, fd_rI, fd_rB, fd_rD, va_up_self]
    rfl
  · intro i hi
    simp only [fd_fRs, fd_srI, fd_rI, fd_rB, fd_rD, va_up_ne _ _ hi]
theorem fd_set_Rs_2 {j : Nat} {v : Int32} (h : j < 48) : (fd_w cR cP ad σ).set (5 + j) (ad (3 + j), .inr (3, (fd_fRs σ j).set 2 (.int v))) = fd_w cR cP ad (fd_srI σ j 2 v) := by
  unfold fd_w
  rw [fd_set5, fd_setL h, fd_mapset h (g := fun i => (ad (3 + i), .inr (3, fd_fRs (fd_srI σ j 2 v) i))) ?_ ?_]
  · rfl
  · simp only [fd_fRs, fd_srI, fd_rI, fd_rB, fd_rD, va_up_self]
    rfl
  · intro i hi
    simp only [fd_fRs, fd_srI, fd_rI, fd_rB, fd_rD, va_up_ne _ _ hi]
theorem fd_set_Rs_3 {j : Nat} {v : Int32} (h : j < 48) : (fd_w cR cP ad σ).set (5 + j) (ad (3 + j), .inr (3, (fd_fRs σ j).set 3 (.int v))) = fd_w cR cP ad (fd_srI σ j 3 v) := by
  unfold fd_w
  rw [fd_set5, fd_setL h, fd_mapset h (g := fun i => (ad (3 + i), .inr (3, fd_fRs (fd_srI σ j 3 v) i))) ?_ ?_]
  · rfl
  · simp only [fd_fRs, fd_srI, fd_rI, fd_rB, fd_rD, va_up_self]
    rfl
  · intro i hi
    simp only [fd_fRs, fd_srI, fd_rI, fd_rB, fd_rD, va_up_ne _ _ hi]
theorem fd_set_Rs_4 {j : Nat} {v : Int32} (h : j < 48) : (fd_w cR cP ad σ).set (5 + j) (ad (3 + j), .inr (3, (fd_fRs σ j).set 4 (.int v))) = fd_w cR cP ad (fd_srI σ j 4 v) := by
  unfold fd_w
  rw [fd_set5, fd_setL h, fd_mapset h (g := fun i => (ad (3 + i), .inr (3, fd_fRs (fd_srI σ j 4 v) i))) ?_ ?_]
  · rfl
  · simp only [fd_fRs, fd_srI, fd_rI, fd_rB, fd_rD, va_up_self]
    rfl
  · intro i hi
    simp only [fd_fRs, fd_srI, fd_rI, fd_rB, fd_rD, va_up_ne _ _ hi]
theorem fd_set_Rs_5 {j : Nat} {v : Int32} (h : j < 48) : (fd_w cR cP ad σ).set (5 + j) (ad (3 + j), .inr (3, (fd_fRs σ j).set 5 (.int v))) = fd_w cR cP ad (fd_srI σ j 5 v) := by
  unfold fd_w
  rw [fd_set5, fd_setL h, fd_mapset h (g := fun i => (ad (3 + i), .inr (3, fd_fRs (fd_srI σ j 5 v) i))) ?_ ?_]
  · rfl
  · simp only [fd_fRs, fd_srI, fd_rI, fd_rB, fd_rD, va_up_self]
    rfl
  · intro i hi
    simp only [fd_fRs, fd_srI, fd_rI, fd_rB, fd_rD, va_up_ne _ _ hi]
theorem fd_set_Rs_6 {j : Nat} {v : Bool} (h : j < 48) : (fd_w cR cP ad σ).set (5 + j) (ad (3 + j), .inr (3, (fd_fRs σ j).set 6 (.int (fd_bi v)))) = fd_w cR cP ad (fd_srB σ j 6 v) := by
  unfold fd_w
  rw [fd_set5, fd_setL h, fd_mapset h (g := fun i => (ad (3 + i), .inr (3, fd_fRs (fd_srB σ j 6 v) i))) ?_ ?_]
  · rfl
  · simp only [fd_fRs, fd_srB, fd_rI, fd_rB, fd_rD, va_up_self]
    rfl
  · intro i hi
    simp only [fd_fRs, fd_srB, fd_rI, fd_rB, fd_rD, va_up_ne _ _ hi]
theorem fd_set_Rs_7 {j : Nat} {v : Bool} (h : j < 48) : (fd_w cR cP ad σ).set (5 + j) (ad (3 + j), .inr (3, (fd_fRs σ j).set 7 (.int (fd_bi v)))) = fd_w cR cP ad (fd_srB σ j 7 v) := by
  unfold fd_w
  rw [fd_set5, fd_setL h, fd_mapset h (g := fun i => (ad (3 + i), .inr (3, fd_fRs (fd_srB σ j 7 v) i))) ?_ ?_]
  · rfl
  · simp only [fd_fRs, fd_srB, fd_rI, fd_rB, fd_rD, va_up_self]
    rfl
  · intro i hi
    simp only [fd_fRs, fd_srB, fd_rI, fd_rB, fd_rD, va_up_ne _ _ hi]
theorem fd_set_Rs_8 {j : Nat} {v : Int32} (h : j < 48) : (fd_w cR cP ad σ).set (5 + j) (ad (3 + j), .inr (3, (fd_fRs σ j).set 8 (.int v))) = fd_w cR cP ad (fd_srI σ j 8 v) := by
  unfold fd_w
  rw [fd_set5, fd_setL h, fd_mapset h (g := fun i => (ad (3 + i), .inr (3, fd_fRs (fd_srI σ j 8 v) i))) ?_ ?_]
  · rfl
  · simp only [fd_fRs, fd_srI, fd_rI, fd_rB, fd_rD, va_up_self]
    rfl
  · intro i hi
    simp only [fd_fRs, fd_srI, fd_rI, fd_rB, fd_rD, va_up_ne _ _ hi]
theorem fd_set_Rs_9 {j : Nat} {v : Int32} (h : j < 48) : (fd_w cR cP ad σ).set (5 + j) (ad (3 + j), .inr (3, (fd_fRs σ j).set 9 (.int v))) = fd_w cR cP ad (fd_srI σ j 9 v) := by
  unfold fd_w
  rw [fd_set5, fd_setL h, fd_mapset h (g := fun i => (ad (3 + i), .inr (3, fd_fRs (fd_srI σ j 9 v) i))) ?_ ?_]
  · rfl
  · simp only [fd_fRs, fd_srI, fd_rI, fd_rB, fd_rD, va_up_self]
    rfl
  · intro i hi
    simp only [fd_fRs, fd_srI, fd_rI, fd_rB, fd_rD, va_up_ne _ _ hi]
theorem fd_set_Rs_10 {j : Nat} {v : UInt64} (h : j < 48) : (fd_w cR cP ad σ).set (5 + j) (ad (3 + j), .inr (3, (fd_fRs σ j).set 10 (.double v))) = fd_w cR cP ad (fd_srD σ j v) := by
  unfold fd_w
  rw [fd_set5, fd_setL h, fd_mapset h (g := fun i => (ad (3 + i), .inr (3, fd_fRs (fd_srD σ j v) i))) ?_ ?_]
  · rfl
  · simp only [fd_fRs, fd_srD, fd_rI, fd_rB, fd_rD, va_up_self]
    rfl
  · intro i hi
    simp only [fd_fRs, fd_srD, fd_rI, fd_rB, fd_rD, va_up_ne _ _ hi]
theorem fd_set_Rs_11 {j : Nat} {v : Int32} (h : j < 48) : (fd_w cR cP ad σ).set (5 + j) (ad (3 + j), .inr (3, (fd_fRs σ j).set 11 (.int v))) = fd_w cR cP ad (fd_srI σ j 11 v) := by
  unfold fd_w
  rw [fd_set5, fd_setL h, fd_mapset h (g := fun i => (ad (3 + i), .inr (3, fd_fRs (fd_srI σ j 11 v) i))) ?_ ?_]
  · rfl
  · simp only [fd_fRs, fd_srI, fd_rI, fd_rB, fd_rD, va_up_self]
    rfl
  · intro i hi
    simp only [fd_fRs, fd_srI, fd_rI, fd_rB, fd_rD, va_up_ne _ _ hi]
theorem fd_set_Rs_12 {j : Nat} {v : Int32} (h : j < 48) : (fd_w cR cP ad σ).set (5 + j) (ad (3 + j), .inr (3, (fd_fRs σ j).set 12 (.int v))) = fd_w cR cP ad (fd_srI σ j 12 v) := by
  unfold fd_w
  rw [fd_set5, fd_setL h, fd_mapset h (g := fun i => (ad (3 + i), .inr (3, fd_fRs (fd_srI σ j 12 v) i))) ?_ ?_]
  · rfl
  · simp only [fd_fRs, fd_srI, fd_rI, fd_rB, fd_rD, va_up_self]
    rfl
  · intro i hi
    simp only [fd_fRs, fd_srI, fd_rI, fd_rB, fd_rD, va_up_ne _ _ hi]
theorem fd_set_Pm_0 {j : Nat} {v : Int32} (h : j < 6) : (fd_w cR cP ad σ).set (53 + j) (ad (51 + j), .inr (1, (fd_fPm σ j).set 0 (.int v))) = fd_w cR cP ad (fd_spI σ j 0 v) := by
  unfold fd_w
  rw [show 53 + j = 5 + (48 + j) by omega, fd_set5, fd_setR, fd_mapset h (g := fun i => (ad (51 + i), .inr (1, fd_fPm (fd_spI σ j 0 v) i))) ?_ ?_]
  · rfl
  · simp only [fd_fPm, fd_spI, fd_pI, fd_pB, fd_pD, va_up_self]
    rfl
  · intro i hi
    simp only [fd_fPm, fd_spI, fd_pI, fd_pB, fd_pD, va_up_ne _ _ hi]
theorem fd_set_Pm_1 {j : Nat} {v : Int32} (h : j < 6) : (fd_w cR cP ad σ).set (53 + j) (ad (51 + j), .inr (1, (fd_fPm σ j).set 1 (.int v))) = fd_w cR cP ad (fd_spI σ j 1 v) := by
  unfold fd_w
  rw [show 53 + j = 5 + (48 + j) by omega, fd_set5, fd_setR, fd_mapset h (g := fun i => (ad (51 + i), .inr (1, fd_fPm (fd_spI σ j 1 v) i))) ?_ ?_]
  · rfl
  · simp only [fd_fPm, fd_spI, fd_pI, fd_pB, fd_pD, va_up_self]
    rfl
  · intro i hi
    simp only [fd_fPm, fd_spI, fd_pI, fd_pB, fd_pD, va_up_ne _ _ hi]
theorem fd_set_Pm_2 {j : Nat} {v : Bool} (h : j < 6) : (fd_w cR cP ad σ).set (53 + j) (ad (51 + j), .inr (1, (fd_fPm σ j).set 2 (.int (fd_bi v)))) = fd_w cR cP ad (fd_spB σ j v) := by
  unfold fd_w
  rw [show 53 + j = 5 + (48 + j) by omega, fd_set5, fd_setR, fd_mapset h (g := fun i => (ad (51 + i), .inr (1, fd_fPm (fd_spB σ j v) i))) ?_ ?_]
  · rfl
  · simp only [fd_fPm, fd_spB, fd_pI, fd_pB, fd_pD, va_up_self]
    rfl
  · intro i hi
    simp only [fd_fPm, fd_spB, fd_pI, fd_pB, fd_pD, va_up_ne _ _ hi]
theorem fd_set_Pm_3 {j : Nat} {v : Int32} (h : j < 6) : (fd_w cR cP ad σ).set (53 + j) (ad (51 + j), .inr (1, (fd_fPm σ j).set 3 (.int v))) = fd_w cR cP ad (fd_spI σ j 3 v) := by
  unfold fd_w
  rw [show 53 + j = 5 + (48 + j) by omega, fd_set5, fd_setR, fd_mapset h (g := fun i => (ad (51 + i), .inr (1, fd_fPm (fd_spI σ j 3 v) i))) ?_ ?_]
  · rfl
  · simp only [fd_fPm, fd_spI, fd_pI, fd_pB, fd_pD, va_up_self]
    rfl
  · intro i hi
    simp only [fd_fPm, fd_spI, fd_pI, fd_pB, fd_pD, va_up_ne _ _ hi]
theorem fd_set_Pm_4 {j : Nat} {v : Int32} (h : j < 6) : (fd_w cR cP ad σ).set (53 + j) (ad (51 + j), .inr (1, (fd_fPm σ j).set 4 (.int v))) = fd_w cR cP ad (fd_spI σ j 4 v) := by
  unfold fd_w
  rw [show 53 + j = 5 + (48 + j) by omega, fd_set5, fd_setR, fd_mapset h (g := fun i => (ad (51 + i), .inr (1, fd_fPm (fd_spI σ j 4 v) i))) ?_ ?_]
  · rfl
  · simp only [fd_fPm, fd_spI, fd_pI, fd_pB, fd_pD, va_up_self]
    rfl
  · intro i hi
    simp only [fd_fPm, fd_spI, fd_pI, fd_pB, fd_pD, va_up_ne _ _ hi]
theorem fd_set_Pm_5 {j : Nat} {v : UInt64} (h : j < 6) : (fd_w cR cP ad σ).set (53 + j) (ad (51 + j), .inr (1, (fd_fPm σ j).set 5 (.double v))) = fd_w cR cP ad (fd_spD σ j v) := by
  unfold fd_w
  rw [show 53 + j = 5 + (48 + j) by omega, fd_set5, fd_setR, fd_mapset h (g := fun i => (ad (51 + i), .inr (1, fd_fPm (fd_spD σ j v) i))) ?_ ?_]
  · rfl
  · simp only [fd_fPm, fd_spD, fd_pI, fd_pB, fd_pD, va_up_self]
    rfl
  · intro i hi
    simp only [fd_fPm, fd_spD, fd_pI, fd_pB, fd_pD, va_up_ne _ _ hi]
end FDW
end
section
/-! contracts over the desk's world -/
/-- what always holds of a state: the request's URL is one; targets are URLs or -1; at most six are remembered; the permits are the six; the time is a number; ages are finite -/
def fd_Inv (σ : FDS) : Prop := vp_in (fd_qI σ 1) 48 ∧ (∀ u, u < 48 → fd_rI σ u 2 = -1 ∨ vp_in (fd_rI σ u 2) 48) ∧ (∃ n : Nat, n ≤ 6 ∧ fd_mS σ = nI n) ∧ (∀ i, i < 6 → fd_pF σ i < 6) ∧ FP.dIsNaN (fd_dT σ) = false ∧ ∀ u, u < 48 → FP.Core.DFin (fd_rD σ u)
theorem fd_inv_sqI {σ : FDS} {k : Nat} {v : Int32} (hk : (1 : Nat) ≠ k) (h : fd_Inv σ) : fd_Inv (fd_sqI σ k v) := ⟨by
  show vp_in (va_up (fd_qI σ) k v 1) 48
  rw [va_up_ne _ _ hk]
  exact h.1, h.2⟩
theorem fd_inv_sdI {σ : FDS} {k : Nat} {v : Int32} (h : fd_Inv σ) : fd_Inv (fd_sdI σ k v) := h
theorem fd_inv_sqB {σ : FDS} {k : Nat} {v : Bool} (h : fd_Inv σ) : fd_Inv (fd_sqB σ k v) := h
theorem fd_inv_srB {σ : FDS} {j k : Nat} {v : Bool} (h : fd_Inv σ) : fd_Inv (fd_srB σ j k v) := h
theorem fd_inv_spI {σ : FDS} {j k : Nat} {v : Int32} (h : fd_Inv σ) : fd_Inv (fd_spI σ j k v) := h
theorem fd_inv_spB {σ : FDS} {j : Nat} {v : Bool} (h : fd_Inv σ) : fd_Inv (fd_spB σ j v) := h
theorem fd_inv_spD {σ : FDS} {j : Nat} {v : UInt64} (h : fd_Inv σ) : fd_Inv (fd_spD σ j v) := h
theorem fd_inv_url {σ : FDS} {v : Int32} (hv : vp_in v 48) (h : fd_Inv σ) : fd_Inv (fd_sqI σ 1 v) := ⟨by
  show vp_in (va_up (fd_qI σ) 1 v 1) 48
  rw [va_up_self]
  exact hv, h.2⟩
theorem fd_inv_srI {σ : FDS} {j k : Nat} {v : Int32} (hk : (2 : Nat) ≠ k) (h : fd_Inv σ) : fd_Inv (fd_srI σ j k v) := ⟨h.1, fun u hu => by
  show va_up (fd_rI σ) j (va_up (fd_rI σ j) k v) u 2 = -1 ∨ vp_in (va_up (fd_rI σ) j (va_up (fd_rI σ j) k v) u 2) 48
  by_cases hj : u = j
  · subst hj
    rw [va_up_self, va_up_ne _ _ hk]
    exact h.2.1 u hu
  · rw [va_up_ne _ _ hj]
    exact h.2.1 u hu, h.2.2⟩
theorem fd_inv_target {σ : FDS} {j : Nat} {v : Int32} (hv : v = -1 ∨ vp_in v 48) (h : fd_Inv σ) : fd_Inv (fd_srI σ j 2 v) := ⟨h.1, fun u hu => by
  show va_up (fd_rI σ) j (va_up (fd_rI σ j) 2 v) u 2 = -1 ∨ vp_in (va_up (fd_rI σ) j (va_up (fd_rI σ j) 2 v) u 2) 48
  by_cases hj : u = j
  · subst hj
    rw [va_up_self, va_up_self]
    exact hv
  · rw [va_up_ne _ _ hj]
    exact h.2.1 u hu, h.2.2⟩
theorem fd_inv_age {σ : FDS} {j : Nat} {v : UInt64} (hv : FP.Core.DFin v) (h : fd_Inv σ) : fd_Inv (fd_srD σ j v) := ⟨h.1, h.2.1, h.2.2.1, h.2.2.2.1, h.2.2.2.2.1, fun u hu => by
  show FP.Core.DFin (va_up (fd_rD σ) j v u)
  by_cases hj : u = j
  · subst hj
    rw [va_up_self]
    exact hv
  · rw [va_up_ne _ _ hj]
    exact h.2.2.2.2.2 u hu⟩
theorem fd_inv_time {σ : FDS} {v : UInt64} (hv : FP.dIsNaN v = false) (h : fd_Inv σ) : fd_Inv (fd_sdT σ v) := ⟨h.1, h.2.1, h.2.2.1, h.2.2.2.1, hv, h.2.2.2.2.2⟩
theorem fd_inv_size {σ : FDS} {v : Int32} (hv : ∃ n : Nat, n ≤ 6 ∧ v = nI n) (h : fd_Inv σ) : fd_Inv (fd_smS σ v) := ⟨h.1, h.2.1, hv, h.2.2.2⟩
theorem fd_inv_pF {σ : FDS} {i v : Nat} (hv : v < 6) (h : fd_Inv σ) : fd_Inv (fd_spF σ i v) := ⟨h.1, h.2.1, h.2.2.1, fun k hk => by
  show va_up (fd_pF σ) i v k < 6
  by_cases hj : k = i
  · subst hj
    rw [va_up_self]
    exact hv
  · rw [va_up_ne _ _ hj]
    exact h.2.2.2.1 k hk, h.2.2.2.2⟩
theorem fd_plt {σ : FDS} {x : Int32} (h : fd_Inv σ) (hx : vp_in x 6) : fd_pF σ x.toNatClampNeg < 6 := h.2.2.2.1 _ (fd_lt hx)
theorem fd_n64 {a : UInt64} (h : FP.dIsNaN a = false) : vf_n64 a := by
  unfold vf_n64
  rw [UInt64.le_iff_toNat_le, FP.Core.mask_toNat]
  have h1 := FP.Core.isNaN_bits a
  have h2 : ¬ (FP.Core.dIsNaN a = true) := by rw [show FP.Core.dIsNaN a = false from h]; decide
  have h3 := fun q => h2 (h1.mpr q)
  have h4 : (9218868437227405312 : UInt64).toNat = 9218868437227405312 := rfl
  show a.toNat % 2 ^ 63 ≤ (9218868437227405312 : UInt64).toNat
  rw [h4]
  exact Nat.le_of_not_lt h3
def fd_N (U : State) : Prop := ∀ w ∈ fn_nw, va_Nw w U
def fd_isN : Cond → Bool
  | .fieldLinkNest .. => true
  | .methodLinkNest .. => true
  | _ => false
theorem fd_allN : ∀ w ∈ fn_nw, fd_isN w = true := by decide +kernel
theorem fd_N_warm {s U : State} (hW : s.WarmedH U.vm) (h : fd_N s) : fd_N U := fun w hw => by
  have h1 := fd_allN w hw
  have h2 := h w hw
  cases w <;> first | exact va_Nw.warmF hW h2 | exact va_Nw.warmM hW h2 | cases h1
theorem fd_N_same {s U : State} (hv : s.vm = U.vm) (h : fd_N s) : fd_N U := fun w hw => by
  have h1 := fd_allN w hw
  have h2 := h w hw
  cases w <;> first | exact va_Nw.same rfl hv h2 | cases h1
/-- a contract's start: the arguments, and the desk's world in state σ -/
def fd_Pc (D : va_G) (cR cP : ClassId) (ad : Nat → Nat) (av : List Value) (σ : FDS) (sz : Nat) : Array Value → State → Prop :=
  va_Pc av (fun U => U.heap.size = sz ∧ va_P D fn_cl (fd_w cR cP ad σ) U.heap ∧ va_K D fn_cl (fd_tys cR cP) U ∧ va_D (fun _ => True) (fd_w cR cP ad σ) ∧ fd_N U)
/-- a contract's end: the desk's world in state u -/
def fd_B (D : va_G) (cR cP : ClassId) (ad : Nat → Nat) (A : Nat → Prop) (u : FDS) (t : State) : Prop := va_P D fn_cl (fd_w cR cP ad u) t.heap ∧ va_D A (fd_w cR cP ad u)
theorem fd_blind {D : va_G} {cR cP : ClassId} {ad : Nat → Nat} {av : List Value} {σ : FDS} {sz : Nat} : FrameBlind (fd_Pc D cR cP ad av σ sz) := fun a U g mk q => by
  obtain ⟨q0, q1, qP, qK, qD, qN⟩ := q
  exact ⟨q0, q1, qP, va_K.moved (u := U) (U := U.calling g mk a) (Vm.Alike.refl U.vm) qK, qD, fd_N_same (s := U) (U := U.calling g mk a) rfl qN⟩
section FDC
variable {p : Program} {l : Launch} {e : Env} {R : Room} {s : State} {m : MethodId} {args : Array Value} {below : List Frame} {meth : Method} {c : Code} {H H0 : Heap} {locs : List Loc} {cells slots : Nat} {Q : State → Prop} {cc : ByteArray} {pc : Nat} {ls : Array Slot} {rest st0 : List Value}
variable {D : va_G} {cR cP : ClassId} {ad : Nat → Nat} {A : Nat → Prop} {σ : FDS}
theorem fd_preS {As : List Value} (hP : va_P D fn_cl (fd_w cR cP ad σ) H) (hK : va_K D fn_cl (fd_tys cR cP) s) (hD : va_D A (fd_w cR cP ad σ)) (hN : fd_N s) : PreS s H (fd_Pc D cR cP ad As σ H.size) As :=
  ⟨fd_blind, fun U hU hW => ⟨rfl, by rw [hU], by rw [hU]; exact hP, va_K.moved hW.alike hK, hD.weaken (fun _ _ _ _ => trivial), fd_N_warm hW hN⟩⟩
theorem fd_preV {As : List Value} {C : String} {b : Addr} (hP : va_P D fn_cl (fd_w cR cP ad σ) H) (hK : va_K D fn_cl (fd_tys cR cP) s) (hD : va_D A (fd_w cR cP ad σ)) (hN : fd_N s) (hr : ∃ cell : Cell, H[b]? = some cell ∧ cell.vm.isStatics = false ∧ s.vm.findClass C = some cell.cls) : PreV s H C b (fd_Pc D cR cP ad (.ref b :: As) σ H.size) As :=
  ⟨fd_blind, hr, fun U hU hW => ⟨rfl, by rw [hU], by rw [hU]; exact hP, va_K.moved hW.alike hK, hD.weaken (fun _ _ _ _ => trivial), fd_N_warm hW hN⟩⟩
/-- a body's walk gives its contract -/
theorem fd_ofW {y : MethodName} {ws' : List Cond} {rm : Room} {av : List Value} {sz maxL : Nat} {ret : Option FieldType} {Qf : (Nat → Prop) → Array Value → State → Outcome → State → Prop} (hy : plainName y.cls = true) (hn : (lg_sl av).length ≤ maxL)
    (body : ∀ (p : Program) (e : Env) (s : State) (m : MethodId) (args : Array Value) (below : List Frame) (meth : Method) (c : Code) (A : Nat → Prop) (Q : State → Prop), Q = MQ below (Qf A) args s 0 0 A → p.tables.exec = Jvm.exec → c.code = cc → meth.sig.returnType = ret → (∀ w ∈ Cond.code y cc maxL ret :: ws', w.before args s = true) → s.vm.findClass y.cls = some m.cls → meth.locks = false → c.maxLocals = maxL →
      va_P D fn_cl (fd_w cR cP ad σ) s.heap → va_K D fn_cl (fd_tys cR cP) s → va_D A (fd_w cR cP ad σ) → va_S A s.heap s.heap [] → (∀ q : Nat, s.heap.size ≤ q → A q) → fd_N s → ∀ ls : Array Slot, lv_has ls maxL (lv_args 0 av) → W p l e rm s m args below meth c s.heap [] 0 0 Q (F0 m 0 ls [])) :
    Met l y (Cond.code y cc maxL ret :: ws') rm (fd_Pc D cR cP ad av σ sz) (Qf (va_A (fd_w cR cP ad σ) sz)) 0 0 (va_A (fd_w cR cP ad σ) sz) := by
  refine Met.ofW (cc := cc) (maxL := maxL) (ret := ret) hy rfl ?_
  intro p e s m args below meth c s₁ B hml hv
  obtain ⟨rfl, hsz, hP, hK, hD0, hN⟩ := hv
  subst hsz
  have hl := lv_entry av (n := maxL) hn
  rw [lg_entry_eq]
  generalize (lg_sl av ++ List.replicate (maxL - (lg_sl av).length) Slot.unset).toArray = ls at hl ⊢
  exact body p e s m _ below meth c _ _ rfl B.exec B.bytes B.returns (atoms_spec (ws := Cond.code y cc maxL ret :: ws') B.pre) (findClass_of_methodNamed B.named) B.notSynchronized hml hP hK (hD0.self (sz := s.heap.size)) va_S.rf (fun q h => Or.inr h) hN ls hl
-- ends
theorem fd_iret {post : Int32 → FDS → Prop} {r : Int32} {u : FDS} (hQ : Q = MQ below (va_Qi post (fd_B D cR cP ad A) A) args s 0 0 A) (hx : p.tables.exec = Jvm.exec) (hb : c.code = cc) (hr : meth.sig.returnType = some .int) (hp : post r u) (hP : va_P D fn_cl (fd_w cR cP ad u) H) (hD : va_D A (fd_w cR cP ad u)) (hS : va_S A s.heap H locs) (hdg : decode cc pc = .ok (.ireturn, 1)) (hlocks : meth.locks = false) :
    W p l e R s m args below meth c H locs 0 0 Q (F0 m pc ls [.int r]) := by
  rw [hQ]
  exact W.iret hx hb hr (fun t ht hW => ⟨⟨r, u, rfl, hp, by rw [ht]; exact hP, hD⟩, hS.F ht⟩) hS.2.2 hdg hlocks
theorem fd_zret {post : Int32 → FDS → Prop} {r : Bool} {u : FDS} (hQ : Q = MQ below (va_Qi post (fd_B D cR cP ad A) A) args s 0 0 A) (hx : p.tables.exec = Jvm.exec) (hb : c.code = cc) (hr : meth.sig.returnType = some .boolean) (hp : post (fd_bi r) u) (hP : va_P D fn_cl (fd_w cR cP ad u) H) (hD : va_D A (fd_w cR cP ad u)) (hS : va_S A s.heap H locs) (hdg : decode cc pc = .ok (.ireturn, 1)) (hlocks : meth.locks = false) :
    W p l e R s m args below meth c H locs 0 0 Q (F0 m pc ls [.int (fd_bi r)]) := by
  rw [hQ]
  exact W.zret hx hb hr (fd_nar r) (fun t ht hW => ⟨⟨fd_bi r, u, rfl, hp, by rw [ht]; exact hP, hD⟩, hS.F ht⟩) hS.2.2 hdg hlocks
theorem fd_dret {post : UInt64 → FDS → Prop} {r : UInt64} {u : FDS} (hQ : Q = MQ below (va_Qd post (fd_B D cR cP ad A) A) args s 0 0 A) (hx : p.tables.exec = Jvm.exec) (hb : c.code = cc) (hr : meth.sig.returnType = some .double) (hp : post r u) (hP : va_P D fn_cl (fd_w cR cP ad u) H) (hD : va_D A (fd_w cR cP ad u)) (hS : va_S A s.heap H locs) (hdg : decode cc pc = .ok (.dreturn, 1)) (hlocks : meth.locks = false) :
    W p l e R s m args below meth c H locs 0 0 Q (F0 m pc ls [.double r]) := by
  rw [hQ]
  exact W.dret hx hb hr (fun t ht hW => ⟨⟨r, u, rfl, hp, by rw [ht]; exact hP, hD⟩, hS.F ht⟩) hS.2.2 hdg hlocks
theorem fd_vret {post : FDS → Prop} {u : FDS} (hQ : Q = MQ below (va_Qv post (fd_B D cR cP ad A) A) args s 0 0 A) (hx : p.tables.exec = Jvm.exec) (hb : c.code = cc) (hr : meth.sig.returnType = none) (hp : post u) (hP : va_P D fn_cl (fd_w cR cP ad u) H) (hD : va_D A (fd_w cR cP ad u)) (hS : va_S A s.heap H locs) (hdg : decode cc pc = .ok (.return_, 1)) (hlocks : meth.locks = false) :
    W p l e R s m args below meth c H locs 0 0 Q (F0 m pc ls []) := by
  rw [hQ]
  exact W.vret hx hb hr (fun t ht hW => ⟨⟨u, rfl, hp, by rw [ht]; exact hP, hD⟩, hS.F ht⟩) hS.2.2 hdg hlocks
-- calls: the callee has the caller's whole world
theorem fd_calli {a : Array Value} {T : Int32} (hr : va_Run p l e R s m args below meth c H locs 0 0 0 0 (F0 m pc ls st0) rest (va_Qi (fun r u => T = r ∧ u = σ) (fd_B D cR cP ad (va_A (fd_w cR cP ad σ) H.size)) (va_A (fd_w cR cP ad σ) H.size) a) (va_A (fd_w cR cP ad σ) H.size)) (hD : va_D A (fd_w cR cP ad σ)) (hS : va_S A s.heap H locs) (hA : ∀ q : Nat, s.heap.size ≤ q → A q)
    (kk : ∀ (H : Heap) (locs : List Loc), va_P D fn_cl (fd_w cR cP ad σ) H → va_D A (fd_w cR cP ad σ) → va_S A s.heap H locs → W p l e R s m args below meth c H locs 0 0 Q (F0 m (pc + 3) ls (.int T :: rest))) : W p l e R s m args below meth c H locs 0 0 Q (F0 m pc ls st0) := by
  have hF := fd_free hD hS hA
  refine va_calli hr hS (fun q _ h => hF q h) hF (fun r u t H1 locs1 ht hvm hw hB hz1 hk1 hS1 => ?_)
  obtain ⟨rfl, rfl⟩ := hw
  obtain ⟨hP1, hD1⟩ := hB
  rw [ht] at hP1
  exact kk H1 locs1 hP1 (hD1.weaken (fun k q _ h => hF q.1 h)) hS1
theorem fd_callz {a : Array Value} {T : Bool} (hr : va_Run p l e R s m args below meth c H locs 0 0 0 0 (F0 m pc ls st0) rest (va_Qi (fun r u => fd_bi T = r ∧ u = σ) (fd_B D cR cP ad (va_A (fd_w cR cP ad σ) H.size)) (va_A (fd_w cR cP ad σ) H.size) a) (va_A (fd_w cR cP ad σ) H.size)) (hD : va_D A (fd_w cR cP ad σ)) (hS : va_S A s.heap H locs) (hA : ∀ q : Nat, s.heap.size ≤ q → A q)
    (kk : ∀ (H : Heap) (locs : List Loc), va_P D fn_cl (fd_w cR cP ad σ) H → va_D A (fd_w cR cP ad σ) → va_S A s.heap H locs → W p l e R s m args below meth c H locs 0 0 Q (F0 m (pc + 3) ls (.int (fd_bi T) :: rest))) : W p l e R s m args below meth c H locs 0 0 Q (F0 m pc ls st0) := fd_calli hr hD hS hA kk
theorem fd_callim {a : Array Value} {T : Int32 × FDS} (hr : va_Run p l e R s m args below meth c H locs 0 0 0 0 (F0 m pc ls st0) rest (va_Qi (fun r u => T = (r, u) ∧ fd_Inv u) (fd_B D cR cP ad (va_A (fd_w cR cP ad σ) H.size)) (va_A (fd_w cR cP ad σ) H.size) a) (va_A (fd_w cR cP ad σ) H.size)) (hD : va_D A (fd_w cR cP ad σ)) (hS : va_S A s.heap H locs) (hA : ∀ q : Nat, s.heap.size ≤ q → A q)
    (kk : ∀ (H : Heap) (locs : List Loc), va_P D fn_cl (fd_w cR cP ad T.2) H → va_D A (fd_w cR cP ad T.2) → va_S A s.heap H locs → fd_Inv T.2 → W p l e R s m args below meth c H locs 0 0 Q (F0 m (pc + 3) ls (.int T.1 :: rest))) : W p l e R s m args below meth c H locs 0 0 Q (F0 m pc ls st0) := by
  have hF := fd_free hD hS hA
  refine va_calli hr hS (fun q _ h => hF q h) hF (fun r u t H1 locs1 ht hvm hw hB hz1 hk1 hS1 => ?_)
  obtain ⟨rfl, hI1⟩ := hw
  obtain ⟨hP1, hD1⟩ := hB
  rw [ht] at hP1
  exact kk H1 locs1 hP1 (hD1.weaken (fun k q _ h => hF q.1 h)) hS1 hI1
theorem fd_callzm {a : Array Value} {T : Bool × FDS} (hr : va_Run p l e R s m args below meth c H locs 0 0 0 0 (F0 m pc ls st0) rest (va_Qi (fun r u => (fd_bi T.1, T.2) = (r, u) ∧ fd_Inv u) (fd_B D cR cP ad (va_A (fd_w cR cP ad σ) H.size)) (va_A (fd_w cR cP ad σ) H.size) a) (va_A (fd_w cR cP ad σ) H.size)) (hD : va_D A (fd_w cR cP ad σ)) (hS : va_S A s.heap H locs) (hA : ∀ q : Nat, s.heap.size ≤ q → A q)
    (kk : ∀ (H : Heap) (locs : List Loc), va_P D fn_cl (fd_w cR cP ad T.2) H → va_D A (fd_w cR cP ad T.2) → va_S A s.heap H locs → fd_Inv T.2 → W p l e R s m args below meth c H locs 0 0 Q (F0 m (pc + 3) ls (.int (fd_bi T.1) :: rest))) : W p l e R s m args below meth c H locs 0 0 Q (F0 m pc ls st0) := fd_callim hr hD hS hA kk
theorem fd_callvm {a : Array Value} {T : FDS} (hr : va_Run p l e R s m args below meth c H locs 0 0 0 0 (F0 m pc ls st0) rest (va_Qv (fun u => T = u ∧ fd_Inv u) (fd_B D cR cP ad (va_A (fd_w cR cP ad σ) H.size)) (va_A (fd_w cR cP ad σ) H.size) a) (va_A (fd_w cR cP ad σ) H.size)) (hD : va_D A (fd_w cR cP ad σ)) (hS : va_S A s.heap H locs) (hA : ∀ q : Nat, s.heap.size ≤ q → A q)
    (kk : ∀ (H : Heap) (locs : List Loc), va_P D fn_cl (fd_w cR cP ad T) H → va_D A (fd_w cR cP ad T) → va_S A s.heap H locs → fd_Inv T → W p l e R s m args below meth c H locs 0 0 Q (F0 m (pc + 3) ls rest)) : W p l e R s m args below meth c H locs 0 0 Q (F0 m pc ls st0) := by
  have hF := fd_free hD hS hA
  refine va_callv hr hS (fun q _ h => hF q h) hF (fun u t H1 locs1 ht hvm hw hB hz1 hk1 hS1 => ?_)
  obtain ⟨rfl, hI1⟩ := hw
  obtain ⟨hP1, hD1⟩ := hB
  rw [ht] at hP1
  exact kk H1 locs1 hP1 (hD1.weaken (fun k q _ h => hF q.1 h)) hS1 hI1
end FDC
end
section
/-! the desk: small methods -/
def fv_Dk_isOrigin_j1 (σ : FDS) (p0 : Int32) (v1 : Bool) : Bool := v1
def fv_Dk_isOrigin (σ : FDS) (p0 : Int32) : Bool := fv_Dk_isOrigin_j1 σ p0 (if p0 < 0 then false else if 6 ≤ p0 then false else true)
set_option maxHeartbeats 4000000 in
set_option maxRecDepth 100000 in
theorem fc_Dk_isOrigin (l : Launch) (D : va_G) (cR cP : ClassId) (ad : Nat → Nat) (sz : Nat) (σ : FDS) (p0 : Int32) (hI : fd_Inv σ)  : Met l fy_Dk_isOrigin (fw_Dk_isOrigin :: fb_tbl) ({ frames := 0, cells := 0, slots := 0, locals := 0 } : Room) (fd_Pc D cR cP ad [.int p0] σ sz) ((fun A => va_Qi (fun (r : Int32) (u : FDS) => fd_bi (fv_Dk_isOrigin σ p0) = r ∧ u = σ) (fd_B D cR cP ad A) A) (va_A (fd_w cR cP ad σ) sz)) 0 0 (va_A (fd_w cR cP ad σ) sz) := by
  refine fd_ofW (cc := fb_Dk_isOrigin) (maxL := 1) (ret := (some .boolean)) (Qf := fun A => va_Qi (fun (r : Int32) (u : FDS) => fd_bi (fv_Dk_isOrigin σ p0) = r ∧ u = σ) (fd_B D cR cP ad A) A) (by decide) (Nat.le_of_ble_eq_true rfl) ?_
  intro p e s m args below meth c A Q hQ hx hb hr hts hown hlocks hml hP hK hD hS hA hN ls hl
  have hown : s.vm.findClass fn_R_Dk = some m.cls := hown
  have hl : lv_has ls 1 [(0, .int p0)] := hl
  suffices hgo : ∀ (H : Heap) (locs : List Loc), va_P D fn_cl (fd_w cR cP ad σ) H → va_D A (fd_w cR cP ad σ) → va_S A s.heap H locs → W p l e ({ frames := 0, cells := 0, slots := 0, locals := 0 } : Room) s m args below meth c H locs 0 0 Q (F0 m 0 ls []) from hgo _ _ hP hD hS
  clear hP hD hS
  intro H locs hP hD hS
  refine lv_iload_n hx hb fx_Dk_isOrigin_0 rfl (lv_at hl 0 rfl) ?_
  have hJ1 : ∀ (H : Heap) (locs : List Loc), va_P D fn_cl (fd_w cR cP ad σ) H → va_D A (fd_w cR cP ad σ) → va_S A s.heap H locs → ∀ (v1 : Bool), v1 = (if p0 < 0 then false else if 6 ≤ p0 then false else true) → W p l e ({ frames := 0, cells := 0, slots := 0, locals := 0 } : Room) s m args below meth c H locs 0 0 Q (F0 m 15 ls [.int (fd_bi v1)]) := by
    intro H locs hP hD hS v1 hv1
    exact fd_zret (r := v1) (u := σ) hQ hx hb hr ⟨by rw [fv_Dk_isOrigin, ← hv1, fv_Dk_isOrigin_j1], rfl⟩ hP hD hS fx_Dk_isOrigin_15 hlocks
  refine lv_if_lt (tgt := 14) hx hb fx_Dk_isOrigin_1 (by decide) (fun c2 => ?_) (fun c2 => ?_)
  · refine lv_iconst (v := 0) hx hb fx_Dk_isOrigin_14 (by decide) ?_
    exact hJ1 H locs hP hD hS false (by rw [if_pos c2])
  · refine lv_iload_n hx hb fx_Dk_isOrigin_4 rfl (lv_at hl 0 rfl) ?_
    refine lv_bipush (v := 6) hx hb fx_Dk_isOrigin_5 (by decide) ?_
    refine lv_icmp_ge (tgt := 14) hx hb fx_Dk_isOrigin_7 (by decide) (fun c3 => ?_) (fun c3 => ?_)
    · refine lv_iconst (v := 0) hx hb fx_Dk_isOrigin_14 (by decide) ?_
      exact hJ1 H locs hP hD hS false (by rw [if_neg c2, if_pos c3])
    · refine lv_iconst (v := 1) hx hb fx_Dk_isOrigin_10 (by decide) ?_
      refine lv_goto (tgt := 15) hx hb fx_Dk_isOrigin_11 (by decide) ?_
      exact hJ1 H locs hP hD hS true (by rw [if_neg c2, if_neg c3])
def fv_Dk_isUrl_j1 (σ : FDS) (p0 : Int32) (v1 : Bool) : Bool := v1
def fv_Dk_isUrl (σ : FDS) (p0 : Int32) : Bool := fv_Dk_isUrl_j1 σ p0 (if p0 < 0 then false else if 48 ≤ p0 then false else true)
set_option maxHeartbeats 4000000 in
set_option maxRecDepth 100000 in
theorem fc_Dk_isUrl (l : Launch) (D : va_G) (cR cP : ClassId) (ad : Nat → Nat) (sz : Nat) (σ : FDS) (p0 : Int32) (hI : fd_Inv σ)  : Met l fy_Dk_isUrl (fw_Dk_isUrl :: fb_tbl) ({ frames := 0, cells := 0, slots := 0, locals := 0 } : Room) (fd_Pc D cR cP ad [.int p0] σ sz) ((fun A => va_Qi (fun (r : Int32) (u : FDS) => fd_bi (fv_Dk_isUrl σ p0) = r ∧ u = σ) (fd_B D cR cP ad A) A) (va_A (fd_w cR cP ad σ) sz)) 0 0 (va_A (fd_w cR cP ad σ) sz) := by
  refine fd_ofW (cc := fb_Dk_isUrl) (maxL := 1) (ret := (some .boolean)) (Qf := fun A => va_Qi (fun (r : Int32) (u : FDS) => fd_bi (fv_Dk_isUrl σ p0) = r ∧ u = σ) (fd_B D cR cP ad A) A) (by decide) (Nat.le_of_ble_eq_true rfl) ?_
  intro p e s m args below meth c A Q hQ hx hb hr hts hown hlocks hml hP hK hD hS hA hN ls hl
  have hown : s.vm.findClass fn_R_Dk = some m.cls := hown
  have hl : lv_has ls 1 [(0, .int p0)] := hl
  suffices hgo : ∀ (H : Heap) (locs : List Loc), va_P D fn_cl (fd_w cR cP ad σ) H → va_D A (fd_w cR cP ad σ) → va_S A s.heap H locs → W p l e ({ frames := 0, cells := 0, slots := 0, locals := 0 } : Room) s m args below meth c H locs 0 0 Q (F0 m 0 ls []) from hgo _ _ hP hD hS
  clear hP hD hS
  intro H locs hP hD hS
  refine lv_iload_n hx hb fx_Dk_isUrl_0 rfl (lv_at hl 0 rfl) ?_
  have hJ1 : ∀ (H : Heap) (locs : List Loc), va_P D fn_cl (fd_w cR cP ad σ) H → va_D A (fd_w cR cP ad σ) → va_S A s.heap H locs → ∀ (v1 : Bool), v1 = (if p0 < 0 then false else if 48 ≤ p0 then false else true) → W p l e ({ frames := 0, cells := 0, slots := 0, locals := 0 } : Room) s m args below meth c H locs 0 0 Q (F0 m 15 ls [.int (fd_bi v1)]) := by
    intro H locs hP hD hS v1 hv1
    exact fd_zret (r := v1) (u := σ) hQ hx hb hr ⟨by rw [fv_Dk_isUrl, ← hv1, fv_Dk_isUrl_j1], rfl⟩ hP hD hS fx_Dk_isUrl_15 hlocks
  refine lv_if_lt (tgt := 14) hx hb fx_Dk_isUrl_1 (by decide) (fun c2 => ?_) (fun c2 => ?_)
  · refine lv_iconst (v := 0) hx hb fx_Dk_isUrl_14 (by decide) ?_
    exact hJ1 H locs hP hD hS false (by rw [if_pos c2])
  · refine lv_iload_n hx hb fx_Dk_isUrl_4 rfl (lv_at hl 0 rfl) ?_
    refine lv_bipush (v := 48) hx hb fx_Dk_isUrl_5 (by decide) ?_
    refine lv_icmp_ge (tgt := 14) hx hb fx_Dk_isUrl_7 (by decide) (fun c3 => ?_) (fun c3 => ?_)
    · refine lv_iconst (v := 0) hx hb fx_Dk_isUrl_14 (by decide) ?_
      exact hJ1 H locs hP hD hS false (by rw [if_neg c2, if_pos c3])
    · refine lv_iconst (v := 1) hx hb fx_Dk_isUrl_10 (by decide) ?_
      refine lv_goto (tgt := 15) hx hb fx_Dk_isUrl_11 (by decide) ?_
      exact hJ1 H locs hP hD hS true (by rw [if_neg c2, if_neg c3])
def fv_Dk_isMethod_j1 (σ : FDS) (p0 : Int32) (v1 : Bool) : Bool := v1
def fv_Dk_isMethod (σ : FDS) (p0 : Int32) : Bool := fv_Dk_isMethod_j1 σ p0 (if p0 < 0 then false else if 4 ≤ p0 then false else true)
set_option maxHeartbeats 4000000 in
set_option maxRecDepth 100000 in
theorem fc_Dk_isMethod (l : Launch) (D : va_G) (cR cP : ClassId) (ad : Nat → Nat) (sz : Nat) (σ : FDS) (p0 : Int32) (hI : fd_Inv σ)  : Met l fy_Dk_isMethod (fw_Dk_isMethod :: fb_tbl) ({ frames := 0, cells := 0, slots := 0, locals := 0 } : Room) (fd_Pc D cR cP ad [.int p0] σ sz) ((fun A => va_Qi (fun (r : Int32) (u : FDS) => fd_bi (fv_Dk_isMethod σ p0) = r ∧ u = σ) (fd_B D cR cP ad A) A) (va_A (fd_w cR cP ad σ) sz)) 0 0 (va_A (fd_w cR cP ad σ) sz) := by
  refine fd_ofW (cc := fb_Dk_isMethod) (maxL := 1) (ret := (some .boolean)) (Qf := fun A => va_Qi (fun (r : Int32) (u : FDS) => fd_bi (fv_Dk_isMethod σ p0) = r ∧ u = σ) (fd_B D cR cP ad A) A) (by decide) (Nat.le_of_ble_eq_true rfl) ?_
  intro p e s m args below meth c A Q hQ hx hb hr hts hown hlocks hml hP hK hD hS hA hN ls hl
  have hown : s.vm.findClass fn_R_Dk = some m.cls := hown
  have hl : lv_has ls 1 [(0, .int p0)] := hl
  suffices hgo : ∀ (H : Heap) (locs : List Loc), va_P D fn_cl (fd_w cR cP ad σ) H → va_D A (fd_w cR cP ad σ) → va_S A s.heap H locs → W p l e ({ frames := 0, cells := 0, slots := 0, locals := 0 } : Room) s m args below meth c H locs 0 0 Q (F0 m 0 ls []) from hgo _ _ hP hD hS
  clear hP hD hS
  intro H locs hP hD hS
  refine lv_iload_n hx hb fx_Dk_isMethod_0 rfl (lv_at hl 0 rfl) ?_
  have hJ1 : ∀ (H : Heap) (locs : List Loc), va_P D fn_cl (fd_w cR cP ad σ) H → va_D A (fd_w cR cP ad σ) → va_S A s.heap H locs → ∀ (v1 : Bool), v1 = (if p0 < 0 then false else if 4 ≤ p0 then false else true) → W p l e ({ frames := 0, cells := 0, slots := 0, locals := 0 } : Room) s m args below meth c H locs 0 0 Q (F0 m 14 ls [.int (fd_bi v1)]) := by
    intro H locs hP hD hS v1 hv1
    exact fd_zret (r := v1) (u := σ) hQ hx hb hr ⟨by rw [fv_Dk_isMethod, ← hv1, fv_Dk_isMethod_j1], rfl⟩ hP hD hS fx_Dk_isMethod_14 hlocks
  refine lv_if_lt (tgt := 13) hx hb fx_Dk_isMethod_1 (by decide) (fun c2 => ?_) (fun c2 => ?_)
  · refine lv_iconst (v := 0) hx hb fx_Dk_isMethod_13 (by decide) ?_
    exact hJ1 H locs hP hD hS false (by rw [if_pos c2])
  · refine lv_iload_n hx hb fx_Dk_isMethod_4 rfl (lv_at hl 0 rfl) ?_
    refine lv_iconst (v := 4) hx hb fx_Dk_isMethod_5 (by decide) ?_
    refine lv_icmp_ge (tgt := 13) hx hb fx_Dk_isMethod_6 (by decide) (fun c3 => ?_) (fun c3 => ?_)
    · refine lv_iconst (v := 0) hx hb fx_Dk_isMethod_13 (by decide) ?_
      exact hJ1 H locs hP hD hS false (by rw [if_neg c2, if_pos c3])
    · refine lv_iconst (v := 1) hx hb fx_Dk_isMethod_9 (by decide) ?_
      refine lv_goto (tgt := 14) hx hb fx_Dk_isMethod_10 (by decide) ?_
      exact hJ1 H locs hP hD hS true (by rw [if_neg c2, if_neg c3])
def fv_Dk_isFourBits_j1 (σ : FDS) (p0 : Int32) (v1 : Bool) : Bool := v1
def fv_Dk_isFourBits (σ : FDS) (p0 : Int32) : Bool := fv_Dk_isFourBits_j1 σ p0 (if p0 < 0 then false else if 15 < p0 then false else true)
set_option maxHeartbeats 4000000 in
set_option maxRecDepth 100000 in
theorem fc_Dk_isFourBits (l : Launch) (D : va_G) (cR cP : ClassId) (ad : Nat → Nat) (sz : Nat) (σ : FDS) (p0 : Int32) (hI : fd_Inv σ)  : Met l fy_Dk_isFourBits (fw_Dk_isFourBits :: fb_tbl) ({ frames := 0, cells := 0, slots := 0, locals := 0 } : Room) (fd_Pc D cR cP ad [.int p0] σ sz) ((fun A => va_Qi (fun (r : Int32) (u : FDS) => fd_bi (fv_Dk_isFourBits σ p0) = r ∧ u = σ) (fd_B D cR cP ad A) A) (va_A (fd_w cR cP ad σ) sz)) 0 0 (va_A (fd_w cR cP ad σ) sz) := by
  refine fd_ofW (cc := fb_Dk_isFourBits) (maxL := 1) (ret := (some .boolean)) (Qf := fun A => va_Qi (fun (r : Int32) (u : FDS) => fd_bi (fv_Dk_isFourBits σ p0) = r ∧ u = σ) (fd_B D cR cP ad A) A) (by decide) (Nat.le_of_ble_eq_true rfl) ?_
  intro p e s m args below meth c A Q hQ hx hb hr hts hown hlocks hml hP hK hD hS hA hN ls hl
  have hown : s.vm.findClass fn_R_Dk = some m.cls := hown
  have hl : lv_has ls 1 [(0, .int p0)] := hl
  suffices hgo : ∀ (H : Heap) (locs : List Loc), va_P D fn_cl (fd_w cR cP ad σ) H → va_D A (fd_w cR cP ad σ) → va_S A s.heap H locs → W p l e ({ frames := 0, cells := 0, slots := 0, locals := 0 } : Room) s m args below meth c H locs 0 0 Q (F0 m 0 ls []) from hgo _ _ hP hD hS
  clear hP hD hS
  intro H locs hP hD hS
  refine lv_iload_n hx hb fx_Dk_isFourBits_0 rfl (lv_at hl 0 rfl) ?_
  have hJ1 : ∀ (H : Heap) (locs : List Loc), va_P D fn_cl (fd_w cR cP ad σ) H → va_D A (fd_w cR cP ad σ) → va_S A s.heap H locs → ∀ (v1 : Bool), v1 = (if p0 < 0 then false else if 15 < p0 then false else true) → W p l e ({ frames := 0, cells := 0, slots := 0, locals := 0 } : Room) s m args below meth c H locs 0 0 Q (F0 m 15 ls [.int (fd_bi v1)]) := by
    intro H locs hP hD hS v1 hv1
    exact fd_zret (r := v1) (u := σ) hQ hx hb hr ⟨by rw [fv_Dk_isFourBits, ← hv1, fv_Dk_isFourBits_j1], rfl⟩ hP hD hS fx_Dk_isFourBits_15 hlocks
  refine lv_if_lt (tgt := 14) hx hb fx_Dk_isFourBits_1 (by decide) (fun c2 => ?_) (fun c2 => ?_)
  · refine lv_iconst (v := 0) hx hb fx_Dk_isFourBits_14 (by decide) ?_
    exact hJ1 H locs hP hD hS false (by rw [if_pos c2])
  · refine lv_iload_n hx hb fx_Dk_isFourBits_4 rfl (lv_at hl 0 rfl) ?_
    refine lv_bipush (v := 15) hx hb fx_Dk_isFourBits_5 (by decide) ?_
    refine lv_icmp_gt (tgt := 14) hx hb fx_Dk_isFourBits_7 (by decide) (fun c3 => ?_) (fun c3 => ?_)
    · refine lv_iconst (v := 0) hx hb fx_Dk_isFourBits_14 (by decide) ?_
      exact hJ1 H locs hP hD hS false (by rw [if_neg c2, if_pos c3])
    · refine lv_iconst (v := 1) hx hb fx_Dk_isFourBits_10 (by decide) ?_
      refine lv_goto (tgt := 15) hx hb fx_Dk_isFourBits_11 (by decide) ?_
      exact hJ1 H locs hP hD hS true (by rw [if_neg c2, if_neg c3])
def fv_Dk_isChoice_j1 (σ : FDS) (p0 : Int32) (v1 : Bool) : Bool := v1
def fv_Dk_isChoice (σ : FDS) (p0 : Int32) : Bool := fv_Dk_isChoice_j1 σ p0 (if p0 < 0 then false else if 3 ≤ p0 then false else true)
set_option maxHeartbeats 4000000 in
set_option maxRecDepth 100000 in
theorem fc_Dk_isChoice (l : Launch) (D : va_G) (cR cP : ClassId) (ad : Nat → Nat) (sz : Nat) (σ : FDS) (p0 : Int32) (hI : fd_Inv σ)  : Met l fy_Dk_isChoice (fw_Dk_isChoice :: fb_tbl) ({ frames := 0, cells := 0, slots := 0, locals := 0 } : Room) (fd_Pc D cR cP ad [.int p0] σ sz) ((fun A => va_Qi (fun (r : Int32) (u : FDS) => fd_bi (fv_Dk_isChoice σ p0) = r ∧ u = σ) (fd_B D cR cP ad A) A) (va_A (fd_w cR cP ad σ) sz)) 0 0 (va_A (fd_w cR cP ad σ) sz) := by
  refine fd_ofW (cc := fb_Dk_isChoice) (maxL := 1) (ret := (some .boolean)) (Qf := fun A => va_Qi (fun (r : Int32) (u : FDS) => fd_bi (fv_Dk_isChoice σ p0) = r ∧ u = σ) (fd_B D cR cP ad A) A) (by decide) (Nat.le_of_ble_eq_true rfl) ?_
  intro p e s m args below meth c A Q hQ hx hb hr hts hown hlocks hml hP hK hD hS hA hN ls hl
  have hown : s.vm.findClass fn_R_Dk = some m.cls := hown
  have hl : lv_has ls 1 [(0, .int p0)] := hl
  suffices hgo : ∀ (H : Heap) (locs : List Loc), va_P D fn_cl (fd_w cR cP ad σ) H → va_D A (fd_w cR cP ad σ) → va_S A s.heap H locs → W p l e ({ frames := 0, cells := 0, slots := 0, locals := 0 } : Room) s m args below meth c H locs 0 0 Q (F0 m 0 ls []) from hgo _ _ hP hD hS
  clear hP hD hS
  intro H locs hP hD hS
  refine lv_iload_n hx hb fx_Dk_isChoice_0 rfl (lv_at hl 0 rfl) ?_
  have hJ1 : ∀ (H : Heap) (locs : List Loc), va_P D fn_cl (fd_w cR cP ad σ) H → va_D A (fd_w cR cP ad σ) → va_S A s.heap H locs → ∀ (v1 : Bool), v1 = (if p0 < 0 then false else if 3 ≤ p0 then false else true) → W p l e ({ frames := 0, cells := 0, slots := 0, locals := 0 } : Room) s m args below meth c H locs 0 0 Q (F0 m 14 ls [.int (fd_bi v1)]) := by
    intro H locs hP hD hS v1 hv1
    exact fd_zret (r := v1) (u := σ) hQ hx hb hr ⟨by rw [fv_Dk_isChoice, ← hv1, fv_Dk_isChoice_j1], rfl⟩ hP hD hS fx_Dk_isChoice_14 hlocks
  refine lv_if_lt (tgt := 13) hx hb fx_Dk_isChoice_1 (by decide) (fun c2 => ?_) (fun c2 => ?_)
  · refine lv_iconst (v := 0) hx hb fx_Dk_isChoice_13 (by decide) ?_
    exact hJ1 H locs hP hD hS false (by rw [if_pos c2])
  · refine lv_iload_n hx hb fx_Dk_isChoice_4 rfl (lv_at hl 0 rfl) ?_
    refine lv_iconst (v := 3) hx hb fx_Dk_isChoice_5 (by decide) ?_
    refine lv_icmp_ge (tgt := 13) hx hb fx_Dk_isChoice_6 (by decide) (fun c3 => ?_) (fun c3 => ?_)
    · refine lv_iconst (v := 0) hx hb fx_Dk_isChoice_13 (by decide) ?_
      exact hJ1 H locs hP hD hS false (by rw [if_neg c2, if_pos c3])
    · refine lv_iconst (v := 1) hx hb fx_Dk_isChoice_9 (by decide) ?_
      refine lv_goto (tgt := 14) hx hb fx_Dk_isChoice_10 (by decide) ?_
      exact hJ1 H locs hP hD hS true (by rw [if_neg c2, if_neg c3])
def fv_Dk_isSimple_j1 (σ : FDS) (p0 : Int32) (v1 : Bool) : Bool := v1
def fv_Dk_isSimple (σ : FDS) (p0 : Int32) : Bool := fv_Dk_isSimple_j1 σ p0 (if p0 = 0 then true else if p0 = 1 then true else false)
set_option maxHeartbeats 4000000 in
set_option maxRecDepth 100000 in
theorem fc_Dk_isSimple (l : Launch) (D : va_G) (cR cP : ClassId) (ad : Nat → Nat) (sz : Nat) (σ : FDS) (p0 : Int32) (hI : fd_Inv σ)  : Met l fy_Dk_isSimple (fw_Dk_isSimple :: fb_tbl) ({ frames := 0, cells := 0, slots := 0, locals := 0 } : Room) (fd_Pc D cR cP ad [.int p0] σ sz) ((fun A => va_Qi (fun (r : Int32) (u : FDS) => fd_bi (fv_Dk_isSimple σ p0) = r ∧ u = σ) (fd_B D cR cP ad A) A) (va_A (fd_w cR cP ad σ) sz)) 0 0 (va_A (fd_w cR cP ad σ) sz) := by
  refine fd_ofW (cc := fb_Dk_isSimple) (maxL := 1) (ret := (some .boolean)) (Qf := fun A => va_Qi (fun (r : Int32) (u : FDS) => fd_bi (fv_Dk_isSimple σ p0) = r ∧ u = σ) (fd_B D cR cP ad A) A) (by decide) (Nat.le_of_ble_eq_true rfl) ?_
  intro p e s m args below meth c A Q hQ hx hb hr hts hown hlocks hml hP hK hD hS hA hN ls hl
  have hown : s.vm.findClass fn_R_Dk = some m.cls := hown
  have hl : lv_has ls 1 [(0, .int p0)] := hl
  suffices hgo : ∀ (H : Heap) (locs : List Loc), va_P D fn_cl (fd_w cR cP ad σ) H → va_D A (fd_w cR cP ad σ) → va_S A s.heap H locs → W p l e ({ frames := 0, cells := 0, slots := 0, locals := 0 } : Room) s m args below meth c H locs 0 0 Q (F0 m 0 ls []) from hgo _ _ hP hD hS
  clear hP hD hS
  intro H locs hP hD hS
  refine lv_iload_n hx hb fx_Dk_isSimple_0 rfl (lv_at hl 0 rfl) ?_
  have hJ1 : ∀ (H : Heap) (locs : List Loc), va_P D fn_cl (fd_w cR cP ad σ) H → va_D A (fd_w cR cP ad σ) → va_S A s.heap H locs → ∀ (v1 : Bool), v1 = (if p0 = 0 then true else if p0 = 1 then true else false) → W p l e ({ frames := 0, cells := 0, slots := 0, locals := 0 } : Room) s m args below meth c H locs 0 0 Q (F0 m 14 ls [.int (fd_bi v1)]) := by
    intro H locs hP hD hS v1 hv1
    exact fd_zret (r := v1) (u := σ) hQ hx hb hr ⟨by rw [fv_Dk_isSimple, ← hv1, fv_Dk_isSimple_j1], rfl⟩ hP hD hS fx_Dk_isSimple_14 hlocks
  refine lv_if_eq (tgt := 9) hx hb fx_Dk_isSimple_1 (by decide) (fun c2 => ?_) (fun c2 => ?_)
  · refine lv_iconst (v := 1) hx hb fx_Dk_isSimple_9 (by decide) ?_
    refine lv_goto (tgt := 14) hx hb fx_Dk_isSimple_10 (by decide) ?_
    exact hJ1 H locs hP hD hS true (by rw [if_pos c2])
  · refine lv_iload_n hx hb fx_Dk_isSimple_4 rfl (lv_at hl 0 rfl) ?_
    refine lv_iconst (v := 1) hx hb fx_Dk_isSimple_5 (by decide) ?_
    refine lv_icmp_ne (tgt := 13) hx hb fx_Dk_isSimple_6 (by decide) (fun c3 => ?_) (fun c3 => ?_)
    · refine lv_iconst (v := 0) hx hb fx_Dk_isSimple_13 (by decide) ?_
      exact hJ1 H locs hP hD hS false (by rw [if_neg c2, if_neg c3])
    · refine lv_iconst (v := 1) hx hb fx_Dk_isSimple_9 (by decide) ?_
      refine lv_goto (tgt := 14) hx hb fx_Dk_isSimple_10 (by decide) ?_
      exact hJ1 H locs hP hD hS true (by rw [if_neg c2, if_pos c3])
def fv_Dk_isPlain_j2 (σ : FDS) (p0 : Int32) (p1 : Int32) (v2 : Bool) : Bool := v2
def fv_Dk_isPlain (σ : FDS) (p0 : Int32) (p1 : Int32) : Bool := fv_Dk_isPlain_j2 σ p0 p1 (if (fv_Dk_isSimple σ p0) = true then if p1 = 0 then true else false else false)
set_option maxHeartbeats 4000000 in
set_option maxRecDepth 100000 in
theorem fc_Dk_isPlain (l : Launch) (D : va_G) (cR cP : ClassId) (ad : Nat → Nat) (sz : Nat) (σ : FDS) (p0 : Int32) (p1 : Int32) (hI : fd_Inv σ)  : Met l fy_Dk_isPlain (fw_Dk_isPlain :: fb_tbl) ({ frames := 1, cells := 0, slots := 0, locals := 20 } : Room) (fd_Pc D cR cP ad [.int p0, .int p1] σ sz) ((fun A => va_Qi (fun (r : Int32) (u : FDS) => fd_bi (fv_Dk_isPlain σ p0 p1) = r ∧ u = σ) (fd_B D cR cP ad A) A) (va_A (fd_w cR cP ad σ) sz)) 0 0 (va_A (fd_w cR cP ad σ) sz) := by
  refine fd_ofW (cc := fb_Dk_isPlain) (maxL := 2) (ret := (some .boolean)) (Qf := fun A => va_Qi (fun (r : Int32) (u : FDS) => fd_bi (fv_Dk_isPlain σ p0 p1) = r ∧ u = σ) (fd_B D cR cP ad A) A) (by decide) (Nat.le_of_ble_eq_true rfl) ?_
  intro p e s m args below meth c A Q hQ hx hb hr hts hown hlocks hml hP hK hD hS hA hN ls hl
  have hown : s.vm.findClass fn_R_Dk = some m.cls := hown
  have hl : lv_has ls 2 [(0, .int p0), (1, .int p1)] := hl
  suffices hgo : ∀ (H : Heap) (locs : List Loc), va_P D fn_cl (fd_w cR cP ad σ) H → va_D A (fd_w cR cP ad σ) → va_S A s.heap H locs → W p l e ({ frames := 1, cells := 0, slots := 0, locals := 20 } : Room) s m args below meth c H locs 0 0 Q (F0 m 0 ls []) from hgo _ _ hP hD hS
  clear hP hD hS
  intro H locs hP hD hS
  refine lv_iload_n hx hb fx_Dk_isPlain_0 rfl (lv_at hl 0 rfl) ?_
  refine fd_callz (va_runS (As := [.int p0]) (rest := []) ⟨hx, hb, hml, hown, hts⟩ (fc_Dk_isSimple l D cR cP ad H.size σ p0 hI ) ⟨callB_of 1 hts (fb_good fm_Dk_isSimple) rfl rfl rfl (hts _ (List.mem_cons_of_mem _ fq_1)) (hts _ (List.mem_cons_of_mem _ fq_359)) (by decide +kernel) ⟨Nat.le_of_ble_eq_true rfl, Nat.le_of_ble_eq_true rfl⟩, (hts _ (List.mem_cons_of_mem _ fq_360))⟩ (fd_preS hP hK hD hN) rfl rfl hl.1 rfl (lv_room (Nat.le_of_ble_eq_true rfl)) fx_Dk_isPlain_1 ⟨Nat.le_of_ble_eq_true rfl, Nat.le_of_ble_eq_true rfl⟩) hD hS hA (fun H locs hP hD hS => ?_)
  have hJ2 : ∀ (H : Heap) (locs : List Loc), va_P D fn_cl (fd_w cR cP ad σ) H → va_D A (fd_w cR cP ad σ) → va_S A s.heap H locs → ∀ (v2 : Bool), v2 = (if (fv_Dk_isSimple σ p0) = true then if p1 = 0 then true else false else false) → W p l e ({ frames := 1, cells := 0, slots := 0, locals := 20 } : Room) s m args below meth c H locs 0 0 Q (F0 m 16 ls [.int (fd_bi v2)]) := by
    intro H locs hP hD hS v2 hv2
    exact fd_zret (r := v2) (u := σ) hQ hx hb hr ⟨by rw [fv_Dk_isPlain, ← hv2, fv_Dk_isPlain_j2], rfl⟩ hP hD hS fx_Dk_isPlain_16 hlocks
  refine fd_ifeq (tgt := 15) hx hb fx_Dk_isPlain_4 (by decide) (fun c3 => ?_) (fun c3 => ?_)
  · refine lv_iconst (v := 0) hx hb fx_Dk_isPlain_15 (by decide) ?_
    exact hJ2 H locs hP hD hS false (by rw [if_neg c3])
  · refine lv_iload_n hx hb fx_Dk_isPlain_7 rfl (lv_at hl 1 rfl) ?_
    refine lv_if_ne (tgt := 15) hx hb fx_Dk_isPlain_8 (by decide) (fun c4 => ?_) (fun c4 => ?_)
    · refine lv_iconst (v := 0) hx hb fx_Dk_isPlain_15 (by decide) ?_
      exact hJ2 H locs hP hD hS false (by rw [if_pos c3, if_neg c4])
    · refine lv_iconst (v := 1) hx hb fx_Dk_isPlain_11 (by decide) ?_
      refine lv_goto (tgt := 16) hx hb fx_Dk_isPlain_12 (by decide) ?_
      exact hJ2 H locs hP hD hS true (by rw [if_pos c3, if_pos c4])
def fv_Dk_originOf (σ : FDS) (p0 : Int32) : Int32 := p0 / 8
set_option maxHeartbeats 4000000 in
set_option maxRecDepth 100000 in
theorem fc_Dk_originOf (l : Launch) (D : va_G) (cR cP : ClassId) (ad : Nat → Nat) (sz : Nat) (σ : FDS) (p0 : Int32) (hI : fd_Inv σ)  : Met l fy_Dk_originOf (fw_Dk_originOf :: fb_tbl) ({ frames := 0, cells := 0, slots := 0, locals := 0 } : Room) (fd_Pc D cR cP ad [.int p0] σ sz) ((fun A => va_Qi (fun (r : Int32) (u : FDS) => fv_Dk_originOf σ p0 = r ∧ u = σ) (fd_B D cR cP ad A) A) (va_A (fd_w cR cP ad σ) sz)) 0 0 (va_A (fd_w cR cP ad σ) sz) := by
  refine fd_ofW (cc := fb_Dk_originOf) (maxL := 1) (ret := (some .int)) (Qf := fun A => va_Qi (fun (r : Int32) (u : FDS) => fv_Dk_originOf σ p0 = r ∧ u = σ) (fd_B D cR cP ad A) A) (by decide) (Nat.le_of_ble_eq_true rfl) ?_
  intro p e s m args below meth c A Q hQ hx hb hr hts hown hlocks hml hP hK hD hS hA hN ls hl
  have hown : s.vm.findClass fn_R_Dk = some m.cls := hown
  have hl : lv_has ls 1 [(0, .int p0)] := hl
  suffices hgo : ∀ (H : Heap) (locs : List Loc), va_P D fn_cl (fd_w cR cP ad σ) H → va_D A (fd_w cR cP ad σ) → va_S A s.heap H locs → W p l e ({ frames := 0, cells := 0, slots := 0, locals := 0 } : Room) s m args below meth c H locs 0 0 Q (F0 m 0 ls []) from hgo _ _ hP hD hS
  clear hP hD hS
  intro H locs hP hD hS
  refine lv_iload_n hx hb fx_Dk_originOf_0 rfl (lv_at hl 0 rfl) ?_
  refine lv_bipush (v := 8) hx hb fx_Dk_originOf_1 (by decide) ?_
  refine lv_idiv hx hb fx_Dk_originOf_3 (by decide) ?_
  exact fd_iret (r := p0 / 8) (u := σ) hQ hx hb hr ⟨by rw [fv_Dk_originOf], rfl⟩ hP hD hS fx_Dk_originOf_4 hlocks
def fv_Dk_lets_j4 (σ : FDS) (p0 : Int32) (p1 : Int32) (v2 : Bool) (v3 : Bool) (v4 : Bool) : Bool := v4
def fv_Dk_lets_j3 (σ : FDS) (p0 : Int32) (p1 : Int32) (v2 : Bool) (v3 : Bool) : Bool := fv_Dk_lets_j4 σ p0 p1 v2 v3 (if v2 = true then if v3 = true then true else false else false)
def fv_Dk_lets_j2 (σ : FDS) (p0 : Int32) (p1 : Int32) (v2 : Bool) : Bool := fv_Dk_lets_j3 σ p0 p1 v2 (if ((fd_qI σ 3) &&& (p1 ^^^ (-1))) = 0 then true else false)
def fv_Dk_lets (σ : FDS) (p0 : Int32) (p1 : Int32) : Bool := fv_Dk_lets_j2 σ p0 p1 (if (fv_Dk_isSimple σ (fd_qI σ 2)) = true then true else if (p0 &&& (1 <<< ((fd_qI σ 2) &&& 31))) = 0 then false else true)
set_option maxHeartbeats 4000000 in
set_option maxRecDepth 100000 in
theorem fc_Dk_lets (l : Launch) (D : va_G) (cR cP : ClassId) (ad : Nat → Nat) (sz : Nat) (σ : FDS) (p0 : Int32) (p1 : Int32) (hI : fd_Inv σ)  : Met l fy_Dk_lets (fw_Dk_lets :: fb_tbl) ({ frames := 1, cells := 0, slots := 0, locals := 20 } : Room) (fd_Pc D cR cP ad [.int p0, .int p1, .ref (ad 2)] σ sz) ((fun A => va_Qi (fun (r : Int32) (u : FDS) => fd_bi (fv_Dk_lets σ p0 p1) = r ∧ u = σ) (fd_B D cR cP ad A) A) (va_A (fd_w cR cP ad σ) sz)) 0 0 (va_A (fd_w cR cP ad σ) sz) := by
  refine fd_ofW (cc := fb_Dk_lets) (maxL := 5) (ret := (some .boolean)) (Qf := fun A => va_Qi (fun (r : Int32) (u : FDS) => fd_bi (fv_Dk_lets σ p0 p1) = r ∧ u = σ) (fd_B D cR cP ad A) A) (by decide) (Nat.le_of_ble_eq_true rfl) ?_
  intro p e s m args below meth c A Q hQ hx hb hr hts hown hlocks hml hP hK hD hS hA hN ls hl
  have hown : s.vm.findClass fn_R_Dk = some m.cls := hown
  have hl : lv_has ls 5 [(0, .int p0), (1, .int p1), (2, .ref (ad 2))] := hl
  suffices hgo : ∀ (H : Heap) (locs : List Loc), va_P D fn_cl (fd_w cR cP ad σ) H → va_D A (fd_w cR cP ad σ) → va_S A s.heap H locs → W p l e ({ frames := 1, cells := 0, slots := 0, locals := 20 } : Room) s m args below meth c H locs 0 0 Q (F0 m 0 ls []) from hgo _ _ hP hD hS
  clear hP hD hS
  intro H locs hP hD hS
  refine lv_aload_n hx hb fx_Dk_lets_0 rfl (lv_at hl 2 rfl) ?_
  refine va_getN (D := D) (ci := 2) (v := .int (fd_qI σ 2)) (C := fn_R_Rq) (T := fn_T_Rq) (N := 15) hx hb hts fn_j_Rq hown hK hP 2 rfl rfl 2 (by decide) (va_Nw.use rfl (hN _ fq_148)) (fun _ h9 => h9) rfl fx_Dk_lets_1 ?_
  refine fd_callz (va_runS (As := [.int (fd_qI σ 2)]) (rest := []) ⟨hx, hb, hml, hown, hts⟩ (fc_Dk_isSimple l D cR cP ad H.size σ (fd_qI σ 2) hI ) ⟨callB_of 1 hts (fb_good fm_Dk_isSimple) rfl rfl rfl (hts _ (List.mem_cons_of_mem _ fq_1)) (hts _ (List.mem_cons_of_mem _ fq_359)) (by decide +kernel) ⟨Nat.le_of_ble_eq_true rfl, Nat.le_of_ble_eq_true rfl⟩, (hts _ (List.mem_cons_of_mem _ fq_360))⟩ (fd_preS hP hK hD hN) rfl rfl hl.1 rfl (lv_room (Nat.le_of_ble_eq_true rfl)) fx_Dk_lets_4 ⟨Nat.le_of_ble_eq_true rfl, Nat.le_of_ble_eq_true rfl⟩) hD hS hA (fun H locs hP hD hS => ?_)
  have hJ2 : ∀ (H : Heap) (locs : List Loc), va_P D fn_cl (fd_w cR cP ad σ) H → va_D A (fd_w cR cP ad σ) → va_S A s.heap H locs → ∀ (v2 : Bool), v2 = (if (fv_Dk_isSimple σ (fd_qI σ 2)) = true then true else if (p0 &&& (1 <<< ((fd_qI σ 2) &&& 31))) = 0 then false else true) → W p l e ({ frames := 1, cells := 0, slots := 0, locals := 20 } : Room) s m args below meth c H locs 0 0 Q (F0 m 26 ls [.int (fd_bi v2)]) := by
    intro H locs hP hD hS v2 hv2
    refine lv_istore_n (lv' := [(3, .int (fd_bi v2)), (0, .int p0), (1, .int p1), (2, .ref (ad 2))]) hx hb fx_Dk_lets_26 rfl hl (by decide) rfl (fun ls hl => ?_)
    refine lv_aload_n hx hb fx_Dk_lets_27 rfl (lv_at hl 3 rfl) ?_
    refine va_getN (D := D) (ci := 2) (v := .int (fd_qI σ 3)) (C := fn_R_Rq) (T := fn_T_Rq) (N := 15) hx hb hts fn_j_Rq hown hK hP 2 rfl rfl 3 (by decide) (va_Nw.use rfl (hN _ fq_150)) (fun _ h9 => h9) rfl fx_Dk_lets_28 ?_
    refine lv_iload_n hx hb fx_Dk_lets_31 rfl (lv_at hl 2 rfl) ?_
    refine lv_iconst (v := (-1)) hx hb fx_Dk_lets_32 (by decide) ?_
    refine lv_ixor hx hb fx_Dk_lets_33 ?_
    refine lv_iand hx hb fx_Dk_lets_34 ?_
    have hJ3 : ∀ (H : Heap) (locs : List Loc), va_P D fn_cl (fd_w cR cP ad σ) H → va_D A (fd_w cR cP ad σ) → va_S A s.heap H locs → ∀ (v3 : Bool), v3 = (if ((fd_qI σ 3) &&& (p1 ^^^ (-1))) = 0 then true else false) → W p l e ({ frames := 1, cells := 0, slots := 0, locals := 20 } : Room) s m args below meth c H locs 0 0 Q (F0 m 43 ls [.int (fd_bi v3)]) := by
      intro H locs hP hD hS v3 hv3
      refine lv_istore (lv' := [(4, .int (fd_bi v3)), (3, .int (fd_bi v2)), (0, .int p0), (1, .int p1), (2, .ref (ad 2))]) hx hb fx_Dk_lets_43 hl (by decide) rfl (fun ls hl => ?_)
      refine lv_iload_n hx hb fx_Dk_lets_45 rfl (lv_at hl 1 rfl) ?_
      have hJ4 : ∀ (H : Heap) (locs : List Loc), va_P D fn_cl (fd_w cR cP ad σ) H → va_D A (fd_w cR cP ad σ) → va_S A s.heap H locs → ∀ (v4 : Bool), v4 = (if v2 = true then if v3 = true then true else false else false) → W p l e ({ frames := 1, cells := 0, slots := 0, locals := 20 } : Room) s m args below meth c H locs 0 0 Q (F0 m 59 ls [.int (fd_bi v4)]) := by
        intro H locs hP hD hS v4 hv4
        exact fd_zret (r := v4) (u := σ) hQ hx hb hr ⟨by rw [fv_Dk_lets, ← hv2, fv_Dk_lets_j2, ← hv3, fv_Dk_lets_j3, ← hv4, fv_Dk_lets_j4], rfl⟩ hP hD hS fx_Dk_lets_59 hlocks
      refine fd_ifeq (tgt := 58) hx hb fx_Dk_lets_46 (by decide) (fun c5 => ?_) (fun c5 => ?_)
      · refine lv_iconst (v := 0) hx hb fx_Dk_lets_58 (by decide) ?_
        exact hJ4 H locs hP hD hS false (by rw [if_neg c5])
      · refine lv_iload hx hb fx_Dk_lets_49 (lv_at hl 0 rfl) ?_
        refine fd_ifeq (tgt := 58) hx hb fx_Dk_lets_51 (by decide) (fun c6 => ?_) (fun c6 => ?_)
        · refine lv_iconst (v := 0) hx hb fx_Dk_lets_58 (by decide) ?_
          exact hJ4 H locs hP hD hS false (by rw [if_pos c5, if_neg c6])
        · refine lv_iconst (v := 1) hx hb fx_Dk_lets_54 (by decide) ?_
          refine lv_goto (tgt := 59) hx hb fx_Dk_lets_55 (by decide) ?_
          exact hJ4 H locs hP hD hS true (by rw [if_pos c5, if_pos c6])
    refine lv_if_ne (tgt := 42) hx hb fx_Dk_lets_35 (by decide) (fun c7 => ?_) (fun c7 => ?_)
    · refine lv_iconst (v := 0) hx hb fx_Dk_lets_42 (by decide) ?_
      exact hJ3 H locs hP hD hS false (by rw [if_neg c7])
    · refine lv_iconst (v := 1) hx hb fx_Dk_lets_38 (by decide) ?_
      refine lv_goto (tgt := 43) hx hb fx_Dk_lets_39 (by decide) ?_
      exact hJ3 H locs hP hD hS true (by rw [if_pos c7])
  refine fd_ifne (tgt := 21) hx hb fx_Dk_lets_7 (by decide) (fun c8 => ?_) (fun c8 => ?_)
  · refine lv_iconst (v := 1) hx hb fx_Dk_lets_21 (by decide) ?_
    refine lv_goto (tgt := 26) hx hb fx_Dk_lets_22 (by decide) ?_
    exact hJ2 H locs hP hD hS true (by rw [if_pos c8])
  · refine lv_iload_n hx hb fx_Dk_lets_10 rfl (lv_at hl 0 rfl) ?_
    refine lv_iconst (v := 1) hx hb fx_Dk_lets_11 (by decide) ?_
    refine lv_aload_n hx hb fx_Dk_lets_12 rfl (lv_at hl 2 rfl) ?_
    refine va_getN (D := D) (ci := 2) (v := .int (fd_qI σ 2)) (C := fn_R_Rq) (T := fn_T_Rq) (N := 15) hx hb hts fn_j_Rq hown hK hP 2 rfl rfl 2 (by decide) (va_Nw.use rfl (hN _ fq_148)) (fun _ h9 => h9) rfl fx_Dk_lets_13 ?_
    refine lv_ishl hx hb fx_Dk_lets_16 ?_
    refine lv_iand hx hb fx_Dk_lets_17 ?_
    refine lv_if_eq (tgt := 25) hx hb fx_Dk_lets_18 (by decide) (fun c9 => ?_) (fun c9 => ?_)
    · refine lv_iconst (v := 0) hx hb fx_Dk_lets_25 (by decide) ?_
      exact hJ2 H locs hP hD hS false (by rw [if_neg c8, if_pos c9])
    · refine lv_iconst (v := 1) hx hb fx_Dk_lets_21 (by decide) ?_
      refine lv_goto (tgt := 26) hx hb fx_Dk_lets_22 (by decide) ?_
      exact hJ2 H locs hP hD hS true (by rw [if_neg c8, if_neg c9])
def fv_Rs_isRedirect (σ : FDS) (j0 : Nat) : Bool := if (fd_rI σ j0 2) = (-1) then false else if (fd_rI σ j0 0) = 301 then true else if (fd_rI σ j0 0) = 302 then true else if (fd_rI σ j0 0) = 303 then true else if (fd_rI σ j0 0) = 304 then false else if (fd_rI σ j0 0) = 305 then false else if (fd_rI σ j0 0) = 306 then false else if (fd_rI σ j0 0) = 307 then true else if (fd_rI σ j0 0) = 308 then true else false
set_option maxHeartbeats 4000000 in
set_option maxRecDepth 100000 in
theorem fc_Rs_isRedirect (l : Launch) (D : va_G) (cR cP : ClassId) (ad : Nat → Nat) (sz : Nat) (σ : FDS) (j0 : Nat) (hj0 : j0 < 48) (hI : fd_Inv σ)  : Met l fy_Rs_isRedirect (fw_Rs_isRedirect :: fb_tbl) ({ frames := 0, cells := 0, slots := 0, locals := 0 } : Room) (fd_Pc D cR cP ad [.ref (ad (3 + j0))] σ sz) ((fun A => va_Qi (fun (r : Int32) (u : FDS) => fd_bi (fv_Rs_isRedirect σ j0) = r ∧ u = σ) (fd_B D cR cP ad A) A) (va_A (fd_w cR cP ad σ) sz)) 0 0 (va_A (fd_w cR cP ad σ) sz) := by
  refine fd_ofW (cc := fb_Rs_isRedirect) (maxL := 1) (ret := (some .boolean)) (Qf := fun A => va_Qi (fun (r : Int32) (u : FDS) => fd_bi (fv_Rs_isRedirect σ j0) = r ∧ u = σ) (fd_B D cR cP ad A) A) (by decide) (Nat.le_of_ble_eq_true rfl) ?_
  intro p e s m args below meth c A Q hQ hx hb hr hts hown hlocks hml hP hK hD hS hA hN ls hl
  have hown : s.vm.findClass fn_R_Rs = some m.cls := hown
  have hl : lv_has ls 1 [(0, .ref (ad (3 + j0)))] := hl
  suffices hgo : ∀ (H : Heap) (locs : List Loc), va_P D fn_cl (fd_w cR cP ad σ) H → va_D A (fd_w cR cP ad σ) → va_S A s.heap H locs → W p l e ({ frames := 0, cells := 0, slots := 0, locals := 0 } : Room) s m args below meth c H locs 0 0 Q (F0 m 0 ls []) from hgo _ _ hP hD hS
  clear hP hD hS
  intro H locs hP hD hS
  refine lv_aload_n hx hb fx_Rs_isRedirect_0 rfl (lv_at hl 0 rfl) ?_
  refine va_get (D := D) (ci := 3) (v := .int (fd_rI σ j0 2)) (C := fn_R_Rs) (T := fn_T_Rs) (N := 13) hx hb hts fn_j_Rs hown hK hP (5 + j0) (fd_w_res hj0) rfl 2 (by decide) (hts _ (List.mem_cons_of_mem _ fq_33)) (fun _ h9 => h9) rfl fx_Rs_isRedirect_1 ?_
  refine lv_iconst (v := (-1)) hx hb fx_Rs_isRedirect_4 (by decide) ?_
  refine lv_icmp_ne (tgt := 10) hx hb fx_Rs_isRedirect_5 (by decide) (fun c1 => ?_) (fun c1 => ?_)
  · refine lv_aload_n hx hb fx_Rs_isRedirect_10 rfl (lv_at hl 0 rfl) ?_
    refine va_get (D := D) (ci := 3) (v := .int (fd_rI σ j0 0)) (C := fn_R_Rs) (T := fn_T_Rs) (N := 13) hx hb hts fn_j_Rs hown hK hP (5 + j0) (fd_w_res hj0) rfl 0 (by decide) (hts _ (List.mem_cons_of_mem _ fq_28)) (fun _ h9 => h9) rfl fx_Rs_isRedirect_11 ?_
    by_cases c2 : (fd_rI σ j0 0) = 301
    · refine lv_tableIn (tgt := 60) hx hb fx_Rs_isRedirect_14 (by rw [c2]; decide) (by rw [c2]; decide) (by rw [c2]; rfl) (by decide) ?_
      refine lv_iconst (v := 1) hx hb fx_Rs_isRedirect_60 (by decide) ?_
      exact fd_zret (r := true) (u := σ) hQ hx hb hr ⟨by rw [fv_Rs_isRedirect, if_neg c1, if_pos c2], rfl⟩ hP hD hS fx_Rs_isRedirect_61 hlocks
    · by_cases c3 : (fd_rI σ j0 0) = 302
      · refine lv_tableIn (tgt := 60) hx hb fx_Rs_isRedirect_14 (by rw [c3]; decide) (by rw [c3]; decide) (by rw [c3]; rfl) (by decide) ?_
        refine lv_iconst (v := 1) hx hb fx_Rs_isRedirect_60 (by decide) ?_
        exact fd_zret (r := true) (u := σ) hQ hx hb hr ⟨by rw [fv_Rs_isRedirect, if_neg c1, if_neg c2, if_pos c3], rfl⟩ hP hD hS fx_Rs_isRedirect_61 hlocks
      · by_cases c4 : (fd_rI σ j0 0) = 303
        · refine lv_tableIn (tgt := 60) hx hb fx_Rs_isRedirect_14 (by rw [c4]; decide) (by rw [c4]; decide) (by rw [c4]; rfl) (by decide) ?_
          refine lv_iconst (v := 1) hx hb fx_Rs_isRedirect_60 (by decide) ?_
          exact fd_zret (r := true) (u := σ) hQ hx hb hr ⟨by rw [fv_Rs_isRedirect, if_neg c1, if_neg c2, if_neg c3, if_pos c4], rfl⟩ hP hD hS fx_Rs_isRedirect_61 hlocks
        · by_cases c5 : (fd_rI σ j0 0) = 304
          · refine lv_tableIn (tgt := 62) hx hb fx_Rs_isRedirect_14 (by rw [c5]; decide) (by rw [c5]; decide) (by rw [c5]; rfl) (by decide) ?_
            refine lv_iconst (v := 0) hx hb fx_Rs_isRedirect_62 (by decide) ?_
            exact fd_zret (r := false) (u := σ) hQ hx hb hr ⟨by rw [fv_Rs_isRedirect, if_neg c1, if_neg c2, if_neg c3, if_neg c4, if_pos c5], rfl⟩ hP hD hS fx_Rs_isRedirect_63 hlocks
          · by_cases c6 : (fd_rI σ j0 0) = 305
            · refine lv_tableIn (tgt := 62) hx hb fx_Rs_isRedirect_14 (by rw [c6]; decide) (by rw [c6]; decide) (by rw [c6]; rfl) (by decide) ?_
              refine lv_iconst (v := 0) hx hb fx_Rs_isRedirect_62 (by decide) ?_
              exact fd_zret (r := false) (u := σ) hQ hx hb hr ⟨by rw [fv_Rs_isRedirect, if_neg c1, if_neg c2, if_neg c3, if_neg c4, if_neg c5, if_pos c6], rfl⟩ hP hD hS fx_Rs_isRedirect_63 hlocks
            · by_cases c7 : (fd_rI σ j0 0) = 306
              · refine lv_tableIn (tgt := 62) hx hb fx_Rs_isRedirect_14 (by rw [c7]; decide) (by rw [c7]; decide) (by rw [c7]; rfl) (by decide) ?_
                refine lv_iconst (v := 0) hx hb fx_Rs_isRedirect_62 (by decide) ?_
                exact fd_zret (r := false) (u := σ) hQ hx hb hr ⟨by rw [fv_Rs_isRedirect, if_neg c1, if_neg c2, if_neg c3, if_neg c4, if_neg c5, if_neg c6, if_pos c7], rfl⟩ hP hD hS fx_Rs_isRedirect_63 hlocks
              · by_cases c8 : (fd_rI σ j0 0) = 307
                · refine lv_tableIn (tgt := 60) hx hb fx_Rs_isRedirect_14 (by rw [c8]; decide) (by rw [c8]; decide) (by rw [c8]; rfl) (by decide) ?_
                  refine lv_iconst (v := 1) hx hb fx_Rs_isRedirect_60 (by decide) ?_
                  exact fd_zret (r := true) (u := σ) hQ hx hb hr ⟨by rw [fv_Rs_isRedirect, if_neg c1, if_neg c2, if_neg c3, if_neg c4, if_neg c5, if_neg c6, if_neg c7, if_pos c8], rfl⟩ hP hD hS fx_Rs_isRedirect_61 hlocks
                · by_cases c9 : (fd_rI σ j0 0) = 308
                  · refine lv_tableIn (tgt := 60) hx hb fx_Rs_isRedirect_14 (by rw [c9]; decide) (by rw [c9]; decide) (by rw [c9]; rfl) (by decide) ?_
                    refine lv_iconst (v := 1) hx hb fx_Rs_isRedirect_60 (by decide) ?_
                    exact fd_zret (r := true) (u := σ) hQ hx hb hr ⟨by rw [fv_Rs_isRedirect, if_neg c1, if_neg c2, if_neg c3, if_neg c4, if_neg c5, if_neg c6, if_neg c7, if_neg c8, if_pos c9], rfl⟩ hP hD hS fx_Rs_isRedirect_61 hlocks
                  · refine lv_tableOut (tgt := 62) hx hb fx_Rs_isRedirect_14 (by have n301 := lv_neT c2 (a := 301) (by decide); have n302 := lv_neT c3 (a := 302) (by decide); have n303 := lv_neT c4 (a := 303) (by decide); have n304 := lv_neT c5 (a := 304) (by decide); have n305 := lv_neT c6 (a := 305) (by decide); have n306 := lv_neT c7 (a := 306) (by decide); have n307 := lv_neT c8 (a := 307) (by decide); have n308 := lv_neT c9 (a := 308) (by decide); omega) (by decide) ?_
                    refine lv_iconst (v := 0) hx hb fx_Rs_isRedirect_62 (by decide) ?_
                    exact fd_zret (r := false) (u := σ) hQ hx hb hr ⟨by rw [fv_Rs_isRedirect, if_neg c1, if_neg c2, if_neg c3, if_neg c4, if_neg c5, if_neg c6, if_neg c7, if_neg c8, if_neg c9], rfl⟩ hP hD hS fx_Rs_isRedirect_63 hlocks
  · refine lv_iconst (v := 0) hx hb fx_Rs_isRedirect_8 (by decide) ?_
    exact fd_zret (r := false) (u := σ) hQ hx hb hr ⟨by rw [fv_Rs_isRedirect, if_pos c1], rfl⟩ hP hD hS fx_Rs_isRedirect_9 hlocks
def fv_Rs_turnsIntoGet_j2 (σ : FDS) (j0 : Nat) (p1 : Int32) (v2 : Bool) : Bool := v2
def fv_Rs_turnsIntoGet_j7 (σ : FDS) (j0 : Nat) (p1 : Int32) (v7 : Bool) : Bool := v7
def fv_Rs_turnsIntoGet (σ : FDS) (j0 : Nat) (p1 : Int32) : Bool := if (fd_rI σ j0 0) = 303 then fv_Rs_turnsIntoGet_j7 σ j0 p1 (if p1 = 0 then false else true) else fv_Rs_turnsIntoGet_j2 σ j0 p1 (if (fd_rI σ j0 0) = 301 then if p1 = 1 then true else false else if (fd_rI σ j0 0) = 302 then if p1 = 1 then true else false else false)
set_option maxHeartbeats 4000000 in
set_option maxRecDepth 100000 in
theorem fc_Rs_turnsIntoGet (l : Launch) (D : va_G) (cR cP : ClassId) (ad : Nat → Nat) (sz : Nat) (σ : FDS) (j0 : Nat) (hj0 : j0 < 48) (p1 : Int32) (hI : fd_Inv σ)  : Met l fy_Rs_turnsIntoGet (fw_Rs_turnsIntoGet :: fb_tbl) ({ frames := 0, cells := 0, slots := 0, locals := 0 } : Room) (fd_Pc D cR cP ad [.ref (ad (3 + j0)), .int p1] σ sz) ((fun A => va_Qi (fun (r : Int32) (u : FDS) => fd_bi (fv_Rs_turnsIntoGet σ j0 p1) = r ∧ u = σ) (fd_B D cR cP ad A) A) (va_A (fd_w cR cP ad σ) sz)) 0 0 (va_A (fd_w cR cP ad σ) sz) := by
  refine fd_ofW (cc := fb_Rs_turnsIntoGet) (maxL := 2) (ret := (some .boolean)) (Qf := fun A => va_Qi (fun (r : Int32) (u : FDS) => fd_bi (fv_Rs_turnsIntoGet σ j0 p1) = r ∧ u = σ) (fd_B D cR cP ad A) A) (by decide) (Nat.le_of_ble_eq_true rfl) ?_
  intro p e s m args below meth c A Q hQ hx hb hr hts hown hlocks hml hP hK hD hS hA hN ls hl
  have hown : s.vm.findClass fn_R_Rs = some m.cls := hown
  have hl : lv_has ls 2 [(0, .ref (ad (3 + j0))), (1, .int p1)] := hl
  suffices hgo : ∀ (H : Heap) (locs : List Loc), va_P D fn_cl (fd_w cR cP ad σ) H → va_D A (fd_w cR cP ad σ) → va_S A s.heap H locs → W p l e ({ frames := 0, cells := 0, slots := 0, locals := 0 } : Room) s m args below meth c H locs 0 0 Q (F0 m 0 ls []) from hgo _ _ hP hD hS
  clear hP hD hS
  intro H locs hP hD hS
  refine lv_aload_n hx hb fx_Rs_turnsIntoGet_0 rfl (lv_at hl 0 rfl) ?_
  refine va_get (D := D) (ci := 3) (v := .int (fd_rI σ j0 0)) (C := fn_R_Rs) (T := fn_T_Rs) (N := 13) hx hb hts fn_j_Rs hown hK hP (5 + j0) (fd_w_res hj0) rfl 0 (by decide) (hts _ (List.mem_cons_of_mem _ fq_28)) (fun _ h9 => h9) rfl fx_Rs_turnsIntoGet_1 ?_
  refine lv_sipush (v := 303) hx hb fx_Rs_turnsIntoGet_4 (by decide) ?_
  refine lv_icmp_ne (tgt := 20) hx hb fx_Rs_turnsIntoGet_7 (by decide) (fun c1 => ?_) (fun c1 => ?_)
  · refine lv_aload_n hx hb fx_Rs_turnsIntoGet_20 rfl (lv_at hl 0 rfl) ?_
    refine va_get (D := D) (ci := 3) (v := .int (fd_rI σ j0 0)) (C := fn_R_Rs) (T := fn_T_Rs) (N := 13) hx hb hts fn_j_Rs hown hK hP (5 + j0) (fd_w_res hj0) rfl 0 (by decide) (hts _ (List.mem_cons_of_mem _ fq_28)) (fun _ h9 => h9) rfl fx_Rs_turnsIntoGet_21 ?_
    refine lv_sipush (v := 301) hx hb fx_Rs_turnsIntoGet_24 (by decide) ?_
    have hJ2 : ∀ (H : Heap) (locs : List Loc), va_P D fn_cl (fd_w cR cP ad σ) H → va_D A (fd_w cR cP ad σ) → va_S A s.heap H locs → ∀ (v2 : Bool), v2 = (if (fd_rI σ j0 0) = 301 then if p1 = 1 then true else false else if (fd_rI σ j0 0) = 302 then if p1 = 1 then true else false else false) → W p l e ({ frames := 0, cells := 0, slots := 0, locals := 0 } : Room) s m args below meth c H locs 0 0 Q (F0 m 50 ls [.int (fd_bi v2)]) := by
      intro H locs hP hD hS v2 hv2
      exact fd_zret (r := v2) (u := σ) hQ hx hb hr ⟨by rw [fv_Rs_turnsIntoGet, if_neg c1, ← hv2, fv_Rs_turnsIntoGet_j2], rfl⟩ hP hD hS fx_Rs_turnsIntoGet_50 hlocks
    refine lv_icmp_eq (tgt := 40) hx hb fx_Rs_turnsIntoGet_27 (by decide) (fun c3 => ?_) (fun c3 => ?_)
    · refine lv_iload_n hx hb fx_Rs_turnsIntoGet_40 rfl (lv_at hl 1 rfl) ?_
      refine lv_iconst (v := 1) hx hb fx_Rs_turnsIntoGet_41 (by decide) ?_
      refine lv_icmp_ne (tgt := 49) hx hb fx_Rs_turnsIntoGet_42 (by decide) (fun c4 => ?_) (fun c4 => ?_)
      · refine lv_iconst (v := 0) hx hb fx_Rs_turnsIntoGet_49 (by decide) ?_
        exact hJ2 H locs hP hD hS false (by rw [if_pos c3, if_neg c4])
      · refine lv_iconst (v := 1) hx hb fx_Rs_turnsIntoGet_45 (by decide) ?_
        refine lv_goto (tgt := 50) hx hb fx_Rs_turnsIntoGet_46 (by decide) ?_
        exact hJ2 H locs hP hD hS true (by rw [if_pos c3, if_pos c4])
    · refine lv_aload_n hx hb fx_Rs_turnsIntoGet_30 rfl (lv_at hl 0 rfl) ?_
      refine va_get (D := D) (ci := 3) (v := .int (fd_rI σ j0 0)) (C := fn_R_Rs) (T := fn_T_Rs) (N := 13) hx hb hts fn_j_Rs hown hK hP (5 + j0) (fd_w_res hj0) rfl 0 (by decide) (hts _ (List.mem_cons_of_mem _ fq_28)) (fun _ h9 => h9) rfl fx_Rs_turnsIntoGet_31 ?_
      refine lv_sipush (v := 302) hx hb fx_Rs_turnsIntoGet_34 (by decide) ?_
      refine lv_icmp_ne (tgt := 49) hx hb fx_Rs_turnsIntoGet_37 (by decide) (fun c5 => ?_) (fun c5 => ?_)
      · refine lv_iconst (v := 0) hx hb fx_Rs_turnsIntoGet_49 (by decide) ?_
        exact hJ2 H locs hP hD hS false (by rw [if_neg c3, if_neg c5])
      · refine lv_iload_n hx hb fx_Rs_turnsIntoGet_40 rfl (lv_at hl 1 rfl) ?_
        refine lv_iconst (v := 1) hx hb fx_Rs_turnsIntoGet_41 (by decide) ?_
        refine lv_icmp_ne (tgt := 49) hx hb fx_Rs_turnsIntoGet_42 (by decide) (fun c6 => ?_) (fun c6 => ?_)
        · refine lv_iconst (v := 0) hx hb fx_Rs_turnsIntoGet_49 (by decide) ?_
          exact hJ2 H locs hP hD hS false (by rw [if_neg c3, if_pos c5, if_neg c6])
        · refine lv_iconst (v := 1) hx hb fx_Rs_turnsIntoGet_45 (by decide) ?_
          refine lv_goto (tgt := 50) hx hb fx_Rs_turnsIntoGet_46 (by decide) ?_
          exact hJ2 H locs hP hD hS true (by rw [if_neg c3, if_pos c5, if_pos c6])
  · refine lv_iload_n hx hb fx_Rs_turnsIntoGet_10 rfl (lv_at hl 1 rfl) ?_
    have hJ7 : ∀ (H : Heap) (locs : List Loc), va_P D fn_cl (fd_w cR cP ad σ) H → va_D A (fd_w cR cP ad σ) → va_S A s.heap H locs → ∀ (v7 : Bool), v7 = (if p1 = 0 then false else true) → W p l e ({ frames := 0, cells := 0, slots := 0, locals := 0 } : Room) s m args below meth c H locs 0 0 Q (F0 m 19 ls [.int (fd_bi v7)]) := by
      intro H locs hP hD hS v7 hv7
      exact fd_zret (r := v7) (u := σ) hQ hx hb hr ⟨by rw [fv_Rs_turnsIntoGet, if_pos c1, ← hv7, fv_Rs_turnsIntoGet_j7], rfl⟩ hP hD hS fx_Rs_turnsIntoGet_19 hlocks
    refine lv_if_eq (tgt := 18) hx hb fx_Rs_turnsIntoGet_11 (by decide) (fun c8 => ?_) (fun c8 => ?_)
    · refine lv_iconst (v := 0) hx hb fx_Rs_turnsIntoGet_18 (by decide) ?_
      exact hJ7 H locs hP hD hS false (by rw [if_pos c8])
    · refine lv_iconst (v := 1) hx hb fx_Rs_turnsIntoGet_14 (by decide) ?_
      refine lv_goto (tgt := 19) hx hb fx_Rs_turnsIntoGet_15 (by decide) ?_
      exact hJ7 H locs hP hD hS true (by rw [if_neg c8])
def fv_Rq_mustPass_j1 (σ : FDS) (v1 : Bool) : Bool := v1
def fv_Rq_mustPass (σ : FDS) : Bool := fv_Rq_mustPass_j1 σ (if (fd_qB σ 8) = true then if (fd_qI σ 4) = 1 then true else false else false)
set_option maxHeartbeats 4000000 in
set_option maxRecDepth 100000 in
theorem fc_Rq_mustPass (l : Launch) (D : va_G) (cR cP : ClassId) (ad : Nat → Nat) (sz : Nat) (σ : FDS)  (hI : fd_Inv σ)  : Met l fy_Rq_mustPass (fw_Rq_mustPass :: fb_tbl) ({ frames := 0, cells := 0, slots := 0, locals := 0 } : Room) (fd_Pc D cR cP ad [.ref (ad 2)] σ sz) ((fun A => va_Qi (fun (r : Int32) (u : FDS) => fd_bi (fv_Rq_mustPass σ) = r ∧ u = σ) (fd_B D cR cP ad A) A) (va_A (fd_w cR cP ad σ) sz)) 0 0 (va_A (fd_w cR cP ad σ) sz) := by
  refine fd_ofW (cc := fb_Rq_mustPass) (maxL := 1) (ret := (some .boolean)) (Qf := fun A => va_Qi (fun (r : Int32) (u : FDS) => fd_bi (fv_Rq_mustPass σ) = r ∧ u = σ) (fd_B D cR cP ad A) A) (by decide) (Nat.le_of_ble_eq_true rfl) ?_
  intro p e s m args below meth c A Q hQ hx hb hr hts hown hlocks hml hP hK hD hS hA hN ls hl
  have hown : s.vm.findClass fn_R_Rq = some m.cls := hown
  have hl : lv_has ls 1 [(0, .ref (ad 2))] := hl
  suffices hgo : ∀ (H : Heap) (locs : List Loc), va_P D fn_cl (fd_w cR cP ad σ) H → va_D A (fd_w cR cP ad σ) → va_S A s.heap H locs → W p l e ({ frames := 0, cells := 0, slots := 0, locals := 0 } : Room) s m args below meth c H locs 0 0 Q (F0 m 0 ls []) from hgo _ _ hP hD hS
  clear hP hD hS
  intro H locs hP hD hS
  refine lv_aload_n hx hb fx_Rq_mustPass_0 rfl (lv_at hl 0 rfl) ?_
  refine va_get (D := D) (ci := 2) (v := .int (fd_bi (fd_qB σ 8))) (C := fn_R_Rq) (T := fn_T_Rq) (N := 15) hx hb hts fn_j_Rq hown hK hP 2 rfl rfl 8 (by decide) (hts _ (List.mem_cons_of_mem _ fq_157)) (fun _ h9 => h9) rfl fx_Rq_mustPass_1 ?_
  have hJ1 : ∀ (H : Heap) (locs : List Loc), va_P D fn_cl (fd_w cR cP ad σ) H → va_D A (fd_w cR cP ad σ) → va_S A s.heap H locs → ∀ (v1 : Bool), v1 = (if (fd_qB σ 8) = true then if (fd_qI σ 4) = 1 then true else false else false) → W p l e ({ frames := 0, cells := 0, slots := 0, locals := 0 } : Room) s m args below meth c H locs 0 0 Q (F0 m 20 ls [.int (fd_bi v1)]) := by
    intro H locs hP hD hS v1 hv1
    exact fd_zret (r := v1) (u := σ) hQ hx hb hr ⟨by rw [fv_Rq_mustPass, ← hv1, fv_Rq_mustPass_j1], rfl⟩ hP hD hS fx_Rq_mustPass_20 hlocks
  refine fd_ifeq (tgt := 19) hx hb fx_Rq_mustPass_4 (by decide) (fun c2 => ?_) (fun c2 => ?_)
  · refine lv_iconst (v := 0) hx hb fx_Rq_mustPass_19 (by decide) ?_
    exact hJ1 H locs hP hD hS false (by rw [if_neg c2])
  · refine lv_aload_n hx hb fx_Rq_mustPass_7 rfl (lv_at hl 0 rfl) ?_
    refine va_get (D := D) (ci := 2) (v := .int (fd_qI σ 4)) (C := fn_R_Rq) (T := fn_T_Rq) (N := 15) hx hb hts fn_j_Rq hown hK hP 2 rfl rfl 4 (by decide) (hts _ (List.mem_cons_of_mem _ fq_151)) (fun _ h9 => h9) rfl fx_Rq_mustPass_8 ?_
    refine lv_iconst (v := 1) hx hb fx_Rq_mustPass_11 (by decide) ?_
    refine lv_icmp_ne (tgt := 19) hx hb fx_Rq_mustPass_12 (by decide) (fun c3 => ?_) (fun c3 => ?_)
    · refine lv_iconst (v := 0) hx hb fx_Rq_mustPass_19 (by decide) ?_
      exact hJ1 H locs hP hD hS false (by rw [if_pos c2, if_neg c3])
    · refine lv_iconst (v := 1) hx hb fx_Rq_mustPass_15 (by decide) ?_
      refine lv_goto (tgt := 20) hx hb fx_Rq_mustPass_16 (by decide) ?_
      exact hJ1 H locs hP hD hS true (by rw [if_pos c2, if_pos c3])
def fv_Rq_passes_j3 (σ : FDS) (j1 : Nat) (v1 : Bool) (v3 : Bool) : Bool := v3
def fv_Rq_passes_j6 (σ : FDS) (j1 : Nat) (v1 : Bool) (v6 : Bool) : Bool := v6
def fv_Rq_passes_j1 (σ : FDS) (j1 : Nat) (v1 : Bool) : Bool := if (fd_qB σ 9) = true then fv_Rq_passes_j6 σ j1 v1 (if v1 = true then if (fd_rB σ j1 6) = true then true else false else false) else fv_Rq_passes_j3 σ j1 v1 (if v1 = true then true else if ((fd_rI σ j1 5) &&& 128) = 0 then false else true)
def fv_Rq_passes (σ : FDS) (j1 : Nat) : Bool := fv_Rq_passes_j1 σ j1 (if ((fd_rI σ j1 5) &&& (1 <<< ((fd_qI σ 0) &&& 31))) = 0 then false else true)
set_option maxHeartbeats 4000000 in
set_option maxRecDepth 100000 in
theorem fc_Rq_passes (l : Launch) (D : va_G) (cR cP : ClassId) (ad : Nat → Nat) (sz : Nat) (σ : FDS) (j1 : Nat) (hj1 : j1 < 48) (hI : fd_Inv σ)  : Met l fy_Rq_passes (fw_Rq_passes :: fb_tbl) ({ frames := 0, cells := 0, slots := 0, locals := 0 } : Room) (fd_Pc D cR cP ad [.ref (ad 2), .ref (ad (3 + j1))] σ sz) ((fun A => va_Qi (fun (r : Int32) (u : FDS) => fd_bi (fv_Rq_passes σ j1) = r ∧ u = σ) (fd_B D cR cP ad A) A) (va_A (fd_w cR cP ad σ) sz)) 0 0 (va_A (fd_w cR cP ad σ) sz) := by
  refine fd_ofW (cc := fb_Rq_passes) (maxL := 3) (ret := (some .boolean)) (Qf := fun A => va_Qi (fun (r : Int32) (u : FDS) => fd_bi (fv_Rq_passes σ j1) = r ∧ u = σ) (fd_B D cR cP ad A) A) (by decide) (Nat.le_of_ble_eq_true rfl) ?_
  intro p e s m args below meth c A Q hQ hx hb hr hts hown hlocks hml hP hK hD hS hA hN ls hl
  have hown : s.vm.findClass fn_R_Rq = some m.cls := hown
  have hl : lv_has ls 3 [(0, .ref (ad 2)), (1, .ref (ad (3 + j1)))] := hl
  suffices hgo : ∀ (H : Heap) (locs : List Loc), va_P D fn_cl (fd_w cR cP ad σ) H → va_D A (fd_w cR cP ad σ) → va_S A s.heap H locs → W p l e ({ frames := 0, cells := 0, slots := 0, locals := 0 } : Room) s m args below meth c H locs 0 0 Q (F0 m 0 ls []) from hgo _ _ hP hD hS
  clear hP hD hS
  intro H locs hP hD hS
  refine lv_aload_n hx hb fx_Rq_passes_0 rfl (lv_at hl 1 rfl) ?_
  refine va_getN (D := D) (ci := 3) (v := .int (fd_rI σ j1 5)) (C := fn_R_Rs) (T := fn_T_Rs) (N := 13) hx hb hts fn_j_Rs hown hK hP (5 + j1) (fd_w_res hj1) rfl 5 (by decide) (va_Nw.use rfl (hN _ fq_41)) (fun _ h9 => h9) rfl fx_Rq_passes_1 ?_
  refine lv_iconst (v := 1) hx hb fx_Rq_passes_4 (by decide) ?_
  refine lv_aload_n hx hb fx_Rq_passes_5 rfl (lv_at hl 0 rfl) ?_
  refine va_get (D := D) (ci := 2) (v := .int (fd_qI σ 0)) (C := fn_R_Rq) (T := fn_T_Rq) (N := 15) hx hb hts fn_j_Rq hown hK hP 2 rfl rfl 0 (by decide) (hts _ (List.mem_cons_of_mem _ fq_139)) (fun _ h9 => h9) rfl fx_Rq_passes_6 ?_
  refine lv_ishl hx hb fx_Rq_passes_9 ?_
  refine lv_iand hx hb fx_Rq_passes_10 ?_
  have hJ1 : ∀ (H : Heap) (locs : List Loc), va_P D fn_cl (fd_w cR cP ad σ) H → va_D A (fd_w cR cP ad σ) → va_S A s.heap H locs → ∀ (v1 : Bool), v1 = (if ((fd_rI σ j1 5) &&& (1 <<< ((fd_qI σ 0) &&& 31))) = 0 then false else true) → W p l e ({ frames := 0, cells := 0, slots := 0, locals := 0 } : Room) s m args below meth c H locs 0 0 Q (F0 m 19 ls [.int (fd_bi v1)]) := by
    intro H locs hP hD hS v1 hv1
    refine lv_istore_n (lv' := [(2, .int (fd_bi v1)), (0, .ref (ad 2)), (1, .ref (ad (3 + j1)))]) hx hb fx_Rq_passes_19 rfl hl (by decide) rfl (fun ls hl => ?_)
    refine lv_aload_n hx hb fx_Rq_passes_20 rfl (lv_at hl 1 rfl) ?_
    refine va_get (D := D) (ci := 2) (v := .int (fd_bi (fd_qB σ 9))) (C := fn_R_Rq) (T := fn_T_Rq) (N := 15) hx hb hts fn_j_Rq hown hK hP 2 rfl rfl 9 (by decide) (hts _ (List.mem_cons_of_mem _ fq_160)) (fun _ h9 => h9) rfl fx_Rq_passes_21 ?_
    refine fd_ifeq (tgt := 44) hx hb fx_Rq_passes_24 (by decide) (fun c2 => ?_) (fun c2 => ?_)
    · refine lv_iload_n hx hb fx_Rq_passes_44 rfl (lv_at hl 0 rfl) ?_
      have hJ3 : ∀ (H : Heap) (locs : List Loc), va_P D fn_cl (fd_w cR cP ad σ) H → va_D A (fd_w cR cP ad σ) → va_S A s.heap H locs → ∀ (v3 : Bool), v3 = (if v1 = true then true else if ((fd_rI σ j1 5) &&& 128) = 0 then false else true) → W p l e ({ frames := 0, cells := 0, slots := 0, locals := 0 } : Room) s m args below meth c H locs 0 0 Q (F0 m 64 ls [.int (fd_bi v3)]) := by
        intro H locs hP hD hS v3 hv3
        exact fd_zret (r := v3) (u := σ) hQ hx hb hr ⟨by rw [fv_Rq_passes, ← hv1, fv_Rq_passes_j1, if_neg c2, ← hv3, fv_Rq_passes_j3], rfl⟩ hP hD hS fx_Rq_passes_64 hlocks
      refine fd_ifne (tgt := 59) hx hb fx_Rq_passes_45 (by decide) (fun c4 => ?_) (fun c4 => ?_)
      · refine lv_iconst (v := 1) hx hb fx_Rq_passes_59 (by decide) ?_
        refine lv_goto (tgt := 64) hx hb fx_Rq_passes_60 (by decide) ?_
        exact hJ3 H locs hP hD hS true (by rw [if_pos c4])
      · refine lv_aload_n hx hb fx_Rq_passes_48 rfl (lv_at hl 2 rfl) ?_
        refine va_getN (D := D) (ci := 3) (v := .int (fd_rI σ j1 5)) (C := fn_R_Rs) (T := fn_T_Rs) (N := 13) hx hb hts fn_j_Rs hown hK hP (5 + j1) (fd_w_res hj1) rfl 5 (by decide) (va_Nw.use rfl (hN _ fq_41)) (fun _ h9 => h9) rfl fx_Rq_passes_49 ?_
        refine lv_sipush (v := 128) hx hb fx_Rq_passes_52 (by decide) ?_
        refine lv_iand hx hb fx_Rq_passes_55 ?_
        refine lv_if_eq (tgt := 63) hx hb fx_Rq_passes_56 (by decide) (fun c5 => ?_) (fun c5 => ?_)
        · refine lv_iconst (v := 0) hx hb fx_Rq_passes_63 (by decide) ?_
          exact hJ3 H locs hP hD hS false (by rw [if_neg c4, if_pos c5])
        · refine lv_iconst (v := 1) hx hb fx_Rq_passes_59 (by decide) ?_
          refine lv_goto (tgt := 64) hx hb fx_Rq_passes_60 (by decide) ?_
          exact hJ3 H locs hP hD hS true (by rw [if_neg c4, if_neg c5])
    · refine lv_iload_n hx hb fx_Rq_passes_27 rfl (lv_at hl 0 rfl) ?_
      have hJ6 : ∀ (H : Heap) (locs : List Loc), va_P D fn_cl (fd_w cR cP ad σ) H → va_D A (fd_w cR cP ad σ) → va_S A s.heap H locs → ∀ (v6 : Bool), v6 = (if v1 = true then if (fd_rB σ j1 6) = true then true else false else false) → W p l e ({ frames := 0, cells := 0, slots := 0, locals := 0 } : Room) s m args below meth c H locs 0 0 Q (F0 m 43 ls [.int (fd_bi v6)]) := by
        intro H locs hP hD hS v6 hv6
        exact fd_zret (r := v6) (u := σ) hQ hx hb hr ⟨by rw [fv_Rq_passes, ← hv1, fv_Rq_passes_j1, if_pos c2, ← hv6, fv_Rq_passes_j6], rfl⟩ hP hD hS fx_Rq_passes_43 hlocks
      refine fd_ifeq (tgt := 42) hx hb fx_Rq_passes_28 (by decide) (fun c7 => ?_) (fun c7 => ?_)
      · refine lv_iconst (v := 0) hx hb fx_Rq_passes_42 (by decide) ?_
        exact hJ6 H locs hP hD hS false (by rw [if_neg c7])
      · refine lv_aload_n hx hb fx_Rq_passes_31 rfl (lv_at hl 2 rfl) ?_
        refine va_getN (D := D) (ci := 3) (v := .int (fd_bi (fd_rB σ j1 6))) (C := fn_R_Rs) (T := fn_T_Rs) (N := 13) hx hb hts fn_j_Rs hown hK hP (5 + j1) (fd_w_res hj1) rfl 6 (by decide) (va_Nw.use rfl (hN _ fq_43)) (fun _ h9 => h9) rfl fx_Rq_passes_32 ?_
        refine fd_ifeq (tgt := 42) hx hb fx_Rq_passes_35 (by decide) (fun c8 => ?_) (fun c8 => ?_)
        · refine lv_iconst (v := 0) hx hb fx_Rq_passes_42 (by decide) ?_
          exact hJ6 H locs hP hD hS false (by rw [if_pos c7, if_neg c8])
        · refine lv_iconst (v := 1) hx hb fx_Rq_passes_38 (by decide) ?_
          refine lv_goto (tgt := 43) hx hb fx_Rq_passes_39 (by decide) ?_
          exact hJ6 H locs hP hD hS true (by rw [if_pos c7, if_pos c8])
  refine lv_if_eq (tgt := 18) hx hb fx_Rq_passes_11 (by decide) (fun c9 => ?_) (fun c9 => ?_)
  · refine lv_iconst (v := 0) hx hb fx_Rq_passes_18 (by decide) ?_
    exact hJ1 H locs hP hD hS false (by rw [if_pos c9])
  · refine lv_iconst (v := 1) hx hb fx_Rq_passes_14 (by decide) ?_
    refine lv_goto (tgt := 19) hx hb fx_Rq_passes_15 (by decide) ?_
    exact hJ1 H locs hP hD hS true (by rw [if_neg c9])
def fv_Rq_show (σ : FDS) (p1 : Int32) (p2 : Int32) (p3 : Int32) (p4 : Int32) : FDS := fd_sqI (fd_sqI (fd_sqI (fd_sqI σ 11 p1) 12 p2) 13 p3) 14 p4
set_option maxHeartbeats 4000000 in
set_option maxRecDepth 100000 in
theorem fc_Rq_show (l : Launch) (D : va_G) (cR cP : ClassId) (ad : Nat → Nat) (sz : Nat) (σ : FDS) (p1 : Int32) (p2 : Int32) (p3 : Int32) (p4 : Int32) (hI : fd_Inv σ)  : Met l fy_Rq_show (fw_Rq_show :: fb_tbl) ({ frames := 0, cells := 0, slots := 0, locals := 0 } : Room) (fd_Pc D cR cP ad [.ref (ad 2), .int p1, .int p2, .int p3, .int p4] σ sz) ((fun A => va_Qv (fun u : FDS => fv_Rq_show σ p1 p2 p3 p4 = u ∧ fd_Inv u) (fd_B D cR cP ad A) A) (va_A (fd_w cR cP ad σ) sz)) 0 0 (va_A (fd_w cR cP ad σ) sz) := by
  refine fd_ofW (cc := fb_Rq_show) (maxL := 5) (ret := none) (Qf := fun A => va_Qv (fun u : FDS => fv_Rq_show σ p1 p2 p3 p4 = u ∧ fd_Inv u) (fd_B D cR cP ad A) A) (by decide) (Nat.le_of_ble_eq_true rfl) ?_
  intro p e s m args below meth c A Q hQ hx hb hr hts hown hlocks hml hP hK hD hS hA hN ls hl
  have hown : s.vm.findClass fn_R_Rq = some m.cls := hown
  have hl : lv_has ls 5 [(0, .ref (ad 2)), (1, .int p1), (2, .int p2), (3, .int p3), (4, .int p4)] := hl
  suffices hgo : ∀ (H : Heap) (locs : List Loc), va_P D fn_cl (fd_w cR cP ad σ) H → va_D A (fd_w cR cP ad σ) → va_S A s.heap H locs → W p l e ({ frames := 0, cells := 0, slots := 0, locals := 0 } : Room) s m args below meth c H locs 0 0 Q (F0 m 0 ls []) from hgo _ _ hP hD hS
  clear hP hD hS
  intro H locs hP hD hS
  refine lv_aload_n hx hb fx_Rq_show_0 rfl (lv_at hl 0 rfl) ?_
  refine lv_iload_n hx hb fx_Rq_show_1 rfl (lv_at hl 1 rfl) ?_
  refine va_put (D := D) (ci := 2) (v := .int p1) (ty := .int) (C := fn_R_Rq) (T := fn_T_Rq) (N := 15) hx hb hts fn_j_Rq fn_t_Rq fn_k_Rq fn_n_Rq hown hK hP hD hS 2 rfl rfl 11 (by decide) (hts _ (List.mem_cons_of_mem _ fq_165)) (fun _ h9 => h9) rfl (by decide +kernel) rfl rfl (Nat.le_of_ble_eq_true rfl) fx_Rq_show_2 (fun H locs hP hD hS => ?_)
  rw [fd_set_Rq_11] at hP hD
  have hI1 : fd_Inv (fd_sqI σ 11 p1) := fd_inv_sqI (by decide) hI
  refine lv_aload_n hx hb fx_Rq_show_5 rfl (lv_at hl 0 rfl) ?_
  refine lv_iload_n hx hb fx_Rq_show_6 rfl (lv_at hl 2 rfl) ?_
  refine va_put (D := D) (ci := 2) (v := .int p2) (ty := .int) (C := fn_R_Rq) (T := fn_T_Rq) (N := 15) hx hb hts fn_j_Rq fn_t_Rq fn_k_Rq fn_n_Rq hown hK hP hD hS 2 rfl rfl 12 (by decide) (hts _ (List.mem_cons_of_mem _ fq_167)) (fun _ h9 => h9) rfl (by decide +kernel) rfl rfl (Nat.le_of_ble_eq_true rfl) fx_Rq_show_7 (fun H locs hP hD hS => ?_)
  rw [fd_set_Rq_12] at hP hD
  have hI2 : fd_Inv (fd_sqI (fd_sqI σ 11 p1) 12 p2) := fd_inv_sqI (by decide) hI1
  refine lv_aload_n hx hb fx_Rq_show_10 rfl (lv_at hl 0 rfl) ?_
  refine lv_iload_n hx hb fx_Rq_show_11 rfl (lv_at hl 3 rfl) ?_
  refine va_put (D := D) (ci := 2) (v := .int p3) (ty := .int) (C := fn_R_Rq) (T := fn_T_Rq) (N := 15) hx hb hts fn_j_Rq fn_t_Rq fn_k_Rq fn_n_Rq hown hK hP hD hS 2 rfl rfl 13 (by decide) (hts _ (List.mem_cons_of_mem _ fq_169)) (fun _ h9 => h9) rfl (by decide +kernel) rfl rfl (Nat.le_of_ble_eq_true rfl) fx_Rq_show_12 (fun H locs hP hD hS => ?_)
  rw [fd_set_Rq_13] at hP hD
  have hI3 : fd_Inv (fd_sqI (fd_sqI (fd_sqI σ 11 p1) 12 p2) 13 p3) := fd_inv_sqI (by decide) hI2
  refine lv_aload_n hx hb fx_Rq_show_15 rfl (lv_at hl 0 rfl) ?_
  refine lv_iload hx hb fx_Rq_show_16 (lv_at hl 4 rfl) ?_
  refine va_put (D := D) (ci := 2) (v := .int p4) (ty := .int) (C := fn_R_Rq) (T := fn_T_Rq) (N := 15) hx hb hts fn_j_Rq fn_t_Rq fn_k_Rq fn_n_Rq hown hK hP hD hS 2 rfl rfl 14 (by decide) (hts _ (List.mem_cons_of_mem _ fq_171)) (fun _ h9 => h9) rfl (by decide +kernel) rfl rfl (Nat.le_of_ble_eq_true rfl) fx_Rq_show_18 (fun H locs hP hD hS => ?_)
  rw [fd_set_Rq_14] at hP hD
  have hI4 : fd_Inv (fd_sqI (fd_sqI (fd_sqI (fd_sqI σ 11 p1) 12 p2) 13 p3) 14 p4) := fd_inv_sqI (by decide) hI3
  exact fd_vret (u := fd_sqI (fd_sqI (fd_sqI (fd_sqI σ 11 p1) 12 p2) 13 p3) 14 p4) hQ hx hb hr ⟨by rw [fv_Rq_show], hI4⟩ hP hD hS fx_Rq_show_21 hlocks
def fv_Mm_holds_j1 (σ : FDS) (p1 : Int32) (v1 : Bool) : Bool := v1
def fv_Mm_holds (σ : FDS) (p1 : Int32) : Bool := fv_Mm_holds_j1 σ p1 (if p1 < 0 then false else if (fd_mS σ) ≤ p1 then false else true)
set_option maxHeartbeats 4000000 in
set_option maxRecDepth 100000 in
theorem fc_Mm_holds (l : Launch) (D : va_G) (cR cP : ClassId) (ad : Nat → Nat) (sz : Nat) (σ : FDS) (p1 : Int32) (hI : fd_Inv σ)  : Met l fy_Mm_holds (fw_Mm_holds :: fb_tbl) ({ frames := 0, cells := 0, slots := 0, locals := 0 } : Room) (fd_Pc D cR cP ad [.ref (ad 1), .int p1] σ sz) ((fun A => va_Qi (fun (r : Int32) (u : FDS) => fd_bi (fv_Mm_holds σ p1) = r ∧ u = σ) (fd_B D cR cP ad A) A) (va_A (fd_w cR cP ad σ) sz)) 0 0 (va_A (fd_w cR cP ad σ) sz) := by
  refine fd_ofW (cc := fb_Mm_holds) (maxL := 2) (ret := (some .boolean)) (Qf := fun A => va_Qi (fun (r : Int32) (u : FDS) => fd_bi (fv_Mm_holds σ p1) = r ∧ u = σ) (fd_B D cR cP ad A) A) (by decide) (Nat.le_of_ble_eq_true rfl) ?_
  intro p e s m args below meth c A Q hQ hx hb hr hts hown hlocks hml hP hK hD hS hA hN ls hl
  have hown : s.vm.findClass fn_R_Mm = some m.cls := hown
  have hl : lv_has ls 2 [(0, .ref (ad 1)), (1, .int p1)] := hl
  suffices hgo : ∀ (H : Heap) (locs : List Loc), va_P D fn_cl (fd_w cR cP ad σ) H → va_D A (fd_w cR cP ad σ) → va_S A s.heap H locs → W p l e ({ frames := 0, cells := 0, slots := 0, locals := 0 } : Room) s m args below meth c H locs 0 0 Q (F0 m 0 ls []) from hgo _ _ hP hD hS
  clear hP hD hS
  intro H locs hP hD hS
  refine lv_iload_n hx hb fx_Mm_holds_0 rfl (lv_at hl 1 rfl) ?_
  have hJ1 : ∀ (H : Heap) (locs : List Loc), va_P D fn_cl (fd_w cR cP ad σ) H → va_D A (fd_w cR cP ad σ) → va_S A s.heap H locs → ∀ (v1 : Bool), v1 = (if p1 < 0 then false else if (fd_mS σ) ≤ p1 then false else true) → W p l e ({ frames := 0, cells := 0, slots := 0, locals := 0 } : Room) s m args below meth c H locs 0 0 Q (F0 m 17 ls [.int (fd_bi v1)]) := by
    intro H locs hP hD hS v1 hv1
    exact fd_zret (r := v1) (u := σ) hQ hx hb hr ⟨by rw [fv_Mm_holds, ← hv1, fv_Mm_holds_j1], rfl⟩ hP hD hS fx_Mm_holds_17 hlocks
  refine lv_if_lt (tgt := 16) hx hb fx_Mm_holds_1 (by decide) (fun c2 => ?_) (fun c2 => ?_)
  · refine lv_iconst (v := 0) hx hb fx_Mm_holds_16 (by decide) ?_
    exact hJ1 H locs hP hD hS false (by rw [if_pos c2])
  · refine lv_iload_n hx hb fx_Mm_holds_4 rfl (lv_at hl 1 rfl) ?_
    refine lv_aload_n hx hb fx_Mm_holds_5 rfl (lv_at hl 0 rfl) ?_
    refine va_get (D := D) (ci := 0) (v := .int (fd_mS σ)) (C := fn_R_Mm) (T := fn_T_Mm) (N := 2) hx hb hts fn_j_Mm hown hK hP 1 rfl rfl 1 (by decide) (hts _ (List.mem_cons_of_mem _ fq_126)) (fun _ h9 => h9) rfl fx_Mm_holds_6 ?_
    refine lv_icmp_ge (tgt := 16) hx hb fx_Mm_holds_9 (by decide) (fun c3 => ?_) (fun c3 => ?_)
    · refine lv_iconst (v := 0) hx hb fx_Mm_holds_16 (by decide) ?_
      exact hJ1 H locs hP hD hS false (by rw [if_neg c2, if_pos c3])
    · refine lv_iconst (v := 1) hx hb fx_Mm_holds_12 (by decide) ?_
      refine lv_goto (tgt := 17) hx hb fx_Mm_holds_13 (by decide) ?_
      exact hJ1 H locs hP hD hS true (by rw [if_neg c2, if_neg c3])
def fv_Dk_countRequested (σ : FDS) (j1 : Nat) : FDS := if (fd_qB σ 9) = true then fd_srI (fd_srI (fd_sdI σ 6 ((fd_dI σ 6) + 1)) j1 11 ((fd_rI σ j1 11) + 1)) j1 12 ((fd_rI (fd_srI (fd_sdI σ 6 ((fd_dI σ 6) + 1)) j1 11 ((fd_rI σ j1 11) + 1)) j1 12) + 1) else fd_srI (fd_sdI σ 6 ((fd_dI σ 6) + 1)) j1 11 ((fd_rI σ j1 11) + 1)
set_option maxHeartbeats 4000000 in
set_option maxRecDepth 100000 in
theorem fc_Dk_countRequested (l : Launch) (D : va_G) (cR cP : ClassId) (ad : Nat → Nat) (sz : Nat) (σ : FDS) (j1 : Nat) (hj1 : j1 < 48) (hI : fd_Inv σ)  : Met l fy_Dk_countRequested (fw_Dk_countRequested :: fb_tbl) ({ frames := 0, cells := 0, slots := 0, locals := 0 } : Room) (fd_Pc D cR cP ad [.ref (ad 0), .ref (ad (3 + j1))] σ sz) ((fun A => va_Qv (fun u : FDS => fv_Dk_countRequested σ j1 = u ∧ fd_Inv u) (fd_B D cR cP ad A) A) (va_A (fd_w cR cP ad σ) sz)) 0 0 (va_A (fd_w cR cP ad σ) sz) := by
  refine fd_ofW (cc := fb_Dk_countRequested) (maxL := 2) (ret := none) (Qf := fun A => va_Qv (fun u : FDS => fv_Dk_countRequested σ j1 = u ∧ fd_Inv u) (fd_B D cR cP ad A) A) (by decide) (Nat.le_of_ble_eq_true rfl) ?_
  intro p e s m args below meth c A Q hQ hx hb hr hts hown hlocks hml hP hK hD hS hA hN ls hl
  have hown : s.vm.findClass fn_R_Dk = some m.cls := hown
  have hl : lv_has ls 2 [(0, .ref (ad 0)), (1, .ref (ad (3 + j1)))] := hl
  suffices hgo : ∀ (H : Heap) (locs : List Loc), va_P D fn_cl (fd_w cR cP ad σ) H → va_D A (fd_w cR cP ad σ) → va_S A s.heap H locs → W p l e ({ frames := 0, cells := 0, slots := 0, locals := 0 } : Room) s m args below meth c H locs 0 0 Q (F0 m 0 ls []) from hgo _ _ hP hD hS
  clear hP hD hS
  intro H locs hP hD hS
  refine lv_aload_n hx hb fx_Dk_countRequested_0 rfl (lv_at hl 0 rfl) ?_
  refine lv_dup hx hb fx_Dk_countRequested_1 rfl ?_
  refine va_get (D := D) (ci := 4) (v := .int (fd_dI σ 6)) (C := fn_R_Dk) (T := fn_T_Dk) (N := 9) hx hb hts fn_j_Dk hown hK hP 0 rfl rfl 6 (by decide) (hts _ (List.mem_cons_of_mem _ fq_210)) (fun _ h9 => h9) rfl fx_Dk_countRequested_2 ?_
  refine lv_iconst (v := 1) hx hb fx_Dk_countRequested_5 (by decide) ?_
  refine lv_iadd hx hb fx_Dk_countRequested_6 ?_
  refine va_put (D := D) (ci := 4) (v := .int ((fd_dI σ 6) + 1)) (ty := .int) (C := fn_R_Dk) (T := fn_T_Dk) (N := 9) hx hb hts fn_j_Dk fn_t_Dk fn_k_Dk fn_n_Dk hown hK hP hD hS 0 rfl rfl 6 (by decide) (hts _ (List.mem_cons_of_mem _ fq_210)) (fun _ h9 => h9) rfl (by decide +kernel) rfl rfl (Nat.le_of_ble_eq_true rfl) fx_Dk_countRequested_7 (fun H locs hP hD hS => ?_)
  rw [fd_set_Dk_6] at hP hD
  have hI1 : fd_Inv (fd_sdI σ 6 ((fd_dI σ 6) + 1)) := fd_inv_sdI hI
  refine lv_aload_n hx hb fx_Dk_countRequested_10 rfl (lv_at hl 1 rfl) ?_
  refine lv_dup hx hb fx_Dk_countRequested_11 rfl ?_
  refine va_getN (D := D) (ci := 3) (v := .int (fd_rI σ j1 11)) (C := fn_R_Rs) (T := fn_T_Rs) (N := 13) hx hb hts fn_j_Rs hown hK hP (5 + j1) (fd_w_res hj1) rfl 11 (by decide) (va_Nw.use rfl (hN _ fq_51)) (fun _ h9 => h9) rfl fx_Dk_countRequested_12 ?_
  refine lv_iconst (v := 1) hx hb fx_Dk_countRequested_15 (by decide) ?_
  refine lv_iadd hx hb fx_Dk_countRequested_16 ?_
  refine va_putN (D := D) (ci := 3) (v := .int ((fd_rI σ j1 11) + 1)) (ty := .int) (C := fn_R_Rs) (T := fn_T_Rs) (N := 13) hx hb hts fn_j_Rs fn_t_Rs fn_k_Rs fn_n_Rs hown hK hP hD hS (5 + j1) (fd_w_res hj1) rfl 11 (by decide) (va_Nw.use rfl (hN _ fq_51)) (fun _ h9 => h9) rfl (by decide +kernel) rfl rfl (Nat.le_of_ble_eq_true rfl) fx_Dk_countRequested_17 (fun H locs hP hD hS => ?_)
  rw [fd_set_Rs_11 hj1] at hP hD
  have hI2 : fd_Inv (fd_srI (fd_sdI σ 6 ((fd_dI σ 6) + 1)) j1 11 ((fd_rI σ j1 11) + 1)) := fd_inv_srI (by decide) hI1
  refine lv_aload_n hx hb fx_Dk_countRequested_20 rfl (lv_at hl 0 rfl) ?_
  refine va_get (D := D) (ci := 4) (v := .ref (ad 2)) (C := fn_R_Dk) (T := fn_T_Dk) (N := 9) hx hb hts fn_j_Dk hown hK hP 0 rfl rfl 2 (by decide) (hts _ (List.mem_cons_of_mem _ fq_206)) (fun _ h9 => h9) rfl fx_Dk_countRequested_21 ?_
  refine va_getN (D := D) (ci := 2) (v := .int (fd_bi (fd_qB σ 9))) (C := fn_R_Rq) (T := fn_T_Rq) (N := 15) hx hb hts fn_j_Rq hown hK hP 2 rfl rfl 9 (by decide) (va_Nw.use rfl (hN _ fq_162)) (fun _ h9 => h9) rfl fx_Dk_countRequested_24 ?_
  refine fd_ifeq (tgt := 40) hx hb fx_Dk_countRequested_27 (by decide) (fun c3 => ?_) (fun c3 => ?_)
  · exact fd_vret (u := fd_srI (fd_sdI σ 6 ((fd_dI σ 6) + 1)) j1 11 ((fd_rI σ j1 11) + 1)) hQ hx hb hr ⟨by rw [fv_Dk_countRequested, if_neg c3], hI2⟩ hP hD hS fx_Dk_countRequested_40 hlocks
  · refine lv_aload_n hx hb fx_Dk_countRequested_30 rfl (lv_at hl 1 rfl) ?_
    refine lv_dup hx hb fx_Dk_countRequested_31 rfl ?_
    refine va_getN (D := D) (ci := 3) (v := .int (fd_rI (fd_srI (fd_sdI σ 6 ((fd_dI σ 6) + 1)) j1 11 ((fd_rI σ j1 11) + 1)) j1 12)) (C := fn_R_Rs) (T := fn_T_Rs) (N := 13) hx hb hts fn_j_Rs hown hK hP (5 + j1) (fd_w_res hj1) rfl 12 (by decide) (va_Nw.use rfl (hN _ fq_52)) (fun _ h9 => h9) rfl fx_Dk_countRequested_32 ?_
    refine lv_iconst (v := 1) hx hb fx_Dk_countRequested_35 (by decide) ?_
    refine lv_iadd hx hb fx_Dk_countRequested_36 ?_
    refine va_putN (D := D) (ci := 3) (v := .int ((fd_rI (fd_srI (fd_sdI σ 6 ((fd_dI σ 6) + 1)) j1 11 ((fd_rI σ j1 11) + 1)) j1 12) + 1)) (ty := .int) (C := fn_R_Rs) (T := fn_T_Rs) (N := 13) hx hb hts fn_j_Rs fn_t_Rs fn_k_Rs fn_n_Rs hown hK hP hD hS (5 + j1) (fd_w_res hj1) rfl 12 (by decide) (va_Nw.use rfl (hN _ fq_52)) (fun _ h9 => h9) rfl (by decide +kernel) rfl rfl (Nat.le_of_ble_eq_true rfl) fx_Dk_countRequested_37 (fun H locs hP hD hS => ?_)
    rw [fd_set_Rs_12 hj1] at hP hD
    have hI4 : fd_Inv (fd_srI (fd_srI (fd_sdI σ 6 ((fd_dI σ 6) + 1)) j1 11 ((fd_rI σ j1 11) + 1)) j1 12 ((fd_rI (fd_srI (fd_sdI σ 6 ((fd_dI σ 6) + 1)) j1 11 ((fd_rI σ j1 11) + 1)) j1 12) + 1)) := fd_inv_srI (by decide) hI2
    exact fd_vret (u := fd_srI (fd_srI (fd_sdI σ 6 ((fd_dI σ 6) + 1)) j1 11 ((fd_rI σ j1 11) + 1)) j1 12 ((fd_rI (fd_srI (fd_sdI σ 6 ((fd_dI σ 6) + 1)) j1 11 ((fd_rI σ j1 11) + 1)) j1 12) + 1)) hQ hx hb hr ⟨by rw [fv_Dk_countRequested, if_pos c3], hI4⟩ hP hD hS fx_Dk_countRequested_40 hlocks
end
section
/-! small rows on indices and sizes -/
theorem fd_in6 {x : Int32} (h : ∃ k : Nat, k < 6 ∧ x = nI k) : vp_in x 6 := by
  obtain ⟨k, hk, rfl⟩ := h
  exact vp_in_nI hk (by decide)
theorem fd_6in {x : Int32} (h : vp_in x 6) : ∃ k : Nat, k < 6 ∧ x = nI k := vp_in_of h (by decide)
theorem fd_size {σ : FDS} {i : Int32} {k : Nat} (h : fd_Inv σ) (e : i = nI k) (hk : k ≤ 6) (hc : ¬ fd_mS σ ≤ i) : k < 6 ∧ ∃ m : Nat, k < m ∧ m ≤ 6 ∧ fd_mS σ = nI m := by
  obtain ⟨m, hm, em⟩ := h.2.2.1
  rw [em, e] at hc
  have : k < m := Nat.lt_of_not_le fun q => hc (nI_le q (by omega))
  exact ⟨by omega, m, this, hm, em⟩
theorem fd_idx {σ : FDS} {i : Int32} {n : Nat} (h : fd_Inv σ) (hi : ∃ k : Nat, k ≤ 6 ∧ 7 ≤ n + k ∧ i = nI k) (hc : ¬ fd_mS σ ≤ i) : vp_in i 6 := by
  obtain ⟨k, h1, h2, e⟩ := hi
  exact fd_in6 ⟨k, (fd_size h e h1 hc).1, e⟩
theorem fd_lt6 {σ : FDS} {i : Int32} {n : Nat} (h : fd_Inv σ) (hi : ∃ k : Nat, k ≤ 6 ∧ 7 ≤ n + k ∧ i = nI k) (hc : ¬ fd_mS σ ≤ i) : ∃ k : Nat, k < 6 ∧ i = nI k := fd_6in (fd_idx h hi hc)
theorem fd_step {σ : FDS} {i : Int32} {n : Nat} (h : fd_Inv σ) (hi : ∃ k : Nat, k ≤ 6 ∧ 7 ≤ n + 1 + k ∧ i = nI k) (hc : ¬ fd_mS σ ≤ i) : ∃ k : Nat, k ≤ 6 ∧ 7 ≤ n + k ∧ i + 1 = nI k := by
  obtain ⟨k, h1, h2, e⟩ := hi
  have := (fd_size h e h1 hc).1
  exact ⟨k + 1, by omega, by omega, by rw [e]; exact nI_1 k⟩
theorem fd_idxd {σ : FDS} {i : Int32} {n : Nat} (h : fd_Inv σ) (hi : ∃ k : Nat, 1 ≤ k ∧ k ≤ 6 ∧ 7 ≤ n + k ∧ i = nI k) (hc : ¬ fd_mS σ ≤ i) : vp_in i 6 := by
  obtain ⟨k, h0, h1, h2, e⟩ := hi
  exact fd_in6 ⟨k, (fd_size h e h1 hc).1, e⟩
theorem fd_idxp {i : Int32} {n : Nat} (hi : ∃ k : Nat, 1 ≤ k ∧ k ≤ 6 ∧ 7 ≤ n + k ∧ i = nI k) : vp_in (i - 1) 6 := by
  obtain ⟨k, h0, h1, h2, e⟩ := hi
  refine fd_in6 ⟨k - 1, by omega, ?_⟩
  rw [e, show (1 : Int32) = nI 1 from rfl, pk_sub h0]
theorem fd_stepd {σ : FDS} {i : Int32} {n : Nat} (h : fd_Inv σ) (hi : ∃ k : Nat, 1 ≤ k ∧ k ≤ 6 ∧ 7 ≤ n + 1 + k ∧ i = nI k) (hc : ¬ fd_mS σ ≤ i) : ∃ k : Nat, 1 ≤ k ∧ k ≤ 6 ∧ 7 ≤ n + k ∧ i + 1 = nI k := by
  obtain ⟨k, h0, h1, h2, e⟩ := hi
  have := (fd_size h e h1 hc).1
  exact ⟨k + 1, by omega, by omega, by omega, by rw [e]; exact nI_1 k⟩
theorem fd_k1 {p : Int32} (h : ∃ k : Nat, k < 6 ∧ p = nI k) : ∃ k : Nat, 1 ≤ k ∧ k ≤ 6 ∧ 7 ≤ 7 + k ∧ p + 1 = nI k := by
  obtain ⟨k, hk, rfl⟩ := h
  exact ⟨k + 1, by omega, by omega, by omega, nI_1 k⟩
theorem fd_dec {x y : Int32} (h : ∃ n : Nat, n < 6 ∧ y = nI (n + 1)) (e : x = y) : ∃ n : Nat, n < 6 ∧ x - 1 = nI n := by
  obtain ⟨n, hn, rfl⟩ := h
  refine ⟨n, hn, ?_⟩
  rw [e, show (1 : Int32) = nI 1 from rfl, pk_sub (by omega)]
  rfl
theorem fd_le6 {x : Int32} (h : ∃ n : Nat, n < 6 ∧ x = nI n) : ∃ n : Nat, n ≤ 6 ∧ x = nI n := by
  obtain ⟨n, hn, e⟩ := h
  exact ⟨n, by omega, e⟩
theorem fd_inc {x : Int32} (h : vp_in x 6) : ∃ n : Nat, n ≤ 6 ∧ x + 1 = nI n := by
  obtain ⟨n, hn, rfl⟩ := fd_6in h
  exact ⟨n + 1, by omega, nI_1 n⟩
theorem fd_szB {σ : FDS} (h : fd_Inv σ) (c : ¬ fd_mS σ = 6) : vp_in (fd_mS σ) 6 := by
  obtain ⟨n, hn, e⟩ := h.2.2.1
  refine fd_in6 ⟨n, ?_, e⟩
  rcases Nat.lt_or_ge n 6 with q | q
  · exact q
  · exact absurd (by rw [e, show n = 6 by omega]; rfl) c
theorem fd_tgt {σ : FDS} {j : Nat} (h : fd_Inv σ) (hj : j < 48) (ht : ¬ fd_rI σ j 2 = -1) : vp_in (fd_rI σ j 2) 48 := (h.2.1 j hj).resolve_left ht
theorem fd_fin10 : FP.Core.DFin 4621819117588971520 := (FP.Core.fin_bits _).mpr (by decide)
end
section
/-! the desk: requests and the memory, first part -/
def fv_Rq_begin (σ : FDS) (p1 : Int32) (p2 : Int32) (p3 : Int32) (p4 : Int32) (p5 : Int32) (p6 : Int32) (p7 : Int32) : FDS := (fv_Rq_show (fd_sqI (fd_sqB (fd_sqB (fd_sqI (fd_sqI (fd_sqI (fd_sqI (fd_sqI (fd_sqI (fd_sqI (fd_sqI σ 0 p1) 1 p2) 2 p3) 3 p4) 4 p5) 5 p6) 6 p7) 7 0) 8 false) 9 false) 10 0) 0 0 0 0)
set_option maxHeartbeats 4000000 in
set_option maxRecDepth 100000 in
theorem fc_Rq_begin (l : Launch) (D : va_G) (cR cP : ClassId) (ad : Nat → Nat) (sz : Nat) (σ : FDS) (p1 : Int32) (p2 : Int32) (p3 : Int32) (p4 : Int32) (p5 : Int32) (p6 : Int32) (p7 : Int32) (hI : fd_Inv σ) (hu : vp_in p2 48) : Met l fy_Rq_begin (fw_Rq_begin :: fb_tbl) ({ frames := 1, cells := 0, slots := 0, locals := 24 } : Room) (fd_Pc D cR cP ad [.ref (ad 2), .int p1, .int p2, .int p3, .int p4, .int p5, .int p6, .int p7] σ sz) ((fun A => va_Qv (fun u : FDS => fv_Rq_begin σ p1 p2 p3 p4 p5 p6 p7 = u ∧ fd_Inv u) (fd_B D cR cP ad A) A) (va_A (fd_w cR cP ad σ) sz)) 0 0 (va_A (fd_w cR cP ad σ) sz) := by
  refine fd_ofW (cc := fb_Rq_begin) (maxL := 8) (ret := none) (Qf := fun A => va_Qv (fun u : FDS => fv_Rq_begin σ p1 p2 p3 p4 p5 p6 p7 = u ∧ fd_Inv u) (fd_B D cR cP ad A) A) (by decide) (Nat.le_of_ble_eq_true rfl) ?_
  intro p e s m args below meth c A Q hQ hx hb hr hts hown hlocks hml hP hK hD hS hA hN ls hl
  have hown : s.vm.findClass fn_R_Rq = some m.cls := hown
  have hl : lv_has ls 8 [(0, .ref (ad 2)), (1, .int p1), (2, .int p2), (3, .int p3), (4, .int p4), (5, .int p5), (6, .int p6), (7, .int p7)] := hl
  suffices hgo : ∀ (H : Heap) (locs : List Loc), va_P D fn_cl (fd_w cR cP ad σ) H → va_D A (fd_w cR cP ad σ) → va_S A s.heap H locs → W p l e ({ frames := 1, cells := 0, slots := 0, locals := 24 } : Room) s m args below meth c H locs 0 0 Q (F0 m 0 ls []) from hgo _ _ hP hD hS
  clear hP hD hS
  intro H locs hP hD hS
  refine lv_aload_n hx hb fx_Rq_begin_0 rfl (lv_at hl 0 rfl) ?_
  refine lv_iload_n hx hb fx_Rq_begin_1 rfl (lv_at hl 1 rfl) ?_
  refine va_put (D := D) (ci := 2) (v := .int p1) (ty := .int) (C := fn_R_Rq) (T := fn_T_Rq) (N := 15) hx hb hts fn_j_Rq fn_t_Rq fn_k_Rq fn_n_Rq hown hK hP hD hS 2 rfl rfl 0 (by decide) (hts _ (List.mem_cons_of_mem _ fq_139)) (fun _ h9 => h9) rfl (by decide +kernel) rfl rfl (Nat.le_of_ble_eq_true rfl) fx_Rq_begin_2 (fun H locs hP hD hS => ?_)
  rw [fd_set_Rq_0] at hP hD
  have hI1 : fd_Inv (fd_sqI σ 0 p1) := fd_inv_sqI (by decide) hI
  refine lv_aload_n hx hb fx_Rq_begin_5 rfl (lv_at hl 0 rfl) ?_
  refine lv_iload_n hx hb fx_Rq_begin_6 rfl (lv_at hl 2 rfl) ?_
  refine va_put (D := D) (ci := 2) (v := .int p2) (ty := .int) (C := fn_R_Rq) (T := fn_T_Rq) (N := 15) hx hb hts fn_j_Rq fn_t_Rq fn_k_Rq fn_n_Rq hown hK hP hD hS 2 rfl rfl 1 (by decide) (hts _ (List.mem_cons_of_mem _ fq_143)) (fun _ h9 => h9) rfl (by decide +kernel) rfl rfl (Nat.le_of_ble_eq_true rfl) fx_Rq_begin_7 (fun H locs hP hD hS => ?_)
  rw [fd_set_Rq_1] at hP hD
  have hI2 : fd_Inv (fd_sqI (fd_sqI σ 0 p1) 1 p2) := fd_inv_url hu hI1
  refine lv_aload_n hx hb fx_Rq_begin_10 rfl (lv_at hl 0 rfl) ?_
  refine lv_iload_n hx hb fx_Rq_begin_11 rfl (lv_at hl 3 rfl) ?_
  refine va_put (D := D) (ci := 2) (v := .int p3) (ty := .int) (C := fn_R_Rq) (T := fn_T_Rq) (N := 15) hx hb hts fn_j_Rq fn_t_Rq fn_k_Rq fn_n_Rq hown hK hP hD hS 2 rfl rfl 2 (by decide) (hts _ (List.mem_cons_of_mem _ fq_147)) (fun _ h9 => h9) rfl (by decide +kernel) rfl rfl (Nat.le_of_ble_eq_true rfl) fx_Rq_begin_12 (fun H locs hP hD hS => ?_)
  rw [fd_set_Rq_2] at hP hD
  have hI3 : fd_Inv (fd_sqI (fd_sqI (fd_sqI σ 0 p1) 1 p2) 2 p3) := fd_inv_sqI (by decide) hI2
  refine lv_aload_n hx hb fx_Rq_begin_15 rfl (lv_at hl 0 rfl) ?_
  refine lv_iload hx hb fx_Rq_begin_16 (lv_at hl 4 rfl) ?_
  refine va_put (D := D) (ci := 2) (v := .int p4) (ty := .int) (C := fn_R_Rq) (T := fn_T_Rq) (N := 15) hx hb hts fn_j_Rq fn_t_Rq fn_k_Rq fn_n_Rq hown hK hP hD hS 2 rfl rfl 3 (by decide) (hts _ (List.mem_cons_of_mem _ fq_149)) (fun _ h9 => h9) rfl (by decide +kernel) rfl rfl (Nat.le_of_ble_eq_true rfl) fx_Rq_begin_18 (fun H locs hP hD hS => ?_)
  rw [fd_set_Rq_3] at hP hD
  have hI4 : fd_Inv (fd_sqI (fd_sqI (fd_sqI (fd_sqI σ 0 p1) 1 p2) 2 p3) 3 p4) := fd_inv_sqI (by decide) hI3
  refine lv_aload_n hx hb fx_Rq_begin_21 rfl (lv_at hl 0 rfl) ?_
  refine lv_iload hx hb fx_Rq_begin_22 (lv_at hl 5 rfl) ?_
  refine va_put (D := D) (ci := 2) (v := .int p5) (ty := .int) (C := fn_R_Rq) (T := fn_T_Rq) (N := 15) hx hb hts fn_j_Rq fn_t_Rq fn_k_Rq fn_n_Rq hown hK hP hD hS 2 rfl rfl 4 (by decide) (hts _ (List.mem_cons_of_mem _ fq_151)) (fun _ h9 => h9) rfl (by decide +kernel) rfl rfl (Nat.le_of_ble_eq_true rfl) fx_Rq_begin_24 (fun H locs hP hD hS => ?_)
  rw [fd_set_Rq_4] at hP hD
  have hI5 : fd_Inv (fd_sqI (fd_sqI (fd_sqI (fd_sqI (fd_sqI σ 0 p1) 1 p2) 2 p3) 3 p4) 4 p5) := fd_inv_sqI (by decide) hI4
  refine lv_aload_n hx hb fx_Rq_begin_27 rfl (lv_at hl 0 rfl) ?_
  refine lv_iload hx hb fx_Rq_begin_28 (lv_at hl 6 rfl) ?_
  refine va_put (D := D) (ci := 2) (v := .int p6) (ty := .int) (C := fn_R_Rq) (T := fn_T_Rq) (N := 15) hx hb hts fn_j_Rq fn_t_Rq fn_k_Rq fn_n_Rq hown hK hP hD hS 2 rfl rfl 5 (by decide) (hts _ (List.mem_cons_of_mem _ fq_153)) (fun _ h9 => h9) rfl (by decide +kernel) rfl rfl (Nat.le_of_ble_eq_true rfl) fx_Rq_begin_30 (fun H locs hP hD hS => ?_)
  rw [fd_set_Rq_5] at hP hD
  have hI6 : fd_Inv (fd_sqI (fd_sqI (fd_sqI (fd_sqI (fd_sqI (fd_sqI σ 0 p1) 1 p2) 2 p3) 3 p4) 4 p5) 5 p6) := fd_inv_sqI (by decide) hI5
  refine lv_aload_n hx hb fx_Rq_begin_33 rfl (lv_at hl 0 rfl) ?_
  refine lv_iload hx hb fx_Rq_begin_34 (lv_at hl 7 rfl) ?_
  refine va_put (D := D) (ci := 2) (v := .int p7) (ty := .int) (C := fn_R_Rq) (T := fn_T_Rq) (N := 15) hx hb hts fn_j_Rq fn_t_Rq fn_k_Rq fn_n_Rq hown hK hP hD hS 2 rfl rfl 6 (by decide) (hts _ (List.mem_cons_of_mem _ fq_154)) (fun _ h9 => h9) rfl (by decide +kernel) rfl rfl (Nat.le_of_ble_eq_true rfl) fx_Rq_begin_36 (fun H locs hP hD hS => ?_)
  rw [fd_set_Rq_6] at hP hD
  have hI7 : fd_Inv (fd_sqI (fd_sqI (fd_sqI (fd_sqI (fd_sqI (fd_sqI (fd_sqI σ 0 p1) 1 p2) 2 p3) 3 p4) 4 p5) 5 p6) 6 p7) := fd_inv_sqI (by decide) hI6
  refine lv_aload_n hx hb fx_Rq_begin_39 rfl (lv_at hl 0 rfl) ?_
  refine lv_iconst (v := 0) hx hb fx_Rq_begin_40 (by decide) ?_
  refine va_put (D := D) (ci := 2) (v := .int 0) (ty := .int) (C := fn_R_Rq) (T := fn_T_Rq) (N := 15) hx hb hts fn_j_Rq fn_t_Rq fn_k_Rq fn_n_Rq hown hK hP hD hS 2 rfl rfl 7 (by decide) (hts _ (List.mem_cons_of_mem _ fq_155)) (fun _ h9 => h9) rfl (by decide +kernel) rfl rfl (Nat.le_of_ble_eq_true rfl) fx_Rq_begin_41 (fun H locs hP hD hS => ?_)
  rw [fd_set_Rq_7] at hP hD
  have hI8 : fd_Inv (fd_sqI (fd_sqI (fd_sqI (fd_sqI (fd_sqI (fd_sqI (fd_sqI (fd_sqI σ 0 p1) 1 p2) 2 p3) 3 p4) 4 p5) 5 p6) 6 p7) 7 0) := fd_inv_sqI (by decide) hI7
  refine lv_aload_n hx hb fx_Rq_begin_44 rfl (lv_at hl 0 rfl) ?_
  refine lv_iconst (v := 0) hx hb fx_Rq_begin_45 (by decide) ?_
  refine va_put (D := D) (ci := 2) (v := .int (fd_bi false)) (ty := .boolean) (C := fn_R_Rq) (T := fn_T_Rq) (N := 15) hx hb hts fn_j_Rq fn_t_Rq fn_k_Rq fn_n_Rq hown hK hP hD hS 2 rfl rfl 8 (by decide) (hts _ (List.mem_cons_of_mem _ fq_157)) (fun _ h9 => h9) rfl (by decide +kernel) (fd_nar _) (fd_fit _) (Nat.le_of_ble_eq_true rfl) fx_Rq_begin_46 (fun H locs hP hD hS => ?_)
  rw [fd_set_Rq_8] at hP hD
  have hI9 : fd_Inv (fd_sqB (fd_sqI (fd_sqI (fd_sqI (fd_sqI (fd_sqI (fd_sqI (fd_sqI (fd_sqI σ 0 p1) 1 p2) 2 p3) 3 p4) 4 p5) 5 p6) 6 p7) 7 0) 8 false) := fd_inv_sqB hI8
  refine lv_aload_n hx hb fx_Rq_begin_49 rfl (lv_at hl 0 rfl) ?_
  refine lv_iconst (v := 0) hx hb fx_Rq_begin_50 (by decide) ?_
  refine va_put (D := D) (ci := 2) (v := .int (fd_bi false)) (ty := .boolean) (C := fn_R_Rq) (T := fn_T_Rq) (N := 15) hx hb hts fn_j_Rq fn_t_Rq fn_k_Rq fn_n_Rq hown hK hP hD hS 2 rfl rfl 9 (by decide) (hts _ (List.mem_cons_of_mem _ fq_160)) (fun _ h9 => h9) rfl (by decide +kernel) (fd_nar _) (fd_fit _) (Nat.le_of_ble_eq_true rfl) fx_Rq_begin_51 (fun H locs hP hD hS => ?_)
  rw [fd_set_Rq_9] at hP hD
  have hI10 : fd_Inv (fd_sqB (fd_sqB (fd_sqI (fd_sqI (fd_sqI (fd_sqI (fd_sqI (fd_sqI (fd_sqI (fd_sqI σ 0 p1) 1 p2) 2 p3) 3 p4) 4 p5) 5 p6) 6 p7) 7 0) 8 false) 9 false) := fd_inv_sqB hI9
  refine lv_aload_n hx hb fx_Rq_begin_54 rfl (lv_at hl 0 rfl) ?_
  refine lv_iconst (v := 0) hx hb fx_Rq_begin_55 (by decide) ?_
  refine va_put (D := D) (ci := 2) (v := .int 0) (ty := .int) (C := fn_R_Rq) (T := fn_T_Rq) (N := 15) hx hb hts fn_j_Rq fn_t_Rq fn_k_Rq fn_n_Rq hown hK hP hD hS 2 rfl rfl 10 (by decide) (hts _ (List.mem_cons_of_mem _ fq_163)) (fun _ h9 => h9) rfl (by decide +kernel) rfl rfl (Nat.le_of_ble_eq_true rfl) fx_Rq_begin_56 (fun H locs hP hD hS => ?_)
  rw [fd_set_Rq_10] at hP hD
  have hI11 : fd_Inv (fd_sqI (fd_sqB (fd_sqB (fd_sqI (fd_sqI (fd_sqI (fd_sqI (fd_sqI (fd_sqI (fd_sqI (fd_sqI σ 0 p1) 1 p2) 2 p3) 3 p4) 4 p5) 5 p6) 6 p7) 7 0) 8 false) 9 false) 10 0) := fd_inv_sqI (by decide) hI10
  refine lv_aload_n hx hb fx_Rq_begin_59 rfl (lv_at hl 0 rfl) ?_
  refine lv_iconst (v := 0) hx hb fx_Rq_begin_60 (by decide) ?_
  refine lv_iconst (v := 0) hx hb fx_Rq_begin_61 (by decide) ?_
  refine lv_iconst (v := 0) hx hb fx_Rq_begin_62 (by decide) ?_
  refine lv_iconst (v := 0) hx hb fx_Rq_begin_63 (by decide) ?_
  refine fd_callvm (va_runV (As := [.int 0, .int 0, .int 0, .int 0]) (rest := []) ⟨hx, hb, hml, hown, hts⟩ (fc_Rq_show l D cR cP ad H.size (fd_sqI (fd_sqB (fd_sqB (fd_sqI (fd_sqI (fd_sqI (fd_sqI (fd_sqI (fd_sqI (fd_sqI (fd_sqI σ 0 p1) 1 p2) 2 p3) 3 p4) 4 p5) 5 p6) 6 p7) 7 0) 8 false) 9 false) 10 0) 0 0 0 0 hI11 ) ⟨callB_of 4 hts (fb_good fm_Rq_show) rfl rfl rfl (hts _ (List.mem_cons_of_mem _ fq_5)) (hts _ (List.mem_cons_of_mem _ fq_366)) (by decide +kernel) ⟨Nat.le_of_ble_eq_true rfl, Nat.le_of_ble_eq_true rfl⟩, (hts _ (List.mem_cons_of_mem _ fq_368)), (hts _ (List.mem_cons_of_mem _ fp_Rq_show))⟩ (fd_preV hP hK hD hN (va_recv hK hP (ci := 2) (q0 := 2) rfl rfl)) rfl rfl hl.1 rfl (lv_room (Nat.le_of_ble_eq_true rfl)) fx_Rq_begin_64 ⟨Nat.le_of_ble_eq_true rfl, Nat.le_of_ble_eq_true rfl⟩) hD hS hA (fun H locs hP hD hS hI12 => ?_)
  exact fd_vret (u := (fv_Rq_show (fd_sqI (fd_sqB (fd_sqB (fd_sqI (fd_sqI (fd_sqI (fd_sqI (fd_sqI (fd_sqI (fd_sqI (fd_sqI σ 0 p1) 1 p2) 2 p3) 3 p4) 4 p5) 5 p6) 6 p7) 7 0) 8 false) 9 false) 10 0) 0 0 0 0)) hQ hx hb hr ⟨by rw [fv_Rq_begin], hI12⟩ hP hD hS fx_Rq_begin_67 hlocks
def fv_Rq_enterRound_j4 (σ : FDS) (v2 : Bool) (v4 : Bool) : FDS := fd_sqB (fd_sqB (fd_sqI σ 7 ((fd_qI σ 7) + 1)) 8 v2) 9 v4
def fv_Rq_enterRound_j2 (σ : FDS) (v2 : Bool) : FDS := fv_Rq_enterRound_j4 σ v2 (if (fd_qI σ 5) = 2 then true else if (fd_qI σ 5) = 1 then if v2 = true then false else true else false)
def fv_Rq_enterRound (σ : FDS) : FDS := fv_Rq_enterRound_j2 σ (if (fd_qB σ 8) = true then true else if (fv_Dk_originOf (fd_sqI σ 7 ((fd_qI σ 7) + 1)) (fd_qI σ 1)) = (fd_qI σ 0) then false else true)
set_option maxHeartbeats 4000000 in
set_option maxRecDepth 100000 in
theorem fc_Rq_enterRound (l : Launch) (D : va_G) (cR cP : ClassId) (ad : Nat → Nat) (sz : Nat) (σ : FDS)  (hI : fd_Inv σ)  : Met l fy_Rq_enterRound (fw_Rq_enterRound :: fb_tbl) ({ frames := 1, cells := 0, slots := 0, locals := 20 } : Room) (fd_Pc D cR cP ad [.ref (ad 2)] σ sz) ((fun A => va_Qv (fun u : FDS => fv_Rq_enterRound σ = u ∧ fd_Inv u) (fd_B D cR cP ad A) A) (va_A (fd_w cR cP ad σ) sz)) 0 0 (va_A (fd_w cR cP ad σ) sz) := by
  refine fd_ofW (cc := fb_Rq_enterRound) (maxL := 1) (ret := none) (Qf := fun A => va_Qv (fun u : FDS => fv_Rq_enterRound σ = u ∧ fd_Inv u) (fd_B D cR cP ad A) A) (by decide) (Nat.le_of_ble_eq_true rfl) ?_
  intro p e s m args below meth c A Q hQ hx hb hr hts hown hlocks hml hP hK hD hS hA hN ls hl
  have hown : s.vm.findClass fn_R_Rq = some m.cls := hown
  have hl : lv_has ls 1 [(0, .ref (ad 2))] := hl
  suffices hgo : ∀ (H : Heap) (locs : List Loc), va_P D fn_cl (fd_w cR cP ad σ) H → va_D A (fd_w cR cP ad σ) → va_S A s.heap H locs → W p l e ({ frames := 1, cells := 0, slots := 0, locals := 20 } : Room) s m args below meth c H locs 0 0 Q (F0 m 0 ls []) from hgo _ _ hP hD hS
  clear hP hD hS
  intro H locs hP hD hS
  refine lv_aload_n hx hb fx_Rq_enterRound_0 rfl (lv_at hl 0 rfl) ?_
  refine lv_dup hx hb fx_Rq_enterRound_1 rfl ?_
  refine va_get (D := D) (ci := 2) (v := .int (fd_qI σ 7)) (C := fn_R_Rq) (T := fn_T_Rq) (N := 15) hx hb hts fn_j_Rq hown hK hP 2 rfl rfl 7 (by decide) (hts _ (List.mem_cons_of_mem _ fq_155)) (fun _ h9 => h9) rfl fx_Rq_enterRound_2 ?_
  refine lv_iconst (v := 1) hx hb fx_Rq_enterRound_5 (by decide) ?_
  refine lv_iadd hx hb fx_Rq_enterRound_6 ?_
  refine va_put (D := D) (ci := 2) (v := .int ((fd_qI σ 7) + 1)) (ty := .int) (C := fn_R_Rq) (T := fn_T_Rq) (N := 15) hx hb hts fn_j_Rq fn_t_Rq fn_k_Rq fn_n_Rq hown hK hP hD hS 2 rfl rfl 7 (by decide) (hts _ (List.mem_cons_of_mem _ fq_155)) (fun _ h9 => h9) rfl (by decide +kernel) rfl rfl (Nat.le_of_ble_eq_true rfl) fx_Rq_enterRound_7 (fun H locs hP hD hS => ?_)
  rw [fd_set_Rq_7] at hP hD
  have hI1 : fd_Inv (fd_sqI σ 7 ((fd_qI σ 7) + 1)) := fd_inv_sqI (by decide) hI
  refine lv_aload_n hx hb fx_Rq_enterRound_10 rfl (lv_at hl 0 rfl) ?_
  refine lv_aload_n hx hb fx_Rq_enterRound_11 rfl (lv_at hl 0 rfl) ?_
  refine va_get (D := D) (ci := 2) (v := .int (fd_bi (fd_qB σ 8))) (C := fn_R_Rq) (T := fn_T_Rq) (N := 15) hx hb hts fn_j_Rq hown hK hP 2 rfl rfl 8 (by decide) (hts _ (List.mem_cons_of_mem _ fq_157)) (fun _ h9 => h9) rfl fx_Rq_enterRound_12 ?_
  have hJ2 : ∀ (H : Heap) (locs : List Loc), va_P D fn_cl (fd_w cR cP ad (fd_sqI σ 7 ((fd_qI σ 7) + 1))) H → va_D A (fd_w cR cP ad (fd_sqI σ 7 ((fd_qI σ 7) + 1))) → va_S A s.heap H locs → ∀ (v2 : Bool), v2 = (if (fd_qB σ 8) = true then true else if (fv_Dk_originOf (fd_sqI σ 7 ((fd_qI σ 7) + 1)) (fd_qI σ 1)) = (fd_qI σ 0) then false else true) → W p l e ({ frames := 1, cells := 0, slots := 0, locals := 20 } : Room) s m args below meth c H locs 0 0 Q (F0 m 37 ls [.int (fd_bi v2), .ref (ad 2)]) := by
    intro H locs hP hD hS v2 hv2
    refine va_put (D := D) (ci := 2) (v := .int (fd_bi v2)) (ty := .boolean) (C := fn_R_Rq) (T := fn_T_Rq) (N := 15) hx hb hts fn_j_Rq fn_t_Rq fn_k_Rq fn_n_Rq hown hK hP hD hS 2 rfl rfl 8 (by decide) (hts _ (List.mem_cons_of_mem _ fq_157)) (fun _ h9 => h9) rfl (by decide +kernel) (fd_nar _) (fd_fit _) (Nat.le_of_ble_eq_true rfl) fx_Rq_enterRound_37 (fun H locs hP hD hS => ?_)
    rw [fd_set_Rq_8] at hP hD
    have hI3 : fd_Inv (fd_sqB (fd_sqI σ 7 ((fd_qI σ 7) + 1)) 8 v2) := fd_inv_sqB hI1
    refine lv_aload_n hx hb fx_Rq_enterRound_40 rfl (lv_at hl 0 rfl) ?_
    refine lv_aload_n hx hb fx_Rq_enterRound_41 rfl (lv_at hl 0 rfl) ?_
    refine va_get (D := D) (ci := 2) (v := .int (fd_qI σ 5)) (C := fn_R_Rq) (T := fn_T_Rq) (N := 15) hx hb hts fn_j_Rq hown hK hP 2 rfl rfl 5 (by decide) (hts _ (List.mem_cons_of_mem _ fq_153)) (fun _ h9 => h9) rfl fx_Rq_enterRound_42 ?_
    refine lv_iconst (v := 2) hx hb fx_Rq_enterRound_45 (by decide) ?_
    have hJ4 : ∀ (H : Heap) (locs : List Loc), va_P D fn_cl (fd_w cR cP ad (fd_sqB (fd_sqI σ 7 ((fd_qI σ 7) + 1)) 8 v2)) H → va_D A (fd_w cR cP ad (fd_sqB (fd_sqI σ 7 ((fd_qI σ 7) + 1)) 8 v2)) → va_S A s.heap H locs → ∀ (v4 : Bool), v4 = (if (fd_qI σ 5) = 2 then true else if (fd_qI σ 5) = 1 then if v2 = true then false else true else false) → W p l e ({ frames := 1, cells := 0, slots := 0, locals := 20 } : Room) s m args below meth c H locs 0 0 Q (F0 m 69 ls [.int (fd_bi v4), .ref (ad 2)]) := by
      intro H locs hP hD hS v4 hv4
      refine va_put (D := D) (ci := 2) (v := .int (fd_bi v4)) (ty := .boolean) (C := fn_R_Rq) (T := fn_T_Rq) (N := 15) hx hb hts fn_j_Rq fn_t_Rq fn_k_Rq fn_n_Rq hown hK hP hD hS 2 rfl rfl 9 (by decide) (hts _ (List.mem_cons_of_mem _ fq_160)) (fun _ h9 => h9) rfl (by decide +kernel) (fd_nar _) (fd_fit _) (Nat.le_of_ble_eq_true rfl) fx_Rq_enterRound_69 (fun H locs hP hD hS => ?_)
      rw [fd_set_Rq_9] at hP hD
      have hI5 : fd_Inv (fd_sqB (fd_sqB (fd_sqI σ 7 ((fd_qI σ 7) + 1)) 8 v2) 9 v4) := fd_inv_sqB hI3
      exact fd_vret (u := fd_sqB (fd_sqB (fd_sqI σ 7 ((fd_qI σ 7) + 1)) 8 v2) 9 v4) hQ hx hb hr ⟨by rw [fv_Rq_enterRound, ← hv2, fv_Rq_enterRound_j2, ← hv4, fv_Rq_enterRound_j4], hI5⟩ hP hD hS fx_Rq_enterRound_72 hlocks
    refine lv_icmp_eq (tgt := 64) hx hb fx_Rq_enterRound_46 (by decide) (fun c6 => ?_) (fun c6 => ?_)
    · refine lv_iconst (v := 1) hx hb fx_Rq_enterRound_64 (by decide) ?_
      refine lv_goto (tgt := 69) hx hb fx_Rq_enterRound_65 (by decide) ?_
      exact hJ4 H locs hP hD hS true (by rw [if_pos c6])
    · refine lv_aload_n hx hb fx_Rq_enterRound_49 rfl (lv_at hl 0 rfl) ?_
      refine va_get (D := D) (ci := 2) (v := .int (fd_qI σ 5)) (C := fn_R_Rq) (T := fn_T_Rq) (N := 15) hx hb hts fn_j_Rq hown hK hP 2 rfl rfl 5 (by decide) (hts _ (List.mem_cons_of_mem _ fq_153)) (fun _ h9 => h9) rfl fx_Rq_enterRound_50 ?_
      refine lv_iconst (v := 1) hx hb fx_Rq_enterRound_53 (by decide) ?_
      refine lv_icmp_ne (tgt := 68) hx hb fx_Rq_enterRound_54 (by decide) (fun c7 => ?_) (fun c7 => ?_)
      · refine lv_iconst (v := 0) hx hb fx_Rq_enterRound_68 (by decide) ?_
        exact hJ4 H locs hP hD hS false (by rw [if_neg c6, if_neg c7])
      · refine lv_aload_n hx hb fx_Rq_enterRound_57 rfl (lv_at hl 0 rfl) ?_
        refine va_get (D := D) (ci := 2) (v := .int (fd_bi v2)) (C := fn_R_Rq) (T := fn_T_Rq) (N := 15) hx hb hts fn_j_Rq hown hK hP 2 rfl rfl 8 (by decide) (hts _ (List.mem_cons_of_mem _ fq_157)) (fun _ h9 => h9) rfl fx_Rq_enterRound_58 ?_
        refine fd_ifne (tgt := 68) hx hb fx_Rq_enterRound_61 (by decide) (fun c8 => ?_) (fun c8 => ?_)
        · refine lv_iconst (v := 0) hx hb fx_Rq_enterRound_68 (by decide) ?_
          exact hJ4 H locs hP hD hS false (by rw [if_neg c6, if_pos c7, if_pos c8])
        · refine lv_iconst (v := 1) hx hb fx_Rq_enterRound_64 (by decide) ?_
          refine lv_goto (tgt := 69) hx hb fx_Rq_enterRound_65 (by decide) ?_
          exact hJ4 H locs hP hD hS true (by rw [if_neg c6, if_pos c7, if_neg c8])
  refine fd_ifne (tgt := 32) hx hb fx_Rq_enterRound_15 (by decide) (fun c9 => ?_) (fun c9 => ?_)
  · refine lv_iconst (v := 1) hx hb fx_Rq_enterRound_32 (by decide) ?_
    refine lv_goto (tgt := 37) hx hb fx_Rq_enterRound_33 (by decide) ?_
    exact hJ2 H locs hP hD hS true (by rw [if_pos c9])
  · refine lv_aload_n hx hb fx_Rq_enterRound_18 rfl (lv_at hl 0 rfl) ?_
    refine va_get (D := D) (ci := 2) (v := .int (fd_qI σ 1)) (C := fn_R_Rq) (T := fn_T_Rq) (N := 15) hx hb hts fn_j_Rq hown hK hP 2 rfl rfl 1 (by decide) (hts _ (List.mem_cons_of_mem _ fq_143)) (fun _ h9 => h9) rfl fx_Rq_enterRound_19 ?_
    refine fd_calli (va_runSN (As := [.int (fd_qI σ 1)]) (rest := [.ref (ad 2)]) ⟨hx, hb, hml, hown, hts⟩ (fc_Dk_originOf l D cR cP ad H.size (fd_sqI σ 7 ((fd_qI σ 7) + 1)) (fd_qI σ 1) hI1 ) ⟨va_cnB 1 hts (fb_good fm_Dk_originOf) rfl rfl rfl (hN _ fq_382) (hts _ (List.mem_cons_of_mem _ fq_1)) (by decide +kernel) ⟨Nat.le_of_ble_eq_true rfl, Nat.le_of_ble_eq_true rfl⟩, (hts _ (List.mem_cons_of_mem _ fq_383)), trivial⟩ (fd_preS hP hK hD hN) rfl rfl hl.1 rfl (lv_room (Nat.le_of_ble_eq_true rfl)) fx_Rq_enterRound_22 ⟨Nat.le_of_ble_eq_true rfl, Nat.le_of_ble_eq_true rfl⟩) hD hS hA (fun H locs hP hD hS => ?_)
    refine lv_aload_n hx hb fx_Rq_enterRound_25 rfl (lv_at hl 0 rfl) ?_
    refine va_get (D := D) (ci := 2) (v := .int (fd_qI σ 0)) (C := fn_R_Rq) (T := fn_T_Rq) (N := 15) hx hb hts fn_j_Rq hown hK hP 2 rfl rfl 0 (by decide) (hts _ (List.mem_cons_of_mem _ fq_139)) (fun _ h9 => h9) rfl fx_Rq_enterRound_26 ?_
    refine lv_icmp_eq (tgt := 36) hx hb fx_Rq_enterRound_29 (by decide) (fun c11 => ?_) (fun c11 => ?_)
    · refine lv_iconst (v := 0) hx hb fx_Rq_enterRound_36 (by decide) ?_
      exact hJ2 H locs hP hD hS false (by rw [if_neg c9, if_pos c11])
    · refine lv_iconst (v := 1) hx hb fx_Rq_enterRound_32 (by decide) ?_
      refine lv_goto (tgt := 37) hx hb fx_Rq_enterRound_33 (by decide) ?_
      exact hJ2 H locs hP hD hS true (by rw [if_neg c9, if_neg c11])
def fv_Rq_follow (σ : FDS) (j1 : Nat) : FDS := if (fv_Dk_originOf σ (fd_rI σ j1 2)) = (fv_Dk_originOf σ (fd_qI σ 1)) then if (fv_Rs_turnsIntoGet σ j1 (fd_qI σ 2)) = true then fd_sqI (fd_sqI (fd_sqI σ 2 0) 3 0) 1 (fd_rI σ j1 2) else fd_sqI σ 1 (fd_rI σ j1 2) else if (fv_Dk_originOf σ (fd_qI σ 1)) = (fd_qI σ 0) then if (fv_Rs_turnsIntoGet σ j1 (fd_qI σ 2)) = true then fd_sqI (fd_sqI (fd_sqI σ 2 0) 3 0) 1 (fd_rI σ j1 2) else fd_sqI σ 1 (fd_rI σ j1 2) else if (fv_Rs_turnsIntoGet (fd_sqI σ 0 6) j1 (fd_qI σ 2)) = true then fd_sqI (fd_sqI (fd_sqI (fd_sqI σ 0 6) 2 0) 3 0) 1 (fd_rI σ j1 2) else fd_sqI (fd_sqI σ 0 6) 1 (fd_rI σ j1 2)
set_option maxHeartbeats 4000000 in
set_option maxRecDepth 100000 in
theorem fc_Rq_follow (l : Launch) (D : va_G) (cR cP : ClassId) (ad : Nat → Nat) (sz : Nat) (σ : FDS) (j1 : Nat) (hj1 : j1 < 48) (hI : fd_Inv σ) (ht : ¬ fd_rI σ j1 2 = -1) : Met l fy_Rq_follow (fw_Rq_follow :: fb_tbl) ({ frames := 1, cells := 0, slots := 0, locals := 21 } : Room) (fd_Pc D cR cP ad [.ref (ad 2), .ref (ad (3 + j1))] σ sz) ((fun A => va_Qv (fun u : FDS => fv_Rq_follow σ j1 = u ∧ fd_Inv u) (fd_B D cR cP ad A) A) (va_A (fd_w cR cP ad σ) sz)) 0 0 (va_A (fd_w cR cP ad σ) sz) := by
  refine fd_ofW (cc := fb_Rq_follow) (maxL := 3) (ret := none) (Qf := fun A => va_Qv (fun u : FDS => fv_Rq_follow σ j1 = u ∧ fd_Inv u) (fd_B D cR cP ad A) A) (by decide) (Nat.le_of_ble_eq_true rfl) ?_
  intro p e s m args below meth c A Q hQ hx hb hr hts hown hlocks hml hP hK hD hS hA hN ls hl
  have hown : s.vm.findClass fn_R_Rq = some m.cls := hown
  have hl : lv_has ls 3 [(0, .ref (ad 2)), (1, .ref (ad (3 + j1)))] := hl
  suffices hgo : ∀ (H : Heap) (locs : List Loc), va_P D fn_cl (fd_w cR cP ad σ) H → va_D A (fd_w cR cP ad σ) → va_S A s.heap H locs → W p l e ({ frames := 1, cells := 0, slots := 0, locals := 21 } : Room) s m args below meth c H locs 0 0 Q (F0 m 0 ls []) from hgo _ _ hP hD hS
  clear hP hD hS
  intro H locs hP hD hS
  refine lv_aload_n hx hb fx_Rq_follow_0 rfl (lv_at hl 0 rfl) ?_
  refine va_get (D := D) (ci := 2) (v := .int (fd_qI σ 1)) (C := fn_R_Rq) (T := fn_T_Rq) (N := 15) hx hb hts fn_j_Rq hown hK hP 2 rfl rfl 1 (by decide) (hts _ (List.mem_cons_of_mem _ fq_143)) (fun _ h9 => h9) rfl fx_Rq_follow_1 ?_
  refine fd_calli (va_runSN (As := [.int (fd_qI σ 1)]) (rest := []) ⟨hx, hb, hml, hown, hts⟩ (fc_Dk_originOf l D cR cP ad H.size σ (fd_qI σ 1) hI ) ⟨va_cnB 1 hts (fb_good fm_Dk_originOf) rfl rfl rfl (hN _ fq_382) (hts _ (List.mem_cons_of_mem _ fq_1)) (by decide +kernel) ⟨Nat.le_of_ble_eq_true rfl, Nat.le_of_ble_eq_true rfl⟩, (hts _ (List.mem_cons_of_mem _ fq_383)), trivial⟩ (fd_preS hP hK hD hN) rfl rfl hl.1 rfl (lv_room (Nat.le_of_ble_eq_true rfl)) fx_Rq_follow_4 ⟨Nat.le_of_ble_eq_true rfl, Nat.le_of_ble_eq_true rfl⟩) hD hS hA (fun H locs hP hD hS => ?_)
  refine lv_istore_n (lv' := [(2, .int (fv_Dk_originOf σ (fd_qI σ 1))), (0, .ref (ad 2)), (1, .ref (ad (3 + j1)))]) hx hb fx_Rq_follow_7 rfl hl (by decide) rfl (fun ls hl => ?_)
  refine lv_aload_n hx hb fx_Rq_follow_8 rfl (lv_at hl 2 rfl) ?_
  refine va_getN (D := D) (ci := 3) (v := .int (fd_rI σ j1 2)) (C := fn_R_Rs) (T := fn_T_Rs) (N := 13) hx hb hts fn_j_Rs hown hK hP (5 + j1) (fd_w_res hj1) rfl 2 (by decide) (va_Nw.use rfl (hN _ fq_35)) (fun _ h9 => h9) rfl fx_Rq_follow_9 ?_
  refine fd_calli (va_runSN (As := [.int (fd_rI σ j1 2)]) (rest := []) ⟨hx, hb, hml, hown, hts⟩ (fc_Dk_originOf l D cR cP ad H.size σ (fd_rI σ j1 2) hI ) ⟨va_cnB 1 hts (fb_good fm_Dk_originOf) rfl rfl rfl (hN _ fq_382) (hts _ (List.mem_cons_of_mem _ fq_1)) (by decide +kernel) ⟨Nat.le_of_ble_eq_true rfl, Nat.le_of_ble_eq_true rfl⟩, (hts _ (List.mem_cons_of_mem _ fq_383)), trivial⟩ (fd_preS hP hK hD hN) rfl rfl hl.1 rfl (lv_room (Nat.le_of_ble_eq_true rfl)) fx_Rq_follow_12 ⟨Nat.le_of_ble_eq_true rfl, Nat.le_of_ble_eq_true rfl⟩) hD hS hA (fun H locs hP hD hS => ?_)
  refine lv_iload_n hx hb fx_Rq_follow_15 rfl (lv_at hl 0 rfl) ?_
  refine lv_icmp_eq (tgt := 33) hx hb fx_Rq_follow_16 (by decide) (fun c3 => ?_) (fun c3 => ?_)
  · refine lv_aload_n hx hb fx_Rq_follow_33 rfl (lv_at hl 2 rfl) ?_
    refine lv_aload_n hx hb fx_Rq_follow_34 rfl (lv_at hl 1 rfl) ?_
    refine va_get (D := D) (ci := 2) (v := .int (fd_qI σ 2)) (C := fn_R_Rq) (T := fn_T_Rq) (N := 15) hx hb hts fn_j_Rq hown hK hP 2 rfl rfl 2 (by decide) (hts _ (List.mem_cons_of_mem _ fq_147)) (fun _ h9 => h9) rfl fx_Rq_follow_35 ?_
    refine fd_callz (va_runVN (As := [.int (fd_qI σ 2)]) (rest := []) ⟨hx, hb, hml, hown, hts⟩ (fc_Rs_turnsIntoGet l D cR cP ad H.size σ j1 hj1 (fd_qI σ 2) hI ) ⟨va_cnB 1 hts (fb_good fm_Rs_turnsIntoGet) rfl rfl rfl (hN _ fq_450) (hts _ (List.mem_cons_of_mem _ fq_2)) (by decide +kernel) ⟨Nat.le_of_ble_eq_true rfl, Nat.le_of_ble_eq_true rfl⟩, (hts _ (List.mem_cons_of_mem _ fq_452)), (hts _ (List.mem_cons_of_mem _ fp_Rs_turnsIntoGet))⟩ (fd_preV hP hK hD hN (va_recv hK hP (ci := 3) (q0 := (5 + j1)) rfl (fd_w_res hj1))) rfl rfl hl.1 rfl (lv_room (Nat.le_of_ble_eq_true rfl)) fx_Rq_follow_38 ⟨Nat.le_of_ble_eq_true rfl, Nat.le_of_ble_eq_true rfl⟩) hD hS hA (fun H locs hP hD hS => ?_)
    refine fd_ifeq (tgt := 54) hx hb fx_Rq_follow_41 (by decide) (fun c5 => ?_) (fun c5 => ?_)
    · refine lv_aload_n hx hb fx_Rq_follow_54 rfl (lv_at hl 1 rfl) ?_
      refine lv_aload_n hx hb fx_Rq_follow_55 rfl (lv_at hl 2 rfl) ?_
      refine va_getN (D := D) (ci := 3) (v := .int (fd_rI σ j1 2)) (C := fn_R_Rs) (T := fn_T_Rs) (N := 13) hx hb hts fn_j_Rs hown hK hP (5 + j1) (fd_w_res hj1) rfl 2 (by decide) (va_Nw.use rfl (hN _ fq_35)) (fun _ h9 => h9) rfl fx_Rq_follow_56 ?_
      refine va_put (D := D) (ci := 2) (v := .int (fd_rI σ j1 2)) (ty := .int) (C := fn_R_Rq) (T := fn_T_Rq) (N := 15) hx hb hts fn_j_Rq fn_t_Rq fn_k_Rq fn_n_Rq hown hK hP hD hS 2 rfl rfl 1 (by decide) (hts _ (List.mem_cons_of_mem _ fq_143)) (fun _ h9 => h9) rfl (by decide +kernel) rfl rfl (Nat.le_of_ble_eq_true rfl) fx_Rq_follow_59 (fun H locs hP hD hS => ?_)
      rw [fd_set_Rq_1] at hP hD
      have hI6 : fd_Inv (fd_sqI σ 1 (fd_rI σ j1 2)) := fd_inv_url (fd_tgt hI hj1 ht) hI
      exact fd_vret (u := fd_sqI σ 1 (fd_rI σ j1 2)) hQ hx hb hr ⟨by rw [fv_Rq_follow, if_pos c3, if_neg c5], hI6⟩ hP hD hS fx_Rq_follow_62 hlocks
    · refine lv_aload_n hx hb fx_Rq_follow_44 rfl (lv_at hl 1 rfl) ?_
      refine lv_iconst (v := 0) hx hb fx_Rq_follow_45 (by decide) ?_
      refine va_put (D := D) (ci := 2) (v := .int 0) (ty := .int) (C := fn_R_Rq) (T := fn_T_Rq) (N := 15) hx hb hts fn_j_Rq fn_t_Rq fn_k_Rq fn_n_Rq hown hK hP hD hS 2 rfl rfl 2 (by decide) (hts _ (List.mem_cons_of_mem _ fq_147)) (fun _ h9 => h9) rfl (by decide +kernel) rfl rfl (Nat.le_of_ble_eq_true rfl) fx_Rq_follow_46 (fun H locs hP hD hS => ?_)
      rw [fd_set_Rq_2] at hP hD
      have hI7 : fd_Inv (fd_sqI σ 2 0) := fd_inv_sqI (by decide) hI
      refine lv_aload_n hx hb fx_Rq_follow_49 rfl (lv_at hl 1 rfl) ?_
      refine lv_iconst (v := 0) hx hb fx_Rq_follow_50 (by decide) ?_
      refine va_put (D := D) (ci := 2) (v := .int 0) (ty := .int) (C := fn_R_Rq) (T := fn_T_Rq) (N := 15) hx hb hts fn_j_Rq fn_t_Rq fn_k_Rq fn_n_Rq hown hK hP hD hS 2 rfl rfl 3 (by decide) (hts _ (List.mem_cons_of_mem _ fq_149)) (fun _ h9 => h9) rfl (by decide +kernel) rfl rfl (Nat.le_of_ble_eq_true rfl) fx_Rq_follow_51 (fun H locs hP hD hS => ?_)
      rw [fd_set_Rq_3] at hP hD
      have hI8 : fd_Inv (fd_sqI (fd_sqI σ 2 0) 3 0) := fd_inv_sqI (by decide) hI7
      refine lv_aload_n hx hb fx_Rq_follow_54 rfl (lv_at hl 1 rfl) ?_
      refine lv_aload_n hx hb fx_Rq_follow_55 rfl (lv_at hl 2 rfl) ?_
      refine va_getN (D := D) (ci := 3) (v := .int (fd_rI σ j1 2)) (C := fn_R_Rs) (T := fn_T_Rs) (N := 13) hx hb hts fn_j_Rs hown hK hP (5 + j1) (fd_w_res hj1) rfl 2 (by decide) (va_Nw.use rfl (hN _ fq_35)) (fun _ h9 => h9) rfl fx_Rq_follow_56 ?_
      refine va_put (D := D) (ci := 2) (v := .int (fd_rI σ j1 2)) (ty := .int) (C := fn_R_Rq) (T := fn_T_Rq) (N := 15) hx hb hts fn_j_Rq fn_t_Rq fn_k_Rq fn_n_Rq hown hK hP hD hS 2 rfl rfl 1 (by decide) (hts _ (List.mem_cons_of_mem _ fq_143)) (fun _ h9 => h9) rfl (by decide +kernel) rfl rfl (Nat.le_of_ble_eq_true rfl) fx_Rq_follow_59 (fun H locs hP hD hS => ?_)
      rw [fd_set_Rq_1] at hP hD
      have hI9 : fd_Inv (fd_sqI (fd_sqI (fd_sqI σ 2 0) 3 0) 1 (fd_rI σ j1 2)) := fd_inv_url (fd_tgt hI8 hj1 ht) hI8
      exact fd_vret (u := fd_sqI (fd_sqI (fd_sqI σ 2 0) 3 0) 1 (fd_rI σ j1 2)) hQ hx hb hr ⟨by rw [fv_Rq_follow, if_pos c3, if_pos c5], hI9⟩ hP hD hS fx_Rq_follow_62 hlocks
  · refine lv_iload_n hx hb fx_Rq_follow_19 rfl (lv_at hl 0 rfl) ?_
    refine lv_aload_n hx hb fx_Rq_follow_20 rfl (lv_at hl 1 rfl) ?_
    refine va_get (D := D) (ci := 2) (v := .int (fd_qI σ 0)) (C := fn_R_Rq) (T := fn_T_Rq) (N := 15) hx hb hts fn_j_Rq hown hK hP 2 rfl rfl 0 (by decide) (hts _ (List.mem_cons_of_mem _ fq_139)) (fun _ h9 => h9) rfl fx_Rq_follow_21 ?_
    refine lv_icmp_eq (tgt := 33) hx hb fx_Rq_follow_24 (by decide) (fun c10 => ?_) (fun c10 => ?_)
    · refine lv_aload_n hx hb fx_Rq_follow_33 rfl (lv_at hl 2 rfl) ?_
      refine lv_aload_n hx hb fx_Rq_follow_34 rfl (lv_at hl 1 rfl) ?_
      refine va_get (D := D) (ci := 2) (v := .int (fd_qI σ 2)) (C := fn_R_Rq) (T := fn_T_Rq) (N := 15) hx hb hts fn_j_Rq hown hK hP 2 rfl rfl 2 (by decide) (hts _ (List.mem_cons_of_mem _ fq_147)) (fun _ h9 => h9) rfl fx_Rq_follow_35 ?_
      refine fd_callz (va_runVN (As := [.int (fd_qI σ 2)]) (rest := []) ⟨hx, hb, hml, hown, hts⟩ (fc_Rs_turnsIntoGet l D cR cP ad H.size σ j1 hj1 (fd_qI σ 2) hI ) ⟨va_cnB 1 hts (fb_good fm_Rs_turnsIntoGet) rfl rfl rfl (hN _ fq_450) (hts _ (List.mem_cons_of_mem _ fq_2)) (by decide +kernel) ⟨Nat.le_of_ble_eq_true rfl, Nat.le_of_ble_eq_true rfl⟩, (hts _ (List.mem_cons_of_mem _ fq_452)), (hts _ (List.mem_cons_of_mem _ fp_Rs_turnsIntoGet))⟩ (fd_preV hP hK hD hN (va_recv hK hP (ci := 3) (q0 := (5 + j1)) rfl (fd_w_res hj1))) rfl rfl hl.1 rfl (lv_room (Nat.le_of_ble_eq_true rfl)) fx_Rq_follow_38 ⟨Nat.le_of_ble_eq_true rfl, Nat.le_of_ble_eq_true rfl⟩) hD hS hA (fun H locs hP hD hS => ?_)
      refine fd_ifeq (tgt := 54) hx hb fx_Rq_follow_41 (by decide) (fun c12 => ?_) (fun c12 => ?_)
      · refine lv_aload_n hx hb fx_Rq_follow_54 rfl (lv_at hl 1 rfl) ?_
        refine lv_aload_n hx hb fx_Rq_follow_55 rfl (lv_at hl 2 rfl) ?_
        refine va_getN (D := D) (ci := 3) (v := .int (fd_rI σ j1 2)) (C := fn_R_Rs) (T := fn_T_Rs) (N := 13) hx hb hts fn_j_Rs hown hK hP (5 + j1) (fd_w_res hj1) rfl 2 (by decide) (va_Nw.use rfl (hN _ fq_35)) (fun _ h9 => h9) rfl fx_Rq_follow_56 ?_
        refine va_put (D := D) (ci := 2) (v := .int (fd_rI σ j1 2)) (ty := .int) (C := fn_R_Rq) (T := fn_T_Rq) (N := 15) hx hb hts fn_j_Rq fn_t_Rq fn_k_Rq fn_n_Rq hown hK hP hD hS 2 rfl rfl 1 (by decide) (hts _ (List.mem_cons_of_mem _ fq_143)) (fun _ h9 => h9) rfl (by decide +kernel) rfl rfl (Nat.le_of_ble_eq_true rfl) fx_Rq_follow_59 (fun H locs hP hD hS => ?_)
        rw [fd_set_Rq_1] at hP hD
        have hI13 : fd_Inv (fd_sqI σ 1 (fd_rI σ j1 2)) := fd_inv_url (fd_tgt hI hj1 ht) hI
        exact fd_vret (u := fd_sqI σ 1 (fd_rI σ j1 2)) hQ hx hb hr ⟨by rw [fv_Rq_follow, if_neg c3, if_pos c10, if_neg c12], hI13⟩ hP hD hS fx_Rq_follow_62 hlocks
      · refine lv_aload_n hx hb fx_Rq_follow_44 rfl (lv_at hl 1 rfl) ?_
        refine lv_iconst (v := 0) hx hb fx_Rq_follow_45 (by decide) ?_
        refine va_put (D := D) (ci := 2) (v := .int 0) (ty := .int) (C := fn_R_Rq) (T := fn_T_Rq) (N := 15) hx hb hts fn_j_Rq fn_t_Rq fn_k_Rq fn_n_Rq hown hK hP hD hS 2 rfl rfl 2 (by decide) (hts _ (List.mem_cons_of_mem _ fq_147)) (fun _ h9 => h9) rfl (by decide +kernel) rfl rfl (Nat.le_of_ble_eq_true rfl) fx_Rq_follow_46 (fun H locs hP hD hS => ?_)
        rw [fd_set_Rq_2] at hP hD
        have hI14 : fd_Inv (fd_sqI σ 2 0) := fd_inv_sqI (by decide) hI
        refine lv_aload_n hx hb fx_Rq_follow_49 rfl (lv_at hl 1 rfl) ?_
        refine lv_iconst (v := 0) hx hb fx_Rq_follow_50 (by decide) ?_
        refine va_put (D := D) (ci := 2) (v := .int 0) (ty := .int) (C := fn_R_Rq) (T := fn_T_Rq) (N := 15) hx hb hts fn_j_Rq fn_t_Rq fn_k_Rq fn_n_Rq hown hK hP hD hS 2 rfl rfl 3 (by decide) (hts _ (List.mem_cons_of_mem _ fq_149)) (fun _ h9 => h9) rfl (by decide +kernel) rfl rfl (Nat.le_of_ble_eq_true rfl) fx_Rq_follow_51 (fun H locs hP hD hS => ?_)
        rw [fd_set_Rq_3] at hP hD
        have hI15 : fd_Inv (fd_sqI (fd_sqI σ 2 0) 3 0) := fd_inv_sqI (by decide) hI14
        refine lv_aload_n hx hb fx_Rq_follow_54 rfl (lv_at hl 1 rfl) ?_
        refine lv_aload_n hx hb fx_Rq_follow_55 rfl (lv_at hl 2 rfl) ?_
        refine va_getN (D := D) (ci := 3) (v := .int (fd_rI σ j1 2)) (C := fn_R_Rs) (T := fn_T_Rs) (N := 13) hx hb hts fn_j_Rs hown hK hP (5 + j1) (fd_w_res hj1) rfl 2 (by decide) (va_Nw.use rfl (hN _ fq_35)) (fun _ h9 => h9) rfl fx_Rq_follow_56 ?_
        refine va_put (D := D) (ci := 2) (v := .int (fd_rI σ j1 2)) (ty := .int) (C := fn_R_Rq) (T := fn_T_Rq) (N := 15) hx hb hts fn_j_Rq fn_t_Rq fn_k_Rq fn_n_Rq hown hK hP hD hS 2 rfl rfl 1 (by decide) (hts _ (List.mem_cons_of_mem _ fq_143)) (fun _ h9 => h9) rfl (by decide +kernel) rfl rfl (Nat.le_of_ble_eq_true rfl) fx_Rq_follow_59 (fun H locs hP hD hS => ?_)
        rw [fd_set_Rq_1] at hP hD
        have hI16 : fd_Inv (fd_sqI (fd_sqI (fd_sqI σ 2 0) 3 0) 1 (fd_rI σ j1 2)) := fd_inv_url (fd_tgt hI15 hj1 ht) hI15
        exact fd_vret (u := fd_sqI (fd_sqI (fd_sqI σ 2 0) 3 0) 1 (fd_rI σ j1 2)) hQ hx hb hr ⟨by rw [fv_Rq_follow, if_neg c3, if_pos c10, if_pos c12], hI16⟩ hP hD hS fx_Rq_follow_62 hlocks
    · refine lv_aload_n hx hb fx_Rq_follow_27 rfl (lv_at hl 1 rfl) ?_
      refine lv_bipush (v := 6) hx hb fx_Rq_follow_28 (by decide) ?_
      refine va_put (D := D) (ci := 2) (v := .int 6) (ty := .int) (C := fn_R_Rq) (T := fn_T_Rq) (N := 15) hx hb hts fn_j_Rq fn_t_Rq fn_k_Rq fn_n_Rq hown hK hP hD hS 2 rfl rfl 0 (by decide) (hts _ (List.mem_cons_of_mem _ fq_139)) (fun _ h9 => h9) rfl (by decide +kernel) rfl rfl (Nat.le_of_ble_eq_true rfl) fx_Rq_follow_30 (fun H locs hP hD hS => ?_)
      rw [fd_set_Rq_0] at hP hD
      have hI17 : fd_Inv (fd_sqI σ 0 6) := fd_inv_sqI (by decide) hI
      refine lv_aload_n hx hb fx_Rq_follow_33 rfl (lv_at hl 2 rfl) ?_
      refine lv_aload_n hx hb fx_Rq_follow_34 rfl (lv_at hl 1 rfl) ?_
      refine va_get (D := D) (ci := 2) (v := .int (fd_qI σ 2)) (C := fn_R_Rq) (T := fn_T_Rq) (N := 15) hx hb hts fn_j_Rq hown hK hP 2 rfl rfl 2 (by decide) (hts _ (List.mem_cons_of_mem _ fq_147)) (fun _ h9 => h9) rfl fx_Rq_follow_35 ?_
      refine fd_callz (va_runVN (As := [.int (fd_qI σ 2)]) (rest := []) ⟨hx, hb, hml, hown, hts⟩ (fc_Rs_turnsIntoGet l D cR cP ad H.size (fd_sqI σ 0 6) j1 hj1 (fd_qI σ 2) hI17 ) ⟨va_cnB 1 hts (fb_good fm_Rs_turnsIntoGet) rfl rfl rfl (hN _ fq_450) (hts _ (List.mem_cons_of_mem _ fq_2)) (by decide +kernel) ⟨Nat.le_of_ble_eq_true rfl, Nat.le_of_ble_eq_true rfl⟩, (hts _ (List.mem_cons_of_mem _ fq_452)), (hts _ (List.mem_cons_of_mem _ fp_Rs_turnsIntoGet))⟩ (fd_preV hP hK hD hN (va_recv hK hP (ci := 3) (q0 := (5 + j1)) rfl (fd_w_res hj1))) rfl rfl hl.1 rfl (lv_room (Nat.le_of_ble_eq_true rfl)) fx_Rq_follow_38 ⟨Nat.le_of_ble_eq_true rfl, Nat.le_of_ble_eq_true rfl⟩) hD hS hA (fun H locs hP hD hS => ?_)
      refine fd_ifeq (tgt := 54) hx hb fx_Rq_follow_41 (by decide) (fun c19 => ?_) (fun c19 => ?_)
      · refine lv_aload_n hx hb fx_Rq_follow_54 rfl (lv_at hl 1 rfl) ?_
        refine lv_aload_n hx hb fx_Rq_follow_55 rfl (lv_at hl 2 rfl) ?_
        refine va_getN (D := D) (ci := 3) (v := .int (fd_rI σ j1 2)) (C := fn_R_Rs) (T := fn_T_Rs) (N := 13) hx hb hts fn_j_Rs hown hK hP (5 + j1) (fd_w_res hj1) rfl 2 (by decide) (va_Nw.use rfl (hN _ fq_35)) (fun _ h9 => h9) rfl fx_Rq_follow_56 ?_
        refine va_put (D := D) (ci := 2) (v := .int (fd_rI σ j1 2)) (ty := .int) (C := fn_R_Rq) (T := fn_T_Rq) (N := 15) hx hb hts fn_j_Rq fn_t_Rq fn_k_Rq fn_n_Rq hown hK hP hD hS 2 rfl rfl 1 (by decide) (hts _ (List.mem_cons_of_mem _ fq_143)) (fun _ h9 => h9) rfl (by decide +kernel) rfl rfl (Nat.le_of_ble_eq_true rfl) fx_Rq_follow_59 (fun H locs hP hD hS => ?_)
        rw [fd_set_Rq_1] at hP hD
        have hI20 : fd_Inv (fd_sqI (fd_sqI σ 0 6) 1 (fd_rI σ j1 2)) := fd_inv_url (fd_tgt hI17 hj1 ht) hI17
        exact fd_vret (u := fd_sqI (fd_sqI σ 0 6) 1 (fd_rI σ j1 2)) hQ hx hb hr ⟨by rw [fv_Rq_follow, if_neg c3, if_neg c10, if_neg c19], hI20⟩ hP hD hS fx_Rq_follow_62 hlocks
      · refine lv_aload_n hx hb fx_Rq_follow_44 rfl (lv_at hl 1 rfl) ?_
        refine lv_iconst (v := 0) hx hb fx_Rq_follow_45 (by decide) ?_
        refine va_put (D := D) (ci := 2) (v := .int 0) (ty := .int) (C := fn_R_Rq) (T := fn_T_Rq) (N := 15) hx hb hts fn_j_Rq fn_t_Rq fn_k_Rq fn_n_Rq hown hK hP hD hS 2 rfl rfl 2 (by decide) (hts _ (List.mem_cons_of_mem _ fq_147)) (fun _ h9 => h9) rfl (by decide +kernel) rfl rfl (Nat.le_of_ble_eq_true rfl) fx_Rq_follow_46 (fun H locs hP hD hS => ?_)
        rw [fd_set_Rq_2] at hP hD
        have hI21 : fd_Inv (fd_sqI (fd_sqI σ 0 6) 2 0) := fd_inv_sqI (by decide) hI17
        refine lv_aload_n hx hb fx_Rq_follow_49 rfl (lv_at hl 1 rfl) ?_
        refine lv_iconst (v := 0) hx hb fx_Rq_follow_50 (by decide) ?_
        refine va_put (D := D) (ci := 2) (v := .int 0) (ty := .int) (C := fn_R_Rq) (T := fn_T_Rq) (N := 15) hx hb hts fn_j_Rq fn_t_Rq fn_k_Rq fn_n_Rq hown hK hP hD hS 2 rfl rfl 3 (by decide) (hts _ (List.mem_cons_of_mem _ fq_149)) (fun _ h9 => h9) rfl (by decide +kernel) rfl rfl (Nat.le_of_ble_eq_true rfl) fx_Rq_follow_51 (fun H locs hP hD hS => ?_)
        rw [fd_set_Rq_3] at hP hD
        have hI22 : fd_Inv (fd_sqI (fd_sqI (fd_sqI σ 0 6) 2 0) 3 0) := fd_inv_sqI (by decide) hI21
        refine lv_aload_n hx hb fx_Rq_follow_54 rfl (lv_at hl 1 rfl) ?_
        refine lv_aload_n hx hb fx_Rq_follow_55 rfl (lv_at hl 2 rfl) ?_
        refine va_getN (D := D) (ci := 3) (v := .int (fd_rI σ j1 2)) (C := fn_R_Rs) (T := fn_T_Rs) (N := 13) hx hb hts fn_j_Rs hown hK hP (5 + j1) (fd_w_res hj1) rfl 2 (by decide) (va_Nw.use rfl (hN _ fq_35)) (fun _ h9 => h9) rfl fx_Rq_follow_56 ?_
        refine va_put (D := D) (ci := 2) (v := .int (fd_rI σ j1 2)) (ty := .int) (C := fn_R_Rq) (T := fn_T_Rq) (N := 15) hx hb hts fn_j_Rq fn_t_Rq fn_k_Rq fn_n_Rq hown hK hP hD hS 2 rfl rfl 1 (by decide) (hts _ (List.mem_cons_of_mem _ fq_143)) (fun _ h9 => h9) rfl (by decide +kernel) rfl rfl (Nat.le_of_ble_eq_true rfl) fx_Rq_follow_59 (fun H locs hP hD hS => ?_)
        rw [fd_set_Rq_1] at hP hD
        have hI23 : fd_Inv (fd_sqI (fd_sqI (fd_sqI (fd_sqI σ 0 6) 2 0) 3 0) 1 (fd_rI σ j1 2)) := fd_inv_url (fd_tgt hI22 hj1 ht) hI22
        exact fd_vret (u := fd_sqI (fd_sqI (fd_sqI (fd_sqI σ 0 6) 2 0) 3 0) 1 (fd_rI σ j1 2)) hQ hx hb hr ⟨by rw [fv_Rq_follow, if_neg c3, if_neg c10, if_pos c19], hI23⟩ hP hD hS fx_Rq_follow_62 hlocks
def fv_Rq_meetRedirect (σ : FDS) (j1 : Nat) (p2 : Int32) : Bool × FDS := if (fd_qI σ 6) = 1 then (false, fd_sqI σ 10 4) else if (fd_qI σ 6) = 2 then (false, (fv_Rq_show σ 0 0 0 3)) else if p2 < 4 then (true, (fv_Rq_follow σ j1)) else (false, fd_sqI σ 10 5)
set_option maxHeartbeats 4000000 in
set_option maxRecDepth 100000 in
theorem fc_Rq_meetRedirect (l : Launch) (D : va_G) (cR cP : ClassId) (ad : Nat → Nat) (sz : Nat) (σ : FDS) (j1 : Nat) (hj1 : j1 < 48) (p2 : Int32) (hI : fd_Inv σ) (ht : ¬ fd_rI σ j1 2 = -1) : Met l fy_Rq_meetRedirect (fw_Rq_meetRedirect :: fb_tbl) ({ frames := 2, cells := 0, slots := 0, locals := 43 } : Room) (fd_Pc D cR cP ad [.ref (ad 2), .ref (ad (3 + j1)), .int p2] σ sz) ((fun A => va_Qi (fun (r : Int32) (u : FDS) => (fd_bi (fv_Rq_meetRedirect σ j1 p2).1, (fv_Rq_meetRedirect σ j1 p2).2) = (r, u) ∧ fd_Inv u) (fd_B D cR cP ad A) A) (va_A (fd_w cR cP ad σ) sz)) 0 0 (va_A (fd_w cR cP ad σ) sz) := by
  refine fd_ofW (cc := fb_Rq_meetRedirect) (maxL := 3) (ret := (some .boolean)) (Qf := fun A => va_Qi (fun (r : Int32) (u : FDS) => (fd_bi (fv_Rq_meetRedirect σ j1 p2).1, (fv_Rq_meetRedirect σ j1 p2).2) = (r, u) ∧ fd_Inv u) (fd_B D cR cP ad A) A) (by decide) (Nat.le_of_ble_eq_true rfl) ?_
  intro p e s m args below meth c A Q hQ hx hb hr hts hown hlocks hml hP hK hD hS hA hN ls hl
  have hown : s.vm.findClass fn_R_Rq = some m.cls := hown
  have hl : lv_has ls 3 [(0, .ref (ad 2)), (1, .ref (ad (3 + j1))), (2, .int p2)] := hl
  suffices hgo : ∀ (H : Heap) (locs : List Loc), va_P D fn_cl (fd_w cR cP ad σ) H → va_D A (fd_w cR cP ad σ) → va_S A s.heap H locs → W p l e ({ frames := 2, cells := 0, slots := 0, locals := 43 } : Room) s m args below meth c H locs 0 0 Q (F0 m 0 ls []) from hgo _ _ hP hD hS
  clear hP hD hS
  intro H locs hP hD hS
  refine lv_aload_n hx hb fx_Rq_meetRedirect_0 rfl (lv_at hl 0 rfl) ?_
  refine va_get (D := D) (ci := 2) (v := .int (fd_qI σ 6)) (C := fn_R_Rq) (T := fn_T_Rq) (N := 15) hx hb hts fn_j_Rq hown hK hP 2 rfl rfl 6 (by decide) (hts _ (List.mem_cons_of_mem _ fq_154)) (fun _ h9 => h9) rfl fx_Rq_meetRedirect_1 ?_
  refine lv_iconst (v := 1) hx hb fx_Rq_meetRedirect_4 (by decide) ?_
  refine lv_icmp_ne (tgt := 15) hx hb fx_Rq_meetRedirect_5 (by decide) (fun c1 => ?_) (fun c1 => ?_)
  · refine lv_aload_n hx hb fx_Rq_meetRedirect_15 rfl (lv_at hl 0 rfl) ?_
    refine va_get (D := D) (ci := 2) (v := .int (fd_qI σ 6)) (C := fn_R_Rq) (T := fn_T_Rq) (N := 15) hx hb hts fn_j_Rq hown hK hP 2 rfl rfl 6 (by decide) (hts _ (List.mem_cons_of_mem _ fq_154)) (fun _ h9 => h9) rfl fx_Rq_meetRedirect_16 ?_
    refine lv_iconst (v := 2) hx hb fx_Rq_meetRedirect_19 (by decide) ?_
    refine lv_icmp_ne (tgt := 33) hx hb fx_Rq_meetRedirect_20 (by decide) (fun c2 => ?_) (fun c2 => ?_)
    · refine lv_iload_n hx hb fx_Rq_meetRedirect_33 rfl (lv_at hl 2 rfl) ?_
      refine lv_iconst (v := 4) hx hb fx_Rq_meetRedirect_34 (by decide) ?_
      refine lv_icmp_lt (tgt := 45) hx hb fx_Rq_meetRedirect_35 (by decide) (fun c3 => ?_) (fun c3 => ?_)
      · refine lv_aload_n hx hb fx_Rq_meetRedirect_45 rfl (lv_at hl 0 rfl) ?_
        refine lv_aload_n hx hb fx_Rq_meetRedirect_46 rfl (lv_at hl 1 rfl) ?_
        refine fd_callvm (va_runV (As := [.ref (ad (3 + j1))]) (rest := []) ⟨hx, hb, hml, hown, hts⟩ (fc_Rq_follow l D cR cP ad H.size σ j1 hj1 hI ht) ⟨callB_of 1 hts (fb_good fm_Rq_follow) rfl rfl rfl (hts _ (List.mem_cons_of_mem _ fq_5)) (hts _ (List.mem_cons_of_mem _ fq_446)) (by decide +kernel) ⟨Nat.le_of_ble_eq_true rfl, Nat.le_of_ble_eq_true rfl⟩, (hts _ (List.mem_cons_of_mem _ fq_448)), (hts _ (List.mem_cons_of_mem _ fp_Rq_follow))⟩ (fd_preV hP hK hD hN (va_recv hK hP (ci := 2) (q0 := 2) rfl rfl)) rfl rfl hl.1 rfl (lv_room (Nat.le_of_ble_eq_true rfl)) fx_Rq_meetRedirect_47 ⟨Nat.le_of_ble_eq_true rfl, Nat.le_of_ble_eq_true rfl⟩) hD hS hA (fun H locs hP hD hS hI4 => ?_)
        refine lv_iconst (v := 1) hx hb fx_Rq_meetRedirect_50 (by decide) ?_
        exact fd_zret (r := true) (u := (fv_Rq_follow σ j1)) hQ hx hb hr ⟨by rw [fv_Rq_meetRedirect, if_neg c1, if_neg c2, if_pos c3], hI4⟩ hP hD hS fx_Rq_meetRedirect_51 hlocks
      · refine lv_aload_n hx hb fx_Rq_meetRedirect_38 rfl (lv_at hl 0 rfl) ?_
        refine lv_iconst (v := 5) hx hb fx_Rq_meetRedirect_39 (by decide) ?_
        refine va_put (D := D) (ci := 2) (v := .int 5) (ty := .int) (C := fn_R_Rq) (T := fn_T_Rq) (N := 15) hx hb hts fn_j_Rq fn_t_Rq fn_k_Rq fn_n_Rq hown hK hP hD hS 2 rfl rfl 10 (by decide) (hts _ (List.mem_cons_of_mem _ fq_163)) (fun _ h9 => h9) rfl (by decide +kernel) rfl rfl (Nat.le_of_ble_eq_true rfl) fx_Rq_meetRedirect_40 (fun H locs hP hD hS => ?_)
        rw [fd_set_Rq_10] at hP hD
        have hI5 : fd_Inv (fd_sqI σ 10 5) := fd_inv_sqI (by decide) hI
        refine lv_iconst (v := 0) hx hb fx_Rq_meetRedirect_43 (by decide) ?_
        exact fd_zret (r := false) (u := fd_sqI σ 10 5) hQ hx hb hr ⟨by rw [fv_Rq_meetRedirect, if_neg c1, if_neg c2, if_neg c3], hI5⟩ hP hD hS fx_Rq_meetRedirect_44 hlocks
    · refine lv_aload_n hx hb fx_Rq_meetRedirect_23 rfl (lv_at hl 0 rfl) ?_
      refine lv_iconst (v := 0) hx hb fx_Rq_meetRedirect_24 (by decide) ?_
      refine lv_iconst (v := 0) hx hb fx_Rq_meetRedirect_25 (by decide) ?_
      refine lv_iconst (v := 0) hx hb fx_Rq_meetRedirect_26 (by decide) ?_
      refine lv_iconst (v := 3) hx hb fx_Rq_meetRedirect_27 (by decide) ?_
      refine fd_callvm (va_runV (As := [.int 0, .int 0, .int 0, .int 3]) (rest := []) ⟨hx, hb, hml, hown, hts⟩ (fc_Rq_show l D cR cP ad H.size σ 0 0 0 3 hI ) ⟨callB_of 4 hts (fb_good fm_Rq_show) rfl rfl rfl (hts _ (List.mem_cons_of_mem _ fq_5)) (hts _ (List.mem_cons_of_mem _ fq_366)) (by decide +kernel) ⟨Nat.le_of_ble_eq_true rfl, Nat.le_of_ble_eq_true rfl⟩, (hts _ (List.mem_cons_of_mem _ fq_368)), (hts _ (List.mem_cons_of_mem _ fp_Rq_show))⟩ (fd_preV hP hK hD hN (va_recv hK hP (ci := 2) (q0 := 2) rfl rfl)) rfl rfl hl.1 rfl (lv_room (Nat.le_of_ble_eq_true rfl)) fx_Rq_meetRedirect_28 ⟨Nat.le_of_ble_eq_true rfl, Nat.le_of_ble_eq_true rfl⟩) hD hS hA (fun H locs hP hD hS hI6 => ?_)
      refine lv_iconst (v := 0) hx hb fx_Rq_meetRedirect_31 (by decide) ?_
      exact fd_zret (r := false) (u := (fv_Rq_show σ 0 0 0 3)) hQ hx hb hr ⟨by rw [fv_Rq_meetRedirect, if_neg c1, if_pos c2], hI6⟩ hP hD hS fx_Rq_meetRedirect_32 hlocks
  · refine lv_aload_n hx hb fx_Rq_meetRedirect_8 rfl (lv_at hl 0 rfl) ?_
    refine lv_iconst (v := 4) hx hb fx_Rq_meetRedirect_9 (by decide) ?_
    refine va_put (D := D) (ci := 2) (v := .int 4) (ty := .int) (C := fn_R_Rq) (T := fn_T_Rq) (N := 15) hx hb hts fn_j_Rq fn_t_Rq fn_k_Rq fn_n_Rq hown hK hP hD hS 2 rfl rfl 10 (by decide) (hts _ (List.mem_cons_of_mem _ fq_163)) (fun _ h9 => h9) rfl (by decide +kernel) rfl rfl (Nat.le_of_ble_eq_true rfl) fx_Rq_meetRedirect_10 (fun H locs hP hD hS => ?_)
    rw [fd_set_Rq_10] at hP hD
    have hI7 : fd_Inv (fd_sqI σ 10 4) := fd_inv_sqI (by decide) hI
    refine lv_iconst (v := 0) hx hb fx_Rq_meetRedirect_13 (by decide) ?_
    exact fd_zret (r := false) (u := fd_sqI σ 10 4) hQ hx hb hr ⟨by rw [fv_Rq_meetRedirect, if_pos c1], hI7⟩ hP hD hS fx_Rq_meetRedirect_14 hlocks
def fv_Rq_takeResponse (σ : FDS) (j1 : Nat) : FDS := if (fd_qB σ 8) = true then if (fd_qI σ 4) = 1 then (fv_Rq_show σ (fd_rI σ j1 0) (fd_rI σ j1 1) ((fd_rI σ j1 3) &&& (fd_rI σ j1 4)) 1) else (fv_Rq_show σ 0 0 0 2) else (fv_Rq_show σ (fd_rI σ j1 0) (fd_rI σ j1 1) (fd_rI σ j1 3) 0)
set_option maxHeartbeats 4000000 in
set_option maxRecDepth 100000 in
theorem fc_Rq_takeResponse (l : Launch) (D : va_G) (cR cP : ClassId) (ad : Nat → Nat) (sz : Nat) (σ : FDS) (j1 : Nat) (hj1 : j1 < 48) (hI : fd_Inv σ)  : Met l fy_Rq_takeResponse (fw_Rq_takeResponse :: fb_tbl) ({ frames := 1, cells := 0, slots := 0, locals := 24 } : Room) (fd_Pc D cR cP ad [.ref (ad 2), .ref (ad (3 + j1))] σ sz) ((fun A => va_Qv (fun u : FDS => fv_Rq_takeResponse σ j1 = u ∧ fd_Inv u) (fd_B D cR cP ad A) A) (va_A (fd_w cR cP ad σ) sz)) 0 0 (va_A (fd_w cR cP ad σ) sz) := by
  refine fd_ofW (cc := fb_Rq_takeResponse) (maxL := 3) (ret := none) (Qf := fun A => va_Qv (fun u : FDS => fv_Rq_takeResponse σ j1 = u ∧ fd_Inv u) (fd_B D cR cP ad A) A) (by decide) (Nat.le_of_ble_eq_true rfl) ?_
  intro p e s m args below meth c A Q hQ hx hb hr hts hown hlocks hml hP hK hD hS hA hN ls hl
  have hown : s.vm.findClass fn_R_Rq = some m.cls := hown
  have hl : lv_has ls 3 [(0, .ref (ad 2)), (1, .ref (ad (3 + j1)))] := hl
  suffices hgo : ∀ (H : Heap) (locs : List Loc), va_P D fn_cl (fd_w cR cP ad σ) H → va_D A (fd_w cR cP ad σ) → va_S A s.heap H locs → W p l e ({ frames := 1, cells := 0, slots := 0, locals := 24 } : Room) s m args below meth c H locs 0 0 Q (F0 m 0 ls []) from hgo _ _ hP hD hS
  clear hP hD hS
  intro H locs hP hD hS
  refine lv_aload_n hx hb fx_Rq_takeResponse_0 rfl (lv_at hl 0 rfl) ?_
  refine va_get (D := D) (ci := 2) (v := .int (fd_bi (fd_qB σ 8))) (C := fn_R_Rq) (T := fn_T_Rq) (N := 15) hx hb hts fn_j_Rq hown hK hP 2 rfl rfl 8 (by decide) (hts _ (List.mem_cons_of_mem _ fq_157)) (fun _ h9 => h9) rfl fx_Rq_takeResponse_1 ?_
  refine fd_ifne (tgt := 27) hx hb fx_Rq_takeResponse_4 (by decide) (fun c1 => ?_) (fun c1 => ?_)
  · refine lv_aload_n hx hb fx_Rq_takeResponse_27 rfl (lv_at hl 0 rfl) ?_
    refine va_get (D := D) (ci := 2) (v := .int (fd_qI σ 4)) (C := fn_R_Rq) (T := fn_T_Rq) (N := 15) hx hb hts fn_j_Rq hown hK hP 2 rfl rfl 4 (by decide) (hts _ (List.mem_cons_of_mem _ fq_151)) (fun _ h9 => h9) rfl fx_Rq_takeResponse_28 ?_
    refine lv_iconst (v := 1) hx hb fx_Rq_takeResponse_31 (by decide) ?_
    refine lv_icmp_ne (tgt := 62) hx hb fx_Rq_takeResponse_32 (by decide) (fun c2 => ?_) (fun c2 => ?_)
    · refine lv_aload_n hx hb fx_Rq_takeResponse_62 rfl (lv_at hl 0 rfl) ?_
      refine lv_iconst (v := 0) hx hb fx_Rq_takeResponse_63 (by decide) ?_
      refine lv_iconst (v := 0) hx hb fx_Rq_takeResponse_64 (by decide) ?_
      refine lv_iconst (v := 0) hx hb fx_Rq_takeResponse_65 (by decide) ?_
      refine lv_iconst (v := 2) hx hb fx_Rq_takeResponse_66 (by decide) ?_
      refine fd_callvm (va_runV (As := [.int 0, .int 0, .int 0, .int 2]) (rest := []) ⟨hx, hb, hml, hown, hts⟩ (fc_Rq_show l D cR cP ad H.size σ 0 0 0 2 hI ) ⟨callB_of 4 hts (fb_good fm_Rq_show) rfl rfl rfl (hts _ (List.mem_cons_of_mem _ fq_5)) (hts _ (List.mem_cons_of_mem _ fq_366)) (by decide +kernel) ⟨Nat.le_of_ble_eq_true rfl, Nat.le_of_ble_eq_true rfl⟩, (hts _ (List.mem_cons_of_mem _ fq_368)), (hts _ (List.mem_cons_of_mem _ fp_Rq_show))⟩ (fd_preV hP hK hD hN (va_recv hK hP (ci := 2) (q0 := 2) rfl rfl)) rfl rfl hl.1 rfl (lv_room (Nat.le_of_ble_eq_true rfl)) fx_Rq_takeResponse_67 ⟨Nat.le_of_ble_eq_true rfl, Nat.le_of_ble_eq_true rfl⟩) hD hS hA (fun H locs hP hD hS hI3 => ?_)
      exact fd_vret (u := (fv_Rq_show σ 0 0 0 2)) hQ hx hb hr ⟨by rw [fv_Rq_takeResponse, if_pos c1, if_neg c2], hI3⟩ hP hD hS fx_Rq_takeResponse_70 hlocks
    · refine lv_aload_n hx hb fx_Rq_takeResponse_35 rfl (lv_at hl 1 rfl) ?_
      refine va_getN (D := D) (ci := 3) (v := .int (fd_rI σ j1 3)) (C := fn_R_Rs) (T := fn_T_Rs) (N := 13) hx hb hts fn_j_Rs hown hK hP (5 + j1) (fd_w_res hj1) rfl 3 (by decide) (va_Nw.use rfl (hN _ fq_37)) (fun _ h9 => h9) rfl fx_Rq_takeResponse_36 ?_
      refine lv_aload_n hx hb fx_Rq_takeResponse_39 rfl (lv_at hl 1 rfl) ?_
      refine va_getN (D := D) (ci := 3) (v := .int (fd_rI σ j1 4)) (C := fn_R_Rs) (T := fn_T_Rs) (N := 13) hx hb hts fn_j_Rs hown hK hP (5 + j1) (fd_w_res hj1) rfl 4 (by decide) (va_Nw.use rfl (hN _ fq_39)) (fun _ h9 => h9) rfl fx_Rq_takeResponse_40 ?_
      refine lv_iand hx hb fx_Rq_takeResponse_43 ?_
      refine lv_istore_n (lv' := [(2, .int ((fd_rI σ j1 3) &&& (fd_rI σ j1 4))), (0, .ref (ad 2)), (1, .ref (ad (3 + j1)))]) hx hb fx_Rq_takeResponse_44 rfl hl (by decide) rfl (fun ls hl => ?_)
      refine lv_aload_n hx hb fx_Rq_takeResponse_45 rfl (lv_at hl 1 rfl) ?_
      refine lv_aload_n hx hb fx_Rq_takeResponse_46 rfl (lv_at hl 2 rfl) ?_
      refine va_getN (D := D) (ci := 3) (v := .int (fd_rI σ j1 0)) (C := fn_R_Rs) (T := fn_T_Rs) (N := 13) hx hb hts fn_j_Rs hown hK hP (5 + j1) (fd_w_res hj1) rfl 0 (by decide) (va_Nw.use rfl (hN _ fq_30)) (fun _ h9 => h9) rfl fx_Rq_takeResponse_47 ?_
      refine lv_aload_n hx hb fx_Rq_takeResponse_50 rfl (lv_at hl 2 rfl) ?_
      refine va_getN (D := D) (ci := 3) (v := .int (fd_rI σ j1 1)) (C := fn_R_Rs) (T := fn_T_Rs) (N := 13) hx hb hts fn_j_Rs hown hK hP (5 + j1) (fd_w_res hj1) rfl 1 (by decide) (va_Nw.use rfl (hN _ fq_32)) (fun _ h9 => h9) rfl fx_Rq_takeResponse_51 ?_
      refine lv_iload_n hx hb fx_Rq_takeResponse_54 rfl (lv_at hl 0 rfl) ?_
      refine lv_iconst (v := 1) hx hb fx_Rq_takeResponse_55 (by decide) ?_
      refine fd_callvm (va_runV (As := [.int (fd_rI σ j1 0), .int (fd_rI σ j1 1), .int ((fd_rI σ j1 3) &&& (fd_rI σ j1 4)), .int 1]) (rest := []) ⟨hx, hb, hml, hown, hts⟩ (fc_Rq_show l D cR cP ad H.size σ (fd_rI σ j1 0) (fd_rI σ j1 1) ((fd_rI σ j1 3) &&& (fd_rI σ j1 4)) 1 hI ) ⟨callB_of 4 hts (fb_good fm_Rq_show) rfl rfl rfl (hts _ (List.mem_cons_of_mem _ fq_5)) (hts _ (List.mem_cons_of_mem _ fq_366)) (by decide +kernel) ⟨Nat.le_of_ble_eq_true rfl, Nat.le_of_ble_eq_true rfl⟩, (hts _ (List.mem_cons_of_mem _ fq_368)), (hts _ (List.mem_cons_of_mem _ fp_Rq_show))⟩ (fd_preV hP hK hD hN (va_recv hK hP (ci := 2) (q0 := 2) rfl rfl)) rfl rfl hl.1 rfl (lv_room (Nat.le_of_ble_eq_true rfl)) fx_Rq_takeResponse_56 ⟨Nat.le_of_ble_eq_true rfl, Nat.le_of_ble_eq_true rfl⟩) hD hS hA (fun H locs hP hD hS hI4 => ?_)
      refine lv_goto (tgt := 70) hx hb fx_Rq_takeResponse_59 (by decide) ?_
      exact fd_vret (u := (fv_Rq_show σ (fd_rI σ j1 0) (fd_rI σ j1 1) ((fd_rI σ j1 3) &&& (fd_rI σ j1 4)) 1)) hQ hx hb hr ⟨by rw [fv_Rq_takeResponse, if_pos c1, if_pos c2], hI4⟩ hP hD hS fx_Rq_takeResponse_70 hlocks
  · refine lv_aload_n hx hb fx_Rq_takeResponse_7 rfl (lv_at hl 0 rfl) ?_
    refine lv_aload_n hx hb fx_Rq_takeResponse_8 rfl (lv_at hl 1 rfl) ?_
    refine va_getN (D := D) (ci := 3) (v := .int (fd_rI σ j1 0)) (C := fn_R_Rs) (T := fn_T_Rs) (N := 13) hx hb hts fn_j_Rs hown hK hP (5 + j1) (fd_w_res hj1) rfl 0 (by decide) (va_Nw.use rfl (hN _ fq_30)) (fun _ h9 => h9) rfl fx_Rq_takeResponse_9 ?_
    refine lv_aload_n hx hb fx_Rq_takeResponse_12 rfl (lv_at hl 1 rfl) ?_
    refine va_getN (D := D) (ci := 3) (v := .int (fd_rI σ j1 1)) (C := fn_R_Rs) (T := fn_T_Rs) (N := 13) hx hb hts fn_j_Rs hown hK hP (5 + j1) (fd_w_res hj1) rfl 1 (by decide) (va_Nw.use rfl (hN _ fq_32)) (fun _ h9 => h9) rfl fx_Rq_takeResponse_13 ?_
    refine lv_aload_n hx hb fx_Rq_takeResponse_16 rfl (lv_at hl 1 rfl) ?_
    refine va_getN (D := D) (ci := 3) (v := .int (fd_rI σ j1 3)) (C := fn_R_Rs) (T := fn_T_Rs) (N := 13) hx hb hts fn_j_Rs hown hK hP (5 + j1) (fd_w_res hj1) rfl 3 (by decide) (va_Nw.use rfl (hN _ fq_37)) (fun _ h9 => h9) rfl fx_Rq_takeResponse_17 ?_
    refine lv_iconst (v := 0) hx hb fx_Rq_takeResponse_20 (by decide) ?_
    refine fd_callvm (va_runV (As := [.int (fd_rI σ j1 0), .int (fd_rI σ j1 1), .int (fd_rI σ j1 3), .int 0]) (rest := []) ⟨hx, hb, hml, hown, hts⟩ (fc_Rq_show l D cR cP ad H.size σ (fd_rI σ j1 0) (fd_rI σ j1 1) (fd_rI σ j1 3) 0 hI ) ⟨callB_of 4 hts (fb_good fm_Rq_show) rfl rfl rfl (hts _ (List.mem_cons_of_mem _ fq_5)) (hts _ (List.mem_cons_of_mem _ fq_366)) (by decide +kernel) ⟨Nat.le_of_ble_eq_true rfl, Nat.le_of_ble_eq_true rfl⟩, (hts _ (List.mem_cons_of_mem _ fq_368)), (hts _ (List.mem_cons_of_mem _ fp_Rq_show))⟩ (fd_preV hP hK hD hN (va_recv hK hP (ci := 2) (q0 := 2) rfl rfl)) rfl rfl hl.1 rfl (lv_room (Nat.le_of_ble_eq_true rfl)) fx_Rq_takeResponse_21 ⟨Nat.le_of_ble_eq_true rfl, Nat.le_of_ble_eq_true rfl⟩) hD hS hA (fun H locs hP hD hS hI5 => ?_)
    refine lv_goto (tgt := 70) hx hb fx_Rq_takeResponse_24 (by decide) ?_
    exact fd_vret (u := (fv_Rq_show σ (fd_rI σ j1 0) (fd_rI σ j1 1) (fd_rI σ j1 3) 0)) hQ hx hb hr ⟨by rw [fv_Rq_takeResponse, if_neg c1], hI5⟩ hP hD hS fx_Rq_takeResponse_70 hlocks
def fv_Pm_write (σ : FDS) (j0 : Nat) (j2 : Nat) (p3 : UInt64) : FDS := fd_spD (fd_spI (fd_spI (fd_spB (fd_spI (fd_spI σ j0 0 (fd_qI σ 0)) j0 1 (fd_qI σ 1)) j0 (fd_qB σ 9)) j0 3 (fd_rI σ j2 8)) j0 4 (fd_rI σ j2 9)) j0 p3
set_option maxHeartbeats 4000000 in
set_option maxRecDepth 100000 in
theorem fc_Pm_write (l : Launch) (D : va_G) (cR cP : ClassId) (ad : Nat → Nat) (sz : Nat) (σ : FDS) (j0 : Nat) (hj0 : j0 < 6) (j2 : Nat) (hj2 : j2 < 48) (p3 : UInt64) (hI : fd_Inv σ)  : Met l fy_Pm_write (fw_Pm_write :: fb_tbl) ({ frames := 0, cells := 0, slots := 0, locals := 0 } : Room) (fd_Pc D cR cP ad [.ref (ad (51 + j0)), .ref (ad 2), .ref (ad (3 + j2)), .double p3] σ sz) ((fun A => va_Qv (fun u : FDS => fv_Pm_write σ j0 j2 p3 = u ∧ fd_Inv u) (fd_B D cR cP ad A) A) (va_A (fd_w cR cP ad σ) sz)) 0 0 (va_A (fd_w cR cP ad σ) sz) := by
  refine fd_ofW (cc := fb_Pm_write) (maxL := 5) (ret := none) (Qf := fun A => va_Qv (fun u : FDS => fv_Pm_write σ j0 j2 p3 = u ∧ fd_Inv u) (fd_B D cR cP ad A) A) (by decide) (Nat.le_of_ble_eq_true rfl) ?_
  intro p e s m args below meth c A Q hQ hx hb hr hts hown hlocks hml hP hK hD hS hA hN ls hl
  have hown : s.vm.findClass fn_R_Pm = some m.cls := hown
  have hl : lv_has ls 5 [(0, .ref (ad (51 + j0))), (1, .ref (ad 2)), (2, .ref (ad (3 + j2))), (3, .double p3)] := hl
  suffices hgo : ∀ (H : Heap) (locs : List Loc), va_P D fn_cl (fd_w cR cP ad σ) H → va_D A (fd_w cR cP ad σ) → va_S A s.heap H locs → W p l e ({ frames := 0, cells := 0, slots := 0, locals := 0 } : Room) s m args below meth c H locs 0 0 Q (F0 m 0 ls []) from hgo _ _ hP hD hS
  clear hP hD hS
  intro H locs hP hD hS
  refine lv_aload_n hx hb fx_Pm_write_0 rfl (lv_at hl 0 rfl) ?_
  refine lv_aload_n hx hb fx_Pm_write_1 rfl (lv_at hl 1 rfl) ?_
  refine va_getN (D := D) (ci := 2) (v := .int (fd_qI σ 0)) (C := fn_R_Rq) (T := fn_T_Rq) (N := 15) hx hb hts fn_j_Rq hown hK hP 2 rfl rfl 0 (by decide) (va_Nw.use rfl (hN _ fq_140)) (fun _ h9 => h9) rfl fx_Pm_write_2 ?_
  refine va_put (D := D) (ci := 1) (v := .int (fd_qI σ 0)) (ty := .int) (C := fn_R_Pm) (T := fn_T_Pm) (N := 6) hx hb hts fn_j_Pm fn_t_Pm fn_k_Pm fn_n_Pm hown hK hP hD hS (53 + j0) (fd_w_per hj0) rfl 0 (by decide) (hts _ (List.mem_cons_of_mem _ fq_93)) (fun _ h9 => h9) rfl (by decide +kernel) rfl rfl (Nat.le_of_ble_eq_true rfl) fx_Pm_write_5 (fun H locs hP hD hS => ?_)
  rw [fd_set_Pm_0 hj0] at hP hD
  have hI1 : fd_Inv (fd_spI σ j0 0 (fd_qI σ 0)) := fd_inv_spI hI
  refine lv_aload_n hx hb fx_Pm_write_8 rfl (lv_at hl 0 rfl) ?_
  refine lv_aload_n hx hb fx_Pm_write_9 rfl (lv_at hl 1 rfl) ?_
  refine va_getN (D := D) (ci := 2) (v := .int (fd_qI σ 1)) (C := fn_R_Rq) (T := fn_T_Rq) (N := 15) hx hb hts fn_j_Rq hown hK hP 2 rfl rfl 1 (by decide) (va_Nw.use rfl (hN _ fq_144)) (fun _ h9 => h9) rfl fx_Pm_write_10 ?_
  refine va_put (D := D) (ci := 1) (v := .int (fd_qI σ 1)) (ty := .int) (C := fn_R_Pm) (T := fn_T_Pm) (N := 6) hx hb hts fn_j_Pm fn_t_Pm fn_k_Pm fn_n_Pm hown hK hP hD hS (53 + j0) (fd_w_per hj0) rfl 1 (by decide) (hts _ (List.mem_cons_of_mem _ fq_96)) (fun _ h9 => h9) rfl (by decide +kernel) rfl rfl (Nat.le_of_ble_eq_true rfl) fx_Pm_write_13 (fun H locs hP hD hS => ?_)
  rw [fd_set_Pm_1 hj0] at hP hD
  have hI2 : fd_Inv (fd_spI (fd_spI σ j0 0 (fd_qI σ 0)) j0 1 (fd_qI σ 1)) := fd_inv_spI hI1
  refine lv_aload_n hx hb fx_Pm_write_16 rfl (lv_at hl 0 rfl) ?_
  refine lv_aload_n hx hb fx_Pm_write_17 rfl (lv_at hl 1 rfl) ?_
  refine va_getN (D := D) (ci := 2) (v := .int (fd_bi (fd_qB σ 9))) (C := fn_R_Rq) (T := fn_T_Rq) (N := 15) hx hb hts fn_j_Rq hown hK hP 2 rfl rfl 9 (by decide) (va_Nw.use rfl (hN _ fq_159)) (fun _ h9 => h9) rfl fx_Pm_write_18 ?_
  refine va_put (D := D) (ci := 1) (v := .int (fd_bi (fd_qB σ 9))) (ty := .boolean) (C := fn_R_Pm) (T := fn_T_Pm) (N := 6) hx hb hts fn_j_Pm fn_t_Pm fn_k_Pm fn_n_Pm hown hK hP hD hS (53 + j0) (fd_w_per hj0) rfl 2 (by decide) (hts _ (List.mem_cons_of_mem _ fq_99)) (fun _ h9 => h9) rfl (by decide +kernel) (fd_nar _) (fd_fit _) (Nat.le_of_ble_eq_true rfl) fx_Pm_write_21 (fun H locs hP hD hS => ?_)
  rw [fd_set_Pm_2 hj0] at hP hD
  have hI3 : fd_Inv (fd_spB (fd_spI (fd_spI σ j0 0 (fd_qI σ 0)) j0 1 (fd_qI σ 1)) j0 (fd_qB σ 9)) := fd_inv_spB hI2
  refine lv_aload_n hx hb fx_Pm_write_24 rfl (lv_at hl 0 rfl) ?_
  refine lv_aload_n hx hb fx_Pm_write_25 rfl (lv_at hl 2 rfl) ?_
  refine va_getN (D := D) (ci := 3) (v := .int (fd_rI σ j2 8)) (C := fn_R_Rs) (T := fn_T_Rs) (N := 13) hx hb hts fn_j_Rs hown hK hP (5 + j2) (fd_w_res hj2) rfl 8 (by decide) (va_Nw.use rfl (hN _ fq_45)) (fun _ h9 => h9) rfl fx_Pm_write_26 ?_
  refine va_put (D := D) (ci := 1) (v := .int (fd_rI σ j2 8)) (ty := .int) (C := fn_R_Pm) (T := fn_T_Pm) (N := 6) hx hb hts fn_j_Pm fn_t_Pm fn_k_Pm fn_n_Pm hown hK hP hD hS (53 + j0) (fd_w_per hj0) rfl 3 (by decide) (hts _ (List.mem_cons_of_mem _ fq_102)) (fun _ h9 => h9) rfl (by decide +kernel) rfl rfl (Nat.le_of_ble_eq_true rfl) fx_Pm_write_29 (fun H locs hP hD hS => ?_)
  rw [fd_set_Pm_3 hj0] at hP hD
  have hI4 : fd_Inv (fd_spI (fd_spB (fd_spI (fd_spI σ j0 0 (fd_qI σ 0)) j0 1 (fd_qI σ 1)) j0 (fd_qB σ 9)) j0 3 (fd_rI σ j2 8)) := fd_inv_spI hI3
  refine lv_aload_n hx hb fx_Pm_write_32 rfl (lv_at hl 0 rfl) ?_
  refine lv_aload_n hx hb fx_Pm_write_33 rfl (lv_at hl 2 rfl) ?_
  refine va_getN (D := D) (ci := 3) (v := .int (fd_rI σ j2 9)) (C := fn_R_Rs) (T := fn_T_Rs) (N := 13) hx hb hts fn_j_Rs hown hK hP (5 + j2) (fd_w_res hj2) rfl 9 (by decide) (va_Nw.use rfl (hN _ fq_47)) (fun _ h9 => h9) rfl fx_Pm_write_34 ?_
  refine va_put (D := D) (ci := 1) (v := .int (fd_rI σ j2 9)) (ty := .int) (C := fn_R_Pm) (T := fn_T_Pm) (N := 6) hx hb hts fn_j_Pm fn_t_Pm fn_k_Pm fn_n_Pm hown hK hP hD hS (53 + j0) (fd_w_per hj0) rfl 4 (by decide) (hts _ (List.mem_cons_of_mem _ fq_105)) (fun _ h9 => h9) rfl (by decide +kernel) rfl rfl (Nat.le_of_ble_eq_true rfl) fx_Pm_write_37 (fun H locs hP hD hS => ?_)
  rw [fd_set_Pm_4 hj0] at hP hD
  have hI5 : fd_Inv (fd_spI (fd_spI (fd_spB (fd_spI (fd_spI σ j0 0 (fd_qI σ 0)) j0 1 (fd_qI σ 1)) j0 (fd_qB σ 9)) j0 3 (fd_rI σ j2 8)) j0 4 (fd_rI σ j2 9)) := fd_inv_spI hI4
  refine lv_aload_n hx hb fx_Pm_write_40 rfl (lv_at hl 0 rfl) ?_
  refine lv_dload_n hx hb fx_Pm_write_41 rfl (lv_at hl 3 rfl) ?_
  refine va_put (D := D) (ci := 1) (v := .double p3) (ty := .double) (C := fn_R_Pm) (T := fn_T_Pm) (N := 6) hx hb hts fn_j_Pm fn_t_Pm fn_k_Pm fn_n_Pm hown hK hP hD hS (53 + j0) (fd_w_per hj0) rfl 5 (by decide) (hts _ (List.mem_cons_of_mem _ fq_108)) (fun _ h9 => h9) rfl (by decide +kernel) rfl rfl (Nat.le_of_ble_eq_true rfl) fx_Pm_write_42 (fun H locs hP hD hS => ?_)
  rw [fd_set_Pm_5 hj0] at hP hD
  have hI6 : fd_Inv (fd_spD (fd_spI (fd_spI (fd_spB (fd_spI (fd_spI σ j0 0 (fd_qI σ 0)) j0 1 (fd_qI σ 1)) j0 (fd_qB σ 9)) j0 3 (fd_rI σ j2 8)) j0 4 (fd_rI σ j2 9)) j0 p3) := fd_inv_spD hI5
  exact fd_vret (u := fd_spD (fd_spI (fd_spI (fd_spB (fd_spI (fd_spI σ j0 0 (fd_qI σ 0)) j0 1 (fd_qI σ 1)) j0 (fd_qB σ 9)) j0 3 (fd_rI σ j2 8)) j0 4 (fd_rI σ j2 9)) j0 p3) hQ hx hb hr ⟨by rw [fv_Pm_write], hI6⟩ hP hD hS fx_Pm_write_45 hlocks
def fv_Mm_find_l2 : Nat → FDS → Int32 → Int32
  | 0 , σ , i => 0
  | n + 1 , σ , i => if (fd_mS σ) ≤ i then (-1) else if (fd_pI σ (fd_pF σ i.toNatClampNeg) 0) = (fd_qI σ 0) then if (fd_pI σ (fd_pF σ i.toNatClampNeg) 1) = (fd_qI σ 1) then if (fd_bi (fd_pB σ (fd_pF σ i.toNatClampNeg))) = (fd_bi (fd_qB σ 9)) then i else fv_Mm_find_l2 n σ (i + 1) else fv_Mm_find_l2 n σ (i + 1) else fv_Mm_find_l2 n σ (i + 1)
def fv_Mm_find (σ : FDS) : Int32 := fv_Mm_find_l2 7 σ 0
set_option maxHeartbeats 4000000 in
set_option maxRecDepth 100000 in
theorem fc_Mm_find (l : Launch) (D : va_G) (cR cP : ClassId) (ad : Nat → Nat) (sz : Nat) (σ : FDS)  (hI : fd_Inv σ)  : Met l fy_Mm_find (fw_Mm_find :: fb_tbl) ({ frames := 0, cells := 0, slots := 0, locals := 0 } : Room) (fd_Pc D cR cP ad [.ref (ad 1), .ref (ad 2)] σ sz) ((fun A => va_Qi (fun (r : Int32) (u : FDS) => fv_Mm_find σ = r ∧ u = σ) (fd_B D cR cP ad A) A) (va_A (fd_w cR cP ad σ) sz)) 0 0 (va_A (fd_w cR cP ad σ) sz) := by
  refine fd_ofW (cc := fb_Mm_find) (maxL := 4) (ret := (some .int)) (Qf := fun A => va_Qi (fun (r : Int32) (u : FDS) => fv_Mm_find σ = r ∧ u = σ) (fd_B D cR cP ad A) A) (by decide) (Nat.le_of_ble_eq_true rfl) ?_
  intro p e s m args below meth c A Q hQ hx hb hr hts hown hlocks hml hP hK hD hS hA hN ls hl
  have hown : s.vm.findClass fn_R_Mm = some m.cls := hown
  have hl : lv_has ls 4 [(0, .ref (ad 1)), (1, .ref (ad 2))] := hl
  suffices hgo : ∀ (H : Heap) (locs : List Loc), va_P D fn_cl (fd_w cR cP ad σ) H → va_D A (fd_w cR cP ad σ) → va_S A s.heap H locs → W p l e ({ frames := 0, cells := 0, slots := 0, locals := 0 } : Room) s m args below meth c H locs 0 0 Q (F0 m 0 ls []) from hgo _ _ hP hD hS
  clear hP hD hS
  intro H locs hP hD hS
  refine lv_iconst (v := 0) hx hb fx_Mm_find_0 (by decide) ?_
  refine lv_istore_n (lv' := [(2, .int 0), (0, .ref (ad 1)), (1, .ref (ad 2))]) hx hb fx_Mm_find_1 rfl hl (by decide) rfl (fun ls hl => ?_)
  have hL2 : ∀ (n : Nat) (i : Int32), (∃ k : Nat, k ≤ 6 ∧ 7 ≤ n + k ∧ i = nI k) → fv_Mm_find σ = fv_Mm_find_l2 n σ i → ∀ (H : Heap) (locs : List Loc), va_P D fn_cl (fd_w cR cP ad σ) H → va_D A (fd_w cR cP ad σ) → va_S A s.heap H locs → ∀ (ls : Array Slot), lv_has ls 4 [(2, .int i), (0, .ref (ad 1)), (1, .ref (ad 2))] → W p l e ({ frames := 0, cells := 0, slots := 0, locals := 0 } : Room) s m args below meth c H locs 0 0 Q (F0 m 2 ls []) := by
    intro n
    induction n with
    | zero =>
      intro i hi
      obtain ⟨k, h1, h2, -⟩ := hi; omega
    | succ n ih =>
      intro i hi hm2 H locs hP hD hS ls hl
      refine lv_iload_n hx hb fx_Mm_find_2 rfl (lv_at hl 0 rfl) ?_
      refine lv_aload_n hx hb fx_Mm_find_3 rfl (lv_at hl 1 rfl) ?_
      refine va_get (D := D) (ci := 0) (v := .int (fd_mS σ)) (C := fn_R_Mm) (T := fn_T_Mm) (N := 2) hx hb hts fn_j_Mm hown hK hP 1 rfl rfl 1 (by decide) (hts _ (List.mem_cons_of_mem _ fq_126)) (fun _ h9 => h9) rfl fx_Mm_find_4 ?_
      refine lv_icmp_ge (tgt := 58) hx hb fx_Mm_find_7 (by decide) (fun c1 => ?_) (fun c1 => ?_)
      · refine lv_iconst (v := (-1)) hx hb fx_Mm_find_58 (by decide) ?_
        exact fd_iret (r := (-1)) (u := σ) hQ hx hb hr ⟨by rw [hm2, fv_Mm_find_l2, if_pos c1], rfl⟩ hP hD hS fx_Mm_find_59 hlocks
      · refine lv_aload_n hx hb fx_Mm_find_10 rfl (lv_at hl 1 rfl) ?_
        refine va_get (D := D) (ci := 0) (v := .ref (ad 58)) (C := fn_R_Mm) (T := fn_T_Mm) (N := 2) hx hb hts fn_j_Mm hown hK hP 1 rfl rfl 0 (by decide) (hts _ (List.mem_cons_of_mem _ fq_124)) (fun _ h9 => h9) rfl fx_Mm_find_11 ?_
        refine lv_iload_n hx hb fx_Mm_find_14 rfl (lv_at hl 0 rfl) ?_
        have hb2 : vp_in i 6 := fd_idx hI hi c1
        refine va_aldq (D := D) hx hb hK hP 4 1 rfl rfl hb2 fx_Mm_find_15 ?_
        refine W.eq (g2 := F0 m 16 ls (.ref (ad (51 + (fd_pF σ i.toNatClampNeg))) :: [])) rfl ?_
        refine lv_astore_n (lv' := [(3, .ref (ad (51 + (fd_pF σ i.toNatClampNeg)))), (2, .int i), (0, .ref (ad 1)), (1, .ref (ad 2))]) hx hb fx_Mm_find_16 rfl hl (by decide) rfl (fun ls hl => ?_)
        refine lv_aload_n hx hb fx_Mm_find_17 rfl (lv_at hl 0 rfl) ?_
        refine va_getN (D := D) (ci := 1) (v := .int (fd_pI σ (fd_pF σ i.toNatClampNeg) 0)) (C := fn_R_Pm) (T := fn_T_Pm) (N := 6) hx hb hts fn_j_Pm hown hK hP (53 + (fd_pF σ i.toNatClampNeg)) (fd_w_per (fd_plt hI hb2)) rfl 0 (by decide) (va_Nw.use rfl (hN _ fq_94)) (fun _ h9 => h9) rfl fx_Mm_find_18 ?_
        refine lv_aload_n hx hb fx_Mm_find_21 rfl (lv_at hl 3 rfl) ?_
        refine va_getN (D := D) (ci := 2) (v := .int (fd_qI σ 0)) (C := fn_R_Rq) (T := fn_T_Rq) (N := 15) hx hb hts fn_j_Rq hown hK hP 2 rfl rfl 0 (by decide) (va_Nw.use rfl (hN _ fq_141)) (fun _ h9 => h9) rfl fx_Mm_find_22 ?_
        refine lv_icmp_ne (tgt := 52) hx hb fx_Mm_find_25 (by decide) (fun c3 => ?_) (fun c3 => ?_)
        · refine lv_iinc (v := i + 1) (lv' := [(2, .int (i + 1)), (3, .ref (ad (51 + (fd_pF σ i.toNatClampNeg)))), (0, .ref (ad 1)), (1, .ref (ad 2))]) hx hb fx_Mm_find_52 hl (k := 1) rfl rfl (by decide) rfl (fun ls hl => ?_)
          refine lv_goto (tgt := 2) hx hb fx_Mm_find_55 (by decide) ?_
          exact ih (i + 1) (fd_step hI hi c1) (by rw [hm2, fv_Mm_find_l2, if_neg c1, if_neg c3]) H locs hP hD hS ls (lv_sub hl [0, 2, 3] rfl)
        · refine lv_aload_n hx hb fx_Mm_find_28 rfl (lv_at hl 0 rfl) ?_
          refine va_getN (D := D) (ci := 1) (v := .int (fd_pI σ (fd_pF σ i.toNatClampNeg) 1)) (C := fn_R_Pm) (T := fn_T_Pm) (N := 6) hx hb hts fn_j_Pm hown hK hP (53 + (fd_pF σ i.toNatClampNeg)) (fd_w_per (fd_plt hI hb2)) rfl 1 (by decide) (va_Nw.use rfl (hN _ fq_97)) (fun _ h9 => h9) rfl fx_Mm_find_29 ?_
          refine lv_aload_n hx hb fx_Mm_find_32 rfl (lv_at hl 3 rfl) ?_
          refine va_getN (D := D) (ci := 2) (v := .int (fd_qI σ 1)) (C := fn_R_Rq) (T := fn_T_Rq) (N := 15) hx hb hts fn_j_Rq hown hK hP 2 rfl rfl 1 (by decide) (va_Nw.use rfl (hN _ fq_145)) (fun _ h9 => h9) rfl fx_Mm_find_33 ?_
          refine lv_icmp_ne (tgt := 52) hx hb fx_Mm_find_36 (by decide) (fun c4 => ?_) (fun c4 => ?_)
          · refine lv_iinc (v := i + 1) (lv' := [(2, .int (i + 1)), (3, .ref (ad (51 + (fd_pF σ i.toNatClampNeg)))), (0, .ref (ad 1)), (1, .ref (ad 2))]) hx hb fx_Mm_find_52 hl (k := 1) rfl rfl (by decide) rfl (fun ls hl => ?_)
            refine lv_goto (tgt := 2) hx hb fx_Mm_find_55 (by decide) ?_
            exact ih (i + 1) (fd_step hI hi c1) (by rw [hm2, fv_Mm_find_l2, if_neg c1, if_pos c3, if_neg c4]) H locs hP hD hS ls (lv_sub hl [0, 2, 3] rfl)
          · refine lv_aload_n hx hb fx_Mm_find_39 rfl (lv_at hl 0 rfl) ?_
            refine va_getN (D := D) (ci := 1) (v := .int (fd_bi (fd_pB σ (fd_pF σ i.toNatClampNeg)))) (C := fn_R_Pm) (T := fn_T_Pm) (N := 6) hx hb hts fn_j_Pm hown hK hP (53 + (fd_pF σ i.toNatClampNeg)) (fd_w_per (fd_plt hI hb2)) rfl 2 (by decide) (va_Nw.use rfl (hN _ fq_100)) (fun _ h9 => h9) rfl fx_Mm_find_40 ?_
            refine lv_aload_n hx hb fx_Mm_find_43 rfl (lv_at hl 3 rfl) ?_
            refine va_getN (D := D) (ci := 2) (v := .int (fd_bi (fd_qB σ 9))) (C := fn_R_Rq) (T := fn_T_Rq) (N := 15) hx hb hts fn_j_Rq hown hK hP 2 rfl rfl 9 (by decide) (va_Nw.use rfl (hN _ fq_161)) (fun _ h9 => h9) rfl fx_Mm_find_44 ?_
            refine lv_icmp_ne (tgt := 52) hx hb fx_Mm_find_47 (by decide) (fun c5 => ?_) (fun c5 => ?_)
            · refine lv_iinc (v := i + 1) (lv' := [(2, .int (i + 1)), (3, .ref (ad (51 + (fd_pF σ i.toNatClampNeg)))), (0, .ref (ad 1)), (1, .ref (ad 2))]) hx hb fx_Mm_find_52 hl (k := 1) rfl rfl (by decide) rfl (fun ls hl => ?_)
              refine lv_goto (tgt := 2) hx hb fx_Mm_find_55 (by decide) ?_
              exact ih (i + 1) (fd_step hI hi c1) (by rw [hm2, fv_Mm_find_l2, if_neg c1, if_pos c3, if_pos c4, if_neg c5]) H locs hP hD hS ls (lv_sub hl [0, 2, 3] rfl)
            · refine lv_iload_n hx hb fx_Mm_find_50 rfl (lv_at hl 1 rfl) ?_
              exact fd_iret (r := i) (u := σ) hQ hx hb hr ⟨by rw [hm2, fv_Mm_find_l2, if_neg c1, if_pos c3, if_pos c4, if_pos c5], rfl⟩ hP hD hS fx_Mm_find_51 hlocks
  exact hL2 7 0 (⟨0, by decide, by decide, rfl⟩) (by rw [fv_Mm_find]) H locs hP hD hS ls (lv_sub hl [0, 1, 2] rfl)
def fv_Mm_firstToEnd_l4 : Nat → FDS → Int32 → Int32 → Int32
  | 0 , σ , f , i => 0
  | n + 1 , σ , f , i => if (fd_mS σ) ≤ i then f else if 0 ≤ (Op.cmpValue (FP.dcmp (fd_pD σ (fd_pF σ i.toNatClampNeg)) (fd_pD σ (fd_pF σ f.toNatClampNeg))) .g) then fv_Mm_firstToEnd_l4 n σ f (i + 1) else fv_Mm_firstToEnd_l4 n σ i (i + 1)
def fv_Mm_firstToEnd (σ : FDS) : Int32 := fv_Mm_firstToEnd_l4 7 σ 0 1
set_option maxHeartbeats 4000000 in
set_option maxRecDepth 100000 in
theorem fc_Mm_firstToEnd (l : Launch) (D : va_G) (cR cP : ClassId) (ad : Nat → Nat) (sz : Nat) (σ : FDS)  (hI : fd_Inv σ)  : Met l fy_Mm_firstToEnd (fw_Mm_firstToEnd :: fb_tbl) ({ frames := 0, cells := 0, slots := 0, locals := 0 } : Room) (fd_Pc D cR cP ad [.ref (ad 1)] σ sz) ((fun A => va_Qi (fun (r : Int32) (u : FDS) => fv_Mm_firstToEnd σ = r ∧ u = σ) (fd_B D cR cP ad A) A) (va_A (fd_w cR cP ad σ) sz)) 0 0 (va_A (fd_w cR cP ad σ) sz) := by
  refine fd_ofW (cc := fb_Mm_firstToEnd) (maxL := 3) (ret := (some .int)) (Qf := fun A => va_Qi (fun (r : Int32) (u : FDS) => fv_Mm_firstToEnd σ = r ∧ u = σ) (fd_B D cR cP ad A) A) (by decide) (Nat.le_of_ble_eq_true rfl) ?_
  intro p e s m args below meth c A Q hQ hx hb hr hts hown hlocks hml hP hK hD hS hA hN ls hl
  have hown : s.vm.findClass fn_R_Mm = some m.cls := hown
  have hl : lv_has ls 3 [(0, .ref (ad 1))] := hl
  suffices hgo : ∀ (H : Heap) (locs : List Loc), va_P D fn_cl (fd_w cR cP ad σ) H → va_D A (fd_w cR cP ad σ) → va_S A s.heap H locs → W p l e ({ frames := 0, cells := 0, slots := 0, locals := 0 } : Room) s m args below meth c H locs 0 0 Q (F0 m 0 ls []) from hgo _ _ hP hD hS
  clear hP hD hS
  intro H locs hP hD hS
  refine lv_iconst (v := 0) hx hb fx_Mm_firstToEnd_0 (by decide) ?_
  refine lv_istore_n (lv' := [(1, .int 0), (0, .ref (ad 1))]) hx hb fx_Mm_firstToEnd_1 rfl hl (by decide) rfl (fun ls hl => ?_)
  refine lv_iconst (v := 1) hx hb fx_Mm_firstToEnd_2 (by decide) ?_
  refine lv_istore_n (lv' := [(2, .int 1), (1, .int 0), (0, .ref (ad 1))]) hx hb fx_Mm_firstToEnd_3 rfl hl (by decide) rfl (fun ls hl => ?_)
  have hL4 : ∀ (n : Nat) (f : Int32) (i : Int32), (∃ k : Nat, k < 6 ∧ f = nI k) → (∃ k : Nat, k ≤ 6 ∧ 7 ≤ n + k ∧ i = nI k) → fv_Mm_firstToEnd σ = fv_Mm_firstToEnd_l4 n σ f i → ∀ (H : Heap) (locs : List Loc), va_P D fn_cl (fd_w cR cP ad σ) H → va_D A (fd_w cR cP ad σ) → va_S A s.heap H locs → ∀ (ls : Array Slot), lv_has ls 3 [(2, .int i), (1, .int f), (0, .ref (ad 1))] → W p l e ({ frames := 0, cells := 0, slots := 0, locals := 0 } : Room) s m args below meth c H locs 0 0 Q (F0 m 4 ls []) := by
    intro n
    induction n with
    | zero =>
      intro f i hf hi
      obtain ⟨k, h1, h2, -⟩ := hi; omega
    | succ n ih =>
      intro f i hf hi hm4 H locs hP hD hS ls hl
      refine lv_iload_n hx hb fx_Mm_firstToEnd_4 rfl (lv_at hl 0 rfl) ?_
      refine lv_aload_n hx hb fx_Mm_firstToEnd_5 rfl (lv_at hl 2 rfl) ?_
      refine va_get (D := D) (ci := 0) (v := .int (fd_mS σ)) (C := fn_R_Mm) (T := fn_T_Mm) (N := 2) hx hb hts fn_j_Mm hown hK hP 1 rfl rfl 1 (by decide) (hts _ (List.mem_cons_of_mem _ fq_126)) (fun _ h9 => h9) rfl fx_Mm_firstToEnd_6 ?_
      refine lv_icmp_ge (tgt := 42) hx hb fx_Mm_firstToEnd_9 (by decide) (fun c1 => ?_) (fun c1 => ?_)
      · refine lv_iload_n hx hb fx_Mm_firstToEnd_42 rfl (lv_at hl 1 rfl) ?_
        exact fd_iret (r := f) (u := σ) hQ hx hb hr ⟨by rw [hm4, fv_Mm_firstToEnd_l4, if_pos c1], rfl⟩ hP hD hS fx_Mm_firstToEnd_43 hlocks
      · refine lv_aload_n hx hb fx_Mm_firstToEnd_12 rfl (lv_at hl 2 rfl) ?_
        refine va_get (D := D) (ci := 0) (v := .ref (ad 58)) (C := fn_R_Mm) (T := fn_T_Mm) (N := 2) hx hb hts fn_j_Mm hown hK hP 1 rfl rfl 0 (by decide) (hts _ (List.mem_cons_of_mem _ fq_124)) (fun _ h9 => h9) rfl fx_Mm_firstToEnd_13 ?_
        refine lv_iload_n hx hb fx_Mm_firstToEnd_16 rfl (lv_at hl 0 rfl) ?_
        have hb2 : vp_in i 6 := fd_idx hI hi c1
        refine va_aldq (D := D) hx hb hK hP 4 1 rfl rfl hb2 fx_Mm_firstToEnd_17 ?_
        refine W.eq (g2 := F0 m 18 ls (.ref (ad (51 + (fd_pF σ i.toNatClampNeg))) :: [])) rfl ?_
        refine va_getN (D := D) (ci := 1) (v := .double (fd_pD σ (fd_pF σ i.toNatClampNeg))) (C := fn_R_Pm) (T := fn_T_Pm) (N := 6) hx hb hts fn_j_Pm hown hK hP (53 + (fd_pF σ i.toNatClampNeg)) (fd_w_per (fd_plt hI hb2)) rfl 5 (by decide) (va_Nw.use rfl (hN _ fq_109)) (fun _ h9 => h9) rfl fx_Mm_firstToEnd_18 ?_
        refine lv_aload_n hx hb fx_Mm_firstToEnd_21 rfl (lv_at hl 2 rfl) ?_
        refine va_get (D := D) (ci := 0) (v := .ref (ad 58)) (C := fn_R_Mm) (T := fn_T_Mm) (N := 2) hx hb hts fn_j_Mm hown hK hP 1 rfl rfl 0 (by decide) (hts _ (List.mem_cons_of_mem _ fq_124)) (fun _ h9 => h9) rfl fx_Mm_firstToEnd_22 ?_
        refine lv_iload_n hx hb fx_Mm_firstToEnd_25 rfl (lv_at hl 1 rfl) ?_
        have hb3 : vp_in f 6 := fd_in6 hf
        refine va_aldq (D := D) hx hb hK hP 4 1 rfl rfl hb3 fx_Mm_firstToEnd_26 ?_
        refine W.eq (g2 := F0 m 27 ls (.ref (ad (51 + (fd_pF σ f.toNatClampNeg))) :: [.double (fd_pD σ (fd_pF σ i.toNatClampNeg))])) rfl ?_
        refine va_getN (D := D) (ci := 1) (v := .double (fd_pD σ (fd_pF σ f.toNatClampNeg))) (C := fn_R_Pm) (T := fn_T_Pm) (N := 6) hx hb hts fn_j_Pm hown hK hP (53 + (fd_pF σ f.toNatClampNeg)) (fd_w_per (fd_plt hI hb3)) rfl 5 (by decide) (va_Nw.use rfl (hN _ fq_109)) (fun _ h9 => h9) rfl fx_Mm_firstToEnd_27 ?_
        refine lv_dcmp hx hb fx_Mm_firstToEnd_30 ?_
        refine lv_if_ge (tgt := 36) hx hb fx_Mm_firstToEnd_31 (by decide) (fun c4 => ?_) (fun c4 => ?_)
        · refine lv_iinc (v := i + 1) (lv' := [(2, .int (i + 1)), (1, .int f), (0, .ref (ad 1))]) hx hb fx_Mm_firstToEnd_36 hl (k := 0) rfl rfl (by decide) rfl (fun ls hl => ?_)
          refine lv_goto (tgt := 4) hx hb fx_Mm_firstToEnd_39 (by decide) ?_
          exact ih f (i + 1) (by first | exact hf | exact fd_lt6 hI hi c1) (fd_step hI hi c1) (by rw [hm4, fv_Mm_firstToEnd_l4, if_neg c1, if_pos c4]) H locs hP hD hS ls (lv_sub hl [0, 1, 2] rfl)
        · refine lv_iload_n hx hb fx_Mm_firstToEnd_34 rfl (lv_at hl 0 rfl) ?_
          refine lv_istore_n (lv' := [(1, .int i), (2, .int i), (0, .ref (ad 1))]) hx hb fx_Mm_firstToEnd_35 rfl hl (by decide) rfl (fun ls hl => ?_)
          refine lv_iinc (v := i + 1) (lv' := [(2, .int (i + 1)), (1, .int i), (0, .ref (ad 1))]) hx hb fx_Mm_firstToEnd_36 hl (k := 1) rfl rfl (by decide) rfl (fun ls hl => ?_)
          refine lv_goto (tgt := 4) hx hb fx_Mm_firstToEnd_39 (by decide) ?_
          exact ih i (i + 1) (by first | exact hf | exact fd_lt6 hI hi c1) (fd_step hI hi c1) (by rw [hm4, fv_Mm_firstToEnd_l4, if_neg c1, if_neg c4]) H locs hP hD hS ls (lv_sub hl [0, 1, 2] rfl)
  exact hL4 7 0 1 (⟨0, by decide, rfl⟩) (⟨1, by decide, by decide, rfl⟩) (by rw [fv_Mm_firstToEnd]) H locs hP hD hS ls (lv_sub hl [0, 1, 2] rfl)
def fv_Mm_drop_l11 : Nat → FDS → Int32 → FDS → Int32 → FDS
  | 0 , σ , p1 , σ1 , k => σ
  | n + 1 , σ , p1 , σ1 , k => if (fd_mS σ1) ≤ k then fd_spF (fd_smS σ1 ((fd_mS σ1) - 1)) ((fd_mS σ1) - 1).toNatClampNeg (fd_pF σ p1.toNatClampNeg) else fv_Mm_drop_l11 n σ p1 (fd_spF σ1 (k - 1).toNatClampNeg (fd_pF σ1 k.toNatClampNeg)) (k + 1)
def fv_Mm_drop (σ : FDS) (p1 : Int32) : FDS := fv_Mm_drop_l11 7 σ p1 σ (p1 + 1)
set_option maxHeartbeats 4000000 in
set_option maxRecDepth 100000 in
theorem fc_Mm_drop (l : Launch) (D : va_G) (cR cP : ClassId) (ad : Nat → Nat) (sz : Nat) (σ : FDS) (p1 : Int32) (hI : fd_Inv σ) (hp : ∃ k : Nat, k < 6 ∧ p1 = nI k) (hz : ∃ n : Nat, n < 6 ∧ fd_mS σ = nI (n + 1)) : Met l fy_Mm_drop (fw_Mm_drop :: fb_tbl) ({ frames := 0, cells := 0, slots := 0, locals := 0 } : Room) (fd_Pc D cR cP ad [.ref (ad 1), .int p1] σ sz) ((fun A => va_Qv (fun u : FDS => fv_Mm_drop σ p1 = u ∧ fd_Inv u) (fd_B D cR cP ad A) A) (va_A (fd_w cR cP ad σ) sz)) 0 0 (va_A (fd_w cR cP ad σ) sz) := by
  refine fd_ofW (cc := fb_Mm_drop) (maxL := 4) (ret := none) (Qf := fun A => va_Qv (fun u : FDS => fv_Mm_drop σ p1 = u ∧ fd_Inv u) (fd_B D cR cP ad A) A) (by decide) (Nat.le_of_ble_eq_true rfl) ?_
  intro p e s m args below meth c A Q hQ hx hb hr hts hown hlocks hml hP hK hD hS hA hN ls hl
  have hown : s.vm.findClass fn_R_Mm = some m.cls := hown
  have hl : lv_has ls 4 [(0, .ref (ad 1)), (1, .int p1)] := hl
  suffices hgo : ∀ (H : Heap) (locs : List Loc), va_P D fn_cl (fd_w cR cP ad σ) H → va_D A (fd_w cR cP ad σ) → va_S A s.heap H locs → W p l e ({ frames := 0, cells := 0, slots := 0, locals := 0 } : Room) s m args below meth c H locs 0 0 Q (F0 m 0 ls []) from hgo _ _ hP hD hS
  clear hP hD hS
  intro H locs hP hD hS
  refine lv_aload_n hx hb fx_Mm_drop_0 rfl (lv_at hl 0 rfl) ?_
  refine va_get (D := D) (ci := 0) (v := .ref (ad 58)) (C := fn_R_Mm) (T := fn_T_Mm) (N := 2) hx hb hts fn_j_Mm hown hK hP 1 rfl rfl 0 (by decide) (hts _ (List.mem_cons_of_mem _ fq_124)) (fun _ h9 => h9) rfl fx_Mm_drop_1 ?_
  refine lv_iload_n hx hb fx_Mm_drop_4 rfl (lv_at hl 1 rfl) ?_
  have hb1 : vp_in p1 6 := fd_in6 hp
  refine va_aldq (D := D) hx hb hK hP 4 1 rfl rfl hb1 fx_Mm_drop_5 ?_
  refine W.eq (g2 := F0 m 6 ls (.ref (ad (51 + (fd_pF σ p1.toNatClampNeg))) :: [])) rfl ?_
  refine lv_astore_n (lv' := [(2, .ref (ad (51 + (fd_pF σ p1.toNatClampNeg)))), (0, .ref (ad 1)), (1, .int p1)]) hx hb fx_Mm_drop_6 rfl hl (by decide) rfl (fun ls hl => ?_)
  refine lv_iload_n hx hb fx_Mm_drop_7 rfl (lv_at hl 2 rfl) ?_
  refine lv_iconst (v := 1) hx hb fx_Mm_drop_8 (by decide) ?_
  refine lv_iadd hx hb fx_Mm_drop_9 ?_
  refine lv_istore_n (lv' := [(3, .int (p1 + 1)), (2, .ref (ad (51 + (fd_pF σ p1.toNatClampNeg)))), (0, .ref (ad 1)), (1, .int p1)]) hx hb fx_Mm_drop_10 rfl hl (by decide) rfl (fun ls hl => ?_)
  have hL11 : ∀ (n : Nat) (σ1 : FDS) (k : Int32), (∃ i : Nat, 1 ≤ i ∧ i ≤ 6 ∧ 7 ≤ n + i ∧ k = nI i) → (fd_mS σ1 = fd_mS σ) → fd_Inv σ1 → fv_Mm_drop σ p1 = fv_Mm_drop_l11 n σ p1 σ1 k → ∀ (H : Heap) (locs : List Loc), va_P D fn_cl (fd_w cR cP ad σ1) H → va_D A (fd_w cR cP ad σ1) → va_S A s.heap H locs → ∀ (ls : Array Slot), lv_has ls 4 [(3, .int k), (2, .ref (ad (51 + (fd_pF σ p1.toNatClampNeg)))), (0, .ref (ad 1)), (1, .int p1)] → W p l e ({ frames := 0, cells := 0, slots := 0, locals := 0 } : Room) s m args below meth c H locs 0 0 Q (F0 m 11 ls []) := by
    intro n
    induction n with
    | zero =>
      intro σ1 k hk hs
      obtain ⟨i, h0, h1, h2, -⟩ := hk; omega
    | succ n ih =>
      intro σ1 k hk hs hI11 hm11 H locs hP hD hS ls hl
      refine lv_iload_n hx hb fx_Mm_drop_11 rfl (lv_at hl 0 rfl) ?_
      refine lv_aload_n hx hb fx_Mm_drop_12 rfl (lv_at hl 2 rfl) ?_
      refine va_get (D := D) (ci := 0) (v := .int (fd_mS σ1)) (C := fn_R_Mm) (T := fn_T_Mm) (N := 2) hx hb hts fn_j_Mm hown hK hP 1 rfl rfl 1 (by decide) (hts _ (List.mem_cons_of_mem _ fq_126)) (fun _ h9 => h9) rfl fx_Mm_drop_13 ?_
      refine lv_icmp_ge (tgt := 39) hx hb fx_Mm_drop_16 (by decide) (fun c2 => ?_) (fun c2 => ?_)
      · refine lv_aload_n hx hb fx_Mm_drop_39 rfl (lv_at hl 2 rfl) ?_
        refine lv_dup hx hb fx_Mm_drop_40 rfl ?_
        refine va_get (D := D) (ci := 0) (v := .int (fd_mS σ1)) (C := fn_R_Mm) (T := fn_T_Mm) (N := 2) hx hb hts fn_j_Mm hown hK hP 1 rfl rfl 1 (by decide) (hts _ (List.mem_cons_of_mem _ fq_126)) (fun _ h9 => h9) rfl fx_Mm_drop_41 ?_
        refine lv_iconst (v := 1) hx hb fx_Mm_drop_44 (by decide) ?_
        refine lv_isub hx hb fx_Mm_drop_45 ?_
        refine va_put (D := D) (ci := 0) (v := .int ((fd_mS σ1) - 1)) (ty := .int) (C := fn_R_Mm) (T := fn_T_Mm) (N := 2) hx hb hts fn_j_Mm fn_t_Mm fn_k_Mm fn_n_Mm hown hK hP hD hS 1 rfl rfl 1 (by decide) (hts _ (List.mem_cons_of_mem _ fq_126)) (fun _ h9 => h9) rfl (by decide +kernel) rfl rfl (Nat.le_of_ble_eq_true rfl) fx_Mm_drop_46 (fun H locs hP hD hS => ?_)
        rw [fd_set_Mm_1] at hP hD
        have hI3 : fd_Inv (fd_smS σ1 ((fd_mS σ1) - 1)) := fd_inv_size (fd_le6 (fd_dec hz hs)) hI11
        refine lv_aload_n hx hb fx_Mm_drop_49 rfl (lv_at hl 2 rfl) ?_
        refine va_get (D := D) (ci := 0) (v := .ref (ad 58)) (C := fn_R_Mm) (T := fn_T_Mm) (N := 2) hx hb hts fn_j_Mm hown hK hP 1 rfl rfl 0 (by decide) (hts _ (List.mem_cons_of_mem _ fq_124)) (fun _ h9 => h9) rfl fx_Mm_drop_50 ?_
        refine lv_aload_n hx hb fx_Mm_drop_53 rfl (lv_at hl 2 rfl) ?_
        refine va_get (D := D) (ci := 0) (v := .int ((fd_mS σ1) - 1)) (C := fn_R_Mm) (T := fn_T_Mm) (N := 2) hx hb hts fn_j_Mm hown hK hP 1 rfl rfl 1 (by decide) (hts _ (List.mem_cons_of_mem _ fq_126)) (fun _ h9 => h9) rfl fx_Mm_drop_54 ?_
        refine lv_aload_n hx hb fx_Mm_drop_57 rfl (lv_at hl 1 rfl) ?_
        have hb4 : vp_in ((fd_mS σ1) - 1) 6 := fd_in6 (fd_dec hz hs)
        refine va_astq (D := D) hx hb hK hP hD hS 4 1 (53 + (fd_pF σ p1.toNatClampNeg)) 1 rfl rfl (fd_w_per (fd_plt hI hb1)) rfl hb4 fx_Mm_drop_58 (fun H locs hP hD hS => ?_)
        rw [fd_set_pF] at hP hD
        have hI5 : fd_Inv (fd_spF (fd_smS σ1 ((fd_mS σ1) - 1)) ((fd_mS σ1) - 1).toNatClampNeg (fd_pF σ p1.toNatClampNeg)) := fd_inv_pF (fd_plt hI hb1) hI3
        exact fd_vret (u := fd_spF (fd_smS σ1 ((fd_mS σ1) - 1)) ((fd_mS σ1) - 1).toNatClampNeg (fd_pF σ p1.toNatClampNeg)) hQ hx hb hr ⟨by rw [hm11, fv_Mm_drop_l11, if_pos c2], hI5⟩ hP hD hS fx_Mm_drop_59 hlocks
      · refine lv_aload_n hx hb fx_Mm_drop_19 rfl (lv_at hl 2 rfl) ?_
        refine va_get (D := D) (ci := 0) (v := .ref (ad 58)) (C := fn_R_Mm) (T := fn_T_Mm) (N := 2) hx hb hts fn_j_Mm hown hK hP 1 rfl rfl 0 (by decide) (hts _ (List.mem_cons_of_mem _ fq_124)) (fun _ h9 => h9) rfl fx_Mm_drop_20 ?_
        refine lv_iload_n hx hb fx_Mm_drop_23 rfl (lv_at hl 0 rfl) ?_
        refine lv_iconst (v := 1) hx hb fx_Mm_drop_24 (by decide) ?_
        refine lv_isub hx hb fx_Mm_drop_25 ?_
        refine lv_aload_n hx hb fx_Mm_drop_26 rfl (lv_at hl 2 rfl) ?_
        refine va_get (D := D) (ci := 0) (v := .ref (ad 58)) (C := fn_R_Mm) (T := fn_T_Mm) (N := 2) hx hb hts fn_j_Mm hown hK hP 1 rfl rfl 0 (by decide) (hts _ (List.mem_cons_of_mem _ fq_124)) (fun _ h9 => h9) rfl fx_Mm_drop_27 ?_
        refine lv_iload_n hx hb fx_Mm_drop_30 rfl (lv_at hl 0 rfl) ?_
        have hb6 : vp_in k 6 := fd_idxd hI11 hk c2
        refine va_aldq (D := D) hx hb hK hP 4 1 rfl rfl hb6 fx_Mm_drop_31 ?_
        refine W.eq (g2 := F0 m 32 ls (.ref (ad (51 + (fd_pF σ1 k.toNatClampNeg))) :: [.int (k - 1), .ref (ad 58)])) rfl ?_
        have hb7 : vp_in (k - 1) 6 := fd_idxp hk
        refine va_astq (D := D) hx hb hK hP hD hS 4 1 (53 + (fd_pF σ1 k.toNatClampNeg)) 1 rfl rfl (fd_w_per (fd_plt hI11 hb6)) rfl hb7 fx_Mm_drop_32 (fun H locs hP hD hS => ?_)
        rw [fd_set_pF] at hP hD
        have hI8 : fd_Inv (fd_spF σ1 (k - 1).toNatClampNeg (fd_pF σ1 k.toNatClampNeg)) := fd_inv_pF (fd_plt hI11 hb6) hI11
        refine lv_iinc (v := k + 1) (lv' := [(3, .int (k + 1)), (2, .ref (ad (51 + (fd_pF σ p1.toNatClampNeg)))), (0, .ref (ad 1)), (1, .int p1)]) hx hb fx_Mm_drop_33 hl (k := 0) rfl rfl (by decide) rfl (fun ls hl => ?_)
        refine lv_goto (tgt := 11) hx hb fx_Mm_drop_36 (by decide) ?_
        exact ih (fd_spF σ1 (k - 1).toNatClampNeg (fd_pF σ1 k.toNatClampNeg)) (k + 1) (fd_stepd hI8 hk c2) hs hI8 (by rw [hm11, fv_Mm_drop_l11, if_neg c2]) H locs hP hD hS ls (lv_sub hl [0, 1, 2, 3] rfl)
  exact hL11 7 σ (p1 + 1) (fd_k1 hp) rfl hI (by rw [fv_Mm_drop]) H locs hP hD hS ls (lv_sub hl [0, 1, 2, 3] rfl)
end
section
/-! where find and firstToEnd lead, how drop counts -/
theorem fd_find_l {σ : FDS} (h : fd_Inv σ) : ∀ (n : Nat) (i : Int32), (∃ k : Nat, k ≤ 6 ∧ 7 ≤ n + k ∧ i = nI k) → fv_Mm_find_l2 n σ i = -1 ∨ ∃ k : Nat, k < 6 ∧ fv_Mm_find_l2 n σ i = nI k ∧ ∃ m : Nat, k < m ∧ m ≤ 6 ∧ fd_mS σ = nI m := by
  intro n
  induction n with
  | zero =>
    intro i hi
    obtain ⟨k, h1, h2, -⟩ := hi
    omega
  | succ n ih =>
    intro i hi
    rw [fv_Mm_find_l2]
    by_cases c : fd_mS σ ≤ i
    · rw [if_pos c]
      exact Or.inl rfl
    · rw [if_neg c]
      have st := ih (i + 1) (fd_step h hi c)
      split
      · split
        · split
          · obtain ⟨k, h1, h2, e⟩ := hi
            have q := fd_size h e h1 c
            exact Or.inr ⟨k, q.1, e, q.2⟩
          · exact st
        · exact st
      · exact st
theorem fd_find_all {σ : FDS} (h : fd_Inv σ) (c : ¬ fv_Mm_find σ = -1) : ∃ k : Nat, k < 6 ∧ fv_Mm_find σ = nI k ∧ ∃ m : Nat, k < m ∧ m ≤ 6 ∧ fd_mS σ = nI m := (fd_find_l h 7 0 ⟨0, by decide, by decide, rfl⟩).resolve_left c
theorem fd_find_rng {σ : FDS} (h : fd_Inv σ) (c : ¬ fv_Mm_find σ = -1) : ∃ k : Nat, k < 6 ∧ fv_Mm_find σ = nI k := by
  obtain ⟨k, h1, h2, -⟩ := fd_find_all h c
  exact ⟨k, h1, h2⟩
theorem fd_find_in {σ : FDS} (h : fd_Inv σ) (c : ¬ fv_Mm_find σ = -1) : vp_in (fv_Mm_find σ) 6 := fd_in6 (fd_find_rng h c)
theorem fd_find_sz {σ : FDS} (h : fd_Inv σ) (c : ¬ fv_Mm_find σ = -1) : ∃ n : Nat, n < 6 ∧ fd_mS σ = nI (n + 1) := by
  obtain ⟨k, h1, -, m, h3, h4, h5⟩ := fd_find_all h c
  exact ⟨m - 1, by omega, by rw [h5, show m - 1 + 1 = m by omega]⟩
theorem fd_ft_l {σ : FDS} (h : fd_Inv σ) : ∀ (n : Nat) (f i : Int32), (∃ k : Nat, k < 6 ∧ f = nI k) → (∃ k : Nat, k ≤ 6 ∧ 7 ≤ n + k ∧ i = nI k) → ∃ k : Nat, k < 6 ∧ fv_Mm_firstToEnd_l4 n σ f i = nI k := by
  intro n
  induction n with
  | zero =>
    intro f i hf hi
    obtain ⟨k, h1, h2, -⟩ := hi
    omega
  | succ n ih =>
    intro f i hf hi
    rw [fv_Mm_firstToEnd_l4]
    by_cases c : fd_mS σ ≤ i
    · rw [if_pos c]
      exact hf
    · rw [if_neg c]
      split
      · exact ih f (i + 1) hf (fd_step h hi c)
      · exact ih i (i + 1) (fd_lt6 h hi c) (fd_step h hi c)
theorem fd_ft_rng {σ : FDS} (h : fd_Inv σ) : ∃ k : Nat, k < 6 ∧ fv_Mm_firstToEnd σ = nI k := fd_ft_l h 7 0 1 ⟨0, by decide, rfl⟩ ⟨1, by decide, by decide, rfl⟩
theorem fd_drop_l {σ : FDS} {p1 : Int32} : ∀ (n : Nat) (σ1 : FDS) (k : Int32), fd_Inv σ1 → fd_mS σ1 = fd_mS σ → (∃ i : Nat, 1 ≤ i ∧ i ≤ 6 ∧ 7 ≤ n + i ∧ k = nI i) → fd_mS (fv_Mm_drop_l11 n σ p1 σ1 k) = fd_mS σ - 1 := by
  intro n
  induction n with
  | zero =>
    intro σ1 k h hs hk
    obtain ⟨i, h0, h1, h2, -⟩ := hk
    omega
  | succ n ih =>
    intro σ1 k h hs hk
    rw [fv_Mm_drop_l11]
    by_cases c : fd_mS σ1 ≤ k
    · rw [if_pos c, ← hs]
      rfl
    · rw [if_neg c]
      exact ih _ _ (fd_inv_pF (fd_plt h (fd_idxd h hk c)) h) hs (fd_stepd h hk c)
theorem fd_drop_sz {σ : FDS} {p1 : Int32} (h : fd_Inv σ) (hp : ∃ k : Nat, k < 6 ∧ p1 = nI k) : fd_mS (fv_Mm_drop σ p1) = fd_mS σ - 1 := fd_drop_l 7 σ (p1 + 1) h rfl (fd_k1 hp)
theorem fd_szA {σ : FDS} (h : fd_Inv σ) (c : fd_mS σ = 6) : vp_in (fd_mS (fv_Mm_drop σ (fv_Mm_firstToEnd σ))) 6 := by
  rw [fd_drop_sz h (fd_ft_rng h), c]
  exact fd_in6 ⟨5, by decide, rfl⟩
theorem fd_sec {σ : FDS} {j : Nat} {v : UInt64} (h : fd_Inv σ) (hj : j < 48) (hv : v = (if 0 ≤ (Op.cmpValue (FP.dcmp (fd_rD σ j) 4621819117588971520) .g) then 4621819117588971520 else fd_rD σ j)) : FP.Core.DFin v := by
  rw [hv]
  split
  · exact fd_fin10
  · exact h.2.2.2.2.2 j hj
theorem fd_red {σ : FDS} {j : Nat} (h : fv_Rs_isRedirect σ j = true) : ¬ fd_rI σ j 2 = -1 := by
  intro e
  rw [fv_Rs_isRedirect, if_pos e] at h
  cases h
theorem fd_step5 {r : Int32} {n : Nat} (hr : ∃ i : Nat, i ≤ 5 ∧ 6 ≤ n + 1 + i ∧ r = nI i) (c : ¬ 4 < r) : ∃ i : Nat, i ≤ 5 ∧ 6 ≤ n + i ∧ r + 1 = nI i := by
  obtain ⟨i, h1, h2, rfl⟩ := hr
  have : ¬ 4 < i := fun q => c (nI_lt (a := 4) q (by omega))
  exact ⟨i + 1, by omega, by omega, nI_1 i⟩
theorem fd_write_mS {σ : FDS} {j0 j2 : Nat} {p3 : UInt64} : fd_mS (fv_Pm_write σ j0 j2 p3) = fd_mS σ := rfl
end
section
/-! the desk: asking, rounds -/
def fv_Mm_covers_j4 (σ : FDS) (p2 : UInt64) (v4 : Bool) : Bool := v4
def fv_Mm_covers (σ : FDS) (p2 : UInt64) : Bool := if (fv_Mm_find σ) = (-1) then false else fv_Mm_covers_j4 σ p2 (if 0 ≤ (Op.cmpValue (FP.dcmp p2 (fd_pD σ (fd_pF σ (fv_Mm_find σ).toNatClampNeg))) .g) then false else if (fv_Dk_lets σ (fd_pI σ (fd_pF σ (fv_Mm_find σ).toNatClampNeg) 3) (fd_pI σ (fd_pF σ (fv_Mm_find σ).toNatClampNeg) 4)) = true then true else false)
set_option maxHeartbeats 4000000 in
set_option maxRecDepth 100000 in
theorem fc_Mm_covers (l : Launch) (D : va_G) (cR cP : ClassId) (ad : Nat → Nat) (sz : Nat) (σ : FDS) (p2 : UInt64) (hI : fd_Inv σ)  : Met l fy_Mm_covers (fw_Mm_covers :: fb_tbl) ({ frames := 2, cells := 0, slots := 0, locals := 44 } : Room) (fd_Pc D cR cP ad [.ref (ad 1), .ref (ad 2), .double p2] σ sz) ((fun A => va_Qi (fun (r : Int32) (u : FDS) => fd_bi (fv_Mm_covers σ p2) = r ∧ u = σ) (fd_B D cR cP ad A) A) (va_A (fd_w cR cP ad σ) sz)) 0 0 (va_A (fd_w cR cP ad σ) sz) := by
  refine fd_ofW (cc := fb_Mm_covers) (maxL := 6) (ret := (some .boolean)) (Qf := fun A => va_Qi (fun (r : Int32) (u : FDS) => fd_bi (fv_Mm_covers σ p2) = r ∧ u = σ) (fd_B D cR cP ad A) A) (by decide) (Nat.le_of_ble_eq_true rfl) ?_
  intro p e s m args below meth c A Q hQ hx hb hr hts hown hlocks hml hP hK hD hS hA hN ls hl
  have hown : s.vm.findClass fn_R_Mm = some m.cls := hown
  have hl : lv_has ls 6 [(0, .ref (ad 1)), (1, .ref (ad 2)), (2, .double p2)] := hl
  suffices hgo : ∀ (H : Heap) (locs : List Loc), va_P D fn_cl (fd_w cR cP ad σ) H → va_D A (fd_w cR cP ad σ) → va_S A s.heap H locs → W p l e ({ frames := 2, cells := 0, slots := 0, locals := 44 } : Room) s m args below meth c H locs 0 0 Q (F0 m 0 ls []) from hgo _ _ hP hD hS
  clear hP hD hS
  intro H locs hP hD hS
  refine lv_aload_n hx hb fx_Mm_covers_0 rfl (lv_at hl 0 rfl) ?_
  refine lv_aload_n hx hb fx_Mm_covers_1 rfl (lv_at hl 1 rfl) ?_
  refine fd_calli (va_runV (As := [.ref (ad 2)]) (rest := []) ⟨hx, hb, hml, hown, hts⟩ (fc_Mm_find l D cR cP ad H.size σ  hI ) ⟨callB_of 1 hts (fb_good fm_Mm_find) rfl rfl rfl (hts _ (List.mem_cons_of_mem _ fq_3)) (hts _ (List.mem_cons_of_mem _ fq_397)) (by decide +kernel) ⟨Nat.le_of_ble_eq_true rfl, Nat.le_of_ble_eq_true rfl⟩, (hts _ (List.mem_cons_of_mem _ fq_399)), (hts _ (List.mem_cons_of_mem _ fp_Mm_find))⟩ (fd_preV hP hK hD hN (va_recv hK hP (ci := 0) (q0 := 1) rfl rfl)) rfl rfl hl.1 rfl (lv_room (Nat.le_of_ble_eq_true rfl)) fx_Mm_covers_2 ⟨Nat.le_of_ble_eq_true rfl, Nat.le_of_ble_eq_true rfl⟩) hD hS hA (fun H locs hP hD hS => ?_)
  refine lv_istore (lv' := [(4, .int (fv_Mm_find σ)), (0, .ref (ad 1)), (1, .ref (ad 2)), (2, .double p2)]) hx hb fx_Mm_covers_5 hl (by decide) rfl (fun ls hl => ?_)
  refine lv_iload hx hb fx_Mm_covers_7 (lv_at hl 0 rfl) ?_
  refine lv_iconst (v := (-1)) hx hb fx_Mm_covers_9 (by decide) ?_
  refine lv_icmp_ne (tgt := 15) hx hb fx_Mm_covers_10 (by decide) (fun c2 => ?_) (fun c2 => ?_)
  · refine lv_aload_n hx hb fx_Mm_covers_15 rfl (lv_at hl 1 rfl) ?_
    refine va_get (D := D) (ci := 0) (v := .ref (ad 58)) (C := fn_R_Mm) (T := fn_T_Mm) (N := 2) hx hb hts fn_j_Mm hown hK hP 1 rfl rfl 0 (by decide) (hts _ (List.mem_cons_of_mem _ fq_124)) (fun _ h9 => h9) rfl fx_Mm_covers_16 ?_
    refine lv_iload hx hb fx_Mm_covers_19 (lv_at hl 0 rfl) ?_
    have hb3 : vp_in (fv_Mm_find σ) 6 := fd_find_in hI c2
    refine va_aldq (D := D) hx hb hK hP 4 1 rfl rfl hb3 fx_Mm_covers_21 ?_
    refine W.eq (g2 := F0 m 22 ls (.ref (ad (51 + (fd_pF σ (fv_Mm_find σ).toNatClampNeg))) :: [])) rfl ?_
    refine lv_astore (lv' := [(5, .ref (ad (51 + (fd_pF σ (fv_Mm_find σ).toNatClampNeg)))), (4, .int (fv_Mm_find σ)), (0, .ref (ad 1)), (1, .ref (ad 2)), (2, .double p2)]) hx hb fx_Mm_covers_22 hl (by decide) rfl (fun ls hl => ?_)
    refine lv_dload_n hx hb fx_Mm_covers_24 rfl (lv_at hl 4 rfl) ?_
    refine lv_aload hx hb fx_Mm_covers_25 (lv_at hl 0 rfl) ?_
    refine va_getN (D := D) (ci := 1) (v := .double (fd_pD σ (fd_pF σ (fv_Mm_find σ).toNatClampNeg))) (C := fn_R_Pm) (T := fn_T_Pm) (N := 6) hx hb hts fn_j_Pm hown hK hP (53 + (fd_pF σ (fv_Mm_find σ).toNatClampNeg)) (fd_w_per (fd_plt hI hb3)) rfl 5 (by decide) (va_Nw.use rfl (hN _ fq_109)) (fun _ h9 => h9) rfl fx_Mm_covers_27 ?_
    refine lv_dcmp hx hb fx_Mm_covers_30 ?_
    have hJ4 : ∀ (H : Heap) (locs : List Loc), va_P D fn_cl (fd_w cR cP ad σ) H → va_D A (fd_w cR cP ad σ) → va_S A s.heap H locs → ∀ (v4 : Bool), v4 = (if 0 ≤ (Op.cmpValue (FP.dcmp p2 (fd_pD σ (fd_pF σ (fv_Mm_find σ).toNatClampNeg))) .g) then false else if (fv_Dk_lets σ (fd_pI σ (fd_pF σ (fv_Mm_find σ).toNatClampNeg) 3) (fd_pI σ (fd_pF σ (fv_Mm_find σ).toNatClampNeg) 4)) = true then true else false) → W p l e ({ frames := 2, cells := 0, slots := 0, locals := 44 } : Room) s m args below meth c H locs 0 0 Q (F0 m 56 ls [.int (fd_bi v4)]) := by
      intro H locs hP hD hS v4 hv4
      exact fd_zret (r := v4) (u := σ) hQ hx hb hr ⟨by rw [fv_Mm_covers, if_neg c2, ← hv4, fv_Mm_covers_j4], rfl⟩ hP hD hS fx_Mm_covers_56 hlocks
    refine lv_if_ge (tgt := 55) hx hb fx_Mm_covers_31 (by decide) (fun c5 => ?_) (fun c5 => ?_)
    · refine lv_iconst (v := 0) hx hb fx_Mm_covers_55 (by decide) ?_
      exact hJ4 H locs hP hD hS false (by rw [if_pos c5])
    · refine lv_aload hx hb fx_Mm_covers_34 (lv_at hl 0 rfl) ?_
      refine va_getN (D := D) (ci := 1) (v := .int (fd_pI σ (fd_pF σ (fv_Mm_find σ).toNatClampNeg) 3)) (C := fn_R_Pm) (T := fn_T_Pm) (N := 6) hx hb hts fn_j_Pm hown hK hP (53 + (fd_pF σ (fv_Mm_find σ).toNatClampNeg)) (fd_w_per (fd_plt hI hb3)) rfl 3 (by decide) (va_Nw.use rfl (hN _ fq_103)) (fun _ h9 => h9) rfl fx_Mm_covers_36 ?_
      refine lv_aload hx hb fx_Mm_covers_39 (lv_at hl 0 rfl) ?_
      refine va_getN (D := D) (ci := 1) (v := .int (fd_pI σ (fd_pF σ (fv_Mm_find σ).toNatClampNeg) 4)) (C := fn_R_Pm) (T := fn_T_Pm) (N := 6) hx hb hts fn_j_Pm hown hK hP (53 + (fd_pF σ (fv_Mm_find σ).toNatClampNeg)) (fd_w_per (fd_plt hI hb3)) rfl 4 (by decide) (va_Nw.use rfl (hN _ fq_106)) (fun _ h9 => h9) rfl fx_Mm_covers_41 ?_
      refine lv_aload_n hx hb fx_Mm_covers_44 rfl (lv_at hl 3 rfl) ?_
      refine fd_callz (va_runSN (As := [.int (fd_pI σ (fd_pF σ (fv_Mm_find σ).toNatClampNeg) 3), .int (fd_pI σ (fd_pF σ (fv_Mm_find σ).toNatClampNeg) 4), .ref (ad 2)]) (rest := []) ⟨hx, hb, hml, hown, hts⟩ (fc_Dk_lets l D cR cP ad H.size σ (fd_pI σ (fd_pF σ (fv_Mm_find σ).toNatClampNeg) 3) (fd_pI σ (fd_pF σ (fv_Mm_find σ).toNatClampNeg) 4) hI ) ⟨va_cnB 3 hts (fb_good fm_Dk_lets) rfl rfl rfl (hN _ fq_401) (hts _ (List.mem_cons_of_mem _ fq_1)) (by decide +kernel) ⟨Nat.le_of_ble_eq_true rfl, Nat.le_of_ble_eq_true rfl⟩, (hts _ (List.mem_cons_of_mem _ fq_402)), trivial⟩ (fd_preS hP hK hD hN) rfl rfl hl.1 rfl (lv_room (Nat.le_of_ble_eq_true rfl)) fx_Mm_covers_45 ⟨Nat.le_of_ble_eq_true rfl, Nat.le_of_ble_eq_true rfl⟩) hD hS hA (fun H locs hP hD hS => ?_)
      refine fd_ifeq (tgt := 55) hx hb fx_Mm_covers_48 (by decide) (fun c7 => ?_) (fun c7 => ?_)
      · refine lv_iconst (v := 0) hx hb fx_Mm_covers_55 (by decide) ?_
        exact hJ4 H locs hP hD hS false (by rw [if_neg c5, if_neg c7])
      · refine lv_iconst (v := 1) hx hb fx_Mm_covers_51 (by decide) ?_
        refine lv_goto (tgt := 56) hx hb fx_Mm_covers_52 (by decide) ?_
        exact hJ4 H locs hP hD hS true (by rw [if_neg c5, if_pos c7])
  · refine lv_iconst (v := 0) hx hb fx_Mm_covers_13 (by decide) ?_
    exact fd_zret (r := false) (u := σ) hQ hx hb hr ⟨by rw [fv_Mm_covers, if_pos c2], rfl⟩ hP hD hS fx_Mm_covers_14 hlocks
def fv_Mm_forget (σ : FDS) : FDS := if (fv_Mm_find σ) = (-1) then σ else (fv_Mm_drop σ (fv_Mm_find σ))
set_option maxHeartbeats 4000000 in
set_option maxRecDepth 100000 in
theorem fc_Mm_forget (l : Launch) (D : va_G) (cR cP : ClassId) (ad : Nat → Nat) (sz : Nat) (σ : FDS)  (hI : fd_Inv σ)  : Met l fy_Mm_forget (fw_Mm_forget :: fb_tbl) ({ frames := 1, cells := 0, slots := 0, locals := 23 } : Room) (fd_Pc D cR cP ad [.ref (ad 1), .ref (ad 2)] σ sz) ((fun A => va_Qv (fun u : FDS => fv_Mm_forget σ = u ∧ fd_Inv u) (fd_B D cR cP ad A) A) (va_A (fd_w cR cP ad σ) sz)) 0 0 (va_A (fd_w cR cP ad σ) sz) := by
  refine fd_ofW (cc := fb_Mm_forget) (maxL := 3) (ret := none) (Qf := fun A => va_Qv (fun u : FDS => fv_Mm_forget σ = u ∧ fd_Inv u) (fd_B D cR cP ad A) A) (by decide) (Nat.le_of_ble_eq_true rfl) ?_
  intro p e s m args below meth c A Q hQ hx hb hr hts hown hlocks hml hP hK hD hS hA hN ls hl
  have hown : s.vm.findClass fn_R_Mm = some m.cls := hown
  have hl : lv_has ls 3 [(0, .ref (ad 1)), (1, .ref (ad 2))] := hl
  suffices hgo : ∀ (H : Heap) (locs : List Loc), va_P D fn_cl (fd_w cR cP ad σ) H → va_D A (fd_w cR cP ad σ) → va_S A s.heap H locs → W p l e ({ frames := 1, cells := 0, slots := 0, locals := 23 } : Room) s m args below meth c H locs 0 0 Q (F0 m 0 ls []) from hgo _ _ hP hD hS
  clear hP hD hS
  intro H locs hP hD hS
  refine lv_aload_n hx hb fx_Mm_forget_0 rfl (lv_at hl 0 rfl) ?_
  refine lv_aload_n hx hb fx_Mm_forget_1 rfl (lv_at hl 1 rfl) ?_
  refine fd_calli (va_runV (As := [.ref (ad 2)]) (rest := []) ⟨hx, hb, hml, hown, hts⟩ (fc_Mm_find l D cR cP ad H.size σ  hI ) ⟨callB_of 1 hts (fb_good fm_Mm_find) rfl rfl rfl (hts _ (List.mem_cons_of_mem _ fq_3)) (hts _ (List.mem_cons_of_mem _ fq_397)) (by decide +kernel) ⟨Nat.le_of_ble_eq_true rfl, Nat.le_of_ble_eq_true rfl⟩, (hts _ (List.mem_cons_of_mem _ fq_399)), (hts _ (List.mem_cons_of_mem _ fp_Mm_find))⟩ (fd_preV hP hK hD hN (va_recv hK hP (ci := 0) (q0 := 1) rfl rfl)) rfl rfl hl.1 rfl (lv_room (Nat.le_of_ble_eq_true rfl)) fx_Mm_forget_2 ⟨Nat.le_of_ble_eq_true rfl, Nat.le_of_ble_eq_true rfl⟩) hD hS hA (fun H locs hP hD hS => ?_)
  refine lv_istore_n (lv' := [(2, .int (fv_Mm_find σ)), (0, .ref (ad 1)), (1, .ref (ad 2))]) hx hb fx_Mm_forget_5 rfl hl (by decide) rfl (fun ls hl => ?_)
  refine lv_iload_n hx hb fx_Mm_forget_6 rfl (lv_at hl 0 rfl) ?_
  refine lv_iconst (v := (-1)) hx hb fx_Mm_forget_7 (by decide) ?_
  refine lv_icmp_eq (tgt := 16) hx hb fx_Mm_forget_8 (by decide) (fun c2 => ?_) (fun c2 => ?_)
  · exact fd_vret (u := σ) hQ hx hb hr ⟨by rw [fv_Mm_forget, if_pos c2], hI⟩ hP hD hS fx_Mm_forget_16 hlocks
  · refine lv_aload_n hx hb fx_Mm_forget_11 rfl (lv_at hl 1 rfl) ?_
    refine lv_iload_n hx hb fx_Mm_forget_12 rfl (lv_at hl 0 rfl) ?_
    refine fd_callvm (va_runV (As := [.int (fv_Mm_find σ)]) (rest := []) ⟨hx, hb, hml, hown, hts⟩ (fc_Mm_drop l D cR cP ad H.size σ (fv_Mm_find σ) hI (fd_find_rng hI c2) (fd_find_sz hI c2)) ⟨callB_of 1 hts (fb_good fm_Mm_drop) rfl rfl rfl (hts _ (List.mem_cons_of_mem _ fq_3)) (hts _ (List.mem_cons_of_mem _ fq_412)) (by decide +kernel) ⟨Nat.le_of_ble_eq_true rfl, Nat.le_of_ble_eq_true rfl⟩, (hts _ (List.mem_cons_of_mem _ fq_414)), (hts _ (List.mem_cons_of_mem _ fp_Mm_drop))⟩ (fd_preV hP hK hD hN (va_recv hK hP (ci := 0) (q0 := 1) rfl rfl)) rfl rfl hl.1 rfl (lv_room (Nat.le_of_ble_eq_true rfl)) fx_Mm_forget_13 ⟨Nat.le_of_ble_eq_true rfl, Nat.le_of_ble_eq_true rfl⟩) hD hS hA (fun H locs hP hD hS hI3 => ?_)
    exact fd_vret (u := (fv_Mm_drop σ (fv_Mm_find σ))) hQ hx hb hr ⟨by rw [fv_Mm_forget, if_neg c2], hI3⟩ hP hD hS fx_Mm_forget_16 hlocks
def fv_Mm_remember_j2 (σ : FDS) (j2 : Nat) (p3 : UInt64) (v2 : UInt64) : FDS := fd_smS (fv_Pm_write σ (fd_pF σ (fd_mS σ).toNatClampNeg) j2 (FP.dadd p3 v2)) ((fd_mS (fv_Pm_write σ (fd_pF σ (fd_mS σ).toNatClampNeg) j2 (FP.dadd p3 v2))) + 1)
def fv_Mm_remember_j9 (σ : FDS) (j2 : Nat) (p3 : UInt64) (v9 : UInt64) : FDS := fd_smS (fv_Pm_write (fv_Mm_drop σ (fv_Mm_firstToEnd σ)) (fd_pF (fv_Mm_drop σ (fv_Mm_firstToEnd σ)) (fd_mS (fv_Mm_drop σ (fv_Mm_firstToEnd σ))).toNatClampNeg) j2 (FP.dadd p3 v9)) ((fd_mS (fv_Pm_write (fv_Mm_drop σ (fv_Mm_firstToEnd σ)) (fd_pF (fv_Mm_drop σ (fv_Mm_firstToEnd σ)) (fd_mS (fv_Mm_drop σ (fv_Mm_firstToEnd σ))).toNatClampNeg) j2 (FP.dadd p3 v9))) + 1)
def fv_Mm_remember (σ : FDS) (j2 : Nat) (p3 : UInt64) : FDS := if (fd_mS σ) = 6 then fv_Mm_remember_j9 σ j2 p3 (if 0 ≤ (Op.cmpValue (FP.dcmp (fd_rD (fv_Mm_drop σ (fv_Mm_firstToEnd σ)) j2) 4621819117588971520) .g) then 4621819117588971520 else fd_rD (fv_Mm_drop σ (fv_Mm_firstToEnd σ)) j2) else fv_Mm_remember_j2 σ j2 p3 (if 0 ≤ (Op.cmpValue (FP.dcmp (fd_rD σ j2) 4621819117588971520) .g) then 4621819117588971520 else fd_rD σ j2)
set_option maxHeartbeats 4000000 in
set_option maxRecDepth 100000 in
theorem fc_Mm_remember (l : Launch) (D : va_G) (cR cP : ClassId) (ad : Nat → Nat) (sz : Nat) (σ : FDS) (j2 : Nat) (hj2 : j2 < 48) (p3 : UInt64) (hI : fd_Inv σ) (hT : FP.dIsNaN p3 = false) : Met l fy_Mm_remember (fw_Mm_remember :: fb_tbl) ({ frames := 1, cells := 0, slots := 0, locals := 24 } : Room) (fd_Pc D cR cP ad [.ref (ad 1), .ref (ad 2), .ref (ad (3 + j2)), .double p3] σ sz) ((fun A => va_Qv (fun u : FDS => fv_Mm_remember σ j2 p3 = u ∧ fd_Inv u) (fd_B D cR cP ad A) A) (va_A (fd_w cR cP ad σ) sz)) 0 0 (va_A (fd_w cR cP ad σ) sz) := by
  refine fd_ofW (cc := fb_Mm_remember) (maxL := 7) (ret := none) (Qf := fun A => va_Qv (fun u : FDS => fv_Mm_remember σ j2 p3 = u ∧ fd_Inv u) (fd_B D cR cP ad A) A) (by decide) (Nat.le_of_ble_eq_true rfl) ?_
  intro p e s m args below meth c A Q hQ hx hb hr hts hown hlocks hml hP hK hD hS hA hN ls hl
  have hown : s.vm.findClass fn_R_Mm = some m.cls := hown
  have hl : lv_has ls 7 [(0, .ref (ad 1)), (1, .ref (ad 2)), (2, .ref (ad (3 + j2))), (3, .double p3)] := hl
  suffices hgo : ∀ (H : Heap) (locs : List Loc), va_P D fn_cl (fd_w cR cP ad σ) H → va_D A (fd_w cR cP ad σ) → va_S A s.heap H locs → W p l e ({ frames := 1, cells := 0, slots := 0, locals := 24 } : Room) s m args below meth c H locs 0 0 Q (F0 m 0 ls []) from hgo _ _ hP hD hS
  clear hP hD hS
  intro H locs hP hD hS
  refine lv_aload_n hx hb fx_Mm_remember_0 rfl (lv_at hl 0 rfl) ?_
  refine va_get (D := D) (ci := 0) (v := .int (fd_mS σ)) (C := fn_R_Mm) (T := fn_T_Mm) (N := 2) hx hb hts fn_j_Mm hown hK hP 1 rfl rfl 1 (by decide) (hts _ (List.mem_cons_of_mem _ fq_126)) (fun _ h9 => h9) rfl fx_Mm_remember_1 ?_
  refine lv_bipush (v := 6) hx hb fx_Mm_remember_4 (by decide) ?_
  refine lv_icmp_ne (tgt := 17) hx hb fx_Mm_remember_6 (by decide) (fun c1 => ?_) (fun c1 => ?_)
  · refine lv_aload_n hx hb fx_Mm_remember_17 rfl (lv_at hl 2 rfl) ?_
    refine va_getN (D := D) (ci := 3) (v := .double (fd_rD σ j2)) (C := fn_R_Rs) (T := fn_T_Rs) (N := 13) hx hb hts fn_j_Rs hown hK hP (5 + j2) (fd_w_res hj2) rfl 10 (by decide) (va_Nw.use rfl (hN _ fq_50)) (fun _ h9 => h9) rfl fx_Mm_remember_18 ?_
    refine lv_ldc2d (v := 4621819117588971520) hx hb hown (hts _ (List.mem_cons_of_mem _ fq_429)) fx_Mm_remember_21 ?_
    refine lv_dcmp hx hb fx_Mm_remember_24 ?_
    have hJ2 : ∀ (H : Heap) (locs : List Loc), va_P D fn_cl (fd_w cR cP ad σ) H → va_D A (fd_w cR cP ad σ) → va_S A s.heap H locs → ∀ (v2 : UInt64), v2 = (if 0 ≤ (Op.cmpValue (FP.dcmp (fd_rD σ j2) 4621819117588971520) .g) then 4621819117588971520 else fd_rD σ j2) → W p l e ({ frames := 1, cells := 0, slots := 0, locals := 24 } : Room) s m args below meth c H locs 0 0 Q (F0 m 38 ls [.double v2]) := by
      intro H locs hP hD hS v2 hv2
      refine lv_dstore (lv' := [(5, .double v2), (0, .ref (ad 1)), (1, .ref (ad 2)), (2, .ref (ad (3 + j2))), (3, .double p3)]) hx hb fx_Mm_remember_38 hl (by decide) rfl (fun ls hl => ?_)
      refine lv_aload_n hx hb fx_Mm_remember_40 rfl (lv_at hl 1 rfl) ?_
      refine va_get (D := D) (ci := 0) (v := .ref (ad 58)) (C := fn_R_Mm) (T := fn_T_Mm) (N := 2) hx hb hts fn_j_Mm hown hK hP 1 rfl rfl 0 (by decide) (hts _ (List.mem_cons_of_mem _ fq_124)) (fun _ h9 => h9) rfl fx_Mm_remember_41 ?_
      refine lv_aload_n hx hb fx_Mm_remember_44 rfl (lv_at hl 1 rfl) ?_
      refine va_get (D := D) (ci := 0) (v := .int (fd_mS σ)) (C := fn_R_Mm) (T := fn_T_Mm) (N := 2) hx hb hts fn_j_Mm hown hK hP 1 rfl rfl 1 (by decide) (hts _ (List.mem_cons_of_mem _ fq_126)) (fun _ h9 => h9) rfl fx_Mm_remember_45 ?_
      have hb3 : vp_in (fd_mS σ) 6 := by first | exact fd_szB hI c1 | exact fd_szA hI c1
      refine va_aldq (D := D) hx hb hK hP 4 1 rfl rfl hb3 fx_Mm_remember_48 ?_
      refine W.eq (g2 := F0 m 49 ls (.ref (ad (51 + (fd_pF σ (fd_mS σ).toNatClampNeg))) :: [])) rfl ?_
      refine lv_aload_n hx hb fx_Mm_remember_49 rfl (lv_at hl 2 rfl) ?_
      refine lv_aload_n hx hb fx_Mm_remember_50 rfl (lv_at hl 3 rfl) ?_
      refine lv_dload_n hx hb fx_Mm_remember_51 rfl (lv_at hl 4 rfl) ?_
      refine lv_dload hx hb fx_Mm_remember_52 (lv_at hl 0 rfl) ?_
      refine lv_dadd hx hb fx_Mm_remember_54 (fd_n64 (FP.Core.dadd_out hT (fd_sec hI hj2 hv2))) ?_
      refine fd_callvm (va_runVN (As := [.ref (ad 2), .ref (ad (3 + j2)), .double (FP.dadd p3 v2)]) (rest := []) ⟨hx, hb, hml, hown, hts⟩ (fc_Pm_write l D cR cP ad H.size σ (fd_pF σ (fd_mS σ).toNatClampNeg) (fd_plt hI hb3) j2 hj2 (FP.dadd p3 v2) hI ) ⟨va_cnB 3 hts (fb_good fm_Pm_write) rfl rfl rfl (hN _ fq_430) (hts _ (List.mem_cons_of_mem _ fq_4)) (by decide +kernel) ⟨Nat.le_of_ble_eq_true rfl, Nat.le_of_ble_eq_true rfl⟩, (hts _ (List.mem_cons_of_mem _ fq_432)), (hts _ (List.mem_cons_of_mem _ fp_Pm_write))⟩ (fd_preV hP hK hD hN (va_recv hK hP (ci := 1) (q0 := (53 + (fd_pF σ (fd_mS σ).toNatClampNeg))) rfl (fd_w_per (fd_plt hI hb3)))) rfl rfl hl.1 rfl (lv_room (Nat.le_of_ble_eq_true rfl)) fx_Mm_remember_55 ⟨Nat.le_of_ble_eq_true rfl, Nat.le_of_ble_eq_true rfl⟩) hD hS hA (fun H locs hP hD hS hI4 => ?_)
      refine lv_aload_n hx hb fx_Mm_remember_58 rfl (lv_at hl 1 rfl) ?_
      refine lv_dup hx hb fx_Mm_remember_59 rfl ?_
      refine va_get (D := D) (ci := 0) (v := .int (fd_mS (fv_Pm_write σ (fd_pF σ (fd_mS σ).toNatClampNeg) j2 (FP.dadd p3 v2)))) (C := fn_R_Mm) (T := fn_T_Mm) (N := 2) hx hb hts fn_j_Mm hown hK hP 1 rfl rfl 1 (by decide) (hts _ (List.mem_cons_of_mem _ fq_126)) (fun _ h9 => h9) rfl fx_Mm_remember_60 ?_
      refine lv_iconst (v := 1) hx hb fx_Mm_remember_63 (by decide) ?_
      refine lv_iadd hx hb fx_Mm_remember_64 ?_
      refine va_put (D := D) (ci := 0) (v := .int ((fd_mS (fv_Pm_write σ (fd_pF σ (fd_mS σ).toNatClampNeg) j2 (FP.dadd p3 v2))) + 1)) (ty := .int) (C := fn_R_Mm) (T := fn_T_Mm) (N := 2) hx hb hts fn_j_Mm fn_t_Mm fn_k_Mm fn_n_Mm hown hK hP hD hS 1 rfl rfl 1 (by decide) (hts _ (List.mem_cons_of_mem _ fq_126)) (fun _ h9 => h9) rfl (by decide +kernel) rfl rfl (Nat.le_of_ble_eq_true rfl) fx_Mm_remember_65 (fun H locs hP hD hS => ?_)
      rw [fd_set_Mm_1] at hP hD
      have hI5 : fd_Inv (fd_smS (fv_Pm_write σ (fd_pF σ (fd_mS σ).toNatClampNeg) j2 (FP.dadd p3 v2)) ((fd_mS (fv_Pm_write σ (fd_pF σ (fd_mS σ).toNatClampNeg) j2 (FP.dadd p3 v2))) + 1)) := fd_inv_size (by rw [fd_write_mS]; exact fd_inc hb3) hI4
      exact fd_vret (u := fd_smS (fv_Pm_write σ (fd_pF σ (fd_mS σ).toNatClampNeg) j2 (FP.dadd p3 v2)) ((fd_mS (fv_Pm_write σ (fd_pF σ (fd_mS σ).toNatClampNeg) j2 (FP.dadd p3 v2))) + 1)) hQ hx hb hr ⟨by rw [fv_Mm_remember, if_neg c1, ← hv2, fv_Mm_remember_j2], hI5⟩ hP hD hS fx_Mm_remember_68 hlocks
    refine lv_if_ge (tgt := 35) hx hb fx_Mm_remember_25 (by decide) (fun c6 => ?_) (fun c6 => ?_)
    · refine lv_ldc2d (v := 4621819117588971520) hx hb hown (hts _ (List.mem_cons_of_mem _ fq_429)) fx_Mm_remember_35 ?_
      exact hJ2 H locs hP hD hS 4621819117588971520 (by rw [if_pos c6])
    · refine lv_aload_n hx hb fx_Mm_remember_28 rfl (lv_at hl 2 rfl) ?_
      refine va_getN (D := D) (ci := 3) (v := .double (fd_rD σ j2)) (C := fn_R_Rs) (T := fn_T_Rs) (N := 13) hx hb hts fn_j_Rs hown hK hP (5 + j2) (fd_w_res hj2) rfl 10 (by decide) (va_Nw.use rfl (hN _ fq_50)) (fun _ h9 => h9) rfl fx_Mm_remember_29 ?_
      refine lv_goto (tgt := 38) hx hb fx_Mm_remember_32 (by decide) ?_
      exact hJ2 H locs hP hD hS (fd_rD σ j2) (by rw [if_neg c6])
  · refine lv_aload_n hx hb fx_Mm_remember_9 rfl (lv_at hl 0 rfl) ?_
    refine lv_aload_n hx hb fx_Mm_remember_10 rfl (lv_at hl 0 rfl) ?_
    refine fd_calli (va_runV (As := []) (rest := [.ref (ad 1)]) ⟨hx, hb, hml, hown, hts⟩ (fc_Mm_firstToEnd l D cR cP ad H.size σ  hI ) ⟨callB_of 0 hts (fb_good fm_Mm_firstToEnd) rfl rfl rfl (hts _ (List.mem_cons_of_mem _ fq_3)) (hts _ (List.mem_cons_of_mem _ fq_425)) (by decide +kernel) ⟨Nat.le_of_ble_eq_true rfl, Nat.le_of_ble_eq_true rfl⟩, (hts _ (List.mem_cons_of_mem _ fq_427)), (hts _ (List.mem_cons_of_mem _ fp_Mm_firstToEnd))⟩ (fd_preV hP hK hD hN (va_recv hK hP (ci := 0) (q0 := 1) rfl rfl)) rfl rfl hl.1 rfl (lv_room (Nat.le_of_ble_eq_true rfl)) fx_Mm_remember_11 ⟨Nat.le_of_ble_eq_true rfl, Nat.le_of_ble_eq_true rfl⟩) hD hS hA (fun H locs hP hD hS => ?_)
    refine fd_callvm (va_runV (As := [.int (fv_Mm_firstToEnd σ)]) (rest := []) ⟨hx, hb, hml, hown, hts⟩ (fc_Mm_drop l D cR cP ad H.size σ (fv_Mm_firstToEnd σ) hI (fd_ft_rng hI) (⟨5, by decide, c1⟩)) ⟨callB_of 1 hts (fb_good fm_Mm_drop) rfl rfl rfl (hts _ (List.mem_cons_of_mem _ fq_3)) (hts _ (List.mem_cons_of_mem _ fq_412)) (by decide +kernel) ⟨Nat.le_of_ble_eq_true rfl, Nat.le_of_ble_eq_true rfl⟩, (hts _ (List.mem_cons_of_mem _ fq_414)), (hts _ (List.mem_cons_of_mem _ fp_Mm_drop))⟩ (fd_preV hP hK hD hN (va_recv hK hP (ci := 0) (q0 := 1) rfl rfl)) rfl rfl hl.1 rfl (lv_room (Nat.le_of_ble_eq_true rfl)) fx_Mm_remember_14 ⟨Nat.le_of_ble_eq_true rfl, Nat.le_of_ble_eq_true rfl⟩) hD hS hA (fun H locs hP hD hS hI8 => ?_)
    refine lv_aload_n hx hb fx_Mm_remember_17 rfl (lv_at hl 2 rfl) ?_
    refine va_getN (D := D) (ci := 3) (v := .double (fd_rD (fv_Mm_drop σ (fv_Mm_firstToEnd σ)) j2)) (C := fn_R_Rs) (T := fn_T_Rs) (N := 13) hx hb hts fn_j_Rs hown hK hP (5 + j2) (fd_w_res hj2) rfl 10 (by decide) (va_Nw.use rfl (hN _ fq_50)) (fun _ h9 => h9) rfl fx_Mm_remember_18 ?_
    refine lv_ldc2d (v := 4621819117588971520) hx hb hown (hts _ (List.mem_cons_of_mem _ fq_429)) fx_Mm_remember_21 ?_
    refine lv_dcmp hx hb fx_Mm_remember_24 ?_
    have hJ9 : ∀ (H : Heap) (locs : List Loc), va_P D fn_cl (fd_w cR cP ad (fv_Mm_drop σ (fv_Mm_firstToEnd σ))) H → va_D A (fd_w cR cP ad (fv_Mm_drop σ (fv_Mm_firstToEnd σ))) → va_S A s.heap H locs → ∀ (v9 : UInt64), v9 = (if 0 ≤ (Op.cmpValue (FP.dcmp (fd_rD (fv_Mm_drop σ (fv_Mm_firstToEnd σ)) j2) 4621819117588971520) .g) then 4621819117588971520 else fd_rD (fv_Mm_drop σ (fv_Mm_firstToEnd σ)) j2) → W p l e ({ frames := 1, cells := 0, slots := 0, locals := 24 } : Room) s m args below meth c H locs 0 0 Q (F0 m 38 ls [.double v9]) := by
      intro H locs hP hD hS v9 hv9
      refine lv_dstore (lv' := [(5, .double v9), (0, .ref (ad 1)), (1, .ref (ad 2)), (2, .ref (ad (3 + j2))), (3, .double p3)]) hx hb fx_Mm_remember_38 hl (by decide) rfl (fun ls hl => ?_)
      refine lv_aload_n hx hb fx_Mm_remember_40 rfl (lv_at hl 1 rfl) ?_
      refine va_get (D := D) (ci := 0) (v := .ref (ad 58)) (C := fn_R_Mm) (T := fn_T_Mm) (N := 2) hx hb hts fn_j_Mm hown hK hP 1 rfl rfl 0 (by decide) (hts _ (List.mem_cons_of_mem _ fq_124)) (fun _ h9 => h9) rfl fx_Mm_remember_41 ?_
      refine lv_aload_n hx hb fx_Mm_remember_44 rfl (lv_at hl 1 rfl) ?_
      refine va_get (D := D) (ci := 0) (v := .int (fd_mS (fv_Mm_drop σ (fv_Mm_firstToEnd σ)))) (C := fn_R_Mm) (T := fn_T_Mm) (N := 2) hx hb hts fn_j_Mm hown hK hP 1 rfl rfl 1 (by decide) (hts _ (List.mem_cons_of_mem _ fq_126)) (fun _ h9 => h9) rfl fx_Mm_remember_45 ?_
      have hb10 : vp_in (fd_mS (fv_Mm_drop σ (fv_Mm_firstToEnd σ))) 6 := by first | exact fd_szB hI c1 | exact fd_szA hI c1
      refine va_aldq (D := D) hx hb hK hP 4 1 rfl rfl hb10 fx_Mm_remember_48 ?_
      refine W.eq (g2 := F0 m 49 ls (.ref (ad (51 + (fd_pF (fv_Mm_drop σ (fv_Mm_firstToEnd σ)) (fd_mS (fv_Mm_drop σ (fv_Mm_firstToEnd σ))).toNatClampNeg))) :: [])) rfl ?_
      refine lv_aload_n hx hb fx_Mm_remember_49 rfl (lv_at hl 2 rfl) ?_
      refine lv_aload_n hx hb fx_Mm_remember_50 rfl (lv_at hl 3 rfl) ?_
      refine lv_dload_n hx hb fx_Mm_remember_51 rfl (lv_at hl 4 rfl) ?_
      refine lv_dload hx hb fx_Mm_remember_52 (lv_at hl 0 rfl) ?_
      refine lv_dadd hx hb fx_Mm_remember_54 (fd_n64 (FP.Core.dadd_out hT (fd_sec hI8 hj2 hv9))) ?_
      refine fd_callvm (va_runVN (As := [.ref (ad 2), .ref (ad (3 + j2)), .double (FP.dadd p3 v9)]) (rest := []) ⟨hx, hb, hml, hown, hts⟩ (fc_Pm_write l D cR cP ad H.size (fv_Mm_drop σ (fv_Mm_firstToEnd σ)) (fd_pF (fv_Mm_drop σ (fv_Mm_firstToEnd σ)) (fd_mS (fv_Mm_drop σ (fv_Mm_firstToEnd σ))).toNatClampNeg) (fd_plt hI8 hb10) j2 hj2 (FP.dadd p3 v9) hI8 ) ⟨va_cnB 3 hts (fb_good fm_Pm_write) rfl rfl rfl (hN _ fq_430) (hts _ (List.mem_cons_of_mem _ fq_4)) (by decide +kernel) ⟨Nat.le_of_ble_eq_true rfl, Nat.le_of_ble_eq_true rfl⟩, (hts _ (List.mem_cons_of_mem _ fq_432)), (hts _ (List.mem_cons_of_mem _ fp_Pm_write))⟩ (fd_preV hP hK hD hN (va_recv hK hP (ci := 1) (q0 := (53 + (fd_pF (fv_Mm_drop σ (fv_Mm_firstToEnd σ)) (fd_mS (fv_Mm_drop σ (fv_Mm_firstToEnd σ))).toNatClampNeg))) rfl (fd_w_per (fd_plt hI8 hb10)))) rfl rfl hl.1 rfl (lv_room (Nat.le_of_ble_eq_true rfl)) fx_Mm_remember_55 ⟨Nat.le_of_ble_eq_true rfl, Nat.le_of_ble_eq_true rfl⟩) hD hS hA (fun H locs hP hD hS hI11 => ?_)
      refine lv_aload_n hx hb fx_Mm_remember_58 rfl (lv_at hl 1 rfl) ?_
      refine lv_dup hx hb fx_Mm_remember_59 rfl ?_
      refine va_get (D := D) (ci := 0) (v := .int (fd_mS (fv_Pm_write (fv_Mm_drop σ (fv_Mm_firstToEnd σ)) (fd_pF (fv_Mm_drop σ (fv_Mm_firstToEnd σ)) (fd_mS (fv_Mm_drop σ (fv_Mm_firstToEnd σ))).toNatClampNeg) j2 (FP.dadd p3 v9)))) (C := fn_R_Mm) (T := fn_T_Mm) (N := 2) hx hb hts fn_j_Mm hown hK hP 1 rfl rfl 1 (by decide) (hts _ (List.mem_cons_of_mem _ fq_126)) (fun _ h9 => h9) rfl fx_Mm_remember_60 ?_
      refine lv_iconst (v := 1) hx hb fx_Mm_remember_63 (by decide) ?_
      refine lv_iadd hx hb fx_Mm_remember_64 ?_
      refine va_put (D := D) (ci := 0) (v := .int ((fd_mS (fv_Pm_write (fv_Mm_drop σ (fv_Mm_firstToEnd σ)) (fd_pF (fv_Mm_drop σ (fv_Mm_firstToEnd σ)) (fd_mS (fv_Mm_drop σ (fv_Mm_firstToEnd σ))).toNatClampNeg) j2 (FP.dadd p3 v9))) + 1)) (ty := .int) (C := fn_R_Mm) (T := fn_T_Mm) (N := 2) hx hb hts fn_j_Mm fn_t_Mm fn_k_Mm fn_n_Mm hown hK hP hD hS 1 rfl rfl 1 (by decide) (hts _ (List.mem_cons_of_mem _ fq_126)) (fun _ h9 => h9) rfl (by decide +kernel) rfl rfl (Nat.le_of_ble_eq_true rfl) fx_Mm_remember_65 (fun H locs hP hD hS => ?_)
      rw [fd_set_Mm_1] at hP hD
      have hI12 : fd_Inv (fd_smS (fv_Pm_write (fv_Mm_drop σ (fv_Mm_firstToEnd σ)) (fd_pF (fv_Mm_drop σ (fv_Mm_firstToEnd σ)) (fd_mS (fv_Mm_drop σ (fv_Mm_firstToEnd σ))).toNatClampNeg) j2 (FP.dadd p3 v9)) ((fd_mS (fv_Pm_write (fv_Mm_drop σ (fv_Mm_firstToEnd σ)) (fd_pF (fv_Mm_drop σ (fv_Mm_firstToEnd σ)) (fd_mS (fv_Mm_drop σ (fv_Mm_firstToEnd σ))).toNatClampNeg) j2 (FP.dadd p3 v9))) + 1)) := fd_inv_size (by rw [fd_write_mS]; exact fd_inc hb10) hI11
      exact fd_vret (u := fd_smS (fv_Pm_write (fv_Mm_drop σ (fv_Mm_firstToEnd σ)) (fd_pF (fv_Mm_drop σ (fv_Mm_firstToEnd σ)) (fd_mS (fv_Mm_drop σ (fv_Mm_firstToEnd σ))).toNatClampNeg) j2 (FP.dadd p3 v9)) ((fd_mS (fv_Pm_write (fv_Mm_drop σ (fv_Mm_firstToEnd σ)) (fd_pF (fv_Mm_drop σ (fv_Mm_firstToEnd σ)) (fd_mS (fv_Mm_drop σ (fv_Mm_firstToEnd σ))).toNatClampNeg) j2 (FP.dadd p3 v9))) + 1)) hQ hx hb hr ⟨by rw [fv_Mm_remember, if_pos c1, ← hv9, fv_Mm_remember_j9], hI12⟩ hP hD hS fx_Mm_remember_68 hlocks
    refine lv_if_ge (tgt := 35) hx hb fx_Mm_remember_25 (by decide) (fun c13 => ?_) (fun c13 => ?_)
    · refine lv_ldc2d (v := 4621819117588971520) hx hb hown (hts _ (List.mem_cons_of_mem _ fq_429)) fx_Mm_remember_35 ?_
      exact hJ9 H locs hP hD hS 4621819117588971520 (by rw [if_pos c13])
    · refine lv_aload_n hx hb fx_Mm_remember_28 rfl (lv_at hl 2 rfl) ?_
      refine va_getN (D := D) (ci := 3) (v := .double (fd_rD (fv_Mm_drop σ (fv_Mm_firstToEnd σ)) j2)) (C := fn_R_Rs) (T := fn_T_Rs) (N := 13) hx hb hts fn_j_Rs hown hK hP (5 + j2) (fd_w_res hj2) rfl 10 (by decide) (va_Nw.use rfl (hN _ fq_50)) (fun _ h9 => h9) rfl fx_Mm_remember_29 ?_
      refine lv_goto (tgt := 38) hx hb fx_Mm_remember_32 (by decide) ?_
      exact hJ9 H locs hP hD hS (fd_rD (fv_Mm_drop σ (fv_Mm_firstToEnd σ)) j2) (by rw [if_neg c13])
def fv_Dk_ask_j3 (σ : FDS) (j1 : Nat) (v3 : Bool) : Bool × FDS := if v3 = true then if (fv_Dk_lets (fv_Mm_forget (fd_sdI σ 7 ((fd_dI σ 7) + 1))) (fd_rI (fv_Mm_forget (fd_sdI σ 7 ((fd_dI σ 7) + 1))) j1 8) (fd_rI (fv_Mm_forget (fd_sdI σ 7 ((fd_dI σ 7) + 1))) j1 9)) = true then if (Op.cmpValue (FP.dcmp (fd_rD (fv_Mm_forget (fd_sdI σ 7 ((fd_dI σ 7) + 1))) j1) FP.dconst0) .l) ≤ 0 then (true, (fv_Mm_forget (fd_sdI σ 7 ((fd_dI σ 7) + 1)))) else if (fd_qI (fv_Mm_forget (fd_sdI σ 7 ((fd_dI σ 7) + 1))) 0) = 6 then (true, (fv_Mm_forget (fd_sdI σ 7 ((fd_dI σ 7) + 1)))) else (true, (fv_Mm_remember (fv_Mm_forget (fd_sdI σ 7 ((fd_dI σ 7) + 1))) j1 (fd_dT (fv_Mm_forget (fd_sdI σ 7 ((fd_dI σ 7) + 1)))))) else (false, (fv_Mm_forget (fd_sdI σ 7 ((fd_dI σ 7) + 1)))) else (false, (fv_Mm_forget (fd_sdI σ 7 ((fd_dI σ 7) + 1))))
def fv_Dk_ask (σ : FDS) (j1 : Nat) : Bool × FDS := fv_Dk_ask_j3 σ j1 (if (fd_rB (fv_Mm_forget (fd_sdI σ 7 ((fd_dI σ 7) + 1))) j1 7) = true then if (fv_Rq_passes (fv_Mm_forget (fd_sdI σ 7 ((fd_dI σ 7) + 1))) j1) = true then true else false else false)
set_option maxHeartbeats 4000000 in
set_option maxRecDepth 100000 in
theorem fc_Dk_ask (l : Launch) (D : va_G) (cR cP : ClassId) (ad : Nat → Nat) (sz : Nat) (σ : FDS) (j1 : Nat) (hj1 : j1 < 48) (hI : fd_Inv σ)  : Met l fy_Dk_ask (fw_Dk_ask :: fb_tbl) ({ frames := 2, cells := 0, slots := 0, locals := 50 } : Room) (fd_Pc D cR cP ad [.ref (ad 0), .ref (ad (3 + j1))] σ sz) ((fun A => va_Qi (fun (r : Int32) (u : FDS) => (fd_bi (fv_Dk_ask σ j1).1, (fv_Dk_ask σ j1).2) = (r, u) ∧ fd_Inv u) (fd_B D cR cP ad A) A) (va_A (fd_w cR cP ad σ) sz)) 0 0 (va_A (fd_w cR cP ad σ) sz) := by
  refine fd_ofW (cc := fb_Dk_ask) (maxL := 3) (ret := (some .boolean)) (Qf := fun A => va_Qi (fun (r : Int32) (u : FDS) => (fd_bi (fv_Dk_ask σ j1).1, (fv_Dk_ask σ j1).2) = (r, u) ∧ fd_Inv u) (fd_B D cR cP ad A) A) (by decide) (Nat.le_of_ble_eq_true rfl) ?_
  intro p e s m args below meth c A Q hQ hx hb hr hts hown hlocks hml hP hK hD hS hA hN ls hl
  have hown : s.vm.findClass fn_R_Dk = some m.cls := hown
  have hl : lv_has ls 3 [(0, .ref (ad 0)), (1, .ref (ad (3 + j1)))] := hl
  suffices hgo : ∀ (H : Heap) (locs : List Loc), va_P D fn_cl (fd_w cR cP ad σ) H → va_D A (fd_w cR cP ad σ) → va_S A s.heap H locs → W p l e ({ frames := 2, cells := 0, slots := 0, locals := 50 } : Room) s m args below meth c H locs 0 0 Q (F0 m 0 ls []) from hgo _ _ hP hD hS
  clear hP hD hS
  intro H locs hP hD hS
  refine lv_aload_n hx hb fx_Dk_ask_0 rfl (lv_at hl 0 rfl) ?_
  refine lv_dup hx hb fx_Dk_ask_1 rfl ?_
  refine va_get (D := D) (ci := 4) (v := .int (fd_dI σ 7)) (C := fn_R_Dk) (T := fn_T_Dk) (N := 9) hx hb hts fn_j_Dk hown hK hP 0 rfl rfl 7 (by decide) (hts _ (List.mem_cons_of_mem _ fq_211)) (fun _ h9 => h9) rfl fx_Dk_ask_2 ?_
  refine lv_iconst (v := 1) hx hb fx_Dk_ask_5 (by decide) ?_
  refine lv_iadd hx hb fx_Dk_ask_6 ?_
  refine va_put (D := D) (ci := 4) (v := .int ((fd_dI σ 7) + 1)) (ty := .int) (C := fn_R_Dk) (T := fn_T_Dk) (N := 9) hx hb hts fn_j_Dk fn_t_Dk fn_k_Dk fn_n_Dk hown hK hP hD hS 0 rfl rfl 7 (by decide) (hts _ (List.mem_cons_of_mem _ fq_211)) (fun _ h9 => h9) rfl (by decide +kernel) rfl rfl (Nat.le_of_ble_eq_true rfl) fx_Dk_ask_7 (fun H locs hP hD hS => ?_)
  rw [fd_set_Dk_7] at hP hD
  have hI1 : fd_Inv (fd_sdI σ 7 ((fd_dI σ 7) + 1)) := fd_inv_sdI hI
  refine lv_aload_n hx hb fx_Dk_ask_10 rfl (lv_at hl 0 rfl) ?_
  refine va_get (D := D) (ci := 4) (v := .ref (ad 1)) (C := fn_R_Dk) (T := fn_T_Dk) (N := 9) hx hb hts fn_j_Dk hown hK hP 0 rfl rfl 1 (by decide) (hts _ (List.mem_cons_of_mem _ fq_205)) (fun _ h9 => h9) rfl fx_Dk_ask_11 ?_
  refine lv_aload_n hx hb fx_Dk_ask_14 rfl (lv_at hl 0 rfl) ?_
  refine va_get (D := D) (ci := 4) (v := .ref (ad 2)) (C := fn_R_Dk) (T := fn_T_Dk) (N := 9) hx hb hts fn_j_Dk hown hK hP 0 rfl rfl 2 (by decide) (hts _ (List.mem_cons_of_mem _ fq_206)) (fun _ h9 => h9) rfl fx_Dk_ask_15 ?_
  refine fd_callvm (va_runVN (As := [.ref (ad 2)]) (rest := []) ⟨hx, hb, hml, hown, hts⟩ (fc_Mm_forget l D cR cP ad H.size (fd_sdI σ 7 ((fd_dI σ 7) + 1))  hI1 ) ⟨va_cnB 1 hts (fb_good fm_Mm_forget) rfl rfl rfl (hN _ fq_408) (hts _ (List.mem_cons_of_mem _ fq_3)) (by decide +kernel) ⟨Nat.le_of_ble_eq_true rfl, Nat.le_of_ble_eq_true rfl⟩, (hts _ (List.mem_cons_of_mem _ fq_410)), (hts _ (List.mem_cons_of_mem _ fp_Mm_forget))⟩ (fd_preV hP hK hD hN (va_recv hK hP (ci := 0) (q0 := 1) rfl rfl)) rfl rfl hl.1 rfl (lv_room (Nat.le_of_ble_eq_true rfl)) fx_Dk_ask_18 ⟨Nat.le_of_ble_eq_true rfl, Nat.le_of_ble_eq_true rfl⟩) hD hS hA (fun H locs hP hD hS hI2 => ?_)
  refine lv_aload_n hx hb fx_Dk_ask_21 rfl (lv_at hl 1 rfl) ?_
  refine va_getN (D := D) (ci := 3) (v := .int (fd_bi (fd_rB (fv_Mm_forget (fd_sdI σ 7 ((fd_dI σ 7) + 1))) j1 7))) (C := fn_R_Rs) (T := fn_T_Rs) (N := 13) hx hb hts fn_j_Rs hown hK hP (5 + j1) (fd_w_res hj1) rfl 7 (by decide) (va_Nw.use rfl (hN _ fq_44)) (fun _ h9 => h9) rfl fx_Dk_ask_22 ?_
  have hJ3 : ∀ (H : Heap) (locs : List Loc), va_P D fn_cl (fd_w cR cP ad (fv_Mm_forget (fd_sdI σ 7 ((fd_dI σ 7) + 1)))) H → va_D A (fd_w cR cP ad (fv_Mm_forget (fd_sdI σ 7 ((fd_dI σ 7) + 1)))) → va_S A s.heap H locs → ∀ (v3 : Bool), v3 = (if (fd_rB (fv_Mm_forget (fd_sdI σ 7 ((fd_dI σ 7) + 1))) j1 7) = true then if (fv_Rq_passes (fv_Mm_forget (fd_sdI σ 7 ((fd_dI σ 7) + 1))) j1) = true then true else false else false) → W p l e ({ frames := 2, cells := 0, slots := 0, locals := 50 } : Room) s m args below meth c H locs 0 0 Q (F0 m 44 ls [.int (fd_bi v3)]) := by
    intro H locs hP hD hS v3 hv3
    refine lv_istore_n (lv' := [(2, .int (fd_bi v3)), (0, .ref (ad 0)), (1, .ref (ad (3 + j1)))]) hx hb fx_Dk_ask_44 rfl hl (by decide) rfl (fun ls hl => ?_)
    refine lv_iload_n hx hb fx_Dk_ask_45 rfl (lv_at hl 0 rfl) ?_
    refine fd_ifeq (tgt := 67) hx hb fx_Dk_ask_46 (by decide) (fun c4 => ?_) (fun c4 => ?_)
    · refine lv_iconst (v := 0) hx hb fx_Dk_ask_67 (by decide) ?_
      exact fd_zret (r := false) (u := (fv_Mm_forget (fd_sdI σ 7 ((fd_dI σ 7) + 1)))) hQ hx hb hr ⟨by rw [fv_Dk_ask, ← hv3, fv_Dk_ask_j3, if_neg c4], hI2⟩ hP hD hS fx_Dk_ask_68 hlocks
    · refine lv_aload_n hx hb fx_Dk_ask_49 rfl (lv_at hl 2 rfl) ?_
      refine va_getN (D := D) (ci := 3) (v := .int (fd_rI (fv_Mm_forget (fd_sdI σ 7 ((fd_dI σ 7) + 1))) j1 8)) (C := fn_R_Rs) (T := fn_T_Rs) (N := 13) hx hb hts fn_j_Rs hown hK hP (5 + j1) (fd_w_res hj1) rfl 8 (by decide) (va_Nw.use rfl (hN _ fq_46)) (fun _ h9 => h9) rfl fx_Dk_ask_50 ?_
      refine lv_aload_n hx hb fx_Dk_ask_53 rfl (lv_at hl 2 rfl) ?_
      refine va_getN (D := D) (ci := 3) (v := .int (fd_rI (fv_Mm_forget (fd_sdI σ 7 ((fd_dI σ 7) + 1))) j1 9)) (C := fn_R_Rs) (T := fn_T_Rs) (N := 13) hx hb hts fn_j_Rs hown hK hP (5 + j1) (fd_w_res hj1) rfl 9 (by decide) (va_Nw.use rfl (hN _ fq_48)) (fun _ h9 => h9) rfl fx_Dk_ask_54 ?_
      refine lv_aload_n hx hb fx_Dk_ask_57 rfl (lv_at hl 1 rfl) ?_
      refine va_get (D := D) (ci := 4) (v := .ref (ad 2)) (C := fn_R_Dk) (T := fn_T_Dk) (N := 9) hx hb hts fn_j_Dk hown hK hP 0 rfl rfl 2 (by decide) (hts _ (List.mem_cons_of_mem _ fq_206)) (fun _ h9 => h9) rfl fx_Dk_ask_58 ?_
      refine fd_callz (va_runS (As := [.int (fd_rI (fv_Mm_forget (fd_sdI σ 7 ((fd_dI σ 7) + 1))) j1 8), .int (fd_rI (fv_Mm_forget (fd_sdI σ 7 ((fd_dI σ 7) + 1))) j1 9), .ref (ad 2)]) (rest := []) ⟨hx, hb, hml, hown, hts⟩ (fc_Dk_lets l D cR cP ad H.size (fv_Mm_forget (fd_sdI σ 7 ((fd_dI σ 7) + 1))) (fd_rI (fv_Mm_forget (fd_sdI σ 7 ((fd_dI σ 7) + 1))) j1 8) (fd_rI (fv_Mm_forget (fd_sdI σ 7 ((fd_dI σ 7) + 1))) j1 9) hI2 ) ⟨callB_of 3 hts (fb_good fm_Dk_lets) rfl rfl rfl (hts _ (List.mem_cons_of_mem _ fq_1)) (hts _ (List.mem_cons_of_mem _ fq_420)) (by decide +kernel) ⟨Nat.le_of_ble_eq_true rfl, Nat.le_of_ble_eq_true rfl⟩, (hts _ (List.mem_cons_of_mem _ fq_402))⟩ (fd_preS hP hK hD hN) rfl rfl hl.1 rfl (lv_room (Nat.le_of_ble_eq_true rfl)) fx_Dk_ask_61 ⟨Nat.le_of_ble_eq_true rfl, Nat.le_of_ble_eq_true rfl⟩) hD hS hA (fun H locs hP hD hS => ?_)
      refine fd_ifne (tgt := 69) hx hb fx_Dk_ask_64 (by decide) (fun c6 => ?_) (fun c6 => ?_)
      · refine lv_aload_n hx hb fx_Dk_ask_69 rfl (lv_at hl 2 rfl) ?_
        refine va_getN (D := D) (ci := 3) (v := .double (fd_rD (fv_Mm_forget (fd_sdI σ 7 ((fd_dI σ 7) + 1))) j1)) (C := fn_R_Rs) (T := fn_T_Rs) (N := 13) hx hb hts fn_j_Rs hown hK hP (5 + j1) (fd_w_res hj1) rfl 10 (by decide) (va_Nw.use rfl (hN _ fq_49)) (fun _ h9 => h9) rfl fx_Dk_ask_70 ?_
        refine lv_dconst0 hx hb fx_Dk_ask_73 ?_
        refine lv_dcmp hx hb fx_Dk_ask_74 ?_
        refine lv_if_le (tgt := 106) hx hb fx_Dk_ask_75 (by decide) (fun c7 => ?_) (fun c7 => ?_)
        · refine lv_iconst (v := 1) hx hb fx_Dk_ask_106 (by decide) ?_
          exact fd_zret (r := true) (u := (fv_Mm_forget (fd_sdI σ 7 ((fd_dI σ 7) + 1)))) hQ hx hb hr ⟨by rw [fv_Dk_ask, ← hv3, fv_Dk_ask_j3, if_pos c4, if_pos c6, if_pos c7], hI2⟩ hP hD hS fx_Dk_ask_107 hlocks
        · refine lv_aload_n hx hb fx_Dk_ask_78 rfl (lv_at hl 1 rfl) ?_
          refine va_get (D := D) (ci := 4) (v := .ref (ad 2)) (C := fn_R_Dk) (T := fn_T_Dk) (N := 9) hx hb hts fn_j_Dk hown hK hP 0 rfl rfl 2 (by decide) (hts _ (List.mem_cons_of_mem _ fq_206)) (fun _ h9 => h9) rfl fx_Dk_ask_79 ?_
          refine va_getN (D := D) (ci := 2) (v := .int (fd_qI (fv_Mm_forget (fd_sdI σ 7 ((fd_dI σ 7) + 1))) 0)) (C := fn_R_Rq) (T := fn_T_Rq) (N := 15) hx hb hts fn_j_Rq hown hK hP 2 rfl rfl 0 (by decide) (va_Nw.use rfl (hN _ fq_142)) (fun _ h9 => h9) rfl fx_Dk_ask_82 ?_
          refine lv_bipush (v := 6) hx hb fx_Dk_ask_85 (by decide) ?_
          refine lv_icmp_eq (tgt := 106) hx hb fx_Dk_ask_87 (by decide) (fun c8 => ?_) (fun c8 => ?_)
          · refine lv_iconst (v := 1) hx hb fx_Dk_ask_106 (by decide) ?_
            exact fd_zret (r := true) (u := (fv_Mm_forget (fd_sdI σ 7 ((fd_dI σ 7) + 1)))) hQ hx hb hr ⟨by rw [fv_Dk_ask, ← hv3, fv_Dk_ask_j3, if_pos c4, if_pos c6, if_neg c7, if_pos c8], hI2⟩ hP hD hS fx_Dk_ask_107 hlocks
          · refine lv_aload_n hx hb fx_Dk_ask_90 rfl (lv_at hl 1 rfl) ?_
            refine va_get (D := D) (ci := 4) (v := .ref (ad 1)) (C := fn_R_Dk) (T := fn_T_Dk) (N := 9) hx hb hts fn_j_Dk hown hK hP 0 rfl rfl 1 (by decide) (hts _ (List.mem_cons_of_mem _ fq_205)) (fun _ h9 => h9) rfl fx_Dk_ask_91 ?_
            refine lv_aload_n hx hb fx_Dk_ask_94 rfl (lv_at hl 1 rfl) ?_
            refine va_get (D := D) (ci := 4) (v := .ref (ad 2)) (C := fn_R_Dk) (T := fn_T_Dk) (N := 9) hx hb hts fn_j_Dk hown hK hP 0 rfl rfl 2 (by decide) (hts _ (List.mem_cons_of_mem _ fq_206)) (fun _ h9 => h9) rfl fx_Dk_ask_95 ?_
            refine lv_aload_n hx hb fx_Dk_ask_98 rfl (lv_at hl 2 rfl) ?_
            refine lv_aload_n hx hb fx_Dk_ask_99 rfl (lv_at hl 1 rfl) ?_
            refine va_get (D := D) (ci := 4) (v := .double (fd_dT (fv_Mm_forget (fd_sdI σ 7 ((fd_dI σ 7) + 1))))) (C := fn_R_Dk) (T := fn_T_Dk) (N := 9) hx hb hts fn_j_Dk hown hK hP 0 rfl rfl 3 (by decide) (hts _ (List.mem_cons_of_mem _ fq_207)) (fun _ h9 => h9) rfl fx_Dk_ask_100 ?_
            refine fd_callvm (va_runVN (As := [.ref (ad 2), .ref (ad (3 + j1)), .double (fd_dT (fv_Mm_forget (fd_sdI σ 7 ((fd_dI σ 7) + 1))))]) (rest := []) ⟨hx, hb, hml, hown, hts⟩ (fc_Mm_remember l D cR cP ad H.size (fv_Mm_forget (fd_sdI σ 7 ((fd_dI σ 7) + 1))) j1 hj1 (fd_dT (fv_Mm_forget (fd_sdI σ 7 ((fd_dI σ 7) + 1)))) hI2 hI2.2.2.2.2.1) ⟨va_cnB 3 hts (fb_good fm_Mm_remember) rfl rfl rfl (hN _ fq_421) (hts _ (List.mem_cons_of_mem _ fq_3)) (by decide +kernel) ⟨Nat.le_of_ble_eq_true rfl, Nat.le_of_ble_eq_true rfl⟩, (hts _ (List.mem_cons_of_mem _ fq_423)), (hts _ (List.mem_cons_of_mem _ fp_Mm_remember))⟩ (fd_preV hP hK hD hN (va_recv hK hP (ci := 0) (q0 := 1) rfl rfl)) rfl rfl hl.1 rfl (lv_room (Nat.le_of_ble_eq_true rfl)) fx_Dk_ask_103 ⟨Nat.le_of_ble_eq_true rfl, Nat.le_of_ble_eq_true rfl⟩) hD hS hA (fun H locs hP hD hS hI9 => ?_)
            refine lv_iconst (v := 1) hx hb fx_Dk_ask_106 (by decide) ?_
            exact fd_zret (r := true) (u := (fv_Mm_remember (fv_Mm_forget (fd_sdI σ 7 ((fd_dI σ 7) + 1))) j1 (fd_dT (fv_Mm_forget (fd_sdI σ 7 ((fd_dI σ 7) + 1)))))) hQ hx hb hr ⟨by rw [fv_Dk_ask, ← hv3, fv_Dk_ask_j3, if_pos c4, if_pos c6, if_neg c7, if_neg c8], hI9⟩ hP hD hS fx_Dk_ask_107 hlocks
      · refine lv_iconst (v := 0) hx hb fx_Dk_ask_67 (by decide) ?_
        exact fd_zret (r := false) (u := (fv_Mm_forget (fd_sdI σ 7 ((fd_dI σ 7) + 1)))) hQ hx hb hr ⟨by rw [fv_Dk_ask, ← hv3, fv_Dk_ask_j3, if_pos c4, if_neg c6], hI2⟩ hP hD hS fx_Dk_ask_68 hlocks
  refine fd_ifeq (tgt := 43) hx hb fx_Dk_ask_25 (by decide) (fun c10 => ?_) (fun c10 => ?_)
  · refine lv_iconst (v := 0) hx hb fx_Dk_ask_43 (by decide) ?_
    exact hJ3 H locs hP hD hS false (by rw [if_neg c10])
  · refine lv_aload_n hx hb fx_Dk_ask_28 rfl (lv_at hl 0 rfl) ?_
    refine va_get (D := D) (ci := 4) (v := .ref (ad 2)) (C := fn_R_Dk) (T := fn_T_Dk) (N := 9) hx hb hts fn_j_Dk hown hK hP 0 rfl rfl 2 (by decide) (hts _ (List.mem_cons_of_mem _ fq_206)) (fun _ h9 => h9) rfl fx_Dk_ask_29 ?_
    refine lv_aload_n hx hb fx_Dk_ask_32 rfl (lv_at hl 1 rfl) ?_
    refine fd_callz (va_runVN (As := [.ref (ad (3 + j1))]) (rest := []) ⟨hx, hb, hml, hown, hts⟩ (fc_Rq_passes l D cR cP ad H.size (fv_Mm_forget (fd_sdI σ 7 ((fd_dI σ 7) + 1))) j1 hj1 hI2 ) ⟨va_cnB 1 hts (fb_good fm_Rq_passes) rfl rfl rfl (hN _ fq_416) (hts _ (List.mem_cons_of_mem _ fq_5)) (by decide +kernel) ⟨Nat.le_of_ble_eq_true rfl, Nat.le_of_ble_eq_true rfl⟩, (hts _ (List.mem_cons_of_mem _ fq_418)), (hts _ (List.mem_cons_of_mem _ fp_Rq_passes))⟩ (fd_preV hP hK hD hN (va_recv hK hP (ci := 2) (q0 := 2) rfl rfl)) rfl rfl hl.1 rfl (lv_room (Nat.le_of_ble_eq_true rfl)) fx_Dk_ask_33 ⟨Nat.le_of_ble_eq_true rfl, Nat.le_of_ble_eq_true rfl⟩) hD hS hA (fun H locs hP hD hS => ?_)
    refine fd_ifeq (tgt := 43) hx hb fx_Dk_ask_36 (by decide) (fun c12 => ?_) (fun c12 => ?_)
    · refine lv_iconst (v := 0) hx hb fx_Dk_ask_43 (by decide) ?_
      exact hJ3 H locs hP hD hS false (by rw [if_pos c10, if_neg c12])
    · refine lv_iconst (v := 1) hx hb fx_Dk_ask_39 (by decide) ?_
      refine lv_goto (tgt := 44) hx hb fx_Dk_ask_40 (by decide) ?_
      exact hJ3 H locs hP hD hS true (by rw [if_pos c10, if_pos c12])
def fv_Dk_errorBeforeRequesting_j9 (σ : FDS) (j1 : Nat) (v9 : Int32) : Int32 × FDS := (v9, (fv_Dk_ask σ j1).2)
def fv_Dk_errorBeforeRequesting_j20 (σ : FDS) (j1 : Nat) (v20 : Int32) : Int32 × FDS := (v20, (fv_Dk_ask σ j1).2)
def fv_Dk_errorBeforeRequesting (σ : FDS) (j1 : Nat) : Int32 × FDS := if (fd_qB σ 8) = true then if (fd_qI σ 4) = 0 then (1, σ) else if (fv_Rq_mustPass σ) = true then if (fv_Dk_isPlain σ (fd_qI σ 2) (fd_qI σ 3)) = true then (0, σ) else if (fv_Mm_covers σ (fd_dT σ)) = true then (0, fd_sdI σ 8 ((fd_dI σ 8) + 1)) else fv_Dk_errorBeforeRequesting_j20 σ j1 (if ((fv_Dk_ask σ j1).1) = true then 0 else 2) else (0, σ) else if (fv_Rq_mustPass σ) = true then if (fv_Dk_isPlain σ (fd_qI σ 2) (fd_qI σ 3)) = true then (0, σ) else if (fv_Mm_covers σ (fd_dT σ)) = true then (0, fd_sdI σ 8 ((fd_dI σ 8) + 1)) else fv_Dk_errorBeforeRequesting_j9 σ j1 (if ((fv_Dk_ask σ j1).1) = true then 0 else 2) else (0, σ)
set_option maxHeartbeats 4000000 in
set_option maxRecDepth 100000 in
theorem fc_Dk_errorBeforeRequesting (l : Launch) (D : va_G) (cR cP : ClassId) (ad : Nat → Nat) (sz : Nat) (σ : FDS) (j1 : Nat) (hj1 : j1 < 48) (hI : fd_Inv σ)  : Met l fy_Dk_errorBeforeRequesting (fw_Dk_errorBeforeRequesting :: fb_tbl) ({ frames := 3, cells := 0, slots := 0, locals := 72 } : Room) (fd_Pc D cR cP ad [.ref (ad 0), .ref (ad (3 + j1))] σ sz) ((fun A => va_Qi (fun (r : Int32) (u : FDS) => fv_Dk_errorBeforeRequesting σ j1 = (r, u) ∧ fd_Inv u) (fd_B D cR cP ad A) A) (va_A (fd_w cR cP ad σ) sz)) 0 0 (va_A (fd_w cR cP ad σ) sz) := by
  refine fd_ofW (cc := fb_Dk_errorBeforeRequesting) (maxL := 2) (ret := (some .int)) (Qf := fun A => va_Qi (fun (r : Int32) (u : FDS) => fv_Dk_errorBeforeRequesting σ j1 = (r, u) ∧ fd_Inv u) (fd_B D cR cP ad A) A) (by decide) (Nat.le_of_ble_eq_true rfl) ?_
  intro p e s m args below meth c A Q hQ hx hb hr hts hown hlocks hml hP hK hD hS hA hN ls hl
  have hown : s.vm.findClass fn_R_Dk = some m.cls := hown
  have hl : lv_has ls 2 [(0, .ref (ad 0)), (1, .ref (ad (3 + j1)))] := hl
  suffices hgo : ∀ (H : Heap) (locs : List Loc), va_P D fn_cl (fd_w cR cP ad σ) H → va_D A (fd_w cR cP ad σ) → va_S A s.heap H locs → W p l e ({ frames := 3, cells := 0, slots := 0, locals := 72 } : Room) s m args below meth c H locs 0 0 Q (F0 m 0 ls []) from hgo _ _ hP hD hS
  clear hP hD hS
  intro H locs hP hD hS
  refine lv_aload_n hx hb fx_Dk_errorBeforeRequesting_0 rfl (lv_at hl 0 rfl) ?_
  refine va_get (D := D) (ci := 4) (v := .ref (ad 2)) (C := fn_R_Dk) (T := fn_T_Dk) (N := 9) hx hb hts fn_j_Dk hown hK hP 0 rfl rfl 2 (by decide) (hts _ (List.mem_cons_of_mem _ fq_206)) (fun _ h9 => h9) rfl fx_Dk_errorBeforeRequesting_1 ?_
  refine va_getN (D := D) (ci := 2) (v := .int (fd_bi (fd_qB σ 8))) (C := fn_R_Rq) (T := fn_T_Rq) (N := 15) hx hb hts fn_j_Rq hown hK hP 2 rfl rfl 8 (by decide) (va_Nw.use rfl (hN _ fq_158)) (fun _ h9 => h9) rfl fx_Dk_errorBeforeRequesting_4 ?_
  refine fd_ifeq (tgt := 22) hx hb fx_Dk_errorBeforeRequesting_7 (by decide) (fun c1 => ?_) (fun c1 => ?_)
  · refine lv_aload_n hx hb fx_Dk_errorBeforeRequesting_22 rfl (lv_at hl 0 rfl) ?_
    refine va_get (D := D) (ci := 4) (v := .ref (ad 2)) (C := fn_R_Dk) (T := fn_T_Dk) (N := 9) hx hb hts fn_j_Dk hown hK hP 0 rfl rfl 2 (by decide) (hts _ (List.mem_cons_of_mem _ fq_206)) (fun _ h9 => h9) rfl fx_Dk_errorBeforeRequesting_23 ?_
    refine fd_callz (va_runVN (As := []) (rest := []) ⟨hx, hb, hml, hown, hts⟩ (fc_Rq_mustPass l D cR cP ad H.size σ  hI ) ⟨va_cnB 0 hts (fb_good fm_Rq_mustPass) rfl rfl rfl (hN _ fq_389) (hts _ (List.mem_cons_of_mem _ fq_5)) (by decide +kernel) ⟨Nat.le_of_ble_eq_true rfl, Nat.le_of_ble_eq_true rfl⟩, (hts _ (List.mem_cons_of_mem _ fq_391)), (hts _ (List.mem_cons_of_mem _ fp_Rq_mustPass))⟩ (fd_preV hP hK hD hN (va_recv hK hP (ci := 2) (q0 := 2) rfl rfl)) rfl rfl hl.1 rfl (lv_room (Nat.le_of_ble_eq_true rfl)) fx_Dk_errorBeforeRequesting_26 ⟨Nat.le_of_ble_eq_true rfl, Nat.le_of_ble_eq_true rfl⟩) hD hS hA (fun H locs hP hD hS => ?_)
    refine fd_ifeq (tgt := 52) hx hb fx_Dk_errorBeforeRequesting_29 (by decide) (fun c3 => ?_) (fun c3 => ?_)
    · refine lv_iconst (v := 0) hx hb fx_Dk_errorBeforeRequesting_52 (by decide) ?_
      exact fd_iret (r := 0) (u := σ) hQ hx hb hr ⟨by rw [fv_Dk_errorBeforeRequesting, if_neg c1, if_neg c3], hI⟩ hP hD hS fx_Dk_errorBeforeRequesting_53 hlocks
    · refine lv_aload_n hx hb fx_Dk_errorBeforeRequesting_32 rfl (lv_at hl 0 rfl) ?_
      refine va_get (D := D) (ci := 4) (v := .ref (ad 2)) (C := fn_R_Dk) (T := fn_T_Dk) (N := 9) hx hb hts fn_j_Dk hown hK hP 0 rfl rfl 2 (by decide) (hts _ (List.mem_cons_of_mem _ fq_206)) (fun _ h9 => h9) rfl fx_Dk_errorBeforeRequesting_33 ?_
      refine va_getN (D := D) (ci := 2) (v := .int (fd_qI σ 2)) (C := fn_R_Rq) (T := fn_T_Rq) (N := 15) hx hb hts fn_j_Rq hown hK hP 2 rfl rfl 2 (by decide) (va_Nw.use rfl (hN _ fq_148)) (fun _ h9 => h9) rfl fx_Dk_errorBeforeRequesting_36 ?_
      refine lv_aload_n hx hb fx_Dk_errorBeforeRequesting_39 rfl (lv_at hl 0 rfl) ?_
      refine va_get (D := D) (ci := 4) (v := .ref (ad 2)) (C := fn_R_Dk) (T := fn_T_Dk) (N := 9) hx hb hts fn_j_Dk hown hK hP 0 rfl rfl 2 (by decide) (hts _ (List.mem_cons_of_mem _ fq_206)) (fun _ h9 => h9) rfl fx_Dk_errorBeforeRequesting_40 ?_
      refine va_getN (D := D) (ci := 2) (v := .int (fd_qI σ 3)) (C := fn_R_Rq) (T := fn_T_Rq) (N := 15) hx hb hts fn_j_Rq hown hK hP 2 rfl rfl 3 (by decide) (va_Nw.use rfl (hN _ fq_150)) (fun _ h9 => h9) rfl fx_Dk_errorBeforeRequesting_43 ?_
      refine fd_callz (va_runS (As := [.int (fd_qI σ 2), .int (fd_qI σ 3)]) (rest := []) ⟨hx, hb, hml, hown, hts⟩ (fc_Dk_isPlain l D cR cP ad H.size σ (fd_qI σ 2) (fd_qI σ 3) hI ) ⟨callB_of 2 hts (fb_good fm_Dk_isPlain) rfl rfl rfl (hts _ (List.mem_cons_of_mem _ fq_1)) (hts _ (List.mem_cons_of_mem _ fq_356)) (by decide +kernel) ⟨Nat.le_of_ble_eq_true rfl, Nat.le_of_ble_eq_true rfl⟩, (hts _ (List.mem_cons_of_mem _ fq_357))⟩ (fd_preS hP hK hD hN) rfl rfl hl.1 rfl (lv_room (Nat.le_of_ble_eq_true rfl)) fx_Dk_errorBeforeRequesting_46 ⟨Nat.le_of_ble_eq_true rfl, Nat.le_of_ble_eq_true rfl⟩) hD hS hA (fun H locs hP hD hS => ?_)
      refine fd_ifeq (tgt := 54) hx hb fx_Dk_errorBeforeRequesting_49 (by decide) (fun c5 => ?_) (fun c5 => ?_)
      · refine lv_aload_n hx hb fx_Dk_errorBeforeRequesting_54 rfl (lv_at hl 0 rfl) ?_
        refine va_get (D := D) (ci := 4) (v := .ref (ad 1)) (C := fn_R_Dk) (T := fn_T_Dk) (N := 9) hx hb hts fn_j_Dk hown hK hP 0 rfl rfl 1 (by decide) (hts _ (List.mem_cons_of_mem _ fq_205)) (fun _ h9 => h9) rfl fx_Dk_errorBeforeRequesting_55 ?_
        refine lv_aload_n hx hb fx_Dk_errorBeforeRequesting_58 rfl (lv_at hl 0 rfl) ?_
        refine va_get (D := D) (ci := 4) (v := .ref (ad 2)) (C := fn_R_Dk) (T := fn_T_Dk) (N := 9) hx hb hts fn_j_Dk hown hK hP 0 rfl rfl 2 (by decide) (hts _ (List.mem_cons_of_mem _ fq_206)) (fun _ h9 => h9) rfl fx_Dk_errorBeforeRequesting_59 ?_
        refine lv_aload_n hx hb fx_Dk_errorBeforeRequesting_62 rfl (lv_at hl 0 rfl) ?_
        refine va_get (D := D) (ci := 4) (v := .double (fd_dT σ)) (C := fn_R_Dk) (T := fn_T_Dk) (N := 9) hx hb hts fn_j_Dk hown hK hP 0 rfl rfl 3 (by decide) (hts _ (List.mem_cons_of_mem _ fq_207)) (fun _ h9 => h9) rfl fx_Dk_errorBeforeRequesting_63 ?_
        refine fd_callz (va_runVN (As := [.ref (ad 2), .double (fd_dT σ)]) (rest := []) ⟨hx, hb, hml, hown, hts⟩ (fc_Mm_covers l D cR cP ad H.size σ (fd_dT σ) hI ) ⟨va_cnB 2 hts (fb_good fm_Mm_covers) rfl rfl rfl (hN _ fq_393) (hts _ (List.mem_cons_of_mem _ fq_3)) (by decide +kernel) ⟨Nat.le_of_ble_eq_true rfl, Nat.le_of_ble_eq_true rfl⟩, (hts _ (List.mem_cons_of_mem _ fq_395)), (hts _ (List.mem_cons_of_mem _ fp_Mm_covers))⟩ (fd_preV hP hK hD hN (va_recv hK hP (ci := 0) (q0 := 1) rfl rfl)) rfl rfl hl.1 rfl (lv_room (Nat.le_of_ble_eq_true rfl)) fx_Dk_errorBeforeRequesting_66 ⟨Nat.le_of_ble_eq_true rfl, Nat.le_of_ble_eq_true rfl⟩) hD hS hA (fun H locs hP hD hS => ?_)
        refine fd_ifeq (tgt := 84) hx hb fx_Dk_errorBeforeRequesting_69 (by decide) (fun c7 => ?_) (fun c7 => ?_)
        · refine lv_aload_n hx hb fx_Dk_errorBeforeRequesting_84 rfl (lv_at hl 0 rfl) ?_
          refine lv_aload_n hx hb fx_Dk_errorBeforeRequesting_85 rfl (lv_at hl 1 rfl) ?_
          refine fd_callzm (va_runV (As := [.ref (ad (3 + j1))]) (rest := []) ⟨hx, hb, hml, hown, hts⟩ (fc_Dk_ask l D cR cP ad H.size σ j1 hj1 hI ) ⟨callB_of 1 hts (fb_good fm_Dk_ask) rfl rfl rfl (hts _ (List.mem_cons_of_mem _ fq_1)) (hts _ (List.mem_cons_of_mem _ fq_404)) (by decide +kernel) ⟨Nat.le_of_ble_eq_true rfl, Nat.le_of_ble_eq_true rfl⟩, (hts _ (List.mem_cons_of_mem _ fq_406)), (hts _ (List.mem_cons_of_mem _ fp_Dk_ask))⟩ (fd_preV hP hK hD hN (va_recv hK hP (ci := 4) (q0 := 0) rfl rfl)) rfl rfl hl.1 rfl (lv_room (Nat.le_of_ble_eq_true rfl)) fx_Dk_errorBeforeRequesting_86 ⟨Nat.le_of_ble_eq_true rfl, Nat.le_of_ble_eq_true rfl⟩) hD hS hA (fun H locs hP hD hS hI8 => ?_)
          have hJ9 : ∀ (H : Heap) (locs : List Loc), va_P D fn_cl (fd_w cR cP ad ((fv_Dk_ask σ j1).2)) H → va_D A (fd_w cR cP ad ((fv_Dk_ask σ j1).2)) → va_S A s.heap H locs → ∀ (v9 : Int32), v9 = (if ((fv_Dk_ask σ j1).1) = true then 0 else 2) → W p l e ({ frames := 3, cells := 0, slots := 0, locals := 72 } : Room) s m args below meth c H locs 0 0 Q (F0 m 97 ls [.int v9]) := by
            intro H locs hP hD hS v9 hv9
            exact fd_iret (r := v9) (u := (fv_Dk_ask σ j1).2) hQ hx hb hr ⟨by rw [fv_Dk_errorBeforeRequesting, if_neg c1, if_pos c3, if_neg c5, if_neg c7, ← hv9, fv_Dk_errorBeforeRequesting_j9], hI8⟩ hP hD hS fx_Dk_errorBeforeRequesting_97 hlocks
          refine fd_ifeq (tgt := 96) hx hb fx_Dk_errorBeforeRequesting_89 (by decide) (fun c10 => ?_) (fun c10 => ?_)
          · refine lv_iconst (v := 2) hx hb fx_Dk_errorBeforeRequesting_96 (by decide) ?_
            exact hJ9 H locs hP hD hS 2 (by rw [if_neg c10])
          · refine lv_iconst (v := 0) hx hb fx_Dk_errorBeforeRequesting_92 (by decide) ?_
            refine lv_goto (tgt := 97) hx hb fx_Dk_errorBeforeRequesting_93 (by decide) ?_
            exact hJ9 H locs hP hD hS 0 (by rw [if_pos c10])
        · refine lv_aload_n hx hb fx_Dk_errorBeforeRequesting_72 rfl (lv_at hl 0 rfl) ?_
          refine lv_dup hx hb fx_Dk_errorBeforeRequesting_73 rfl ?_
          refine va_get (D := D) (ci := 4) (v := .int (fd_dI σ 8)) (C := fn_R_Dk) (T := fn_T_Dk) (N := 9) hx hb hts fn_j_Dk hown hK hP 0 rfl rfl 8 (by decide) (hts _ (List.mem_cons_of_mem _ fq_212)) (fun _ h9 => h9) rfl fx_Dk_errorBeforeRequesting_74 ?_
          refine lv_iconst (v := 1) hx hb fx_Dk_errorBeforeRequesting_77 (by decide) ?_
          refine lv_iadd hx hb fx_Dk_errorBeforeRequesting_78 ?_
          refine va_put (D := D) (ci := 4) (v := .int ((fd_dI σ 8) + 1)) (ty := .int) (C := fn_R_Dk) (T := fn_T_Dk) (N := 9) hx hb hts fn_j_Dk fn_t_Dk fn_k_Dk fn_n_Dk hown hK hP hD hS 0 rfl rfl 8 (by decide) (hts _ (List.mem_cons_of_mem _ fq_212)) (fun _ h9 => h9) rfl (by decide +kernel) rfl rfl (Nat.le_of_ble_eq_true rfl) fx_Dk_errorBeforeRequesting_79 (fun H locs hP hD hS => ?_)
          rw [fd_set_Dk_8] at hP hD
          have hI11 : fd_Inv (fd_sdI σ 8 ((fd_dI σ 8) + 1)) := fd_inv_sdI hI
          refine lv_iconst (v := 0) hx hb fx_Dk_errorBeforeRequesting_82 (by decide) ?_
          exact fd_iret (r := 0) (u := fd_sdI σ 8 ((fd_dI σ 8) + 1)) hQ hx hb hr ⟨by rw [fv_Dk_errorBeforeRequesting, if_neg c1, if_pos c3, if_neg c5, if_pos c7], hI11⟩ hP hD hS fx_Dk_errorBeforeRequesting_83 hlocks
      · refine lv_iconst (v := 0) hx hb fx_Dk_errorBeforeRequesting_52 (by decide) ?_
        exact fd_iret (r := 0) (u := σ) hQ hx hb hr ⟨by rw [fv_Dk_errorBeforeRequesting, if_neg c1, if_pos c3, if_pos c5], hI⟩ hP hD hS fx_Dk_errorBeforeRequesting_53 hlocks
  · refine lv_aload_n hx hb fx_Dk_errorBeforeRequesting_10 rfl (lv_at hl 0 rfl) ?_
    refine va_get (D := D) (ci := 4) (v := .ref (ad 2)) (C := fn_R_Dk) (T := fn_T_Dk) (N := 9) hx hb hts fn_j_Dk hown hK hP 0 rfl rfl 2 (by decide) (hts _ (List.mem_cons_of_mem _ fq_206)) (fun _ h9 => h9) rfl fx_Dk_errorBeforeRequesting_11 ?_
    refine va_getN (D := D) (ci := 2) (v := .int (fd_qI σ 4)) (C := fn_R_Rq) (T := fn_T_Rq) (N := 15) hx hb hts fn_j_Rq hown hK hP 2 rfl rfl 4 (by decide) (va_Nw.use rfl (hN _ fq_152)) (fun _ h9 => h9) rfl fx_Dk_errorBeforeRequesting_14 ?_
    refine lv_if_ne (tgt := 22) hx hb fx_Dk_errorBeforeRequesting_17 (by decide) (fun c12 => ?_) (fun c12 => ?_)
    · refine lv_aload_n hx hb fx_Dk_errorBeforeRequesting_22 rfl (lv_at hl 0 rfl) ?_
      refine va_get (D := D) (ci := 4) (v := .ref (ad 2)) (C := fn_R_Dk) (T := fn_T_Dk) (N := 9) hx hb hts fn_j_Dk hown hK hP 0 rfl rfl 2 (by decide) (hts _ (List.mem_cons_of_mem _ fq_206)) (fun _ h9 => h9) rfl fx_Dk_errorBeforeRequesting_23 ?_
      refine fd_callz (va_runVN (As := []) (rest := []) ⟨hx, hb, hml, hown, hts⟩ (fc_Rq_mustPass l D cR cP ad H.size σ  hI ) ⟨va_cnB 0 hts (fb_good fm_Rq_mustPass) rfl rfl rfl (hN _ fq_389) (hts _ (List.mem_cons_of_mem _ fq_5)) (by decide +kernel) ⟨Nat.le_of_ble_eq_true rfl, Nat.le_of_ble_eq_true rfl⟩, (hts _ (List.mem_cons_of_mem _ fq_391)), (hts _ (List.mem_cons_of_mem _ fp_Rq_mustPass))⟩ (fd_preV hP hK hD hN (va_recv hK hP (ci := 2) (q0 := 2) rfl rfl)) rfl rfl hl.1 rfl (lv_room (Nat.le_of_ble_eq_true rfl)) fx_Dk_errorBeforeRequesting_26 ⟨Nat.le_of_ble_eq_true rfl, Nat.le_of_ble_eq_true rfl⟩) hD hS hA (fun H locs hP hD hS => ?_)
      refine fd_ifeq (tgt := 52) hx hb fx_Dk_errorBeforeRequesting_29 (by decide) (fun c14 => ?_) (fun c14 => ?_)
      · refine lv_iconst (v := 0) hx hb fx_Dk_errorBeforeRequesting_52 (by decide) ?_
        exact fd_iret (r := 0) (u := σ) hQ hx hb hr ⟨by rw [fv_Dk_errorBeforeRequesting, if_pos c1, if_neg c12, if_neg c14], hI⟩ hP hD hS fx_Dk_errorBeforeRequesting_53 hlocks
      · refine lv_aload_n hx hb fx_Dk_errorBeforeRequesting_32 rfl (lv_at hl 0 rfl) ?_
        refine va_get (D := D) (ci := 4) (v := .ref (ad 2)) (C := fn_R_Dk) (T := fn_T_Dk) (N := 9) hx hb hts fn_j_Dk hown hK hP 0 rfl rfl 2 (by decide) (hts _ (List.mem_cons_of_mem _ fq_206)) (fun _ h9 => h9) rfl fx_Dk_errorBeforeRequesting_33 ?_
        refine va_getN (D := D) (ci := 2) (v := .int (fd_qI σ 2)) (C := fn_R_Rq) (T := fn_T_Rq) (N := 15) hx hb hts fn_j_Rq hown hK hP 2 rfl rfl 2 (by decide) (va_Nw.use rfl (hN _ fq_148)) (fun _ h9 => h9) rfl fx_Dk_errorBeforeRequesting_36 ?_
        refine lv_aload_n hx hb fx_Dk_errorBeforeRequesting_39 rfl (lv_at hl 0 rfl) ?_
        refine va_get (D := D) (ci := 4) (v := .ref (ad 2)) (C := fn_R_Dk) (T := fn_T_Dk) (N := 9) hx hb hts fn_j_Dk hown hK hP 0 rfl rfl 2 (by decide) (hts _ (List.mem_cons_of_mem _ fq_206)) (fun _ h9 => h9) rfl fx_Dk_errorBeforeRequesting_40 ?_
        refine va_getN (D := D) (ci := 2) (v := .int (fd_qI σ 3)) (C := fn_R_Rq) (T := fn_T_Rq) (N := 15) hx hb hts fn_j_Rq hown hK hP 2 rfl rfl 3 (by decide) (va_Nw.use rfl (hN _ fq_150)) (fun _ h9 => h9) rfl fx_Dk_errorBeforeRequesting_43 ?_
        refine fd_callz (va_runS (As := [.int (fd_qI σ 2), .int (fd_qI σ 3)]) (rest := []) ⟨hx, hb, hml, hown, hts⟩ (fc_Dk_isPlain l D cR cP ad H.size σ (fd_qI σ 2) (fd_qI σ 3) hI ) ⟨callB_of 2 hts (fb_good fm_Dk_isPlain) rfl rfl rfl (hts _ (List.mem_cons_of_mem _ fq_1)) (hts _ (List.mem_cons_of_mem _ fq_356)) (by decide +kernel) ⟨Nat.le_of_ble_eq_true rfl, Nat.le_of_ble_eq_true rfl⟩, (hts _ (List.mem_cons_of_mem _ fq_357))⟩ (fd_preS hP hK hD hN) rfl rfl hl.1 rfl (lv_room (Nat.le_of_ble_eq_true rfl)) fx_Dk_errorBeforeRequesting_46 ⟨Nat.le_of_ble_eq_true rfl, Nat.le_of_ble_eq_true rfl⟩) hD hS hA (fun H locs hP hD hS => ?_)
        refine fd_ifeq (tgt := 54) hx hb fx_Dk_errorBeforeRequesting_49 (by decide) (fun c16 => ?_) (fun c16 => ?_)
        · refine lv_aload_n hx hb fx_Dk_errorBeforeRequesting_54 rfl (lv_at hl 0 rfl) ?_
          refine va_get (D := D) (ci := 4) (v := .ref (ad 1)) (C := fn_R_Dk) (T := fn_T_Dk) (N := 9) hx hb hts fn_j_Dk hown hK hP 0 rfl rfl 1 (by decide) (hts _ (List.mem_cons_of_mem _ fq_205)) (fun _ h9 => h9) rfl fx_Dk_errorBeforeRequesting_55 ?_
          refine lv_aload_n hx hb fx_Dk_errorBeforeRequesting_58 rfl (lv_at hl 0 rfl) ?_
          refine va_get (D := D) (ci := 4) (v := .ref (ad 2)) (C := fn_R_Dk) (T := fn_T_Dk) (N := 9) hx hb hts fn_j_Dk hown hK hP 0 rfl rfl 2 (by decide) (hts _ (List.mem_cons_of_mem _ fq_206)) (fun _ h9 => h9) rfl fx_Dk_errorBeforeRequesting_59 ?_
          refine lv_aload_n hx hb fx_Dk_errorBeforeRequesting_62 rfl (lv_at hl 0 rfl) ?_
          refine va_get (D := D) (ci := 4) (v := .double (fd_dT σ)) (C := fn_R_Dk) (T := fn_T_Dk) (N := 9) hx hb hts fn_j_Dk hown hK hP 0 rfl rfl 3 (by decide) (hts _ (List.mem_cons_of_mem _ fq_207)) (fun _ h9 => h9) rfl fx_Dk_errorBeforeRequesting_63 ?_
          refine fd_callz (va_runVN (As := [.ref (ad 2), .double (fd_dT σ)]) (rest := []) ⟨hx, hb, hml, hown, hts⟩ (fc_Mm_covers l D cR cP ad H.size σ (fd_dT σ) hI ) ⟨va_cnB 2 hts (fb_good fm_Mm_covers) rfl rfl rfl (hN _ fq_393) (hts _ (List.mem_cons_of_mem _ fq_3)) (by decide +kernel) ⟨Nat.le_of_ble_eq_true rfl, Nat.le_of_ble_eq_true rfl⟩, (hts _ (List.mem_cons_of_mem _ fq_395)), (hts _ (List.mem_cons_of_mem _ fp_Mm_covers))⟩ (fd_preV hP hK hD hN (va_recv hK hP (ci := 0) (q0 := 1) rfl rfl)) rfl rfl hl.1 rfl (lv_room (Nat.le_of_ble_eq_true rfl)) fx_Dk_errorBeforeRequesting_66 ⟨Nat.le_of_ble_eq_true rfl, Nat.le_of_ble_eq_true rfl⟩) hD hS hA (fun H locs hP hD hS => ?_)
          refine fd_ifeq (tgt := 84) hx hb fx_Dk_errorBeforeRequesting_69 (by decide) (fun c18 => ?_) (fun c18 => ?_)
          · refine lv_aload_n hx hb fx_Dk_errorBeforeRequesting_84 rfl (lv_at hl 0 rfl) ?_
            refine lv_aload_n hx hb fx_Dk_errorBeforeRequesting_85 rfl (lv_at hl 1 rfl) ?_
            refine fd_callzm (va_runV (As := [.ref (ad (3 + j1))]) (rest := []) ⟨hx, hb, hml, hown, hts⟩ (fc_Dk_ask l D cR cP ad H.size σ j1 hj1 hI ) ⟨callB_of 1 hts (fb_good fm_Dk_ask) rfl rfl rfl (hts _ (List.mem_cons_of_mem _ fq_1)) (hts _ (List.mem_cons_of_mem _ fq_404)) (by decide +kernel) ⟨Nat.le_of_ble_eq_true rfl, Nat.le_of_ble_eq_true rfl⟩, (hts _ (List.mem_cons_of_mem _ fq_406)), (hts _ (List.mem_cons_of_mem _ fp_Dk_ask))⟩ (fd_preV hP hK hD hN (va_recv hK hP (ci := 4) (q0 := 0) rfl rfl)) rfl rfl hl.1 rfl (lv_room (Nat.le_of_ble_eq_true rfl)) fx_Dk_errorBeforeRequesting_86 ⟨Nat.le_of_ble_eq_true rfl, Nat.le_of_ble_eq_true rfl⟩) hD hS hA (fun H locs hP hD hS hI19 => ?_)
            have hJ20 : ∀ (H : Heap) (locs : List Loc), va_P D fn_cl (fd_w cR cP ad ((fv_Dk_ask σ j1).2)) H → va_D A (fd_w cR cP ad ((fv_Dk_ask σ j1).2)) → va_S A s.heap H locs → ∀ (v20 : Int32), v20 = (if ((fv_Dk_ask σ j1).1) = true then 0 else 2) → W p l e ({ frames := 3, cells := 0, slots := 0, locals := 72 } : Room) s m args below meth c H locs 0 0 Q (F0 m 97 ls [.int v20]) := by
              intro H locs hP hD hS v20 hv20
              exact fd_iret (r := v20) (u := (fv_Dk_ask σ j1).2) hQ hx hb hr ⟨by rw [fv_Dk_errorBeforeRequesting, if_pos c1, if_neg c12, if_pos c14, if_neg c16, if_neg c18, ← hv20, fv_Dk_errorBeforeRequesting_j20], hI19⟩ hP hD hS fx_Dk_errorBeforeRequesting_97 hlocks
            refine fd_ifeq (tgt := 96) hx hb fx_Dk_errorBeforeRequesting_89 (by decide) (fun c21 => ?_) (fun c21 => ?_)
            · refine lv_iconst (v := 2) hx hb fx_Dk_errorBeforeRequesting_96 (by decide) ?_
              exact hJ20 H locs hP hD hS 2 (by rw [if_neg c21])
            · refine lv_iconst (v := 0) hx hb fx_Dk_errorBeforeRequesting_92 (by decide) ?_
              refine lv_goto (tgt := 97) hx hb fx_Dk_errorBeforeRequesting_93 (by decide) ?_
              exact hJ20 H locs hP hD hS 0 (by rw [if_pos c21])
          · refine lv_aload_n hx hb fx_Dk_errorBeforeRequesting_72 rfl (lv_at hl 0 rfl) ?_
            refine lv_dup hx hb fx_Dk_errorBeforeRequesting_73 rfl ?_
            refine va_get (D := D) (ci := 4) (v := .int (fd_dI σ 8)) (C := fn_R_Dk) (T := fn_T_Dk) (N := 9) hx hb hts fn_j_Dk hown hK hP 0 rfl rfl 8 (by decide) (hts _ (List.mem_cons_of_mem _ fq_212)) (fun _ h9 => h9) rfl fx_Dk_errorBeforeRequesting_74 ?_
            refine lv_iconst (v := 1) hx hb fx_Dk_errorBeforeRequesting_77 (by decide) ?_
            refine lv_iadd hx hb fx_Dk_errorBeforeRequesting_78 ?_
            refine va_put (D := D) (ci := 4) (v := .int ((fd_dI σ 8) + 1)) (ty := .int) (C := fn_R_Dk) (T := fn_T_Dk) (N := 9) hx hb hts fn_j_Dk fn_t_Dk fn_k_Dk fn_n_Dk hown hK hP hD hS 0 rfl rfl 8 (by decide) (hts _ (List.mem_cons_of_mem _ fq_212)) (fun _ h9 => h9) rfl (by decide +kernel) rfl rfl (Nat.le_of_ble_eq_true rfl) fx_Dk_errorBeforeRequesting_79 (fun H locs hP hD hS => ?_)
            rw [fd_set_Dk_8] at hP hD
            have hI22 : fd_Inv (fd_sdI σ 8 ((fd_dI σ 8) + 1)) := fd_inv_sdI hI
            refine lv_iconst (v := 0) hx hb fx_Dk_errorBeforeRequesting_82 (by decide) ?_
            exact fd_iret (r := 0) (u := fd_sdI σ 8 ((fd_dI σ 8) + 1)) hQ hx hb hr ⟨by rw [fv_Dk_errorBeforeRequesting, if_pos c1, if_neg c12, if_pos c14, if_neg c16, if_pos c18], hI22⟩ hP hD hS fx_Dk_errorBeforeRequesting_83 hlocks
        · refine lv_iconst (v := 0) hx hb fx_Dk_errorBeforeRequesting_52 (by decide) ?_
          exact fd_iret (r := 0) (u := σ) hQ hx hb hr ⟨by rw [fv_Dk_errorBeforeRequesting, if_pos c1, if_neg c12, if_pos c14, if_pos c16], hI⟩ hP hD hS fx_Dk_errorBeforeRequesting_53 hlocks
    · refine lv_iconst (v := 1) hx hb fx_Dk_errorBeforeRequesting_20 (by decide) ?_
      exact fd_iret (r := 1) (u := σ) hQ hx hb hr ⟨by rw [fv_Dk_errorBeforeRequesting, if_pos c1, if_pos c12], hI⟩ hP hD hS fx_Dk_errorBeforeRequesting_21 hlocks
def fv_Dk_goOneRound (σ : FDS) (p1 : Int32) : Bool × FDS := if ((fv_Dk_errorBeforeRequesting (fv_Rq_enterRound σ) ((fd_qI (fv_Rq_enterRound σ) 1).toNatClampNeg)).1) = 0 then if (fv_Rq_mustPass (fv_Dk_countRequested (fd_sqI ((fv_Dk_errorBeforeRequesting (fv_Rq_enterRound σ) ((fd_qI (fv_Rq_enterRound σ) 1).toNatClampNeg)).2) 10 ((fv_Dk_errorBeforeRequesting (fv_Rq_enterRound σ) ((fd_qI (fv_Rq_enterRound σ) 1).toNatClampNeg)).1)) ((fd_qI (fv_Rq_enterRound σ) 1).toNatClampNeg))) = true then if (fv_Rq_passes (fv_Dk_countRequested (fd_sqI ((fv_Dk_errorBeforeRequesting (fv_Rq_enterRound σ) ((fd_qI (fv_Rq_enterRound σ) 1).toNatClampNeg)).2) 10 ((fv_Dk_errorBeforeRequesting (fv_Rq_enterRound σ) ((fd_qI (fv_Rq_enterRound σ) 1).toNatClampNeg)).1)) ((fd_qI (fv_Rq_enterRound σ) 1).toNatClampNeg)) ((fd_qI (fv_Rq_enterRound σ) 1).toNatClampNeg)) = true then if (fv_Rs_isRedirect (fv_Dk_countRequested (fd_sqI ((fv_Dk_errorBeforeRequesting (fv_Rq_enterRound σ) ((fd_qI (fv_Rq_enterRound σ) 1).toNatClampNeg)).2) 10 ((fv_Dk_errorBeforeRequesting (fv_Rq_enterRound σ) ((fd_qI (fv_Rq_enterRound σ) 1).toNatClampNeg)).1)) ((fd_qI (fv_Rq_enterRound σ) 1).toNatClampNeg)) ((fd_qI (fv_Rq_enterRound σ) 1).toNatClampNeg)) = true then ((fv_Rq_meetRedirect (fv_Dk_countRequested (fd_sqI ((fv_Dk_errorBeforeRequesting (fv_Rq_enterRound σ) ((fd_qI (fv_Rq_enterRound σ) 1).toNatClampNeg)).2) 10 ((fv_Dk_errorBeforeRequesting (fv_Rq_enterRound σ) ((fd_qI (fv_Rq_enterRound σ) 1).toNatClampNeg)).1)) ((fd_qI (fv_Rq_enterRound σ) 1).toNatClampNeg)) ((fd_qI (fv_Rq_enterRound σ) 1).toNatClampNeg) p1).1, (fv_Rq_meetRedirect (fv_Dk_countRequested (fd_sqI ((fv_Dk_errorBeforeRequesting (fv_Rq_enterRound σ) ((fd_qI (fv_Rq_enterRound σ) 1).toNatClampNeg)).2) 10 ((fv_Dk_errorBeforeRequesting (fv_Rq_enterRound σ) ((fd_qI (fv_Rq_enterRound σ) 1).toNatClampNeg)).1)) ((fd_qI (fv_Rq_enterRound σ) 1).toNatClampNeg)) ((fd_qI (fv_Rq_enterRound σ) 1).toNatClampNeg) p1).2) else (false, (fv_Rq_takeResponse (fv_Dk_countRequested (fd_sqI ((fv_Dk_errorBeforeRequesting (fv_Rq_enterRound σ) ((fd_qI (fv_Rq_enterRound σ) 1).toNatClampNeg)).2) 10 ((fv_Dk_errorBeforeRequesting (fv_Rq_enterRound σ) ((fd_qI (fv_Rq_enterRound σ) 1).toNatClampNeg)).1)) ((fd_qI (fv_Rq_enterRound σ) 1).toNatClampNeg)) ((fd_qI (fv_Rq_enterRound σ) 1).toNatClampNeg))) else (false, fd_sqI (fv_Dk_countRequested (fd_sqI ((fv_Dk_errorBeforeRequesting (fv_Rq_enterRound σ) ((fd_qI (fv_Rq_enterRound σ) 1).toNatClampNeg)).2) 10 ((fv_Dk_errorBeforeRequesting (fv_Rq_enterRound σ) ((fd_qI (fv_Rq_enterRound σ) 1).toNatClampNeg)).1)) ((fd_qI (fv_Rq_enterRound σ) 1).toNatClampNeg)) 10 3) else if (fv_Rs_isRedirect (fv_Dk_countRequested (fd_sqI ((fv_Dk_errorBeforeRequesting (fv_Rq_enterRound σ) ((fd_qI (fv_Rq_enterRound σ) 1).toNatClampNeg)).2) 10 ((fv_Dk_errorBeforeRequesting (fv_Rq_enterRound σ) ((fd_qI (fv_Rq_enterRound σ) 1).toNatClampNeg)).1)) ((fd_qI (fv_Rq_enterRound σ) 1).toNatClampNeg)) ((fd_qI (fv_Rq_enterRound σ) 1).toNatClampNeg)) = true then ((fv_Rq_meetRedirect (fv_Dk_countRequested (fd_sqI ((fv_Dk_errorBeforeRequesting (fv_Rq_enterRound σ) ((fd_qI (fv_Rq_enterRound σ) 1).toNatClampNeg)).2) 10 ((fv_Dk_errorBeforeRequesting (fv_Rq_enterRound σ) ((fd_qI (fv_Rq_enterRound σ) 1).toNatClampNeg)).1)) ((fd_qI (fv_Rq_enterRound σ) 1).toNatClampNeg)) ((fd_qI (fv_Rq_enterRound σ) 1).toNatClampNeg) p1).1, (fv_Rq_meetRedirect (fv_Dk_countRequested (fd_sqI ((fv_Dk_errorBeforeRequesting (fv_Rq_enterRound σ) ((fd_qI (fv_Rq_enterRound σ) 1).toNatClampNeg)).2) 10 ((fv_Dk_errorBeforeRequesting (fv_Rq_enterRound σ) ((fd_qI (fv_Rq_enterRound σ) 1).toNatClampNeg)).1)) ((fd_qI (fv_Rq_enterRound σ) 1).toNatClampNeg)) ((fd_qI (fv_Rq_enterRound σ) 1).toNatClampNeg) p1).2) else (false, (fv_Rq_takeResponse (fv_Dk_countRequested (fd_sqI ((fv_Dk_errorBeforeRequesting (fv_Rq_enterRound σ) ((fd_qI (fv_Rq_enterRound σ) 1).toNatClampNeg)).2) 10 ((fv_Dk_errorBeforeRequesting (fv_Rq_enterRound σ) ((fd_qI (fv_Rq_enterRound σ) 1).toNatClampNeg)).1)) ((fd_qI (fv_Rq_enterRound σ) 1).toNatClampNeg)) ((fd_qI (fv_Rq_enterRound σ) 1).toNatClampNeg))) else (false, fd_sqI ((fv_Dk_errorBeforeRequesting (fv_Rq_enterRound σ) ((fd_qI (fv_Rq_enterRound σ) 1).toNatClampNeg)).2) 10 ((fv_Dk_errorBeforeRequesting (fv_Rq_enterRound σ) ((fd_qI (fv_Rq_enterRound σ) 1).toNatClampNeg)).1))
set_option maxHeartbeats 4000000 in
set_option maxRecDepth 100000 in
theorem fc_Dk_goOneRound (l : Launch) (D : va_G) (cR cP : ClassId) (ad : Nat → Nat) (sz : Nat) (σ : FDS) (p1 : Int32) (hI : fd_Inv σ)  : Met l fy_Dk_goOneRound (fw_Dk_goOneRound :: fb_tbl) ({ frames := 4, cells := 0, slots := 0, locals := 93 } : Room) (fd_Pc D cR cP ad [.ref (ad 0), .int p1] σ sz) ((fun A => va_Qi (fun (r : Int32) (u : FDS) => (fd_bi (fv_Dk_goOneRound σ p1).1, (fv_Dk_goOneRound σ p1).2) = (r, u) ∧ fd_Inv u) (fd_B D cR cP ad A) A) (va_A (fd_w cR cP ad σ) sz)) 0 0 (va_A (fd_w cR cP ad σ) sz) := by
  refine fd_ofW (cc := fb_Dk_goOneRound) (maxL := 3) (ret := (some .boolean)) (Qf := fun A => va_Qi (fun (r : Int32) (u : FDS) => (fd_bi (fv_Dk_goOneRound σ p1).1, (fv_Dk_goOneRound σ p1).2) = (r, u) ∧ fd_Inv u) (fd_B D cR cP ad A) A) (by decide) (Nat.le_of_ble_eq_true rfl) ?_
  intro p e s m args below meth c A Q hQ hx hb hr hts hown hlocks hml hP hK hD hS hA hN ls hl
  have hown : s.vm.findClass fn_R_Dk = some m.cls := hown
  have hl : lv_has ls 3 [(0, .ref (ad 0)), (1, .int p1)] := hl
  suffices hgo : ∀ (H : Heap) (locs : List Loc), va_P D fn_cl (fd_w cR cP ad σ) H → va_D A (fd_w cR cP ad σ) → va_S A s.heap H locs → W p l e ({ frames := 4, cells := 0, slots := 0, locals := 93 } : Room) s m args below meth c H locs 0 0 Q (F0 m 0 ls []) from hgo _ _ hP hD hS
  clear hP hD hS
  intro H locs hP hD hS
  refine lv_aload_n hx hb fx_Dk_goOneRound_0 rfl (lv_at hl 0 rfl) ?_
  refine va_get (D := D) (ci := 4) (v := .ref (ad 2)) (C := fn_R_Dk) (T := fn_T_Dk) (N := 9) hx hb hts fn_j_Dk hown hK hP 0 rfl rfl 2 (by decide) (hts _ (List.mem_cons_of_mem _ fq_206)) (fun _ h9 => h9) rfl fx_Dk_goOneRound_1 ?_
  refine fd_callvm (va_runVN (As := []) (rest := []) ⟨hx, hb, hml, hown, hts⟩ (fc_Rq_enterRound l D cR cP ad H.size σ  hI ) ⟨va_cnB 0 hts (fb_good fm_Rq_enterRound) rfl rfl rfl (hN _ fq_378) (hts _ (List.mem_cons_of_mem _ fq_5)) (by decide +kernel) ⟨Nat.le_of_ble_eq_true rfl, Nat.le_of_ble_eq_true rfl⟩, (hts _ (List.mem_cons_of_mem _ fq_380)), (hts _ (List.mem_cons_of_mem _ fp_Rq_enterRound))⟩ (fd_preV hP hK hD hN (va_recv hK hP (ci := 2) (q0 := 2) rfl rfl)) rfl rfl hl.1 rfl (lv_room (Nat.le_of_ble_eq_true rfl)) fx_Dk_goOneRound_4 ⟨Nat.le_of_ble_eq_true rfl, Nat.le_of_ble_eq_true rfl⟩) hD hS hA (fun H locs hP hD hS hI1 => ?_)
  refine lv_aload_n hx hb fx_Dk_goOneRound_7 rfl (lv_at hl 0 rfl) ?_
  refine va_get (D := D) (ci := 4) (v := .ref (ad 57)) (C := fn_R_Dk) (T := fn_T_Dk) (N := 9) hx hb hts fn_j_Dk hown hK hP 0 rfl rfl 0 (by decide) (hts _ (List.mem_cons_of_mem _ fq_204)) (fun _ h9 => h9) rfl fx_Dk_goOneRound_8 ?_
  refine lv_aload_n hx hb fx_Dk_goOneRound_11 rfl (lv_at hl 0 rfl) ?_
  refine va_get (D := D) (ci := 4) (v := .ref (ad 2)) (C := fn_R_Dk) (T := fn_T_Dk) (N := 9) hx hb hts fn_j_Dk hown hK hP 0 rfl rfl 2 (by decide) (hts _ (List.mem_cons_of_mem _ fq_206)) (fun _ h9 => h9) rfl fx_Dk_goOneRound_12 ?_
  refine va_getN (D := D) (ci := 2) (v := .int (fd_qI (fv_Rq_enterRound σ) 1)) (C := fn_R_Rq) (T := fn_T_Rq) (N := 15) hx hb hts fn_j_Rq hown hK hP 2 rfl rfl 1 (by decide) (va_Nw.use rfl (hN _ fq_146)) (fun _ h9 => h9) rfl fx_Dk_goOneRound_15 ?_
  have hb2 : vp_in (fd_qI (fv_Rq_enterRound σ) 1) 48 := hI1.1
  refine va_aldq (D := D) hx hb hK hP 3 0 rfl rfl hb2 fx_Dk_goOneRound_18 ?_
  refine W.eq (g2 := F0 m 19 ls (.ref (ad (3 + ((fd_qI (fv_Rq_enterRound σ) 1).toNatClampNeg))) :: [])) rfl ?_
  refine lv_astore_n (lv' := [(2, .ref (ad (3 + ((fd_qI (fv_Rq_enterRound σ) 1).toNatClampNeg)))), (0, .ref (ad 0)), (1, .int p1)]) hx hb fx_Dk_goOneRound_19 rfl hl (by decide) rfl (fun ls hl => ?_)
  refine lv_aload_n hx hb fx_Dk_goOneRound_20 rfl (lv_at hl 1 rfl) ?_
  refine va_get (D := D) (ci := 4) (v := .ref (ad 2)) (C := fn_R_Dk) (T := fn_T_Dk) (N := 9) hx hb hts fn_j_Dk hown hK hP 0 rfl rfl 2 (by decide) (hts _ (List.mem_cons_of_mem _ fq_206)) (fun _ h9 => h9) rfl fx_Dk_goOneRound_21 ?_
  refine lv_aload_n hx hb fx_Dk_goOneRound_24 rfl (lv_at hl 1 rfl) ?_
  refine lv_aload_n hx hb fx_Dk_goOneRound_25 rfl (lv_at hl 0 rfl) ?_
  refine fd_callim (va_runV (As := [.ref (ad (3 + ((fd_qI (fv_Rq_enterRound σ) 1).toNatClampNeg)))]) (rest := [.ref (ad 2)]) ⟨hx, hb, hml, hown, hts⟩ (fc_Dk_errorBeforeRequesting l D cR cP ad H.size (fv_Rq_enterRound σ) ((fd_qI (fv_Rq_enterRound σ) 1).toNatClampNeg) (fd_lt hb2) hI1 ) ⟨callB_of 1 hts (fb_good fm_Dk_errorBeforeRequesting) rfl rfl rfl (hts _ (List.mem_cons_of_mem _ fq_1)) (hts _ (List.mem_cons_of_mem _ fq_385)) (by decide +kernel) ⟨Nat.le_of_ble_eq_true rfl, Nat.le_of_ble_eq_true rfl⟩, (hts _ (List.mem_cons_of_mem _ fq_387)), (hts _ (List.mem_cons_of_mem _ fp_Dk_errorBeforeRequesting))⟩ (fd_preV hP hK hD hN (va_recv hK hP (ci := 4) (q0 := 0) rfl rfl)) rfl rfl hl.1 rfl (lv_room (Nat.le_of_ble_eq_true rfl)) fx_Dk_goOneRound_26 ⟨Nat.le_of_ble_eq_true rfl, Nat.le_of_ble_eq_true rfl⟩) hD hS hA (fun H locs hP hD hS hI3 => ?_)
  refine va_putN (D := D) (ci := 2) (v := .int ((fv_Dk_errorBeforeRequesting (fv_Rq_enterRound σ) ((fd_qI (fv_Rq_enterRound σ) 1).toNatClampNeg)).1)) (ty := .int) (C := fn_R_Rq) (T := fn_T_Rq) (N := 15) hx hb hts fn_j_Rq fn_t_Rq fn_k_Rq fn_n_Rq hown hK hP hD hS 2 rfl rfl 10 (by decide) (va_Nw.use rfl (hN _ fq_164)) (fun _ h9 => h9) rfl (by decide +kernel) rfl rfl (Nat.le_of_ble_eq_true rfl) fx_Dk_goOneRound_29 (fun H locs hP hD hS => ?_)
  rw [fd_set_Rq_10] at hP hD
  have hI4 : fd_Inv (fd_sqI ((fv_Dk_errorBeforeRequesting (fv_Rq_enterRound σ) ((fd_qI (fv_Rq_enterRound σ) 1).toNatClampNeg)).2) 10 ((fv_Dk_errorBeforeRequesting (fv_Rq_enterRound σ) ((fd_qI (fv_Rq_enterRound σ) 1).toNatClampNeg)).1)) := fd_inv_sqI (by decide) hI3
  refine lv_aload_n hx hb fx_Dk_goOneRound_32 rfl (lv_at hl 1 rfl) ?_
  refine va_get (D := D) (ci := 4) (v := .ref (ad 2)) (C := fn_R_Dk) (T := fn_T_Dk) (N := 9) hx hb hts fn_j_Dk hown hK hP 0 rfl rfl 2 (by decide) (hts _ (List.mem_cons_of_mem _ fq_206)) (fun _ h9 => h9) rfl fx_Dk_goOneRound_33 ?_
  refine va_getN (D := D) (ci := 2) (v := .int ((fv_Dk_errorBeforeRequesting (fv_Rq_enterRound σ) ((fd_qI (fv_Rq_enterRound σ) 1).toNatClampNeg)).1)) (C := fn_R_Rq) (T := fn_T_Rq) (N := 15) hx hb hts fn_j_Rq hown hK hP 2 rfl rfl 10 (by decide) (va_Nw.use rfl (hN _ fq_164)) (fun _ h9 => h9) rfl fx_Dk_goOneRound_36 ?_
  refine lv_if_eq (tgt := 44) hx hb fx_Dk_goOneRound_39 (by decide) (fun c5 => ?_) (fun c5 => ?_)
  · refine lv_aload_n hx hb fx_Dk_goOneRound_44 rfl (lv_at hl 1 rfl) ?_
    refine lv_aload_n hx hb fx_Dk_goOneRound_45 rfl (lv_at hl 0 rfl) ?_
    refine fd_callvm (va_runV (As := [.ref (ad (3 + ((fd_qI (fv_Rq_enterRound σ) 1).toNatClampNeg)))]) (rest := []) ⟨hx, hb, hml, hown, hts⟩ (fc_Dk_countRequested l D cR cP ad H.size (fd_sqI ((fv_Dk_errorBeforeRequesting (fv_Rq_enterRound σ) ((fd_qI (fv_Rq_enterRound σ) 1).toNatClampNeg)).2) 10 ((fv_Dk_errorBeforeRequesting (fv_Rq_enterRound σ) ((fd_qI (fv_Rq_enterRound σ) 1).toNatClampNeg)).1)) ((fd_qI (fv_Rq_enterRound σ) 1).toNatClampNeg) (fd_lt hb2) hI4 ) ⟨callB_of 1 hts (fb_good fm_Dk_countRequested) rfl rfl rfl (hts _ (List.mem_cons_of_mem _ fq_1)) (hts _ (List.mem_cons_of_mem _ fq_434)) (by decide +kernel) ⟨Nat.le_of_ble_eq_true rfl, Nat.le_of_ble_eq_true rfl⟩, (hts _ (List.mem_cons_of_mem _ fq_436)), (hts _ (List.mem_cons_of_mem _ fp_Dk_countRequested))⟩ (fd_preV hP hK hD hN (va_recv hK hP (ci := 4) (q0 := 0) rfl rfl)) rfl rfl hl.1 rfl (lv_room (Nat.le_of_ble_eq_true rfl)) fx_Dk_goOneRound_46 ⟨Nat.le_of_ble_eq_true rfl, Nat.le_of_ble_eq_true rfl⟩) hD hS hA (fun H locs hP hD hS hI6 => ?_)
    refine lv_aload_n hx hb fx_Dk_goOneRound_49 rfl (lv_at hl 1 rfl) ?_
    refine va_get (D := D) (ci := 4) (v := .ref (ad 2)) (C := fn_R_Dk) (T := fn_T_Dk) (N := 9) hx hb hts fn_j_Dk hown hK hP 0 rfl rfl 2 (by decide) (hts _ (List.mem_cons_of_mem _ fq_206)) (fun _ h9 => h9) rfl fx_Dk_goOneRound_50 ?_
    refine fd_callz (va_runVN (As := []) (rest := []) ⟨hx, hb, hml, hown, hts⟩ (fc_Rq_mustPass l D cR cP ad H.size (fv_Dk_countRequested (fd_sqI ((fv_Dk_errorBeforeRequesting (fv_Rq_enterRound σ) ((fd_qI (fv_Rq_enterRound σ) 1).toNatClampNeg)).2) 10 ((fv_Dk_errorBeforeRequesting (fv_Rq_enterRound σ) ((fd_qI (fv_Rq_enterRound σ) 1).toNatClampNeg)).1)) ((fd_qI (fv_Rq_enterRound σ) 1).toNatClampNeg))  hI6 ) ⟨va_cnB 0 hts (fb_good fm_Rq_mustPass) rfl rfl rfl (hN _ fq_389) (hts _ (List.mem_cons_of_mem _ fq_5)) (by decide +kernel) ⟨Nat.le_of_ble_eq_true rfl, Nat.le_of_ble_eq_true rfl⟩, (hts _ (List.mem_cons_of_mem _ fq_391)), (hts _ (List.mem_cons_of_mem _ fp_Rq_mustPass))⟩ (fd_preV hP hK hD hN (va_recv hK hP (ci := 2) (q0 := 2) rfl rfl)) rfl rfl hl.1 rfl (lv_room (Nat.le_of_ble_eq_true rfl)) fx_Dk_goOneRound_53 ⟨Nat.le_of_ble_eq_true rfl, Nat.le_of_ble_eq_true rfl⟩) hD hS hA (fun H locs hP hD hS => ?_)
    refine fd_ifeq (tgt := 80) hx hb fx_Dk_goOneRound_56 (by decide) (fun c8 => ?_) (fun c8 => ?_)
    · refine lv_aload_n hx hb fx_Dk_goOneRound_80 rfl (lv_at hl 0 rfl) ?_
      refine fd_callz (va_runVN (As := []) (rest := []) ⟨hx, hb, hml, hown, hts⟩ (fc_Rs_isRedirect l D cR cP ad H.size (fv_Dk_countRequested (fd_sqI ((fv_Dk_errorBeforeRequesting (fv_Rq_enterRound σ) ((fd_qI (fv_Rq_enterRound σ) 1).toNatClampNeg)).2) 10 ((fv_Dk_errorBeforeRequesting (fv_Rq_enterRound σ) ((fd_qI (fv_Rq_enterRound σ) 1).toNatClampNeg)).1)) ((fd_qI (fv_Rq_enterRound σ) 1).toNatClampNeg)) ((fd_qI (fv_Rq_enterRound σ) 1).toNatClampNeg) (fd_lt hb2) hI6 ) ⟨va_cnB 0 hts (fb_good fm_Rs_isRedirect) rfl rfl rfl (hN _ fq_438) (hts _ (List.mem_cons_of_mem _ fq_2)) (by decide +kernel) ⟨Nat.le_of_ble_eq_true rfl, Nat.le_of_ble_eq_true rfl⟩, (hts _ (List.mem_cons_of_mem _ fq_440)), (hts _ (List.mem_cons_of_mem _ fp_Rs_isRedirect))⟩ (fd_preV hP hK hD hN (va_recv hK hP (ci := 3) (q0 := (5 + ((fd_qI (fv_Rq_enterRound σ) 1).toNatClampNeg))) rfl (fd_w_res (fd_lt hb2)))) rfl rfl hl.1 rfl (lv_room (Nat.le_of_ble_eq_true rfl)) fx_Dk_goOneRound_81 ⟨Nat.le_of_ble_eq_true rfl, Nat.le_of_ble_eq_true rfl⟩) hD hS hA (fun H locs hP hD hS => ?_)
      refine fd_ifeq (tgt := 97) hx hb fx_Dk_goOneRound_84 (by decide) (fun c10 => ?_) (fun c10 => ?_)
      · refine lv_aload_n hx hb fx_Dk_goOneRound_97 rfl (lv_at hl 1 rfl) ?_
        refine va_get (D := D) (ci := 4) (v := .ref (ad 2)) (C := fn_R_Dk) (T := fn_T_Dk) (N := 9) hx hb hts fn_j_Dk hown hK hP 0 rfl rfl 2 (by decide) (hts _ (List.mem_cons_of_mem _ fq_206)) (fun _ h9 => h9) rfl fx_Dk_goOneRound_98 ?_
        refine lv_aload_n hx hb fx_Dk_goOneRound_101 rfl (lv_at hl 0 rfl) ?_
        refine fd_callvm (va_runVN (As := [.ref (ad (3 + ((fd_qI (fv_Rq_enterRound σ) 1).toNatClampNeg)))]) (rest := []) ⟨hx, hb, hml, hown, hts⟩ (fc_Rq_takeResponse l D cR cP ad H.size (fv_Dk_countRequested (fd_sqI ((fv_Dk_errorBeforeRequesting (fv_Rq_enterRound σ) ((fd_qI (fv_Rq_enterRound σ) 1).toNatClampNeg)).2) 10 ((fv_Dk_errorBeforeRequesting (fv_Rq_enterRound σ) ((fd_qI (fv_Rq_enterRound σ) 1).toNatClampNeg)).1)) ((fd_qI (fv_Rq_enterRound σ) 1).toNatClampNeg)) ((fd_qI (fv_Rq_enterRound σ) 1).toNatClampNeg) (fd_lt hb2) hI6 ) ⟨va_cnB 1 hts (fb_good fm_Rq_takeResponse) rfl rfl rfl (hN _ fq_454) (hts _ (List.mem_cons_of_mem _ fq_5)) (by decide +kernel) ⟨Nat.le_of_ble_eq_true rfl, Nat.le_of_ble_eq_true rfl⟩, (hts _ (List.mem_cons_of_mem _ fq_456)), (hts _ (List.mem_cons_of_mem _ fp_Rq_takeResponse))⟩ (fd_preV hP hK hD hN (va_recv hK hP (ci := 2) (q0 := 2) rfl rfl)) rfl rfl hl.1 rfl (lv_room (Nat.le_of_ble_eq_true rfl)) fx_Dk_goOneRound_102 ⟨Nat.le_of_ble_eq_true rfl, Nat.le_of_ble_eq_true rfl⟩) hD hS hA (fun H locs hP hD hS hI11 => ?_)
        refine lv_iconst (v := 0) hx hb fx_Dk_goOneRound_105 (by decide) ?_
        exact fd_zret (r := false) (u := (fv_Rq_takeResponse (fv_Dk_countRequested (fd_sqI ((fv_Dk_errorBeforeRequesting (fv_Rq_enterRound σ) ((fd_qI (fv_Rq_enterRound σ) 1).toNatClampNeg)).2) 10 ((fv_Dk_errorBeforeRequesting (fv_Rq_enterRound σ) ((fd_qI (fv_Rq_enterRound σ) 1).toNatClampNeg)).1)) ((fd_qI (fv_Rq_enterRound σ) 1).toNatClampNeg)) ((fd_qI (fv_Rq_enterRound σ) 1).toNatClampNeg))) hQ hx hb hr ⟨by rw [fv_Dk_goOneRound, if_pos c5, if_neg c8, if_neg c10], hI11⟩ hP hD hS fx_Dk_goOneRound_106 hlocks
      · refine lv_aload_n hx hb fx_Dk_goOneRound_87 rfl (lv_at hl 1 rfl) ?_
        refine va_get (D := D) (ci := 4) (v := .ref (ad 2)) (C := fn_R_Dk) (T := fn_T_Dk) (N := 9) hx hb hts fn_j_Dk hown hK hP 0 rfl rfl 2 (by decide) (hts _ (List.mem_cons_of_mem _ fq_206)) (fun _ h9 => h9) rfl fx_Dk_goOneRound_88 ?_
        refine lv_aload_n hx hb fx_Dk_goOneRound_91 rfl (lv_at hl 0 rfl) ?_
        refine lv_iload_n hx hb fx_Dk_goOneRound_92 rfl (lv_at hl 2 rfl) ?_
        refine fd_callzm (va_runVN (As := [.ref (ad (3 + ((fd_qI (fv_Rq_enterRound σ) 1).toNatClampNeg))), .int p1]) (rest := []) ⟨hx, hb, hml, hown, hts⟩ (fc_Rq_meetRedirect l D cR cP ad H.size (fv_Dk_countRequested (fd_sqI ((fv_Dk_errorBeforeRequesting (fv_Rq_enterRound σ) ((fd_qI (fv_Rq_enterRound σ) 1).toNatClampNeg)).2) 10 ((fv_Dk_errorBeforeRequesting (fv_Rq_enterRound σ) ((fd_qI (fv_Rq_enterRound σ) 1).toNatClampNeg)).1)) ((fd_qI (fv_Rq_enterRound σ) 1).toNatClampNeg)) ((fd_qI (fv_Rq_enterRound σ) 1).toNatClampNeg) (fd_lt hb2) p1 hI6 (fd_red c10)) ⟨va_cnB 2 hts (fb_good fm_Rq_meetRedirect) rfl rfl rfl (hN _ fq_442) (hts _ (List.mem_cons_of_mem _ fq_5)) (by decide +kernel) ⟨Nat.le_of_ble_eq_true rfl, Nat.le_of_ble_eq_true rfl⟩, (hts _ (List.mem_cons_of_mem _ fq_444)), (hts _ (List.mem_cons_of_mem _ fp_Rq_meetRedirect))⟩ (fd_preV hP hK hD hN (va_recv hK hP (ci := 2) (q0 := 2) rfl rfl)) rfl rfl hl.1 rfl (lv_room (Nat.le_of_ble_eq_true rfl)) fx_Dk_goOneRound_93 ⟨Nat.le_of_ble_eq_true rfl, Nat.le_of_ble_eq_true rfl⟩) hD hS hA (fun H locs hP hD hS hI12 => ?_)
        exact fd_zret (r := (fv_Rq_meetRedirect (fv_Dk_countRequested (fd_sqI ((fv_Dk_errorBeforeRequesting (fv_Rq_enterRound σ) ((fd_qI (fv_Rq_enterRound σ) 1).toNatClampNeg)).2) 10 ((fv_Dk_errorBeforeRequesting (fv_Rq_enterRound σ) ((fd_qI (fv_Rq_enterRound σ) 1).toNatClampNeg)).1)) ((fd_qI (fv_Rq_enterRound σ) 1).toNatClampNeg)) ((fd_qI (fv_Rq_enterRound σ) 1).toNatClampNeg) p1).1) (u := (fv_Rq_meetRedirect (fv_Dk_countRequested (fd_sqI ((fv_Dk_errorBeforeRequesting (fv_Rq_enterRound σ) ((fd_qI (fv_Rq_enterRound σ) 1).toNatClampNeg)).2) 10 ((fv_Dk_errorBeforeRequesting (fv_Rq_enterRound σ) ((fd_qI (fv_Rq_enterRound σ) 1).toNatClampNeg)).1)) ((fd_qI (fv_Rq_enterRound σ) 1).toNatClampNeg)) ((fd_qI (fv_Rq_enterRound σ) 1).toNatClampNeg) p1).2) hQ hx hb hr ⟨by rw [fv_Dk_goOneRound, if_pos c5, if_neg c8, if_pos c10], hI12⟩ hP hD hS fx_Dk_goOneRound_96 hlocks
    · refine lv_aload_n hx hb fx_Dk_goOneRound_59 rfl (lv_at hl 1 rfl) ?_
      refine va_get (D := D) (ci := 4) (v := .ref (ad 2)) (C := fn_R_Dk) (T := fn_T_Dk) (N := 9) hx hb hts fn_j_Dk hown hK hP 0 rfl rfl 2 (by decide) (hts _ (List.mem_cons_of_mem _ fq_206)) (fun _ h9 => h9) rfl fx_Dk_goOneRound_60 ?_
      refine lv_aload_n hx hb fx_Dk_goOneRound_63 rfl (lv_at hl 0 rfl) ?_
      refine fd_callz (va_runVN (As := [.ref (ad (3 + ((fd_qI (fv_Rq_enterRound σ) 1).toNatClampNeg)))]) (rest := []) ⟨hx, hb, hml, hown, hts⟩ (fc_Rq_passes l D cR cP ad H.size (fv_Dk_countRequested (fd_sqI ((fv_Dk_errorBeforeRequesting (fv_Rq_enterRound σ) ((fd_qI (fv_Rq_enterRound σ) 1).toNatClampNeg)).2) 10 ((fv_Dk_errorBeforeRequesting (fv_Rq_enterRound σ) ((fd_qI (fv_Rq_enterRound σ) 1).toNatClampNeg)).1)) ((fd_qI (fv_Rq_enterRound σ) 1).toNatClampNeg)) ((fd_qI (fv_Rq_enterRound σ) 1).toNatClampNeg) (fd_lt hb2) hI6 ) ⟨va_cnB 1 hts (fb_good fm_Rq_passes) rfl rfl rfl (hN _ fq_416) (hts _ (List.mem_cons_of_mem _ fq_5)) (by decide +kernel) ⟨Nat.le_of_ble_eq_true rfl, Nat.le_of_ble_eq_true rfl⟩, (hts _ (List.mem_cons_of_mem _ fq_418)), (hts _ (List.mem_cons_of_mem _ fp_Rq_passes))⟩ (fd_preV hP hK hD hN (va_recv hK hP (ci := 2) (q0 := 2) rfl rfl)) rfl rfl hl.1 rfl (lv_room (Nat.le_of_ble_eq_true rfl)) fx_Dk_goOneRound_64 ⟨Nat.le_of_ble_eq_true rfl, Nat.le_of_ble_eq_true rfl⟩) hD hS hA (fun H locs hP hD hS => ?_)
      refine fd_ifne (tgt := 80) hx hb fx_Dk_goOneRound_67 (by decide) (fun c14 => ?_) (fun c14 => ?_)
      · refine lv_aload_n hx hb fx_Dk_goOneRound_80 rfl (lv_at hl 0 rfl) ?_
        refine fd_callz (va_runVN (As := []) (rest := []) ⟨hx, hb, hml, hown, hts⟩ (fc_Rs_isRedirect l D cR cP ad H.size (fv_Dk_countRequested (fd_sqI ((fv_Dk_errorBeforeRequesting (fv_Rq_enterRound σ) ((fd_qI (fv_Rq_enterRound σ) 1).toNatClampNeg)).2) 10 ((fv_Dk_errorBeforeRequesting (fv_Rq_enterRound σ) ((fd_qI (fv_Rq_enterRound σ) 1).toNatClampNeg)).1)) ((fd_qI (fv_Rq_enterRound σ) 1).toNatClampNeg)) ((fd_qI (fv_Rq_enterRound σ) 1).toNatClampNeg) (fd_lt hb2) hI6 ) ⟨va_cnB 0 hts (fb_good fm_Rs_isRedirect) rfl rfl rfl (hN _ fq_438) (hts _ (List.mem_cons_of_mem _ fq_2)) (by decide +kernel) ⟨Nat.le_of_ble_eq_true rfl, Nat.le_of_ble_eq_true rfl⟩, (hts _ (List.mem_cons_of_mem _ fq_440)), (hts _ (List.mem_cons_of_mem _ fp_Rs_isRedirect))⟩ (fd_preV hP hK hD hN (va_recv hK hP (ci := 3) (q0 := (5 + ((fd_qI (fv_Rq_enterRound σ) 1).toNatClampNeg))) rfl (fd_w_res (fd_lt hb2)))) rfl rfl hl.1 rfl (lv_room (Nat.le_of_ble_eq_true rfl)) fx_Dk_goOneRound_81 ⟨Nat.le_of_ble_eq_true rfl, Nat.le_of_ble_eq_true rfl⟩) hD hS hA (fun H locs hP hD hS => ?_)
        refine fd_ifeq (tgt := 97) hx hb fx_Dk_goOneRound_84 (by decide) (fun c16 => ?_) (fun c16 => ?_)
        · refine lv_aload_n hx hb fx_Dk_goOneRound_97 rfl (lv_at hl 1 rfl) ?_
          refine va_get (D := D) (ci := 4) (v := .ref (ad 2)) (C := fn_R_Dk) (T := fn_T_Dk) (N := 9) hx hb hts fn_j_Dk hown hK hP 0 rfl rfl 2 (by decide) (hts _ (List.mem_cons_of_mem _ fq_206)) (fun _ h9 => h9) rfl fx_Dk_goOneRound_98 ?_
          refine lv_aload_n hx hb fx_Dk_goOneRound_101 rfl (lv_at hl 0 rfl) ?_
          refine fd_callvm (va_runVN (As := [.ref (ad (3 + ((fd_qI (fv_Rq_enterRound σ) 1).toNatClampNeg)))]) (rest := []) ⟨hx, hb, hml, hown, hts⟩ (fc_Rq_takeResponse l D cR cP ad H.size (fv_Dk_countRequested (fd_sqI ((fv_Dk_errorBeforeRequesting (fv_Rq_enterRound σ) ((fd_qI (fv_Rq_enterRound σ) 1).toNatClampNeg)).2) 10 ((fv_Dk_errorBeforeRequesting (fv_Rq_enterRound σ) ((fd_qI (fv_Rq_enterRound σ) 1).toNatClampNeg)).1)) ((fd_qI (fv_Rq_enterRound σ) 1).toNatClampNeg)) ((fd_qI (fv_Rq_enterRound σ) 1).toNatClampNeg) (fd_lt hb2) hI6 ) ⟨va_cnB 1 hts (fb_good fm_Rq_takeResponse) rfl rfl rfl (hN _ fq_454) (hts _ (List.mem_cons_of_mem _ fq_5)) (by decide +kernel) ⟨Nat.le_of_ble_eq_true rfl, Nat.le_of_ble_eq_true rfl⟩, (hts _ (List.mem_cons_of_mem _ fq_456)), (hts _ (List.mem_cons_of_mem _ fp_Rq_takeResponse))⟩ (fd_preV hP hK hD hN (va_recv hK hP (ci := 2) (q0 := 2) rfl rfl)) rfl rfl hl.1 rfl (lv_room (Nat.le_of_ble_eq_true rfl)) fx_Dk_goOneRound_102 ⟨Nat.le_of_ble_eq_true rfl, Nat.le_of_ble_eq_true rfl⟩) hD hS hA (fun H locs hP hD hS hI17 => ?_)
          refine lv_iconst (v := 0) hx hb fx_Dk_goOneRound_105 (by decide) ?_
          exact fd_zret (r := false) (u := (fv_Rq_takeResponse (fv_Dk_countRequested (fd_sqI ((fv_Dk_errorBeforeRequesting (fv_Rq_enterRound σ) ((fd_qI (fv_Rq_enterRound σ) 1).toNatClampNeg)).2) 10 ((fv_Dk_errorBeforeRequesting (fv_Rq_enterRound σ) ((fd_qI (fv_Rq_enterRound σ) 1).toNatClampNeg)).1)) ((fd_qI (fv_Rq_enterRound σ) 1).toNatClampNeg)) ((fd_qI (fv_Rq_enterRound σ) 1).toNatClampNeg))) hQ hx hb hr ⟨by rw [fv_Dk_goOneRound, if_pos c5, if_pos c8, if_pos c14, if_neg c16], hI17⟩ hP hD hS fx_Dk_goOneRound_106 hlocks
        · refine lv_aload_n hx hb fx_Dk_goOneRound_87 rfl (lv_at hl 1 rfl) ?_
          refine va_get (D := D) (ci := 4) (v := .ref (ad 2)) (C := fn_R_Dk) (T := fn_T_Dk) (N := 9) hx hb hts fn_j_Dk hown hK hP 0 rfl rfl 2 (by decide) (hts _ (List.mem_cons_of_mem _ fq_206)) (fun _ h9 => h9) rfl fx_Dk_goOneRound_88 ?_
          refine lv_aload_n hx hb fx_Dk_goOneRound_91 rfl (lv_at hl 0 rfl) ?_
          refine lv_iload_n hx hb fx_Dk_goOneRound_92 rfl (lv_at hl 2 rfl) ?_
          refine fd_callzm (va_runVN (As := [.ref (ad (3 + ((fd_qI (fv_Rq_enterRound σ) 1).toNatClampNeg))), .int p1]) (rest := []) ⟨hx, hb, hml, hown, hts⟩ (fc_Rq_meetRedirect l D cR cP ad H.size (fv_Dk_countRequested (fd_sqI ((fv_Dk_errorBeforeRequesting (fv_Rq_enterRound σ) ((fd_qI (fv_Rq_enterRound σ) 1).toNatClampNeg)).2) 10 ((fv_Dk_errorBeforeRequesting (fv_Rq_enterRound σ) ((fd_qI (fv_Rq_enterRound σ) 1).toNatClampNeg)).1)) ((fd_qI (fv_Rq_enterRound σ) 1).toNatClampNeg)) ((fd_qI (fv_Rq_enterRound σ) 1).toNatClampNeg) (fd_lt hb2) p1 hI6 (fd_red c16)) ⟨va_cnB 2 hts (fb_good fm_Rq_meetRedirect) rfl rfl rfl (hN _ fq_442) (hts _ (List.mem_cons_of_mem _ fq_5)) (by decide +kernel) ⟨Nat.le_of_ble_eq_true rfl, Nat.le_of_ble_eq_true rfl⟩, (hts _ (List.mem_cons_of_mem _ fq_444)), (hts _ (List.mem_cons_of_mem _ fp_Rq_meetRedirect))⟩ (fd_preV hP hK hD hN (va_recv hK hP (ci := 2) (q0 := 2) rfl rfl)) rfl rfl hl.1 rfl (lv_room (Nat.le_of_ble_eq_true rfl)) fx_Dk_goOneRound_93 ⟨Nat.le_of_ble_eq_true rfl, Nat.le_of_ble_eq_true rfl⟩) hD hS hA (fun H locs hP hD hS hI18 => ?_)
          exact fd_zret (r := (fv_Rq_meetRedirect (fv_Dk_countRequested (fd_sqI ((fv_Dk_errorBeforeRequesting (fv_Rq_enterRound σ) ((fd_qI (fv_Rq_enterRound σ) 1).toNatClampNeg)).2) 10 ((fv_Dk_errorBeforeRequesting (fv_Rq_enterRound σ) ((fd_qI (fv_Rq_enterRound σ) 1).toNatClampNeg)).1)) ((fd_qI (fv_Rq_enterRound σ) 1).toNatClampNeg)) ((fd_qI (fv_Rq_enterRound σ) 1).toNatClampNeg) p1).1) (u := (fv_Rq_meetRedirect (fv_Dk_countRequested (fd_sqI ((fv_Dk_errorBeforeRequesting (fv_Rq_enterRound σ) ((fd_qI (fv_Rq_enterRound σ) 1).toNatClampNeg)).2) 10 ((fv_Dk_errorBeforeRequesting (fv_Rq_enterRound σ) ((fd_qI (fv_Rq_enterRound σ) 1).toNatClampNeg)).1)) ((fd_qI (fv_Rq_enterRound σ) 1).toNatClampNeg)) ((fd_qI (fv_Rq_enterRound σ) 1).toNatClampNeg) p1).2) hQ hx hb hr ⟨by rw [fv_Dk_goOneRound, if_pos c5, if_pos c8, if_pos c14, if_pos c16], hI18⟩ hP hD hS fx_Dk_goOneRound_96 hlocks
      · refine lv_aload_n hx hb fx_Dk_goOneRound_70 rfl (lv_at hl 1 rfl) ?_
        refine va_get (D := D) (ci := 4) (v := .ref (ad 2)) (C := fn_R_Dk) (T := fn_T_Dk) (N := 9) hx hb hts fn_j_Dk hown hK hP 0 rfl rfl 2 (by decide) (hts _ (List.mem_cons_of_mem _ fq_206)) (fun _ h9 => h9) rfl fx_Dk_goOneRound_71 ?_
        refine lv_iconst (v := 3) hx hb fx_Dk_goOneRound_74 (by decide) ?_
        refine va_putN (D := D) (ci := 2) (v := .int 3) (ty := .int) (C := fn_R_Rq) (T := fn_T_Rq) (N := 15) hx hb hts fn_j_Rq fn_t_Rq fn_k_Rq fn_n_Rq hown hK hP hD hS 2 rfl rfl 10 (by decide) (va_Nw.use rfl (hN _ fq_164)) (fun _ h9 => h9) rfl (by decide +kernel) rfl rfl (Nat.le_of_ble_eq_true rfl) fx_Dk_goOneRound_75 (fun H locs hP hD hS => ?_)
        rw [fd_set_Rq_10] at hP hD
        have hI19 : fd_Inv (fd_sqI (fv_Dk_countRequested (fd_sqI ((fv_Dk_errorBeforeRequesting (fv_Rq_enterRound σ) ((fd_qI (fv_Rq_enterRound σ) 1).toNatClampNeg)).2) 10 ((fv_Dk_errorBeforeRequesting (fv_Rq_enterRound σ) ((fd_qI (fv_Rq_enterRound σ) 1).toNatClampNeg)).1)) ((fd_qI (fv_Rq_enterRound σ) 1).toNatClampNeg)) 10 3) := fd_inv_sqI (by decide) hI6
        refine lv_iconst (v := 0) hx hb fx_Dk_goOneRound_78 (by decide) ?_
        exact fd_zret (r := false) (u := fd_sqI (fv_Dk_countRequested (fd_sqI ((fv_Dk_errorBeforeRequesting (fv_Rq_enterRound σ) ((fd_qI (fv_Rq_enterRound σ) 1).toNatClampNeg)).2) 10 ((fv_Dk_errorBeforeRequesting (fv_Rq_enterRound σ) ((fd_qI (fv_Rq_enterRound σ) 1).toNatClampNeg)).1)) ((fd_qI (fv_Rq_enterRound σ) 1).toNatClampNeg)) 10 3) hQ hx hb hr ⟨by rw [fv_Dk_goOneRound, if_pos c5, if_pos c8, if_neg c14], hI19⟩ hP hD hS fx_Dk_goOneRound_79 hlocks
  · refine lv_iconst (v := 0) hx hb fx_Dk_goOneRound_42 (by decide) ?_
    exact fd_zret (r := false) (u := fd_sqI ((fv_Dk_errorBeforeRequesting (fv_Rq_enterRound σ) ((fd_qI (fv_Rq_enterRound σ) 1).toNatClampNeg)).2) 10 ((fv_Dk_errorBeforeRequesting (fv_Rq_enterRound σ) ((fd_qI (fv_Rq_enterRound σ) 1).toNatClampNeg)).1)) hQ hx hb hr ⟨by rw [fv_Dk_goOneRound, if_neg c5], hI4⟩ hP hD hS fx_Dk_goOneRound_43 hlocks
def fv_Dk_goThroughRounds_l4 : Nat → FDS → FDS → Bool → Int32 → FDS
  | 0 , σ , σ1 , g , r => σ
  | n + 1 , σ , σ1 , g , r => if g = true then if 4 < r then σ1 else fv_Dk_goThroughRounds_l4 n σ ((fv_Dk_goOneRound σ1 r).2) ((fv_Dk_goOneRound σ1 r).1) (r + 1) else σ1
def fv_Dk_goThroughRounds (σ : FDS) : FDS := fv_Dk_goThroughRounds_l4 6 σ σ true 0
set_option maxHeartbeats 4000000 in
set_option maxRecDepth 100000 in
theorem fc_Dk_goThroughRounds (l : Launch) (D : va_G) (cR cP : ClassId) (ad : Nat → Nat) (sz : Nat) (σ : FDS)  (hI : fd_Inv σ)  : Met l fy_Dk_goThroughRounds (fw_Dk_goThroughRounds :: fb_tbl) ({ frames := 5, cells := 0, slots := 0, locals := 115 } : Room) (fd_Pc D cR cP ad [.ref (ad 0)] σ sz) ((fun A => va_Qv (fun u : FDS => fv_Dk_goThroughRounds σ = u ∧ fd_Inv u) (fd_B D cR cP ad A) A) (va_A (fd_w cR cP ad σ) sz)) 0 0 (va_A (fd_w cR cP ad σ) sz) := by
  refine fd_ofW (cc := fb_Dk_goThroughRounds) (maxL := 3) (ret := none) (Qf := fun A => va_Qv (fun u : FDS => fv_Dk_goThroughRounds σ = u ∧ fd_Inv u) (fd_B D cR cP ad A) A) (by decide) (Nat.le_of_ble_eq_true rfl) ?_
  intro p e s m args below meth c A Q hQ hx hb hr hts hown hlocks hml hP hK hD hS hA hN ls hl
  have hown : s.vm.findClass fn_R_Dk = some m.cls := hown
  have hl : lv_has ls 3 [(0, .ref (ad 0))] := hl
  suffices hgo : ∀ (H : Heap) (locs : List Loc), va_P D fn_cl (fd_w cR cP ad σ) H → va_D A (fd_w cR cP ad σ) → va_S A s.heap H locs → W p l e ({ frames := 5, cells := 0, slots := 0, locals := 115 } : Room) s m args below meth c H locs 0 0 Q (F0 m 0 ls []) from hgo _ _ hP hD hS
  clear hP hD hS
  intro H locs hP hD hS
  refine lv_iconst (v := 1) hx hb fx_Dk_goThroughRounds_0 (by decide) ?_
  refine lv_istore_n (lv' := [(1, .int 1), (0, .ref (ad 0))]) hx hb fx_Dk_goThroughRounds_1 rfl hl (by decide) rfl (fun ls hl => ?_)
  refine lv_iconst (v := 0) hx hb fx_Dk_goThroughRounds_2 (by decide) ?_
  refine lv_istore_n (lv' := [(2, .int 0), (1, .int 1), (0, .ref (ad 0))]) hx hb fx_Dk_goThroughRounds_3 rfl hl (by decide) rfl (fun ls hl => ?_)
  have hL4 : ∀ (n : Nat) (σ1 : FDS) (g : Bool) (r : Int32), (∃ i : Nat, i ≤ 5 ∧ 6 ≤ n + i ∧ r = nI i) → fd_Inv σ1 → fv_Dk_goThroughRounds σ = fv_Dk_goThroughRounds_l4 n σ σ1 g r → ∀ (H : Heap) (locs : List Loc), va_P D fn_cl (fd_w cR cP ad σ1) H → va_D A (fd_w cR cP ad σ1) → va_S A s.heap H locs → ∀ (ls : Array Slot), lv_has ls 3 [(2, .int r), (1, .int (fd_bi g)), (0, .ref (ad 0))] → W p l e ({ frames := 5, cells := 0, slots := 0, locals := 115 } : Room) s m args below meth c H locs 0 0 Q (F0 m 4 ls []) := by
    intro n
    induction n with
    | zero =>
      intro σ1 g r hrr
      obtain ⟨i, h1, h2, -⟩ := hrr; omega
    | succ n ih =>
      intro σ1 g r hrr hI4 hm4 H locs hP hD hS ls hl
      refine lv_iload_n hx hb fx_Dk_goThroughRounds_4 rfl (lv_at hl 1 rfl) ?_
      refine fd_ifeq (tgt := 25) hx hb fx_Dk_goThroughRounds_5 (by decide) (fun c1 => ?_) (fun c1 => ?_)
      · exact fd_vret (u := σ1) hQ hx hb hr ⟨by rw [hm4, fv_Dk_goThroughRounds_l4, if_neg c1], hI4⟩ hP hD hS fx_Dk_goThroughRounds_25 hlocks
      · refine lv_iload_n hx hb fx_Dk_goThroughRounds_8 rfl (lv_at hl 0 rfl) ?_
        refine lv_iconst (v := 4) hx hb fx_Dk_goThroughRounds_9 (by decide) ?_
        refine lv_icmp_gt (tgt := 25) hx hb fx_Dk_goThroughRounds_10 (by decide) (fun c2 => ?_) (fun c2 => ?_)
        · exact fd_vret (u := σ1) hQ hx hb hr ⟨by rw [hm4, fv_Dk_goThroughRounds_l4, if_pos c1, if_pos c2], hI4⟩ hP hD hS fx_Dk_goThroughRounds_25 hlocks
        · refine lv_aload_n hx hb fx_Dk_goThroughRounds_13 rfl (lv_at hl 2 rfl) ?_
          refine lv_iload_n hx hb fx_Dk_goThroughRounds_14 rfl (lv_at hl 0 rfl) ?_
          refine fd_callzm (va_runV (As := [.int r]) (rest := []) ⟨hx, hb, hml, hown, hts⟩ (fc_Dk_goOneRound l D cR cP ad H.size σ1 r hI4 ) ⟨callB_of 1 hts (fb_good fm_Dk_goOneRound) rfl rfl rfl (hts _ (List.mem_cons_of_mem _ fq_1)) (hts _ (List.mem_cons_of_mem _ fq_374)) (by decide +kernel) ⟨Nat.le_of_ble_eq_true rfl, Nat.le_of_ble_eq_true rfl⟩, (hts _ (List.mem_cons_of_mem _ fq_376)), (hts _ (List.mem_cons_of_mem _ fp_Dk_goOneRound))⟩ (fd_preV hP hK hD hN (va_recv hK hP (ci := 4) (q0 := 0) rfl rfl)) rfl rfl hl.1 rfl (lv_room (Nat.le_of_ble_eq_true rfl)) fx_Dk_goThroughRounds_15 ⟨Nat.le_of_ble_eq_true rfl, Nat.le_of_ble_eq_true rfl⟩) hD hS hA (fun H locs hP hD hS hI3 => ?_)
          refine lv_istore_n (lv' := [(1, .int (fd_bi ((fv_Dk_goOneRound σ1 r).1))), (2, .int r), (0, .ref (ad 0))]) hx hb fx_Dk_goThroughRounds_18 rfl hl (by decide) rfl (fun ls hl => ?_)
          refine lv_iinc (v := r + 1) (lv' := [(2, .int (r + 1)), (1, .int (fd_bi ((fv_Dk_goOneRound σ1 r).1))), (0, .ref (ad 0))]) hx hb fx_Dk_goThroughRounds_19 hl (k := 1) rfl rfl (by decide) rfl (fun ls hl => ?_)
          refine lv_goto (tgt := 4) hx hb fx_Dk_goThroughRounds_22 (by decide) ?_
          exact ih ((fv_Dk_goOneRound σ1 r).2) ((fv_Dk_goOneRound σ1 r).1) (r + 1) (fd_step5 hrr c2) hI3 (by rw [hm4, fv_Dk_goThroughRounds_l4, if_pos c1, if_neg c2]) H locs hP hD hS ls (lv_sub hl [0, 1, 2] rfl)
  exact hL4 6 σ true 0 (⟨0, by decide, by decide, rfl⟩) hI (by rw [fv_Dk_goThroughRounds]) H locs hP hD hS ls (lv_sub hl [0, 1, 2] rfl)
end
section
/-! contracts of methods that may throw -/
def fn_xw : List Cond := [.castable "java/lang/IllegalArgumentException" "java/lang/IllegalArgumentException", .declares ⟨"java/lang/RuntimeException", "<init>", "()V"⟩, .declares ⟨"java/lang/Exception", "<init>", "()V"⟩, .declares ⟨"java/lang/Throwable", "<init>", "()V"⟩, .castable "java/lang/UnsupportedOperationException" "java/lang/UnsupportedOperationException", .castable "java/lang/IndexOutOfBoundsException" "java/lang/IndexOutOfBoundsException"]
def fd_X (U : State) : Prop := ∀ w ∈ fn_xw, va_Nw w U
def fd_isX : Cond → Bool
  | .castable .. => true
  | .declares .. => true
  | _ => false
theorem fd_allX : ∀ w ∈ fn_xw, fd_isX w = true := by decide +kernel
theorem fd_X_warm {s U : State} (hW : s.WarmedH U.vm) (h : fd_X s) : fd_X U := fun w hw => by
  have h1 := fd_allX w hw
  have h2 := h w hw
  cases w <;> first | exact va_tabs rfl (rfl : (s.setVm U.vm).vm = U.vm) (by rw [Cond.castable_setVm (args := #[]) hW.alike]; exact h2) | exact va_tabs rfl (rfl : (s.setVm U.vm).vm = U.vm) (by rw [Cond.declares_setVm (args := #[]) hW.alike]; exact h2) | cases h1
theorem fd_X_same {s U : State} (hv : s.vm = U.vm) (h : fd_X s) : fd_X U := fun w hw => by
  have h1 := fd_allX w hw
  have h2 := h w hw
  cases w <;> first | exact va_Nw.same rfl hv h2 | cases h1
theorem fd_X_use {s : State} {args : Array Value} (h : fd_X s) : ∀ w ∈ fn_xw, w.before args s = true := fun w hw => by
  have h1 := fd_allX w hw
  have h2 := h w hw
  cases w <;> first | exact va_Nw.use rfl h2 | cases h1
abbrev fd_nm : List String := ["java/lang/RuntimeException", "java/lang/Exception"]
abbrev fd_E1 : String := "java/lang/IllegalArgumentException"
abbrev fd_E2 : String := "java/lang/UnsupportedOperationException"
abbrev fd_E3 : String := "java/lang/IndexOutOfBoundsException"
theorem ft_g1 : ∀ w ∈ (vx_at0 fn_R_Dk 36 fd_E1 fd_nm).filter goodWord, w ∈ fb_tbl := by decide +kernel
theorem ft_g2 : ∀ w ∈ (vx_at0 fn_R_Dk 114 fd_E2 fd_nm).filter goodWord, w ∈ fb_tbl := by decide +kernel
theorem ft_g3 : ∀ w ∈ (vx_at0 fn_R_Dk 147 fd_E3 fd_nm).filter goodWord, w ∈ fb_tbl := by decide +kernel
theorem ft_n1 : ∀ w ∈ (vx_at0 fn_R_Dk 36 fd_E1 fd_nm).filter (fun w => !goodWord w), w ∈ fn_xw := by decide +kernel
theorem ft_n2 : ∀ w ∈ (vx_at0 fn_R_Dk 114 fd_E2 fd_nm).filter (fun w => !goodWord w), w ∈ fn_xw := by decide +kernel
theorem ft_n3 : ∀ w ∈ (vx_at0 fn_R_Dk 147 fd_E3 fd_nm).filter (fun w => !goodWord w), w ∈ fn_xw := by decide +kernel
theorem ft_o1 : ∀ w ∈ Cond.classLink fn_R_Dk 34 fd_E1 :: Cond.initialized fd_E1 :: vx_at0 fn_R_Dk 36 fd_E1 fd_nm, vx_ot w = true := by decide +kernel
theorem ft_o2 : ∀ w ∈ Cond.classLink fn_R_Dk 112 fd_E2 :: Cond.initialized fd_E2 :: vx_at0 fn_R_Dk 114 fd_E2 fd_nm, vx_ot w = true := by decide +kernel
theorem ft_o3 : ∀ w ∈ Cond.classLink fn_R_Dk 145 fd_E3 :: Cond.initialized fd_E3 :: vx_at0 fn_R_Dk 147 fd_E3 fd_nm, vx_ot w = true := by decide +kernel
def fd_isx (c : Int32) (E : String) : Prop := (c = 1 ∧ E = fd_E1) ∨ (c = 2 ∧ E = fd_E2) ∨ (c = 3 ∧ E = fd_E3)
/-- what the heap's statics hold that a throw reads -/
def fd_Zs (A : Nat → Prop) (U : State) (H : Heap) : Prop := vx_Zq Bundle.tN "UNASSIGNED_STACK" Bundle.steD A U H ∧ vx_Zq Bundle.tN "SUPPRESSED_SENTINEL" Bundle.listD A U H
def fd_Pcx (D : va_G) (cR cP : ClassId) (ad : Nat → Nat) (av : List Value) (σ : FDS) (sz : Nat) : Array Value → State → Prop := fun v U => fd_Pc D cR cP ad av σ sz v U ∧ fd_X U ∧ fd_Zs (va_A (fd_w cR cP ad σ) sz) U U.heap
theorem fd_blindx {D : va_G} {cR cP : ClassId} {ad : Nat → Nat} {av : List Value} {σ : FDS} {sz : Nat} : FrameBlind (fd_Pcx D cR cP ad av σ sz) := fun a U g mk q => by
  obtain ⟨q0, qX, qZ⟩ := q
  exact ⟨fd_blind a U g mk q0, fd_X_same (s := U) (U := U.calling g mk a) rfl qX, vx_Zq.moved (u := U) (U := U.calling g mk a) (Vm.Alike.refl U.vm) qZ.1, vx_Zq.moved (u := U) (U := U.calling g mk a) (Vm.Alike.refl U.vm) qZ.2⟩
section FDX
variable {p : Program} {l : Launch} {e : Env} {R : Room} {s : State} {m : MethodId} {args : Array Value} {below : List Frame} {meth : Method} {c : Code} {H H0 : Heap} {locs : List Loc} {cells slots : Nat} {Q : State → Prop} {cc : ByteArray} {pc : Nat} {ls : Array Slot} {rest st0 : List Value}
variable {D : va_G} {cR cP : ClassId} {ad : Nat → Nat} {A : Nat → Prop} {σ : FDS}
theorem fd_xofW {y : MethodName} {ws' : List Cond} {rm : Room} {av : List Value} {sz maxL : Nat} {ret : Option FieldType} {Qf : (Nat → Prop) → Array Value → State → Outcome → State → Prop} {XC : (Nat → Prop) → String → State → State → Prop} (hy : plainName y.cls = true) (hn : (lg_sl av).length ≤ maxL)
    (body : ∀ (p : Program) (e : Env) (s : State) (m : MethodId) (args : Array Value) (below : List Frame) (meth : Method) (c : Code) (A : Nat → Prop) (Q : State → Prop), Q = vx_MQ below (Qf A) (XC A) args s 1 6 A → p.tables.exec = Jvm.exec → c.code = cc → meth.sig.returnType = ret → (∀ w ∈ Cond.code y cc maxL ret :: ws', w.before args s = true) → s.vm.findClass y.cls = some m.cls → meth.locks = false → c.maxLocals = maxL →
      va_P D fn_cl (fd_w cR cP ad σ) s.heap → va_K D fn_cl (fd_tys cR cP) s → va_D A (fd_w cR cP ad σ) → va_S A s.heap s.heap [] → (∀ q : Nat, s.heap.size ≤ q → A q) → fd_N s → fd_X s → fd_Zs A s s.heap → (∀ x ∈ c.exceptionTable.toList, False) → ∀ ls : Array Slot, lv_has ls maxL (lv_args 0 av) → W p l e rm s m args below meth c s.heap [] 0 0 Q (F0 m 0 ls [])) :
    vx_Met l y (Cond.code y cc maxL ret :: ws') rm (fd_Pcx D cR cP ad av σ sz) (Qf (va_A (fd_w cR cP ad σ) sz)) (XC (va_A (fd_w cR cP ad σ) sz)) 1 6 (va_A (fd_w cR cP ad σ) sz) := by
  refine vx_ofW (cc := cc) (maxL := maxL) (ret := ret) hy rfl ?_
  intro p e s m args below meth c s₁ B hml hex hv
  obtain ⟨⟨rfl, hsz, hP, hK, hD0, hN⟩, hX, hZ⟩ := hv
  subst hsz
  have hl := lv_entry av (n := maxL) hn
  rw [lg_entry_eq]
  generalize (lg_sl av ++ List.replicate (maxL - (lg_sl av).length) Slot.unset).toArray = ls at hl ⊢
  exact body p e s m _ below meth c _ _ rfl B.exec B.bytes B.returns (atoms_spec (ws := Cond.code y cc maxL ret :: ws') B.pre) (findClass_of_methodNamed B.named) B.notSynchronized hml hP hK (hD0.self (sz := s.heap.size)) va_S.rf (fun q h => Or.inr h) hN hX hZ hex ls hl
theorem fd_xiret {post : Int32 → FDS → Prop} {XC : String → State → State → Prop} {r : Int32} {u : FDS} (hQ : Q = vx_MQ below (va_Qi post (fd_B D cR cP ad A) A) XC args s 1 6 A) (hx : p.tables.exec = Jvm.exec) (hb : c.code = cc) (hr : meth.sig.returnType = some .int) (hp : post r u) (hP : va_P D fn_cl (fd_w cR cP ad u) H) (hD : va_D A (fd_w cR cP ad u)) (hS : va_S A s.heap H locs) (hdg : decode cc pc = .ok (.ireturn, 1)) (hlocks : meth.locks = false) :
    W p l e R s m args below meth c H locs 0 0 Q (F0 m pc ls [.int r]) := by
  rw [hQ]
  exact W.widen (k := 1) (n := 6) (by decide) (by decide) (vx_ret (W.iret hx hb hr (fun t ht hW => ⟨⟨r, u, rfl, hp, by rw [ht]; exact hP, hD⟩, hS.F ht⟩) hS.2.2 hdg hlocks))
theorem fd_xdret {post : UInt64 → FDS → Prop} {XC : String → State → State → Prop} {r : UInt64} {u : FDS} (hQ : Q = vx_MQ below (va_Qd post (fd_B D cR cP ad A) A) XC args s 1 6 A) (hx : p.tables.exec = Jvm.exec) (hb : c.code = cc) (hr : meth.sig.returnType = some .double) (hp : post r u) (hP : va_P D fn_cl (fd_w cR cP ad u) H) (hD : va_D A (fd_w cR cP ad u)) (hS : va_S A s.heap H locs) (hdg : decode cc pc = .ok (.dreturn, 1)) (hlocks : meth.locks = false) :
    W p l e R s m args below meth c H locs 0 0 Q (F0 m pc ls [.double r]) := by
  rw [hQ]
  exact W.widen (k := 1) (n := 6) (by decide) (by decide) (vx_ret (W.dret hx hb hr (fun t ht hW => ⟨⟨r, u, rfl, hp, by rw [ht]; exact hP, hD⟩, hS.F ht⟩) hS.2.2 hdg hlocks))
theorem fd_xvret {post : FDS → Prop} {XC : String → State → State → Prop} {u : FDS} (hQ : Q = vx_MQ below (va_Qv post (fd_B D cR cP ad A) A) XC args s 1 6 A) (hx : p.tables.exec = Jvm.exec) (hb : c.code = cc) (hr : meth.sig.returnType = none) (hp : post u) (hP : va_P D fn_cl (fd_w cR cP ad u) H) (hD : va_D A (fd_w cR cP ad u)) (hS : va_S A s.heap H locs) (hdg : decode cc pc = .ok (.return_, 1)) (hlocks : meth.locks = false) :
    W p l e R s m args below meth c H locs 0 0 Q (F0 m pc ls []) := by
  rw [hQ]
  exact W.widen (k := 1) (n := 6) (by decide) (by decide) (vx_ret (W.vret hx hb hr (fun t ht hW => ⟨⟨u, rfl, hp, by rw [ht]; exact hP, hD⟩, hS.F ht⟩) hS.2.2 hdg hlocks))
/-- how a throwing method's exceptional end is told: T E u, and the world in state u -/
abbrev fd_XC (D : va_G) (cR cP : ClassId) (ad : Nat → Nat) (T : String → FDS → Prop) (A : Nat → Prop) : String → State → State → Prop := vx_X (fun _ : FDS => True) (fun E u t => T E u ∧ fd_B D cR cP ad A u t) A
theorem fd_throw {E : String} {ik ic : Nat} (hg : ∀ w ∈ (vx_at0 fn_R_Dk ic E fd_nm).filter goodWord, w ∈ fb_tbl) (hn : ∀ w ∈ (vx_at0 fn_R_Dk ic E fd_nm).filter (fun w => !goodWord w), w ∈ fn_xw) (ho : ∀ w ∈ Cond.classLink fn_R_Dk ik E :: Cond.initialized E :: vx_at0 fn_R_Dk ic E fd_nm, vx_ot w = true) (hfit : Bundle.fit E = true) (hkm : Cond.classLink fn_R_Dk ik E ∈ fb_tbl) (him : Cond.initialized E ∈ fb_tbl)
    {x : Cond} {Qc : Array Value → State → Outcome → State → Prop} {T : String → FDS → Prop} {u : FDS} (hQ : Q = vx_MQ below Qc (fd_XC D cR cP ad T A) args s 1 6 A) (hx : p.tables.exec = Jvm.exec) (hb : c.code = cc) (hst : l.stackTraces = false) (hown : s.vm.findClass fn_R_Dk = some m.cls) (hts : ∀ w ∈ x :: fb_tbl, w.before args s = true) (hX : fd_X s) (hZ : fd_Zs A s s.heap) (hsize : ls.size = c.maxLocals)
    (hex : ∀ x ∈ c.exceptionTable.toList, False) (hlocks : meth.locks = false) (hR : 5 < R.frames ∧ (rest.map fun v => v.category).sum + 81 ≤ R.locals ∧ 1 ≤ R.cells ∧ 6 ≤ R.slots) (hT : T E u) (hP : va_P D fn_cl (fd_w cR cP ad u) H) (hD : va_D A (fd_w cR cP ad u)) (hS : va_S A s.heap H locs)
    (d0 : decode cc pc = .ok (.new ik, 3)) (d3 : decode cc (pc + 3) = .ok (.dup, 1)) (d4 : decode cc (pc + 4) = .ok (.invokespecial ic, 3)) (d7 : decode cc (pc + 7) = .ok (.athrow, 1)) :
    W p l e R s m args below meth c H locs 0 0 Q (F0 m pc ls rest) := by
  rw [hQ]
  refine vx_throw0 (names := fd_nm) (A := A) hx hb hst hown hfit (by decide) (hts _ (List.mem_cons_of_mem _ hkm)) (hts _ (List.mem_cons_of_mem _ him)) (vx_hat (fun w h => hts w (List.mem_cons_of_mem _ (hg w h))) hn (fd_X_use hX)) ho hZ.1 hZ.2 hS hsize d0 d3 d4 d7 (fun x h => (hex x h).elim) hR.1 hR.2.1 (by omega) (by omega) hlocks ?_ hS.2.2 (by decide) (by decide)
  intro t ht h1 h2
  exact ⟨u, trivial, ⟨hT, fd_same hP h2, hD⟩, Nat.le_trans hS.1 h1, fun q hq hA => by rw [h2 q (Nat.lt_of_lt_of_le hq hS.1)]; exact hS.2.1 q hq hA⟩
end FDX
end
section
/-! what the checks of the face give -/
theorem fd_url {σ : FDS} {p : Int32} (h : fv_Dk_isUrl σ p = true) : vp_in p 48 := by
  rw [fv_Dk_isUrl, fv_Dk_isUrl_j1] at h
  by_cases c1 : p < 0
  · rw [if_pos c1] at h
    cases h
  · rw [if_neg c1] at h
    by_cases c2 : 48 ≤ p
    · rw [if_pos c2] at h
      cases h
    · rw [vp_in_iff]
      rw [Int32.lt_iff_toInt_lt] at c1
      rw [Int32.le_iff_toInt_le] at c2
      have e0 : (0 : Int32).toInt = 0 := rfl
      have e1 : (48 : Int32).toInt = 48 := rfl
      omega
theorem fd_holds {σ : FDS} {p : Int32} (hI : fd_Inv σ) (h : fv_Mm_holds σ p = true) : vp_in p 6 := by
  rw [fv_Mm_holds, fv_Mm_holds_j1] at h
  by_cases c1 : p < 0
  · rw [if_pos c1] at h
    cases h
  · rw [if_neg c1] at h
    by_cases c2 : fd_mS σ ≤ p
    · rw [if_pos c2] at h
      cases h
    · obtain ⟨n, hn, e⟩ := hI.2.2.1
      rw [e] at c2
      rw [vp_in_iff]
      rw [Int32.lt_iff_toInt_lt] at c1
      rw [Int32.le_iff_toInt_le, nI_toInt (by omega)] at c2
      have e0 : (0 : Int32).toInt = 0 := rfl
      omega
theorem fd_tg {σ : FDS} {p : Int32} {v : Bool} (h : v = true) (hv : v = (if p = (-1) then true else if (fv_Dk_isUrl σ p) = true then true else false)) : p = -1 ∨ vp_in p 48 := by
  by_cases c1 : p = -1
  · exact Or.inl c1
  · rw [if_neg c1, h] at hv
    by_cases c2 : fv_Dk_isUrl σ p = true
    · exact Or.inr (fd_url c2)
    · rw [if_neg c2] at hv
      cases hv
theorem fd_cmpg {o : Option Ordering} (h : ¬ 0 ≤ Op.cmpValue o .g) : o = some .lt := by
  cases o with
  | none => exact absurd (by decide) h
  | some r =>
    cases r with
    | lt => rfl
    | eq => exact absurd (by decide) h
    | gt => exact absurd (by decide) h
theorem fd_cmpg2 {o : Option Ordering} (h : ¬ 0 < Op.cmpValue o .g) : o = some .lt ∨ o = some .eq := by
  cases o with
  | none => exact absurd (by decide) h
  | some r =>
    cases r with
    | lt => exact Or.inl rfl
    | eq => exact Or.inr rfl
    | gt => exact absurd (by decide) h
theorem fd_cmpl {o : Option Ordering} (h : ¬ Op.cmpValue o .l < 0) : o = some .gt ∨ o = some .eq := by
  cases o with
  | none => exact absurd (by decide) h
  | some r =>
    cases r with
    | lt => exact absurd (by decide) h
    | eq => exact Or.inr rfl
    | gt => exact Or.inl rfl
theorem fd_cmpl2 {o : Option Ordering} (h : ¬ Op.cmpValue o .l ≤ 0) : o = some .gt ∨ o = some .eq := by
  cases o with
  | none => exact absurd (by decide) h
  | some r =>
    cases r with
    | lt => exact absurd (by decide) h
    | eq => exact absurd (by decide) h
    | gt => exact Or.inl rfl
theorem fd_fin {a b : UInt64} (hb : b.toNat < 9218868437227405312) (h1 : FP.dcmp a b = some .lt ∨ FP.dcmp a b = some .eq) (h2 : FP.dcmp a FP.dconst0 = some .gt ∨ FP.dcmp a FP.dconst0 = some .eq) : FP.Core.DFin a := by
  have hab : FP.Core.val64 a ≠ .nan ∧ FP.Core.val64 b ≠ .nan := h1.elim FP.Core.dcmp_some FP.Core.dcmp_some
  have h0 : FP.Core.val64 FP.dconst0 ≠ .nan := (h2.elim FP.Core.dcmp_some FP.Core.dcmp_some).2
  have k1 := FP.Core.dcmp_key hab.1 hab.2
  have k2 := FP.Core.dcmp_key hab.1 h0
  have l1 : FP.Core.dkey a ≤ FP.Core.dkey b := by
    rcases h1 with h | h
    · have h : FP.Core.dcmp a b = some .lt := h
      rw [k1, Option.some.injEq, FP.Core.compare_lt_iff] at h
      omega
    · have h : FP.Core.dcmp a b = some .eq := h
      rw [k1, Option.some.injEq, FP.Core.compare_eq_iff] at h
      omega
  have l2 : FP.Core.dkey FP.dconst0 ≤ FP.Core.dkey a := by
    rcases h2 with h | h
    · have h : FP.Core.dcmp a FP.dconst0 = some .gt := h
      rw [k2, Option.some.injEq, FP.Core.compare_gt_iff] at h
      omega
    · have h : FP.Core.dcmp a FP.dconst0 = some .eq := h
      rw [k2, Option.some.injEq, FP.Core.compare_eq_iff] at h
      omega
  have z0 : FP.Core.dkey FP.dconst0 = 0 := by decide
  rw [FP.Core.fin_bits]
  have ha := a.toNat_lt
  rw [z0] at l2
  unfold FP.Core.dkey at l1 l2
  have hb2 : ¬ 2 ^ 63 ≤ b.toNat := by omega
  rw [if_neg hb2] at l1
  by_cases c : 2 ^ 63 ≤ a.toNat
  · rw [if_pos c] at l1 l2
    omega
  · rw [if_neg c] at l1 l2
    omega
theorem fd_agef {p : UInt64} {v : Bool} (h : v = true) (hv : v = (if (Op.cmpValue (FP.dcmp p FP.dconst0) .l) < 0 then false else if 0 < (Op.cmpValue (FP.dcmp p 4636737291354636288) .g) then false else true)) : FP.Core.DFin p := by
  rw [h] at hv
  by_cases c1 : (Op.cmpValue (FP.dcmp p FP.dconst0) .l) < 0
  · rw [if_pos c1] at hv
    cases hv
  · rw [if_neg c1] at hv
    by_cases c2 : 0 < (Op.cmpValue (FP.dcmp p 4636737291354636288) .g)
    · rw [if_pos c2] at hv
      cases hv
    · exact fd_fin (by decide) (fd_cmpg2 c2) (fd_cmpl c1)
theorem fd_tickf {p : UInt64} {v : Bool} (h : v = true) (hv : v = (if (Op.cmpValue (FP.dcmp p FP.dconst0) .l) ≤ 0 then false else if 0 < (Op.cmpValue (FP.dcmp p 4652007308841189376) .g) then false else true)) : FP.Core.DFin p := by
  rw [h] at hv
  by_cases c1 : (Op.cmpValue (FP.dcmp p FP.dconst0) .l) ≤ 0
  · rw [if_pos c1] at hv
    cases hv
  · rw [if_neg c1] at hv
    by_cases c2 : 0 < (Op.cmpValue (FP.dcmp p 4652007308841189376) .g)
    · rw [if_pos c2] at hv
      cases hv
    · exact fd_fin (by decide) (fd_cmpg2 c2) (fd_cmpl2 c1)
theorem fd_tickn {σ : FDS} {p : UInt64} {v : Bool} (hI : fd_Inv σ) (h : v = true) (hv : v = (if (Op.cmpValue (FP.dcmp p FP.dconst0) .l) ≤ 0 then false else if 0 < (Op.cmpValue (FP.dcmp p 4652007308841189376) .g) then false else true)) : FP.dIsNaN (FP.dadd (fd_dT σ) p) = false := FP.Core.dadd_out hI.2.2.2.2.1 (fd_tickf h hv)
end
section
/-! the desk: its face -/
def fv_Dk_serve_j2 (σ : FDS) (p1 : Int32) (p2 : Int32) (p3 : Int32) (p4 : Int32) (v1 : Bool) (v2 : Bool) : Int32 × FDS := if (fv_Dk_isUrl σ p1) = true then if v1 = true then if v2 = true then (0, fd_srI (fd_srI (fd_srI σ p1.toNatClampNeg 0 p2) p1.toNatClampNeg 1 p3) p1.toNatClampNeg 2 p4) else (1, σ) else (1, σ) else (1, σ)
def fv_Dk_serve_j1 (σ : FDS) (p1 : Int32) (p2 : Int32) (p3 : Int32) (p4 : Int32) (v1 : Bool) : Int32 × FDS := fv_Dk_serve_j2 σ p1 p2 p3 p4 v1 (if p4 = (-1) then true else if (fv_Dk_isUrl σ p4) = true then true else false)
def fv_Dk_serve (σ : FDS) (p1 : Int32) (p2 : Int32) (p3 : Int32) (p4 : Int32) : Int32 × FDS := fv_Dk_serve_j1 σ p1 p2 p3 p4 (if p2 < 200 then false else if 599 < p2 then false else true)
set_option maxHeartbeats 4000000 in
set_option maxRecDepth 100000 in
theorem fc_Dk_serve (l : Launch) (hst : l.stackTraces = false) (D : va_G) (cR cP : ClassId) (ad : Nat → Nat) (sz : Nat) (σ : FDS) (p1 : Int32) (p2 : Int32) (p3 : Int32) (p4 : Int32) (hI : fd_Inv σ)  : vx_Met l fy_Dk_serve (fw_Dk_serve :: fb_tbl) ({ frames := 6, cells := 1, slots := 6, locals := 81 } : Room) (fd_Pcx D cR cP ad [.ref (ad 0), .int p1, .int p2, .int p3, .int p4] σ sz) ((fun A => va_Qv (fun u : FDS => fv_Dk_serve σ p1 p2 p3 p4 = (0, u) ∧ fd_Inv u) (fd_B D cR cP ad A) A) (va_A (fd_w cR cP ad σ) sz)) (fd_XC D cR cP ad (fun E u => (∃ c : Int32, fd_isx c E ∧ fv_Dk_serve σ p1 p2 p3 p4 = (c, u)) ∧ fd_Inv u) (va_A (fd_w cR cP ad σ) sz)) 1 6 (va_A (fd_w cR cP ad σ) sz) := by
  refine fd_xofW (cc := fb_Dk_serve) (maxL := 8) (ret := none) (Qf := fun A => va_Qv (fun u : FDS => fv_Dk_serve σ p1 p2 p3 p4 = (0, u) ∧ fd_Inv u) (fd_B D cR cP ad A) A) (XC := fd_XC D cR cP ad (fun E u => (∃ c : Int32, fd_isx c E ∧ fv_Dk_serve σ p1 p2 p3 p4 = (c, u)) ∧ fd_Inv u)) (by decide) (Nat.le_of_ble_eq_true rfl) ?_
  intro p e s m args below meth c A Q hQ hx hb hr hts hown hlocks hml hP hK hD hS hA hN hX hZ hex ls hl
  have hown : s.vm.findClass fn_R_Dk = some m.cls := hown
  have hl : lv_has ls 8 [(0, .ref (ad 0)), (1, .int p1), (2, .int p2), (3, .int p3), (4, .int p4)] := hl
  suffices hgo : ∀ (H : Heap) (locs : List Loc), va_P D fn_cl (fd_w cR cP ad σ) H → va_D A (fd_w cR cP ad σ) → va_S A s.heap H locs → W p l e ({ frames := 6, cells := 1, slots := 6, locals := 81 } : Room) s m args below meth c H locs 0 0 Q (F0 m 0 ls []) from hgo _ _ hP hD hS
  clear hP hD hS
  intro H locs hP hD hS
  refine lv_iload_n hx hb fx_Dk_serve_0 rfl (lv_at hl 2 rfl) ?_
  refine lv_sipush (v := 200) hx hb fx_Dk_serve_1 (by decide) ?_
  have hJ1 : ∀ (H : Heap) (locs : List Loc), va_P D fn_cl (fd_w cR cP ad σ) H → va_D A (fd_w cR cP ad σ) → va_S A s.heap H locs → ∀ (v1 : Bool), v1 = (if p2 < 200 then false else if 599 < p2 then false else true) → W p l e ({ frames := 6, cells := 1, slots := 6, locals := 81 } : Room) s m args below meth c H locs 0 0 Q (F0 m 19 ls [.int (fd_bi v1)]) := by
    intro H locs hP hD hS v1 hv1
    refine lv_istore (lv' := [(5, .int (fd_bi v1)), (0, .ref (ad 0)), (1, .int p1), (2, .int p2), (3, .int p3), (4, .int p4)]) hx hb fx_Dk_serve_19 hl (by decide) rfl (fun ls hl => ?_)
    refine lv_iload hx hb fx_Dk_serve_21 (lv_at hl 5 rfl) ?_
    refine lv_iconst (v := (-1)) hx hb fx_Dk_serve_23 (by decide) ?_
    have hJ2 : ∀ (H : Heap) (locs : List Loc), va_P D fn_cl (fd_w cR cP ad σ) H → va_D A (fd_w cR cP ad σ) → va_S A s.heap H locs → ∀ (v2 : Bool), v2 = (if p4 = (-1) then true else if (fv_Dk_isUrl σ p4) = true then true else false) → W p l e ({ frames := 6, cells := 1, slots := 6, locals := 81 } : Room) s m args below meth c H locs 0 0 Q (F0 m 40 ls [.int (fd_bi v2)]) := by
      intro H locs hP hD hS v2 hv2
      refine lv_istore (lv' := [(6, .int (fd_bi v2)), (5, .int (fd_bi v1)), (0, .ref (ad 0)), (1, .int p1), (2, .int p2), (3, .int p3), (4, .int p4)]) hx hb fx_Dk_serve_40 hl (by decide) rfl (fun ls hl => ?_)
      refine lv_iload_n hx hb fx_Dk_serve_42 rfl (lv_at hl 3 rfl) ?_
      refine fd_callz (va_runS (As := [.int p1]) (rest := []) ⟨hx, hb, hml, hown, hts⟩ (fc_Dk_isUrl l D cR cP ad H.size σ p1 hI ) ⟨callB_of 1 hts (fb_good fm_Dk_isUrl) rfl rfl rfl (hts _ (List.mem_cons_of_mem _ fq_1)) (hts _ (List.mem_cons_of_mem _ fq_240)) (by decide +kernel) ⟨Nat.le_of_ble_eq_true rfl, Nat.le_of_ble_eq_true rfl⟩, (hts _ (List.mem_cons_of_mem _ fq_241))⟩ (fd_preS hP hK hD hN) rfl rfl hl.1 rfl (lv_room (Nat.le_of_ble_eq_true rfl)) fx_Dk_serve_43 ⟨Nat.le_of_ble_eq_true rfl, Nat.le_of_ble_eq_true rfl⟩) hD hS hA (fun H locs hP hD hS => ?_)
      refine fd_ifeq (tgt := 59) hx hb fx_Dk_serve_46 (by decide) (fun c4 => ?_) (fun c4 => ?_)
      · exact fd_throw ft_g1 ft_n1 ft_o1 (by decide) fq_243 fq_10 (u := σ) hQ hx hb hst hown hts hX hZ (hl.1.trans hml.symm) hex hlocks ⟨Nat.le_of_ble_eq_true rfl, Nat.le_of_ble_eq_true rfl, Nat.le_of_ble_eq_true rfl, Nat.le_of_ble_eq_true rfl⟩ ⟨⟨1, Or.inl ⟨rfl, rfl⟩, (by rw [fv_Dk_serve, ← hv1, fv_Dk_serve_j1, ← hv2, fv_Dk_serve_j2, if_neg c4])⟩, hI⟩ hP hD hS fx_Dk_serve_59 fx_Dk_serve_62 fx_Dk_serve_63 fx_Dk_serve_66
      · refine lv_iload hx hb fx_Dk_serve_49 (lv_at hl 1 rfl) ?_
        refine fd_ifeq (tgt := 59) hx hb fx_Dk_serve_51 (by decide) (fun c5 => ?_) (fun c5 => ?_)
        · exact fd_throw ft_g1 ft_n1 ft_o1 (by decide) fq_243 fq_10 (u := σ) hQ hx hb hst hown hts hX hZ (hl.1.trans hml.symm) hex hlocks ⟨Nat.le_of_ble_eq_true rfl, Nat.le_of_ble_eq_true rfl, Nat.le_of_ble_eq_true rfl, Nat.le_of_ble_eq_true rfl⟩ ⟨⟨1, Or.inl ⟨rfl, rfl⟩, (by rw [fv_Dk_serve, ← hv1, fv_Dk_serve_j1, ← hv2, fv_Dk_serve_j2, if_pos c4, if_neg c5])⟩, hI⟩ hP hD hS fx_Dk_serve_59 fx_Dk_serve_62 fx_Dk_serve_63 fx_Dk_serve_66
        · refine lv_iload hx hb fx_Dk_serve_54 (lv_at hl 0 rfl) ?_
          refine fd_ifne (tgt := 67) hx hb fx_Dk_serve_56 (by decide) (fun c6 => ?_) (fun c6 => ?_)
          · refine lv_aload_n hx hb fx_Dk_serve_67 rfl (lv_at hl 2 rfl) ?_
            refine va_get (D := D) (ci := 4) (v := .ref (ad 57)) (C := fn_R_Dk) (T := fn_T_Dk) (N := 9) hx hb hts fn_j_Dk hown hK hP 0 rfl rfl 0 (by decide) (hts _ (List.mem_cons_of_mem _ fq_204)) (fun _ h9 => h9) rfl fx_Dk_serve_68 ?_
            refine lv_iload_n hx hb fx_Dk_serve_71 rfl (lv_at hl 3 rfl) ?_
            have hb7 : vp_in p1 48 := fd_url c4
            refine va_aldq (D := D) hx hb hK hP 3 0 rfl rfl hb7 fx_Dk_serve_72 ?_
            refine W.eq (g2 := F0 m 73 ls (.ref (ad (3 + p1.toNatClampNeg)) :: [])) rfl ?_
            refine lv_astore (lv' := [(7, .ref (ad (3 + p1.toNatClampNeg))), (6, .int (fd_bi v2)), (5, .int (fd_bi v1)), (0, .ref (ad 0)), (1, .int p1), (2, .int p2), (3, .int p3), (4, .int p4)]) hx hb fx_Dk_serve_73 hl (by decide) rfl (fun ls hl => ?_)
            refine lv_aload hx hb fx_Dk_serve_75 (lv_at hl 0 rfl) ?_
            refine lv_iload_n hx hb fx_Dk_serve_77 rfl (lv_at hl 5 rfl) ?_
            refine va_putN (D := D) (ci := 3) (v := .int p2) (ty := .int) (C := fn_R_Rs) (T := fn_T_Rs) (N := 13) hx hb hts fn_j_Rs fn_t_Rs fn_k_Rs fn_n_Rs hown hK hP hD hS (5 + p1.toNatClampNeg) (fd_w_res (fd_lt hb7)) rfl 0 (by decide) (va_Nw.use rfl (hN _ fq_29)) (fun _ h9 => h9) rfl (by decide +kernel) rfl rfl (Nat.le_of_ble_eq_true rfl) fx_Dk_serve_78 (fun H locs hP hD hS => ?_)
            rw [fd_set_Rs_0 (fd_lt hb7)] at hP hD
            have hI8 : fd_Inv (fd_srI σ p1.toNatClampNeg 0 p2) := fd_inv_srI (by decide) hI
            refine lv_aload hx hb fx_Dk_serve_81 (lv_at hl 0 rfl) ?_
            refine lv_iload_n hx hb fx_Dk_serve_83 rfl (lv_at hl 6 rfl) ?_
            refine va_putN (D := D) (ci := 3) (v := .int p3) (ty := .int) (C := fn_R_Rs) (T := fn_T_Rs) (N := 13) hx hb hts fn_j_Rs fn_t_Rs fn_k_Rs fn_n_Rs hown hK hP hD hS (5 + p1.toNatClampNeg) (fd_w_res (fd_lt hb7)) rfl 1 (by decide) (va_Nw.use rfl (hN _ fq_31)) (fun _ h9 => h9) rfl (by decide +kernel) rfl rfl (Nat.le_of_ble_eq_true rfl) fx_Dk_serve_84 (fun H locs hP hD hS => ?_)
            rw [fd_set_Rs_1 (fd_lt hb7)] at hP hD
            have hI9 : fd_Inv (fd_srI (fd_srI σ p1.toNatClampNeg 0 p2) p1.toNatClampNeg 1 p3) := fd_inv_srI (by decide) hI8
            refine lv_aload hx hb fx_Dk_serve_87 (lv_at hl 0 rfl) ?_
            refine lv_iload hx hb fx_Dk_serve_89 (lv_at hl 7 rfl) ?_
            refine va_putN (D := D) (ci := 3) (v := .int p4) (ty := .int) (C := fn_R_Rs) (T := fn_T_Rs) (N := 13) hx hb hts fn_j_Rs fn_t_Rs fn_k_Rs fn_n_Rs hown hK hP hD hS (5 + p1.toNatClampNeg) (fd_w_res (fd_lt hb7)) rfl 2 (by decide) (va_Nw.use rfl (hN _ fq_34)) (fun _ h9 => h9) rfl (by decide +kernel) rfl rfl (Nat.le_of_ble_eq_true rfl) fx_Dk_serve_91 (fun H locs hP hD hS => ?_)
            rw [fd_set_Rs_2 (fd_lt hb7)] at hP hD
            have hI10 : fd_Inv (fd_srI (fd_srI (fd_srI σ p1.toNatClampNeg 0 p2) p1.toNatClampNeg 1 p3) p1.toNatClampNeg 2 p4) := fd_inv_target (fd_tg c6 hv2) hI9
            exact fd_xvret (u := fd_srI (fd_srI (fd_srI σ p1.toNatClampNeg 0 p2) p1.toNatClampNeg 1 p3) p1.toNatClampNeg 2 p4) hQ hx hb hr ⟨by rw [fv_Dk_serve, ← hv1, fv_Dk_serve_j1, ← hv2, fv_Dk_serve_j2, if_pos c4, if_pos c5, if_pos c6], hI10⟩ hP hD hS fx_Dk_serve_94 hlocks
          · exact fd_throw ft_g1 ft_n1 ft_o1 (by decide) fq_243 fq_10 (u := σ) hQ hx hb hst hown hts hX hZ (hl.1.trans hml.symm) hex hlocks ⟨Nat.le_of_ble_eq_true rfl, Nat.le_of_ble_eq_true rfl, Nat.le_of_ble_eq_true rfl, Nat.le_of_ble_eq_true rfl⟩ ⟨⟨1, Or.inl ⟨rfl, rfl⟩, (by rw [fv_Dk_serve, ← hv1, fv_Dk_serve_j1, ← hv2, fv_Dk_serve_j2, if_pos c4, if_pos c5, if_neg c6])⟩, hI⟩ hP hD hS fx_Dk_serve_59 fx_Dk_serve_62 fx_Dk_serve_63 fx_Dk_serve_66
    refine lv_icmp_eq (tgt := 35) hx hb fx_Dk_serve_24 (by decide) (fun c11 => ?_) (fun c11 => ?_)
    · refine lv_iconst (v := 1) hx hb fx_Dk_serve_35 (by decide) ?_
      refine lv_goto (tgt := 40) hx hb fx_Dk_serve_36 (by decide) ?_
      exact hJ2 H locs hP hD hS true (by rw [if_pos c11])
    · refine lv_iload hx hb fx_Dk_serve_27 (lv_at hl 5 rfl) ?_
      refine fd_callz (va_runS (As := [.int p4]) (rest := []) ⟨hx, hb, hml, hown, hts⟩ (fc_Dk_isUrl l D cR cP ad H.size σ p4 hI ) ⟨callB_of 1 hts (fb_good fm_Dk_isUrl) rfl rfl rfl (hts _ (List.mem_cons_of_mem _ fq_1)) (hts _ (List.mem_cons_of_mem _ fq_240)) (by decide +kernel) ⟨Nat.le_of_ble_eq_true rfl, Nat.le_of_ble_eq_true rfl⟩, (hts _ (List.mem_cons_of_mem _ fq_241))⟩ (fd_preS hP hK hD hN) rfl rfl hl.1 rfl (lv_room (Nat.le_of_ble_eq_true rfl)) fx_Dk_serve_29 ⟨Nat.le_of_ble_eq_true rfl, Nat.le_of_ble_eq_true rfl⟩) hD hS hA (fun H locs hP hD hS => ?_)
      refine fd_ifeq (tgt := 39) hx hb fx_Dk_serve_32 (by decide) (fun c13 => ?_) (fun c13 => ?_)
      · refine lv_iconst (v := 0) hx hb fx_Dk_serve_39 (by decide) ?_
        exact hJ2 H locs hP hD hS false (by rw [if_neg c11, if_neg c13])
      · refine lv_iconst (v := 1) hx hb fx_Dk_serve_35 (by decide) ?_
        refine lv_goto (tgt := 40) hx hb fx_Dk_serve_36 (by decide) ?_
        exact hJ2 H locs hP hD hS true (by rw [if_neg c11, if_pos c13])
  refine lv_icmp_lt (tgt := 18) hx hb fx_Dk_serve_4 (by decide) (fun c14 => ?_) (fun c14 => ?_)
  · refine lv_iconst (v := 0) hx hb fx_Dk_serve_18 (by decide) ?_
    exact hJ1 H locs hP hD hS false (by rw [if_pos c14])
  · refine lv_iload_n hx hb fx_Dk_serve_7 rfl (lv_at hl 2 rfl) ?_
    refine lv_sipush (v := 599) hx hb fx_Dk_serve_8 (by decide) ?_
    refine lv_icmp_gt (tgt := 18) hx hb fx_Dk_serve_11 (by decide) (fun c15 => ?_) (fun c15 => ?_)
    · refine lv_iconst (v := 0) hx hb fx_Dk_serve_18 (by decide) ?_
      exact hJ1 H locs hP hD hS false (by rw [if_neg c14, if_pos c15])
    · refine lv_iconst (v := 1) hx hb fx_Dk_serve_14 (by decide) ?_
      refine lv_goto (tgt := 19) hx hb fx_Dk_serve_15 (by decide) ?_
      exact hJ1 H locs hP hD hS true (by rw [if_neg c14, if_neg c15])
def fv_Dk_headers (σ : FDS) (p1 : Int32) (p2 : Int32) (p3 : Int32) : Int32 × FDS := if (fv_Dk_isUrl σ p1) = true then if (fv_Dk_isFourBits σ p2) = true then if (fv_Dk_isFourBits σ p3) = true then (0, fd_srI (fd_srI σ p1.toNatClampNeg 3 p2) p1.toNatClampNeg 4 p3) else (1, σ) else (1, σ) else (1, σ)
set_option maxHeartbeats 4000000 in
set_option maxRecDepth 100000 in
theorem fc_Dk_headers (l : Launch) (hst : l.stackTraces = false) (D : va_G) (cR cP : ClassId) (ad : Nat → Nat) (sz : Nat) (σ : FDS) (p1 : Int32) (p2 : Int32) (p3 : Int32) (hI : fd_Inv σ)  : vx_Met l fy_Dk_headers (fw_Dk_headers :: fb_tbl) ({ frames := 6, cells := 1, slots := 6, locals := 81 } : Room) (fd_Pcx D cR cP ad [.ref (ad 0), .int p1, .int p2, .int p3] σ sz) ((fun A => va_Qv (fun u : FDS => fv_Dk_headers σ p1 p2 p3 = (0, u) ∧ fd_Inv u) (fd_B D cR cP ad A) A) (va_A (fd_w cR cP ad σ) sz)) (fd_XC D cR cP ad (fun E u => (∃ c : Int32, fd_isx c E ∧ fv_Dk_headers σ p1 p2 p3 = (c, u)) ∧ fd_Inv u) (va_A (fd_w cR cP ad σ) sz)) 1 6 (va_A (fd_w cR cP ad σ) sz) := by
  refine fd_xofW (cc := fb_Dk_headers) (maxL := 5) (ret := none) (Qf := fun A => va_Qv (fun u : FDS => fv_Dk_headers σ p1 p2 p3 = (0, u) ∧ fd_Inv u) (fd_B D cR cP ad A) A) (XC := fd_XC D cR cP ad (fun E u => (∃ c : Int32, fd_isx c E ∧ fv_Dk_headers σ p1 p2 p3 = (c, u)) ∧ fd_Inv u)) (by decide) (Nat.le_of_ble_eq_true rfl) ?_
  intro p e s m args below meth c A Q hQ hx hb hr hts hown hlocks hml hP hK hD hS hA hN hX hZ hex ls hl
  have hown : s.vm.findClass fn_R_Dk = some m.cls := hown
  have hl : lv_has ls 5 [(0, .ref (ad 0)), (1, .int p1), (2, .int p2), (3, .int p3)] := hl
  suffices hgo : ∀ (H : Heap) (locs : List Loc), va_P D fn_cl (fd_w cR cP ad σ) H → va_D A (fd_w cR cP ad σ) → va_S A s.heap H locs → W p l e ({ frames := 6, cells := 1, slots := 6, locals := 81 } : Room) s m args below meth c H locs 0 0 Q (F0 m 0 ls []) from hgo _ _ hP hD hS
  clear hP hD hS
  intro H locs hP hD hS
  refine lv_iload_n hx hb fx_Dk_headers_0 rfl (lv_at hl 1 rfl) ?_
  refine fd_callz (va_runS (As := [.int p1]) (rest := []) ⟨hx, hb, hml, hown, hts⟩ (fc_Dk_isUrl l D cR cP ad H.size σ p1 hI ) ⟨callB_of 1 hts (fb_good fm_Dk_isUrl) rfl rfl rfl (hts _ (List.mem_cons_of_mem _ fq_1)) (hts _ (List.mem_cons_of_mem _ fq_240)) (by decide +kernel) ⟨Nat.le_of_ble_eq_true rfl, Nat.le_of_ble_eq_true rfl⟩, (hts _ (List.mem_cons_of_mem _ fq_241))⟩ (fd_preS hP hK hD hN) rfl rfl hl.1 rfl (lv_room (Nat.le_of_ble_eq_true rfl)) fx_Dk_headers_1 ⟨Nat.le_of_ble_eq_true rfl, Nat.le_of_ble_eq_true rfl⟩) hD hS hA (fun H locs hP hD hS => ?_)
  refine fd_ifeq (tgt := 21) hx hb fx_Dk_headers_4 (by decide) (fun c2 => ?_) (fun c2 => ?_)
  · exact fd_throw ft_g1 ft_n1 ft_o1 (by decide) fq_243 fq_10 (u := σ) hQ hx hb hst hown hts hX hZ (hl.1.trans hml.symm) hex hlocks ⟨Nat.le_of_ble_eq_true rfl, Nat.le_of_ble_eq_true rfl, Nat.le_of_ble_eq_true rfl, Nat.le_of_ble_eq_true rfl⟩ ⟨⟨1, Or.inl ⟨rfl, rfl⟩, (by rw [fv_Dk_headers, if_neg c2])⟩, hI⟩ hP hD hS fx_Dk_headers_21 fx_Dk_headers_24 fx_Dk_headers_25 fx_Dk_headers_28
  · refine lv_iload_n hx hb fx_Dk_headers_7 rfl (lv_at hl 2 rfl) ?_
    refine fd_callz (va_runS (As := [.int p2]) (rest := []) ⟨hx, hb, hml, hown, hts⟩ (fc_Dk_isFourBits l D cR cP ad H.size σ p2 hI ) ⟨callB_of 1 hts (fb_good fm_Dk_isFourBits) rfl rfl rfl (hts _ (List.mem_cons_of_mem _ fq_1)) (hts _ (List.mem_cons_of_mem _ fq_313)) (by decide +kernel) ⟨Nat.le_of_ble_eq_true rfl, Nat.le_of_ble_eq_true rfl⟩, (hts _ (List.mem_cons_of_mem _ fq_314))⟩ (fd_preS hP hK hD hN) rfl rfl hl.1 rfl (lv_room (Nat.le_of_ble_eq_true rfl)) fx_Dk_headers_8 ⟨Nat.le_of_ble_eq_true rfl, Nat.le_of_ble_eq_true rfl⟩) hD hS hA (fun H locs hP hD hS => ?_)
    refine fd_ifeq (tgt := 21) hx hb fx_Dk_headers_11 (by decide) (fun c4 => ?_) (fun c4 => ?_)
    · exact fd_throw ft_g1 ft_n1 ft_o1 (by decide) fq_243 fq_10 (u := σ) hQ hx hb hst hown hts hX hZ (hl.1.trans hml.symm) hex hlocks ⟨Nat.le_of_ble_eq_true rfl, Nat.le_of_ble_eq_true rfl, Nat.le_of_ble_eq_true rfl, Nat.le_of_ble_eq_true rfl⟩ ⟨⟨1, Or.inl ⟨rfl, rfl⟩, (by rw [fv_Dk_headers, if_pos c2, if_neg c4])⟩, hI⟩ hP hD hS fx_Dk_headers_21 fx_Dk_headers_24 fx_Dk_headers_25 fx_Dk_headers_28
    · refine lv_iload_n hx hb fx_Dk_headers_14 rfl (lv_at hl 3 rfl) ?_
      refine fd_callz (va_runS (As := [.int p3]) (rest := []) ⟨hx, hb, hml, hown, hts⟩ (fc_Dk_isFourBits l D cR cP ad H.size σ p3 hI ) ⟨callB_of 1 hts (fb_good fm_Dk_isFourBits) rfl rfl rfl (hts _ (List.mem_cons_of_mem _ fq_1)) (hts _ (List.mem_cons_of_mem _ fq_313)) (by decide +kernel) ⟨Nat.le_of_ble_eq_true rfl, Nat.le_of_ble_eq_true rfl⟩, (hts _ (List.mem_cons_of_mem _ fq_314))⟩ (fd_preS hP hK hD hN) rfl rfl hl.1 rfl (lv_room (Nat.le_of_ble_eq_true rfl)) fx_Dk_headers_15 ⟨Nat.le_of_ble_eq_true rfl, Nat.le_of_ble_eq_true rfl⟩) hD hS hA (fun H locs hP hD hS => ?_)
      refine fd_ifne (tgt := 29) hx hb fx_Dk_headers_18 (by decide) (fun c6 => ?_) (fun c6 => ?_)
      · refine lv_aload_n hx hb fx_Dk_headers_29 rfl (lv_at hl 0 rfl) ?_
        refine va_get (D := D) (ci := 4) (v := .ref (ad 57)) (C := fn_R_Dk) (T := fn_T_Dk) (N := 9) hx hb hts fn_j_Dk hown hK hP 0 rfl rfl 0 (by decide) (hts _ (List.mem_cons_of_mem _ fq_204)) (fun _ h9 => h9) rfl fx_Dk_headers_30 ?_
        refine lv_iload_n hx hb fx_Dk_headers_33 rfl (lv_at hl 1 rfl) ?_
        have hb7 : vp_in p1 48 := fd_url c2
        refine va_aldq (D := D) hx hb hK hP 3 0 rfl rfl hb7 fx_Dk_headers_34 ?_
        refine W.eq (g2 := F0 m 35 ls (.ref (ad (3 + p1.toNatClampNeg)) :: [])) rfl ?_
        refine lv_astore (lv' := [(4, .ref (ad (3 + p1.toNatClampNeg))), (0, .ref (ad 0)), (1, .int p1), (2, .int p2), (3, .int p3)]) hx hb fx_Dk_headers_35 hl (by decide) rfl (fun ls hl => ?_)
        refine lv_aload hx hb fx_Dk_headers_37 (lv_at hl 0 rfl) ?_
        refine lv_iload_n hx hb fx_Dk_headers_39 rfl (lv_at hl 3 rfl) ?_
        refine va_putN (D := D) (ci := 3) (v := .int p2) (ty := .int) (C := fn_R_Rs) (T := fn_T_Rs) (N := 13) hx hb hts fn_j_Rs fn_t_Rs fn_k_Rs fn_n_Rs hown hK hP hD hS (5 + p1.toNatClampNeg) (fd_w_res (fd_lt hb7)) rfl 3 (by decide) (va_Nw.use rfl (hN _ fq_36)) (fun _ h9 => h9) rfl (by decide +kernel) rfl rfl (Nat.le_of_ble_eq_true rfl) fx_Dk_headers_40 (fun H locs hP hD hS => ?_)
        rw [fd_set_Rs_3 (fd_lt hb7)] at hP hD
        have hI8 : fd_Inv (fd_srI σ p1.toNatClampNeg 3 p2) := fd_inv_srI (by decide) hI
        refine lv_aload hx hb fx_Dk_headers_43 (lv_at hl 0 rfl) ?_
        refine lv_iload_n hx hb fx_Dk_headers_45 rfl (lv_at hl 4 rfl) ?_
        refine va_putN (D := D) (ci := 3) (v := .int p3) (ty := .int) (C := fn_R_Rs) (T := fn_T_Rs) (N := 13) hx hb hts fn_j_Rs fn_t_Rs fn_k_Rs fn_n_Rs hown hK hP hD hS (5 + p1.toNatClampNeg) (fd_w_res (fd_lt hb7)) rfl 4 (by decide) (va_Nw.use rfl (hN _ fq_38)) (fun _ h9 => h9) rfl (by decide +kernel) rfl rfl (Nat.le_of_ble_eq_true rfl) fx_Dk_headers_46 (fun H locs hP hD hS => ?_)
        rw [fd_set_Rs_4 (fd_lt hb7)] at hP hD
        have hI9 : fd_Inv (fd_srI (fd_srI σ p1.toNatClampNeg 3 p2) p1.toNatClampNeg 4 p3) := fd_inv_srI (by decide) hI8
        exact fd_xvret (u := fd_srI (fd_srI σ p1.toNatClampNeg 3 p2) p1.toNatClampNeg 4 p3) hQ hx hb hr ⟨by rw [fv_Dk_headers, if_pos c2, if_pos c4, if_pos c6], hI9⟩ hP hD hS fx_Dk_headers_49 hlocks
      · exact fd_throw ft_g1 ft_n1 ft_o1 (by decide) fq_243 fq_10 (u := σ) hQ hx hb hst hown hts hX hZ (hl.1.trans hml.symm) hex hlocks ⟨Nat.le_of_ble_eq_true rfl, Nat.le_of_ble_eq_true rfl, Nat.le_of_ble_eq_true rfl, Nat.le_of_ble_eq_true rfl⟩ ⟨⟨1, Or.inl ⟨rfl, rfl⟩, (by rw [fv_Dk_headers, if_pos c2, if_pos c4, if_neg c6])⟩, hI⟩ hP hD hS fx_Dk_headers_21 fx_Dk_headers_24 fx_Dk_headers_25 fx_Dk_headers_28
def fv_Dk_allow (σ : FDS) (p1 : Int32) (p2 : Int32) (p3 : Bool) : Int32 × Int32 × FDS := if (fv_Dk_isUrl σ p1) = true then if p2 < 0 then (1, 0, σ) else if p2 ≤ 255 then (0, fd_rI σ p1.toNatClampNeg 5, fd_srB (fd_srI σ p1.toNatClampNeg 5 p2) p1.toNatClampNeg 6 p3) else (1, 0, σ) else (1, 0, σ)
set_option maxHeartbeats 4000000 in
set_option maxRecDepth 100000 in
theorem fc_Dk_allow (l : Launch) (hst : l.stackTraces = false) (D : va_G) (cR cP : ClassId) (ad : Nat → Nat) (sz : Nat) (σ : FDS) (p1 : Int32) (p2 : Int32) (p3 : Bool) (hI : fd_Inv σ)  : vx_Met l fy_Dk_allow (fw_Dk_allow :: fb_tbl) ({ frames := 6, cells := 1, slots := 6, locals := 81 } : Room) (fd_Pcx D cR cP ad [.ref (ad 0), .int p1, .int p2, .int (fd_bi p3)] σ sz) ((fun A => va_Qi (fun (r : Int32) (u : FDS) => fv_Dk_allow σ p1 p2 p3 = (0, r, u) ∧ fd_Inv u) (fd_B D cR cP ad A) A) (va_A (fd_w cR cP ad σ) sz)) (fd_XC D cR cP ad (fun E u => (∃ c : Int32, fd_isx c E ∧ fv_Dk_allow σ p1 p2 p3 = (c, 0, u)) ∧ fd_Inv u) (va_A (fd_w cR cP ad σ) sz)) 1 6 (va_A (fd_w cR cP ad σ) sz) := by
  refine fd_xofW (cc := fb_Dk_allow) (maxL := 6) (ret := (some .int)) (Qf := fun A => va_Qi (fun (r : Int32) (u : FDS) => fv_Dk_allow σ p1 p2 p3 = (0, r, u) ∧ fd_Inv u) (fd_B D cR cP ad A) A) (XC := fd_XC D cR cP ad (fun E u => (∃ c : Int32, fd_isx c E ∧ fv_Dk_allow σ p1 p2 p3 = (c, 0, u)) ∧ fd_Inv u)) (by decide) (Nat.le_of_ble_eq_true rfl) ?_
  intro p e s m args below meth c A Q hQ hx hb hr hts hown hlocks hml hP hK hD hS hA hN hX hZ hex ls hl
  have hown : s.vm.findClass fn_R_Dk = some m.cls := hown
  have hl : lv_has ls 6 [(0, .ref (ad 0)), (1, .int p1), (2, .int p2), (3, .int (fd_bi p3))] := hl
  suffices hgo : ∀ (H : Heap) (locs : List Loc), va_P D fn_cl (fd_w cR cP ad σ) H → va_D A (fd_w cR cP ad σ) → va_S A s.heap H locs → W p l e ({ frames := 6, cells := 1, slots := 6, locals := 81 } : Room) s m args below meth c H locs 0 0 Q (F0 m 0 ls []) from hgo _ _ hP hD hS
  clear hP hD hS
  intro H locs hP hD hS
  refine lv_iload_n hx hb fx_Dk_allow_0 rfl (lv_at hl 1 rfl) ?_
  refine fd_callz (va_runS (As := [.int p1]) (rest := []) ⟨hx, hb, hml, hown, hts⟩ (fc_Dk_isUrl l D cR cP ad H.size σ p1 hI ) ⟨callB_of 1 hts (fb_good fm_Dk_isUrl) rfl rfl rfl (hts _ (List.mem_cons_of_mem _ fq_1)) (hts _ (List.mem_cons_of_mem _ fq_240)) (by decide +kernel) ⟨Nat.le_of_ble_eq_true rfl, Nat.le_of_ble_eq_true rfl⟩, (hts _ (List.mem_cons_of_mem _ fq_241))⟩ (fd_preS hP hK hD hN) rfl rfl hl.1 rfl (lv_room (Nat.le_of_ble_eq_true rfl)) fx_Dk_allow_1 ⟨Nat.le_of_ble_eq_true rfl, Nat.le_of_ble_eq_true rfl⟩) hD hS hA (fun H locs hP hD hS => ?_)
  refine fd_ifeq (tgt := 18) hx hb fx_Dk_allow_4 (by decide) (fun c2 => ?_) (fun c2 => ?_)
  · exact fd_throw ft_g1 ft_n1 ft_o1 (by decide) fq_243 fq_10 (u := σ) hQ hx hb hst hown hts hX hZ (hl.1.trans hml.symm) hex hlocks ⟨Nat.le_of_ble_eq_true rfl, Nat.le_of_ble_eq_true rfl, Nat.le_of_ble_eq_true rfl, Nat.le_of_ble_eq_true rfl⟩ ⟨⟨1, Or.inl ⟨rfl, rfl⟩, (by rw [fv_Dk_allow, if_neg c2])⟩, hI⟩ hP hD hS fx_Dk_allow_18 fx_Dk_allow_21 fx_Dk_allow_22 fx_Dk_allow_25
  · refine lv_iload_n hx hb fx_Dk_allow_7 rfl (lv_at hl 2 rfl) ?_
    refine lv_if_lt (tgt := 18) hx hb fx_Dk_allow_8 (by decide) (fun c3 => ?_) (fun c3 => ?_)
    · exact fd_throw ft_g1 ft_n1 ft_o1 (by decide) fq_243 fq_10 (u := σ) hQ hx hb hst hown hts hX hZ (hl.1.trans hml.symm) hex hlocks ⟨Nat.le_of_ble_eq_true rfl, Nat.le_of_ble_eq_true rfl, Nat.le_of_ble_eq_true rfl, Nat.le_of_ble_eq_true rfl⟩ ⟨⟨1, Or.inl ⟨rfl, rfl⟩, (by rw [fv_Dk_allow, if_pos c2, if_pos c3])⟩, hI⟩ hP hD hS fx_Dk_allow_18 fx_Dk_allow_21 fx_Dk_allow_22 fx_Dk_allow_25
    · refine lv_iload_n hx hb fx_Dk_allow_11 rfl (lv_at hl 2 rfl) ?_
      refine lv_sipush (v := 255) hx hb fx_Dk_allow_12 (by decide) ?_
      refine lv_icmp_le (tgt := 26) hx hb fx_Dk_allow_15 (by decide) (fun c4 => ?_) (fun c4 => ?_)
      · refine lv_aload_n hx hb fx_Dk_allow_26 rfl (lv_at hl 0 rfl) ?_
        refine va_get (D := D) (ci := 4) (v := .ref (ad 57)) (C := fn_R_Dk) (T := fn_T_Dk) (N := 9) hx hb hts fn_j_Dk hown hK hP 0 rfl rfl 0 (by decide) (hts _ (List.mem_cons_of_mem _ fq_204)) (fun _ h9 => h9) rfl fx_Dk_allow_27 ?_
        refine lv_iload_n hx hb fx_Dk_allow_30 rfl (lv_at hl 1 rfl) ?_
        have hb5 : vp_in p1 48 := fd_url c2
        refine va_aldq (D := D) hx hb hK hP 3 0 rfl rfl hb5 fx_Dk_allow_31 ?_
        refine W.eq (g2 := F0 m 32 ls (.ref (ad (3 + p1.toNatClampNeg)) :: [])) rfl ?_
        refine lv_astore (lv' := [(4, .ref (ad (3 + p1.toNatClampNeg))), (0, .ref (ad 0)), (1, .int p1), (2, .int p2), (3, .int (fd_bi p3))]) hx hb fx_Dk_allow_32 hl (by decide) rfl (fun ls hl => ?_)
        refine lv_aload hx hb fx_Dk_allow_34 (lv_at hl 0 rfl) ?_
        refine va_getN (D := D) (ci := 3) (v := .int (fd_rI σ p1.toNatClampNeg 5)) (C := fn_R_Rs) (T := fn_T_Rs) (N := 13) hx hb hts fn_j_Rs hown hK hP (5 + p1.toNatClampNeg) (fd_w_res (fd_lt hb5)) rfl 5 (by decide) (va_Nw.use rfl (hN _ fq_40)) (fun _ h9 => h9) rfl fx_Dk_allow_36 ?_
        refine lv_istore (lv' := [(5, .int (fd_rI σ p1.toNatClampNeg 5)), (4, .ref (ad (3 + p1.toNatClampNeg))), (0, .ref (ad 0)), (1, .int p1), (2, .int p2), (3, .int (fd_bi p3))]) hx hb fx_Dk_allow_39 hl (by decide) rfl (fun ls hl => ?_)
        refine lv_aload hx hb fx_Dk_allow_41 (lv_at hl 1 rfl) ?_
        refine lv_iload_n hx hb fx_Dk_allow_43 rfl (lv_at hl 4 rfl) ?_
        refine va_putN (D := D) (ci := 3) (v := .int p2) (ty := .int) (C := fn_R_Rs) (T := fn_T_Rs) (N := 13) hx hb hts fn_j_Rs fn_t_Rs fn_k_Rs fn_n_Rs hown hK hP hD hS (5 + p1.toNatClampNeg) (fd_w_res (fd_lt hb5)) rfl 5 (by decide) (va_Nw.use rfl (hN _ fq_40)) (fun _ h9 => h9) rfl (by decide +kernel) rfl rfl (Nat.le_of_ble_eq_true rfl) fx_Dk_allow_44 (fun H locs hP hD hS => ?_)
        rw [fd_set_Rs_5 (fd_lt hb5)] at hP hD
        have hI6 : fd_Inv (fd_srI σ p1.toNatClampNeg 5 p2) := fd_inv_srI (by decide) hI
        refine lv_aload hx hb fx_Dk_allow_47 (lv_at hl 1 rfl) ?_
        refine lv_iload_n hx hb fx_Dk_allow_49 rfl (lv_at hl 5 rfl) ?_
        refine va_putN (D := D) (ci := 3) (v := .int (fd_bi p3)) (ty := .boolean) (C := fn_R_Rs) (T := fn_T_Rs) (N := 13) hx hb hts fn_j_Rs fn_t_Rs fn_k_Rs fn_n_Rs hown hK hP hD hS (5 + p1.toNatClampNeg) (fd_w_res (fd_lt hb5)) rfl 6 (by decide) (va_Nw.use rfl (hN _ fq_42)) (fun _ h9 => h9) rfl (by decide +kernel) (fd_nar _) (fd_fit _) (Nat.le_of_ble_eq_true rfl) fx_Dk_allow_50 (fun H locs hP hD hS => ?_)
        rw [fd_set_Rs_6 (fd_lt hb5)] at hP hD
        have hI7 : fd_Inv (fd_srB (fd_srI σ p1.toNatClampNeg 5 p2) p1.toNatClampNeg 6 p3) := fd_inv_srB hI6
        refine lv_iload hx hb fx_Dk_allow_53 (lv_at hl 0 rfl) ?_
        exact fd_xiret (r := fd_rI σ p1.toNatClampNeg 5) (u := fd_srB (fd_srI σ p1.toNatClampNeg 5 p2) p1.toNatClampNeg 6 p3) hQ hx hb hr ⟨by rw [fv_Dk_allow, if_pos c2, if_neg c3, if_pos c4], hI7⟩ hP hD hS fx_Dk_allow_55 hlocks
      · exact fd_throw ft_g1 ft_n1 ft_o1 (by decide) fq_243 fq_10 (u := σ) hQ hx hb hst hown hts hX hZ (hl.1.trans hml.symm) hex hlocks ⟨Nat.le_of_ble_eq_true rfl, Nat.le_of_ble_eq_true rfl, Nat.le_of_ble_eq_true rfl, Nat.le_of_ble_eq_true rfl⟩ ⟨⟨1, Or.inl ⟨rfl, rfl⟩, (by rw [fv_Dk_allow, if_pos c2, if_neg c3, if_neg c4])⟩, hI⟩ hP hD hS fx_Dk_allow_18 fx_Dk_allow_21 fx_Dk_allow_22 fx_Dk_allow_25
def fv_Dk_asked_j1 (σ : FDS) (p1 : Int32) (p2 : Bool) (p3 : Int32) (p4 : Int32) (p5 : UInt64) (v1 : Bool) : Int32 × FDS := if (fv_Dk_isUrl σ p1) = true then if (fv_Dk_isFourBits σ p3) = true then if (fv_Dk_isFourBits σ p4) = true then if v1 = true then (0, fd_srD (fd_srI (fd_srI (fd_srB σ p1.toNatClampNeg 7 p2) p1.toNatClampNeg 8 p3) p1.toNatClampNeg 9 p4) p1.toNatClampNeg p5) else (1, σ) else (1, σ) else (1, σ) else (1, σ)
def fv_Dk_asked (σ : FDS) (p1 : Int32) (p2 : Bool) (p3 : Int32) (p4 : Int32) (p5 : UInt64) : Int32 × FDS := fv_Dk_asked_j1 σ p1 p2 p3 p4 p5 (if (Op.cmpValue (FP.dcmp p5 FP.dconst0) .l) < 0 then false else if 0 < (Op.cmpValue (FP.dcmp p5 4636737291354636288) .g) then false else true)
set_option maxHeartbeats 4000000 in
set_option maxRecDepth 100000 in
theorem fc_Dk_asked (l : Launch) (hst : l.stackTraces = false) (D : va_G) (cR cP : ClassId) (ad : Nat → Nat) (sz : Nat) (σ : FDS) (p1 : Int32) (p2 : Bool) (p3 : Int32) (p4 : Int32) (p5 : UInt64) (hI : fd_Inv σ)  : vx_Met l fy_Dk_asked (fw_Dk_asked :: fb_tbl) ({ frames := 6, cells := 1, slots := 6, locals := 81 } : Room) (fd_Pcx D cR cP ad [.ref (ad 0), .int p1, .int (fd_bi p2), .int p3, .int p4, .double p5] σ sz) ((fun A => va_Qv (fun u : FDS => fv_Dk_asked σ p1 p2 p3 p4 p5 = (0, u) ∧ fd_Inv u) (fd_B D cR cP ad A) A) (va_A (fd_w cR cP ad σ) sz)) (fd_XC D cR cP ad (fun E u => (∃ c : Int32, fd_isx c E ∧ fv_Dk_asked σ p1 p2 p3 p4 p5 = (c, u)) ∧ fd_Inv u) (va_A (fd_w cR cP ad σ) sz)) 1 6 (va_A (fd_w cR cP ad σ) sz) := by
  refine fd_xofW (cc := fb_Dk_asked) (maxL := 9) (ret := none) (Qf := fun A => va_Qv (fun u : FDS => fv_Dk_asked σ p1 p2 p3 p4 p5 = (0, u) ∧ fd_Inv u) (fd_B D cR cP ad A) A) (XC := fd_XC D cR cP ad (fun E u => (∃ c : Int32, fd_isx c E ∧ fv_Dk_asked σ p1 p2 p3 p4 p5 = (c, u)) ∧ fd_Inv u)) (by decide) (Nat.le_of_ble_eq_true rfl) ?_
  intro p e s m args below meth c A Q hQ hx hb hr hts hown hlocks hml hP hK hD hS hA hN hX hZ hex ls hl
  have hown : s.vm.findClass fn_R_Dk = some m.cls := hown
  have hl : lv_has ls 9 [(0, .ref (ad 0)), (1, .int p1), (2, .int (fd_bi p2)), (3, .int p3), (4, .int p4), (5, .double p5)] := hl
  suffices hgo : ∀ (H : Heap) (locs : List Loc), va_P D fn_cl (fd_w cR cP ad σ) H → va_D A (fd_w cR cP ad σ) → va_S A s.heap H locs → W p l e ({ frames := 6, cells := 1, slots := 6, locals := 81 } : Room) s m args below meth c H locs 0 0 Q (F0 m 0 ls []) from hgo _ _ hP hD hS
  clear hP hD hS
  intro H locs hP hD hS
  refine lv_dload hx hb fx_Dk_asked_0 (lv_at hl 5 rfl) ?_
  refine lv_dconst0 hx hb fx_Dk_asked_2 ?_
  refine lv_dcmp hx hb fx_Dk_asked_3 ?_
  have hJ1 : ∀ (H : Heap) (locs : List Loc), va_P D fn_cl (fd_w cR cP ad σ) H → va_D A (fd_w cR cP ad σ) → va_S A s.heap H locs → ∀ (v1 : Bool), v1 = (if (Op.cmpValue (FP.dcmp p5 FP.dconst0) .l) < 0 then false else if 0 < (Op.cmpValue (FP.dcmp p5 4636737291354636288) .g) then false else true) → W p l e ({ frames := 6, cells := 1, slots := 6, locals := 81 } : Room) s m args below meth c H locs 0 0 Q (F0 m 21 ls [.int (fd_bi v1)]) := by
    intro H locs hP hD hS v1 hv1
    refine lv_istore (lv' := [(7, .int (fd_bi v1)), (0, .ref (ad 0)), (1, .int p1), (2, .int (fd_bi p2)), (3, .int p3), (4, .int p4), (5, .double p5)]) hx hb fx_Dk_asked_21 hl (by decide) rfl (fun ls hl => ?_)
    refine lv_iload_n hx hb fx_Dk_asked_23 rfl (lv_at hl 2 rfl) ?_
    refine fd_callz (va_runS (As := [.int p1]) (rest := []) ⟨hx, hb, hml, hown, hts⟩ (fc_Dk_isUrl l D cR cP ad H.size σ p1 hI ) ⟨callB_of 1 hts (fb_good fm_Dk_isUrl) rfl rfl rfl (hts _ (List.mem_cons_of_mem _ fq_1)) (hts _ (List.mem_cons_of_mem _ fq_240)) (by decide +kernel) ⟨Nat.le_of_ble_eq_true rfl, Nat.le_of_ble_eq_true rfl⟩, (hts _ (List.mem_cons_of_mem _ fq_241))⟩ (fd_preS hP hK hD hN) rfl rfl hl.1 rfl (lv_room (Nat.le_of_ble_eq_true rfl)) fx_Dk_asked_24 ⟨Nat.le_of_ble_eq_true rfl, Nat.le_of_ble_eq_true rfl⟩) hD hS hA (fun H locs hP hD hS => ?_)
    refine fd_ifeq (tgt := 50) hx hb fx_Dk_asked_27 (by decide) (fun c3 => ?_) (fun c3 => ?_)
    · exact fd_throw ft_g1 ft_n1 ft_o1 (by decide) fq_243 fq_10 (u := σ) hQ hx hb hst hown hts hX hZ (hl.1.trans hml.symm) hex hlocks ⟨Nat.le_of_ble_eq_true rfl, Nat.le_of_ble_eq_true rfl, Nat.le_of_ble_eq_true rfl, Nat.le_of_ble_eq_true rfl⟩ ⟨⟨1, Or.inl ⟨rfl, rfl⟩, (by rw [fv_Dk_asked, ← hv1, fv_Dk_asked_j1, if_neg c3])⟩, hI⟩ hP hD hS fx_Dk_asked_50 fx_Dk_asked_53 fx_Dk_asked_54 fx_Dk_asked_57
    · refine lv_iload_n hx hb fx_Dk_asked_30 rfl (lv_at hl 4 rfl) ?_
      refine fd_callz (va_runS (As := [.int p3]) (rest := []) ⟨hx, hb, hml, hown, hts⟩ (fc_Dk_isFourBits l D cR cP ad H.size σ p3 hI ) ⟨callB_of 1 hts (fb_good fm_Dk_isFourBits) rfl rfl rfl (hts _ (List.mem_cons_of_mem _ fq_1)) (hts _ (List.mem_cons_of_mem _ fq_313)) (by decide +kernel) ⟨Nat.le_of_ble_eq_true rfl, Nat.le_of_ble_eq_true rfl⟩, (hts _ (List.mem_cons_of_mem _ fq_314))⟩ (fd_preS hP hK hD hN) rfl rfl hl.1 rfl (lv_room (Nat.le_of_ble_eq_true rfl)) fx_Dk_asked_31 ⟨Nat.le_of_ble_eq_true rfl, Nat.le_of_ble_eq_true rfl⟩) hD hS hA (fun H locs hP hD hS => ?_)
      refine fd_ifeq (tgt := 50) hx hb fx_Dk_asked_34 (by decide) (fun c5 => ?_) (fun c5 => ?_)
      · exact fd_throw ft_g1 ft_n1 ft_o1 (by decide) fq_243 fq_10 (u := σ) hQ hx hb hst hown hts hX hZ (hl.1.trans hml.symm) hex hlocks ⟨Nat.le_of_ble_eq_true rfl, Nat.le_of_ble_eq_true rfl, Nat.le_of_ble_eq_true rfl, Nat.le_of_ble_eq_true rfl⟩ ⟨⟨1, Or.inl ⟨rfl, rfl⟩, (by rw [fv_Dk_asked, ← hv1, fv_Dk_asked_j1, if_pos c3, if_neg c5])⟩, hI⟩ hP hD hS fx_Dk_asked_50 fx_Dk_asked_53 fx_Dk_asked_54 fx_Dk_asked_57
      · refine lv_iload hx hb fx_Dk_asked_37 (lv_at hl 5 rfl) ?_
        refine fd_callz (va_runS (As := [.int p4]) (rest := []) ⟨hx, hb, hml, hown, hts⟩ (fc_Dk_isFourBits l D cR cP ad H.size σ p4 hI ) ⟨callB_of 1 hts (fb_good fm_Dk_isFourBits) rfl rfl rfl (hts _ (List.mem_cons_of_mem _ fq_1)) (hts _ (List.mem_cons_of_mem _ fq_313)) (by decide +kernel) ⟨Nat.le_of_ble_eq_true rfl, Nat.le_of_ble_eq_true rfl⟩, (hts _ (List.mem_cons_of_mem _ fq_314))⟩ (fd_preS hP hK hD hN) rfl rfl hl.1 rfl (lv_room (Nat.le_of_ble_eq_true rfl)) fx_Dk_asked_39 ⟨Nat.le_of_ble_eq_true rfl, Nat.le_of_ble_eq_true rfl⟩) hD hS hA (fun H locs hP hD hS => ?_)
        refine fd_ifeq (tgt := 50) hx hb fx_Dk_asked_42 (by decide) (fun c7 => ?_) (fun c7 => ?_)
        · exact fd_throw ft_g1 ft_n1 ft_o1 (by decide) fq_243 fq_10 (u := σ) hQ hx hb hst hown hts hX hZ (hl.1.trans hml.symm) hex hlocks ⟨Nat.le_of_ble_eq_true rfl, Nat.le_of_ble_eq_true rfl, Nat.le_of_ble_eq_true rfl, Nat.le_of_ble_eq_true rfl⟩ ⟨⟨1, Or.inl ⟨rfl, rfl⟩, (by rw [fv_Dk_asked, ← hv1, fv_Dk_asked_j1, if_pos c3, if_pos c5, if_neg c7])⟩, hI⟩ hP hD hS fx_Dk_asked_50 fx_Dk_asked_53 fx_Dk_asked_54 fx_Dk_asked_57
        · refine lv_iload hx hb fx_Dk_asked_45 (lv_at hl 0 rfl) ?_
          refine fd_ifne (tgt := 58) hx hb fx_Dk_asked_47 (by decide) (fun c8 => ?_) (fun c8 => ?_)
          · refine lv_aload_n hx hb fx_Dk_asked_58 rfl (lv_at hl 1 rfl) ?_
            refine va_get (D := D) (ci := 4) (v := .ref (ad 57)) (C := fn_R_Dk) (T := fn_T_Dk) (N := 9) hx hb hts fn_j_Dk hown hK hP 0 rfl rfl 0 (by decide) (hts _ (List.mem_cons_of_mem _ fq_204)) (fun _ h9 => h9) rfl fx_Dk_asked_59 ?_
            refine lv_iload_n hx hb fx_Dk_asked_62 rfl (lv_at hl 2 rfl) ?_
            have hb9 : vp_in p1 48 := fd_url c3
            refine va_aldq (D := D) hx hb hK hP 3 0 rfl rfl hb9 fx_Dk_asked_63 ?_
            refine W.eq (g2 := F0 m 64 ls (.ref (ad (3 + p1.toNatClampNeg)) :: [])) rfl ?_
            refine lv_astore (lv' := [(8, .ref (ad (3 + p1.toNatClampNeg))), (7, .int (fd_bi v1)), (0, .ref (ad 0)), (1, .int p1), (2, .int (fd_bi p2)), (3, .int p3), (4, .int p4), (5, .double p5)]) hx hb fx_Dk_asked_64 hl (by decide) rfl (fun ls hl => ?_)
            refine lv_aload hx hb fx_Dk_asked_66 (lv_at hl 0 rfl) ?_
            refine lv_iload_n hx hb fx_Dk_asked_68 rfl (lv_at hl 4 rfl) ?_
            refine va_putN (D := D) (ci := 3) (v := .int (fd_bi p2)) (ty := .boolean) (C := fn_R_Rs) (T := fn_T_Rs) (N := 13) hx hb hts fn_j_Rs fn_t_Rs fn_k_Rs fn_n_Rs hown hK hP hD hS (5 + p1.toNatClampNeg) (fd_w_res (fd_lt hb9)) rfl 7 (by decide) (va_Nw.use rfl (hN _ fq_44)) (fun _ h9 => h9) rfl (by decide +kernel) (fd_nar _) (fd_fit _) (Nat.le_of_ble_eq_true rfl) fx_Dk_asked_69 (fun H locs hP hD hS => ?_)
            rw [fd_set_Rs_7 (fd_lt hb9)] at hP hD
            have hI10 : fd_Inv (fd_srB σ p1.toNatClampNeg 7 p2) := fd_inv_srB hI
            refine lv_aload hx hb fx_Dk_asked_72 (lv_at hl 0 rfl) ?_
            refine lv_iload_n hx hb fx_Dk_asked_74 rfl (lv_at hl 5 rfl) ?_
            refine va_putN (D := D) (ci := 3) (v := .int p3) (ty := .int) (C := fn_R_Rs) (T := fn_T_Rs) (N := 13) hx hb hts fn_j_Rs fn_t_Rs fn_k_Rs fn_n_Rs hown hK hP hD hS (5 + p1.toNatClampNeg) (fd_w_res (fd_lt hb9)) rfl 8 (by decide) (va_Nw.use rfl (hN _ fq_46)) (fun _ h9 => h9) rfl (by decide +kernel) rfl rfl (Nat.le_of_ble_eq_true rfl) fx_Dk_asked_75 (fun H locs hP hD hS => ?_)
            rw [fd_set_Rs_8 (fd_lt hb9)] at hP hD
            have hI11 : fd_Inv (fd_srI (fd_srB σ p1.toNatClampNeg 7 p2) p1.toNatClampNeg 8 p3) := fd_inv_srI (by decide) hI10
            refine lv_aload hx hb fx_Dk_asked_78 (lv_at hl 0 rfl) ?_
            refine lv_iload hx hb fx_Dk_asked_80 (lv_at hl 6 rfl) ?_
            refine va_putN (D := D) (ci := 3) (v := .int p4) (ty := .int) (C := fn_R_Rs) (T := fn_T_Rs) (N := 13) hx hb hts fn_j_Rs fn_t_Rs fn_k_Rs fn_n_Rs hown hK hP hD hS (5 + p1.toNatClampNeg) (fd_w_res (fd_lt hb9)) rfl 9 (by decide) (va_Nw.use rfl (hN _ fq_48)) (fun _ h9 => h9) rfl (by decide +kernel) rfl rfl (Nat.le_of_ble_eq_true rfl) fx_Dk_asked_82 (fun H locs hP hD hS => ?_)
            rw [fd_set_Rs_9 (fd_lt hb9)] at hP hD
            have hI12 : fd_Inv (fd_srI (fd_srI (fd_srB σ p1.toNatClampNeg 7 p2) p1.toNatClampNeg 8 p3) p1.toNatClampNeg 9 p4) := fd_inv_srI (by decide) hI11
            refine lv_aload hx hb fx_Dk_asked_85 (lv_at hl 0 rfl) ?_
            refine lv_dload hx hb fx_Dk_asked_87 (lv_at hl 7 rfl) ?_
            refine va_putN (D := D) (ci := 3) (v := .double p5) (ty := .double) (C := fn_R_Rs) (T := fn_T_Rs) (N := 13) hx hb hts fn_j_Rs fn_t_Rs fn_k_Rs fn_n_Rs hown hK hP hD hS (5 + p1.toNatClampNeg) (fd_w_res (fd_lt hb9)) rfl 10 (by decide) (va_Nw.use rfl (hN _ fq_49)) (fun _ h9 => h9) rfl (by decide +kernel) rfl rfl (Nat.le_of_ble_eq_true rfl) fx_Dk_asked_89 (fun H locs hP hD hS => ?_)
            rw [fd_set_Rs_10 (fd_lt hb9)] at hP hD
            have hI13 : fd_Inv (fd_srD (fd_srI (fd_srI (fd_srB σ p1.toNatClampNeg 7 p2) p1.toNatClampNeg 8 p3) p1.toNatClampNeg 9 p4) p1.toNatClampNeg p5) := fd_inv_age (fd_agef c8 hv1) hI12
            exact fd_xvret (u := fd_srD (fd_srI (fd_srI (fd_srB σ p1.toNatClampNeg 7 p2) p1.toNatClampNeg 8 p3) p1.toNatClampNeg 9 p4) p1.toNatClampNeg p5) hQ hx hb hr ⟨by rw [fv_Dk_asked, ← hv1, fv_Dk_asked_j1, if_pos c3, if_pos c5, if_pos c7, if_pos c8], hI13⟩ hP hD hS fx_Dk_asked_92 hlocks
          · exact fd_throw ft_g1 ft_n1 ft_o1 (by decide) fq_243 fq_10 (u := σ) hQ hx hb hst hown hts hX hZ (hl.1.trans hml.symm) hex hlocks ⟨Nat.le_of_ble_eq_true rfl, Nat.le_of_ble_eq_true rfl, Nat.le_of_ble_eq_true rfl, Nat.le_of_ble_eq_true rfl⟩ ⟨⟨1, Or.inl ⟨rfl, rfl⟩, (by rw [fv_Dk_asked, ← hv1, fv_Dk_asked_j1, if_pos c3, if_pos c5, if_pos c7, if_neg c8])⟩, hI⟩ hP hD hS fx_Dk_asked_50 fx_Dk_asked_53 fx_Dk_asked_54 fx_Dk_asked_57
  refine lv_if_lt (tgt := 20) hx hb fx_Dk_asked_4 (by decide) (fun c14 => ?_) (fun c14 => ?_)
  · refine lv_iconst (v := 0) hx hb fx_Dk_asked_20 (by decide) ?_
    exact hJ1 H locs hP hD hS false (by rw [if_pos c14])
  · refine lv_dload hx hb fx_Dk_asked_7 (lv_at hl 5 rfl) ?_
    refine lv_ldc2d (v := 4636737291354636288) hx hb hown (hts _ (List.mem_cons_of_mem _ fq_330)) fx_Dk_asked_9 ?_
    refine lv_dcmp hx hb fx_Dk_asked_12 ?_
    refine lv_if_gt (tgt := 20) hx hb fx_Dk_asked_13 (by decide) (fun c15 => ?_) (fun c15 => ?_)
    · refine lv_iconst (v := 0) hx hb fx_Dk_asked_20 (by decide) ?_
      exact hJ1 H locs hP hD hS false (by rw [if_neg c14, if_pos c15])
    · refine lv_iconst (v := 1) hx hb fx_Dk_asked_16 (by decide) ?_
      refine lv_goto (tgt := 21) hx hb fx_Dk_asked_17 (by decide) ?_
      exact hJ1 H locs hP hD hS true (by rw [if_neg c14, if_neg c15])
def fv_Dk_tick_j1 (σ : FDS) (p1 : UInt64) (v1 : Bool) : Int32 × UInt64 × FDS := if v1 = true then (0, FP.dadd (fd_dT σ) p1, fd_sdT σ (FP.dadd (fd_dT σ) p1)) else (1, 0, σ)
def fv_Dk_tick (σ : FDS) (p1 : UInt64) : Int32 × UInt64 × FDS := fv_Dk_tick_j1 σ p1 (if (Op.cmpValue (FP.dcmp p1 FP.dconst0) .l) ≤ 0 then false else if 0 < (Op.cmpValue (FP.dcmp p1 4652007308841189376) .g) then false else true)
set_option maxHeartbeats 4000000 in
set_option maxRecDepth 100000 in
theorem fc_Dk_tick (l : Launch) (hst : l.stackTraces = false) (D : va_G) (cR cP : ClassId) (ad : Nat → Nat) (sz : Nat) (σ : FDS) (p1 : UInt64) (hI : fd_Inv σ)  : vx_Met l fy_Dk_tick (fw_Dk_tick :: fb_tbl) ({ frames := 6, cells := 1, slots := 6, locals := 81 } : Room) (fd_Pcx D cR cP ad [.ref (ad 0), .double p1] σ sz) ((fun A => va_Qd (fun (r : UInt64) (u : FDS) => fv_Dk_tick σ p1 = (0, r, u) ∧ fd_Inv u) (fd_B D cR cP ad A) A) (va_A (fd_w cR cP ad σ) sz)) (fd_XC D cR cP ad (fun E u => (∃ c : Int32, fd_isx c E ∧ fv_Dk_tick σ p1 = (c, 0, u)) ∧ fd_Inv u) (va_A (fd_w cR cP ad σ) sz)) 1 6 (va_A (fd_w cR cP ad σ) sz) := by
  refine fd_xofW (cc := fb_Dk_tick) (maxL := 4) (ret := (some .double)) (Qf := fun A => va_Qd (fun (r : UInt64) (u : FDS) => fv_Dk_tick σ p1 = (0, r, u) ∧ fd_Inv u) (fd_B D cR cP ad A) A) (XC := fd_XC D cR cP ad (fun E u => (∃ c : Int32, fd_isx c E ∧ fv_Dk_tick σ p1 = (c, 0, u)) ∧ fd_Inv u)) (by decide) (Nat.le_of_ble_eq_true rfl) ?_
  intro p e s m args below meth c A Q hQ hx hb hr hts hown hlocks hml hP hK hD hS hA hN hX hZ hex ls hl
  have hown : s.vm.findClass fn_R_Dk = some m.cls := hown
  have hl : lv_has ls 4 [(0, .ref (ad 0)), (1, .double p1)] := hl
  suffices hgo : ∀ (H : Heap) (locs : List Loc), va_P D fn_cl (fd_w cR cP ad σ) H → va_D A (fd_w cR cP ad σ) → va_S A s.heap H locs → W p l e ({ frames := 6, cells := 1, slots := 6, locals := 81 } : Room) s m args below meth c H locs 0 0 Q (F0 m 0 ls []) from hgo _ _ hP hD hS
  clear hP hD hS
  intro H locs hP hD hS
  refine lv_dload_n hx hb fx_Dk_tick_0 rfl (lv_at hl 1 rfl) ?_
  refine lv_dconst0 hx hb fx_Dk_tick_1 ?_
  refine lv_dcmp hx hb fx_Dk_tick_2 ?_
  have hJ1 : ∀ (H : Heap) (locs : List Loc), va_P D fn_cl (fd_w cR cP ad σ) H → va_D A (fd_w cR cP ad σ) → va_S A s.heap H locs → ∀ (v1 : Bool), v1 = (if (Op.cmpValue (FP.dcmp p1 FP.dconst0) .l) ≤ 0 then false else if 0 < (Op.cmpValue (FP.dcmp p1 4652007308841189376) .g) then false else true) → W p l e ({ frames := 6, cells := 1, slots := 6, locals := 81 } : Room) s m args below meth c H locs 0 0 Q (F0 m 19 ls [.int (fd_bi v1)]) := by
    intro H locs hP hD hS v1 hv1
    refine lv_istore_n (lv' := [(3, .int (fd_bi v1)), (0, .ref (ad 0)), (1, .double p1)]) hx hb fx_Dk_tick_19 rfl hl (by decide) rfl (fun ls hl => ?_)
    refine lv_iload_n hx hb fx_Dk_tick_20 rfl (lv_at hl 0 rfl) ?_
    refine fd_ifne (tgt := 32) hx hb fx_Dk_tick_21 (by decide) (fun c2 => ?_) (fun c2 => ?_)
    · refine lv_aload_n hx hb fx_Dk_tick_32 rfl (lv_at hl 1 rfl) ?_
      refine lv_aload_n hx hb fx_Dk_tick_33 rfl (lv_at hl 1 rfl) ?_
      refine va_get (D := D) (ci := 4) (v := .double (fd_dT σ)) (C := fn_R_Dk) (T := fn_T_Dk) (N := 9) hx hb hts fn_j_Dk hown hK hP 0 rfl rfl 3 (by decide) (hts _ (List.mem_cons_of_mem _ fq_207)) (fun _ h9 => h9) rfl fx_Dk_tick_34 ?_
      refine lv_dload_n hx hb fx_Dk_tick_37 rfl (lv_at hl 2 rfl) ?_
      refine lv_dadd hx hb fx_Dk_tick_38 (fd_n64 (fd_tickn hI c2 hv1)) ?_
      refine va_put (D := D) (ci := 4) (v := .double (FP.dadd (fd_dT σ) p1)) (ty := .double) (C := fn_R_Dk) (T := fn_T_Dk) (N := 9) hx hb hts fn_j_Dk fn_t_Dk fn_k_Dk fn_n_Dk hown hK hP hD hS 0 rfl rfl 3 (by decide) (hts _ (List.mem_cons_of_mem _ fq_207)) (fun _ h9 => h9) rfl (by decide +kernel) rfl rfl (Nat.le_of_ble_eq_true rfl) fx_Dk_tick_39 (fun H locs hP hD hS => ?_)
      rw [fd_set_Dk_3] at hP hD
      have hI3 : fd_Inv (fd_sdT σ (FP.dadd (fd_dT σ) p1)) := fd_inv_time (fd_tickn hI c2 hv1) hI
      refine lv_aload_n hx hb fx_Dk_tick_42 rfl (lv_at hl 1 rfl) ?_
      refine va_get (D := D) (ci := 4) (v := .double (FP.dadd (fd_dT σ) p1)) (C := fn_R_Dk) (T := fn_T_Dk) (N := 9) hx hb hts fn_j_Dk hown hK hP 0 rfl rfl 3 (by decide) (hts _ (List.mem_cons_of_mem _ fq_207)) (fun _ h9 => h9) rfl fx_Dk_tick_43 ?_
      exact fd_xdret (r := FP.dadd (fd_dT σ) p1) (u := fd_sdT σ (FP.dadd (fd_dT σ) p1)) hQ hx hb hr ⟨by rw [fv_Dk_tick, ← hv1, fv_Dk_tick_j1, if_pos c2], hI3⟩ hP hD hS fx_Dk_tick_46 hlocks
    · exact fd_throw ft_g1 ft_n1 ft_o1 (by decide) fq_243 fq_10 (u := σ) hQ hx hb hst hown hts hX hZ (hl.1.trans hml.symm) hex hlocks ⟨Nat.le_of_ble_eq_true rfl, Nat.le_of_ble_eq_true rfl, Nat.le_of_ble_eq_true rfl, Nat.le_of_ble_eq_true rfl⟩ ⟨⟨1, Or.inl ⟨rfl, rfl⟩, (by rw [fv_Dk_tick, ← hv1, fv_Dk_tick_j1, if_neg c2])⟩, hI⟩ hP hD hS fx_Dk_tick_24 fx_Dk_tick_27 fx_Dk_tick_28 fx_Dk_tick_31
  refine lv_if_le (tgt := 18) hx hb fx_Dk_tick_3 (by decide) (fun c4 => ?_) (fun c4 => ?_)
  · refine lv_iconst (v := 0) hx hb fx_Dk_tick_18 (by decide) ?_
    exact hJ1 H locs hP hD hS false (by rw [if_pos c4])
  · refine lv_dload_n hx hb fx_Dk_tick_6 rfl (lv_at hl 1 rfl) ?_
    refine lv_ldc2d (v := 4652007308841189376) hx hb hown (hts _ (List.mem_cons_of_mem _ fq_338)) fx_Dk_tick_7 ?_
    refine lv_dcmp hx hb fx_Dk_tick_10 ?_
    refine lv_if_gt (tgt := 18) hx hb fx_Dk_tick_11 (by decide) (fun c5 => ?_) (fun c5 => ?_)
    · refine lv_iconst (v := 0) hx hb fx_Dk_tick_18 (by decide) ?_
      exact hJ1 H locs hP hD hS false (by rw [if_neg c4, if_pos c5])
    · refine lv_iconst (v := 1) hx hb fx_Dk_tick_14 (by decide) ?_
      refine lv_goto (tgt := 19) hx hb fx_Dk_tick_15 (by decide) ?_
      exact hJ1 H locs hP hD hS true (by rw [if_neg c4, if_neg c5])
def fv_Dk_told_j7 (σ : FDS) (p1 : Int32) (v7 : Bool) : Int32 × Int32 × FDS := (0, fd_bi v7, σ)
def fv_Dk_told (σ : FDS) (p1 : Int32) : Int32 × Int32 × FDS := if p1 = 0 then (0, fd_qI σ 10, σ) else if p1 = 1 then (0, fd_qI σ 7, σ) else if p1 = 2 then (0, fd_qI σ 1, σ) else if p1 = 3 then (0, fd_qI σ 0, σ) else if p1 = 4 then (0, fd_qI σ 2, σ) else if p1 = 5 then fv_Dk_told_j7 σ p1 (if (fd_qB σ 9) = true then true else false) else if p1 = 6 then (0, fd_qI σ 11, σ) else if p1 = 7 then (0, fd_qI σ 12, σ) else if p1 = 8 then (0, fd_qI σ 13, σ) else if p1 = 9 then (0, fd_qI σ 14, σ) else (1, 0, σ)
set_option maxHeartbeats 4000000 in
set_option maxRecDepth 100000 in
theorem fc_Dk_told (l : Launch) (hst : l.stackTraces = false) (D : va_G) (cR cP : ClassId) (ad : Nat → Nat) (sz : Nat) (σ : FDS) (p1 : Int32) (hI : fd_Inv σ)  : vx_Met l fy_Dk_told (fw_Dk_told :: fb_tbl) ({ frames := 6, cells := 1, slots := 6, locals := 81 } : Room) (fd_Pcx D cR cP ad [.ref (ad 0), .int p1] σ sz) ((fun A => va_Qi (fun (r : Int32) (u : FDS) => fv_Dk_told σ p1 = (0, r, u) ∧ fd_Inv u) (fd_B D cR cP ad A) A) (va_A (fd_w cR cP ad σ) sz)) (fd_XC D cR cP ad (fun E u => (∃ c : Int32, fd_isx c E ∧ fv_Dk_told σ p1 = (c, 0, u)) ∧ fd_Inv u) (va_A (fd_w cR cP ad σ) sz)) 1 6 (va_A (fd_w cR cP ad σ) sz) := by
  refine fd_xofW (cc := fb_Dk_told) (maxL := 2) (ret := (some .int)) (Qf := fun A => va_Qi (fun (r : Int32) (u : FDS) => fv_Dk_told σ p1 = (0, r, u) ∧ fd_Inv u) (fd_B D cR cP ad A) A) (XC := fd_XC D cR cP ad (fun E u => (∃ c : Int32, fd_isx c E ∧ fv_Dk_told σ p1 = (c, 0, u)) ∧ fd_Inv u)) (by decide) (Nat.le_of_ble_eq_true rfl) ?_
  intro p e s m args below meth c A Q hQ hx hb hr hts hown hlocks hml hP hK hD hS hA hN hX hZ hex ls hl
  have hown : s.vm.findClass fn_R_Dk = some m.cls := hown
  have hl : lv_has ls 2 [(0, .ref (ad 0)), (1, .int p1)] := hl
  suffices hgo : ∀ (H : Heap) (locs : List Loc), va_P D fn_cl (fd_w cR cP ad σ) H → va_D A (fd_w cR cP ad σ) → va_S A s.heap H locs → W p l e ({ frames := 6, cells := 1, slots := 6, locals := 81 } : Room) s m args below meth c H locs 0 0 Q (F0 m 0 ls []) from hgo _ _ hP hD hS
  clear hP hD hS
  intro H locs hP hD hS
  refine lv_iload_n hx hb fx_Dk_told_0 rfl (lv_at hl 1 rfl) ?_
  by_cases c1 : p1 = 0
  · refine lv_tableIn (tgt := 56) hx hb fx_Dk_told_1 (by rw [c1]; decide) (by rw [c1]; decide) (by rw [c1]; rfl) (by decide) ?_
    refine lv_aload_n hx hb fx_Dk_told_56 rfl (lv_at hl 0 rfl) ?_
    refine va_get (D := D) (ci := 4) (v := .ref (ad 2)) (C := fn_R_Dk) (T := fn_T_Dk) (N := 9) hx hb hts fn_j_Dk hown hK hP 0 rfl rfl 2 (by decide) (hts _ (List.mem_cons_of_mem _ fq_206)) (fun _ h9 => h9) rfl fx_Dk_told_57 ?_
    refine va_getN (D := D) (ci := 2) (v := .int (fd_qI σ 10)) (C := fn_R_Rq) (T := fn_T_Rq) (N := 15) hx hb hts fn_j_Rq hown hK hP 2 rfl rfl 10 (by decide) (va_Nw.use rfl (hN _ fq_164)) (fun _ h9 => h9) rfl fx_Dk_told_60 ?_
    exact fd_xiret (r := fd_qI σ 10) (u := σ) hQ hx hb hr ⟨by rw [fv_Dk_told, if_pos c1], hI⟩ hP hD hS fx_Dk_told_63 hlocks
  · by_cases c2 : p1 = 1
    · refine lv_tableIn (tgt := 64) hx hb fx_Dk_told_1 (by rw [c2]; decide) (by rw [c2]; decide) (by rw [c2]; rfl) (by decide) ?_
      refine lv_aload_n hx hb fx_Dk_told_64 rfl (lv_at hl 0 rfl) ?_
      refine va_get (D := D) (ci := 4) (v := .ref (ad 2)) (C := fn_R_Dk) (T := fn_T_Dk) (N := 9) hx hb hts fn_j_Dk hown hK hP 0 rfl rfl 2 (by decide) (hts _ (List.mem_cons_of_mem _ fq_206)) (fun _ h9 => h9) rfl fx_Dk_told_65 ?_
      refine va_getN (D := D) (ci := 2) (v := .int (fd_qI σ 7)) (C := fn_R_Rq) (T := fn_T_Rq) (N := 15) hx hb hts fn_j_Rq hown hK hP 2 rfl rfl 7 (by decide) (va_Nw.use rfl (hN _ fq_156)) (fun _ h9 => h9) rfl fx_Dk_told_68 ?_
      exact fd_xiret (r := fd_qI σ 7) (u := σ) hQ hx hb hr ⟨by rw [fv_Dk_told, if_neg c1, if_pos c2], hI⟩ hP hD hS fx_Dk_told_71 hlocks
    · by_cases c3 : p1 = 2
      · refine lv_tableIn (tgt := 72) hx hb fx_Dk_told_1 (by rw [c3]; decide) (by rw [c3]; decide) (by rw [c3]; rfl) (by decide) ?_
        refine lv_aload_n hx hb fx_Dk_told_72 rfl (lv_at hl 0 rfl) ?_
        refine va_get (D := D) (ci := 4) (v := .ref (ad 2)) (C := fn_R_Dk) (T := fn_T_Dk) (N := 9) hx hb hts fn_j_Dk hown hK hP 0 rfl rfl 2 (by decide) (hts _ (List.mem_cons_of_mem _ fq_206)) (fun _ h9 => h9) rfl fx_Dk_told_73 ?_
        refine va_getN (D := D) (ci := 2) (v := .int (fd_qI σ 1)) (C := fn_R_Rq) (T := fn_T_Rq) (N := 15) hx hb hts fn_j_Rq hown hK hP 2 rfl rfl 1 (by decide) (va_Nw.use rfl (hN _ fq_146)) (fun _ h9 => h9) rfl fx_Dk_told_76 ?_
        exact fd_xiret (r := fd_qI σ 1) (u := σ) hQ hx hb hr ⟨by rw [fv_Dk_told, if_neg c1, if_neg c2, if_pos c3], hI⟩ hP hD hS fx_Dk_told_79 hlocks
      · by_cases c4 : p1 = 3
        · refine lv_tableIn (tgt := 80) hx hb fx_Dk_told_1 (by rw [c4]; decide) (by rw [c4]; decide) (by rw [c4]; rfl) (by decide) ?_
          refine lv_aload_n hx hb fx_Dk_told_80 rfl (lv_at hl 0 rfl) ?_
          refine va_get (D := D) (ci := 4) (v := .ref (ad 2)) (C := fn_R_Dk) (T := fn_T_Dk) (N := 9) hx hb hts fn_j_Dk hown hK hP 0 rfl rfl 2 (by decide) (hts _ (List.mem_cons_of_mem _ fq_206)) (fun _ h9 => h9) rfl fx_Dk_told_81 ?_
          refine va_getN (D := D) (ci := 2) (v := .int (fd_qI σ 0)) (C := fn_R_Rq) (T := fn_T_Rq) (N := 15) hx hb hts fn_j_Rq hown hK hP 2 rfl rfl 0 (by decide) (va_Nw.use rfl (hN _ fq_142)) (fun _ h9 => h9) rfl fx_Dk_told_84 ?_
          exact fd_xiret (r := fd_qI σ 0) (u := σ) hQ hx hb hr ⟨by rw [fv_Dk_told, if_neg c1, if_neg c2, if_neg c3, if_pos c4], hI⟩ hP hD hS fx_Dk_told_87 hlocks
        · by_cases c5 : p1 = 4
          · refine lv_tableIn (tgt := 88) hx hb fx_Dk_told_1 (by rw [c5]; decide) (by rw [c5]; decide) (by rw [c5]; rfl) (by decide) ?_
            refine lv_aload_n hx hb fx_Dk_told_88 rfl (lv_at hl 0 rfl) ?_
            refine va_get (D := D) (ci := 4) (v := .ref (ad 2)) (C := fn_R_Dk) (T := fn_T_Dk) (N := 9) hx hb hts fn_j_Dk hown hK hP 0 rfl rfl 2 (by decide) (hts _ (List.mem_cons_of_mem _ fq_206)) (fun _ h9 => h9) rfl fx_Dk_told_89 ?_
            refine va_getN (D := D) (ci := 2) (v := .int (fd_qI σ 2)) (C := fn_R_Rq) (T := fn_T_Rq) (N := 15) hx hb hts fn_j_Rq hown hK hP 2 rfl rfl 2 (by decide) (va_Nw.use rfl (hN _ fq_148)) (fun _ h9 => h9) rfl fx_Dk_told_92 ?_
            exact fd_xiret (r := fd_qI σ 2) (u := σ) hQ hx hb hr ⟨by rw [fv_Dk_told, if_neg c1, if_neg c2, if_neg c3, if_neg c4, if_pos c5], hI⟩ hP hD hS fx_Dk_told_95 hlocks
          · by_cases c6 : p1 = 5
            · refine lv_tableIn (tgt := 96) hx hb fx_Dk_told_1 (by rw [c6]; decide) (by rw [c6]; decide) (by rw [c6]; rfl) (by decide) ?_
              refine lv_aload_n hx hb fx_Dk_told_96 rfl (lv_at hl 0 rfl) ?_
              refine va_get (D := D) (ci := 4) (v := .ref (ad 2)) (C := fn_R_Dk) (T := fn_T_Dk) (N := 9) hx hb hts fn_j_Dk hown hK hP 0 rfl rfl 2 (by decide) (hts _ (List.mem_cons_of_mem _ fq_206)) (fun _ h9 => h9) rfl fx_Dk_told_97 ?_
              refine va_getN (D := D) (ci := 2) (v := .int (fd_bi (fd_qB σ 9))) (C := fn_R_Rq) (T := fn_T_Rq) (N := 15) hx hb hts fn_j_Rq hown hK hP 2 rfl rfl 9 (by decide) (va_Nw.use rfl (hN _ fq_162)) (fun _ h9 => h9) rfl fx_Dk_told_100 ?_
              have hJ7 : ∀ (H : Heap) (locs : List Loc), va_P D fn_cl (fd_w cR cP ad σ) H → va_D A (fd_w cR cP ad σ) → va_S A s.heap H locs → ∀ (v7 : Bool), v7 = (if (fd_qB σ 9) = true then true else false) → W p l e ({ frames := 6, cells := 1, slots := 6, locals := 81 } : Room) s m args below meth c H locs 0 0 Q (F0 m 111 ls [.int (fd_bi v7)]) := by
                intro H locs hP hD hS v7 hv7
                exact fd_xiret (r := fd_bi v7) (u := σ) hQ hx hb hr ⟨by rw [fv_Dk_told, if_neg c1, if_neg c2, if_neg c3, if_neg c4, if_neg c5, if_pos c6, ← hv7, fv_Dk_told_j7], hI⟩ hP hD hS fx_Dk_told_111 hlocks
              refine fd_ifeq (tgt := 110) hx hb fx_Dk_told_103 (by decide) (fun c8 => ?_) (fun c8 => ?_)
              · refine lv_iconst (v := 0) hx hb fx_Dk_told_110 (by decide) ?_
                exact hJ7 H locs hP hD hS false (by rw [if_neg c8])
              · refine lv_iconst (v := 1) hx hb fx_Dk_told_106 (by decide) ?_
                refine lv_goto (tgt := 111) hx hb fx_Dk_told_107 (by decide) ?_
                exact hJ7 H locs hP hD hS true (by rw [if_pos c8])
            · by_cases c9 : p1 = 6
              · refine lv_tableIn (tgt := 112) hx hb fx_Dk_told_1 (by rw [c9]; decide) (by rw [c9]; decide) (by rw [c9]; rfl) (by decide) ?_
                refine lv_aload_n hx hb fx_Dk_told_112 rfl (lv_at hl 0 rfl) ?_
                refine va_get (D := D) (ci := 4) (v := .ref (ad 2)) (C := fn_R_Dk) (T := fn_T_Dk) (N := 9) hx hb hts fn_j_Dk hown hK hP 0 rfl rfl 2 (by decide) (hts _ (List.mem_cons_of_mem _ fq_206)) (fun _ h9 => h9) rfl fx_Dk_told_113 ?_
                refine va_getN (D := D) (ci := 2) (v := .int (fd_qI σ 11)) (C := fn_R_Rq) (T := fn_T_Rq) (N := 15) hx hb hts fn_j_Rq hown hK hP 2 rfl rfl 11 (by decide) (va_Nw.use rfl (hN _ fq_166)) (fun _ h9 => h9) rfl fx_Dk_told_116 ?_
                exact fd_xiret (r := fd_qI σ 11) (u := σ) hQ hx hb hr ⟨by rw [fv_Dk_told, if_neg c1, if_neg c2, if_neg c3, if_neg c4, if_neg c5, if_neg c6, if_pos c9], hI⟩ hP hD hS fx_Dk_told_119 hlocks
              · by_cases c10 : p1 = 7
                · refine lv_tableIn (tgt := 120) hx hb fx_Dk_told_1 (by rw [c10]; decide) (by rw [c10]; decide) (by rw [c10]; rfl) (by decide) ?_
                  refine lv_aload_n hx hb fx_Dk_told_120 rfl (lv_at hl 0 rfl) ?_
                  refine va_get (D := D) (ci := 4) (v := .ref (ad 2)) (C := fn_R_Dk) (T := fn_T_Dk) (N := 9) hx hb hts fn_j_Dk hown hK hP 0 rfl rfl 2 (by decide) (hts _ (List.mem_cons_of_mem _ fq_206)) (fun _ h9 => h9) rfl fx_Dk_told_121 ?_
                  refine va_getN (D := D) (ci := 2) (v := .int (fd_qI σ 12)) (C := fn_R_Rq) (T := fn_T_Rq) (N := 15) hx hb hts fn_j_Rq hown hK hP 2 rfl rfl 12 (by decide) (va_Nw.use rfl (hN _ fq_168)) (fun _ h9 => h9) rfl fx_Dk_told_124 ?_
                  exact fd_xiret (r := fd_qI σ 12) (u := σ) hQ hx hb hr ⟨by rw [fv_Dk_told, if_neg c1, if_neg c2, if_neg c3, if_neg c4, if_neg c5, if_neg c6, if_neg c9, if_pos c10], hI⟩ hP hD hS fx_Dk_told_127 hlocks
                · by_cases c11 : p1 = 8
                  · refine lv_tableIn (tgt := 128) hx hb fx_Dk_told_1 (by rw [c11]; decide) (by rw [c11]; decide) (by rw [c11]; rfl) (by decide) ?_
                    refine lv_aload_n hx hb fx_Dk_told_128 rfl (lv_at hl 0 rfl) ?_
                    refine va_get (D := D) (ci := 4) (v := .ref (ad 2)) (C := fn_R_Dk) (T := fn_T_Dk) (N := 9) hx hb hts fn_j_Dk hown hK hP 0 rfl rfl 2 (by decide) (hts _ (List.mem_cons_of_mem _ fq_206)) (fun _ h9 => h9) rfl fx_Dk_told_129 ?_
                    refine va_getN (D := D) (ci := 2) (v := .int (fd_qI σ 13)) (C := fn_R_Rq) (T := fn_T_Rq) (N := 15) hx hb hts fn_j_Rq hown hK hP 2 rfl rfl 13 (by decide) (va_Nw.use rfl (hN _ fq_170)) (fun _ h9 => h9) rfl fx_Dk_told_132 ?_
                    exact fd_xiret (r := fd_qI σ 13) (u := σ) hQ hx hb hr ⟨by rw [fv_Dk_told, if_neg c1, if_neg c2, if_neg c3, if_neg c4, if_neg c5, if_neg c6, if_neg c9, if_neg c10, if_pos c11], hI⟩ hP hD hS fx_Dk_told_135 hlocks
                  · by_cases c12 : p1 = 9
                    · refine lv_tableIn (tgt := 136) hx hb fx_Dk_told_1 (by rw [c12]; decide) (by rw [c12]; decide) (by rw [c12]; rfl) (by decide) ?_
                      refine lv_aload_n hx hb fx_Dk_told_136 rfl (lv_at hl 0 rfl) ?_
                      refine va_get (D := D) (ci := 4) (v := .ref (ad 2)) (C := fn_R_Dk) (T := fn_T_Dk) (N := 9) hx hb hts fn_j_Dk hown hK hP 0 rfl rfl 2 (by decide) (hts _ (List.mem_cons_of_mem _ fq_206)) (fun _ h9 => h9) rfl fx_Dk_told_137 ?_
                      refine va_getN (D := D) (ci := 2) (v := .int (fd_qI σ 14)) (C := fn_R_Rq) (T := fn_T_Rq) (N := 15) hx hb hts fn_j_Rq hown hK hP 2 rfl rfl 14 (by decide) (va_Nw.use rfl (hN _ fq_172)) (fun _ h9 => h9) rfl fx_Dk_told_140 ?_
                      exact fd_xiret (r := fd_qI σ 14) (u := σ) hQ hx hb hr ⟨by rw [fv_Dk_told, if_neg c1, if_neg c2, if_neg c3, if_neg c4, if_neg c5, if_neg c6, if_neg c9, if_neg c10, if_neg c11, if_pos c12], hI⟩ hP hD hS fx_Dk_told_143 hlocks
                    · refine lv_tableOut (tgt := 144) hx hb fx_Dk_told_1 (by have n0 := lv_neT c1 (a := 0) (by decide); have n1 := lv_neT c2 (a := 1) (by decide); have n2 := lv_neT c3 (a := 2) (by decide); have n3 := lv_neT c4 (a := 3) (by decide); have n4 := lv_neT c5 (a := 4) (by decide); have n5 := lv_neT c6 (a := 5) (by decide); have n6 := lv_neT c9 (a := 6) (by decide); have n7 := lv_neT c10 (a := 7) (by decide); have n8 := lv_neT c11 (a := 8) (by decide); have n9 := lv_neT c12 (a := 9) (by decide); omega) (by decide) ?_
                      exact fd_throw ft_g1 ft_n1 ft_o1 (by decide) fq_243 fq_10 (u := σ) hQ hx hb hst hown hts hX hZ (hl.1.trans hml.symm) hex hlocks ⟨Nat.le_of_ble_eq_true rfl, Nat.le_of_ble_eq_true rfl, Nat.le_of_ble_eq_true rfl, Nat.le_of_ble_eq_true rfl⟩ ⟨⟨1, Or.inl ⟨rfl, rfl⟩, (by rw [fv_Dk_told, if_neg c1, if_neg c2, if_neg c3, if_neg c4, if_neg c5, if_neg c6, if_neg c9, if_neg c10, if_neg c11, if_neg c12])⟩, hI⟩ hP hD hS fx_Dk_told_144 fx_Dk_told_147 fx_Dk_told_148 fx_Dk_told_151
def fv_Dk_kept_j9 (σ : FDS) (p1 : Int32) (p2 : Int32) (v9 : Bool) : Int32 × Int32 × FDS := (0, fd_bi v9, σ)
def fv_Dk_kept_j13 (σ : FDS) (p1 : Int32) (p2 : Int32) (v13 : Bool) : Int32 × Int32 × FDS := (0, fd_bi v13, σ)
def fv_Dk_kept (σ : FDS) (p1 : Int32) (p2 : Int32) : Int32 × Int32 × FDS := if p2 < 0 then (1, 0, σ) else if p2 < 6 then if (fv_Mm_holds σ p1) = true then if p2 = 0 then (0, fd_pI σ (fd_pF σ p1.toNatClampNeg) 0, σ) else if p2 = 1 then (0, fd_pI σ (fd_pF σ p1.toNatClampNeg) 1, σ) else if p2 = 2 then fv_Dk_kept_j9 σ p1 p2 (if (fd_pB σ (fd_pF σ p1.toNatClampNeg)) = true then true else false) else if p2 = 3 then (0, fd_pI σ (fd_pF σ p1.toNatClampNeg) 3, σ) else if p2 = 4 then (0, fd_pI σ (fd_pF σ p1.toNatClampNeg) 4, σ) else fv_Dk_kept_j13 σ p1 p2 (if 0 ≤ (Op.cmpValue (FP.dcmp (fd_dT σ) (fd_pD σ (fd_pF σ p1.toNatClampNeg))) .g) then false else true) else (3, 0, σ) else (1, 0, σ)
set_option maxHeartbeats 4000000 in
set_option maxRecDepth 100000 in
theorem fc_Dk_kept (l : Launch) (hst : l.stackTraces = false) (D : va_G) (cR cP : ClassId) (ad : Nat → Nat) (sz : Nat) (σ : FDS) (p1 : Int32) (p2 : Int32) (hI : fd_Inv σ)  : vx_Met l fy_Dk_kept (fw_Dk_kept :: fb_tbl) ({ frames := 6, cells := 1, slots := 6, locals := 81 } : Room) (fd_Pcx D cR cP ad [.ref (ad 0), .int p1, .int p2] σ sz) ((fun A => va_Qi (fun (r : Int32) (u : FDS) => fv_Dk_kept σ p1 p2 = (0, r, u) ∧ fd_Inv u) (fd_B D cR cP ad A) A) (va_A (fd_w cR cP ad σ) sz)) (fd_XC D cR cP ad (fun E u => (∃ c : Int32, fd_isx c E ∧ fv_Dk_kept σ p1 p2 = (c, 0, u)) ∧ fd_Inv u) (va_A (fd_w cR cP ad σ) sz)) 1 6 (va_A (fd_w cR cP ad σ) sz) := by
  refine fd_xofW (cc := fb_Dk_kept) (maxL := 4) (ret := (some .int)) (Qf := fun A => va_Qi (fun (r : Int32) (u : FDS) => fv_Dk_kept σ p1 p2 = (0, r, u) ∧ fd_Inv u) (fd_B D cR cP ad A) A) (XC := fd_XC D cR cP ad (fun E u => (∃ c : Int32, fd_isx c E ∧ fv_Dk_kept σ p1 p2 = (c, 0, u)) ∧ fd_Inv u)) (by decide) (Nat.le_of_ble_eq_true rfl) ?_
  intro p e s m args below meth c A Q hQ hx hb hr hts hown hlocks hml hP hK hD hS hA hN hX hZ hex ls hl
  have hown : s.vm.findClass fn_R_Dk = some m.cls := hown
  have hl : lv_has ls 4 [(0, .ref (ad 0)), (1, .int p1), (2, .int p2)] := hl
  suffices hgo : ∀ (H : Heap) (locs : List Loc), va_P D fn_cl (fd_w cR cP ad σ) H → va_D A (fd_w cR cP ad σ) → va_S A s.heap H locs → W p l e ({ frames := 6, cells := 1, slots := 6, locals := 81 } : Room) s m args below meth c H locs 0 0 Q (F0 m 0 ls []) from hgo _ _ hP hD hS
  clear hP hD hS
  intro H locs hP hD hS
  refine lv_iload_n hx hb fx_Dk_kept_0 rfl (lv_at hl 2 rfl) ?_
  refine lv_if_lt (tgt := 10) hx hb fx_Dk_kept_1 (by decide) (fun c1 => ?_) (fun c1 => ?_)
  · exact fd_throw ft_g1 ft_n1 ft_o1 (by decide) fq_243 fq_10 (u := σ) hQ hx hb hst hown hts hX hZ (hl.1.trans hml.symm) hex hlocks ⟨Nat.le_of_ble_eq_true rfl, Nat.le_of_ble_eq_true rfl, Nat.le_of_ble_eq_true rfl, Nat.le_of_ble_eq_true rfl⟩ ⟨⟨1, Or.inl ⟨rfl, rfl⟩, (by rw [fv_Dk_kept, if_pos c1])⟩, hI⟩ hP hD hS fx_Dk_kept_10 fx_Dk_kept_13 fx_Dk_kept_14 fx_Dk_kept_17
  · refine lv_iload_n hx hb fx_Dk_kept_4 rfl (lv_at hl 2 rfl) ?_
    refine lv_bipush (v := 6) hx hb fx_Dk_kept_5 (by decide) ?_
    refine lv_icmp_lt (tgt := 18) hx hb fx_Dk_kept_7 (by decide) (fun c2 => ?_) (fun c2 => ?_)
    · refine lv_aload_n hx hb fx_Dk_kept_18 rfl (lv_at hl 0 rfl) ?_
      refine va_get (D := D) (ci := 4) (v := .ref (ad 1)) (C := fn_R_Dk) (T := fn_T_Dk) (N := 9) hx hb hts fn_j_Dk hown hK hP 0 rfl rfl 1 (by decide) (hts _ (List.mem_cons_of_mem _ fq_205)) (fun _ h9 => h9) rfl fx_Dk_kept_19 ?_
      refine lv_iload_n hx hb fx_Dk_kept_22 rfl (lv_at hl 1 rfl) ?_
      refine fd_callz (va_runVN (As := [.int p1]) (rest := []) ⟨hx, hb, hml, hown, hts⟩ (fc_Mm_holds l D cR cP ad H.size σ p1 hI ) ⟨va_cnB 1 hts (fb_good fm_Mm_holds) rfl rfl rfl (hN _ fq_488) (hts _ (List.mem_cons_of_mem _ fq_3)) (by decide +kernel) ⟨Nat.le_of_ble_eq_true rfl, Nat.le_of_ble_eq_true rfl⟩, (hts _ (List.mem_cons_of_mem _ fq_490)), (hts _ (List.mem_cons_of_mem _ fp_Mm_holds))⟩ (fd_preV hP hK hD hN (va_recv hK hP (ci := 0) (q0 := 1) rfl rfl)) rfl rfl hl.1 rfl (lv_room (Nat.le_of_ble_eq_true rfl)) fx_Dk_kept_23 ⟨Nat.le_of_ble_eq_true rfl, Nat.le_of_ble_eq_true rfl⟩) hD hS hA (fun H locs hP hD hS => ?_)
      refine fd_ifne (tgt := 37) hx hb fx_Dk_kept_26 (by decide) (fun c4 => ?_) (fun c4 => ?_)
      · refine lv_aload_n hx hb fx_Dk_kept_37 rfl (lv_at hl 0 rfl) ?_
        refine va_get (D := D) (ci := 4) (v := .ref (ad 1)) (C := fn_R_Dk) (T := fn_T_Dk) (N := 9) hx hb hts fn_j_Dk hown hK hP 0 rfl rfl 1 (by decide) (hts _ (List.mem_cons_of_mem _ fq_205)) (fun _ h9 => h9) rfl fx_Dk_kept_38 ?_
        refine va_getN (D := D) (ci := 0) (v := .ref (ad 58)) (C := fn_R_Mm) (T := fn_T_Mm) (N := 2) hx hb hts fn_j_Mm hown hK hP 1 rfl rfl 0 (by decide) (va_Nw.use rfl (hN _ fq_125)) (fun _ h9 => h9) rfl fx_Dk_kept_41 ?_
        refine lv_iload_n hx hb fx_Dk_kept_44 rfl (lv_at hl 1 rfl) ?_
        have hb5 : vp_in p1 6 := fd_holds hI c4
        refine va_aldq (D := D) hx hb hK hP 4 1 rfl rfl hb5 fx_Dk_kept_45 ?_
        refine W.eq (g2 := F0 m 46 ls (.ref (ad (51 + (fd_pF σ p1.toNatClampNeg))) :: [])) rfl ?_
        refine lv_astore_n (lv' := [(3, .ref (ad (51 + (fd_pF σ p1.toNatClampNeg)))), (0, .ref (ad 0)), (1, .int p1), (2, .int p2)]) hx hb fx_Dk_kept_46 rfl hl (by decide) rfl (fun ls hl => ?_)
        refine lv_iload_n hx hb fx_Dk_kept_47 rfl (lv_at hl 3 rfl) ?_
        by_cases c6 : p2 = 0
        · refine lv_tableIn (tgt := 84) hx hb fx_Dk_kept_48 (by rw [c6]; decide) (by rw [c6]; decide) (by rw [c6]; rfl) (by decide) ?_
          refine lv_aload_n hx hb fx_Dk_kept_84 rfl (lv_at hl 0 rfl) ?_
          refine va_getN (D := D) (ci := 1) (v := .int (fd_pI σ (fd_pF σ p1.toNatClampNeg) 0)) (C := fn_R_Pm) (T := fn_T_Pm) (N := 6) hx hb hts fn_j_Pm hown hK hP (53 + (fd_pF σ p1.toNatClampNeg)) (fd_w_per (fd_plt hI hb5)) rfl 0 (by decide) (va_Nw.use rfl (hN _ fq_95)) (fun _ h9 => h9) rfl fx_Dk_kept_85 ?_
          exact fd_xiret (r := fd_pI σ (fd_pF σ p1.toNatClampNeg) 0) (u := σ) hQ hx hb hr ⟨by rw [fv_Dk_kept, if_neg c1, if_pos c2, if_pos c4, if_pos c6], hI⟩ hP hD hS fx_Dk_kept_88 hlocks
        · by_cases c7 : p2 = 1
          · refine lv_tableIn (tgt := 89) hx hb fx_Dk_kept_48 (by rw [c7]; decide) (by rw [c7]; decide) (by rw [c7]; rfl) (by decide) ?_
            refine lv_aload_n hx hb fx_Dk_kept_89 rfl (lv_at hl 0 rfl) ?_
            refine va_getN (D := D) (ci := 1) (v := .int (fd_pI σ (fd_pF σ p1.toNatClampNeg) 1)) (C := fn_R_Pm) (T := fn_T_Pm) (N := 6) hx hb hts fn_j_Pm hown hK hP (53 + (fd_pF σ p1.toNatClampNeg)) (fd_w_per (fd_plt hI hb5)) rfl 1 (by decide) (va_Nw.use rfl (hN _ fq_98)) (fun _ h9 => h9) rfl fx_Dk_kept_90 ?_
            exact fd_xiret (r := fd_pI σ (fd_pF σ p1.toNatClampNeg) 1) (u := σ) hQ hx hb hr ⟨by rw [fv_Dk_kept, if_neg c1, if_pos c2, if_pos c4, if_neg c6, if_pos c7], hI⟩ hP hD hS fx_Dk_kept_93 hlocks
          · by_cases c8 : p2 = 2
            · refine lv_tableIn (tgt := 94) hx hb fx_Dk_kept_48 (by rw [c8]; decide) (by rw [c8]; decide) (by rw [c8]; rfl) (by decide) ?_
              refine lv_aload_n hx hb fx_Dk_kept_94 rfl (lv_at hl 0 rfl) ?_
              refine va_getN (D := D) (ci := 1) (v := .int (fd_bi (fd_pB σ (fd_pF σ p1.toNatClampNeg)))) (C := fn_R_Pm) (T := fn_T_Pm) (N := 6) hx hb hts fn_j_Pm hown hK hP (53 + (fd_pF σ p1.toNatClampNeg)) (fd_w_per (fd_plt hI hb5)) rfl 2 (by decide) (va_Nw.use rfl (hN _ fq_101)) (fun _ h9 => h9) rfl fx_Dk_kept_95 ?_
              have hJ9 : ∀ (H : Heap) (locs : List Loc), va_P D fn_cl (fd_w cR cP ad σ) H → va_D A (fd_w cR cP ad σ) → va_S A s.heap H locs → ∀ (v9 : Bool), v9 = (if (fd_pB σ (fd_pF σ p1.toNatClampNeg)) = true then true else false) → W p l e ({ frames := 6, cells := 1, slots := 6, locals := 81 } : Room) s m args below meth c H locs 0 0 Q (F0 m 106 ls [.int (fd_bi v9)]) := by
                intro H locs hP hD hS v9 hv9
                exact fd_xiret (r := fd_bi v9) (u := σ) hQ hx hb hr ⟨by rw [fv_Dk_kept, if_neg c1, if_pos c2, if_pos c4, if_neg c6, if_neg c7, if_pos c8, ← hv9, fv_Dk_kept_j9], hI⟩ hP hD hS fx_Dk_kept_106 hlocks
              refine fd_ifeq (tgt := 105) hx hb fx_Dk_kept_98 (by decide) (fun c10 => ?_) (fun c10 => ?_)
              · refine lv_iconst (v := 0) hx hb fx_Dk_kept_105 (by decide) ?_
                exact hJ9 H locs hP hD hS false (by rw [if_neg c10])
              · refine lv_iconst (v := 1) hx hb fx_Dk_kept_101 (by decide) ?_
                refine lv_goto (tgt := 106) hx hb fx_Dk_kept_102 (by decide) ?_
                exact hJ9 H locs hP hD hS true (by rw [if_pos c10])
            · by_cases c11 : p2 = 3
              · refine lv_tableIn (tgt := 107) hx hb fx_Dk_kept_48 (by rw [c11]; decide) (by rw [c11]; decide) (by rw [c11]; rfl) (by decide) ?_
                refine lv_aload_n hx hb fx_Dk_kept_107 rfl (lv_at hl 0 rfl) ?_
                refine va_getN (D := D) (ci := 1) (v := .int (fd_pI σ (fd_pF σ p1.toNatClampNeg) 3)) (C := fn_R_Pm) (T := fn_T_Pm) (N := 6) hx hb hts fn_j_Pm hown hK hP (53 + (fd_pF σ p1.toNatClampNeg)) (fd_w_per (fd_plt hI hb5)) rfl 3 (by decide) (va_Nw.use rfl (hN _ fq_104)) (fun _ h9 => h9) rfl fx_Dk_kept_108 ?_
                exact fd_xiret (r := fd_pI σ (fd_pF σ p1.toNatClampNeg) 3) (u := σ) hQ hx hb hr ⟨by rw [fv_Dk_kept, if_neg c1, if_pos c2, if_pos c4, if_neg c6, if_neg c7, if_neg c8, if_pos c11], hI⟩ hP hD hS fx_Dk_kept_111 hlocks
              · by_cases c12 : p2 = 4
                · refine lv_tableIn (tgt := 112) hx hb fx_Dk_kept_48 (by rw [c12]; decide) (by rw [c12]; decide) (by rw [c12]; rfl) (by decide) ?_
                  refine lv_aload_n hx hb fx_Dk_kept_112 rfl (lv_at hl 0 rfl) ?_
                  refine va_getN (D := D) (ci := 1) (v := .int (fd_pI σ (fd_pF σ p1.toNatClampNeg) 4)) (C := fn_R_Pm) (T := fn_T_Pm) (N := 6) hx hb hts fn_j_Pm hown hK hP (53 + (fd_pF σ p1.toNatClampNeg)) (fd_w_per (fd_plt hI hb5)) rfl 4 (by decide) (va_Nw.use rfl (hN _ fq_107)) (fun _ h9 => h9) rfl fx_Dk_kept_113 ?_
                  exact fd_xiret (r := fd_pI σ (fd_pF σ p1.toNatClampNeg) 4) (u := σ) hQ hx hb hr ⟨by rw [fv_Dk_kept, if_neg c1, if_pos c2, if_pos c4, if_neg c6, if_neg c7, if_neg c8, if_neg c11, if_pos c12], hI⟩ hP hD hS fx_Dk_kept_116 hlocks
                · refine lv_tableOut (tgt := 117) hx hb fx_Dk_kept_48 (by have n0 := lv_neT c6 (a := 0) (by decide); have n1 := lv_neT c7 (a := 1) (by decide); have n2 := lv_neT c8 (a := 2) (by decide); have n3 := lv_neT c11 (a := 3) (by decide); have n4 := lv_neT c12 (a := 4) (by decide); omega) (by decide) ?_
                  refine lv_aload_n hx hb fx_Dk_kept_117 rfl (lv_at hl 1 rfl) ?_
                  refine va_get (D := D) (ci := 4) (v := .double (fd_dT σ)) (C := fn_R_Dk) (T := fn_T_Dk) (N := 9) hx hb hts fn_j_Dk hown hK hP 0 rfl rfl 3 (by decide) (hts _ (List.mem_cons_of_mem _ fq_207)) (fun _ h9 => h9) rfl fx_Dk_kept_118 ?_
                  refine lv_aload_n hx hb fx_Dk_kept_121 rfl (lv_at hl 0 rfl) ?_
                  refine va_getN (D := D) (ci := 1) (v := .double (fd_pD σ (fd_pF σ p1.toNatClampNeg))) (C := fn_R_Pm) (T := fn_T_Pm) (N := 6) hx hb hts fn_j_Pm hown hK hP (53 + (fd_pF σ p1.toNatClampNeg)) (fd_w_per (fd_plt hI hb5)) rfl 5 (by decide) (va_Nw.use rfl (hN _ fq_110)) (fun _ h9 => h9) rfl fx_Dk_kept_122 ?_
                  refine lv_dcmp hx hb fx_Dk_kept_125 ?_
                  have hJ13 : ∀ (H : Heap) (locs : List Loc), va_P D fn_cl (fd_w cR cP ad σ) H → va_D A (fd_w cR cP ad σ) → va_S A s.heap H locs → ∀ (v13 : Bool), v13 = (if 0 ≤ (Op.cmpValue (FP.dcmp (fd_dT σ) (fd_pD σ (fd_pF σ p1.toNatClampNeg))) .g) then false else true) → W p l e ({ frames := 6, cells := 1, slots := 6, locals := 81 } : Room) s m args below meth c H locs 0 0 Q (F0 m 134 ls [.int (fd_bi v13)]) := by
                    intro H locs hP hD hS v13 hv13
                    exact fd_xiret (r := fd_bi v13) (u := σ) hQ hx hb hr ⟨by rw [fv_Dk_kept, if_neg c1, if_pos c2, if_pos c4, if_neg c6, if_neg c7, if_neg c8, if_neg c11, if_neg c12, ← hv13, fv_Dk_kept_j13], hI⟩ hP hD hS fx_Dk_kept_134 hlocks
                  refine lv_if_ge (tgt := 133) hx hb fx_Dk_kept_126 (by decide) (fun c14 => ?_) (fun c14 => ?_)
                  · refine lv_iconst (v := 0) hx hb fx_Dk_kept_133 (by decide) ?_
                    exact hJ13 H locs hP hD hS false (by rw [if_pos c14])
                  · refine lv_iconst (v := 1) hx hb fx_Dk_kept_129 (by decide) ?_
                    refine lv_goto (tgt := 134) hx hb fx_Dk_kept_130 (by decide) ?_
                    exact hJ13 H locs hP hD hS true (by rw [if_neg c14])
      · exact fd_throw ft_g3 ft_n3 ft_o3 (by decide) fq_492 fq_12 (u := σ) hQ hx hb hst hown hts hX hZ (hl.1.trans hml.symm) hex hlocks ⟨Nat.le_of_ble_eq_true rfl, Nat.le_of_ble_eq_true rfl, Nat.le_of_ble_eq_true rfl, Nat.le_of_ble_eq_true rfl⟩ ⟨⟨3, Or.inr (Or.inr ⟨rfl, rfl⟩), (by rw [fv_Dk_kept, if_neg c1, if_pos c2, if_neg c4])⟩, hI⟩ hP hD hS fx_Dk_kept_29 fx_Dk_kept_32 fx_Dk_kept_33 fx_Dk_kept_36
    · exact fd_throw ft_g1 ft_n1 ft_o1 (by decide) fq_243 fq_10 (u := σ) hQ hx hb hst hown hts hX hZ (hl.1.trans hml.symm) hex hlocks ⟨Nat.le_of_ble_eq_true rfl, Nat.le_of_ble_eq_true rfl, Nat.le_of_ble_eq_true rfl, Nat.le_of_ble_eq_true rfl⟩ ⟨⟨1, Or.inl ⟨rfl, rfl⟩, (by rw [fv_Dk_kept, if_neg c1, if_neg c2])⟩, hI⟩ hP hD hS fx_Dk_kept_10 fx_Dk_kept_13 fx_Dk_kept_14 fx_Dk_kept_17
def fv_Dk_left_j4 (σ : FDS) (p1 : Int32) (v4 : UInt64) : Int32 × UInt64 × FDS := (0, v4, σ)
def fv_Dk_left (σ : FDS) (p1 : Int32) : Int32 × UInt64 × FDS := if (fv_Mm_holds σ p1) = true then fv_Dk_left_j4 σ p1 (if 0 ≤ (Op.cmpValue (FP.dcmp (fd_dT σ) (fd_pD σ (fd_pF σ p1.toNatClampNeg))) .g) then FP.dconst0 else FP.dsub (fd_pD σ (fd_pF σ p1.toNatClampNeg)) (fd_dT σ)) else (3, 0, σ)
set_option maxHeartbeats 4000000 in
set_option maxRecDepth 100000 in
theorem fc_Dk_left (l : Launch) (hst : l.stackTraces = false) (D : va_G) (cR cP : ClassId) (ad : Nat → Nat) (sz : Nat) (σ : FDS) (p1 : Int32) (hI : fd_Inv σ)  : vx_Met l fy_Dk_left (fw_Dk_left :: fb_tbl) ({ frames := 6, cells := 1, slots := 6, locals := 81 } : Room) (fd_Pcx D cR cP ad [.ref (ad 0), .int p1] σ sz) ((fun A => va_Qd (fun (r : UInt64) (u : FDS) => fv_Dk_left σ p1 = (0, r, u) ∧ fd_Inv u) (fd_B D cR cP ad A) A) (va_A (fd_w cR cP ad σ) sz)) (fd_XC D cR cP ad (fun E u => (∃ c : Int32, fd_isx c E ∧ fv_Dk_left σ p1 = (c, 0, u)) ∧ fd_Inv u) (va_A (fd_w cR cP ad σ) sz)) 1 6 (va_A (fd_w cR cP ad σ) sz) := by
  refine fd_xofW (cc := fb_Dk_left) (maxL := 4) (ret := (some .double)) (Qf := fun A => va_Qd (fun (r : UInt64) (u : FDS) => fv_Dk_left σ p1 = (0, r, u) ∧ fd_Inv u) (fd_B D cR cP ad A) A) (XC := fd_XC D cR cP ad (fun E u => (∃ c : Int32, fd_isx c E ∧ fv_Dk_left σ p1 = (c, 0, u)) ∧ fd_Inv u)) (by decide) (Nat.le_of_ble_eq_true rfl) ?_
  intro p e s m args below meth c A Q hQ hx hb hr hts hown hlocks hml hP hK hD hS hA hN hX hZ hex ls hl
  have hown : s.vm.findClass fn_R_Dk = some m.cls := hown
  have hl : lv_has ls 4 [(0, .ref (ad 0)), (1, .int p1)] := hl
  suffices hgo : ∀ (H : Heap) (locs : List Loc), va_P D fn_cl (fd_w cR cP ad σ) H → va_D A (fd_w cR cP ad σ) → va_S A s.heap H locs → W p l e ({ frames := 6, cells := 1, slots := 6, locals := 81 } : Room) s m args below meth c H locs 0 0 Q (F0 m 0 ls []) from hgo _ _ hP hD hS
  clear hP hD hS
  intro H locs hP hD hS
  refine lv_aload_n hx hb fx_Dk_left_0 rfl (lv_at hl 0 rfl) ?_
  refine va_get (D := D) (ci := 4) (v := .ref (ad 1)) (C := fn_R_Dk) (T := fn_T_Dk) (N := 9) hx hb hts fn_j_Dk hown hK hP 0 rfl rfl 1 (by decide) (hts _ (List.mem_cons_of_mem _ fq_205)) (fun _ h9 => h9) rfl fx_Dk_left_1 ?_
  refine lv_iload_n hx hb fx_Dk_left_4 rfl (lv_at hl 1 rfl) ?_
  refine fd_callz (va_runVN (As := [.int p1]) (rest := []) ⟨hx, hb, hml, hown, hts⟩ (fc_Mm_holds l D cR cP ad H.size σ p1 hI ) ⟨va_cnB 1 hts (fb_good fm_Mm_holds) rfl rfl rfl (hN _ fq_488) (hts _ (List.mem_cons_of_mem _ fq_3)) (by decide +kernel) ⟨Nat.le_of_ble_eq_true rfl, Nat.le_of_ble_eq_true rfl⟩, (hts _ (List.mem_cons_of_mem _ fq_490)), (hts _ (List.mem_cons_of_mem _ fp_Mm_holds))⟩ (fd_preV hP hK hD hN (va_recv hK hP (ci := 0) (q0 := 1) rfl rfl)) rfl rfl hl.1 rfl (lv_room (Nat.le_of_ble_eq_true rfl)) fx_Dk_left_5 ⟨Nat.le_of_ble_eq_true rfl, Nat.le_of_ble_eq_true rfl⟩) hD hS hA (fun H locs hP hD hS => ?_)
  refine fd_ifne (tgt := 19) hx hb fx_Dk_left_8 (by decide) (fun c2 => ?_) (fun c2 => ?_)
  · refine lv_aload_n hx hb fx_Dk_left_19 rfl (lv_at hl 0 rfl) ?_
    refine va_get (D := D) (ci := 4) (v := .ref (ad 1)) (C := fn_R_Dk) (T := fn_T_Dk) (N := 9) hx hb hts fn_j_Dk hown hK hP 0 rfl rfl 1 (by decide) (hts _ (List.mem_cons_of_mem _ fq_205)) (fun _ h9 => h9) rfl fx_Dk_left_20 ?_
    refine va_getN (D := D) (ci := 0) (v := .ref (ad 58)) (C := fn_R_Mm) (T := fn_T_Mm) (N := 2) hx hb hts fn_j_Mm hown hK hP 1 rfl rfl 0 (by decide) (va_Nw.use rfl (hN _ fq_125)) (fun _ h9 => h9) rfl fx_Dk_left_23 ?_
    refine lv_iload_n hx hb fx_Dk_left_26 rfl (lv_at hl 1 rfl) ?_
    have hb3 : vp_in p1 6 := fd_holds hI c2
    refine va_aldq (D := D) hx hb hK hP 4 1 rfl rfl hb3 fx_Dk_left_27 ?_
    refine W.eq (g2 := F0 m 28 ls (.ref (ad (51 + (fd_pF σ p1.toNatClampNeg))) :: [])) rfl ?_
    refine va_getN (D := D) (ci := 1) (v := .double (fd_pD σ (fd_pF σ p1.toNatClampNeg))) (C := fn_R_Pm) (T := fn_T_Pm) (N := 6) hx hb hts fn_j_Pm hown hK hP (53 + (fd_pF σ p1.toNatClampNeg)) (fd_w_per (fd_plt hI hb3)) rfl 5 (by decide) (va_Nw.use rfl (hN _ fq_110)) (fun _ h9 => h9) rfl fx_Dk_left_28 ?_
    refine lv_dstore_n (lv' := [(2, .double (fd_pD σ (fd_pF σ p1.toNatClampNeg))), (0, .ref (ad 0)), (1, .int p1)]) hx hb fx_Dk_left_31 rfl hl (by decide) rfl (fun ls hl => ?_)
    refine lv_aload_n hx hb fx_Dk_left_32 rfl (lv_at hl 1 rfl) ?_
    refine va_get (D := D) (ci := 4) (v := .double (fd_dT σ)) (C := fn_R_Dk) (T := fn_T_Dk) (N := 9) hx hb hts fn_j_Dk hown hK hP 0 rfl rfl 3 (by decide) (hts _ (List.mem_cons_of_mem _ fq_207)) (fun _ h9 => h9) rfl fx_Dk_left_33 ?_
    refine lv_dload_n hx hb fx_Dk_left_36 rfl (lv_at hl 0 rfl) ?_
    refine lv_dcmp hx hb fx_Dk_left_37 ?_
    have hJ4 : ∀ (H : Heap) (locs : List Loc), va_P D fn_cl (fd_w cR cP ad σ) H → va_D A (fd_w cR cP ad σ) → va_S A s.heap H locs → ∀ (v4 : UInt64), v4 = (if 0 ≤ (Op.cmpValue (FP.dcmp (fd_dT σ) (fd_pD σ (fd_pF σ p1.toNatClampNeg))) .g) then FP.dconst0 else FP.dsub (fd_pD σ (fd_pF σ p1.toNatClampNeg)) (fd_dT σ)) → W p l e ({ frames := 6, cells := 1, slots := 6, locals := 81 } : Room) s m args below meth c H locs 0 0 Q (F0 m 51 ls [.double v4]) := by
      intro H locs hP hD hS v4 hv4
      exact fd_xdret (r := v4) (u := σ) hQ hx hb hr ⟨by rw [fv_Dk_left, if_pos c2, ← hv4, fv_Dk_left_j4], hI⟩ hP hD hS fx_Dk_left_51 hlocks
    refine lv_if_ge (tgt := 50) hx hb fx_Dk_left_38 (by decide) (fun c5 => ?_) (fun c5 => ?_)
    · refine lv_dconst0 hx hb fx_Dk_left_50 ?_
      exact hJ4 H locs hP hD hS FP.dconst0 (by rw [if_pos c5])
    · refine lv_dload_n hx hb fx_Dk_left_41 rfl (lv_at hl 0 rfl) ?_
      refine lv_aload_n hx hb fx_Dk_left_42 rfl (lv_at hl 1 rfl) ?_
      refine va_get (D := D) (ci := 4) (v := .double (fd_dT σ)) (C := fn_R_Dk) (T := fn_T_Dk) (N := 9) hx hb hts fn_j_Dk hown hK hP 0 rfl rfl 3 (by decide) (hts _ (List.mem_cons_of_mem _ fq_207)) (fun _ h9 => h9) rfl fx_Dk_left_43 ?_
      refine lv_dsub hx hb fx_Dk_left_46 (fd_n64 (FP.Core.dsub_of_lt (fd_cmpg c5))) ?_
      refine lv_goto (tgt := 51) hx hb fx_Dk_left_47 (by decide) ?_
      exact hJ4 H locs hP hD hS (FP.dsub (fd_pD σ (fd_pF σ p1.toNatClampNeg)) (fd_dT σ)) (by rw [if_neg c5])
  · exact fd_throw ft_g3 ft_n3 ft_o3 (by decide) fq_492 fq_12 (u := σ) hQ hx hb hst hown hts hX hZ (hl.1.trans hml.symm) hex hlocks ⟨Nat.le_of_ble_eq_true rfl, Nat.le_of_ble_eq_true rfl, Nat.le_of_ble_eq_true rfl, Nat.le_of_ble_eq_true rfl⟩ ⟨⟨3, Or.inr (Or.inr ⟨rfl, rfl⟩), (by rw [fv_Dk_left, if_neg c2])⟩, hI⟩ hP hD hS fx_Dk_left_11 fx_Dk_left_14 fx_Dk_left_15 fx_Dk_left_18
def fv_Dk_count (σ : FDS) (p1 : Int32) : Int32 × Int32 × FDS := if (fv_Dk_isUrl σ (p1 - 10)) = true then (0, fd_rI σ ((p1 - 10).toNatClampNeg) 11, σ) else if (fv_Dk_isUrl σ (p1 - 60)) = true then (0, fd_rI σ ((p1 - 60).toNatClampNeg) 12, σ) else if p1 = 0 then (0, fd_dI σ 4, σ) else if p1 = 1 then (0, fd_dI σ 5, σ) else if p1 = 2 then (0, fd_dI σ 6, σ) else if p1 = 3 then (0, fd_dI σ 7, σ) else if p1 = 4 then (0, fd_dI σ 8, σ) else if p1 = 5 then (0, fd_mS σ, σ) else (1, 0, σ)
set_option maxHeartbeats 4000000 in
set_option maxRecDepth 100000 in
theorem fc_Dk_count (l : Launch) (hst : l.stackTraces = false) (D : va_G) (cR cP : ClassId) (ad : Nat → Nat) (sz : Nat) (σ : FDS) (p1 : Int32) (hI : fd_Inv σ)  : vx_Met l fy_Dk_count (fw_Dk_count :: fb_tbl) ({ frames := 6, cells := 1, slots := 6, locals := 81 } : Room) (fd_Pcx D cR cP ad [.ref (ad 0), .int p1] σ sz) ((fun A => va_Qi (fun (r : Int32) (u : FDS) => fv_Dk_count σ p1 = (0, r, u) ∧ fd_Inv u) (fd_B D cR cP ad A) A) (va_A (fd_w cR cP ad σ) sz)) (fd_XC D cR cP ad (fun E u => (∃ c : Int32, fd_isx c E ∧ fv_Dk_count σ p1 = (c, 0, u)) ∧ fd_Inv u) (va_A (fd_w cR cP ad σ) sz)) 1 6 (va_A (fd_w cR cP ad σ) sz) := by
  refine fd_xofW (cc := fb_Dk_count) (maxL := 2) (ret := (some .int)) (Qf := fun A => va_Qi (fun (r : Int32) (u : FDS) => fv_Dk_count σ p1 = (0, r, u) ∧ fd_Inv u) (fd_B D cR cP ad A) A) (XC := fd_XC D cR cP ad (fun E u => (∃ c : Int32, fd_isx c E ∧ fv_Dk_count σ p1 = (c, 0, u)) ∧ fd_Inv u)) (by decide) (Nat.le_of_ble_eq_true rfl) ?_
  intro p e s m args below meth c A Q hQ hx hb hr hts hown hlocks hml hP hK hD hS hA hN hX hZ hex ls hl
  have hown : s.vm.findClass fn_R_Dk = some m.cls := hown
  have hl : lv_has ls 2 [(0, .ref (ad 0)), (1, .int p1)] := hl
  suffices hgo : ∀ (H : Heap) (locs : List Loc), va_P D fn_cl (fd_w cR cP ad σ) H → va_D A (fd_w cR cP ad σ) → va_S A s.heap H locs → W p l e ({ frames := 6, cells := 1, slots := 6, locals := 81 } : Room) s m args below meth c H locs 0 0 Q (F0 m 0 ls []) from hgo _ _ hP hD hS
  clear hP hD hS
  intro H locs hP hD hS
  refine lv_iload_n hx hb fx_Dk_count_0 rfl (lv_at hl 1 rfl) ?_
  refine lv_bipush (v := 10) hx hb fx_Dk_count_1 (by decide) ?_
  refine lv_isub hx hb fx_Dk_count_3 ?_
  refine fd_callz (va_runS (As := [.int (p1 - 10)]) (rest := []) ⟨hx, hb, hml, hown, hts⟩ (fc_Dk_isUrl l D cR cP ad H.size σ (p1 - 10) hI ) ⟨callB_of 1 hts (fb_good fm_Dk_isUrl) rfl rfl rfl (hts _ (List.mem_cons_of_mem _ fq_1)) (hts _ (List.mem_cons_of_mem _ fq_240)) (by decide +kernel) ⟨Nat.le_of_ble_eq_true rfl, Nat.le_of_ble_eq_true rfl⟩, (hts _ (List.mem_cons_of_mem _ fq_241))⟩ (fd_preS hP hK hD hN) rfl rfl hl.1 rfl (lv_room (Nat.le_of_ble_eq_true rfl)) fx_Dk_count_4 ⟨Nat.le_of_ble_eq_true rfl, Nat.le_of_ble_eq_true rfl⟩) hD hS hA (fun H locs hP hD hS => ?_)
  refine fd_ifeq (tgt := 23) hx hb fx_Dk_count_7 (by decide) (fun c2 => ?_) (fun c2 => ?_)
  · refine lv_iload_n hx hb fx_Dk_count_23 rfl (lv_at hl 1 rfl) ?_
    refine lv_bipush (v := 60) hx hb fx_Dk_count_24 (by decide) ?_
    refine lv_isub hx hb fx_Dk_count_26 ?_
    refine fd_callz (va_runS (As := [.int (p1 - 60)]) (rest := []) ⟨hx, hb, hml, hown, hts⟩ (fc_Dk_isUrl l D cR cP ad H.size σ (p1 - 60) hI ) ⟨callB_of 1 hts (fb_good fm_Dk_isUrl) rfl rfl rfl (hts _ (List.mem_cons_of_mem _ fq_1)) (hts _ (List.mem_cons_of_mem _ fq_240)) (by decide +kernel) ⟨Nat.le_of_ble_eq_true rfl, Nat.le_of_ble_eq_true rfl⟩, (hts _ (List.mem_cons_of_mem _ fq_241))⟩ (fd_preS hP hK hD hN) rfl rfl hl.1 rfl (lv_room (Nat.le_of_ble_eq_true rfl)) fx_Dk_count_27 ⟨Nat.le_of_ble_eq_true rfl, Nat.le_of_ble_eq_true rfl⟩) hD hS hA (fun H locs hP hD hS => ?_)
    refine fd_ifeq (tgt := 46) hx hb fx_Dk_count_30 (by decide) (fun c4 => ?_) (fun c4 => ?_)
    · refine lv_iload_n hx hb fx_Dk_count_46 rfl (lv_at hl 1 rfl) ?_
      by_cases c5 : p1 = 0
      · refine lv_tableIn (tgt := 84) hx hb fx_Dk_count_47 (by rw [c5]; decide) (by rw [c5]; decide) (by rw [c5]; rfl) (by decide) ?_
        refine lv_aload_n hx hb fx_Dk_count_84 rfl (lv_at hl 0 rfl) ?_
        refine va_get (D := D) (ci := 4) (v := .int (fd_dI σ 4)) (C := fn_R_Dk) (T := fn_T_Dk) (N := 9) hx hb hts fn_j_Dk hown hK hP 0 rfl rfl 4 (by decide) (hts _ (List.mem_cons_of_mem _ fq_208)) (fun _ h9 => h9) rfl fx_Dk_count_85 ?_
        exact fd_xiret (r := fd_dI σ 4) (u := σ) hQ hx hb hr ⟨by rw [fv_Dk_count, if_neg c2, if_neg c4, if_pos c5], hI⟩ hP hD hS fx_Dk_count_88 hlocks
      · by_cases c6 : p1 = 1
        · refine lv_tableIn (tgt := 89) hx hb fx_Dk_count_47 (by rw [c6]; decide) (by rw [c6]; decide) (by rw [c6]; rfl) (by decide) ?_
          refine lv_aload_n hx hb fx_Dk_count_89 rfl (lv_at hl 0 rfl) ?_
          refine va_get (D := D) (ci := 4) (v := .int (fd_dI σ 5)) (C := fn_R_Dk) (T := fn_T_Dk) (N := 9) hx hb hts fn_j_Dk hown hK hP 0 rfl rfl 5 (by decide) (hts _ (List.mem_cons_of_mem _ fq_209)) (fun _ h9 => h9) rfl fx_Dk_count_90 ?_
          exact fd_xiret (r := fd_dI σ 5) (u := σ) hQ hx hb hr ⟨by rw [fv_Dk_count, if_neg c2, if_neg c4, if_neg c5, if_pos c6], hI⟩ hP hD hS fx_Dk_count_93 hlocks
        · by_cases c7 : p1 = 2
          · refine lv_tableIn (tgt := 94) hx hb fx_Dk_count_47 (by rw [c7]; decide) (by rw [c7]; decide) (by rw [c7]; rfl) (by decide) ?_
            refine lv_aload_n hx hb fx_Dk_count_94 rfl (lv_at hl 0 rfl) ?_
            refine va_get (D := D) (ci := 4) (v := .int (fd_dI σ 6)) (C := fn_R_Dk) (T := fn_T_Dk) (N := 9) hx hb hts fn_j_Dk hown hK hP 0 rfl rfl 6 (by decide) (hts _ (List.mem_cons_of_mem _ fq_210)) (fun _ h9 => h9) rfl fx_Dk_count_95 ?_
            exact fd_xiret (r := fd_dI σ 6) (u := σ) hQ hx hb hr ⟨by rw [fv_Dk_count, if_neg c2, if_neg c4, if_neg c5, if_neg c6, if_pos c7], hI⟩ hP hD hS fx_Dk_count_98 hlocks
          · by_cases c8 : p1 = 3
            · refine lv_tableIn (tgt := 99) hx hb fx_Dk_count_47 (by rw [c8]; decide) (by rw [c8]; decide) (by rw [c8]; rfl) (by decide) ?_
              refine lv_aload_n hx hb fx_Dk_count_99 rfl (lv_at hl 0 rfl) ?_
              refine va_get (D := D) (ci := 4) (v := .int (fd_dI σ 7)) (C := fn_R_Dk) (T := fn_T_Dk) (N := 9) hx hb hts fn_j_Dk hown hK hP 0 rfl rfl 7 (by decide) (hts _ (List.mem_cons_of_mem _ fq_211)) (fun _ h9 => h9) rfl fx_Dk_count_100 ?_
              exact fd_xiret (r := fd_dI σ 7) (u := σ) hQ hx hb hr ⟨by rw [fv_Dk_count, if_neg c2, if_neg c4, if_neg c5, if_neg c6, if_neg c7, if_pos c8], hI⟩ hP hD hS fx_Dk_count_103 hlocks
            · by_cases c9 : p1 = 4
              · refine lv_tableIn (tgt := 104) hx hb fx_Dk_count_47 (by rw [c9]; decide) (by rw [c9]; decide) (by rw [c9]; rfl) (by decide) ?_
                refine lv_aload_n hx hb fx_Dk_count_104 rfl (lv_at hl 0 rfl) ?_
                refine va_get (D := D) (ci := 4) (v := .int (fd_dI σ 8)) (C := fn_R_Dk) (T := fn_T_Dk) (N := 9) hx hb hts fn_j_Dk hown hK hP 0 rfl rfl 8 (by decide) (hts _ (List.mem_cons_of_mem _ fq_212)) (fun _ h9 => h9) rfl fx_Dk_count_105 ?_
                exact fd_xiret (r := fd_dI σ 8) (u := σ) hQ hx hb hr ⟨by rw [fv_Dk_count, if_neg c2, if_neg c4, if_neg c5, if_neg c6, if_neg c7, if_neg c8, if_pos c9], hI⟩ hP hD hS fx_Dk_count_108 hlocks
              · by_cases c10 : p1 = 5
                · refine lv_tableIn (tgt := 109) hx hb fx_Dk_count_47 (by rw [c10]; decide) (by rw [c10]; decide) (by rw [c10]; rfl) (by decide) ?_
                  refine lv_aload_n hx hb fx_Dk_count_109 rfl (lv_at hl 0 rfl) ?_
                  refine va_get (D := D) (ci := 4) (v := .ref (ad 1)) (C := fn_R_Dk) (T := fn_T_Dk) (N := 9) hx hb hts fn_j_Dk hown hK hP 0 rfl rfl 1 (by decide) (hts _ (List.mem_cons_of_mem _ fq_205)) (fun _ h9 => h9) rfl fx_Dk_count_110 ?_
                  refine va_getN (D := D) (ci := 0) (v := .int (fd_mS σ)) (C := fn_R_Mm) (T := fn_T_Mm) (N := 2) hx hb hts fn_j_Mm hown hK hP 1 rfl rfl 1 (by decide) (va_Nw.use rfl (hN _ fq_127)) (fun _ h9 => h9) rfl fx_Dk_count_113 ?_
                  exact fd_xiret (r := fd_mS σ) (u := σ) hQ hx hb hr ⟨by rw [fv_Dk_count, if_neg c2, if_neg c4, if_neg c5, if_neg c6, if_neg c7, if_neg c8, if_neg c9, if_pos c10], hI⟩ hP hD hS fx_Dk_count_116 hlocks
                · refine lv_tableOut (tgt := 117) hx hb fx_Dk_count_47 (by have n0 := lv_neT c5 (a := 0) (by decide); have n1 := lv_neT c6 (a := 1) (by decide); have n2 := lv_neT c7 (a := 2) (by decide); have n3 := lv_neT c8 (a := 3) (by decide); have n4 := lv_neT c9 (a := 4) (by decide); have n5 := lv_neT c10 (a := 5) (by decide); omega) (by decide) ?_
                  exact fd_throw ft_g1 ft_n1 ft_o1 (by decide) fq_243 fq_10 (u := σ) hQ hx hb hst hown hts hX hZ (hl.1.trans hml.symm) hex hlocks ⟨Nat.le_of_ble_eq_true rfl, Nat.le_of_ble_eq_true rfl, Nat.le_of_ble_eq_true rfl, Nat.le_of_ble_eq_true rfl⟩ ⟨⟨1, Or.inl ⟨rfl, rfl⟩, (by rw [fv_Dk_count, if_neg c2, if_neg c4, if_neg c5, if_neg c6, if_neg c7, if_neg c8, if_neg c9, if_neg c10])⟩, hI⟩ hP hD hS fx_Dk_count_117 fx_Dk_count_120 fx_Dk_count_121 fx_Dk_count_124
    · refine lv_aload_n hx hb fx_Dk_count_33 rfl (lv_at hl 0 rfl) ?_
      refine va_get (D := D) (ci := 4) (v := .ref (ad 57)) (C := fn_R_Dk) (T := fn_T_Dk) (N := 9) hx hb hts fn_j_Dk hown hK hP 0 rfl rfl 0 (by decide) (hts _ (List.mem_cons_of_mem _ fq_204)) (fun _ h9 => h9) rfl fx_Dk_count_34 ?_
      refine lv_iload_n hx hb fx_Dk_count_37 rfl (lv_at hl 1 rfl) ?_
      refine lv_bipush (v := 60) hx hb fx_Dk_count_38 (by decide) ?_
      refine lv_isub hx hb fx_Dk_count_40 ?_
      have hb11 : vp_in (p1 - 60) 48 := fd_url c4
      refine va_aldq (D := D) hx hb hK hP 3 0 rfl rfl hb11 fx_Dk_count_41 ?_
      refine W.eq (g2 := F0 m 42 ls (.ref (ad (3 + ((p1 - 60).toNatClampNeg))) :: [])) rfl ?_
      refine va_getN (D := D) (ci := 3) (v := .int (fd_rI σ ((p1 - 60).toNatClampNeg) 12)) (C := fn_R_Rs) (T := fn_T_Rs) (N := 13) hx hb hts fn_j_Rs hown hK hP (5 + ((p1 - 60).toNatClampNeg)) (fd_w_res (fd_lt hb11)) rfl 12 (by decide) (va_Nw.use rfl (hN _ fq_52)) (fun _ h9 => h9) rfl fx_Dk_count_42 ?_
      exact fd_xiret (r := fd_rI σ ((p1 - 60).toNatClampNeg) 12) (u := σ) hQ hx hb hr ⟨by rw [fv_Dk_count, if_neg c2, if_pos c4], hI⟩ hP hD hS fx_Dk_count_45 hlocks
  · refine lv_aload_n hx hb fx_Dk_count_10 rfl (lv_at hl 0 rfl) ?_
    refine va_get (D := D) (ci := 4) (v := .ref (ad 57)) (C := fn_R_Dk) (T := fn_T_Dk) (N := 9) hx hb hts fn_j_Dk hown hK hP 0 rfl rfl 0 (by decide) (hts _ (List.mem_cons_of_mem _ fq_204)) (fun _ h9 => h9) rfl fx_Dk_count_11 ?_
    refine lv_iload_n hx hb fx_Dk_count_14 rfl (lv_at hl 1 rfl) ?_
    refine lv_bipush (v := 10) hx hb fx_Dk_count_15 (by decide) ?_
    refine lv_isub hx hb fx_Dk_count_17 ?_
    have hb12 : vp_in (p1 - 10) 48 := fd_url c2
    refine va_aldq (D := D) hx hb hK hP 3 0 rfl rfl hb12 fx_Dk_count_18 ?_
    refine W.eq (g2 := F0 m 19 ls (.ref (ad (3 + ((p1 - 10).toNatClampNeg))) :: [])) rfl ?_
    refine va_getN (D := D) (ci := 3) (v := .int (fd_rI σ ((p1 - 10).toNatClampNeg) 11)) (C := fn_R_Rs) (T := fn_T_Rs) (N := 13) hx hb hts fn_j_Rs hown hK hP (5 + ((p1 - 10).toNatClampNeg)) (fd_w_res (fd_lt hb12)) rfl 11 (by decide) (va_Nw.use rfl (hN _ fq_51)) (fun _ h9 => h9) rfl fx_Dk_count_19 ?_
    exact fd_xiret (r := fd_rI σ ((p1 - 10).toNatClampNeg) 11) (u := σ) hQ hx hb hr ⟨by rw [fv_Dk_count, if_pos c2], hI⟩ hP hD hS fx_Dk_count_22 hlocks
def fv_Dk_fetch (σ : FDS) (p1 : Int32) (p2 : Int32) (p3 : Int32) (p4 : Int32) (p5 : Int32) (p6 : Int32) (p7 : Int32) : Int32 × Int32 × FDS := if (fv_Dk_isOrigin σ p1) = true then if (fv_Dk_isUrl σ p2) = true then if (fv_Dk_isMethod σ p3) = true then if (fv_Dk_isFourBits σ p4) = true then if (fv_Dk_isChoice σ p5) = true then if (fv_Dk_isChoice σ p6) = true then if (fv_Dk_isChoice σ p7) = true then if p5 = 2 then if (fv_Dk_isPlain σ p3 p4) = true then if (fd_qI (fv_Dk_goThroughRounds (fd_sdI (fv_Rq_begin σ p1 p2 p3 p4 p5 p6 p7) 4 ((fd_dI (fv_Rq_begin σ p1 p2 p3 p4 p5 p6 p7) 4) + 1))) 10) = 0 then (0, fd_qI (fv_Dk_goThroughRounds (fd_sdI (fv_Rq_begin σ p1 p2 p3 p4 p5 p6 p7) 4 ((fd_dI (fv_Rq_begin σ p1 p2 p3 p4 p5 p6 p7) 4) + 1))) 14, (fv_Dk_goThroughRounds (fd_sdI (fv_Rq_begin σ p1 p2 p3 p4 p5 p6 p7) 4 ((fd_dI (fv_Rq_begin σ p1 p2 p3 p4 p5 p6 p7) 4) + 1)))) else (2, 0, fd_sdI (fv_Dk_goThroughRounds (fd_sdI (fv_Rq_begin σ p1 p2 p3 p4 p5 p6 p7) 4 ((fd_dI (fv_Rq_begin σ p1 p2 p3 p4 p5 p6 p7) 4) + 1))) 5 ((fd_dI (fv_Dk_goThroughRounds (fd_sdI (fv_Rq_begin σ p1 p2 p3 p4 p5 p6 p7) 4 ((fd_dI (fv_Rq_begin σ p1 p2 p3 p4 p5 p6 p7) 4) + 1))) 5) + 1)) else (1, 0, σ) else if (fd_qI (fv_Dk_goThroughRounds (fd_sdI (fv_Rq_begin σ p1 p2 p3 p4 p5 p6 p7) 4 ((fd_dI (fv_Rq_begin σ p1 p2 p3 p4 p5 p6 p7) 4) + 1))) 10) = 0 then (0, fd_qI (fv_Dk_goThroughRounds (fd_sdI (fv_Rq_begin σ p1 p2 p3 p4 p5 p6 p7) 4 ((fd_dI (fv_Rq_begin σ p1 p2 p3 p4 p5 p6 p7) 4) + 1))) 14, (fv_Dk_goThroughRounds (fd_sdI (fv_Rq_begin σ p1 p2 p3 p4 p5 p6 p7) 4 ((fd_dI (fv_Rq_begin σ p1 p2 p3 p4 p5 p6 p7) 4) + 1)))) else (2, 0, fd_sdI (fv_Dk_goThroughRounds (fd_sdI (fv_Rq_begin σ p1 p2 p3 p4 p5 p6 p7) 4 ((fd_dI (fv_Rq_begin σ p1 p2 p3 p4 p5 p6 p7) 4) + 1))) 5 ((fd_dI (fv_Dk_goThroughRounds (fd_sdI (fv_Rq_begin σ p1 p2 p3 p4 p5 p6 p7) 4 ((fd_dI (fv_Rq_begin σ p1 p2 p3 p4 p5 p6 p7) 4) + 1))) 5) + 1)) else (1, 0, σ) else (1, 0, σ) else (1, 0, σ) else (1, 0, σ) else (1, 0, σ) else (1, 0, σ) else (1, 0, σ)
set_option maxHeartbeats 4000000 in
set_option maxRecDepth 100000 in
theorem fc_Dk_fetch (l : Launch) (hst : l.stackTraces = false) (D : va_G) (cR cP : ClassId) (ad : Nat → Nat) (sz : Nat) (σ : FDS) (p1 : Int32) (p2 : Int32) (p3 : Int32) (p4 : Int32) (p5 : Int32) (p6 : Int32) (p7 : Int32) (hI : fd_Inv σ)  : vx_Met l fy_Dk_fetch (fw_Dk_fetch :: fb_tbl) ({ frames := 6, cells := 1, slots := 6, locals := 137 } : Room) (fd_Pcx D cR cP ad [.ref (ad 0), .int p1, .int p2, .int p3, .int p4, .int p5, .int p6, .int p7] σ sz) ((fun A => va_Qi (fun (r : Int32) (u : FDS) => fv_Dk_fetch σ p1 p2 p3 p4 p5 p6 p7 = (0, r, u) ∧ fd_Inv u) (fd_B D cR cP ad A) A) (va_A (fd_w cR cP ad σ) sz)) (fd_XC D cR cP ad (fun E u => (∃ c : Int32, fd_isx c E ∧ fv_Dk_fetch σ p1 p2 p3 p4 p5 p6 p7 = (c, 0, u)) ∧ fd_Inv u) (va_A (fd_w cR cP ad σ) sz)) 1 6 (va_A (fd_w cR cP ad σ) sz) := by
  refine fd_xofW (cc := fb_Dk_fetch) (maxL := 8) (ret := (some .int)) (Qf := fun A => va_Qi (fun (r : Int32) (u : FDS) => fv_Dk_fetch σ p1 p2 p3 p4 p5 p6 p7 = (0, r, u) ∧ fd_Inv u) (fd_B D cR cP ad A) A) (XC := fd_XC D cR cP ad (fun E u => (∃ c : Int32, fd_isx c E ∧ fv_Dk_fetch σ p1 p2 p3 p4 p5 p6 p7 = (c, 0, u)) ∧ fd_Inv u)) (by decide) (Nat.le_of_ble_eq_true rfl) ?_
  intro p e s m args below meth c A Q hQ hx hb hr hts hown hlocks hml hP hK hD hS hA hN hX hZ hex ls hl
  have hown : s.vm.findClass fn_R_Dk = some m.cls := hown
  have hl : lv_has ls 8 [(0, .ref (ad 0)), (1, .int p1), (2, .int p2), (3, .int p3), (4, .int p4), (5, .int p5), (6, .int p6), (7, .int p7)] := hl
  suffices hgo : ∀ (H : Heap) (locs : List Loc), va_P D fn_cl (fd_w cR cP ad σ) H → va_D A (fd_w cR cP ad σ) → va_S A s.heap H locs → W p l e ({ frames := 6, cells := 1, slots := 6, locals := 137 } : Room) s m args below meth c H locs 0 0 Q (F0 m 0 ls []) from hgo _ _ hP hD hS
  clear hP hD hS
  intro H locs hP hD hS
  refine lv_iload_n hx hb fx_Dk_fetch_0 rfl (lv_at hl 1 rfl) ?_
  refine fd_callz (va_runS (As := [.int p1]) (rest := []) ⟨hx, hb, hml, hown, hts⟩ (fc_Dk_isOrigin l D cR cP ad H.size σ p1 hI ) ⟨callB_of 1 hts (fb_good fm_Dk_isOrigin) rfl rfl rfl (hts _ (List.mem_cons_of_mem _ fq_1)) (hts _ (List.mem_cons_of_mem _ fq_347)) (by decide +kernel) ⟨Nat.le_of_ble_eq_true rfl, Nat.le_of_ble_eq_true rfl⟩, (hts _ (List.mem_cons_of_mem _ fq_348))⟩ (fd_preS hP hK hD hN) rfl rfl hl.1 rfl (lv_room (Nat.le_of_ble_eq_true rfl)) fx_Dk_fetch_1 ⟨Nat.le_of_ble_eq_true rfl, Nat.le_of_ble_eq_true rfl⟩) hD hS hA (fun H locs hP hD hS => ?_)
  refine fd_ifeq (tgt := 29) hx hb fx_Dk_fetch_4 (by decide) (fun c2 => ?_) (fun c2 => ?_)
  · exact fd_throw ft_g1 ft_n1 ft_o1 (by decide) fq_243 fq_10 (u := σ) hQ hx hb hst hown hts hX hZ (hl.1.trans hml.symm) hex hlocks ⟨Nat.le_of_ble_eq_true rfl, Nat.le_of_ble_eq_true rfl, Nat.le_of_ble_eq_true rfl, Nat.le_of_ble_eq_true rfl⟩ ⟨⟨1, Or.inl ⟨rfl, rfl⟩, (by rw [fv_Dk_fetch, if_neg c2])⟩, hI⟩ hP hD hS fx_Dk_fetch_29 fx_Dk_fetch_32 fx_Dk_fetch_33 fx_Dk_fetch_36
  · refine lv_iload_n hx hb fx_Dk_fetch_7 rfl (lv_at hl 2 rfl) ?_
    refine fd_callz (va_runS (As := [.int p2]) (rest := []) ⟨hx, hb, hml, hown, hts⟩ (fc_Dk_isUrl l D cR cP ad H.size σ p2 hI ) ⟨callB_of 1 hts (fb_good fm_Dk_isUrl) rfl rfl rfl (hts _ (List.mem_cons_of_mem _ fq_1)) (hts _ (List.mem_cons_of_mem _ fq_240)) (by decide +kernel) ⟨Nat.le_of_ble_eq_true rfl, Nat.le_of_ble_eq_true rfl⟩, (hts _ (List.mem_cons_of_mem _ fq_241))⟩ (fd_preS hP hK hD hN) rfl rfl hl.1 rfl (lv_room (Nat.le_of_ble_eq_true rfl)) fx_Dk_fetch_8 ⟨Nat.le_of_ble_eq_true rfl, Nat.le_of_ble_eq_true rfl⟩) hD hS hA (fun H locs hP hD hS => ?_)
    refine fd_ifeq (tgt := 29) hx hb fx_Dk_fetch_11 (by decide) (fun c4 => ?_) (fun c4 => ?_)
    · exact fd_throw ft_g1 ft_n1 ft_o1 (by decide) fq_243 fq_10 (u := σ) hQ hx hb hst hown hts hX hZ (hl.1.trans hml.symm) hex hlocks ⟨Nat.le_of_ble_eq_true rfl, Nat.le_of_ble_eq_true rfl, Nat.le_of_ble_eq_true rfl, Nat.le_of_ble_eq_true rfl⟩ ⟨⟨1, Or.inl ⟨rfl, rfl⟩, (by rw [fv_Dk_fetch, if_pos c2, if_neg c4])⟩, hI⟩ hP hD hS fx_Dk_fetch_29 fx_Dk_fetch_32 fx_Dk_fetch_33 fx_Dk_fetch_36
    · refine lv_iload_n hx hb fx_Dk_fetch_14 rfl (lv_at hl 3 rfl) ?_
      refine fd_callz (va_runS (As := [.int p3]) (rest := []) ⟨hx, hb, hml, hown, hts⟩ (fc_Dk_isMethod l D cR cP ad H.size σ p3 hI ) ⟨callB_of 1 hts (fb_good fm_Dk_isMethod) rfl rfl rfl (hts _ (List.mem_cons_of_mem _ fq_1)) (hts _ (List.mem_cons_of_mem _ fq_350)) (by decide +kernel) ⟨Nat.le_of_ble_eq_true rfl, Nat.le_of_ble_eq_true rfl⟩, (hts _ (List.mem_cons_of_mem _ fq_351))⟩ (fd_preS hP hK hD hN) rfl rfl hl.1 rfl (lv_room (Nat.le_of_ble_eq_true rfl)) fx_Dk_fetch_15 ⟨Nat.le_of_ble_eq_true rfl, Nat.le_of_ble_eq_true rfl⟩) hD hS hA (fun H locs hP hD hS => ?_)
      refine fd_ifeq (tgt := 29) hx hb fx_Dk_fetch_18 (by decide) (fun c6 => ?_) (fun c6 => ?_)
      · exact fd_throw ft_g1 ft_n1 ft_o1 (by decide) fq_243 fq_10 (u := σ) hQ hx hb hst hown hts hX hZ (hl.1.trans hml.symm) hex hlocks ⟨Nat.le_of_ble_eq_true rfl, Nat.le_of_ble_eq_true rfl, Nat.le_of_ble_eq_true rfl, Nat.le_of_ble_eq_true rfl⟩ ⟨⟨1, Or.inl ⟨rfl, rfl⟩, (by rw [fv_Dk_fetch, if_pos c2, if_pos c4, if_neg c6])⟩, hI⟩ hP hD hS fx_Dk_fetch_29 fx_Dk_fetch_32 fx_Dk_fetch_33 fx_Dk_fetch_36
      · refine lv_iload hx hb fx_Dk_fetch_21 (lv_at hl 4 rfl) ?_
        refine fd_callz (va_runS (As := [.int p4]) (rest := []) ⟨hx, hb, hml, hown, hts⟩ (fc_Dk_isFourBits l D cR cP ad H.size σ p4 hI ) ⟨callB_of 1 hts (fb_good fm_Dk_isFourBits) rfl rfl rfl (hts _ (List.mem_cons_of_mem _ fq_1)) (hts _ (List.mem_cons_of_mem _ fq_313)) (by decide +kernel) ⟨Nat.le_of_ble_eq_true rfl, Nat.le_of_ble_eq_true rfl⟩, (hts _ (List.mem_cons_of_mem _ fq_314))⟩ (fd_preS hP hK hD hN) rfl rfl hl.1 rfl (lv_room (Nat.le_of_ble_eq_true rfl)) fx_Dk_fetch_23 ⟨Nat.le_of_ble_eq_true rfl, Nat.le_of_ble_eq_true rfl⟩) hD hS hA (fun H locs hP hD hS => ?_)
        refine fd_ifne (tgt := 37) hx hb fx_Dk_fetch_26 (by decide) (fun c8 => ?_) (fun c8 => ?_)
        · refine lv_iload hx hb fx_Dk_fetch_37 (lv_at hl 5 rfl) ?_
          refine fd_callz (va_runS (As := [.int p5]) (rest := []) ⟨hx, hb, hml, hown, hts⟩ (fc_Dk_isChoice l D cR cP ad H.size σ p5 hI ) ⟨callB_of 1 hts (fb_good fm_Dk_isChoice) rfl rfl rfl (hts _ (List.mem_cons_of_mem _ fq_1)) (hts _ (List.mem_cons_of_mem _ fq_353)) (by decide +kernel) ⟨Nat.le_of_ble_eq_true rfl, Nat.le_of_ble_eq_true rfl⟩, (hts _ (List.mem_cons_of_mem _ fq_354))⟩ (fd_preS hP hK hD hN) rfl rfl hl.1 rfl (lv_room (Nat.le_of_ble_eq_true rfl)) fx_Dk_fetch_39 ⟨Nat.le_of_ble_eq_true rfl, Nat.le_of_ble_eq_true rfl⟩) hD hS hA (fun H locs hP hD hS => ?_)
          refine fd_ifeq (tgt := 61) hx hb fx_Dk_fetch_42 (by decide) (fun c10 => ?_) (fun c10 => ?_)
          · exact fd_throw ft_g1 ft_n1 ft_o1 (by decide) fq_243 fq_10 (u := σ) hQ hx hb hst hown hts hX hZ (hl.1.trans hml.symm) hex hlocks ⟨Nat.le_of_ble_eq_true rfl, Nat.le_of_ble_eq_true rfl, Nat.le_of_ble_eq_true rfl, Nat.le_of_ble_eq_true rfl⟩ ⟨⟨1, Or.inl ⟨rfl, rfl⟩, (by rw [fv_Dk_fetch, if_pos c2, if_pos c4, if_pos c6, if_pos c8, if_neg c10])⟩, hI⟩ hP hD hS fx_Dk_fetch_61 fx_Dk_fetch_64 fx_Dk_fetch_65 fx_Dk_fetch_68
          · refine lv_iload hx hb fx_Dk_fetch_45 (lv_at hl 6 rfl) ?_
            refine fd_callz (va_runS (As := [.int p6]) (rest := []) ⟨hx, hb, hml, hown, hts⟩ (fc_Dk_isChoice l D cR cP ad H.size σ p6 hI ) ⟨callB_of 1 hts (fb_good fm_Dk_isChoice) rfl rfl rfl (hts _ (List.mem_cons_of_mem _ fq_1)) (hts _ (List.mem_cons_of_mem _ fq_353)) (by decide +kernel) ⟨Nat.le_of_ble_eq_true rfl, Nat.le_of_ble_eq_true rfl⟩, (hts _ (List.mem_cons_of_mem _ fq_354))⟩ (fd_preS hP hK hD hN) rfl rfl hl.1 rfl (lv_room (Nat.le_of_ble_eq_true rfl)) fx_Dk_fetch_47 ⟨Nat.le_of_ble_eq_true rfl, Nat.le_of_ble_eq_true rfl⟩) hD hS hA (fun H locs hP hD hS => ?_)
            refine fd_ifeq (tgt := 61) hx hb fx_Dk_fetch_50 (by decide) (fun c12 => ?_) (fun c12 => ?_)
            · exact fd_throw ft_g1 ft_n1 ft_o1 (by decide) fq_243 fq_10 (u := σ) hQ hx hb hst hown hts hX hZ (hl.1.trans hml.symm) hex hlocks ⟨Nat.le_of_ble_eq_true rfl, Nat.le_of_ble_eq_true rfl, Nat.le_of_ble_eq_true rfl, Nat.le_of_ble_eq_true rfl⟩ ⟨⟨1, Or.inl ⟨rfl, rfl⟩, (by rw [fv_Dk_fetch, if_pos c2, if_pos c4, if_pos c6, if_pos c8, if_pos c10, if_neg c12])⟩, hI⟩ hP hD hS fx_Dk_fetch_61 fx_Dk_fetch_64 fx_Dk_fetch_65 fx_Dk_fetch_68
            · refine lv_iload hx hb fx_Dk_fetch_53 (lv_at hl 7 rfl) ?_
              refine fd_callz (va_runS (As := [.int p7]) (rest := []) ⟨hx, hb, hml, hown, hts⟩ (fc_Dk_isChoice l D cR cP ad H.size σ p7 hI ) ⟨callB_of 1 hts (fb_good fm_Dk_isChoice) rfl rfl rfl (hts _ (List.mem_cons_of_mem _ fq_1)) (hts _ (List.mem_cons_of_mem _ fq_353)) (by decide +kernel) ⟨Nat.le_of_ble_eq_true rfl, Nat.le_of_ble_eq_true rfl⟩, (hts _ (List.mem_cons_of_mem _ fq_354))⟩ (fd_preS hP hK hD hN) rfl rfl hl.1 rfl (lv_room (Nat.le_of_ble_eq_true rfl)) fx_Dk_fetch_55 ⟨Nat.le_of_ble_eq_true rfl, Nat.le_of_ble_eq_true rfl⟩) hD hS hA (fun H locs hP hD hS => ?_)
              refine fd_ifne (tgt := 69) hx hb fx_Dk_fetch_58 (by decide) (fun c14 => ?_) (fun c14 => ?_)
              · refine lv_iload hx hb fx_Dk_fetch_69 (lv_at hl 5 rfl) ?_
                refine lv_iconst (v := 2) hx hb fx_Dk_fetch_71 (by decide) ?_
                refine lv_icmp_ne (tgt := 92) hx hb fx_Dk_fetch_72 (by decide) (fun c15 => ?_) (fun c15 => ?_)
                · refine lv_aload_n hx hb fx_Dk_fetch_92 rfl (lv_at hl 0 rfl) ?_
                  refine va_get (D := D) (ci := 4) (v := .ref (ad 2)) (C := fn_R_Dk) (T := fn_T_Dk) (N := 9) hx hb hts fn_j_Dk hown hK hP 0 rfl rfl 2 (by decide) (hts _ (List.mem_cons_of_mem _ fq_206)) (fun _ h9 => h9) rfl fx_Dk_fetch_93 ?_
                  refine lv_iload_n hx hb fx_Dk_fetch_96 rfl (lv_at hl 1 rfl) ?_
                  refine lv_iload_n hx hb fx_Dk_fetch_97 rfl (lv_at hl 2 rfl) ?_
                  refine lv_iload_n hx hb fx_Dk_fetch_98 rfl (lv_at hl 3 rfl) ?_
                  refine lv_iload hx hb fx_Dk_fetch_99 (lv_at hl 4 rfl) ?_
                  refine lv_iload hx hb fx_Dk_fetch_101 (lv_at hl 5 rfl) ?_
                  refine lv_iload hx hb fx_Dk_fetch_103 (lv_at hl 6 rfl) ?_
                  refine lv_iload hx hb fx_Dk_fetch_105 (lv_at hl 7 rfl) ?_
                  refine fd_callvm (va_runVN (As := [.int p1, .int p2, .int p3, .int p4, .int p5, .int p6, .int p7]) (rest := []) ⟨hx, hb, hml, hown, hts⟩ (fc_Rq_begin l D cR cP ad H.size σ p1 p2 p3 p4 p5 p6 p7 hI (fd_url c4)) ⟨va_cnB 7 hts (fb_good fm_Rq_begin) rfl rfl rfl (hN _ fq_362) (hts _ (List.mem_cons_of_mem _ fq_5)) (by decide +kernel) ⟨Nat.le_of_ble_eq_true rfl, Nat.le_of_ble_eq_true rfl⟩, (hts _ (List.mem_cons_of_mem _ fq_364)), (hts _ (List.mem_cons_of_mem _ fp_Rq_begin))⟩ (fd_preV hP hK hD hN (va_recv hK hP (ci := 2) (q0 := 2) rfl rfl)) rfl rfl hl.1 rfl (lv_room (Nat.le_of_ble_eq_true rfl)) fx_Dk_fetch_107 ⟨Nat.le_of_ble_eq_true rfl, Nat.le_of_ble_eq_true rfl⟩) hD hS hA (fun H locs hP hD hS hI16 => ?_)
                  refine lv_aload_n hx hb fx_Dk_fetch_110 rfl (lv_at hl 0 rfl) ?_
                  refine lv_dup hx hb fx_Dk_fetch_111 rfl ?_
                  refine va_get (D := D) (ci := 4) (v := .int (fd_dI (fv_Rq_begin σ p1 p2 p3 p4 p5 p6 p7) 4)) (C := fn_R_Dk) (T := fn_T_Dk) (N := 9) hx hb hts fn_j_Dk hown hK hP 0 rfl rfl 4 (by decide) (hts _ (List.mem_cons_of_mem _ fq_208)) (fun _ h9 => h9) rfl fx_Dk_fetch_112 ?_
                  refine lv_iconst (v := 1) hx hb fx_Dk_fetch_115 (by decide) ?_
                  refine lv_iadd hx hb fx_Dk_fetch_116 ?_
                  refine va_put (D := D) (ci := 4) (v := .int ((fd_dI (fv_Rq_begin σ p1 p2 p3 p4 p5 p6 p7) 4) + 1)) (ty := .int) (C := fn_R_Dk) (T := fn_T_Dk) (N := 9) hx hb hts fn_j_Dk fn_t_Dk fn_k_Dk fn_n_Dk hown hK hP hD hS 0 rfl rfl 4 (by decide) (hts _ (List.mem_cons_of_mem _ fq_208)) (fun _ h9 => h9) rfl (by decide +kernel) rfl rfl (Nat.le_of_ble_eq_true rfl) fx_Dk_fetch_117 (fun H locs hP hD hS => ?_)
                  rw [fd_set_Dk_4] at hP hD
                  have hI17 : fd_Inv (fd_sdI (fv_Rq_begin σ p1 p2 p3 p4 p5 p6 p7) 4 ((fd_dI (fv_Rq_begin σ p1 p2 p3 p4 p5 p6 p7) 4) + 1)) := fd_inv_sdI hI16
                  refine lv_aload_n hx hb fx_Dk_fetch_120 rfl (lv_at hl 0 rfl) ?_
                  refine fd_callvm (va_runV (As := []) (rest := []) ⟨hx, hb, hml, hown, hts⟩ (fc_Dk_goThroughRounds l D cR cP ad H.size (fd_sdI (fv_Rq_begin σ p1 p2 p3 p4 p5 p6 p7) 4 ((fd_dI (fv_Rq_begin σ p1 p2 p3 p4 p5 p6 p7) 4) + 1))  hI17 ) ⟨callB_of 0 hts (fb_good fm_Dk_goThroughRounds) rfl rfl rfl (hts _ (List.mem_cons_of_mem _ fq_1)) (hts _ (List.mem_cons_of_mem _ fq_370)) (by decide +kernel) ⟨Nat.le_of_ble_eq_true rfl, Nat.le_of_ble_eq_true rfl⟩, (hts _ (List.mem_cons_of_mem _ fq_372)), (hts _ (List.mem_cons_of_mem _ fp_Dk_goThroughRounds))⟩ (fd_preV hP hK hD hN (va_recv hK hP (ci := 4) (q0 := 0) rfl rfl)) rfl rfl hl.1 rfl (lv_room (Nat.le_of_ble_eq_true rfl)) fx_Dk_fetch_121 ⟨Nat.le_of_ble_eq_true rfl, Nat.le_of_ble_eq_true rfl⟩) hD hS hA (fun H locs hP hD hS hI18 => ?_)
                  refine lv_aload_n hx hb fx_Dk_fetch_124 rfl (lv_at hl 0 rfl) ?_
                  refine va_get (D := D) (ci := 4) (v := .ref (ad 2)) (C := fn_R_Dk) (T := fn_T_Dk) (N := 9) hx hb hts fn_j_Dk hown hK hP 0 rfl rfl 2 (by decide) (hts _ (List.mem_cons_of_mem _ fq_206)) (fun _ h9 => h9) rfl fx_Dk_fetch_125 ?_
                  refine va_getN (D := D) (ci := 2) (v := .int (fd_qI (fv_Dk_goThroughRounds (fd_sdI (fv_Rq_begin σ p1 p2 p3 p4 p5 p6 p7) 4 ((fd_dI (fv_Rq_begin σ p1 p2 p3 p4 p5 p6 p7) 4) + 1))) 10)) (C := fn_R_Rq) (T := fn_T_Rq) (N := 15) hx hb hts fn_j_Rq hown hK hP 2 rfl rfl 10 (by decide) (va_Nw.use rfl (hN _ fq_164)) (fun _ h9 => h9) rfl fx_Dk_fetch_128 ?_
                  refine lv_if_eq (tgt := 152) hx hb fx_Dk_fetch_131 (by decide) (fun c19 => ?_) (fun c19 => ?_)
                  · refine lv_aload_n hx hb fx_Dk_fetch_152 rfl (lv_at hl 0 rfl) ?_
                    refine va_get (D := D) (ci := 4) (v := .ref (ad 2)) (C := fn_R_Dk) (T := fn_T_Dk) (N := 9) hx hb hts fn_j_Dk hown hK hP 0 rfl rfl 2 (by decide) (hts _ (List.mem_cons_of_mem _ fq_206)) (fun _ h9 => h9) rfl fx_Dk_fetch_153 ?_
                    refine va_getN (D := D) (ci := 2) (v := .int (fd_qI (fv_Dk_goThroughRounds (fd_sdI (fv_Rq_begin σ p1 p2 p3 p4 p5 p6 p7) 4 ((fd_dI (fv_Rq_begin σ p1 p2 p3 p4 p5 p6 p7) 4) + 1))) 14)) (C := fn_R_Rq) (T := fn_T_Rq) (N := 15) hx hb hts fn_j_Rq hown hK hP 2 rfl rfl 14 (by decide) (va_Nw.use rfl (hN _ fq_172)) (fun _ h9 => h9) rfl fx_Dk_fetch_156 ?_
                    exact fd_xiret (r := fd_qI (fv_Dk_goThroughRounds (fd_sdI (fv_Rq_begin σ p1 p2 p3 p4 p5 p6 p7) 4 ((fd_dI (fv_Rq_begin σ p1 p2 p3 p4 p5 p6 p7) 4) + 1))) 14) (u := (fv_Dk_goThroughRounds (fd_sdI (fv_Rq_begin σ p1 p2 p3 p4 p5 p6 p7) 4 ((fd_dI (fv_Rq_begin σ p1 p2 p3 p4 p5 p6 p7) 4) + 1)))) hQ hx hb hr ⟨by rw [fv_Dk_fetch, if_pos c2, if_pos c4, if_pos c6, if_pos c8, if_pos c10, if_pos c12, if_pos c14, if_neg c15, if_pos c19], hI18⟩ hP hD hS fx_Dk_fetch_159 hlocks
                  · refine lv_aload_n hx hb fx_Dk_fetch_134 rfl (lv_at hl 0 rfl) ?_
                    refine lv_dup hx hb fx_Dk_fetch_135 rfl ?_
                    refine va_get (D := D) (ci := 4) (v := .int (fd_dI (fv_Dk_goThroughRounds (fd_sdI (fv_Rq_begin σ p1 p2 p3 p4 p5 p6 p7) 4 ((fd_dI (fv_Rq_begin σ p1 p2 p3 p4 p5 p6 p7) 4) + 1))) 5)) (C := fn_R_Dk) (T := fn_T_Dk) (N := 9) hx hb hts fn_j_Dk hown hK hP 0 rfl rfl 5 (by decide) (hts _ (List.mem_cons_of_mem _ fq_209)) (fun _ h9 => h9) rfl fx_Dk_fetch_136 ?_
                    refine lv_iconst (v := 1) hx hb fx_Dk_fetch_139 (by decide) ?_
                    refine lv_iadd hx hb fx_Dk_fetch_140 ?_
                    refine va_put (D := D) (ci := 4) (v := .int ((fd_dI (fv_Dk_goThroughRounds (fd_sdI (fv_Rq_begin σ p1 p2 p3 p4 p5 p6 p7) 4 ((fd_dI (fv_Rq_begin σ p1 p2 p3 p4 p5 p6 p7) 4) + 1))) 5) + 1)) (ty := .int) (C := fn_R_Dk) (T := fn_T_Dk) (N := 9) hx hb hts fn_j_Dk fn_t_Dk fn_k_Dk fn_n_Dk hown hK hP hD hS 0 rfl rfl 5 (by decide) (hts _ (List.mem_cons_of_mem _ fq_209)) (fun _ h9 => h9) rfl (by decide +kernel) rfl rfl (Nat.le_of_ble_eq_true rfl) fx_Dk_fetch_141 (fun H locs hP hD hS => ?_)
                    rw [fd_set_Dk_5] at hP hD
                    have hI20 : fd_Inv (fd_sdI (fv_Dk_goThroughRounds (fd_sdI (fv_Rq_begin σ p1 p2 p3 p4 p5 p6 p7) 4 ((fd_dI (fv_Rq_begin σ p1 p2 p3 p4 p5 p6 p7) 4) + 1))) 5 ((fd_dI (fv_Dk_goThroughRounds (fd_sdI (fv_Rq_begin σ p1 p2 p3 p4 p5 p6 p7) 4 ((fd_dI (fv_Rq_begin σ p1 p2 p3 p4 p5 p6 p7) 4) + 1))) 5) + 1)) := fd_inv_sdI hI18
                    exact fd_throw ft_g2 ft_n2 ft_o2 (by decide) fq_458 fq_11 (u := fd_sdI (fv_Dk_goThroughRounds (fd_sdI (fv_Rq_begin σ p1 p2 p3 p4 p5 p6 p7) 4 ((fd_dI (fv_Rq_begin σ p1 p2 p3 p4 p5 p6 p7) 4) + 1))) 5 ((fd_dI (fv_Dk_goThroughRounds (fd_sdI (fv_Rq_begin σ p1 p2 p3 p4 p5 p6 p7) 4 ((fd_dI (fv_Rq_begin σ p1 p2 p3 p4 p5 p6 p7) 4) + 1))) 5) + 1)) hQ hx hb hst hown hts hX hZ (hl.1.trans hml.symm) hex hlocks ⟨Nat.le_of_ble_eq_true rfl, Nat.le_of_ble_eq_true rfl, Nat.le_of_ble_eq_true rfl, Nat.le_of_ble_eq_true rfl⟩ ⟨⟨2, Or.inr (Or.inl ⟨rfl, rfl⟩), (by rw [fv_Dk_fetch, if_pos c2, if_pos c4, if_pos c6, if_pos c8, if_pos c10, if_pos c12, if_pos c14, if_neg c15, if_neg c19])⟩, hI20⟩ hP hD hS fx_Dk_fetch_144 fx_Dk_fetch_147 fx_Dk_fetch_148 fx_Dk_fetch_151
                · refine lv_iload_n hx hb fx_Dk_fetch_75 rfl (lv_at hl 3 rfl) ?_
                  refine lv_iload hx hb fx_Dk_fetch_76 (lv_at hl 4 rfl) ?_
                  refine fd_callz (va_runS (As := [.int p3, .int p4]) (rest := []) ⟨hx, hb, hml, hown, hts⟩ (fc_Dk_isPlain l D cR cP ad H.size σ p3 p4 hI ) ⟨callB_of 2 hts (fb_good fm_Dk_isPlain) rfl rfl rfl (hts _ (List.mem_cons_of_mem _ fq_1)) (hts _ (List.mem_cons_of_mem _ fq_356)) (by decide +kernel) ⟨Nat.le_of_ble_eq_true rfl, Nat.le_of_ble_eq_true rfl⟩, (hts _ (List.mem_cons_of_mem _ fq_357))⟩ (fd_preS hP hK hD hN) rfl rfl hl.1 rfl (lv_room (Nat.le_of_ble_eq_true rfl)) fx_Dk_fetch_78 ⟨Nat.le_of_ble_eq_true rfl, Nat.le_of_ble_eq_true rfl⟩) hD hS hA (fun H locs hP hD hS => ?_)
                  refine fd_ifne (tgt := 92) hx hb fx_Dk_fetch_81 (by decide) (fun c22 => ?_) (fun c22 => ?_)
                  · refine lv_aload_n hx hb fx_Dk_fetch_92 rfl (lv_at hl 0 rfl) ?_
                    refine va_get (D := D) (ci := 4) (v := .ref (ad 2)) (C := fn_R_Dk) (T := fn_T_Dk) (N := 9) hx hb hts fn_j_Dk hown hK hP 0 rfl rfl 2 (by decide) (hts _ (List.mem_cons_of_mem _ fq_206)) (fun _ h9 => h9) rfl fx_Dk_fetch_93 ?_
                    refine lv_iload_n hx hb fx_Dk_fetch_96 rfl (lv_at hl 1 rfl) ?_
                    refine lv_iload_n hx hb fx_Dk_fetch_97 rfl (lv_at hl 2 rfl) ?_
                    refine lv_iload_n hx hb fx_Dk_fetch_98 rfl (lv_at hl 3 rfl) ?_
                    refine lv_iload hx hb fx_Dk_fetch_99 (lv_at hl 4 rfl) ?_
                    refine lv_iload hx hb fx_Dk_fetch_101 (lv_at hl 5 rfl) ?_
                    refine lv_iload hx hb fx_Dk_fetch_103 (lv_at hl 6 rfl) ?_
                    refine lv_iload hx hb fx_Dk_fetch_105 (lv_at hl 7 rfl) ?_
                    refine fd_callvm (va_runVN (As := [.int p1, .int p2, .int p3, .int p4, .int p5, .int p6, .int p7]) (rest := []) ⟨hx, hb, hml, hown, hts⟩ (fc_Rq_begin l D cR cP ad H.size σ p1 p2 p3 p4 p5 p6 p7 hI (fd_url c4)) ⟨va_cnB 7 hts (fb_good fm_Rq_begin) rfl rfl rfl (hN _ fq_362) (hts _ (List.mem_cons_of_mem _ fq_5)) (by decide +kernel) ⟨Nat.le_of_ble_eq_true rfl, Nat.le_of_ble_eq_true rfl⟩, (hts _ (List.mem_cons_of_mem _ fq_364)), (hts _ (List.mem_cons_of_mem _ fp_Rq_begin))⟩ (fd_preV hP hK hD hN (va_recv hK hP (ci := 2) (q0 := 2) rfl rfl)) rfl rfl hl.1 rfl (lv_room (Nat.le_of_ble_eq_true rfl)) fx_Dk_fetch_107 ⟨Nat.le_of_ble_eq_true rfl, Nat.le_of_ble_eq_true rfl⟩) hD hS hA (fun H locs hP hD hS hI23 => ?_)
                    refine lv_aload_n hx hb fx_Dk_fetch_110 rfl (lv_at hl 0 rfl) ?_
                    refine lv_dup hx hb fx_Dk_fetch_111 rfl ?_
                    refine va_get (D := D) (ci := 4) (v := .int (fd_dI (fv_Rq_begin σ p1 p2 p3 p4 p5 p6 p7) 4)) (C := fn_R_Dk) (T := fn_T_Dk) (N := 9) hx hb hts fn_j_Dk hown hK hP 0 rfl rfl 4 (by decide) (hts _ (List.mem_cons_of_mem _ fq_208)) (fun _ h9 => h9) rfl fx_Dk_fetch_112 ?_
                    refine lv_iconst (v := 1) hx hb fx_Dk_fetch_115 (by decide) ?_
                    refine lv_iadd hx hb fx_Dk_fetch_116 ?_
                    refine va_put (D := D) (ci := 4) (v := .int ((fd_dI (fv_Rq_begin σ p1 p2 p3 p4 p5 p6 p7) 4) + 1)) (ty := .int) (C := fn_R_Dk) (T := fn_T_Dk) (N := 9) hx hb hts fn_j_Dk fn_t_Dk fn_k_Dk fn_n_Dk hown hK hP hD hS 0 rfl rfl 4 (by decide) (hts _ (List.mem_cons_of_mem _ fq_208)) (fun _ h9 => h9) rfl (by decide +kernel) rfl rfl (Nat.le_of_ble_eq_true rfl) fx_Dk_fetch_117 (fun H locs hP hD hS => ?_)
                    rw [fd_set_Dk_4] at hP hD
                    have hI24 : fd_Inv (fd_sdI (fv_Rq_begin σ p1 p2 p3 p4 p5 p6 p7) 4 ((fd_dI (fv_Rq_begin σ p1 p2 p3 p4 p5 p6 p7) 4) + 1)) := fd_inv_sdI hI23
                    refine lv_aload_n hx hb fx_Dk_fetch_120 rfl (lv_at hl 0 rfl) ?_
                    refine fd_callvm (va_runV (As := []) (rest := []) ⟨hx, hb, hml, hown, hts⟩ (fc_Dk_goThroughRounds l D cR cP ad H.size (fd_sdI (fv_Rq_begin σ p1 p2 p3 p4 p5 p6 p7) 4 ((fd_dI (fv_Rq_begin σ p1 p2 p3 p4 p5 p6 p7) 4) + 1))  hI24 ) ⟨callB_of 0 hts (fb_good fm_Dk_goThroughRounds) rfl rfl rfl (hts _ (List.mem_cons_of_mem _ fq_1)) (hts _ (List.mem_cons_of_mem _ fq_370)) (by decide +kernel) ⟨Nat.le_of_ble_eq_true rfl, Nat.le_of_ble_eq_true rfl⟩, (hts _ (List.mem_cons_of_mem _ fq_372)), (hts _ (List.mem_cons_of_mem _ fp_Dk_goThroughRounds))⟩ (fd_preV hP hK hD hN (va_recv hK hP (ci := 4) (q0 := 0) rfl rfl)) rfl rfl hl.1 rfl (lv_room (Nat.le_of_ble_eq_true rfl)) fx_Dk_fetch_121 ⟨Nat.le_of_ble_eq_true rfl, Nat.le_of_ble_eq_true rfl⟩) hD hS hA (fun H locs hP hD hS hI25 => ?_)
                    refine lv_aload_n hx hb fx_Dk_fetch_124 rfl (lv_at hl 0 rfl) ?_
                    refine va_get (D := D) (ci := 4) (v := .ref (ad 2)) (C := fn_R_Dk) (T := fn_T_Dk) (N := 9) hx hb hts fn_j_Dk hown hK hP 0 rfl rfl 2 (by decide) (hts _ (List.mem_cons_of_mem _ fq_206)) (fun _ h9 => h9) rfl fx_Dk_fetch_125 ?_
                    refine va_getN (D := D) (ci := 2) (v := .int (fd_qI (fv_Dk_goThroughRounds (fd_sdI (fv_Rq_begin σ p1 p2 p3 p4 p5 p6 p7) 4 ((fd_dI (fv_Rq_begin σ p1 p2 p3 p4 p5 p6 p7) 4) + 1))) 10)) (C := fn_R_Rq) (T := fn_T_Rq) (N := 15) hx hb hts fn_j_Rq hown hK hP 2 rfl rfl 10 (by decide) (va_Nw.use rfl (hN _ fq_164)) (fun _ h9 => h9) rfl fx_Dk_fetch_128 ?_
                    refine lv_if_eq (tgt := 152) hx hb fx_Dk_fetch_131 (by decide) (fun c26 => ?_) (fun c26 => ?_)
                    · refine lv_aload_n hx hb fx_Dk_fetch_152 rfl (lv_at hl 0 rfl) ?_
                      refine va_get (D := D) (ci := 4) (v := .ref (ad 2)) (C := fn_R_Dk) (T := fn_T_Dk) (N := 9) hx hb hts fn_j_Dk hown hK hP 0 rfl rfl 2 (by decide) (hts _ (List.mem_cons_of_mem _ fq_206)) (fun _ h9 => h9) rfl fx_Dk_fetch_153 ?_
                      refine va_getN (D := D) (ci := 2) (v := .int (fd_qI (fv_Dk_goThroughRounds (fd_sdI (fv_Rq_begin σ p1 p2 p3 p4 p5 p6 p7) 4 ((fd_dI (fv_Rq_begin σ p1 p2 p3 p4 p5 p6 p7) 4) + 1))) 14)) (C := fn_R_Rq) (T := fn_T_Rq) (N := 15) hx hb hts fn_j_Rq hown hK hP 2 rfl rfl 14 (by decide) (va_Nw.use rfl (hN _ fq_172)) (fun _ h9 => h9) rfl fx_Dk_fetch_156 ?_
                      exact fd_xiret (r := fd_qI (fv_Dk_goThroughRounds (fd_sdI (fv_Rq_begin σ p1 p2 p3 p4 p5 p6 p7) 4 ((fd_dI (fv_Rq_begin σ p1 p2 p3 p4 p5 p6 p7) 4) + 1))) 14) (u := (fv_Dk_goThroughRounds (fd_sdI (fv_Rq_begin σ p1 p2 p3 p4 p5 p6 p7) 4 ((fd_dI (fv_Rq_begin σ p1 p2 p3 p4 p5 p6 p7) 4) + 1)))) hQ hx hb hr ⟨by rw [fv_Dk_fetch, if_pos c2, if_pos c4, if_pos c6, if_pos c8, if_pos c10, if_pos c12, if_pos c14, if_pos c15, if_pos c22, if_pos c26], hI25⟩ hP hD hS fx_Dk_fetch_159 hlocks
                    · refine lv_aload_n hx hb fx_Dk_fetch_134 rfl (lv_at hl 0 rfl) ?_
                      refine lv_dup hx hb fx_Dk_fetch_135 rfl ?_
                      refine va_get (D := D) (ci := 4) (v := .int (fd_dI (fv_Dk_goThroughRounds (fd_sdI (fv_Rq_begin σ p1 p2 p3 p4 p5 p6 p7) 4 ((fd_dI (fv_Rq_begin σ p1 p2 p3 p4 p5 p6 p7) 4) + 1))) 5)) (C := fn_R_Dk) (T := fn_T_Dk) (N := 9) hx hb hts fn_j_Dk hown hK hP 0 rfl rfl 5 (by decide) (hts _ (List.mem_cons_of_mem _ fq_209)) (fun _ h9 => h9) rfl fx_Dk_fetch_136 ?_
                      refine lv_iconst (v := 1) hx hb fx_Dk_fetch_139 (by decide) ?_
                      refine lv_iadd hx hb fx_Dk_fetch_140 ?_
                      refine va_put (D := D) (ci := 4) (v := .int ((fd_dI (fv_Dk_goThroughRounds (fd_sdI (fv_Rq_begin σ p1 p2 p3 p4 p5 p6 p7) 4 ((fd_dI (fv_Rq_begin σ p1 p2 p3 p4 p5 p6 p7) 4) + 1))) 5) + 1)) (ty := .int) (C := fn_R_Dk) (T := fn_T_Dk) (N := 9) hx hb hts fn_j_Dk fn_t_Dk fn_k_Dk fn_n_Dk hown hK hP hD hS 0 rfl rfl 5 (by decide) (hts _ (List.mem_cons_of_mem _ fq_209)) (fun _ h9 => h9) rfl (by decide +kernel) rfl rfl (Nat.le_of_ble_eq_true rfl) fx_Dk_fetch_141 (fun H locs hP hD hS => ?_)
                      rw [fd_set_Dk_5] at hP hD
                      have hI27 : fd_Inv (fd_sdI (fv_Dk_goThroughRounds (fd_sdI (fv_Rq_begin σ p1 p2 p3 p4 p5 p6 p7) 4 ((fd_dI (fv_Rq_begin σ p1 p2 p3 p4 p5 p6 p7) 4) + 1))) 5 ((fd_dI (fv_Dk_goThroughRounds (fd_sdI (fv_Rq_begin σ p1 p2 p3 p4 p5 p6 p7) 4 ((fd_dI (fv_Rq_begin σ p1 p2 p3 p4 p5 p6 p7) 4) + 1))) 5) + 1)) := fd_inv_sdI hI25
                      exact fd_throw ft_g2 ft_n2 ft_o2 (by decide) fq_458 fq_11 (u := fd_sdI (fv_Dk_goThroughRounds (fd_sdI (fv_Rq_begin σ p1 p2 p3 p4 p5 p6 p7) 4 ((fd_dI (fv_Rq_begin σ p1 p2 p3 p4 p5 p6 p7) 4) + 1))) 5 ((fd_dI (fv_Dk_goThroughRounds (fd_sdI (fv_Rq_begin σ p1 p2 p3 p4 p5 p6 p7) 4 ((fd_dI (fv_Rq_begin σ p1 p2 p3 p4 p5 p6 p7) 4) + 1))) 5) + 1)) hQ hx hb hst hown hts hX hZ (hl.1.trans hml.symm) hex hlocks ⟨Nat.le_of_ble_eq_true rfl, Nat.le_of_ble_eq_true rfl, Nat.le_of_ble_eq_true rfl, Nat.le_of_ble_eq_true rfl⟩ ⟨⟨2, Or.inr (Or.inl ⟨rfl, rfl⟩), (by rw [fv_Dk_fetch, if_pos c2, if_pos c4, if_pos c6, if_pos c8, if_pos c10, if_pos c12, if_pos c14, if_pos c15, if_pos c22, if_neg c26])⟩, hI27⟩ hP hD hS fx_Dk_fetch_144 fx_Dk_fetch_147 fx_Dk_fetch_148 fx_Dk_fetch_151
                  · exact fd_throw ft_g1 ft_n1 ft_o1 (by decide) fq_243 fq_10 (u := σ) hQ hx hb hst hown hts hX hZ (hl.1.trans hml.symm) hex hlocks ⟨Nat.le_of_ble_eq_true rfl, Nat.le_of_ble_eq_true rfl, Nat.le_of_ble_eq_true rfl, Nat.le_of_ble_eq_true rfl⟩ ⟨⟨1, Or.inl ⟨rfl, rfl⟩, (by rw [fv_Dk_fetch, if_pos c2, if_pos c4, if_pos c6, if_pos c8, if_pos c10, if_pos c12, if_pos c14, if_pos c15, if_neg c22])⟩, hI⟩ hP hD hS fx_Dk_fetch_84 fx_Dk_fetch_87 fx_Dk_fetch_88 fx_Dk_fetch_91
              · exact fd_throw ft_g1 ft_n1 ft_o1 (by decide) fq_243 fq_10 (u := σ) hQ hx hb hst hown hts hX hZ (hl.1.trans hml.symm) hex hlocks ⟨Nat.le_of_ble_eq_true rfl, Nat.le_of_ble_eq_true rfl, Nat.le_of_ble_eq_true rfl, Nat.le_of_ble_eq_true rfl⟩ ⟨⟨1, Or.inl ⟨rfl, rfl⟩, (by rw [fv_Dk_fetch, if_pos c2, if_pos c4, if_pos c6, if_pos c8, if_pos c10, if_pos c12, if_neg c14])⟩, hI⟩ hP hD hS fx_Dk_fetch_61 fx_Dk_fetch_64 fx_Dk_fetch_65 fx_Dk_fetch_68
        · exact fd_throw ft_g1 ft_n1 ft_o1 (by decide) fq_243 fq_10 (u := σ) hQ hx hb hst hown hts hX hZ (hl.1.trans hml.symm) hex hlocks ⟨Nat.le_of_ble_eq_true rfl, Nat.le_of_ble_eq_true rfl, Nat.le_of_ble_eq_true rfl, Nat.le_of_ble_eq_true rfl⟩ ⟨⟨1, Or.inl ⟨rfl, rfl⟩, (by rw [fv_Dk_fetch, if_pos c2, if_pos c4, if_pos c6, if_neg c8])⟩, hI⟩ hP hD hS fx_Dk_fetch_29 fx_Dk_fetch_32 fx_Dk_fetch_33 fx_Dk_fetch_36
end
