/-! the law: its methods but law itself -/
abbrev fw_Lw_serve : Cond := .codeWith fy_Lw_serve fb_Lw_serve 6 (some .int) [(0, 9, 12, 13)]
theorem fm_Lw_serve : fw_Lw_serve ∈ fb_tbl := fb_mem1 (i := 234) rfl rfl
theorem fx_Lw_serve_0 : decode fb_Lw_serve 0 = .ok (.aload_n 0, 1) := by decide +kernel
theorem fx_Lw_serve_1 : decode fb_Lw_serve 1 = .ok (.iload_n 1, 1) := by decide +kernel
theorem fx_Lw_serve_2 : decode fb_Lw_serve 2 = .ok (.iload_n 2, 1) := by decide +kernel
theorem fx_Lw_serve_3 : decode fb_Lw_serve 3 = .ok (.iload_n 3, 1) := by decide +kernel
theorem fx_Lw_serve_4 : decode fb_Lw_serve 4 = .ok (.iload 4, 2) := by decide +kernel
theorem fx_Lw_serve_6 : decode fb_Lw_serve 6 = .ok (.invokevirtual 7, 3) := by decide +kernel
theorem fx_Lw_serve_9 : decode fb_Lw_serve 9 = .ok (.goto 7, 3) := by decide +kernel
theorem fx_Lw_serve_12 : decode fb_Lw_serve 12 = .ok (.astore 5, 2) := by decide +kernel
theorem fx_Lw_serve_14 : decode fb_Lw_serve 14 = .ok (.iconst 1, 1) := by decide +kernel
theorem fx_Lw_serve_15 : decode fb_Lw_serve 15 = .ok (.ireturn, 1) := by decide +kernel
theorem fx_Lw_serve_16 : decode fb_Lw_serve 16 = .ok (.iconst 0, 1) := by decide +kernel
theorem fx_Lw_serve_17 : decode fb_Lw_serve 17 = .ok (.ireturn, 1) := by decide +kernel
abbrev fw_Lw_headers : Cond := .codeWith fy_Lw_headers fb_Lw_headers 5 (some .int) [(0, 7, 10, 13)]
theorem fm_Lw_headers : fw_Lw_headers ∈ fb_tbl := fb_mem2 (i := 68) rfl rfl
theorem fx_Lw_headers_0 : decode fb_Lw_headers 0 = .ok (.aload_n 0, 1) := by decide +kernel
theorem fx_Lw_headers_1 : decode fb_Lw_headers 1 = .ok (.iload_n 1, 1) := by decide +kernel
theorem fx_Lw_headers_2 : decode fb_Lw_headers 2 = .ok (.iload_n 2, 1) := by decide +kernel
theorem fx_Lw_headers_3 : decode fb_Lw_headers 3 = .ok (.iload_n 3, 1) := by decide +kernel
theorem fx_Lw_headers_4 : decode fb_Lw_headers 4 = .ok (.invokevirtual 15, 3) := by decide +kernel
theorem fx_Lw_headers_7 : decode fb_Lw_headers 7 = .ok (.goto 7, 3) := by decide +kernel
theorem fx_Lw_headers_10 : decode fb_Lw_headers 10 = .ok (.astore 4, 2) := by decide +kernel
theorem fx_Lw_headers_12 : decode fb_Lw_headers 12 = .ok (.iconst 1, 1) := by decide +kernel
theorem fx_Lw_headers_13 : decode fb_Lw_headers 13 = .ok (.ireturn, 1) := by decide +kernel
theorem fx_Lw_headers_14 : decode fb_Lw_headers 14 = .ok (.iconst 0, 1) := by decide +kernel
theorem fx_Lw_headers_15 : decode fb_Lw_headers 15 = .ok (.ireturn, 1) := by decide +kernel
abbrev fw_Lw_allow : Cond := .codeWith fy_Lw_allow fb_Lw_allow 6 (some .int) [(0, 12, 15, 13)]
theorem fm_Lw_allow : fw_Lw_allow ∈ fb_tbl := fb_mem2 (i := 78) rfl rfl
theorem fx_Lw_allow_0 : decode fb_Lw_allow 0 = .ok (.aload 4, 2) := by decide +kernel
theorem fx_Lw_allow_2 : decode fb_Lw_allow 2 = .ok (.iconst 0, 1) := by decide +kernel
theorem fx_Lw_allow_3 : decode fb_Lw_allow 3 = .ok (.aload_n 0, 1) := by decide +kernel
theorem fx_Lw_allow_4 : decode fb_Lw_allow 4 = .ok (.iload_n 1, 1) := by decide +kernel
theorem fx_Lw_allow_5 : decode fb_Lw_allow 5 = .ok (.iload_n 2, 1) := by decide +kernel
theorem fx_Lw_allow_6 : decode fb_Lw_allow 6 = .ok (.iload_n 3, 1) := by decide +kernel
theorem fx_Lw_allow_7 : decode fb_Lw_allow 7 = .ok (.invokevirtual 19, 3) := by decide +kernel
theorem fx_Lw_allow_10 : decode fb_Lw_allow 10 = .ok (.i2l, 1) := by decide +kernel
theorem fx_Lw_allow_11 : decode fb_Lw_allow 11 = .ok (.lastore, 1) := by decide +kernel
theorem fx_Lw_allow_12 : decode fb_Lw_allow 12 = .ok (.goto 7, 3) := by decide +kernel
theorem fx_Lw_allow_15 : decode fb_Lw_allow 15 = .ok (.astore 5, 2) := by decide +kernel
theorem fx_Lw_allow_17 : decode fb_Lw_allow 17 = .ok (.iconst 1, 1) := by decide +kernel
theorem fx_Lw_allow_18 : decode fb_Lw_allow 18 = .ok (.ireturn, 1) := by decide +kernel
theorem fx_Lw_allow_19 : decode fb_Lw_allow 19 = .ok (.iconst 0, 1) := by decide +kernel
theorem fx_Lw_allow_20 : decode fb_Lw_allow 20 = .ok (.ireturn, 1) := by decide +kernel
abbrev fw_Lw_asked : Cond := .codeWith fy_Lw_asked fb_Lw_asked 8 (some .int) [(0, 11, 14, 13)]
theorem fm_Lw_asked : fw_Lw_asked ∈ fb_tbl := fb_mem2 (i := 85) rfl rfl
theorem fx_Lw_asked_0 : decode fb_Lw_asked 0 = .ok (.aload_n 0, 1) := by decide +kernel
theorem fx_Lw_asked_1 : decode fb_Lw_asked 1 = .ok (.iload_n 1, 1) := by decide +kernel
theorem fx_Lw_asked_2 : decode fb_Lw_asked 2 = .ok (.iload_n 2, 1) := by decide +kernel
theorem fx_Lw_asked_3 : decode fb_Lw_asked 3 = .ok (.iload_n 3, 1) := by decide +kernel
theorem fx_Lw_asked_4 : decode fb_Lw_asked 4 = .ok (.iload 4, 2) := by decide +kernel
theorem fx_Lw_asked_6 : decode fb_Lw_asked 6 = .ok (.dload 5, 2) := by decide +kernel
theorem fx_Lw_asked_8 : decode fb_Lw_asked 8 = .ok (.invokevirtual 23, 3) := by decide +kernel
theorem fx_Lw_asked_11 : decode fb_Lw_asked 11 = .ok (.goto 7, 3) := by decide +kernel
theorem fx_Lw_asked_14 : decode fb_Lw_asked 14 = .ok (.astore 7, 2) := by decide +kernel
theorem fx_Lw_asked_16 : decode fb_Lw_asked 16 = .ok (.iconst 1, 1) := by decide +kernel
theorem fx_Lw_asked_17 : decode fb_Lw_asked 17 = .ok (.ireturn, 1) := by decide +kernel
theorem fx_Lw_asked_18 : decode fb_Lw_asked 18 = .ok (.iconst 0, 1) := by decide +kernel
theorem fx_Lw_asked_19 : decode fb_Lw_asked 19 = .ok (.ireturn, 1) := by decide +kernel
abbrev fw_Lw_tick : Cond := .codeWith fy_Lw_tick fb_Lw_tick 5 (some .int) [(0, 8, 11, 13)]
theorem fm_Lw_tick : fw_Lw_tick ∈ fb_tbl := fb_mem2 (i := 93) rfl rfl
theorem fx_Lw_tick_0 : decode fb_Lw_tick 0 = .ok (.aload_n 3, 1) := by decide +kernel
theorem fx_Lw_tick_1 : decode fb_Lw_tick 1 = .ok (.iconst 0, 1) := by decide +kernel
theorem fx_Lw_tick_2 : decode fb_Lw_tick 2 = .ok (.aload_n 0, 1) := by decide +kernel
theorem fx_Lw_tick_3 : decode fb_Lw_tick 3 = .ok (.dload_n 1, 1) := by decide +kernel
theorem fx_Lw_tick_4 : decode fb_Lw_tick 4 = .ok (.invokevirtual 27, 3) := by decide +kernel
theorem fx_Lw_tick_7 : decode fb_Lw_tick 7 = .ok (.dastore, 1) := by decide +kernel
theorem fx_Lw_tick_8 : decode fb_Lw_tick 8 = .ok (.goto 7, 3) := by decide +kernel
theorem fx_Lw_tick_11 : decode fb_Lw_tick 11 = .ok (.astore 4, 2) := by decide +kernel
theorem fx_Lw_tick_13 : decode fb_Lw_tick 13 = .ok (.iconst 1, 1) := by decide +kernel
theorem fx_Lw_tick_14 : decode fb_Lw_tick 14 = .ok (.ireturn, 1) := by decide +kernel
theorem fx_Lw_tick_15 : decode fb_Lw_tick 15 = .ok (.iconst 0, 1) := by decide +kernel
theorem fx_Lw_tick_16 : decode fb_Lw_tick 16 = .ok (.ireturn, 1) := by decide +kernel
abbrev fw_Lw_fetch : Cond := .codeWith fy_Lw_fetch fb_Lw_fetch 10 (some .int) [(0, 20, 23, 13), (0, 20, 27, 35)]
theorem fm_Lw_fetch : fw_Lw_fetch ∈ fb_tbl := fb_mem2 (i := 101) rfl rfl
theorem fx_Lw_fetch_0 : decode fb_Lw_fetch 0 = .ok (.aload 8, 2) := by decide +kernel
theorem fx_Lw_fetch_2 : decode fb_Lw_fetch 2 = .ok (.iconst 0, 1) := by decide +kernel
theorem fx_Lw_fetch_3 : decode fb_Lw_fetch 3 = .ok (.aload_n 0, 1) := by decide +kernel
theorem fx_Lw_fetch_4 : decode fb_Lw_fetch 4 = .ok (.iload_n 1, 1) := by decide +kernel
theorem fx_Lw_fetch_5 : decode fb_Lw_fetch 5 = .ok (.iload_n 2, 1) := by decide +kernel
theorem fx_Lw_fetch_6 : decode fb_Lw_fetch 6 = .ok (.iload_n 3, 1) := by decide +kernel
theorem fx_Lw_fetch_7 : decode fb_Lw_fetch 7 = .ok (.iload 4, 2) := by decide +kernel
theorem fx_Lw_fetch_9 : decode fb_Lw_fetch 9 = .ok (.iload 5, 2) := by decide +kernel
theorem fx_Lw_fetch_11 : decode fb_Lw_fetch 11 = .ok (.iload 6, 2) := by decide +kernel
theorem fx_Lw_fetch_13 : decode fb_Lw_fetch 13 = .ok (.iload 7, 2) := by decide +kernel
theorem fx_Lw_fetch_15 : decode fb_Lw_fetch 15 = .ok (.invokevirtual 31, 3) := by decide +kernel
theorem fx_Lw_fetch_18 : decode fb_Lw_fetch 18 = .ok (.i2l, 1) := by decide +kernel
theorem fx_Lw_fetch_19 : decode fb_Lw_fetch 19 = .ok (.lastore, 1) := by decide +kernel
theorem fx_Lw_fetch_20 : decode fb_Lw_fetch 20 = .ok (.goto 11, 3) := by decide +kernel
theorem fx_Lw_fetch_23 : decode fb_Lw_fetch 23 = .ok (.astore 9, 2) := by decide +kernel
theorem fx_Lw_fetch_25 : decode fb_Lw_fetch 25 = .ok (.iconst 1, 1) := by decide +kernel
theorem fx_Lw_fetch_26 : decode fb_Lw_fetch 26 = .ok (.ireturn, 1) := by decide +kernel
theorem fx_Lw_fetch_27 : decode fb_Lw_fetch 27 = .ok (.astore 9, 2) := by decide +kernel
theorem fx_Lw_fetch_29 : decode fb_Lw_fetch 29 = .ok (.iconst 2, 1) := by decide +kernel
theorem fx_Lw_fetch_30 : decode fb_Lw_fetch 30 = .ok (.ireturn, 1) := by decide +kernel
theorem fx_Lw_fetch_31 : decode fb_Lw_fetch 31 = .ok (.iconst 0, 1) := by decide +kernel
theorem fx_Lw_fetch_32 : decode fb_Lw_fetch 32 = .ok (.ireturn, 1) := by decide +kernel
abbrev fw_Lw_told : Cond := .codeWith fy_Lw_told fb_Lw_told 4 (some .int) [(0, 9, 12, 13)]
theorem fm_Lw_told : fw_Lw_told ∈ fb_tbl := fb_mem2 (i := 235) rfl rfl
theorem fx_Lw_told_0 : decode fb_Lw_told 0 = .ok (.aload_n 2, 1) := by decide +kernel
theorem fx_Lw_told_1 : decode fb_Lw_told 1 = .ok (.iconst 0, 1) := by decide +kernel
theorem fx_Lw_told_2 : decode fb_Lw_told 2 = .ok (.aload_n 0, 1) := by decide +kernel
theorem fx_Lw_told_3 : decode fb_Lw_told 3 = .ok (.iload_n 1, 1) := by decide +kernel
theorem fx_Lw_told_4 : decode fb_Lw_told 4 = .ok (.invokevirtual 37, 3) := by decide +kernel
theorem fx_Lw_told_7 : decode fb_Lw_told 7 = .ok (.i2l, 1) := by decide +kernel
theorem fx_Lw_told_8 : decode fb_Lw_told 8 = .ok (.lastore, 1) := by decide +kernel
theorem fx_Lw_told_9 : decode fb_Lw_told 9 = .ok (.goto 6, 3) := by decide +kernel
theorem fx_Lw_told_12 : decode fb_Lw_told 12 = .ok (.astore_n 3, 1) := by decide +kernel
theorem fx_Lw_told_13 : decode fb_Lw_told 13 = .ok (.iconst 1, 1) := by decide +kernel
theorem fx_Lw_told_14 : decode fb_Lw_told 14 = .ok (.ireturn, 1) := by decide +kernel
theorem fx_Lw_told_15 : decode fb_Lw_told 15 = .ok (.iconst 0, 1) := by decide +kernel
theorem fx_Lw_told_16 : decode fb_Lw_told 16 = .ok (.ireturn, 1) := by decide +kernel
abbrev fw_Lw_kept : Cond := .codeWith fy_Lw_kept fb_Lw_kept 5 (some .int) [(0, 10, 13, 13), (0, 10, 17, 45)]
theorem fm_Lw_kept : fw_Lw_kept ∈ fb_tbl := fb_mem3 (i := 2) rfl rfl
theorem fx_Lw_kept_0 : decode fb_Lw_kept 0 = .ok (.aload_n 3, 1) := by decide +kernel
theorem fx_Lw_kept_1 : decode fb_Lw_kept 1 = .ok (.iconst 0, 1) := by decide +kernel
theorem fx_Lw_kept_2 : decode fb_Lw_kept 2 = .ok (.aload_n 0, 1) := by decide +kernel
theorem fx_Lw_kept_3 : decode fb_Lw_kept 3 = .ok (.iload_n 1, 1) := by decide +kernel
theorem fx_Lw_kept_4 : decode fb_Lw_kept 4 = .ok (.iload_n 2, 1) := by decide +kernel
theorem fx_Lw_kept_5 : decode fb_Lw_kept 5 = .ok (.invokevirtual 41, 3) := by decide +kernel
theorem fx_Lw_kept_8 : decode fb_Lw_kept 8 = .ok (.i2l, 1) := by decide +kernel
theorem fx_Lw_kept_9 : decode fb_Lw_kept 9 = .ok (.lastore, 1) := by decide +kernel
theorem fx_Lw_kept_10 : decode fb_Lw_kept 10 = .ok (.goto 11, 3) := by decide +kernel
theorem fx_Lw_kept_13 : decode fb_Lw_kept 13 = .ok (.astore 4, 2) := by decide +kernel
theorem fx_Lw_kept_15 : decode fb_Lw_kept 15 = .ok (.iconst 1, 1) := by decide +kernel
theorem fx_Lw_kept_16 : decode fb_Lw_kept 16 = .ok (.ireturn, 1) := by decide +kernel
theorem fx_Lw_kept_17 : decode fb_Lw_kept 17 = .ok (.astore 4, 2) := by decide +kernel
theorem fx_Lw_kept_19 : decode fb_Lw_kept 19 = .ok (.iconst 2, 1) := by decide +kernel
theorem fx_Lw_kept_20 : decode fb_Lw_kept 20 = .ok (.ireturn, 1) := by decide +kernel
theorem fx_Lw_kept_21 : decode fb_Lw_kept 21 = .ok (.iconst 0, 1) := by decide +kernel
theorem fx_Lw_kept_22 : decode fb_Lw_kept 22 = .ok (.ireturn, 1) := by decide +kernel
abbrev fw_Lw_left : Cond := .codeWith fy_Lw_left fb_Lw_left 4 (some .int) [(0, 8, 11, 45)]
theorem fm_Lw_left : fw_Lw_left ∈ fb_tbl := fb_mem3 (i := 29) rfl rfl
theorem fx_Lw_left_0 : decode fb_Lw_left 0 = .ok (.aload_n 2, 1) := by decide +kernel
theorem fx_Lw_left_1 : decode fb_Lw_left 1 = .ok (.iconst 0, 1) := by decide +kernel
theorem fx_Lw_left_2 : decode fb_Lw_left 2 = .ok (.aload_n 0, 1) := by decide +kernel
theorem fx_Lw_left_3 : decode fb_Lw_left 3 = .ok (.iload_n 1, 1) := by decide +kernel
theorem fx_Lw_left_4 : decode fb_Lw_left 4 = .ok (.invokevirtual 47, 3) := by decide +kernel
theorem fx_Lw_left_7 : decode fb_Lw_left 7 = .ok (.dastore, 1) := by decide +kernel
theorem fx_Lw_left_8 : decode fb_Lw_left 8 = .ok (.goto 6, 3) := by decide +kernel
theorem fx_Lw_left_11 : decode fb_Lw_left 11 = .ok (.astore_n 3, 1) := by decide +kernel
theorem fx_Lw_left_12 : decode fb_Lw_left 12 = .ok (.iconst 1, 1) := by decide +kernel
theorem fx_Lw_left_13 : decode fb_Lw_left 13 = .ok (.ireturn, 1) := by decide +kernel
theorem fx_Lw_left_14 : decode fb_Lw_left 14 = .ok (.iconst 0, 1) := by decide +kernel
theorem fx_Lw_left_15 : decode fb_Lw_left 15 = .ok (.ireturn, 1) := by decide +kernel
abbrev fw_Lw_count : Cond := .codeWith fy_Lw_count fb_Lw_count 4 (some .int) [(0, 9, 12, 13)]
theorem fm_Lw_count : fw_Lw_count ∈ fb_tbl := fb_mem3 (i := 36) rfl rfl
theorem fx_Lw_count_0 : decode fb_Lw_count 0 = .ok (.aload_n 2, 1) := by decide +kernel
theorem fx_Lw_count_1 : decode fb_Lw_count 1 = .ok (.iconst 0, 1) := by decide +kernel
theorem fx_Lw_count_2 : decode fb_Lw_count 2 = .ok (.aload_n 0, 1) := by decide +kernel
theorem fx_Lw_count_3 : decode fb_Lw_count 3 = .ok (.iload_n 1, 1) := by decide +kernel
theorem fx_Lw_count_4 : decode fb_Lw_count 4 = .ok (.invokevirtual 51, 3) := by decide +kernel
theorem fx_Lw_count_7 : decode fb_Lw_count 7 = .ok (.i2l, 1) := by decide +kernel
theorem fx_Lw_count_8 : decode fb_Lw_count 8 = .ok (.lastore, 1) := by decide +kernel
theorem fx_Lw_count_9 : decode fb_Lw_count 9 = .ok (.goto 6, 3) := by decide +kernel
theorem fx_Lw_count_12 : decode fb_Lw_count 12 = .ok (.astore_n 3, 1) := by decide +kernel
theorem fx_Lw_count_13 : decode fb_Lw_count 13 = .ok (.iconst 1, 1) := by decide +kernel
theorem fx_Lw_count_14 : decode fb_Lw_count 14 = .ok (.ireturn, 1) := by decide +kernel
theorem fx_Lw_count_15 : decode fb_Lw_count 15 = .ok (.iconst 0, 1) := by decide +kernel
theorem fx_Lw_count_16 : decode fb_Lw_count 16 = .ok (.ireturn, 1) := by decide +kernel
