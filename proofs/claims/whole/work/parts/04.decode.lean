/-! decode rows of the desk -/
theorem fx_Dk_init_0 : decode fb_Dk_init 0 = .ok (.aload_n 0, 1) := by decide +kernel
theorem fx_Dk_init_1 : decode fb_Dk_init 1 = .ok (.invokespecial 3, 3) := by decide +kernel
theorem fx_Dk_init_4 : decode fb_Dk_init 4 = .ok (.aload_n 0, 1) := by decide +kernel
theorem fx_Dk_init_5 : decode fb_Dk_init 5 = .ok (.bipush 48, 2) := by decide +kernel
theorem fx_Dk_init_7 : decode fb_Dk_init 7 = .ok (.anewarray 9, 3) := by decide +kernel
theorem fx_Dk_init_10 : decode fb_Dk_init 10 = .ok (.putfield 11, 3) := by decide +kernel
theorem fx_Dk_init_13 : decode fb_Dk_init 13 = .ok (.iconst 0, 1) := by decide +kernel
theorem fx_Dk_init_14 : decode fb_Dk_init 14 = .ok (.istore_n 1, 1) := by decide +kernel
theorem fx_Dk_init_15 : decode fb_Dk_init 15 = .ok (.iload_n 1, 1) := by decide +kernel
theorem fx_Dk_init_16 : decode fb_Dk_init 16 = .ok (.bipush 48, 2) := by decide +kernel
theorem fx_Dk_init_18 : decode fb_Dk_init 18 = .ok (.if_icmp .ge 22, 3) := by decide +kernel
theorem fx_Dk_init_21 : decode fb_Dk_init 21 = .ok (.aload_n 0, 1) := by decide +kernel
theorem fx_Dk_init_22 : decode fb_Dk_init 22 = .ok (.getfield 11, 3) := by decide +kernel
theorem fx_Dk_init_25 : decode fb_Dk_init 25 = .ok (.iload_n 1, 1) := by decide +kernel
theorem fx_Dk_init_26 : decode fb_Dk_init 26 = .ok (.new 9, 3) := by decide +kernel
theorem fx_Dk_init_29 : decode fb_Dk_init 29 = .ok (.dup, 1) := by decide +kernel
theorem fx_Dk_init_30 : decode fb_Dk_init 30 = .ok (.invokespecial 15, 3) := by decide +kernel
theorem fx_Dk_init_33 : decode fb_Dk_init 33 = .ok (.aastore, 1) := by decide +kernel
theorem fx_Dk_init_34 : decode fb_Dk_init 34 = .ok (.iinc 1 1, 3) := by decide +kernel
theorem fx_Dk_init_37 : decode fb_Dk_init 37 = .ok (.goto (-22), 3) := by decide +kernel
theorem fx_Dk_init_40 : decode fb_Dk_init 40 = .ok (.aload_n 0, 1) := by decide +kernel
theorem fx_Dk_init_41 : decode fb_Dk_init 41 = .ok (.new 16, 3) := by decide +kernel
theorem fx_Dk_init_44 : decode fb_Dk_init 44 = .ok (.dup, 1) := by decide +kernel
theorem fx_Dk_init_45 : decode fb_Dk_init 45 = .ok (.invokespecial 18, 3) := by decide +kernel
theorem fx_Dk_init_48 : decode fb_Dk_init 48 = .ok (.putfield 19, 3) := by decide +kernel
theorem fx_Dk_init_51 : decode fb_Dk_init 51 = .ok (.aload_n 0, 1) := by decide +kernel
theorem fx_Dk_init_52 : decode fb_Dk_init 52 = .ok (.new 23, 3) := by decide +kernel
theorem fx_Dk_init_55 : decode fb_Dk_init 55 = .ok (.dup, 1) := by decide +kernel
theorem fx_Dk_init_56 : decode fb_Dk_init 56 = .ok (.invokespecial 25, 3) := by decide +kernel
theorem fx_Dk_init_59 : decode fb_Dk_init 59 = .ok (.putfield 26, 3) := by decide +kernel
theorem fx_Dk_init_62 : decode fb_Dk_init 62 = .ok (.return_, 1) := by decide +kernel
theorem fx_Dk_serve_0 : decode fb_Dk_serve 0 = .ok (.iload_n 2, 1) := by decide +kernel
theorem fx_Dk_serve_1 : decode fb_Dk_serve 1 = .ok (.sipush 200, 3) := by decide +kernel
theorem fx_Dk_serve_4 : decode fb_Dk_serve 4 = .ok (.if_icmp .lt 14, 3) := by decide +kernel
theorem fx_Dk_serve_7 : decode fb_Dk_serve 7 = .ok (.iload_n 2, 1) := by decide +kernel
theorem fx_Dk_serve_8 : decode fb_Dk_serve 8 = .ok (.sipush 599, 3) := by decide +kernel
theorem fx_Dk_serve_11 : decode fb_Dk_serve 11 = .ok (.if_icmp .gt 7, 3) := by decide +kernel
theorem fx_Dk_serve_14 : decode fb_Dk_serve 14 = .ok (.iconst 1, 1) := by decide +kernel
theorem fx_Dk_serve_15 : decode fb_Dk_serve 15 = .ok (.goto 4, 3) := by decide +kernel
theorem fx_Dk_serve_18 : decode fb_Dk_serve 18 = .ok (.iconst 0, 1) := by decide +kernel
theorem fx_Dk_serve_19 : decode fb_Dk_serve 19 = .ok (.istore 5, 2) := by decide +kernel
theorem fx_Dk_serve_21 : decode fb_Dk_serve 21 = .ok (.iload 4, 2) := by decide +kernel
theorem fx_Dk_serve_23 : decode fb_Dk_serve 23 = .ok (.iconst (-1), 1) := by decide +kernel
theorem fx_Dk_serve_24 : decode fb_Dk_serve 24 = .ok (.if_icmp .eq 11, 3) := by decide +kernel
theorem fx_Dk_serve_27 : decode fb_Dk_serve 27 = .ok (.iload 4, 2) := by decide +kernel
theorem fx_Dk_serve_29 : decode fb_Dk_serve 29 = .ok (.invokestatic 30, 3) := by decide +kernel
theorem fx_Dk_serve_32 : decode fb_Dk_serve 32 = .ok (.ifCond .eq 7, 3) := by decide +kernel
theorem fx_Dk_serve_35 : decode fb_Dk_serve 35 = .ok (.iconst 1, 1) := by decide +kernel
theorem fx_Dk_serve_36 : decode fb_Dk_serve 36 = .ok (.goto 4, 3) := by decide +kernel
theorem fx_Dk_serve_39 : decode fb_Dk_serve 39 = .ok (.iconst 0, 1) := by decide +kernel
theorem fx_Dk_serve_40 : decode fb_Dk_serve 40 = .ok (.istore 6, 2) := by decide +kernel
theorem fx_Dk_serve_42 : decode fb_Dk_serve 42 = .ok (.iload_n 1, 1) := by decide +kernel
theorem fx_Dk_serve_43 : decode fb_Dk_serve 43 = .ok (.invokestatic 30, 3) := by decide +kernel
theorem fx_Dk_serve_46 : decode fb_Dk_serve 46 = .ok (.ifCond .eq 13, 3) := by decide +kernel
theorem fx_Dk_serve_49 : decode fb_Dk_serve 49 = .ok (.iload 5, 2) := by decide +kernel
theorem fx_Dk_serve_51 : decode fb_Dk_serve 51 = .ok (.ifCond .eq 8, 3) := by decide +kernel
theorem fx_Dk_serve_54 : decode fb_Dk_serve 54 = .ok (.iload 6, 2) := by decide +kernel
theorem fx_Dk_serve_56 : decode fb_Dk_serve 56 = .ok (.ifCond .ne 11, 3) := by decide +kernel
theorem fx_Dk_serve_59 : decode fb_Dk_serve 59 = .ok (.new 34, 3) := by decide +kernel
theorem fx_Dk_serve_62 : decode fb_Dk_serve 62 = .ok (.dup, 1) := by decide +kernel
theorem fx_Dk_serve_63 : decode fb_Dk_serve 63 = .ok (.invokespecial 36, 3) := by decide +kernel
theorem fx_Dk_serve_66 : decode fb_Dk_serve 66 = .ok (.athrow, 1) := by decide +kernel
theorem fx_Dk_serve_67 : decode fb_Dk_serve 67 = .ok (.aload_n 0, 1) := by decide +kernel
theorem fx_Dk_serve_68 : decode fb_Dk_serve 68 = .ok (.getfield 11, 3) := by decide +kernel
theorem fx_Dk_serve_71 : decode fb_Dk_serve 71 = .ok (.iload_n 1, 1) := by decide +kernel
theorem fx_Dk_serve_72 : decode fb_Dk_serve 72 = .ok (.aaload, 1) := by decide +kernel
theorem fx_Dk_serve_73 : decode fb_Dk_serve 73 = .ok (.astore 7, 2) := by decide +kernel
theorem fx_Dk_serve_75 : decode fb_Dk_serve 75 = .ok (.aload 7, 2) := by decide +kernel
theorem fx_Dk_serve_77 : decode fb_Dk_serve 77 = .ok (.iload_n 2, 1) := by decide +kernel
theorem fx_Dk_serve_78 : decode fb_Dk_serve 78 = .ok (.putfield 37, 3) := by decide +kernel
theorem fx_Dk_serve_81 : decode fb_Dk_serve 81 = .ok (.aload 7, 2) := by decide +kernel
theorem fx_Dk_serve_83 : decode fb_Dk_serve 83 = .ok (.iload_n 3, 1) := by decide +kernel
theorem fx_Dk_serve_84 : decode fb_Dk_serve 84 = .ok (.putfield 41, 3) := by decide +kernel
theorem fx_Dk_serve_87 : decode fb_Dk_serve 87 = .ok (.aload 7, 2) := by decide +kernel
theorem fx_Dk_serve_89 : decode fb_Dk_serve 89 = .ok (.iload 4, 2) := by decide +kernel
theorem fx_Dk_serve_91 : decode fb_Dk_serve 91 = .ok (.putfield 44, 3) := by decide +kernel
theorem fx_Dk_serve_94 : decode fb_Dk_serve 94 = .ok (.return_, 1) := by decide +kernel
theorem fx_Dk_headers_0 : decode fb_Dk_headers 0 = .ok (.iload_n 1, 1) := by decide +kernel
theorem fx_Dk_headers_1 : decode fb_Dk_headers 1 = .ok (.invokestatic 30, 3) := by decide +kernel
theorem fx_Dk_headers_4 : decode fb_Dk_headers 4 = .ok (.ifCond .eq 17, 3) := by decide +kernel
theorem fx_Dk_headers_7 : decode fb_Dk_headers 7 = .ok (.iload_n 2, 1) := by decide +kernel
theorem fx_Dk_headers_8 : decode fb_Dk_headers 8 = .ok (.invokestatic 47, 3) := by decide +kernel
theorem fx_Dk_headers_11 : decode fb_Dk_headers 11 = .ok (.ifCond .eq 10, 3) := by decide +kernel
theorem fx_Dk_headers_14 : decode fb_Dk_headers 14 = .ok (.iload_n 3, 1) := by decide +kernel
theorem fx_Dk_headers_15 : decode fb_Dk_headers 15 = .ok (.invokestatic 47, 3) := by decide +kernel
theorem fx_Dk_headers_18 : decode fb_Dk_headers 18 = .ok (.ifCond .ne 11, 3) := by decide +kernel
theorem fx_Dk_headers_21 : decode fb_Dk_headers 21 = .ok (.new 34, 3) := by decide +kernel
theorem fx_Dk_headers_24 : decode fb_Dk_headers 24 = .ok (.dup, 1) := by decide +kernel
theorem fx_Dk_headers_25 : decode fb_Dk_headers 25 = .ok (.invokespecial 36, 3) := by decide +kernel
theorem fx_Dk_headers_28 : decode fb_Dk_headers 28 = .ok (.athrow, 1) := by decide +kernel
theorem fx_Dk_headers_29 : decode fb_Dk_headers 29 = .ok (.aload_n 0, 1) := by decide +kernel
theorem fx_Dk_headers_30 : decode fb_Dk_headers 30 = .ok (.getfield 11, 3) := by decide +kernel
theorem fx_Dk_headers_33 : decode fb_Dk_headers 33 = .ok (.iload_n 1, 1) := by decide +kernel
theorem fx_Dk_headers_34 : decode fb_Dk_headers 34 = .ok (.aaload, 1) := by decide +kernel
theorem fx_Dk_headers_35 : decode fb_Dk_headers 35 = .ok (.astore 4, 2) := by decide +kernel
theorem fx_Dk_headers_37 : decode fb_Dk_headers 37 = .ok (.aload 4, 2) := by decide +kernel
theorem fx_Dk_headers_39 : decode fb_Dk_headers 39 = .ok (.iload_n 2, 1) := by decide +kernel
theorem fx_Dk_headers_40 : decode fb_Dk_headers 40 = .ok (.putfield 50, 3) := by decide +kernel
theorem fx_Dk_headers_43 : decode fb_Dk_headers 43 = .ok (.aload 4, 2) := by decide +kernel
theorem fx_Dk_headers_45 : decode fb_Dk_headers 45 = .ok (.iload_n 3, 1) := by decide +kernel
theorem fx_Dk_headers_46 : decode fb_Dk_headers 46 = .ok (.putfield 53, 3) := by decide +kernel
theorem fx_Dk_headers_49 : decode fb_Dk_headers 49 = .ok (.return_, 1) := by decide +kernel
theorem fx_Dk_allow_0 : decode fb_Dk_allow 0 = .ok (.iload_n 1, 1) := by decide +kernel
theorem fx_Dk_allow_1 : decode fb_Dk_allow 1 = .ok (.invokestatic 30, 3) := by decide +kernel
theorem fx_Dk_allow_4 : decode fb_Dk_allow 4 = .ok (.ifCond .eq 14, 3) := by decide +kernel
theorem fx_Dk_allow_7 : decode fb_Dk_allow 7 = .ok (.iload_n 2, 1) := by decide +kernel
theorem fx_Dk_allow_8 : decode fb_Dk_allow 8 = .ok (.ifCond .lt 10, 3) := by decide +kernel
theorem fx_Dk_allow_11 : decode fb_Dk_allow 11 = .ok (.iload_n 2, 1) := by decide +kernel
theorem fx_Dk_allow_12 : decode fb_Dk_allow 12 = .ok (.sipush 255, 3) := by decide +kernel
theorem fx_Dk_allow_15 : decode fb_Dk_allow 15 = .ok (.if_icmp .le 11, 3) := by decide +kernel
theorem fx_Dk_allow_18 : decode fb_Dk_allow 18 = .ok (.new 34, 3) := by decide +kernel
theorem fx_Dk_allow_21 : decode fb_Dk_allow 21 = .ok (.dup, 1) := by decide +kernel
theorem fx_Dk_allow_22 : decode fb_Dk_allow 22 = .ok (.invokespecial 36, 3) := by decide +kernel
theorem fx_Dk_allow_25 : decode fb_Dk_allow 25 = .ok (.athrow, 1) := by decide +kernel
theorem fx_Dk_allow_26 : decode fb_Dk_allow 26 = .ok (.aload_n 0, 1) := by decide +kernel
theorem fx_Dk_allow_27 : decode fb_Dk_allow 27 = .ok (.getfield 11, 3) := by decide +kernel
theorem fx_Dk_allow_30 : decode fb_Dk_allow 30 = .ok (.iload_n 1, 1) := by decide +kernel
theorem fx_Dk_allow_31 : decode fb_Dk_allow 31 = .ok (.aaload, 1) := by decide +kernel
theorem fx_Dk_allow_32 : decode fb_Dk_allow 32 = .ok (.astore 4, 2) := by decide +kernel
theorem fx_Dk_allow_34 : decode fb_Dk_allow 34 = .ok (.aload 4, 2) := by decide +kernel
theorem fx_Dk_allow_36 : decode fb_Dk_allow 36 = .ok (.getfield 56, 3) := by decide +kernel
theorem fx_Dk_allow_39 : decode fb_Dk_allow 39 = .ok (.istore 5, 2) := by decide +kernel
theorem fx_Dk_allow_41 : decode fb_Dk_allow 41 = .ok (.aload 4, 2) := by decide +kernel
theorem fx_Dk_allow_43 : decode fb_Dk_allow 43 = .ok (.iload_n 2, 1) := by decide +kernel
theorem fx_Dk_allow_44 : decode fb_Dk_allow 44 = .ok (.putfield 56, 3) := by decide +kernel
theorem fx_Dk_allow_47 : decode fb_Dk_allow 47 = .ok (.aload 4, 2) := by decide +kernel
theorem fx_Dk_allow_49 : decode fb_Dk_allow 49 = .ok (.iload_n 3, 1) := by decide +kernel
theorem fx_Dk_allow_50 : decode fb_Dk_allow 50 = .ok (.putfield 59, 3) := by decide +kernel
theorem fx_Dk_allow_53 : decode fb_Dk_allow 53 = .ok (.iload 5, 2) := by decide +kernel
theorem fx_Dk_allow_55 : decode fb_Dk_allow 55 = .ok (.ireturn, 1) := by decide +kernel
theorem fx_Dk_asked_0 : decode fb_Dk_asked 0 = .ok (.dload 5, 2) := by decide +kernel
theorem fx_Dk_asked_2 : decode fb_Dk_asked 2 = .ok (.dconst 0, 1) := by decide +kernel
theorem fx_Dk_asked_3 : decode fb_Dk_asked 3 = .ok (.dcmp .l, 1) := by decide +kernel
theorem fx_Dk_asked_4 : decode fb_Dk_asked 4 = .ok (.ifCond .lt 16, 3) := by decide +kernel
theorem fx_Dk_asked_7 : decode fb_Dk_asked 7 = .ok (.dload 5, 2) := by decide +kernel
theorem fx_Dk_asked_9 : decode fb_Dk_asked 9 = .ok (.ldc2_w 63, 3) := by decide +kernel
theorem fx_Dk_asked_12 : decode fb_Dk_asked 12 = .ok (.dcmp .g, 1) := by decide +kernel
theorem fx_Dk_asked_13 : decode fb_Dk_asked 13 = .ok (.ifCond .gt 7, 3) := by decide +kernel
theorem fx_Dk_asked_16 : decode fb_Dk_asked 16 = .ok (.iconst 1, 1) := by decide +kernel
theorem fx_Dk_asked_17 : decode fb_Dk_asked 17 = .ok (.goto 4, 3) := by decide +kernel
theorem fx_Dk_asked_20 : decode fb_Dk_asked 20 = .ok (.iconst 0, 1) := by decide +kernel
theorem fx_Dk_asked_21 : decode fb_Dk_asked 21 = .ok (.istore 7, 2) := by decide +kernel
theorem fx_Dk_asked_23 : decode fb_Dk_asked 23 = .ok (.iload_n 1, 1) := by decide +kernel
theorem fx_Dk_asked_24 : decode fb_Dk_asked 24 = .ok (.invokestatic 30, 3) := by decide +kernel
theorem fx_Dk_asked_27 : decode fb_Dk_asked 27 = .ok (.ifCond .eq 23, 3) := by decide +kernel
theorem fx_Dk_asked_30 : decode fb_Dk_asked 30 = .ok (.iload_n 3, 1) := by decide +kernel
theorem fx_Dk_asked_31 : decode fb_Dk_asked 31 = .ok (.invokestatic 47, 3) := by decide +kernel
theorem fx_Dk_asked_34 : decode fb_Dk_asked 34 = .ok (.ifCond .eq 16, 3) := by decide +kernel
theorem fx_Dk_asked_37 : decode fb_Dk_asked 37 = .ok (.iload 4, 2) := by decide +kernel
theorem fx_Dk_asked_39 : decode fb_Dk_asked 39 = .ok (.invokestatic 47, 3) := by decide +kernel
theorem fx_Dk_asked_42 : decode fb_Dk_asked 42 = .ok (.ifCond .eq 8, 3) := by decide +kernel
theorem fx_Dk_asked_45 : decode fb_Dk_asked 45 = .ok (.iload 7, 2) := by decide +kernel
theorem fx_Dk_asked_47 : decode fb_Dk_asked 47 = .ok (.ifCond .ne 11, 3) := by decide +kernel
theorem fx_Dk_asked_50 : decode fb_Dk_asked 50 = .ok (.new 34, 3) := by decide +kernel
theorem fx_Dk_asked_53 : decode fb_Dk_asked 53 = .ok (.dup, 1) := by decide +kernel
theorem fx_Dk_asked_54 : decode fb_Dk_asked 54 = .ok (.invokespecial 36, 3) := by decide +kernel
theorem fx_Dk_asked_57 : decode fb_Dk_asked 57 = .ok (.athrow, 1) := by decide +kernel
theorem fx_Dk_asked_58 : decode fb_Dk_asked 58 = .ok (.aload_n 0, 1) := by decide +kernel
theorem fx_Dk_asked_59 : decode fb_Dk_asked 59 = .ok (.getfield 11, 3) := by decide +kernel
theorem fx_Dk_asked_62 : decode fb_Dk_asked 62 = .ok (.iload_n 1, 1) := by decide +kernel
theorem fx_Dk_asked_63 : decode fb_Dk_asked 63 = .ok (.aaload, 1) := by decide +kernel
theorem fx_Dk_asked_64 : decode fb_Dk_asked 64 = .ok (.astore 8, 2) := by decide +kernel
theorem fx_Dk_asked_66 : decode fb_Dk_asked 66 = .ok (.aload 8, 2) := by decide +kernel
theorem fx_Dk_asked_68 : decode fb_Dk_asked 68 = .ok (.iload_n 2, 1) := by decide +kernel
theorem fx_Dk_asked_69 : decode fb_Dk_asked 69 = .ok (.putfield 65, 3) := by decide +kernel
theorem fx_Dk_asked_72 : decode fb_Dk_asked 72 = .ok (.aload 8, 2) := by decide +kernel
theorem fx_Dk_asked_74 : decode fb_Dk_asked 74 = .ok (.iload_n 3, 1) := by decide +kernel
theorem fx_Dk_asked_75 : decode fb_Dk_asked 75 = .ok (.putfield 68, 3) := by decide +kernel
theorem fx_Dk_asked_78 : decode fb_Dk_asked 78 = .ok (.aload 8, 2) := by decide +kernel
theorem fx_Dk_asked_80 : decode fb_Dk_asked 80 = .ok (.iload 4, 2) := by decide +kernel
theorem fx_Dk_asked_82 : decode fb_Dk_asked 82 = .ok (.putfield 71, 3) := by decide +kernel
theorem fx_Dk_asked_85 : decode fb_Dk_asked 85 = .ok (.aload 8, 2) := by decide +kernel
theorem fx_Dk_asked_87 : decode fb_Dk_asked 87 = .ok (.dload 5, 2) := by decide +kernel
theorem fx_Dk_asked_89 : decode fb_Dk_asked 89 = .ok (.putfield 74, 3) := by decide +kernel
theorem fx_Dk_asked_92 : decode fb_Dk_asked 92 = .ok (.return_, 1) := by decide +kernel
theorem fx_Dk_tick_0 : decode fb_Dk_tick 0 = .ok (.dload_n 1, 1) := by decide +kernel
theorem fx_Dk_tick_1 : decode fb_Dk_tick 1 = .ok (.dconst 0, 1) := by decide +kernel
theorem fx_Dk_tick_2 : decode fb_Dk_tick 2 = .ok (.dcmp .l, 1) := by decide +kernel
theorem fx_Dk_tick_3 : decode fb_Dk_tick 3 = .ok (.ifCond .le 15, 3) := by decide +kernel
theorem fx_Dk_tick_6 : decode fb_Dk_tick 6 = .ok (.dload_n 1, 1) := by decide +kernel
theorem fx_Dk_tick_7 : decode fb_Dk_tick 7 = .ok (.ldc2_w 78, 3) := by decide +kernel
theorem fx_Dk_tick_10 : decode fb_Dk_tick 10 = .ok (.dcmp .g, 1) := by decide +kernel
theorem fx_Dk_tick_11 : decode fb_Dk_tick 11 = .ok (.ifCond .gt 7, 3) := by decide +kernel
theorem fx_Dk_tick_14 : decode fb_Dk_tick 14 = .ok (.iconst 1, 1) := by decide +kernel
theorem fx_Dk_tick_15 : decode fb_Dk_tick 15 = .ok (.goto 4, 3) := by decide +kernel
theorem fx_Dk_tick_18 : decode fb_Dk_tick 18 = .ok (.iconst 0, 1) := by decide +kernel
theorem fx_Dk_tick_19 : decode fb_Dk_tick 19 = .ok (.istore_n 3, 1) := by decide +kernel
theorem fx_Dk_tick_20 : decode fb_Dk_tick 20 = .ok (.iload_n 3, 1) := by decide +kernel
theorem fx_Dk_tick_21 : decode fb_Dk_tick 21 = .ok (.ifCond .ne 11, 3) := by decide +kernel
theorem fx_Dk_tick_24 : decode fb_Dk_tick 24 = .ok (.new 34, 3) := by decide +kernel
theorem fx_Dk_tick_27 : decode fb_Dk_tick 27 = .ok (.dup, 1) := by decide +kernel
theorem fx_Dk_tick_28 : decode fb_Dk_tick 28 = .ok (.invokespecial 36, 3) := by decide +kernel
theorem fx_Dk_tick_31 : decode fb_Dk_tick 31 = .ok (.athrow, 1) := by decide +kernel
theorem fx_Dk_tick_32 : decode fb_Dk_tick 32 = .ok (.aload_n 0, 1) := by decide +kernel
theorem fx_Dk_tick_33 : decode fb_Dk_tick 33 = .ok (.aload_n 0, 1) := by decide +kernel
theorem fx_Dk_tick_34 : decode fb_Dk_tick 34 = .ok (.getfield 80, 3) := by decide +kernel
theorem fx_Dk_tick_37 : decode fb_Dk_tick 37 = .ok (.dload_n 1, 1) := by decide +kernel
theorem fx_Dk_tick_38 : decode fb_Dk_tick 38 = .ok (.dadd, 1) := by decide +kernel
theorem fx_Dk_tick_39 : decode fb_Dk_tick 39 = .ok (.putfield 80, 3) := by decide +kernel
theorem fx_Dk_tick_42 : decode fb_Dk_tick 42 = .ok (.aload_n 0, 1) := by decide +kernel
theorem fx_Dk_tick_43 : decode fb_Dk_tick 43 = .ok (.getfield 80, 3) := by decide +kernel
theorem fx_Dk_tick_46 : decode fb_Dk_tick 46 = .ok (.dreturn, 1) := by decide +kernel
theorem fx_Dk_fetch_0 : decode fb_Dk_fetch 0 = .ok (.iload_n 1, 1) := by decide +kernel
theorem fx_Dk_fetch_1 : decode fb_Dk_fetch 1 = .ok (.invokestatic 83, 3) := by decide +kernel
theorem fx_Dk_fetch_4 : decode fb_Dk_fetch 4 = .ok (.ifCond .eq 25, 3) := by decide +kernel
theorem fx_Dk_fetch_7 : decode fb_Dk_fetch 7 = .ok (.iload_n 2, 1) := by decide +kernel
theorem fx_Dk_fetch_8 : decode fb_Dk_fetch 8 = .ok (.invokestatic 30, 3) := by decide +kernel
theorem fx_Dk_fetch_11 : decode fb_Dk_fetch 11 = .ok (.ifCond .eq 18, 3) := by decide +kernel
theorem fx_Dk_fetch_14 : decode fb_Dk_fetch 14 = .ok (.iload_n 3, 1) := by decide +kernel
theorem fx_Dk_fetch_15 : decode fb_Dk_fetch 15 = .ok (.invokestatic 86, 3) := by decide +kernel
theorem fx_Dk_fetch_18 : decode fb_Dk_fetch 18 = .ok (.ifCond .eq 11, 3) := by decide +kernel
theorem fx_Dk_fetch_21 : decode fb_Dk_fetch 21 = .ok (.iload 4, 2) := by decide +kernel
theorem fx_Dk_fetch_23 : decode fb_Dk_fetch 23 = .ok (.invokestatic 47, 3) := by decide +kernel
theorem fx_Dk_fetch_26 : decode fb_Dk_fetch 26 = .ok (.ifCond .ne 11, 3) := by decide +kernel
theorem fx_Dk_fetch_29 : decode fb_Dk_fetch 29 = .ok (.new 34, 3) := by decide +kernel
theorem fx_Dk_fetch_32 : decode fb_Dk_fetch 32 = .ok (.dup, 1) := by decide +kernel
theorem fx_Dk_fetch_33 : decode fb_Dk_fetch 33 = .ok (.invokespecial 36, 3) := by decide +kernel
theorem fx_Dk_fetch_36 : decode fb_Dk_fetch 36 = .ok (.athrow, 1) := by decide +kernel
theorem fx_Dk_fetch_37 : decode fb_Dk_fetch 37 = .ok (.iload 5, 2) := by decide +kernel
theorem fx_Dk_fetch_39 : decode fb_Dk_fetch 39 = .ok (.invokestatic 89, 3) := by decide +kernel
theorem fx_Dk_fetch_42 : decode fb_Dk_fetch 42 = .ok (.ifCond .eq 19, 3) := by decide +kernel
theorem fx_Dk_fetch_45 : decode fb_Dk_fetch 45 = .ok (.iload 6, 2) := by decide +kernel
theorem fx_Dk_fetch_47 : decode fb_Dk_fetch 47 = .ok (.invokestatic 89, 3) := by decide +kernel
theorem fx_Dk_fetch_50 : decode fb_Dk_fetch 50 = .ok (.ifCond .eq 11, 3) := by decide +kernel
theorem fx_Dk_fetch_53 : decode fb_Dk_fetch 53 = .ok (.iload 7, 2) := by decide +kernel
theorem fx_Dk_fetch_55 : decode fb_Dk_fetch 55 = .ok (.invokestatic 89, 3) := by decide +kernel
theorem fx_Dk_fetch_58 : decode fb_Dk_fetch 58 = .ok (.ifCond .ne 11, 3) := by decide +kernel
theorem fx_Dk_fetch_61 : decode fb_Dk_fetch 61 = .ok (.new 34, 3) := by decide +kernel
theorem fx_Dk_fetch_64 : decode fb_Dk_fetch 64 = .ok (.dup, 1) := by decide +kernel
theorem fx_Dk_fetch_65 : decode fb_Dk_fetch 65 = .ok (.invokespecial 36, 3) := by decide +kernel
theorem fx_Dk_fetch_68 : decode fb_Dk_fetch 68 = .ok (.athrow, 1) := by decide +kernel
theorem fx_Dk_fetch_69 : decode fb_Dk_fetch 69 = .ok (.iload 5, 2) := by decide +kernel
theorem fx_Dk_fetch_71 : decode fb_Dk_fetch 71 = .ok (.iconst 2, 1) := by decide +kernel
theorem fx_Dk_fetch_72 : decode fb_Dk_fetch 72 = .ok (.if_icmp .ne 20, 3) := by decide +kernel
theorem fx_Dk_fetch_75 : decode fb_Dk_fetch 75 = .ok (.iload_n 3, 1) := by decide +kernel
theorem fx_Dk_fetch_76 : decode fb_Dk_fetch 76 = .ok (.iload 4, 2) := by decide +kernel
theorem fx_Dk_fetch_78 : decode fb_Dk_fetch 78 = .ok (.invokestatic 92, 3) := by decide +kernel
theorem fx_Dk_fetch_81 : decode fb_Dk_fetch 81 = .ok (.ifCond .ne 11, 3) := by decide +kernel
theorem fx_Dk_fetch_84 : decode fb_Dk_fetch 84 = .ok (.new 34, 3) := by decide +kernel
theorem fx_Dk_fetch_87 : decode fb_Dk_fetch 87 = .ok (.dup, 1) := by decide +kernel
theorem fx_Dk_fetch_88 : decode fb_Dk_fetch 88 = .ok (.invokespecial 36, 3) := by decide +kernel
theorem fx_Dk_fetch_91 : decode fb_Dk_fetch 91 = .ok (.athrow, 1) := by decide +kernel
theorem fx_Dk_fetch_92 : decode fb_Dk_fetch 92 = .ok (.aload_n 0, 1) := by decide +kernel
theorem fx_Dk_fetch_93 : decode fb_Dk_fetch 93 = .ok (.getfield 26, 3) := by decide +kernel
theorem fx_Dk_fetch_96 : decode fb_Dk_fetch 96 = .ok (.iload_n 1, 1) := by decide +kernel
theorem fx_Dk_fetch_97 : decode fb_Dk_fetch 97 = .ok (.iload_n 2, 1) := by decide +kernel
theorem fx_Dk_fetch_98 : decode fb_Dk_fetch 98 = .ok (.iload_n 3, 1) := by decide +kernel
theorem fx_Dk_fetch_99 : decode fb_Dk_fetch 99 = .ok (.iload 4, 2) := by decide +kernel
theorem fx_Dk_fetch_101 : decode fb_Dk_fetch 101 = .ok (.iload 5, 2) := by decide +kernel
theorem fx_Dk_fetch_103 : decode fb_Dk_fetch 103 = .ok (.iload 6, 2) := by decide +kernel
theorem fx_Dk_fetch_105 : decode fb_Dk_fetch 105 = .ok (.iload 7, 2) := by decide +kernel
theorem fx_Dk_fetch_107 : decode fb_Dk_fetch 107 = .ok (.invokevirtual 96, 3) := by decide +kernel
theorem fx_Dk_fetch_110 : decode fb_Dk_fetch 110 = .ok (.aload_n 0, 1) := by decide +kernel
theorem fx_Dk_fetch_111 : decode fb_Dk_fetch 111 = .ok (.dup, 1) := by decide +kernel
theorem fx_Dk_fetch_112 : decode fb_Dk_fetch 112 = .ok (.getfield 100, 3) := by decide +kernel
theorem fx_Dk_fetch_115 : decode fb_Dk_fetch 115 = .ok (.iconst 1, 1) := by decide +kernel
theorem fx_Dk_fetch_116 : decode fb_Dk_fetch 116 = .ok (.iadd, 1) := by decide +kernel
theorem fx_Dk_fetch_117 : decode fb_Dk_fetch 117 = .ok (.putfield 100, 3) := by decide +kernel
theorem fx_Dk_fetch_120 : decode fb_Dk_fetch 120 = .ok (.aload_n 0, 1) := by decide +kernel
theorem fx_Dk_fetch_121 : decode fb_Dk_fetch 121 = .ok (.invokevirtual 103, 3) := by decide +kernel
theorem fx_Dk_fetch_124 : decode fb_Dk_fetch 124 = .ok (.aload_n 0, 1) := by decide +kernel
theorem fx_Dk_fetch_125 : decode fb_Dk_fetch 125 = .ok (.getfield 26, 3) := by decide +kernel
theorem fx_Dk_fetch_128 : decode fb_Dk_fetch 128 = .ok (.getfield 106, 3) := by decide +kernel
theorem fx_Dk_fetch_131 : decode fb_Dk_fetch 131 = .ok (.ifCond .eq 21, 3) := by decide +kernel
theorem fx_Dk_fetch_134 : decode fb_Dk_fetch 134 = .ok (.aload_n 0, 1) := by decide +kernel
theorem fx_Dk_fetch_135 : decode fb_Dk_fetch 135 = .ok (.dup, 1) := by decide +kernel
theorem fx_Dk_fetch_136 : decode fb_Dk_fetch 136 = .ok (.getfield 109, 3) := by decide +kernel
theorem fx_Dk_fetch_139 : decode fb_Dk_fetch 139 = .ok (.iconst 1, 1) := by decide +kernel
theorem fx_Dk_fetch_140 : decode fb_Dk_fetch 140 = .ok (.iadd, 1) := by decide +kernel
theorem fx_Dk_fetch_141 : decode fb_Dk_fetch 141 = .ok (.putfield 109, 3) := by decide +kernel
theorem fx_Dk_fetch_144 : decode fb_Dk_fetch 144 = .ok (.new 112, 3) := by decide +kernel
theorem fx_Dk_fetch_147 : decode fb_Dk_fetch 147 = .ok (.dup, 1) := by decide +kernel
theorem fx_Dk_fetch_148 : decode fb_Dk_fetch 148 = .ok (.invokespecial 114, 3) := by decide +kernel
theorem fx_Dk_fetch_151 : decode fb_Dk_fetch 151 = .ok (.athrow, 1) := by decide +kernel
theorem fx_Dk_fetch_152 : decode fb_Dk_fetch 152 = .ok (.aload_n 0, 1) := by decide +kernel
theorem fx_Dk_fetch_153 : decode fb_Dk_fetch 153 = .ok (.getfield 26, 3) := by decide +kernel
theorem fx_Dk_fetch_156 : decode fb_Dk_fetch 156 = .ok (.getfield 115, 3) := by decide +kernel
theorem fx_Dk_fetch_159 : decode fb_Dk_fetch 159 = .ok (.ireturn, 1) := by decide +kernel
theorem fx_Dk_told_0 : decode fb_Dk_told 0 = .ok (.iload_n 1, 1) := by decide +kernel
theorem fx_Dk_told_1 : decode fb_Dk_told 1 = .ok (.tableswitch 143 0 9 #[55, 63, 71, 79, 87, 95, 111, 119, 127, 135], 55) := by decide +kernel
theorem fx_Dk_told_56 : decode fb_Dk_told 56 = .ok (.aload_n 0, 1) := by decide +kernel
theorem fx_Dk_told_57 : decode fb_Dk_told 57 = .ok (.getfield 26, 3) := by decide +kernel
theorem fx_Dk_told_60 : decode fb_Dk_told 60 = .ok (.getfield 106, 3) := by decide +kernel
theorem fx_Dk_told_63 : decode fb_Dk_told 63 = .ok (.ireturn, 1) := by decide +kernel
theorem fx_Dk_told_64 : decode fb_Dk_told 64 = .ok (.aload_n 0, 1) := by decide +kernel
theorem fx_Dk_told_65 : decode fb_Dk_told 65 = .ok (.getfield 26, 3) := by decide +kernel
theorem fx_Dk_told_68 : decode fb_Dk_told 68 = .ok (.getfield 118, 3) := by decide +kernel
theorem fx_Dk_told_71 : decode fb_Dk_told 71 = .ok (.ireturn, 1) := by decide +kernel
theorem fx_Dk_told_72 : decode fb_Dk_told 72 = .ok (.aload_n 0, 1) := by decide +kernel
theorem fx_Dk_told_73 : decode fb_Dk_told 73 = .ok (.getfield 26, 3) := by decide +kernel
theorem fx_Dk_told_76 : decode fb_Dk_told 76 = .ok (.getfield 121, 3) := by decide +kernel
theorem fx_Dk_told_79 : decode fb_Dk_told 79 = .ok (.ireturn, 1) := by decide +kernel
theorem fx_Dk_told_80 : decode fb_Dk_told 80 = .ok (.aload_n 0, 1) := by decide +kernel
theorem fx_Dk_told_81 : decode fb_Dk_told 81 = .ok (.getfield 26, 3) := by decide +kernel
theorem fx_Dk_told_84 : decode fb_Dk_told 84 = .ok (.getfield 124, 3) := by decide +kernel
theorem fx_Dk_told_87 : decode fb_Dk_told 87 = .ok (.ireturn, 1) := by decide +kernel
theorem fx_Dk_told_88 : decode fb_Dk_told 88 = .ok (.aload_n 0, 1) := by decide +kernel
theorem fx_Dk_told_89 : decode fb_Dk_told 89 = .ok (.getfield 26, 3) := by decide +kernel
theorem fx_Dk_told_92 : decode fb_Dk_told 92 = .ok (.getfield 127, 3) := by decide +kernel
theorem fx_Dk_told_95 : decode fb_Dk_told 95 = .ok (.ireturn, 1) := by decide +kernel
theorem fx_Dk_told_96 : decode fb_Dk_told 96 = .ok (.aload_n 0, 1) := by decide +kernel
theorem fx_Dk_told_97 : decode fb_Dk_told 97 = .ok (.getfield 26, 3) := by decide +kernel
theorem fx_Dk_told_100 : decode fb_Dk_told 100 = .ok (.getfield 130, 3) := by decide +kernel
theorem fx_Dk_told_103 : decode fb_Dk_told 103 = .ok (.ifCond .eq 7, 3) := by decide +kernel
theorem fx_Dk_told_106 : decode fb_Dk_told 106 = .ok (.iconst 1, 1) := by decide +kernel
theorem fx_Dk_told_107 : decode fb_Dk_told 107 = .ok (.goto 4, 3) := by decide +kernel
theorem fx_Dk_told_110 : decode fb_Dk_told 110 = .ok (.iconst 0, 1) := by decide +kernel
theorem fx_Dk_told_111 : decode fb_Dk_told 111 = .ok (.ireturn, 1) := by decide +kernel
theorem fx_Dk_told_112 : decode fb_Dk_told 112 = .ok (.aload_n 0, 1) := by decide +kernel
theorem fx_Dk_told_113 : decode fb_Dk_told 113 = .ok (.getfield 26, 3) := by decide +kernel
theorem fx_Dk_told_116 : decode fb_Dk_told 116 = .ok (.getfield 133, 3) := by decide +kernel
theorem fx_Dk_told_119 : decode fb_Dk_told 119 = .ok (.ireturn, 1) := by decide +kernel
theorem fx_Dk_told_120 : decode fb_Dk_told 120 = .ok (.aload_n 0, 1) := by decide +kernel
theorem fx_Dk_told_121 : decode fb_Dk_told 121 = .ok (.getfield 26, 3) := by decide +kernel
theorem fx_Dk_told_124 : decode fb_Dk_told 124 = .ok (.getfield 136, 3) := by decide +kernel
theorem fx_Dk_told_127 : decode fb_Dk_told 127 = .ok (.ireturn, 1) := by decide +kernel
theorem fx_Dk_told_128 : decode fb_Dk_told 128 = .ok (.aload_n 0, 1) := by decide +kernel
theorem fx_Dk_told_129 : decode fb_Dk_told 129 = .ok (.getfield 26, 3) := by decide +kernel
theorem fx_Dk_told_132 : decode fb_Dk_told 132 = .ok (.getfield 139, 3) := by decide +kernel
theorem fx_Dk_told_135 : decode fb_Dk_told 135 = .ok (.ireturn, 1) := by decide +kernel
theorem fx_Dk_told_136 : decode fb_Dk_told 136 = .ok (.aload_n 0, 1) := by decide +kernel
theorem fx_Dk_told_137 : decode fb_Dk_told 137 = .ok (.getfield 26, 3) := by decide +kernel
theorem fx_Dk_told_140 : decode fb_Dk_told 140 = .ok (.getfield 115, 3) := by decide +kernel
theorem fx_Dk_told_143 : decode fb_Dk_told 143 = .ok (.ireturn, 1) := by decide +kernel
theorem fx_Dk_told_144 : decode fb_Dk_told 144 = .ok (.new 34, 3) := by decide +kernel
theorem fx_Dk_told_147 : decode fb_Dk_told 147 = .ok (.dup, 1) := by decide +kernel
theorem fx_Dk_told_148 : decode fb_Dk_told 148 = .ok (.invokespecial 36, 3) := by decide +kernel
theorem fx_Dk_told_151 : decode fb_Dk_told 151 = .ok (.athrow, 1) := by decide +kernel
theorem fx_Dk_kept_0 : decode fb_Dk_kept 0 = .ok (.iload_n 2, 1) := by decide +kernel
theorem fx_Dk_kept_1 : decode fb_Dk_kept 1 = .ok (.ifCond .lt 9, 3) := by decide +kernel
theorem fx_Dk_kept_4 : decode fb_Dk_kept 4 = .ok (.iload_n 2, 1) := by decide +kernel
theorem fx_Dk_kept_5 : decode fb_Dk_kept 5 = .ok (.bipush 6, 2) := by decide +kernel
theorem fx_Dk_kept_7 : decode fb_Dk_kept 7 = .ok (.if_icmp .lt 11, 3) := by decide +kernel
theorem fx_Dk_kept_10 : decode fb_Dk_kept 10 = .ok (.new 34, 3) := by decide +kernel
theorem fx_Dk_kept_13 : decode fb_Dk_kept 13 = .ok (.dup, 1) := by decide +kernel
theorem fx_Dk_kept_14 : decode fb_Dk_kept 14 = .ok (.invokespecial 36, 3) := by decide +kernel
theorem fx_Dk_kept_17 : decode fb_Dk_kept 17 = .ok (.athrow, 1) := by decide +kernel
theorem fx_Dk_kept_18 : decode fb_Dk_kept 18 = .ok (.aload_n 0, 1) := by decide +kernel
theorem fx_Dk_kept_19 : decode fb_Dk_kept 19 = .ok (.getfield 19, 3) := by decide +kernel
theorem fx_Dk_kept_22 : decode fb_Dk_kept 22 = .ok (.iload_n 1, 1) := by decide +kernel
theorem fx_Dk_kept_23 : decode fb_Dk_kept 23 = .ok (.invokevirtual 142, 3) := by decide +kernel
theorem fx_Dk_kept_26 : decode fb_Dk_kept 26 = .ok (.ifCond .ne 11, 3) := by decide +kernel
theorem fx_Dk_kept_29 : decode fb_Dk_kept 29 = .ok (.new 145, 3) := by decide +kernel
theorem fx_Dk_kept_32 : decode fb_Dk_kept 32 = .ok (.dup, 1) := by decide +kernel
theorem fx_Dk_kept_33 : decode fb_Dk_kept 33 = .ok (.invokespecial 147, 3) := by decide +kernel
theorem fx_Dk_kept_36 : decode fb_Dk_kept 36 = .ok (.athrow, 1) := by decide +kernel
theorem fx_Dk_kept_37 : decode fb_Dk_kept 37 = .ok (.aload_n 0, 1) := by decide +kernel
theorem fx_Dk_kept_38 : decode fb_Dk_kept 38 = .ok (.getfield 19, 3) := by decide +kernel
theorem fx_Dk_kept_41 : decode fb_Dk_kept 41 = .ok (.getfield 148, 3) := by decide +kernel
theorem fx_Dk_kept_44 : decode fb_Dk_kept 44 = .ok (.iload_n 1, 1) := by decide +kernel
theorem fx_Dk_kept_45 : decode fb_Dk_kept 45 = .ok (.aaload, 1) := by decide +kernel
theorem fx_Dk_kept_46 : decode fb_Dk_kept 46 = .ok (.astore_n 3, 1) := by decide +kernel
theorem fx_Dk_kept_47 : decode fb_Dk_kept 47 = .ok (.iload_n 2, 1) := by decide +kernel
theorem fx_Dk_kept_48 : decode fb_Dk_kept 48 = .ok (.tableswitch 69 0 4 #[36, 41, 46, 59, 64], 36) := by decide +kernel
theorem fx_Dk_kept_84 : decode fb_Dk_kept 84 = .ok (.aload_n 3, 1) := by decide +kernel
theorem fx_Dk_kept_85 : decode fb_Dk_kept 85 = .ok (.getfield 152, 3) := by decide +kernel
theorem fx_Dk_kept_88 : decode fb_Dk_kept 88 = .ok (.ireturn, 1) := by decide +kernel
theorem fx_Dk_kept_89 : decode fb_Dk_kept 89 = .ok (.aload_n 3, 1) := by decide +kernel
theorem fx_Dk_kept_90 : decode fb_Dk_kept 90 = .ok (.getfield 155, 3) := by decide +kernel
theorem fx_Dk_kept_93 : decode fb_Dk_kept 93 = .ok (.ireturn, 1) := by decide +kernel
theorem fx_Dk_kept_94 : decode fb_Dk_kept 94 = .ok (.aload_n 3, 1) := by decide +kernel
theorem fx_Dk_kept_95 : decode fb_Dk_kept 95 = .ok (.getfield 156, 3) := by decide +kernel
theorem fx_Dk_kept_98 : decode fb_Dk_kept 98 = .ok (.ifCond .eq 7, 3) := by decide +kernel
theorem fx_Dk_kept_101 : decode fb_Dk_kept 101 = .ok (.iconst 1, 1) := by decide +kernel
theorem fx_Dk_kept_102 : decode fb_Dk_kept 102 = .ok (.goto 4, 3) := by decide +kernel
theorem fx_Dk_kept_105 : decode fb_Dk_kept 105 = .ok (.iconst 0, 1) := by decide +kernel
theorem fx_Dk_kept_106 : decode fb_Dk_kept 106 = .ok (.ireturn, 1) := by decide +kernel
theorem fx_Dk_kept_107 : decode fb_Dk_kept 107 = .ok (.aload_n 3, 1) := by decide +kernel
theorem fx_Dk_kept_108 : decode fb_Dk_kept 108 = .ok (.getfield 159, 3) := by decide +kernel
theorem fx_Dk_kept_111 : decode fb_Dk_kept 111 = .ok (.ireturn, 1) := by decide +kernel
theorem fx_Dk_kept_112 : decode fb_Dk_kept 112 = .ok (.aload_n 3, 1) := by decide +kernel
theorem fx_Dk_kept_113 : decode fb_Dk_kept 113 = .ok (.getfield 162, 3) := by decide +kernel
theorem fx_Dk_kept_116 : decode fb_Dk_kept 116 = .ok (.ireturn, 1) := by decide +kernel
theorem fx_Dk_kept_117 : decode fb_Dk_kept 117 = .ok (.aload_n 0, 1) := by decide +kernel
theorem fx_Dk_kept_118 : decode fb_Dk_kept 118 = .ok (.getfield 80, 3) := by decide +kernel
theorem fx_Dk_kept_121 : decode fb_Dk_kept 121 = .ok (.aload_n 3, 1) := by decide +kernel
theorem fx_Dk_kept_122 : decode fb_Dk_kept 122 = .ok (.getfield 165, 3) := by decide +kernel
theorem fx_Dk_kept_125 : decode fb_Dk_kept 125 = .ok (.dcmp .g, 1) := by decide +kernel
theorem fx_Dk_kept_126 : decode fb_Dk_kept 126 = .ok (.ifCond .ge 7, 3) := by decide +kernel
theorem fx_Dk_kept_129 : decode fb_Dk_kept 129 = .ok (.iconst 1, 1) := by decide +kernel
theorem fx_Dk_kept_130 : decode fb_Dk_kept 130 = .ok (.goto 4, 3) := by decide +kernel
theorem fx_Dk_kept_133 : decode fb_Dk_kept 133 = .ok (.iconst 0, 1) := by decide +kernel
theorem fx_Dk_kept_134 : decode fb_Dk_kept 134 = .ok (.ireturn, 1) := by decide +kernel
theorem fx_Dk_left_0 : decode fb_Dk_left 0 = .ok (.aload_n 0, 1) := by decide +kernel
theorem fx_Dk_left_1 : decode fb_Dk_left 1 = .ok (.getfield 19, 3) := by decide +kernel
theorem fx_Dk_left_4 : decode fb_Dk_left 4 = .ok (.iload_n 1, 1) := by decide +kernel
theorem fx_Dk_left_5 : decode fb_Dk_left 5 = .ok (.invokevirtual 142, 3) := by decide +kernel
theorem fx_Dk_left_8 : decode fb_Dk_left 8 = .ok (.ifCond .ne 11, 3) := by decide +kernel
theorem fx_Dk_left_11 : decode fb_Dk_left 11 = .ok (.new 145, 3) := by decide +kernel
theorem fx_Dk_left_14 : decode fb_Dk_left 14 = .ok (.dup, 1) := by decide +kernel
theorem fx_Dk_left_15 : decode fb_Dk_left 15 = .ok (.invokespecial 147, 3) := by decide +kernel
theorem fx_Dk_left_18 : decode fb_Dk_left 18 = .ok (.athrow, 1) := by decide +kernel
theorem fx_Dk_left_19 : decode fb_Dk_left 19 = .ok (.aload_n 0, 1) := by decide +kernel
theorem fx_Dk_left_20 : decode fb_Dk_left 20 = .ok (.getfield 19, 3) := by decide +kernel
theorem fx_Dk_left_23 : decode fb_Dk_left 23 = .ok (.getfield 148, 3) := by decide +kernel
theorem fx_Dk_left_26 : decode fb_Dk_left 26 = .ok (.iload_n 1, 1) := by decide +kernel
theorem fx_Dk_left_27 : decode fb_Dk_left 27 = .ok (.aaload, 1) := by decide +kernel
theorem fx_Dk_left_28 : decode fb_Dk_left 28 = .ok (.getfield 165, 3) := by decide +kernel
theorem fx_Dk_left_31 : decode fb_Dk_left 31 = .ok (.dstore_n 2, 1) := by decide +kernel
theorem fx_Dk_left_32 : decode fb_Dk_left 32 = .ok (.aload_n 0, 1) := by decide +kernel
theorem fx_Dk_left_33 : decode fb_Dk_left 33 = .ok (.getfield 80, 3) := by decide +kernel
theorem fx_Dk_left_36 : decode fb_Dk_left 36 = .ok (.dload_n 2, 1) := by decide +kernel
theorem fx_Dk_left_37 : decode fb_Dk_left 37 = .ok (.dcmp .g, 1) := by decide +kernel
theorem fx_Dk_left_38 : decode fb_Dk_left 38 = .ok (.ifCond .ge 12, 3) := by decide +kernel
theorem fx_Dk_left_41 : decode fb_Dk_left 41 = .ok (.dload_n 2, 1) := by decide +kernel
theorem fx_Dk_left_42 : decode fb_Dk_left 42 = .ok (.aload_n 0, 1) := by decide +kernel
theorem fx_Dk_left_43 : decode fb_Dk_left 43 = .ok (.getfield 80, 3) := by decide +kernel
theorem fx_Dk_left_46 : decode fb_Dk_left 46 = .ok (.dsub, 1) := by decide +kernel
theorem fx_Dk_left_47 : decode fb_Dk_left 47 = .ok (.goto 4, 3) := by decide +kernel
theorem fx_Dk_left_50 : decode fb_Dk_left 50 = .ok (.dconst 0, 1) := by decide +kernel
theorem fx_Dk_left_51 : decode fb_Dk_left 51 = .ok (.dreturn, 1) := by decide +kernel
theorem fx_Dk_count_0 : decode fb_Dk_count 0 = .ok (.iload_n 1, 1) := by decide +kernel
theorem fx_Dk_count_1 : decode fb_Dk_count 1 = .ok (.bipush 10, 2) := by decide +kernel
theorem fx_Dk_count_3 : decode fb_Dk_count 3 = .ok (.isub, 1) := by decide +kernel
theorem fx_Dk_count_4 : decode fb_Dk_count 4 = .ok (.invokestatic 30, 3) := by decide +kernel
theorem fx_Dk_count_7 : decode fb_Dk_count 7 = .ok (.ifCond .eq 16, 3) := by decide +kernel
theorem fx_Dk_count_10 : decode fb_Dk_count 10 = .ok (.aload_n 0, 1) := by decide +kernel
theorem fx_Dk_count_11 : decode fb_Dk_count 11 = .ok (.getfield 11, 3) := by decide +kernel
theorem fx_Dk_count_14 : decode fb_Dk_count 14 = .ok (.iload_n 1, 1) := by decide +kernel
theorem fx_Dk_count_15 : decode fb_Dk_count 15 = .ok (.bipush 10, 2) := by decide +kernel
theorem fx_Dk_count_17 : decode fb_Dk_count 17 = .ok (.isub, 1) := by decide +kernel
theorem fx_Dk_count_18 : decode fb_Dk_count 18 = .ok (.aaload, 1) := by decide +kernel
theorem fx_Dk_count_19 : decode fb_Dk_count 19 = .ok (.getfield 168, 3) := by decide +kernel
theorem fx_Dk_count_22 : decode fb_Dk_count 22 = .ok (.ireturn, 1) := by decide +kernel
theorem fx_Dk_count_23 : decode fb_Dk_count 23 = .ok (.iload_n 1, 1) := by decide +kernel
theorem fx_Dk_count_24 : decode fb_Dk_count 24 = .ok (.bipush 60, 2) := by decide +kernel
theorem fx_Dk_count_26 : decode fb_Dk_count 26 = .ok (.isub, 1) := by decide +kernel
theorem fx_Dk_count_27 : decode fb_Dk_count 27 = .ok (.invokestatic 30, 3) := by decide +kernel
theorem fx_Dk_count_30 : decode fb_Dk_count 30 = .ok (.ifCond .eq 16, 3) := by decide +kernel
theorem fx_Dk_count_33 : decode fb_Dk_count 33 = .ok (.aload_n 0, 1) := by decide +kernel
theorem fx_Dk_count_34 : decode fb_Dk_count 34 = .ok (.getfield 11, 3) := by decide +kernel
theorem fx_Dk_count_37 : decode fb_Dk_count 37 = .ok (.iload_n 1, 1) := by decide +kernel
theorem fx_Dk_count_38 : decode fb_Dk_count 38 = .ok (.bipush 60, 2) := by decide +kernel
theorem fx_Dk_count_40 : decode fb_Dk_count 40 = .ok (.isub, 1) := by decide +kernel
theorem fx_Dk_count_41 : decode fb_Dk_count 41 = .ok (.aaload, 1) := by decide +kernel
theorem fx_Dk_count_42 : decode fb_Dk_count 42 = .ok (.getfield 171, 3) := by decide +kernel
theorem fx_Dk_count_45 : decode fb_Dk_count 45 = .ok (.ireturn, 1) := by decide +kernel
theorem fx_Dk_count_46 : decode fb_Dk_count 46 = .ok (.iload_n 1, 1) := by decide +kernel
theorem fx_Dk_count_47 : decode fb_Dk_count 47 = .ok (.tableswitch 70 0 5 #[37, 42, 47, 52, 57, 62], 37) := by decide +kernel
theorem fx_Dk_count_84 : decode fb_Dk_count 84 = .ok (.aload_n 0, 1) := by decide +kernel
theorem fx_Dk_count_85 : decode fb_Dk_count 85 = .ok (.getfield 100, 3) := by decide +kernel
theorem fx_Dk_count_88 : decode fb_Dk_count 88 = .ok (.ireturn, 1) := by decide +kernel
theorem fx_Dk_count_89 : decode fb_Dk_count 89 = .ok (.aload_n 0, 1) := by decide +kernel
theorem fx_Dk_count_90 : decode fb_Dk_count 90 = .ok (.getfield 109, 3) := by decide +kernel
theorem fx_Dk_count_93 : decode fb_Dk_count 93 = .ok (.ireturn, 1) := by decide +kernel
theorem fx_Dk_count_94 : decode fb_Dk_count 94 = .ok (.aload_n 0, 1) := by decide +kernel
theorem fx_Dk_count_95 : decode fb_Dk_count 95 = .ok (.getfield 174, 3) := by decide +kernel
theorem fx_Dk_count_98 : decode fb_Dk_count 98 = .ok (.ireturn, 1) := by decide +kernel
theorem fx_Dk_count_99 : decode fb_Dk_count 99 = .ok (.aload_n 0, 1) := by decide +kernel
theorem fx_Dk_count_100 : decode fb_Dk_count 100 = .ok (.getfield 175, 3) := by decide +kernel
theorem fx_Dk_count_103 : decode fb_Dk_count 103 = .ok (.ireturn, 1) := by decide +kernel
theorem fx_Dk_count_104 : decode fb_Dk_count 104 = .ok (.aload_n 0, 1) := by decide +kernel
theorem fx_Dk_count_105 : decode fb_Dk_count 105 = .ok (.getfield 178, 3) := by decide +kernel
theorem fx_Dk_count_108 : decode fb_Dk_count 108 = .ok (.ireturn, 1) := by decide +kernel
theorem fx_Dk_count_109 : decode fb_Dk_count 109 = .ok (.aload_n 0, 1) := by decide +kernel
theorem fx_Dk_count_110 : decode fb_Dk_count 110 = .ok (.getfield 19, 3) := by decide +kernel
theorem fx_Dk_count_113 : decode fb_Dk_count 113 = .ok (.getfield 181, 3) := by decide +kernel
theorem fx_Dk_count_116 : decode fb_Dk_count 116 = .ok (.ireturn, 1) := by decide +kernel
theorem fx_Dk_count_117 : decode fb_Dk_count 117 = .ok (.new 34, 3) := by decide +kernel
theorem fx_Dk_count_120 : decode fb_Dk_count 120 = .ok (.dup, 1) := by decide +kernel
theorem fx_Dk_count_121 : decode fb_Dk_count 121 = .ok (.invokespecial 36, 3) := by decide +kernel
theorem fx_Dk_count_124 : decode fb_Dk_count 124 = .ok (.athrow, 1) := by decide +kernel
theorem fx_Dk_goThroughRounds_0 : decode fb_Dk_goThroughRounds 0 = .ok (.iconst 1, 1) := by decide +kernel
theorem fx_Dk_goThroughRounds_1 : decode fb_Dk_goThroughRounds 1 = .ok (.istore_n 1, 1) := by decide +kernel
theorem fx_Dk_goThroughRounds_2 : decode fb_Dk_goThroughRounds 2 = .ok (.iconst 0, 1) := by decide +kernel
theorem fx_Dk_goThroughRounds_3 : decode fb_Dk_goThroughRounds 3 = .ok (.istore_n 2, 1) := by decide +kernel
theorem fx_Dk_goThroughRounds_4 : decode fb_Dk_goThroughRounds 4 = .ok (.iload_n 1, 1) := by decide +kernel
theorem fx_Dk_goThroughRounds_5 : decode fb_Dk_goThroughRounds 5 = .ok (.ifCond .eq 20, 3) := by decide +kernel
theorem fx_Dk_goThroughRounds_8 : decode fb_Dk_goThroughRounds 8 = .ok (.iload_n 2, 1) := by decide +kernel
theorem fx_Dk_goThroughRounds_9 : decode fb_Dk_goThroughRounds 9 = .ok (.iconst 4, 1) := by decide +kernel
theorem fx_Dk_goThroughRounds_10 : decode fb_Dk_goThroughRounds 10 = .ok (.if_icmp .gt 15, 3) := by decide +kernel
theorem fx_Dk_goThroughRounds_13 : decode fb_Dk_goThroughRounds 13 = .ok (.aload_n 0, 1) := by decide +kernel
theorem fx_Dk_goThroughRounds_14 : decode fb_Dk_goThroughRounds 14 = .ok (.iload_n 2, 1) := by decide +kernel
theorem fx_Dk_goThroughRounds_15 : decode fb_Dk_goThroughRounds 15 = .ok (.invokevirtual 184, 3) := by decide +kernel
theorem fx_Dk_goThroughRounds_18 : decode fb_Dk_goThroughRounds 18 = .ok (.istore_n 1, 1) := by decide +kernel
theorem fx_Dk_goThroughRounds_19 : decode fb_Dk_goThroughRounds 19 = .ok (.iinc 2 1, 3) := by decide +kernel
theorem fx_Dk_goThroughRounds_22 : decode fb_Dk_goThroughRounds 22 = .ok (.goto (-18), 3) := by decide +kernel
theorem fx_Dk_goThroughRounds_25 : decode fb_Dk_goThroughRounds 25 = .ok (.return_, 1) := by decide +kernel
theorem fx_Dk_goOneRound_0 : decode fb_Dk_goOneRound 0 = .ok (.aload_n 0, 1) := by decide +kernel
theorem fx_Dk_goOneRound_1 : decode fb_Dk_goOneRound 1 = .ok (.getfield 26, 3) := by decide +kernel
theorem fx_Dk_goOneRound_4 : decode fb_Dk_goOneRound 4 = .ok (.invokevirtual 187, 3) := by decide +kernel
theorem fx_Dk_goOneRound_7 : decode fb_Dk_goOneRound 7 = .ok (.aload_n 0, 1) := by decide +kernel
theorem fx_Dk_goOneRound_8 : decode fb_Dk_goOneRound 8 = .ok (.getfield 11, 3) := by decide +kernel
theorem fx_Dk_goOneRound_11 : decode fb_Dk_goOneRound 11 = .ok (.aload_n 0, 1) := by decide +kernel
theorem fx_Dk_goOneRound_12 : decode fb_Dk_goOneRound 12 = .ok (.getfield 26, 3) := by decide +kernel
theorem fx_Dk_goOneRound_15 : decode fb_Dk_goOneRound 15 = .ok (.getfield 121, 3) := by decide +kernel
theorem fx_Dk_goOneRound_18 : decode fb_Dk_goOneRound 18 = .ok (.aaload, 1) := by decide +kernel
theorem fx_Dk_goOneRound_19 : decode fb_Dk_goOneRound 19 = .ok (.astore_n 2, 1) := by decide +kernel
theorem fx_Dk_goOneRound_20 : decode fb_Dk_goOneRound 20 = .ok (.aload_n 0, 1) := by decide +kernel
theorem fx_Dk_goOneRound_21 : decode fb_Dk_goOneRound 21 = .ok (.getfield 26, 3) := by decide +kernel
theorem fx_Dk_goOneRound_24 : decode fb_Dk_goOneRound 24 = .ok (.aload_n 0, 1) := by decide +kernel
theorem fx_Dk_goOneRound_25 : decode fb_Dk_goOneRound 25 = .ok (.aload_n 2, 1) := by decide +kernel
theorem fx_Dk_goOneRound_26 : decode fb_Dk_goOneRound 26 = .ok (.invokevirtual 190, 3) := by decide +kernel
theorem fx_Dk_goOneRound_29 : decode fb_Dk_goOneRound 29 = .ok (.putfield 106, 3) := by decide +kernel
theorem fx_Dk_goOneRound_32 : decode fb_Dk_goOneRound 32 = .ok (.aload_n 0, 1) := by decide +kernel
theorem fx_Dk_goOneRound_33 : decode fb_Dk_goOneRound 33 = .ok (.getfield 26, 3) := by decide +kernel
theorem fx_Dk_goOneRound_36 : decode fb_Dk_goOneRound 36 = .ok (.getfield 106, 3) := by decide +kernel
theorem fx_Dk_goOneRound_39 : decode fb_Dk_goOneRound 39 = .ok (.ifCond .eq 5, 3) := by decide +kernel
theorem fx_Dk_goOneRound_42 : decode fb_Dk_goOneRound 42 = .ok (.iconst 0, 1) := by decide +kernel
theorem fx_Dk_goOneRound_43 : decode fb_Dk_goOneRound 43 = .ok (.ireturn, 1) := by decide +kernel
theorem fx_Dk_goOneRound_44 : decode fb_Dk_goOneRound 44 = .ok (.aload_n 0, 1) := by decide +kernel
theorem fx_Dk_goOneRound_45 : decode fb_Dk_goOneRound 45 = .ok (.aload_n 2, 1) := by decide +kernel
theorem fx_Dk_goOneRound_46 : decode fb_Dk_goOneRound 46 = .ok (.invokevirtual 194, 3) := by decide +kernel
theorem fx_Dk_goOneRound_49 : decode fb_Dk_goOneRound 49 = .ok (.aload_n 0, 1) := by decide +kernel
theorem fx_Dk_goOneRound_50 : decode fb_Dk_goOneRound 50 = .ok (.getfield 26, 3) := by decide +kernel
theorem fx_Dk_goOneRound_53 : decode fb_Dk_goOneRound 53 = .ok (.invokevirtual 198, 3) := by decide +kernel
theorem fx_Dk_goOneRound_56 : decode fb_Dk_goOneRound 56 = .ok (.ifCond .eq 24, 3) := by decide +kernel
theorem fx_Dk_goOneRound_59 : decode fb_Dk_goOneRound 59 = .ok (.aload_n 0, 1) := by decide +kernel
theorem fx_Dk_goOneRound_60 : decode fb_Dk_goOneRound 60 = .ok (.getfield 26, 3) := by decide +kernel
theorem fx_Dk_goOneRound_63 : decode fb_Dk_goOneRound 63 = .ok (.aload_n 2, 1) := by decide +kernel
theorem fx_Dk_goOneRound_64 : decode fb_Dk_goOneRound 64 = .ok (.invokevirtual 202, 3) := by decide +kernel
theorem fx_Dk_goOneRound_67 : decode fb_Dk_goOneRound 67 = .ok (.ifCond .ne 13, 3) := by decide +kernel
theorem fx_Dk_goOneRound_70 : decode fb_Dk_goOneRound 70 = .ok (.aload_n 0, 1) := by decide +kernel
theorem fx_Dk_goOneRound_71 : decode fb_Dk_goOneRound 71 = .ok (.getfield 26, 3) := by decide +kernel
theorem fx_Dk_goOneRound_74 : decode fb_Dk_goOneRound 74 = .ok (.iconst 3, 1) := by decide +kernel
theorem fx_Dk_goOneRound_75 : decode fb_Dk_goOneRound 75 = .ok (.putfield 106, 3) := by decide +kernel
theorem fx_Dk_goOneRound_78 : decode fb_Dk_goOneRound 78 = .ok (.iconst 0, 1) := by decide +kernel
theorem fx_Dk_goOneRound_79 : decode fb_Dk_goOneRound 79 = .ok (.ireturn, 1) := by decide +kernel
theorem fx_Dk_goOneRound_80 : decode fb_Dk_goOneRound 80 = .ok (.aload_n 2, 1) := by decide +kernel
theorem fx_Dk_goOneRound_81 : decode fb_Dk_goOneRound 81 = .ok (.invokevirtual 206, 3) := by decide +kernel
theorem fx_Dk_goOneRound_84 : decode fb_Dk_goOneRound 84 = .ok (.ifCond .eq 13, 3) := by decide +kernel
theorem fx_Dk_goOneRound_87 : decode fb_Dk_goOneRound 87 = .ok (.aload_n 0, 1) := by decide +kernel
theorem fx_Dk_goOneRound_88 : decode fb_Dk_goOneRound 88 = .ok (.getfield 26, 3) := by decide +kernel
theorem fx_Dk_goOneRound_91 : decode fb_Dk_goOneRound 91 = .ok (.aload_n 2, 1) := by decide +kernel
theorem fx_Dk_goOneRound_92 : decode fb_Dk_goOneRound 92 = .ok (.iload_n 1, 1) := by decide +kernel
theorem fx_Dk_goOneRound_93 : decode fb_Dk_goOneRound 93 = .ok (.invokevirtual 209, 3) := by decide +kernel
theorem fx_Dk_goOneRound_96 : decode fb_Dk_goOneRound 96 = .ok (.ireturn, 1) := by decide +kernel
theorem fx_Dk_goOneRound_97 : decode fb_Dk_goOneRound 97 = .ok (.aload_n 0, 1) := by decide +kernel
theorem fx_Dk_goOneRound_98 : decode fb_Dk_goOneRound 98 = .ok (.getfield 26, 3) := by decide +kernel
theorem fx_Dk_goOneRound_101 : decode fb_Dk_goOneRound 101 = .ok (.aload_n 2, 1) := by decide +kernel
theorem fx_Dk_goOneRound_102 : decode fb_Dk_goOneRound 102 = .ok (.invokevirtual 213, 3) := by decide +kernel
theorem fx_Dk_goOneRound_105 : decode fb_Dk_goOneRound 105 = .ok (.iconst 0, 1) := by decide +kernel
theorem fx_Dk_goOneRound_106 : decode fb_Dk_goOneRound 106 = .ok (.ireturn, 1) := by decide +kernel
theorem fx_Dk_errorBeforeRequesting_0 : decode fb_Dk_errorBeforeRequesting 0 = .ok (.aload_n 0, 1) := by decide +kernel
theorem fx_Dk_errorBeforeRequesting_1 : decode fb_Dk_errorBeforeRequesting 1 = .ok (.getfield 26, 3) := by decide +kernel
theorem fx_Dk_errorBeforeRequesting_4 : decode fb_Dk_errorBeforeRequesting 4 = .ok (.getfield 216, 3) := by decide +kernel
theorem fx_Dk_errorBeforeRequesting_7 : decode fb_Dk_errorBeforeRequesting 7 = .ok (.ifCond .eq 15, 3) := by decide +kernel
theorem fx_Dk_errorBeforeRequesting_10 : decode fb_Dk_errorBeforeRequesting 10 = .ok (.aload_n 0, 1) := by decide +kernel
theorem fx_Dk_errorBeforeRequesting_11 : decode fb_Dk_errorBeforeRequesting 11 = .ok (.getfield 26, 3) := by decide +kernel
theorem fx_Dk_errorBeforeRequesting_14 : decode fb_Dk_errorBeforeRequesting 14 = .ok (.getfield 219, 3) := by decide +kernel
theorem fx_Dk_errorBeforeRequesting_17 : decode fb_Dk_errorBeforeRequesting 17 = .ok (.ifCond .ne 5, 3) := by decide +kernel
theorem fx_Dk_errorBeforeRequesting_20 : decode fb_Dk_errorBeforeRequesting 20 = .ok (.iconst 1, 1) := by decide +kernel
theorem fx_Dk_errorBeforeRequesting_21 : decode fb_Dk_errorBeforeRequesting 21 = .ok (.ireturn, 1) := by decide +kernel
theorem fx_Dk_errorBeforeRequesting_22 : decode fb_Dk_errorBeforeRequesting 22 = .ok (.aload_n 0, 1) := by decide +kernel
theorem fx_Dk_errorBeforeRequesting_23 : decode fb_Dk_errorBeforeRequesting 23 = .ok (.getfield 26, 3) := by decide +kernel
theorem fx_Dk_errorBeforeRequesting_26 : decode fb_Dk_errorBeforeRequesting 26 = .ok (.invokevirtual 198, 3) := by decide +kernel
theorem fx_Dk_errorBeforeRequesting_29 : decode fb_Dk_errorBeforeRequesting 29 = .ok (.ifCond .eq 23, 3) := by decide +kernel
theorem fx_Dk_errorBeforeRequesting_32 : decode fb_Dk_errorBeforeRequesting 32 = .ok (.aload_n 0, 1) := by decide +kernel
theorem fx_Dk_errorBeforeRequesting_33 : decode fb_Dk_errorBeforeRequesting 33 = .ok (.getfield 26, 3) := by decide +kernel
theorem fx_Dk_errorBeforeRequesting_36 : decode fb_Dk_errorBeforeRequesting 36 = .ok (.getfield 127, 3) := by decide +kernel
theorem fx_Dk_errorBeforeRequesting_39 : decode fb_Dk_errorBeforeRequesting 39 = .ok (.aload_n 0, 1) := by decide +kernel
theorem fx_Dk_errorBeforeRequesting_40 : decode fb_Dk_errorBeforeRequesting 40 = .ok (.getfield 26, 3) := by decide +kernel
theorem fx_Dk_errorBeforeRequesting_43 : decode fb_Dk_errorBeforeRequesting 43 = .ok (.getfield 222, 3) := by decide +kernel
theorem fx_Dk_errorBeforeRequesting_46 : decode fb_Dk_errorBeforeRequesting 46 = .ok (.invokestatic 92, 3) := by decide +kernel
theorem fx_Dk_errorBeforeRequesting_49 : decode fb_Dk_errorBeforeRequesting 49 = .ok (.ifCond .eq 5, 3) := by decide +kernel
theorem fx_Dk_errorBeforeRequesting_52 : decode fb_Dk_errorBeforeRequesting 52 = .ok (.iconst 0, 1) := by decide +kernel
theorem fx_Dk_errorBeforeRequesting_53 : decode fb_Dk_errorBeforeRequesting 53 = .ok (.ireturn, 1) := by decide +kernel
theorem fx_Dk_errorBeforeRequesting_54 : decode fb_Dk_errorBeforeRequesting 54 = .ok (.aload_n 0, 1) := by decide +kernel
theorem fx_Dk_errorBeforeRequesting_55 : decode fb_Dk_errorBeforeRequesting 55 = .ok (.getfield 19, 3) := by decide +kernel
theorem fx_Dk_errorBeforeRequesting_58 : decode fb_Dk_errorBeforeRequesting 58 = .ok (.aload_n 0, 1) := by decide +kernel
theorem fx_Dk_errorBeforeRequesting_59 : decode fb_Dk_errorBeforeRequesting 59 = .ok (.getfield 26, 3) := by decide +kernel
theorem fx_Dk_errorBeforeRequesting_62 : decode fb_Dk_errorBeforeRequesting 62 = .ok (.aload_n 0, 1) := by decide +kernel
theorem fx_Dk_errorBeforeRequesting_63 : decode fb_Dk_errorBeforeRequesting 63 = .ok (.getfield 80, 3) := by decide +kernel
theorem fx_Dk_errorBeforeRequesting_66 : decode fb_Dk_errorBeforeRequesting 66 = .ok (.invokevirtual 223, 3) := by decide +kernel
theorem fx_Dk_errorBeforeRequesting_69 : decode fb_Dk_errorBeforeRequesting 69 = .ok (.ifCond .eq 15, 3) := by decide +kernel
theorem fx_Dk_errorBeforeRequesting_72 : decode fb_Dk_errorBeforeRequesting 72 = .ok (.aload_n 0, 1) := by decide +kernel
theorem fx_Dk_errorBeforeRequesting_73 : decode fb_Dk_errorBeforeRequesting 73 = .ok (.dup, 1) := by decide +kernel
theorem fx_Dk_errorBeforeRequesting_74 : decode fb_Dk_errorBeforeRequesting 74 = .ok (.getfield 178, 3) := by decide +kernel
theorem fx_Dk_errorBeforeRequesting_77 : decode fb_Dk_errorBeforeRequesting 77 = .ok (.iconst 1, 1) := by decide +kernel
theorem fx_Dk_errorBeforeRequesting_78 : decode fb_Dk_errorBeforeRequesting 78 = .ok (.iadd, 1) := by decide +kernel
theorem fx_Dk_errorBeforeRequesting_79 : decode fb_Dk_errorBeforeRequesting 79 = .ok (.putfield 178, 3) := by decide +kernel
theorem fx_Dk_errorBeforeRequesting_82 : decode fb_Dk_errorBeforeRequesting 82 = .ok (.iconst 0, 1) := by decide +kernel
theorem fx_Dk_errorBeforeRequesting_83 : decode fb_Dk_errorBeforeRequesting 83 = .ok (.ireturn, 1) := by decide +kernel
theorem fx_Dk_errorBeforeRequesting_84 : decode fb_Dk_errorBeforeRequesting 84 = .ok (.aload_n 0, 1) := by decide +kernel
theorem fx_Dk_errorBeforeRequesting_85 : decode fb_Dk_errorBeforeRequesting 85 = .ok (.aload_n 1, 1) := by decide +kernel
theorem fx_Dk_errorBeforeRequesting_86 : decode fb_Dk_errorBeforeRequesting 86 = .ok (.invokevirtual 227, 3) := by decide +kernel
theorem fx_Dk_errorBeforeRequesting_89 : decode fb_Dk_errorBeforeRequesting 89 = .ok (.ifCond .eq 7, 3) := by decide +kernel
theorem fx_Dk_errorBeforeRequesting_92 : decode fb_Dk_errorBeforeRequesting 92 = .ok (.iconst 0, 1) := by decide +kernel
theorem fx_Dk_errorBeforeRequesting_93 : decode fb_Dk_errorBeforeRequesting 93 = .ok (.goto 4, 3) := by decide +kernel
theorem fx_Dk_errorBeforeRequesting_96 : decode fb_Dk_errorBeforeRequesting 96 = .ok (.iconst 2, 1) := by decide +kernel
theorem fx_Dk_errorBeforeRequesting_97 : decode fb_Dk_errorBeforeRequesting 97 = .ok (.ireturn, 1) := by decide +kernel
theorem fx_Dk_ask_0 : decode fb_Dk_ask 0 = .ok (.aload_n 0, 1) := by decide +kernel
theorem fx_Dk_ask_1 : decode fb_Dk_ask 1 = .ok (.dup, 1) := by decide +kernel
theorem fx_Dk_ask_2 : decode fb_Dk_ask 2 = .ok (.getfield 175, 3) := by decide +kernel
theorem fx_Dk_ask_5 : decode fb_Dk_ask 5 = .ok (.iconst 1, 1) := by decide +kernel
theorem fx_Dk_ask_6 : decode fb_Dk_ask 6 = .ok (.iadd, 1) := by decide +kernel
theorem fx_Dk_ask_7 : decode fb_Dk_ask 7 = .ok (.putfield 175, 3) := by decide +kernel
theorem fx_Dk_ask_10 : decode fb_Dk_ask 10 = .ok (.aload_n 0, 1) := by decide +kernel
theorem fx_Dk_ask_11 : decode fb_Dk_ask 11 = .ok (.getfield 19, 3) := by decide +kernel
theorem fx_Dk_ask_14 : decode fb_Dk_ask 14 = .ok (.aload_n 0, 1) := by decide +kernel
theorem fx_Dk_ask_15 : decode fb_Dk_ask 15 = .ok (.getfield 26, 3) := by decide +kernel
theorem fx_Dk_ask_18 : decode fb_Dk_ask 18 = .ok (.invokevirtual 230, 3) := by decide +kernel
theorem fx_Dk_ask_21 : decode fb_Dk_ask 21 = .ok (.aload_n 1, 1) := by decide +kernel
theorem fx_Dk_ask_22 : decode fb_Dk_ask 22 = .ok (.getfield 65, 3) := by decide +kernel
theorem fx_Dk_ask_25 : decode fb_Dk_ask 25 = .ok (.ifCond .eq 18, 3) := by decide +kernel
theorem fx_Dk_ask_28 : decode fb_Dk_ask 28 = .ok (.aload_n 0, 1) := by decide +kernel
theorem fx_Dk_ask_29 : decode fb_Dk_ask 29 = .ok (.getfield 26, 3) := by decide +kernel
theorem fx_Dk_ask_32 : decode fb_Dk_ask 32 = .ok (.aload_n 1, 1) := by decide +kernel
theorem fx_Dk_ask_33 : decode fb_Dk_ask 33 = .ok (.invokevirtual 202, 3) := by decide +kernel
theorem fx_Dk_ask_36 : decode fb_Dk_ask 36 = .ok (.ifCond .eq 7, 3) := by decide +kernel
theorem fx_Dk_ask_39 : decode fb_Dk_ask 39 = .ok (.iconst 1, 1) := by decide +kernel
theorem fx_Dk_ask_40 : decode fb_Dk_ask 40 = .ok (.goto 4, 3) := by decide +kernel
theorem fx_Dk_ask_43 : decode fb_Dk_ask 43 = .ok (.iconst 0, 1) := by decide +kernel
theorem fx_Dk_ask_44 : decode fb_Dk_ask 44 = .ok (.istore_n 2, 1) := by decide +kernel
theorem fx_Dk_ask_45 : decode fb_Dk_ask 45 = .ok (.iload_n 2, 1) := by decide +kernel
theorem fx_Dk_ask_46 : decode fb_Dk_ask 46 = .ok (.ifCond .eq 21, 3) := by decide +kernel
theorem fx_Dk_ask_49 : decode fb_Dk_ask 49 = .ok (.aload_n 1, 1) := by decide +kernel
theorem fx_Dk_ask_50 : decode fb_Dk_ask 50 = .ok (.getfield 68, 3) := by decide +kernel
theorem fx_Dk_ask_53 : decode fb_Dk_ask 53 = .ok (.aload_n 1, 1) := by decide +kernel
theorem fx_Dk_ask_54 : decode fb_Dk_ask 54 = .ok (.getfield 71, 3) := by decide +kernel
theorem fx_Dk_ask_57 : decode fb_Dk_ask 57 = .ok (.aload_n 0, 1) := by decide +kernel
theorem fx_Dk_ask_58 : decode fb_Dk_ask 58 = .ok (.getfield 26, 3) := by decide +kernel
theorem fx_Dk_ask_61 : decode fb_Dk_ask 61 = .ok (.invokestatic 234, 3) := by decide +kernel
theorem fx_Dk_ask_64 : decode fb_Dk_ask 64 = .ok (.ifCond .ne 5, 3) := by decide +kernel
theorem fx_Dk_ask_67 : decode fb_Dk_ask 67 = .ok (.iconst 0, 1) := by decide +kernel
theorem fx_Dk_ask_68 : decode fb_Dk_ask 68 = .ok (.ireturn, 1) := by decide +kernel
theorem fx_Dk_ask_69 : decode fb_Dk_ask 69 = .ok (.aload_n 1, 1) := by decide +kernel
theorem fx_Dk_ask_70 : decode fb_Dk_ask 70 = .ok (.getfield 74, 3) := by decide +kernel
theorem fx_Dk_ask_73 : decode fb_Dk_ask 73 = .ok (.dconst 0, 1) := by decide +kernel
theorem fx_Dk_ask_74 : decode fb_Dk_ask 74 = .ok (.dcmp .l, 1) := by decide +kernel
theorem fx_Dk_ask_75 : decode fb_Dk_ask 75 = .ok (.ifCond .le 31, 3) := by decide +kernel
theorem fx_Dk_ask_78 : decode fb_Dk_ask 78 = .ok (.aload_n 0, 1) := by decide +kernel
theorem fx_Dk_ask_79 : decode fb_Dk_ask 79 = .ok (.getfield 26, 3) := by decide +kernel
theorem fx_Dk_ask_82 : decode fb_Dk_ask 82 = .ok (.getfield 124, 3) := by decide +kernel
theorem fx_Dk_ask_85 : decode fb_Dk_ask 85 = .ok (.bipush 6, 2) := by decide +kernel
theorem fx_Dk_ask_87 : decode fb_Dk_ask 87 = .ok (.if_icmp .eq 19, 3) := by decide +kernel
theorem fx_Dk_ask_90 : decode fb_Dk_ask 90 = .ok (.aload_n 0, 1) := by decide +kernel
theorem fx_Dk_ask_91 : decode fb_Dk_ask 91 = .ok (.getfield 19, 3) := by decide +kernel
theorem fx_Dk_ask_94 : decode fb_Dk_ask 94 = .ok (.aload_n 0, 1) := by decide +kernel
theorem fx_Dk_ask_95 : decode fb_Dk_ask 95 = .ok (.getfield 26, 3) := by decide +kernel
theorem fx_Dk_ask_98 : decode fb_Dk_ask 98 = .ok (.aload_n 1, 1) := by decide +kernel
theorem fx_Dk_ask_99 : decode fb_Dk_ask 99 = .ok (.aload_n 0, 1) := by decide +kernel
theorem fx_Dk_ask_100 : decode fb_Dk_ask 100 = .ok (.getfield 80, 3) := by decide +kernel
theorem fx_Dk_ask_103 : decode fb_Dk_ask 103 = .ok (.invokevirtual 238, 3) := by decide +kernel
theorem fx_Dk_ask_106 : decode fb_Dk_ask 106 = .ok (.iconst 1, 1) := by decide +kernel
theorem fx_Dk_ask_107 : decode fb_Dk_ask 107 = .ok (.ireturn, 1) := by decide +kernel
theorem fx_Dk_countRequested_0 : decode fb_Dk_countRequested 0 = .ok (.aload_n 0, 1) := by decide +kernel
theorem fx_Dk_countRequested_1 : decode fb_Dk_countRequested 1 = .ok (.dup, 1) := by decide +kernel
theorem fx_Dk_countRequested_2 : decode fb_Dk_countRequested 2 = .ok (.getfield 174, 3) := by decide +kernel
theorem fx_Dk_countRequested_5 : decode fb_Dk_countRequested 5 = .ok (.iconst 1, 1) := by decide +kernel
theorem fx_Dk_countRequested_6 : decode fb_Dk_countRequested 6 = .ok (.iadd, 1) := by decide +kernel
theorem fx_Dk_countRequested_7 : decode fb_Dk_countRequested 7 = .ok (.putfield 174, 3) := by decide +kernel
theorem fx_Dk_countRequested_10 : decode fb_Dk_countRequested 10 = .ok (.aload_n 1, 1) := by decide +kernel
theorem fx_Dk_countRequested_11 : decode fb_Dk_countRequested 11 = .ok (.dup, 1) := by decide +kernel
theorem fx_Dk_countRequested_12 : decode fb_Dk_countRequested 12 = .ok (.getfield 168, 3) := by decide +kernel
theorem fx_Dk_countRequested_15 : decode fb_Dk_countRequested 15 = .ok (.iconst 1, 1) := by decide +kernel
theorem fx_Dk_countRequested_16 : decode fb_Dk_countRequested 16 = .ok (.iadd, 1) := by decide +kernel
theorem fx_Dk_countRequested_17 : decode fb_Dk_countRequested 17 = .ok (.putfield 168, 3) := by decide +kernel
theorem fx_Dk_countRequested_20 : decode fb_Dk_countRequested 20 = .ok (.aload_n 0, 1) := by decide +kernel
theorem fx_Dk_countRequested_21 : decode fb_Dk_countRequested 21 = .ok (.getfield 26, 3) := by decide +kernel
theorem fx_Dk_countRequested_24 : decode fb_Dk_countRequested 24 = .ok (.getfield 130, 3) := by decide +kernel
theorem fx_Dk_countRequested_27 : decode fb_Dk_countRequested 27 = .ok (.ifCond .eq 13, 3) := by decide +kernel
theorem fx_Dk_countRequested_30 : decode fb_Dk_countRequested 30 = .ok (.aload_n 1, 1) := by decide +kernel
theorem fx_Dk_countRequested_31 : decode fb_Dk_countRequested 31 = .ok (.dup, 1) := by decide +kernel
theorem fx_Dk_countRequested_32 : decode fb_Dk_countRequested 32 = .ok (.getfield 171, 3) := by decide +kernel
theorem fx_Dk_countRequested_35 : decode fb_Dk_countRequested 35 = .ok (.iconst 1, 1) := by decide +kernel
theorem fx_Dk_countRequested_36 : decode fb_Dk_countRequested 36 = .ok (.iadd, 1) := by decide +kernel
theorem fx_Dk_countRequested_37 : decode fb_Dk_countRequested 37 = .ok (.putfield 171, 3) := by decide +kernel
theorem fx_Dk_countRequested_40 : decode fb_Dk_countRequested 40 = .ok (.return_, 1) := by decide +kernel
theorem fx_Dk_isOrigin_0 : decode fb_Dk_isOrigin 0 = .ok (.iload_n 0, 1) := by decide +kernel
theorem fx_Dk_isOrigin_1 : decode fb_Dk_isOrigin 1 = .ok (.ifCond .lt 13, 3) := by decide +kernel
theorem fx_Dk_isOrigin_4 : decode fb_Dk_isOrigin 4 = .ok (.iload_n 0, 1) := by decide +kernel
theorem fx_Dk_isOrigin_5 : decode fb_Dk_isOrigin 5 = .ok (.bipush 6, 2) := by decide +kernel
theorem fx_Dk_isOrigin_7 : decode fb_Dk_isOrigin 7 = .ok (.if_icmp .ge 7, 3) := by decide +kernel
theorem fx_Dk_isOrigin_10 : decode fb_Dk_isOrigin 10 = .ok (.iconst 1, 1) := by decide +kernel
theorem fx_Dk_isOrigin_11 : decode fb_Dk_isOrigin 11 = .ok (.goto 4, 3) := by decide +kernel
theorem fx_Dk_isOrigin_14 : decode fb_Dk_isOrigin 14 = .ok (.iconst 0, 1) := by decide +kernel
theorem fx_Dk_isOrigin_15 : decode fb_Dk_isOrigin 15 = .ok (.ireturn, 1) := by decide +kernel
theorem fx_Dk_isUrl_0 : decode fb_Dk_isUrl 0 = .ok (.iload_n 0, 1) := by decide +kernel
theorem fx_Dk_isUrl_1 : decode fb_Dk_isUrl 1 = .ok (.ifCond .lt 13, 3) := by decide +kernel
theorem fx_Dk_isUrl_4 : decode fb_Dk_isUrl 4 = .ok (.iload_n 0, 1) := by decide +kernel
theorem fx_Dk_isUrl_5 : decode fb_Dk_isUrl 5 = .ok (.bipush 48, 2) := by decide +kernel
theorem fx_Dk_isUrl_7 : decode fb_Dk_isUrl 7 = .ok (.if_icmp .ge 7, 3) := by decide +kernel
theorem fx_Dk_isUrl_10 : decode fb_Dk_isUrl 10 = .ok (.iconst 1, 1) := by decide +kernel
theorem fx_Dk_isUrl_11 : decode fb_Dk_isUrl 11 = .ok (.goto 4, 3) := by decide +kernel
theorem fx_Dk_isUrl_14 : decode fb_Dk_isUrl 14 = .ok (.iconst 0, 1) := by decide +kernel
theorem fx_Dk_isUrl_15 : decode fb_Dk_isUrl 15 = .ok (.ireturn, 1) := by decide +kernel
theorem fx_Dk_isMethod_0 : decode fb_Dk_isMethod 0 = .ok (.iload_n 0, 1) := by decide +kernel
theorem fx_Dk_isMethod_1 : decode fb_Dk_isMethod 1 = .ok (.ifCond .lt 12, 3) := by decide +kernel
theorem fx_Dk_isMethod_4 : decode fb_Dk_isMethod 4 = .ok (.iload_n 0, 1) := by decide +kernel
theorem fx_Dk_isMethod_5 : decode fb_Dk_isMethod 5 = .ok (.iconst 4, 1) := by decide +kernel
theorem fx_Dk_isMethod_6 : decode fb_Dk_isMethod 6 = .ok (.if_icmp .ge 7, 3) := by decide +kernel
theorem fx_Dk_isMethod_9 : decode fb_Dk_isMethod 9 = .ok (.iconst 1, 1) := by decide +kernel
theorem fx_Dk_isMethod_10 : decode fb_Dk_isMethod 10 = .ok (.goto 4, 3) := by decide +kernel
theorem fx_Dk_isMethod_13 : decode fb_Dk_isMethod 13 = .ok (.iconst 0, 1) := by decide +kernel
theorem fx_Dk_isMethod_14 : decode fb_Dk_isMethod 14 = .ok (.ireturn, 1) := by decide +kernel
theorem fx_Dk_isFourBits_0 : decode fb_Dk_isFourBits 0 = .ok (.iload_n 0, 1) := by decide +kernel
theorem fx_Dk_isFourBits_1 : decode fb_Dk_isFourBits 1 = .ok (.ifCond .lt 13, 3) := by decide +kernel
theorem fx_Dk_isFourBits_4 : decode fb_Dk_isFourBits 4 = .ok (.iload_n 0, 1) := by decide +kernel
theorem fx_Dk_isFourBits_5 : decode fb_Dk_isFourBits 5 = .ok (.bipush 15, 2) := by decide +kernel
theorem fx_Dk_isFourBits_7 : decode fb_Dk_isFourBits 7 = .ok (.if_icmp .gt 7, 3) := by decide +kernel
theorem fx_Dk_isFourBits_10 : decode fb_Dk_isFourBits 10 = .ok (.iconst 1, 1) := by decide +kernel
theorem fx_Dk_isFourBits_11 : decode fb_Dk_isFourBits 11 = .ok (.goto 4, 3) := by decide +kernel
theorem fx_Dk_isFourBits_14 : decode fb_Dk_isFourBits 14 = .ok (.iconst 0, 1) := by decide +kernel
theorem fx_Dk_isFourBits_15 : decode fb_Dk_isFourBits 15 = .ok (.ireturn, 1) := by decide +kernel
theorem fx_Dk_isChoice_0 : decode fb_Dk_isChoice 0 = .ok (.iload_n 0, 1) := by decide +kernel
theorem fx_Dk_isChoice_1 : decode fb_Dk_isChoice 1 = .ok (.ifCond .lt 12, 3) := by decide +kernel
theorem fx_Dk_isChoice_4 : decode fb_Dk_isChoice 4 = .ok (.iload_n 0, 1) := by decide +kernel
theorem fx_Dk_isChoice_5 : decode fb_Dk_isChoice 5 = .ok (.iconst 3, 1) := by decide +kernel
theorem fx_Dk_isChoice_6 : decode fb_Dk_isChoice 6 = .ok (.if_icmp .ge 7, 3) := by decide +kernel
theorem fx_Dk_isChoice_9 : decode fb_Dk_isChoice 9 = .ok (.iconst 1, 1) := by decide +kernel
theorem fx_Dk_isChoice_10 : decode fb_Dk_isChoice 10 = .ok (.goto 4, 3) := by decide +kernel
theorem fx_Dk_isChoice_13 : decode fb_Dk_isChoice 13 = .ok (.iconst 0, 1) := by decide +kernel
theorem fx_Dk_isChoice_14 : decode fb_Dk_isChoice 14 = .ok (.ireturn, 1) := by decide +kernel
theorem fx_Dk_isSimple_0 : decode fb_Dk_isSimple 0 = .ok (.iload_n 0, 1) := by decide +kernel
theorem fx_Dk_isSimple_1 : decode fb_Dk_isSimple 1 = .ok (.ifCond .eq 8, 3) := by decide +kernel
theorem fx_Dk_isSimple_4 : decode fb_Dk_isSimple 4 = .ok (.iload_n 0, 1) := by decide +kernel
theorem fx_Dk_isSimple_5 : decode fb_Dk_isSimple 5 = .ok (.iconst 1, 1) := by decide +kernel
theorem fx_Dk_isSimple_6 : decode fb_Dk_isSimple 6 = .ok (.if_icmp .ne 7, 3) := by decide +kernel
theorem fx_Dk_isSimple_9 : decode fb_Dk_isSimple 9 = .ok (.iconst 1, 1) := by decide +kernel
theorem fx_Dk_isSimple_10 : decode fb_Dk_isSimple 10 = .ok (.goto 4, 3) := by decide +kernel
theorem fx_Dk_isSimple_13 : decode fb_Dk_isSimple 13 = .ok (.iconst 0, 1) := by decide +kernel
theorem fx_Dk_isSimple_14 : decode fb_Dk_isSimple 14 = .ok (.ireturn, 1) := by decide +kernel
theorem fx_Dk_isPlain_0 : decode fb_Dk_isPlain 0 = .ok (.iload_n 0, 1) := by decide +kernel
theorem fx_Dk_isPlain_1 : decode fb_Dk_isPlain 1 = .ok (.invokestatic 242, 3) := by decide +kernel
theorem fx_Dk_isPlain_4 : decode fb_Dk_isPlain 4 = .ok (.ifCond .eq 11, 3) := by decide +kernel
theorem fx_Dk_isPlain_7 : decode fb_Dk_isPlain 7 = .ok (.iload_n 1, 1) := by decide +kernel
theorem fx_Dk_isPlain_8 : decode fb_Dk_isPlain 8 = .ok (.ifCond .ne 7, 3) := by decide +kernel
theorem fx_Dk_isPlain_11 : decode fb_Dk_isPlain 11 = .ok (.iconst 1, 1) := by decide +kernel
theorem fx_Dk_isPlain_12 : decode fb_Dk_isPlain 12 = .ok (.goto 4, 3) := by decide +kernel
theorem fx_Dk_isPlain_15 : decode fb_Dk_isPlain 15 = .ok (.iconst 0, 1) := by decide +kernel
theorem fx_Dk_isPlain_16 : decode fb_Dk_isPlain 16 = .ok (.ireturn, 1) := by decide +kernel
theorem fx_Dk_lets_0 : decode fb_Dk_lets 0 = .ok (.aload_n 2, 1) := by decide +kernel
theorem fx_Dk_lets_1 : decode fb_Dk_lets 1 = .ok (.getfield 127, 3) := by decide +kernel
theorem fx_Dk_lets_4 : decode fb_Dk_lets 4 = .ok (.invokestatic 242, 3) := by decide +kernel
theorem fx_Dk_lets_7 : decode fb_Dk_lets 7 = .ok (.ifCond .ne 14, 3) := by decide +kernel
theorem fx_Dk_lets_10 : decode fb_Dk_lets 10 = .ok (.iload_n 0, 1) := by decide +kernel
theorem fx_Dk_lets_11 : decode fb_Dk_lets 11 = .ok (.iconst 1, 1) := by decide +kernel
theorem fx_Dk_lets_12 : decode fb_Dk_lets 12 = .ok (.aload_n 2, 1) := by decide +kernel
theorem fx_Dk_lets_13 : decode fb_Dk_lets 13 = .ok (.getfield 127, 3) := by decide +kernel
theorem fx_Dk_lets_16 : decode fb_Dk_lets 16 = .ok (.ishl, 1) := by decide +kernel
theorem fx_Dk_lets_17 : decode fb_Dk_lets 17 = .ok (.iand, 1) := by decide +kernel
theorem fx_Dk_lets_18 : decode fb_Dk_lets 18 = .ok (.ifCond .eq 7, 3) := by decide +kernel
theorem fx_Dk_lets_21 : decode fb_Dk_lets 21 = .ok (.iconst 1, 1) := by decide +kernel
theorem fx_Dk_lets_22 : decode fb_Dk_lets 22 = .ok (.goto 4, 3) := by decide +kernel
theorem fx_Dk_lets_25 : decode fb_Dk_lets 25 = .ok (.iconst 0, 1) := by decide +kernel
theorem fx_Dk_lets_26 : decode fb_Dk_lets 26 = .ok (.istore_n 3, 1) := by decide +kernel
theorem fx_Dk_lets_27 : decode fb_Dk_lets 27 = .ok (.aload_n 2, 1) := by decide +kernel
theorem fx_Dk_lets_28 : decode fb_Dk_lets 28 = .ok (.getfield 222, 3) := by decide +kernel
theorem fx_Dk_lets_31 : decode fb_Dk_lets 31 = .ok (.iload_n 1, 1) := by decide +kernel
theorem fx_Dk_lets_32 : decode fb_Dk_lets 32 = .ok (.iconst (-1), 1) := by decide +kernel
theorem fx_Dk_lets_33 : decode fb_Dk_lets 33 = .ok (.ixor, 1) := by decide +kernel
theorem fx_Dk_lets_34 : decode fb_Dk_lets 34 = .ok (.iand, 1) := by decide +kernel
theorem fx_Dk_lets_35 : decode fb_Dk_lets 35 = .ok (.ifCond .ne 7, 3) := by decide +kernel
theorem fx_Dk_lets_38 : decode fb_Dk_lets 38 = .ok (.iconst 1, 1) := by decide +kernel
theorem fx_Dk_lets_39 : decode fb_Dk_lets 39 = .ok (.goto 4, 3) := by decide +kernel
theorem fx_Dk_lets_42 : decode fb_Dk_lets 42 = .ok (.iconst 0, 1) := by decide +kernel
theorem fx_Dk_lets_43 : decode fb_Dk_lets 43 = .ok (.istore 4, 2) := by decide +kernel
theorem fx_Dk_lets_45 : decode fb_Dk_lets 45 = .ok (.iload_n 3, 1) := by decide +kernel
theorem fx_Dk_lets_46 : decode fb_Dk_lets 46 = .ok (.ifCond .eq 12, 3) := by decide +kernel
theorem fx_Dk_lets_49 : decode fb_Dk_lets 49 = .ok (.iload 4, 2) := by decide +kernel
theorem fx_Dk_lets_51 : decode fb_Dk_lets 51 = .ok (.ifCond .eq 7, 3) := by decide +kernel
theorem fx_Dk_lets_54 : decode fb_Dk_lets 54 = .ok (.iconst 1, 1) := by decide +kernel
theorem fx_Dk_lets_55 : decode fb_Dk_lets 55 = .ok (.goto 4, 3) := by decide +kernel
theorem fx_Dk_lets_58 : decode fb_Dk_lets 58 = .ok (.iconst 0, 1) := by decide +kernel
theorem fx_Dk_lets_59 : decode fb_Dk_lets 59 = .ok (.ireturn, 1) := by decide +kernel
theorem fx_Dk_originOf_0 : decode fb_Dk_originOf 0 = .ok (.iload_n 0, 1) := by decide +kernel
theorem fx_Dk_originOf_1 : decode fb_Dk_originOf 1 = .ok (.bipush 8, 2) := by decide +kernel
theorem fx_Dk_originOf_3 : decode fb_Dk_originOf 3 = .ok (.idiv, 1) := by decide +kernel
theorem fx_Dk_originOf_4 : decode fb_Dk_originOf 4 = .ok (.ireturn, 1) := by decide +kernel
theorem fx_Mm_init_0 : decode fb_Mm_init 0 = .ok (.aload_n 0, 1) := by decide +kernel
theorem fx_Mm_init_1 : decode fb_Mm_init 1 = .ok (.invokespecial 3, 3) := by decide +kernel
theorem fx_Mm_init_4 : decode fb_Mm_init 4 = .ok (.aload_n 0, 1) := by decide +kernel
theorem fx_Mm_init_5 : decode fb_Mm_init 5 = .ok (.bipush 6, 2) := by decide +kernel
theorem fx_Mm_init_7 : decode fb_Mm_init 7 = .ok (.anewarray 9, 3) := by decide +kernel
theorem fx_Mm_init_10 : decode fb_Mm_init 10 = .ok (.putfield 11, 3) := by decide +kernel
theorem fx_Mm_init_13 : decode fb_Mm_init 13 = .ok (.iconst 0, 1) := by decide +kernel
theorem fx_Mm_init_14 : decode fb_Mm_init 14 = .ok (.istore_n 1, 1) := by decide +kernel
theorem fx_Mm_init_15 : decode fb_Mm_init 15 = .ok (.iload_n 1, 1) := by decide +kernel
theorem fx_Mm_init_16 : decode fb_Mm_init 16 = .ok (.bipush 6, 2) := by decide +kernel
theorem fx_Mm_init_18 : decode fb_Mm_init 18 = .ok (.if_icmp .ge 22, 3) := by decide +kernel
theorem fx_Mm_init_21 : decode fb_Mm_init 21 = .ok (.aload_n 0, 1) := by decide +kernel
theorem fx_Mm_init_22 : decode fb_Mm_init 22 = .ok (.getfield 11, 3) := by decide +kernel
theorem fx_Mm_init_25 : decode fb_Mm_init 25 = .ok (.iload_n 1, 1) := by decide +kernel
theorem fx_Mm_init_26 : decode fb_Mm_init 26 = .ok (.new 9, 3) := by decide +kernel
theorem fx_Mm_init_29 : decode fb_Mm_init 29 = .ok (.dup, 1) := by decide +kernel
theorem fx_Mm_init_30 : decode fb_Mm_init 30 = .ok (.invokespecial 17, 3) := by decide +kernel
theorem fx_Mm_init_33 : decode fb_Mm_init 33 = .ok (.aastore, 1) := by decide +kernel
theorem fx_Mm_init_34 : decode fb_Mm_init 34 = .ok (.iinc 1 1, 3) := by decide +kernel
theorem fx_Mm_init_37 : decode fb_Mm_init 37 = .ok (.goto (-22), 3) := by decide +kernel
theorem fx_Mm_init_40 : decode fb_Mm_init 40 = .ok (.return_, 1) := by decide +kernel
theorem fx_Mm_holds_0 : decode fb_Mm_holds 0 = .ok (.iload_n 1, 1) := by decide +kernel
theorem fx_Mm_holds_1 : decode fb_Mm_holds 1 = .ok (.ifCond .lt 15, 3) := by decide +kernel
theorem fx_Mm_holds_4 : decode fb_Mm_holds 4 = .ok (.iload_n 1, 1) := by decide +kernel
theorem fx_Mm_holds_5 : decode fb_Mm_holds 5 = .ok (.aload_n 0, 1) := by decide +kernel
theorem fx_Mm_holds_6 : decode fb_Mm_holds 6 = .ok (.getfield 18, 3) := by decide +kernel
theorem fx_Mm_holds_9 : decode fb_Mm_holds 9 = .ok (.if_icmp .ge 7, 3) := by decide +kernel
theorem fx_Mm_holds_12 : decode fb_Mm_holds 12 = .ok (.iconst 1, 1) := by decide +kernel
theorem fx_Mm_holds_13 : decode fb_Mm_holds 13 = .ok (.goto 4, 3) := by decide +kernel
theorem fx_Mm_holds_16 : decode fb_Mm_holds 16 = .ok (.iconst 0, 1) := by decide +kernel
theorem fx_Mm_holds_17 : decode fb_Mm_holds 17 = .ok (.ireturn, 1) := by decide +kernel
theorem fx_Mm_find_0 : decode fb_Mm_find 0 = .ok (.iconst 0, 1) := by decide +kernel
theorem fx_Mm_find_1 : decode fb_Mm_find 1 = .ok (.istore_n 2, 1) := by decide +kernel
theorem fx_Mm_find_2 : decode fb_Mm_find 2 = .ok (.iload_n 2, 1) := by decide +kernel
theorem fx_Mm_find_3 : decode fb_Mm_find 3 = .ok (.aload_n 0, 1) := by decide +kernel
theorem fx_Mm_find_4 : decode fb_Mm_find 4 = .ok (.getfield 18, 3) := by decide +kernel
theorem fx_Mm_find_7 : decode fb_Mm_find 7 = .ok (.if_icmp .ge 51, 3) := by decide +kernel
theorem fx_Mm_find_10 : decode fb_Mm_find 10 = .ok (.aload_n 0, 1) := by decide +kernel
theorem fx_Mm_find_11 : decode fb_Mm_find 11 = .ok (.getfield 11, 3) := by decide +kernel
theorem fx_Mm_find_14 : decode fb_Mm_find 14 = .ok (.iload_n 2, 1) := by decide +kernel
theorem fx_Mm_find_15 : decode fb_Mm_find 15 = .ok (.aaload, 1) := by decide +kernel
theorem fx_Mm_find_16 : decode fb_Mm_find 16 = .ok (.astore_n 3, 1) := by decide +kernel
theorem fx_Mm_find_17 : decode fb_Mm_find 17 = .ok (.aload_n 3, 1) := by decide +kernel
theorem fx_Mm_find_18 : decode fb_Mm_find 18 = .ok (.getfield 22, 3) := by decide +kernel
theorem fx_Mm_find_21 : decode fb_Mm_find 21 = .ok (.aload_n 1, 1) := by decide +kernel
theorem fx_Mm_find_22 : decode fb_Mm_find 22 = .ok (.getfield 25, 3) := by decide +kernel
theorem fx_Mm_find_25 : decode fb_Mm_find 25 = .ok (.if_icmp .ne 27, 3) := by decide +kernel
theorem fx_Mm_find_28 : decode fb_Mm_find 28 = .ok (.aload_n 3, 1) := by decide +kernel
theorem fx_Mm_find_29 : decode fb_Mm_find 29 = .ok (.getfield 28, 3) := by decide +kernel
theorem fx_Mm_find_32 : decode fb_Mm_find 32 = .ok (.aload_n 1, 1) := by decide +kernel
theorem fx_Mm_find_33 : decode fb_Mm_find 33 = .ok (.getfield 31, 3) := by decide +kernel
theorem fx_Mm_find_36 : decode fb_Mm_find 36 = .ok (.if_icmp .ne 16, 3) := by decide +kernel
theorem fx_Mm_find_39 : decode fb_Mm_find 39 = .ok (.aload_n 3, 1) := by decide +kernel
theorem fx_Mm_find_40 : decode fb_Mm_find 40 = .ok (.getfield 32, 3) := by decide +kernel
theorem fx_Mm_find_43 : decode fb_Mm_find 43 = .ok (.aload_n 1, 1) := by decide +kernel
theorem fx_Mm_find_44 : decode fb_Mm_find 44 = .ok (.getfield 36, 3) := by decide +kernel
theorem fx_Mm_find_47 : decode fb_Mm_find 47 = .ok (.if_icmp .ne 5, 3) := by decide +kernel
theorem fx_Mm_find_50 : decode fb_Mm_find 50 = .ok (.iload_n 2, 1) := by decide +kernel
theorem fx_Mm_find_51 : decode fb_Mm_find 51 = .ok (.ireturn, 1) := by decide +kernel
theorem fx_Mm_find_52 : decode fb_Mm_find 52 = .ok (.iinc 2 1, 3) := by decide +kernel
theorem fx_Mm_find_55 : decode fb_Mm_find 55 = .ok (.goto (-53), 3) := by decide +kernel
theorem fx_Mm_find_58 : decode fb_Mm_find 58 = .ok (.iconst (-1), 1) := by decide +kernel
theorem fx_Mm_find_59 : decode fb_Mm_find 59 = .ok (.ireturn, 1) := by decide +kernel
theorem fx_Mm_covers_0 : decode fb_Mm_covers 0 = .ok (.aload_n 0, 1) := by decide +kernel
theorem fx_Mm_covers_1 : decode fb_Mm_covers 1 = .ok (.aload_n 1, 1) := by decide +kernel
theorem fx_Mm_covers_2 : decode fb_Mm_covers 2 = .ok (.invokevirtual 39, 3) := by decide +kernel
theorem fx_Mm_covers_5 : decode fb_Mm_covers 5 = .ok (.istore 4, 2) := by decide +kernel
theorem fx_Mm_covers_7 : decode fb_Mm_covers 7 = .ok (.iload 4, 2) := by decide +kernel
theorem fx_Mm_covers_9 : decode fb_Mm_covers 9 = .ok (.iconst (-1), 1) := by decide +kernel
theorem fx_Mm_covers_10 : decode fb_Mm_covers 10 = .ok (.if_icmp .ne 5, 3) := by decide +kernel
theorem fx_Mm_covers_13 : decode fb_Mm_covers 13 = .ok (.iconst 0, 1) := by decide +kernel
theorem fx_Mm_covers_14 : decode fb_Mm_covers 14 = .ok (.ireturn, 1) := by decide +kernel
theorem fx_Mm_covers_15 : decode fb_Mm_covers 15 = .ok (.aload_n 0, 1) := by decide +kernel
theorem fx_Mm_covers_16 : decode fb_Mm_covers 16 = .ok (.getfield 11, 3) := by decide +kernel
theorem fx_Mm_covers_19 : decode fb_Mm_covers 19 = .ok (.iload 4, 2) := by decide +kernel
theorem fx_Mm_covers_21 : decode fb_Mm_covers 21 = .ok (.aaload, 1) := by decide +kernel
theorem fx_Mm_covers_22 : decode fb_Mm_covers 22 = .ok (.astore 5, 2) := by decide +kernel
theorem fx_Mm_covers_24 : decode fb_Mm_covers 24 = .ok (.dload_n 2, 1) := by decide +kernel
theorem fx_Mm_covers_25 : decode fb_Mm_covers 25 = .ok (.aload 5, 2) := by decide +kernel
theorem fx_Mm_covers_27 : decode fb_Mm_covers 27 = .ok (.getfield 43, 3) := by decide +kernel
theorem fx_Mm_covers_30 : decode fb_Mm_covers 30 = .ok (.dcmp .g, 1) := by decide +kernel
theorem fx_Mm_covers_31 : decode fb_Mm_covers 31 = .ok (.ifCond .ge 24, 3) := by decide +kernel
theorem fx_Mm_covers_34 : decode fb_Mm_covers 34 = .ok (.aload 5, 2) := by decide +kernel
theorem fx_Mm_covers_36 : decode fb_Mm_covers 36 = .ok (.getfield 47, 3) := by decide +kernel
theorem fx_Mm_covers_39 : decode fb_Mm_covers 39 = .ok (.aload 5, 2) := by decide +kernel
theorem fx_Mm_covers_41 : decode fb_Mm_covers 41 = .ok (.getfield 50, 3) := by decide +kernel
theorem fx_Mm_covers_44 : decode fb_Mm_covers 44 = .ok (.aload_n 1, 1) := by decide +kernel
theorem fx_Mm_covers_45 : decode fb_Mm_covers 45 = .ok (.invokestatic 53, 3) := by decide +kernel
theorem fx_Mm_covers_48 : decode fb_Mm_covers 48 = .ok (.ifCond .eq 7, 3) := by decide +kernel
theorem fx_Mm_covers_51 : decode fb_Mm_covers 51 = .ok (.iconst 1, 1) := by decide +kernel
theorem fx_Mm_covers_52 : decode fb_Mm_covers 52 = .ok (.goto 4, 3) := by decide +kernel
theorem fx_Mm_covers_55 : decode fb_Mm_covers 55 = .ok (.iconst 0, 1) := by decide +kernel
theorem fx_Mm_covers_56 : decode fb_Mm_covers 56 = .ok (.ireturn, 1) := by decide +kernel
theorem fx_Mm_forget_0 : decode fb_Mm_forget 0 = .ok (.aload_n 0, 1) := by decide +kernel
theorem fx_Mm_forget_1 : decode fb_Mm_forget 1 = .ok (.aload_n 1, 1) := by decide +kernel
theorem fx_Mm_forget_2 : decode fb_Mm_forget 2 = .ok (.invokevirtual 39, 3) := by decide +kernel
theorem fx_Mm_forget_5 : decode fb_Mm_forget 5 = .ok (.istore_n 2, 1) := by decide +kernel
theorem fx_Mm_forget_6 : decode fb_Mm_forget 6 = .ok (.iload_n 2, 1) := by decide +kernel
theorem fx_Mm_forget_7 : decode fb_Mm_forget 7 = .ok (.iconst (-1), 1) := by decide +kernel
theorem fx_Mm_forget_8 : decode fb_Mm_forget 8 = .ok (.if_icmp .eq 8, 3) := by decide +kernel
theorem fx_Mm_forget_11 : decode fb_Mm_forget 11 = .ok (.aload_n 0, 1) := by decide +kernel
theorem fx_Mm_forget_12 : decode fb_Mm_forget 12 = .ok (.iload_n 2, 1) := by decide +kernel
theorem fx_Mm_forget_13 : decode fb_Mm_forget 13 = .ok (.invokevirtual 57, 3) := by decide +kernel
theorem fx_Mm_forget_16 : decode fb_Mm_forget 16 = .ok (.return_, 1) := by decide +kernel
theorem fx_Mm_remember_0 : decode fb_Mm_remember 0 = .ok (.aload_n 0, 1) := by decide +kernel
theorem fx_Mm_remember_1 : decode fb_Mm_remember 1 = .ok (.getfield 18, 3) := by decide +kernel
theorem fx_Mm_remember_4 : decode fb_Mm_remember 4 = .ok (.bipush 6, 2) := by decide +kernel
theorem fx_Mm_remember_6 : decode fb_Mm_remember 6 = .ok (.if_icmp .ne 11, 3) := by decide +kernel
theorem fx_Mm_remember_9 : decode fb_Mm_remember 9 = .ok (.aload_n 0, 1) := by decide +kernel
theorem fx_Mm_remember_10 : decode fb_Mm_remember 10 = .ok (.aload_n 0, 1) := by decide +kernel
theorem fx_Mm_remember_11 : decode fb_Mm_remember 11 = .ok (.invokevirtual 61, 3) := by decide +kernel
theorem fx_Mm_remember_14 : decode fb_Mm_remember 14 = .ok (.invokevirtual 57, 3) := by decide +kernel
theorem fx_Mm_remember_17 : decode fb_Mm_remember 17 = .ok (.aload_n 2, 1) := by decide +kernel
theorem fx_Mm_remember_18 : decode fb_Mm_remember 18 = .ok (.getfield 65, 3) := by decide +kernel
theorem fx_Mm_remember_21 : decode fb_Mm_remember 21 = .ok (.ldc2_w 70, 3) := by decide +kernel
theorem fx_Mm_remember_24 : decode fb_Mm_remember 24 = .ok (.dcmp .g, 1) := by decide +kernel
theorem fx_Mm_remember_25 : decode fb_Mm_remember 25 = .ok (.ifCond .ge 10, 3) := by decide +kernel
theorem fx_Mm_remember_28 : decode fb_Mm_remember 28 = .ok (.aload_n 2, 1) := by decide +kernel
theorem fx_Mm_remember_29 : decode fb_Mm_remember 29 = .ok (.getfield 65, 3) := by decide +kernel
theorem fx_Mm_remember_32 : decode fb_Mm_remember 32 = .ok (.goto 6, 3) := by decide +kernel
theorem fx_Mm_remember_35 : decode fb_Mm_remember 35 = .ok (.ldc2_w 70, 3) := by decide +kernel
theorem fx_Mm_remember_38 : decode fb_Mm_remember 38 = .ok (.dstore 5, 2) := by decide +kernel
theorem fx_Mm_remember_40 : decode fb_Mm_remember 40 = .ok (.aload_n 0, 1) := by decide +kernel
theorem fx_Mm_remember_41 : decode fb_Mm_remember 41 = .ok (.getfield 11, 3) := by decide +kernel
theorem fx_Mm_remember_44 : decode fb_Mm_remember 44 = .ok (.aload_n 0, 1) := by decide +kernel
theorem fx_Mm_remember_45 : decode fb_Mm_remember 45 = .ok (.getfield 18, 3) := by decide +kernel
theorem fx_Mm_remember_48 : decode fb_Mm_remember 48 = .ok (.aaload, 1) := by decide +kernel
theorem fx_Mm_remember_49 : decode fb_Mm_remember 49 = .ok (.aload_n 1, 1) := by decide +kernel
theorem fx_Mm_remember_50 : decode fb_Mm_remember 50 = .ok (.aload_n 2, 1) := by decide +kernel
theorem fx_Mm_remember_51 : decode fb_Mm_remember 51 = .ok (.dload_n 3, 1) := by decide +kernel
theorem fx_Mm_remember_52 : decode fb_Mm_remember 52 = .ok (.dload 5, 2) := by decide +kernel
theorem fx_Mm_remember_54 : decode fb_Mm_remember 54 = .ok (.dadd, 1) := by decide +kernel
theorem fx_Mm_remember_55 : decode fb_Mm_remember 55 = .ok (.invokevirtual 72, 3) := by decide +kernel
theorem fx_Mm_remember_58 : decode fb_Mm_remember 58 = .ok (.aload_n 0, 1) := by decide +kernel
theorem fx_Mm_remember_59 : decode fb_Mm_remember 59 = .ok (.dup, 1) := by decide +kernel
theorem fx_Mm_remember_60 : decode fb_Mm_remember 60 = .ok (.getfield 18, 3) := by decide +kernel
theorem fx_Mm_remember_63 : decode fb_Mm_remember 63 = .ok (.iconst 1, 1) := by decide +kernel
theorem fx_Mm_remember_64 : decode fb_Mm_remember 64 = .ok (.iadd, 1) := by decide +kernel
theorem fx_Mm_remember_65 : decode fb_Mm_remember 65 = .ok (.putfield 18, 3) := by decide +kernel
theorem fx_Mm_remember_68 : decode fb_Mm_remember 68 = .ok (.return_, 1) := by decide +kernel
theorem fx_Mm_firstToEnd_0 : decode fb_Mm_firstToEnd 0 = .ok (.iconst 0, 1) := by decide +kernel
theorem fx_Mm_firstToEnd_1 : decode fb_Mm_firstToEnd 1 = .ok (.istore_n 1, 1) := by decide +kernel
theorem fx_Mm_firstToEnd_2 : decode fb_Mm_firstToEnd 2 = .ok (.iconst 1, 1) := by decide +kernel
theorem fx_Mm_firstToEnd_3 : decode fb_Mm_firstToEnd 3 = .ok (.istore_n 2, 1) := by decide +kernel
theorem fx_Mm_firstToEnd_4 : decode fb_Mm_firstToEnd 4 = .ok (.iload_n 2, 1) := by decide +kernel
theorem fx_Mm_firstToEnd_5 : decode fb_Mm_firstToEnd 5 = .ok (.aload_n 0, 1) := by decide +kernel
theorem fx_Mm_firstToEnd_6 : decode fb_Mm_firstToEnd 6 = .ok (.getfield 18, 3) := by decide +kernel
theorem fx_Mm_firstToEnd_9 : decode fb_Mm_firstToEnd 9 = .ok (.if_icmp .ge 33, 3) := by decide +kernel
theorem fx_Mm_firstToEnd_12 : decode fb_Mm_firstToEnd 12 = .ok (.aload_n 0, 1) := by decide +kernel
theorem fx_Mm_firstToEnd_13 : decode fb_Mm_firstToEnd 13 = .ok (.getfield 11, 3) := by decide +kernel
theorem fx_Mm_firstToEnd_16 : decode fb_Mm_firstToEnd 16 = .ok (.iload_n 2, 1) := by decide +kernel
theorem fx_Mm_firstToEnd_17 : decode fb_Mm_firstToEnd 17 = .ok (.aaload, 1) := by decide +kernel
theorem fx_Mm_firstToEnd_18 : decode fb_Mm_firstToEnd 18 = .ok (.getfield 43, 3) := by decide +kernel
theorem fx_Mm_firstToEnd_21 : decode fb_Mm_firstToEnd 21 = .ok (.aload_n 0, 1) := by decide +kernel
theorem fx_Mm_firstToEnd_22 : decode fb_Mm_firstToEnd 22 = .ok (.getfield 11, 3) := by decide +kernel
theorem fx_Mm_firstToEnd_25 : decode fb_Mm_firstToEnd 25 = .ok (.iload_n 1, 1) := by decide +kernel
theorem fx_Mm_firstToEnd_26 : decode fb_Mm_firstToEnd 26 = .ok (.aaload, 1) := by decide +kernel
theorem fx_Mm_firstToEnd_27 : decode fb_Mm_firstToEnd 27 = .ok (.getfield 43, 3) := by decide +kernel
theorem fx_Mm_firstToEnd_30 : decode fb_Mm_firstToEnd 30 = .ok (.dcmp .g, 1) := by decide +kernel
theorem fx_Mm_firstToEnd_31 : decode fb_Mm_firstToEnd 31 = .ok (.ifCond .ge 5, 3) := by decide +kernel
theorem fx_Mm_firstToEnd_34 : decode fb_Mm_firstToEnd 34 = .ok (.iload_n 2, 1) := by decide +kernel
theorem fx_Mm_firstToEnd_35 : decode fb_Mm_firstToEnd 35 = .ok (.istore_n 1, 1) := by decide +kernel
theorem fx_Mm_firstToEnd_36 : decode fb_Mm_firstToEnd 36 = .ok (.iinc 2 1, 3) := by decide +kernel
theorem fx_Mm_firstToEnd_39 : decode fb_Mm_firstToEnd 39 = .ok (.goto (-35), 3) := by decide +kernel
theorem fx_Mm_firstToEnd_42 : decode fb_Mm_firstToEnd 42 = .ok (.iload_n 1, 1) := by decide +kernel
theorem fx_Mm_firstToEnd_43 : decode fb_Mm_firstToEnd 43 = .ok (.ireturn, 1) := by decide +kernel
theorem fx_Mm_drop_0 : decode fb_Mm_drop 0 = .ok (.aload_n 0, 1) := by decide +kernel
theorem fx_Mm_drop_1 : decode fb_Mm_drop 1 = .ok (.getfield 11, 3) := by decide +kernel
theorem fx_Mm_drop_4 : decode fb_Mm_drop 4 = .ok (.iload_n 1, 1) := by decide +kernel
theorem fx_Mm_drop_5 : decode fb_Mm_drop 5 = .ok (.aaload, 1) := by decide +kernel
theorem fx_Mm_drop_6 : decode fb_Mm_drop 6 = .ok (.astore_n 2, 1) := by decide +kernel
theorem fx_Mm_drop_7 : decode fb_Mm_drop 7 = .ok (.iload_n 1, 1) := by decide +kernel
theorem fx_Mm_drop_8 : decode fb_Mm_drop 8 = .ok (.iconst 1, 1) := by decide +kernel
theorem fx_Mm_drop_9 : decode fb_Mm_drop 9 = .ok (.iadd, 1) := by decide +kernel
theorem fx_Mm_drop_10 : decode fb_Mm_drop 10 = .ok (.istore_n 3, 1) := by decide +kernel
theorem fx_Mm_drop_11 : decode fb_Mm_drop 11 = .ok (.iload_n 3, 1) := by decide +kernel
theorem fx_Mm_drop_12 : decode fb_Mm_drop 12 = .ok (.aload_n 0, 1) := by decide +kernel
theorem fx_Mm_drop_13 : decode fb_Mm_drop 13 = .ok (.getfield 18, 3) := by decide +kernel
theorem fx_Mm_drop_16 : decode fb_Mm_drop 16 = .ok (.if_icmp .ge 23, 3) := by decide +kernel
theorem fx_Mm_drop_19 : decode fb_Mm_drop 19 = .ok (.aload_n 0, 1) := by decide +kernel
theorem fx_Mm_drop_20 : decode fb_Mm_drop 20 = .ok (.getfield 11, 3) := by decide +kernel
theorem fx_Mm_drop_23 : decode fb_Mm_drop 23 = .ok (.iload_n 3, 1) := by decide +kernel
theorem fx_Mm_drop_24 : decode fb_Mm_drop 24 = .ok (.iconst 1, 1) := by decide +kernel
theorem fx_Mm_drop_25 : decode fb_Mm_drop 25 = .ok (.isub, 1) := by decide +kernel
theorem fx_Mm_drop_26 : decode fb_Mm_drop 26 = .ok (.aload_n 0, 1) := by decide +kernel
theorem fx_Mm_drop_27 : decode fb_Mm_drop 27 = .ok (.getfield 11, 3) := by decide +kernel
theorem fx_Mm_drop_30 : decode fb_Mm_drop 30 = .ok (.iload_n 3, 1) := by decide +kernel
theorem fx_Mm_drop_31 : decode fb_Mm_drop 31 = .ok (.aaload, 1) := by decide +kernel
theorem fx_Mm_drop_32 : decode fb_Mm_drop 32 = .ok (.aastore, 1) := by decide +kernel
theorem fx_Mm_drop_33 : decode fb_Mm_drop 33 = .ok (.iinc 3 1, 3) := by decide +kernel
theorem fx_Mm_drop_36 : decode fb_Mm_drop 36 = .ok (.goto (-25), 3) := by decide +kernel
theorem fx_Mm_drop_39 : decode fb_Mm_drop 39 = .ok (.aload_n 0, 1) := by decide +kernel
theorem fx_Mm_drop_40 : decode fb_Mm_drop 40 = .ok (.dup, 1) := by decide +kernel
theorem fx_Mm_drop_41 : decode fb_Mm_drop 41 = .ok (.getfield 18, 3) := by decide +kernel
theorem fx_Mm_drop_44 : decode fb_Mm_drop 44 = .ok (.iconst 1, 1) := by decide +kernel
theorem fx_Mm_drop_45 : decode fb_Mm_drop 45 = .ok (.isub, 1) := by decide +kernel
theorem fx_Mm_drop_46 : decode fb_Mm_drop 46 = .ok (.putfield 18, 3) := by decide +kernel
theorem fx_Mm_drop_49 : decode fb_Mm_drop 49 = .ok (.aload_n 0, 1) := by decide +kernel
theorem fx_Mm_drop_50 : decode fb_Mm_drop 50 = .ok (.getfield 11, 3) := by decide +kernel
theorem fx_Mm_drop_53 : decode fb_Mm_drop 53 = .ok (.aload_n 0, 1) := by decide +kernel
theorem fx_Mm_drop_54 : decode fb_Mm_drop 54 = .ok (.getfield 18, 3) := by decide +kernel
theorem fx_Mm_drop_57 : decode fb_Mm_drop 57 = .ok (.aload_n 2, 1) := by decide +kernel
theorem fx_Mm_drop_58 : decode fb_Mm_drop 58 = .ok (.aastore, 1) := by decide +kernel
theorem fx_Mm_drop_59 : decode fb_Mm_drop 59 = .ok (.return_, 1) := by decide +kernel
theorem fx_Pm_init_0 : decode fb_Pm_init 0 = .ok (.aload_n 0, 1) := by decide +kernel
theorem fx_Pm_init_1 : decode fb_Pm_init 1 = .ok (.invokespecial 1, 3) := by decide +kernel
theorem fx_Pm_init_4 : decode fb_Pm_init 4 = .ok (.return_, 1) := by decide +kernel
theorem fx_Pm_write_0 : decode fb_Pm_write 0 = .ok (.aload_n 0, 1) := by decide +kernel
theorem fx_Pm_write_1 : decode fb_Pm_write 1 = .ok (.aload_n 1, 1) := by decide +kernel
theorem fx_Pm_write_2 : decode fb_Pm_write 2 = .ok (.getfield 7, 3) := by decide +kernel
theorem fx_Pm_write_5 : decode fb_Pm_write 5 = .ok (.putfield 13, 3) := by decide +kernel
theorem fx_Pm_write_8 : decode fb_Pm_write 8 = .ok (.aload_n 0, 1) := by decide +kernel
theorem fx_Pm_write_9 : decode fb_Pm_write 9 = .ok (.aload_n 1, 1) := by decide +kernel
theorem fx_Pm_write_10 : decode fb_Pm_write 10 = .ok (.getfield 16, 3) := by decide +kernel
theorem fx_Pm_write_13 : decode fb_Pm_write 13 = .ok (.putfield 19, 3) := by decide +kernel
theorem fx_Pm_write_16 : decode fb_Pm_write 16 = .ok (.aload_n 0, 1) := by decide +kernel
theorem fx_Pm_write_17 : decode fb_Pm_write 17 = .ok (.aload_n 1, 1) := by decide +kernel
theorem fx_Pm_write_18 : decode fb_Pm_write 18 = .ok (.getfield 20, 3) := by decide +kernel
theorem fx_Pm_write_21 : decode fb_Pm_write 21 = .ok (.putfield 24, 3) := by decide +kernel
theorem fx_Pm_write_24 : decode fb_Pm_write 24 = .ok (.aload_n 0, 1) := by decide +kernel
theorem fx_Pm_write_25 : decode fb_Pm_write 25 = .ok (.aload_n 2, 1) := by decide +kernel
theorem fx_Pm_write_26 : decode fb_Pm_write 26 = .ok (.getfield 27, 3) := by decide +kernel
theorem fx_Pm_write_29 : decode fb_Pm_write 29 = .ok (.putfield 32, 3) := by decide +kernel
theorem fx_Pm_write_32 : decode fb_Pm_write 32 = .ok (.aload_n 0, 1) := by decide +kernel
theorem fx_Pm_write_33 : decode fb_Pm_write 33 = .ok (.aload_n 2, 1) := by decide +kernel
theorem fx_Pm_write_34 : decode fb_Pm_write 34 = .ok (.getfield 35, 3) := by decide +kernel
theorem fx_Pm_write_37 : decode fb_Pm_write 37 = .ok (.putfield 38, 3) := by decide +kernel
theorem fx_Pm_write_40 : decode fb_Pm_write 40 = .ok (.aload_n 0, 1) := by decide +kernel
theorem fx_Pm_write_41 : decode fb_Pm_write 41 = .ok (.dload_n 3, 1) := by decide +kernel
theorem fx_Pm_write_42 : decode fb_Pm_write 42 = .ok (.putfield 41, 3) := by decide +kernel
theorem fx_Pm_write_45 : decode fb_Pm_write 45 = .ok (.return_, 1) := by decide +kernel
theorem fx_Rq_init_0 : decode fb_Rq_init 0 = .ok (.aload_n 0, 1) := by decide +kernel
theorem fx_Rq_init_1 : decode fb_Rq_init 1 = .ok (.invokespecial 3, 3) := by decide +kernel
theorem fx_Rq_init_4 : decode fb_Rq_init 4 = .ok (.return_, 1) := by decide +kernel
theorem fx_Rq_begin_0 : decode fb_Rq_begin 0 = .ok (.aload_n 0, 1) := by decide +kernel
theorem fx_Rq_begin_1 : decode fb_Rq_begin 1 = .ok (.iload_n 1, 1) := by decide +kernel
theorem fx_Rq_begin_2 : decode fb_Rq_begin 2 = .ok (.putfield 9, 3) := by decide +kernel
theorem fx_Rq_begin_5 : decode fb_Rq_begin 5 = .ok (.aload_n 0, 1) := by decide +kernel
theorem fx_Rq_begin_6 : decode fb_Rq_begin 6 = .ok (.iload_n 2, 1) := by decide +kernel
theorem fx_Rq_begin_7 : decode fb_Rq_begin 7 = .ok (.putfield 15, 3) := by decide +kernel
theorem fx_Rq_begin_10 : decode fb_Rq_begin 10 = .ok (.aload_n 0, 1) := by decide +kernel
theorem fx_Rq_begin_11 : decode fb_Rq_begin 11 = .ok (.iload_n 3, 1) := by decide +kernel
theorem fx_Rq_begin_12 : decode fb_Rq_begin 12 = .ok (.putfield 18, 3) := by decide +kernel
theorem fx_Rq_begin_15 : decode fb_Rq_begin 15 = .ok (.aload_n 0, 1) := by decide +kernel
theorem fx_Rq_begin_16 : decode fb_Rq_begin 16 = .ok (.iload 4, 2) := by decide +kernel
theorem fx_Rq_begin_18 : decode fb_Rq_begin 18 = .ok (.putfield 21, 3) := by decide +kernel
theorem fx_Rq_begin_21 : decode fb_Rq_begin 21 = .ok (.aload_n 0, 1) := by decide +kernel
theorem fx_Rq_begin_22 : decode fb_Rq_begin 22 = .ok (.iload 5, 2) := by decide +kernel
theorem fx_Rq_begin_24 : decode fb_Rq_begin 24 = .ok (.putfield 24, 3) := by decide +kernel
theorem fx_Rq_begin_27 : decode fb_Rq_begin 27 = .ok (.aload_n 0, 1) := by decide +kernel
theorem fx_Rq_begin_28 : decode fb_Rq_begin 28 = .ok (.iload 6, 2) := by decide +kernel
theorem fx_Rq_begin_30 : decode fb_Rq_begin 30 = .ok (.putfield 27, 3) := by decide +kernel
theorem fx_Rq_begin_33 : decode fb_Rq_begin 33 = .ok (.aload_n 0, 1) := by decide +kernel
theorem fx_Rq_begin_34 : decode fb_Rq_begin 34 = .ok (.iload 7, 2) := by decide +kernel
theorem fx_Rq_begin_36 : decode fb_Rq_begin 36 = .ok (.putfield 30, 3) := by decide +kernel
theorem fx_Rq_begin_39 : decode fb_Rq_begin 39 = .ok (.aload_n 0, 1) := by decide +kernel
theorem fx_Rq_begin_40 : decode fb_Rq_begin 40 = .ok (.iconst 0, 1) := by decide +kernel
theorem fx_Rq_begin_41 : decode fb_Rq_begin 41 = .ok (.putfield 33, 3) := by decide +kernel
theorem fx_Rq_begin_44 : decode fb_Rq_begin 44 = .ok (.aload_n 0, 1) := by decide +kernel
theorem fx_Rq_begin_45 : decode fb_Rq_begin 45 = .ok (.iconst 0, 1) := by decide +kernel
theorem fx_Rq_begin_46 : decode fb_Rq_begin 46 = .ok (.putfield 36, 3) := by decide +kernel
theorem fx_Rq_begin_49 : decode fb_Rq_begin 49 = .ok (.aload_n 0, 1) := by decide +kernel
theorem fx_Rq_begin_50 : decode fb_Rq_begin 50 = .ok (.iconst 0, 1) := by decide +kernel
theorem fx_Rq_begin_51 : decode fb_Rq_begin 51 = .ok (.putfield 40, 3) := by decide +kernel
theorem fx_Rq_begin_54 : decode fb_Rq_begin 54 = .ok (.aload_n 0, 1) := by decide +kernel
theorem fx_Rq_begin_55 : decode fb_Rq_begin 55 = .ok (.iconst 0, 1) := by decide +kernel
theorem fx_Rq_begin_56 : decode fb_Rq_begin 56 = .ok (.putfield 43, 3) := by decide +kernel
theorem fx_Rq_begin_59 : decode fb_Rq_begin 59 = .ok (.aload_n 0, 1) := by decide +kernel
theorem fx_Rq_begin_60 : decode fb_Rq_begin 60 = .ok (.iconst 0, 1) := by decide +kernel
theorem fx_Rq_begin_61 : decode fb_Rq_begin 61 = .ok (.iconst 0, 1) := by decide +kernel
theorem fx_Rq_begin_62 : decode fb_Rq_begin 62 = .ok (.iconst 0, 1) := by decide +kernel
theorem fx_Rq_begin_63 : decode fb_Rq_begin 63 = .ok (.iconst 0, 1) := by decide +kernel
theorem fx_Rq_begin_64 : decode fb_Rq_begin 64 = .ok (.invokevirtual 46, 3) := by decide +kernel
theorem fx_Rq_begin_67 : decode fb_Rq_begin 67 = .ok (.return_, 1) := by decide +kernel
theorem fx_Rq_show_0 : decode fb_Rq_show 0 = .ok (.aload_n 0, 1) := by decide +kernel
theorem fx_Rq_show_1 : decode fb_Rq_show 1 = .ok (.iload_n 1, 1) := by decide +kernel
theorem fx_Rq_show_2 : decode fb_Rq_show 2 = .ok (.putfield 50, 3) := by decide +kernel
theorem fx_Rq_show_5 : decode fb_Rq_show 5 = .ok (.aload_n 0, 1) := by decide +kernel
theorem fx_Rq_show_6 : decode fb_Rq_show 6 = .ok (.iload_n 2, 1) := by decide +kernel
theorem fx_Rq_show_7 : decode fb_Rq_show 7 = .ok (.putfield 53, 3) := by decide +kernel
theorem fx_Rq_show_10 : decode fb_Rq_show 10 = .ok (.aload_n 0, 1) := by decide +kernel
theorem fx_Rq_show_11 : decode fb_Rq_show 11 = .ok (.iload_n 3, 1) := by decide +kernel
theorem fx_Rq_show_12 : decode fb_Rq_show 12 = .ok (.putfield 56, 3) := by decide +kernel
theorem fx_Rq_show_15 : decode fb_Rq_show 15 = .ok (.aload_n 0, 1) := by decide +kernel
theorem fx_Rq_show_16 : decode fb_Rq_show 16 = .ok (.iload 4, 2) := by decide +kernel
theorem fx_Rq_show_18 : decode fb_Rq_show 18 = .ok (.putfield 59, 3) := by decide +kernel
theorem fx_Rq_show_21 : decode fb_Rq_show 21 = .ok (.return_, 1) := by decide +kernel
theorem fx_Rq_enterRound_0 : decode fb_Rq_enterRound 0 = .ok (.aload_n 0, 1) := by decide +kernel
theorem fx_Rq_enterRound_1 : decode fb_Rq_enterRound 1 = .ok (.dup, 1) := by decide +kernel
theorem fx_Rq_enterRound_2 : decode fb_Rq_enterRound 2 = .ok (.getfield 33, 3) := by decide +kernel
theorem fx_Rq_enterRound_5 : decode fb_Rq_enterRound 5 = .ok (.iconst 1, 1) := by decide +kernel
theorem fx_Rq_enterRound_6 : decode fb_Rq_enterRound 6 = .ok (.iadd, 1) := by decide +kernel
theorem fx_Rq_enterRound_7 : decode fb_Rq_enterRound 7 = .ok (.putfield 33, 3) := by decide +kernel
theorem fx_Rq_enterRound_10 : decode fb_Rq_enterRound 10 = .ok (.aload_n 0, 1) := by decide +kernel
theorem fx_Rq_enterRound_11 : decode fb_Rq_enterRound 11 = .ok (.aload_n 0, 1) := by decide +kernel
theorem fx_Rq_enterRound_12 : decode fb_Rq_enterRound 12 = .ok (.getfield 36, 3) := by decide +kernel
theorem fx_Rq_enterRound_15 : decode fb_Rq_enterRound 15 = .ok (.ifCond .ne 17, 3) := by decide +kernel
theorem fx_Rq_enterRound_18 : decode fb_Rq_enterRound 18 = .ok (.aload_n 0, 1) := by decide +kernel
theorem fx_Rq_enterRound_19 : decode fb_Rq_enterRound 19 = .ok (.getfield 15, 3) := by decide +kernel
theorem fx_Rq_enterRound_22 : decode fb_Rq_enterRound 22 = .ok (.invokestatic 62, 3) := by decide +kernel
theorem fx_Rq_enterRound_25 : decode fb_Rq_enterRound 25 = .ok (.aload_n 0, 1) := by decide +kernel
theorem fx_Rq_enterRound_26 : decode fb_Rq_enterRound 26 = .ok (.getfield 9, 3) := by decide +kernel
theorem fx_Rq_enterRound_29 : decode fb_Rq_enterRound 29 = .ok (.if_icmp .eq 7, 3) := by decide +kernel
theorem fx_Rq_enterRound_32 : decode fb_Rq_enterRound 32 = .ok (.iconst 1, 1) := by decide +kernel
theorem fx_Rq_enterRound_33 : decode fb_Rq_enterRound 33 = .ok (.goto 4, 3) := by decide +kernel
theorem fx_Rq_enterRound_36 : decode fb_Rq_enterRound 36 = .ok (.iconst 0, 1) := by decide +kernel
theorem fx_Rq_enterRound_37 : decode fb_Rq_enterRound 37 = .ok (.putfield 36, 3) := by decide +kernel
theorem fx_Rq_enterRound_40 : decode fb_Rq_enterRound 40 = .ok (.aload_n 0, 1) := by decide +kernel
theorem fx_Rq_enterRound_41 : decode fb_Rq_enterRound 41 = .ok (.aload_n 0, 1) := by decide +kernel
theorem fx_Rq_enterRound_42 : decode fb_Rq_enterRound 42 = .ok (.getfield 27, 3) := by decide +kernel
theorem fx_Rq_enterRound_45 : decode fb_Rq_enterRound 45 = .ok (.iconst 2, 1) := by decide +kernel
theorem fx_Rq_enterRound_46 : decode fb_Rq_enterRound 46 = .ok (.if_icmp .eq 18, 3) := by decide +kernel
theorem fx_Rq_enterRound_49 : decode fb_Rq_enterRound 49 = .ok (.aload_n 0, 1) := by decide +kernel
theorem fx_Rq_enterRound_50 : decode fb_Rq_enterRound 50 = .ok (.getfield 27, 3) := by decide +kernel
theorem fx_Rq_enterRound_53 : decode fb_Rq_enterRound 53 = .ok (.iconst 1, 1) := by decide +kernel
theorem fx_Rq_enterRound_54 : decode fb_Rq_enterRound 54 = .ok (.if_icmp .ne 14, 3) := by decide +kernel
theorem fx_Rq_enterRound_57 : decode fb_Rq_enterRound 57 = .ok (.aload_n 0, 1) := by decide +kernel
theorem fx_Rq_enterRound_58 : decode fb_Rq_enterRound 58 = .ok (.getfield 36, 3) := by decide +kernel
theorem fx_Rq_enterRound_61 : decode fb_Rq_enterRound 61 = .ok (.ifCond .ne 7, 3) := by decide +kernel
theorem fx_Rq_enterRound_64 : decode fb_Rq_enterRound 64 = .ok (.iconst 1, 1) := by decide +kernel
theorem fx_Rq_enterRound_65 : decode fb_Rq_enterRound 65 = .ok (.goto 4, 3) := by decide +kernel
theorem fx_Rq_enterRound_68 : decode fb_Rq_enterRound 68 = .ok (.iconst 0, 1) := by decide +kernel
theorem fx_Rq_enterRound_69 : decode fb_Rq_enterRound 69 = .ok (.putfield 40, 3) := by decide +kernel
theorem fx_Rq_enterRound_72 : decode fb_Rq_enterRound 72 = .ok (.return_, 1) := by decide +kernel
theorem fx_Rq_mustPass_0 : decode fb_Rq_mustPass 0 = .ok (.aload_n 0, 1) := by decide +kernel
theorem fx_Rq_mustPass_1 : decode fb_Rq_mustPass 1 = .ok (.getfield 36, 3) := by decide +kernel
theorem fx_Rq_mustPass_4 : decode fb_Rq_mustPass 4 = .ok (.ifCond .eq 15, 3) := by decide +kernel
theorem fx_Rq_mustPass_7 : decode fb_Rq_mustPass 7 = .ok (.aload_n 0, 1) := by decide +kernel
theorem fx_Rq_mustPass_8 : decode fb_Rq_mustPass 8 = .ok (.getfield 24, 3) := by decide +kernel
theorem fx_Rq_mustPass_11 : decode fb_Rq_mustPass 11 = .ok (.iconst 1, 1) := by decide +kernel
theorem fx_Rq_mustPass_12 : decode fb_Rq_mustPass 12 = .ok (.if_icmp .ne 7, 3) := by decide +kernel
theorem fx_Rq_mustPass_15 : decode fb_Rq_mustPass 15 = .ok (.iconst 1, 1) := by decide +kernel
theorem fx_Rq_mustPass_16 : decode fb_Rq_mustPass 16 = .ok (.goto 4, 3) := by decide +kernel
theorem fx_Rq_mustPass_19 : decode fb_Rq_mustPass 19 = .ok (.iconst 0, 1) := by decide +kernel
theorem fx_Rq_mustPass_20 : decode fb_Rq_mustPass 20 = .ok (.ireturn, 1) := by decide +kernel
theorem fx_Rq_passes_0 : decode fb_Rq_passes 0 = .ok (.aload_n 1, 1) := by decide +kernel
theorem fx_Rq_passes_1 : decode fb_Rq_passes 1 = .ok (.getfield 66, 3) := by decide +kernel
theorem fx_Rq_passes_4 : decode fb_Rq_passes 4 = .ok (.iconst 1, 1) := by decide +kernel
theorem fx_Rq_passes_5 : decode fb_Rq_passes 5 = .ok (.aload_n 0, 1) := by decide +kernel
theorem fx_Rq_passes_6 : decode fb_Rq_passes 6 = .ok (.getfield 9, 3) := by decide +kernel
theorem fx_Rq_passes_9 : decode fb_Rq_passes 9 = .ok (.ishl, 1) := by decide +kernel
theorem fx_Rq_passes_10 : decode fb_Rq_passes 10 = .ok (.iand, 1) := by decide +kernel
theorem fx_Rq_passes_11 : decode fb_Rq_passes 11 = .ok (.ifCond .eq 7, 3) := by decide +kernel
theorem fx_Rq_passes_14 : decode fb_Rq_passes 14 = .ok (.iconst 1, 1) := by decide +kernel
theorem fx_Rq_passes_15 : decode fb_Rq_passes 15 = .ok (.goto 4, 3) := by decide +kernel
theorem fx_Rq_passes_18 : decode fb_Rq_passes 18 = .ok (.iconst 0, 1) := by decide +kernel
theorem fx_Rq_passes_19 : decode fb_Rq_passes 19 = .ok (.istore_n 2, 1) := by decide +kernel
theorem fx_Rq_passes_20 : decode fb_Rq_passes 20 = .ok (.aload_n 0, 1) := by decide +kernel
theorem fx_Rq_passes_21 : decode fb_Rq_passes 21 = .ok (.getfield 40, 3) := by decide +kernel
theorem fx_Rq_passes_24 : decode fb_Rq_passes 24 = .ok (.ifCond .eq 20, 3) := by decide +kernel
theorem fx_Rq_passes_27 : decode fb_Rq_passes 27 = .ok (.iload_n 2, 1) := by decide +kernel
theorem fx_Rq_passes_28 : decode fb_Rq_passes 28 = .ok (.ifCond .eq 14, 3) := by decide +kernel
theorem fx_Rq_passes_31 : decode fb_Rq_passes 31 = .ok (.aload_n 1, 1) := by decide +kernel
theorem fx_Rq_passes_32 : decode fb_Rq_passes 32 = .ok (.getfield 71, 3) := by decide +kernel
theorem fx_Rq_passes_35 : decode fb_Rq_passes 35 = .ok (.ifCond .eq 7, 3) := by decide +kernel
theorem fx_Rq_passes_38 : decode fb_Rq_passes 38 = .ok (.iconst 1, 1) := by decide +kernel
theorem fx_Rq_passes_39 : decode fb_Rq_passes 39 = .ok (.goto 4, 3) := by decide +kernel
theorem fx_Rq_passes_42 : decode fb_Rq_passes 42 = .ok (.iconst 0, 1) := by decide +kernel
theorem fx_Rq_passes_43 : decode fb_Rq_passes 43 = .ok (.ireturn, 1) := by decide +kernel
theorem fx_Rq_passes_44 : decode fb_Rq_passes 44 = .ok (.iload_n 2, 1) := by decide +kernel
theorem fx_Rq_passes_45 : decode fb_Rq_passes 45 = .ok (.ifCond .ne 14, 3) := by decide +kernel
theorem fx_Rq_passes_48 : decode fb_Rq_passes 48 = .ok (.aload_n 1, 1) := by decide +kernel
theorem fx_Rq_passes_49 : decode fb_Rq_passes 49 = .ok (.getfield 66, 3) := by decide +kernel
theorem fx_Rq_passes_52 : decode fb_Rq_passes 52 = .ok (.sipush 128, 3) := by decide +kernel
theorem fx_Rq_passes_55 : decode fb_Rq_passes 55 = .ok (.iand, 1) := by decide +kernel
theorem fx_Rq_passes_56 : decode fb_Rq_passes 56 = .ok (.ifCond .eq 7, 3) := by decide +kernel
theorem fx_Rq_passes_59 : decode fb_Rq_passes 59 = .ok (.iconst 1, 1) := by decide +kernel
theorem fx_Rq_passes_60 : decode fb_Rq_passes 60 = .ok (.goto 4, 3) := by decide +kernel
theorem fx_Rq_passes_63 : decode fb_Rq_passes 63 = .ok (.iconst 0, 1) := by decide +kernel
theorem fx_Rq_passes_64 : decode fb_Rq_passes 64 = .ok (.ireturn, 1) := by decide +kernel
theorem fx_Rq_meetRedirect_0 : decode fb_Rq_meetRedirect 0 = .ok (.aload_n 0, 1) := by decide +kernel
theorem fx_Rq_meetRedirect_1 : decode fb_Rq_meetRedirect 1 = .ok (.getfield 30, 3) := by decide +kernel
theorem fx_Rq_meetRedirect_4 : decode fb_Rq_meetRedirect 4 = .ok (.iconst 1, 1) := by decide +kernel
theorem fx_Rq_meetRedirect_5 : decode fb_Rq_meetRedirect 5 = .ok (.if_icmp .ne 10, 3) := by decide +kernel
theorem fx_Rq_meetRedirect_8 : decode fb_Rq_meetRedirect 8 = .ok (.aload_n 0, 1) := by decide +kernel
theorem fx_Rq_meetRedirect_9 : decode fb_Rq_meetRedirect 9 = .ok (.iconst 4, 1) := by decide +kernel
theorem fx_Rq_meetRedirect_10 : decode fb_Rq_meetRedirect 10 = .ok (.putfield 43, 3) := by decide +kernel
theorem fx_Rq_meetRedirect_13 : decode fb_Rq_meetRedirect 13 = .ok (.iconst 0, 1) := by decide +kernel
theorem fx_Rq_meetRedirect_14 : decode fb_Rq_meetRedirect 14 = .ok (.ireturn, 1) := by decide +kernel
theorem fx_Rq_meetRedirect_15 : decode fb_Rq_meetRedirect 15 = .ok (.aload_n 0, 1) := by decide +kernel
theorem fx_Rq_meetRedirect_16 : decode fb_Rq_meetRedirect 16 = .ok (.getfield 30, 3) := by decide +kernel
theorem fx_Rq_meetRedirect_19 : decode fb_Rq_meetRedirect 19 = .ok (.iconst 2, 1) := by decide +kernel
theorem fx_Rq_meetRedirect_20 : decode fb_Rq_meetRedirect 20 = .ok (.if_icmp .ne 13, 3) := by decide +kernel
theorem fx_Rq_meetRedirect_23 : decode fb_Rq_meetRedirect 23 = .ok (.aload_n 0, 1) := by decide +kernel
theorem fx_Rq_meetRedirect_24 : decode fb_Rq_meetRedirect 24 = .ok (.iconst 0, 1) := by decide +kernel
theorem fx_Rq_meetRedirect_25 : decode fb_Rq_meetRedirect 25 = .ok (.iconst 0, 1) := by decide +kernel
theorem fx_Rq_meetRedirect_26 : decode fb_Rq_meetRedirect 26 = .ok (.iconst 0, 1) := by decide +kernel
theorem fx_Rq_meetRedirect_27 : decode fb_Rq_meetRedirect 27 = .ok (.iconst 3, 1) := by decide +kernel
theorem fx_Rq_meetRedirect_28 : decode fb_Rq_meetRedirect 28 = .ok (.invokevirtual 46, 3) := by decide +kernel
theorem fx_Rq_meetRedirect_31 : decode fb_Rq_meetRedirect 31 = .ok (.iconst 0, 1) := by decide +kernel
theorem fx_Rq_meetRedirect_32 : decode fb_Rq_meetRedirect 32 = .ok (.ireturn, 1) := by decide +kernel
theorem fx_Rq_meetRedirect_33 : decode fb_Rq_meetRedirect 33 = .ok (.iload_n 2, 1) := by decide +kernel
theorem fx_Rq_meetRedirect_34 : decode fb_Rq_meetRedirect 34 = .ok (.iconst 4, 1) := by decide +kernel
theorem fx_Rq_meetRedirect_35 : decode fb_Rq_meetRedirect 35 = .ok (.if_icmp .lt 10, 3) := by decide +kernel
theorem fx_Rq_meetRedirect_38 : decode fb_Rq_meetRedirect 38 = .ok (.aload_n 0, 1) := by decide +kernel
theorem fx_Rq_meetRedirect_39 : decode fb_Rq_meetRedirect 39 = .ok (.iconst 5, 1) := by decide +kernel
theorem fx_Rq_meetRedirect_40 : decode fb_Rq_meetRedirect 40 = .ok (.putfield 43, 3) := by decide +kernel
theorem fx_Rq_meetRedirect_43 : decode fb_Rq_meetRedirect 43 = .ok (.iconst 0, 1) := by decide +kernel
theorem fx_Rq_meetRedirect_44 : decode fb_Rq_meetRedirect 44 = .ok (.ireturn, 1) := by decide +kernel
theorem fx_Rq_meetRedirect_45 : decode fb_Rq_meetRedirect 45 = .ok (.aload_n 0, 1) := by decide +kernel
theorem fx_Rq_meetRedirect_46 : decode fb_Rq_meetRedirect 46 = .ok (.aload_n 1, 1) := by decide +kernel
theorem fx_Rq_meetRedirect_47 : decode fb_Rq_meetRedirect 47 = .ok (.invokevirtual 74, 3) := by decide +kernel
theorem fx_Rq_meetRedirect_50 : decode fb_Rq_meetRedirect 50 = .ok (.iconst 1, 1) := by decide +kernel
theorem fx_Rq_meetRedirect_51 : decode fb_Rq_meetRedirect 51 = .ok (.ireturn, 1) := by decide +kernel
theorem fx_Rq_follow_0 : decode fb_Rq_follow 0 = .ok (.aload_n 0, 1) := by decide +kernel
theorem fx_Rq_follow_1 : decode fb_Rq_follow 1 = .ok (.getfield 15, 3) := by decide +kernel
theorem fx_Rq_follow_4 : decode fb_Rq_follow 4 = .ok (.invokestatic 62, 3) := by decide +kernel
theorem fx_Rq_follow_7 : decode fb_Rq_follow 7 = .ok (.istore_n 2, 1) := by decide +kernel
theorem fx_Rq_follow_8 : decode fb_Rq_follow 8 = .ok (.aload_n 1, 1) := by decide +kernel
theorem fx_Rq_follow_9 : decode fb_Rq_follow 9 = .ok (.getfield 78, 3) := by decide +kernel
theorem fx_Rq_follow_12 : decode fb_Rq_follow 12 = .ok (.invokestatic 62, 3) := by decide +kernel
theorem fx_Rq_follow_15 : decode fb_Rq_follow 15 = .ok (.iload_n 2, 1) := by decide +kernel
theorem fx_Rq_follow_16 : decode fb_Rq_follow 16 = .ok (.if_icmp .eq 17, 3) := by decide +kernel
theorem fx_Rq_follow_19 : decode fb_Rq_follow 19 = .ok (.iload_n 2, 1) := by decide +kernel
theorem fx_Rq_follow_20 : decode fb_Rq_follow 20 = .ok (.aload_n 0, 1) := by decide +kernel
theorem fx_Rq_follow_21 : decode fb_Rq_follow 21 = .ok (.getfield 9, 3) := by decide +kernel
theorem fx_Rq_follow_24 : decode fb_Rq_follow 24 = .ok (.if_icmp .eq 9, 3) := by decide +kernel
theorem fx_Rq_follow_27 : decode fb_Rq_follow 27 = .ok (.aload_n 0, 1) := by decide +kernel
theorem fx_Rq_follow_28 : decode fb_Rq_follow 28 = .ok (.bipush 6, 2) := by decide +kernel
theorem fx_Rq_follow_30 : decode fb_Rq_follow 30 = .ok (.putfield 9, 3) := by decide +kernel
theorem fx_Rq_follow_33 : decode fb_Rq_follow 33 = .ok (.aload_n 1, 1) := by decide +kernel
theorem fx_Rq_follow_34 : decode fb_Rq_follow 34 = .ok (.aload_n 0, 1) := by decide +kernel
theorem fx_Rq_follow_35 : decode fb_Rq_follow 35 = .ok (.getfield 18, 3) := by decide +kernel
theorem fx_Rq_follow_38 : decode fb_Rq_follow 38 = .ok (.invokevirtual 81, 3) := by decide +kernel
theorem fx_Rq_follow_41 : decode fb_Rq_follow 41 = .ok (.ifCond .eq 13, 3) := by decide +kernel
theorem fx_Rq_follow_44 : decode fb_Rq_follow 44 = .ok (.aload_n 0, 1) := by decide +kernel
theorem fx_Rq_follow_45 : decode fb_Rq_follow 45 = .ok (.iconst 0, 1) := by decide +kernel
theorem fx_Rq_follow_46 : decode fb_Rq_follow 46 = .ok (.putfield 18, 3) := by decide +kernel
theorem fx_Rq_follow_49 : decode fb_Rq_follow 49 = .ok (.aload_n 0, 1) := by decide +kernel
theorem fx_Rq_follow_50 : decode fb_Rq_follow 50 = .ok (.iconst 0, 1) := by decide +kernel
theorem fx_Rq_follow_51 : decode fb_Rq_follow 51 = .ok (.putfield 21, 3) := by decide +kernel
theorem fx_Rq_follow_54 : decode fb_Rq_follow 54 = .ok (.aload_n 0, 1) := by decide +kernel
theorem fx_Rq_follow_55 : decode fb_Rq_follow 55 = .ok (.aload_n 1, 1) := by decide +kernel
theorem fx_Rq_follow_56 : decode fb_Rq_follow 56 = .ok (.getfield 78, 3) := by decide +kernel
theorem fx_Rq_follow_59 : decode fb_Rq_follow 59 = .ok (.putfield 15, 3) := by decide +kernel
theorem fx_Rq_follow_62 : decode fb_Rq_follow 62 = .ok (.return_, 1) := by decide +kernel
theorem fx_Rq_takeResponse_0 : decode fb_Rq_takeResponse 0 = .ok (.aload_n 0, 1) := by decide +kernel
theorem fx_Rq_takeResponse_1 : decode fb_Rq_takeResponse 1 = .ok (.getfield 36, 3) := by decide +kernel
theorem fx_Rq_takeResponse_4 : decode fb_Rq_takeResponse 4 = .ok (.ifCond .ne 23, 3) := by decide +kernel
theorem fx_Rq_takeResponse_7 : decode fb_Rq_takeResponse 7 = .ok (.aload_n 0, 1) := by decide +kernel
theorem fx_Rq_takeResponse_8 : decode fb_Rq_takeResponse 8 = .ok (.aload_n 1, 1) := by decide +kernel
theorem fx_Rq_takeResponse_9 : decode fb_Rq_takeResponse 9 = .ok (.getfield 85, 3) := by decide +kernel
theorem fx_Rq_takeResponse_12 : decode fb_Rq_takeResponse 12 = .ok (.aload_n 1, 1) := by decide +kernel
theorem fx_Rq_takeResponse_13 : decode fb_Rq_takeResponse 13 = .ok (.getfield 88, 3) := by decide +kernel
theorem fx_Rq_takeResponse_16 : decode fb_Rq_takeResponse 16 = .ok (.aload_n 1, 1) := by decide +kernel
theorem fx_Rq_takeResponse_17 : decode fb_Rq_takeResponse 17 = .ok (.getfield 91, 3) := by decide +kernel
theorem fx_Rq_takeResponse_20 : decode fb_Rq_takeResponse 20 = .ok (.iconst 0, 1) := by decide +kernel
theorem fx_Rq_takeResponse_21 : decode fb_Rq_takeResponse 21 = .ok (.invokevirtual 46, 3) := by decide +kernel
theorem fx_Rq_takeResponse_24 : decode fb_Rq_takeResponse 24 = .ok (.goto 46, 3) := by decide +kernel
theorem fx_Rq_takeResponse_27 : decode fb_Rq_takeResponse 27 = .ok (.aload_n 0, 1) := by decide +kernel
theorem fx_Rq_takeResponse_28 : decode fb_Rq_takeResponse 28 = .ok (.getfield 24, 3) := by decide +kernel
theorem fx_Rq_takeResponse_31 : decode fb_Rq_takeResponse 31 = .ok (.iconst 1, 1) := by decide +kernel
theorem fx_Rq_takeResponse_32 : decode fb_Rq_takeResponse 32 = .ok (.if_icmp .ne 30, 3) := by decide +kernel
theorem fx_Rq_takeResponse_35 : decode fb_Rq_takeResponse 35 = .ok (.aload_n 1, 1) := by decide +kernel
theorem fx_Rq_takeResponse_36 : decode fb_Rq_takeResponse 36 = .ok (.getfield 91, 3) := by decide +kernel
theorem fx_Rq_takeResponse_39 : decode fb_Rq_takeResponse 39 = .ok (.aload_n 1, 1) := by decide +kernel
theorem fx_Rq_takeResponse_40 : decode fb_Rq_takeResponse 40 = .ok (.getfield 94, 3) := by decide +kernel
theorem fx_Rq_takeResponse_43 : decode fb_Rq_takeResponse 43 = .ok (.iand, 1) := by decide +kernel
theorem fx_Rq_takeResponse_44 : decode fb_Rq_takeResponse 44 = .ok (.istore_n 2, 1) := by decide +kernel
theorem fx_Rq_takeResponse_45 : decode fb_Rq_takeResponse 45 = .ok (.aload_n 0, 1) := by decide +kernel
theorem fx_Rq_takeResponse_46 : decode fb_Rq_takeResponse 46 = .ok (.aload_n 1, 1) := by decide +kernel
theorem fx_Rq_takeResponse_47 : decode fb_Rq_takeResponse 47 = .ok (.getfield 85, 3) := by decide +kernel
theorem fx_Rq_takeResponse_50 : decode fb_Rq_takeResponse 50 = .ok (.aload_n 1, 1) := by decide +kernel
theorem fx_Rq_takeResponse_51 : decode fb_Rq_takeResponse 51 = .ok (.getfield 88, 3) := by decide +kernel
theorem fx_Rq_takeResponse_54 : decode fb_Rq_takeResponse 54 = .ok (.iload_n 2, 1) := by decide +kernel
theorem fx_Rq_takeResponse_55 : decode fb_Rq_takeResponse 55 = .ok (.iconst 1, 1) := by decide +kernel
theorem fx_Rq_takeResponse_56 : decode fb_Rq_takeResponse 56 = .ok (.invokevirtual 46, 3) := by decide +kernel
theorem fx_Rq_takeResponse_59 : decode fb_Rq_takeResponse 59 = .ok (.goto 11, 3) := by decide +kernel
theorem fx_Rq_takeResponse_62 : decode fb_Rq_takeResponse 62 = .ok (.aload_n 0, 1) := by decide +kernel
theorem fx_Rq_takeResponse_63 : decode fb_Rq_takeResponse 63 = .ok (.iconst 0, 1) := by decide +kernel
theorem fx_Rq_takeResponse_64 : decode fb_Rq_takeResponse 64 = .ok (.iconst 0, 1) := by decide +kernel
theorem fx_Rq_takeResponse_65 : decode fb_Rq_takeResponse 65 = .ok (.iconst 0, 1) := by decide +kernel
theorem fx_Rq_takeResponse_66 : decode fb_Rq_takeResponse 66 = .ok (.iconst 2, 1) := by decide +kernel
theorem fx_Rq_takeResponse_67 : decode fb_Rq_takeResponse 67 = .ok (.invokevirtual 46, 3) := by decide +kernel
theorem fx_Rq_takeResponse_70 : decode fb_Rq_takeResponse 70 = .ok (.return_, 1) := by decide +kernel
theorem fx_Rs_init_0 : decode fb_Rs_init 0 = .ok (.aload_n 0, 1) := by decide +kernel
theorem fx_Rs_init_1 : decode fb_Rs_init 1 = .ok (.invokespecial 3, 3) := by decide +kernel
theorem fx_Rs_init_4 : decode fb_Rs_init 4 = .ok (.aload_n 0, 1) := by decide +kernel
theorem fx_Rs_init_5 : decode fb_Rs_init 5 = .ok (.sipush 200, 3) := by decide +kernel
theorem fx_Rs_init_8 : decode fb_Rs_init 8 = .ok (.putfield 9, 3) := by decide +kernel
theorem fx_Rs_init_11 : decode fb_Rs_init 11 = .ok (.aload_n 0, 1) := by decide +kernel
theorem fx_Rs_init_12 : decode fb_Rs_init 12 = .ok (.iconst (-1), 1) := by decide +kernel
theorem fx_Rs_init_13 : decode fb_Rs_init 13 = .ok (.putfield 15, 3) := by decide +kernel
theorem fx_Rs_init_16 : decode fb_Rs_init 16 = .ok (.return_, 1) := by decide +kernel
theorem fx_Rs_isRedirect_0 : decode fb_Rs_isRedirect 0 = .ok (.aload_n 0, 1) := by decide +kernel
theorem fx_Rs_isRedirect_1 : decode fb_Rs_isRedirect 1 = .ok (.getfield 15, 3) := by decide +kernel
theorem fx_Rs_isRedirect_4 : decode fb_Rs_isRedirect 4 = .ok (.iconst (-1), 1) := by decide +kernel
theorem fx_Rs_isRedirect_5 : decode fb_Rs_isRedirect 5 = .ok (.if_icmp .ne 5, 3) := by decide +kernel
theorem fx_Rs_isRedirect_8 : decode fb_Rs_isRedirect 8 = .ok (.iconst 0, 1) := by decide +kernel
theorem fx_Rs_isRedirect_9 : decode fb_Rs_isRedirect 9 = .ok (.ireturn, 1) := by decide +kernel
theorem fx_Rs_isRedirect_10 : decode fb_Rs_isRedirect 10 = .ok (.aload_n 0, 1) := by decide +kernel
theorem fx_Rs_isRedirect_11 : decode fb_Rs_isRedirect 11 = .ok (.getfield 9, 3) := by decide +kernel
theorem fx_Rs_isRedirect_14 : decode fb_Rs_isRedirect 14 = .ok (.tableswitch 48 301 308 #[46, 46, 46, 48, 48, 48, 46, 46], 46) := by decide +kernel
theorem fx_Rs_isRedirect_60 : decode fb_Rs_isRedirect 60 = .ok (.iconst 1, 1) := by decide +kernel
theorem fx_Rs_isRedirect_61 : decode fb_Rs_isRedirect 61 = .ok (.ireturn, 1) := by decide +kernel
theorem fx_Rs_isRedirect_62 : decode fb_Rs_isRedirect 62 = .ok (.iconst 0, 1) := by decide +kernel
theorem fx_Rs_isRedirect_63 : decode fb_Rs_isRedirect 63 = .ok (.ireturn, 1) := by decide +kernel
theorem fx_Rs_turnsIntoGet_0 : decode fb_Rs_turnsIntoGet 0 = .ok (.aload_n 0, 1) := by decide +kernel
theorem fx_Rs_turnsIntoGet_1 : decode fb_Rs_turnsIntoGet 1 = .ok (.getfield 9, 3) := by decide +kernel
theorem fx_Rs_turnsIntoGet_4 : decode fb_Rs_turnsIntoGet 4 = .ok (.sipush 303, 3) := by decide +kernel
theorem fx_Rs_turnsIntoGet_7 : decode fb_Rs_turnsIntoGet 7 = .ok (.if_icmp .ne 13, 3) := by decide +kernel
theorem fx_Rs_turnsIntoGet_10 : decode fb_Rs_turnsIntoGet 10 = .ok (.iload_n 1, 1) := by decide +kernel
theorem fx_Rs_turnsIntoGet_11 : decode fb_Rs_turnsIntoGet 11 = .ok (.ifCond .eq 7, 3) := by decide +kernel
theorem fx_Rs_turnsIntoGet_14 : decode fb_Rs_turnsIntoGet 14 = .ok (.iconst 1, 1) := by decide +kernel
theorem fx_Rs_turnsIntoGet_15 : decode fb_Rs_turnsIntoGet 15 = .ok (.goto 4, 3) := by decide +kernel
theorem fx_Rs_turnsIntoGet_18 : decode fb_Rs_turnsIntoGet 18 = .ok (.iconst 0, 1) := by decide +kernel
theorem fx_Rs_turnsIntoGet_19 : decode fb_Rs_turnsIntoGet 19 = .ok (.ireturn, 1) := by decide +kernel
theorem fx_Rs_turnsIntoGet_20 : decode fb_Rs_turnsIntoGet 20 = .ok (.aload_n 0, 1) := by decide +kernel
theorem fx_Rs_turnsIntoGet_21 : decode fb_Rs_turnsIntoGet 21 = .ok (.getfield 9, 3) := by decide +kernel
theorem fx_Rs_turnsIntoGet_24 : decode fb_Rs_turnsIntoGet 24 = .ok (.sipush 301, 3) := by decide +kernel
theorem fx_Rs_turnsIntoGet_27 : decode fb_Rs_turnsIntoGet 27 = .ok (.if_icmp .eq 13, 3) := by decide +kernel
theorem fx_Rs_turnsIntoGet_30 : decode fb_Rs_turnsIntoGet 30 = .ok (.aload_n 0, 1) := by decide +kernel
theorem fx_Rs_turnsIntoGet_31 : decode fb_Rs_turnsIntoGet 31 = .ok (.getfield 9, 3) := by decide +kernel
theorem fx_Rs_turnsIntoGet_34 : decode fb_Rs_turnsIntoGet 34 = .ok (.sipush 302, 3) := by decide +kernel
theorem fx_Rs_turnsIntoGet_37 : decode fb_Rs_turnsIntoGet 37 = .ok (.if_icmp .ne 12, 3) := by decide +kernel
theorem fx_Rs_turnsIntoGet_40 : decode fb_Rs_turnsIntoGet 40 = .ok (.iload_n 1, 1) := by decide +kernel
theorem fx_Rs_turnsIntoGet_41 : decode fb_Rs_turnsIntoGet 41 = .ok (.iconst 1, 1) := by decide +kernel
theorem fx_Rs_turnsIntoGet_42 : decode fb_Rs_turnsIntoGet 42 = .ok (.if_icmp .ne 7, 3) := by decide +kernel
theorem fx_Rs_turnsIntoGet_45 : decode fb_Rs_turnsIntoGet 45 = .ok (.iconst 1, 1) := by decide +kernel
theorem fx_Rs_turnsIntoGet_46 : decode fb_Rs_turnsIntoGet 46 = .ok (.goto 4, 3) := by decide +kernel
theorem fx_Rs_turnsIntoGet_49 : decode fb_Rs_turnsIntoGet 49 = .ok (.iconst 0, 1) := by decide +kernel
theorem fx_Rs_turnsIntoGet_50 : decode fb_Rs_turnsIntoGet 50 = .ok (.ireturn, 1) := by decide +kernel
