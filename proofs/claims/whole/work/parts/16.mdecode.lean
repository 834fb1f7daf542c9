/-! decode rows of the model -/
theorem fx_Md_init_0 : decode fb_Md_init 0 = .ok (.aload_n 0, 1) := by decide +kernel
theorem fx_Md_init_1 : decode fb_Md_init 1 = .ok (.invokespecial 1, 3) := by decide +kernel
theorem fx_Md_init_4 : decode fb_Md_init 4 = .ok (.aload_n 0, 1) := by decide +kernel
theorem fx_Md_init_5 : decode fb_Md_init 5 = .ok (.bipush 48, 2) := by decide +kernel
theorem fx_Md_init_7 : decode fb_Md_init 7 = .ok (.newarray .int, 2) := by decide +kernel
theorem fx_Md_init_9 : decode fb_Md_init 9 = .ok (.putfield 7, 3) := by decide +kernel
theorem fx_Md_init_12 : decode fb_Md_init 12 = .ok (.aload_n 0, 1) := by decide +kernel
theorem fx_Md_init_13 : decode fb_Md_init 13 = .ok (.bipush 48, 2) := by decide +kernel
theorem fx_Md_init_15 : decode fb_Md_init 15 = .ok (.newarray .int, 2) := by decide +kernel
theorem fx_Md_init_17 : decode fb_Md_init 17 = .ok (.putfield 13, 3) := by decide +kernel
theorem fx_Md_init_20 : decode fb_Md_init 20 = .ok (.aload_n 0, 1) := by decide +kernel
theorem fx_Md_init_21 : decode fb_Md_init 21 = .ok (.bipush 48, 2) := by decide +kernel
theorem fx_Md_init_23 : decode fb_Md_init 23 = .ok (.newarray .int, 2) := by decide +kernel
theorem fx_Md_init_25 : decode fb_Md_init 25 = .ok (.putfield 16, 3) := by decide +kernel
theorem fx_Md_init_28 : decode fb_Md_init 28 = .ok (.aload_n 0, 1) := by decide +kernel
theorem fx_Md_init_29 : decode fb_Md_init 29 = .ok (.bipush 48, 2) := by decide +kernel
theorem fx_Md_init_31 : decode fb_Md_init 31 = .ok (.newarray .int, 2) := by decide +kernel
theorem fx_Md_init_33 : decode fb_Md_init 33 = .ok (.putfield 19, 3) := by decide +kernel
theorem fx_Md_init_36 : decode fb_Md_init 36 = .ok (.aload_n 0, 1) := by decide +kernel
theorem fx_Md_init_37 : decode fb_Md_init 37 = .ok (.bipush 48, 2) := by decide +kernel
theorem fx_Md_init_39 : decode fb_Md_init 39 = .ok (.newarray .int, 2) := by decide +kernel
theorem fx_Md_init_41 : decode fb_Md_init 41 = .ok (.putfield 22, 3) := by decide +kernel
theorem fx_Md_init_44 : decode fb_Md_init 44 = .ok (.aload_n 0, 1) := by decide +kernel
theorem fx_Md_init_45 : decode fb_Md_init 45 = .ok (.bipush 48, 2) := by decide +kernel
theorem fx_Md_init_47 : decode fb_Md_init 47 = .ok (.newarray .int, 2) := by decide +kernel
theorem fx_Md_init_49 : decode fb_Md_init 49 = .ok (.putfield 25, 3) := by decide +kernel
theorem fx_Md_init_52 : decode fb_Md_init 52 = .ok (.aload_n 0, 1) := by decide +kernel
theorem fx_Md_init_53 : decode fb_Md_init 53 = .ok (.bipush 48, 2) := by decide +kernel
theorem fx_Md_init_55 : decode fb_Md_init 55 = .ok (.newarray .int, 2) := by decide +kernel
theorem fx_Md_init_57 : decode fb_Md_init 57 = .ok (.putfield 28, 3) := by decide +kernel
theorem fx_Md_init_60 : decode fb_Md_init 60 = .ok (.aload_n 0, 1) := by decide +kernel
theorem fx_Md_init_61 : decode fb_Md_init 61 = .ok (.bipush 48, 2) := by decide +kernel
theorem fx_Md_init_63 : decode fb_Md_init 63 = .ok (.newarray .int, 2) := by decide +kernel
theorem fx_Md_init_65 : decode fb_Md_init 65 = .ok (.putfield 31, 3) := by decide +kernel
theorem fx_Md_init_68 : decode fb_Md_init 68 = .ok (.aload_n 0, 1) := by decide +kernel
theorem fx_Md_init_69 : decode fb_Md_init 69 = .ok (.bipush 48, 2) := by decide +kernel
theorem fx_Md_init_71 : decode fb_Md_init 71 = .ok (.newarray .int, 2) := by decide +kernel
theorem fx_Md_init_73 : decode fb_Md_init 73 = .ok (.putfield 34, 3) := by decide +kernel
theorem fx_Md_init_76 : decode fb_Md_init 76 = .ok (.aload_n 0, 1) := by decide +kernel
theorem fx_Md_init_77 : decode fb_Md_init 77 = .ok (.bipush 48, 2) := by decide +kernel
theorem fx_Md_init_79 : decode fb_Md_init 79 = .ok (.newarray .int, 2) := by decide +kernel
theorem fx_Md_init_81 : decode fb_Md_init 81 = .ok (.putfield 37, 3) := by decide +kernel
theorem fx_Md_init_84 : decode fb_Md_init 84 = .ok (.aload_n 0, 1) := by decide +kernel
theorem fx_Md_init_85 : decode fb_Md_init 85 = .ok (.bipush 48, 2) := by decide +kernel
theorem fx_Md_init_87 : decode fb_Md_init 87 = .ok (.newarray .boolean, 2) := by decide +kernel
theorem fx_Md_init_89 : decode fb_Md_init 89 = .ok (.putfield 40, 3) := by decide +kernel
theorem fx_Md_init_92 : decode fb_Md_init 92 = .ok (.aload_n 0, 1) := by decide +kernel
theorem fx_Md_init_93 : decode fb_Md_init 93 = .ok (.bipush 48, 2) := by decide +kernel
theorem fx_Md_init_95 : decode fb_Md_init 95 = .ok (.newarray .boolean, 2) := by decide +kernel
theorem fx_Md_init_97 : decode fb_Md_init 97 = .ok (.putfield 44, 3) := by decide +kernel
theorem fx_Md_init_100 : decode fb_Md_init 100 = .ok (.aload_n 0, 1) := by decide +kernel
theorem fx_Md_init_101 : decode fb_Md_init 101 = .ok (.bipush 7, 2) := by decide +kernel
theorem fx_Md_init_103 : decode fb_Md_init 103 = .ok (.newarray .boolean, 2) := by decide +kernel
theorem fx_Md_init_105 : decode fb_Md_init 105 = .ok (.putfield 47, 3) := by decide +kernel
theorem fx_Md_init_108 : decode fb_Md_init 108 = .ok (.aload_n 0, 1) := by decide +kernel
theorem fx_Md_init_109 : decode fb_Md_init 109 = .ok (.bipush 48, 2) := by decide +kernel
theorem fx_Md_init_111 : decode fb_Md_init 111 = .ok (.newarray .double, 2) := by decide +kernel
theorem fx_Md_init_113 : decode fb_Md_init 113 = .ok (.putfield 50, 3) := by decide +kernel
theorem fx_Md_init_116 : decode fb_Md_init 116 = .ok (.aload_n 0, 1) := by decide +kernel
theorem fx_Md_init_117 : decode fb_Md_init 117 = .ok (.bipush 7, 2) := by decide +kernel
theorem fx_Md_init_119 : decode fb_Md_init 119 = .ok (.newarray .double, 2) := by decide +kernel
theorem fx_Md_init_121 : decode fb_Md_init 121 = .ok (.putfield 54, 3) := by decide +kernel
theorem fx_Md_init_124 : decode fb_Md_init 124 = .ok (.aload_n 0, 1) := by decide +kernel
theorem fx_Md_init_125 : decode fb_Md_init 125 = .ok (.bipush 7, 2) := by decide +kernel
theorem fx_Md_init_127 : decode fb_Md_init 127 = .ok (.newarray .int, 2) := by decide +kernel
theorem fx_Md_init_129 : decode fb_Md_init 129 = .ok (.putfield 57, 3) := by decide +kernel
theorem fx_Md_init_132 : decode fb_Md_init 132 = .ok (.aload_n 0, 1) := by decide +kernel
theorem fx_Md_init_133 : decode fb_Md_init 133 = .ok (.bipush 7, 2) := by decide +kernel
theorem fx_Md_init_135 : decode fb_Md_init 135 = .ok (.newarray .int, 2) := by decide +kernel
theorem fx_Md_init_137 : decode fb_Md_init 137 = .ok (.putfield 60, 3) := by decide +kernel
theorem fx_Md_init_140 : decode fb_Md_init 140 = .ok (.aload_n 0, 1) := by decide +kernel
theorem fx_Md_init_141 : decode fb_Md_init 141 = .ok (.bipush 7, 2) := by decide +kernel
theorem fx_Md_init_143 : decode fb_Md_init 143 = .ok (.newarray .int, 2) := by decide +kernel
theorem fx_Md_init_145 : decode fb_Md_init 145 = .ok (.putfield 63, 3) := by decide +kernel
theorem fx_Md_init_148 : decode fb_Md_init 148 = .ok (.aload_n 0, 1) := by decide +kernel
theorem fx_Md_init_149 : decode fb_Md_init 149 = .ok (.bipush 7, 2) := by decide +kernel
theorem fx_Md_init_151 : decode fb_Md_init 151 = .ok (.newarray .int, 2) := by decide +kernel
theorem fx_Md_init_153 : decode fb_Md_init 153 = .ok (.putfield 66, 3) := by decide +kernel
theorem fx_Md_init_156 : decode fb_Md_init 156 = .ok (.aload_n 0, 1) := by decide +kernel
theorem fx_Md_init_157 : decode fb_Md_init 157 = .ok (.bipush 10, 2) := by decide +kernel
theorem fx_Md_init_159 : decode fb_Md_init 159 = .ok (.newarray .int, 2) := by decide +kernel
theorem fx_Md_init_161 : decode fb_Md_init 161 = .ok (.putfield 69, 3) := by decide +kernel
theorem fx_Md_init_164 : decode fb_Md_init 164 = .ok (.iconst 0, 1) := by decide +kernel
theorem fx_Md_init_165 : decode fb_Md_init 165 = .ok (.istore_n 1, 1) := by decide +kernel
theorem fx_Md_init_166 : decode fb_Md_init 166 = .ok (.iload_n 1, 1) := by decide +kernel
theorem fx_Md_init_167 : decode fb_Md_init 167 = .ok (.bipush 48, 2) := by decide +kernel
theorem fx_Md_init_169 : decode fb_Md_init 169 = .ok (.if_icmp .ge 25, 3) := by decide +kernel
theorem fx_Md_init_172 : decode fb_Md_init 172 = .ok (.aload_n 0, 1) := by decide +kernel
theorem fx_Md_init_173 : decode fb_Md_init 173 = .ok (.getfield 7, 3) := by decide +kernel
theorem fx_Md_init_176 : decode fb_Md_init 176 = .ok (.iload_n 1, 1) := by decide +kernel
theorem fx_Md_init_177 : decode fb_Md_init 177 = .ok (.sipush 200, 3) := by decide +kernel
theorem fx_Md_init_180 : decode fb_Md_init 180 = .ok (.iastore, 1) := by decide +kernel
theorem fx_Md_init_181 : decode fb_Md_init 181 = .ok (.aload_n 0, 1) := by decide +kernel
theorem fx_Md_init_182 : decode fb_Md_init 182 = .ok (.getfield 16, 3) := by decide +kernel
theorem fx_Md_init_185 : decode fb_Md_init 185 = .ok (.iload_n 1, 1) := by decide +kernel
theorem fx_Md_init_186 : decode fb_Md_init 186 = .ok (.iconst (-1), 1) := by decide +kernel
theorem fx_Md_init_187 : decode fb_Md_init 187 = .ok (.iastore, 1) := by decide +kernel
theorem fx_Md_init_188 : decode fb_Md_init 188 = .ok (.iinc 1 1, 3) := by decide +kernel
theorem fx_Md_init_191 : decode fb_Md_init 191 = .ok (.goto (-25), 3) := by decide +kernel
theorem fx_Md_init_194 : decode fb_Md_init 194 = .ok (.return_, 1) := by decide +kernel
theorem fx_Md_thrown_0 : decode fb_Md_thrown 0 = .ok (.aload_n 0, 1) := by decide +kernel
theorem fx_Md_thrown_1 : decode fb_Md_thrown 1 = .ok (.getfield 72, 3) := by decide +kernel
theorem fx_Md_thrown_4 : decode fb_Md_thrown 4 = .ok (.ireturn, 1) := by decide +kernel
theorem fx_Md_in_0 : decode fb_Md_in 0 = .ok (.iload_n 0, 1) := by decide +kernel
theorem fx_Md_in_1 : decode fb_Md_in 1 = .ok (.iload_n 1, 1) := by decide +kernel
theorem fx_Md_in_2 : decode fb_Md_in 2 = .ok (.if_icmp .lt 12, 3) := by decide +kernel
theorem fx_Md_in_5 : decode fb_Md_in 5 = .ok (.iload_n 0, 1) := by decide +kernel
theorem fx_Md_in_6 : decode fb_Md_in 6 = .ok (.iload_n 2, 1) := by decide +kernel
theorem fx_Md_in_7 : decode fb_Md_in 7 = .ok (.if_icmp .gt 7, 3) := by decide +kernel
theorem fx_Md_in_10 : decode fb_Md_in 10 = .ok (.iconst 1, 1) := by decide +kernel
theorem fx_Md_in_11 : decode fb_Md_in 11 = .ok (.goto 4, 3) := by decide +kernel
theorem fx_Md_in_14 : decode fb_Md_in 14 = .ok (.iconst 0, 1) := by decide +kernel
theorem fx_Md_in_15 : decode fb_Md_in 15 = .ok (.ireturn, 1) := by decide +kernel
theorem fx_Md_fail_0 : decode fb_Md_fail 0 = .ok (.aload_n 0, 1) := by decide +kernel
theorem fx_Md_fail_1 : decode fb_Md_fail 1 = .ok (.iload_n 1, 1) := by decide +kernel
theorem fx_Md_fail_2 : decode fb_Md_fail 2 = .ok (.putfield 72, 3) := by decide +kernel
theorem fx_Md_fail_5 : decode fb_Md_fail 5 = .ok (.iconst 0, 1) := by decide +kernel
theorem fx_Md_fail_6 : decode fb_Md_fail 6 = .ok (.ireturn, 1) := by decide +kernel
theorem fx_Md_isUrl_0 : decode fb_Md_isUrl 0 = .ok (.iload_n 0, 1) := by decide +kernel
theorem fx_Md_isUrl_1 : decode fb_Md_isUrl 1 = .ok (.iconst 0, 1) := by decide +kernel
theorem fx_Md_isUrl_2 : decode fb_Md_isUrl 2 = .ok (.bipush 47, 2) := by decide +kernel
theorem fx_Md_isUrl_4 : decode fb_Md_isUrl 4 = .ok (.invokestatic 76, 3) := by decide +kernel
theorem fx_Md_isUrl_7 : decode fb_Md_isUrl 7 = .ok (.ireturn, 1) := by decide +kernel
theorem fx_Md_serve_0 : decode fb_Md_serve 0 = .ok (.aload_n 0, 1) := by decide +kernel
theorem fx_Md_serve_1 : decode fb_Md_serve 1 = .ok (.iload_n 1, 1) := by decide +kernel
theorem fx_Md_serve_2 : decode fb_Md_serve 2 = .ok (.invokestatic 80, 3) := by decide +kernel
theorem fx_Md_serve_5 : decode fb_Md_serve 5 = .ok (.ifCond .eq 34, 3) := by decide +kernel
theorem fx_Md_serve_8 : decode fb_Md_serve 8 = .ok (.iload_n 2, 1) := by decide +kernel
theorem fx_Md_serve_9 : decode fb_Md_serve 9 = .ok (.sipush 200, 3) := by decide +kernel
theorem fx_Md_serve_12 : decode fb_Md_serve 12 = .ok (.sipush 599, 3) := by decide +kernel
theorem fx_Md_serve_15 : decode fb_Md_serve 15 = .ok (.invokestatic 76, 3) := by decide +kernel
theorem fx_Md_serve_18 : decode fb_Md_serve 18 = .ok (.ifCond .eq 21, 3) := by decide +kernel
theorem fx_Md_serve_21 : decode fb_Md_serve 21 = .ok (.iload 4, 2) := by decide +kernel
theorem fx_Md_serve_23 : decode fb_Md_serve 23 = .ok (.iconst (-1), 1) := by decide +kernel
theorem fx_Md_serve_24 : decode fb_Md_serve 24 = .ok (.if_icmp .eq 11, 3) := by decide +kernel
theorem fx_Md_serve_27 : decode fb_Md_serve 27 = .ok (.iload 4, 2) := by decide +kernel
theorem fx_Md_serve_29 : decode fb_Md_serve 29 = .ok (.invokestatic 80, 3) := by decide +kernel
theorem fx_Md_serve_32 : decode fb_Md_serve 32 = .ok (.ifCond .eq 7, 3) := by decide +kernel
theorem fx_Md_serve_35 : decode fb_Md_serve 35 = .ok (.iconst 0, 1) := by decide +kernel
theorem fx_Md_serve_36 : decode fb_Md_serve 36 = .ok (.goto 4, 3) := by decide +kernel
theorem fx_Md_serve_39 : decode fb_Md_serve 39 = .ok (.iconst 1, 1) := by decide +kernel
theorem fx_Md_serve_40 : decode fb_Md_serve 40 = .ok (.putfield 72, 3) := by decide +kernel
theorem fx_Md_serve_43 : decode fb_Md_serve 43 = .ok (.aload_n 0, 1) := by decide +kernel
theorem fx_Md_serve_44 : decode fb_Md_serve 44 = .ok (.getfield 72, 3) := by decide +kernel
theorem fx_Md_serve_47 : decode fb_Md_serve 47 = .ok (.ifCond .le 4, 3) := by decide +kernel
theorem fx_Md_serve_50 : decode fb_Md_serve 50 = .ok (.return_, 1) := by decide +kernel
theorem fx_Md_serve_51 : decode fb_Md_serve 51 = .ok (.aload_n 0, 1) := by decide +kernel
theorem fx_Md_serve_52 : decode fb_Md_serve 52 = .ok (.getfield 7, 3) := by decide +kernel
theorem fx_Md_serve_55 : decode fb_Md_serve 55 = .ok (.iload_n 1, 1) := by decide +kernel
theorem fx_Md_serve_56 : decode fb_Md_serve 56 = .ok (.iload_n 2, 1) := by decide +kernel
theorem fx_Md_serve_57 : decode fb_Md_serve 57 = .ok (.iastore, 1) := by decide +kernel
theorem fx_Md_serve_58 : decode fb_Md_serve 58 = .ok (.aload_n 0, 1) := by decide +kernel
theorem fx_Md_serve_59 : decode fb_Md_serve 59 = .ok (.getfield 13, 3) := by decide +kernel
theorem fx_Md_serve_62 : decode fb_Md_serve 62 = .ok (.iload_n 1, 1) := by decide +kernel
theorem fx_Md_serve_63 : decode fb_Md_serve 63 = .ok (.iload_n 3, 1) := by decide +kernel
theorem fx_Md_serve_64 : decode fb_Md_serve 64 = .ok (.iastore, 1) := by decide +kernel
theorem fx_Md_serve_65 : decode fb_Md_serve 65 = .ok (.aload_n 0, 1) := by decide +kernel
theorem fx_Md_serve_66 : decode fb_Md_serve 66 = .ok (.getfield 16, 3) := by decide +kernel
theorem fx_Md_serve_69 : decode fb_Md_serve 69 = .ok (.iload_n 1, 1) := by decide +kernel
theorem fx_Md_serve_70 : decode fb_Md_serve 70 = .ok (.iload 4, 2) := by decide +kernel
theorem fx_Md_serve_72 : decode fb_Md_serve 72 = .ok (.iastore, 1) := by decide +kernel
theorem fx_Md_serve_73 : decode fb_Md_serve 73 = .ok (.return_, 1) := by decide +kernel
theorem fx_Md_headers_0 : decode fb_Md_headers 0 = .ok (.aload_n 0, 1) := by decide +kernel
theorem fx_Md_headers_1 : decode fb_Md_headers 1 = .ok (.iload_n 1, 1) := by decide +kernel
theorem fx_Md_headers_2 : decode fb_Md_headers 2 = .ok (.invokestatic 80, 3) := by decide +kernel
theorem fx_Md_headers_5 : decode fb_Md_headers 5 = .ok (.ifCond .eq 27, 3) := by decide +kernel
theorem fx_Md_headers_8 : decode fb_Md_headers 8 = .ok (.iload_n 2, 1) := by decide +kernel
theorem fx_Md_headers_9 : decode fb_Md_headers 9 = .ok (.iconst 0, 1) := by decide +kernel
theorem fx_Md_headers_10 : decode fb_Md_headers 10 = .ok (.bipush 15, 2) := by decide +kernel
theorem fx_Md_headers_12 : decode fb_Md_headers 12 = .ok (.invokestatic 76, 3) := by decide +kernel
theorem fx_Md_headers_15 : decode fb_Md_headers 15 = .ok (.ifCond .eq 17, 3) := by decide +kernel
theorem fx_Md_headers_18 : decode fb_Md_headers 18 = .ok (.iload_n 3, 1) := by decide +kernel
theorem fx_Md_headers_19 : decode fb_Md_headers 19 = .ok (.iconst 0, 1) := by decide +kernel
theorem fx_Md_headers_20 : decode fb_Md_headers 20 = .ok (.bipush 15, 2) := by decide +kernel
theorem fx_Md_headers_22 : decode fb_Md_headers 22 = .ok (.invokestatic 76, 3) := by decide +kernel
theorem fx_Md_headers_25 : decode fb_Md_headers 25 = .ok (.ifCond .eq 7, 3) := by decide +kernel
theorem fx_Md_headers_28 : decode fb_Md_headers 28 = .ok (.iconst 0, 1) := by decide +kernel
theorem fx_Md_headers_29 : decode fb_Md_headers 29 = .ok (.goto 4, 3) := by decide +kernel
theorem fx_Md_headers_32 : decode fb_Md_headers 32 = .ok (.iconst 1, 1) := by decide +kernel
theorem fx_Md_headers_33 : decode fb_Md_headers 33 = .ok (.putfield 72, 3) := by decide +kernel
theorem fx_Md_headers_36 : decode fb_Md_headers 36 = .ok (.aload_n 0, 1) := by decide +kernel
theorem fx_Md_headers_37 : decode fb_Md_headers 37 = .ok (.getfield 72, 3) := by decide +kernel
theorem fx_Md_headers_40 : decode fb_Md_headers 40 = .ok (.ifCond .le 4, 3) := by decide +kernel
theorem fx_Md_headers_43 : decode fb_Md_headers 43 = .ok (.return_, 1) := by decide +kernel
theorem fx_Md_headers_44 : decode fb_Md_headers 44 = .ok (.aload_n 0, 1) := by decide +kernel
theorem fx_Md_headers_45 : decode fb_Md_headers 45 = .ok (.getfield 19, 3) := by decide +kernel
theorem fx_Md_headers_48 : decode fb_Md_headers 48 = .ok (.iload_n 1, 1) := by decide +kernel
theorem fx_Md_headers_49 : decode fb_Md_headers 49 = .ok (.iload_n 2, 1) := by decide +kernel
theorem fx_Md_headers_50 : decode fb_Md_headers 50 = .ok (.iastore, 1) := by decide +kernel
theorem fx_Md_headers_51 : decode fb_Md_headers 51 = .ok (.aload_n 0, 1) := by decide +kernel
theorem fx_Md_headers_52 : decode fb_Md_headers 52 = .ok (.getfield 22, 3) := by decide +kernel
theorem fx_Md_headers_55 : decode fb_Md_headers 55 = .ok (.iload_n 1, 1) := by decide +kernel
theorem fx_Md_headers_56 : decode fb_Md_headers 56 = .ok (.iload_n 3, 1) := by decide +kernel
theorem fx_Md_headers_57 : decode fb_Md_headers 57 = .ok (.iastore, 1) := by decide +kernel
theorem fx_Md_headers_58 : decode fb_Md_headers 58 = .ok (.return_, 1) := by decide +kernel
theorem fx_Md_allow_0 : decode fb_Md_allow 0 = .ok (.iload_n 1, 1) := by decide +kernel
theorem fx_Md_allow_1 : decode fb_Md_allow 1 = .ok (.invokestatic 80, 3) := by decide +kernel
theorem fx_Md_allow_4 : decode fb_Md_allow 4 = .ok (.ifCond .eq 14, 3) := by decide +kernel
theorem fx_Md_allow_7 : decode fb_Md_allow 7 = .ok (.iload_n 2, 1) := by decide +kernel
theorem fx_Md_allow_8 : decode fb_Md_allow 8 = .ok (.iconst 0, 1) := by decide +kernel
theorem fx_Md_allow_9 : decode fb_Md_allow 9 = .ok (.sipush 255, 3) := by decide +kernel
theorem fx_Md_allow_12 : decode fb_Md_allow 12 = .ok (.invokestatic 76, 3) := by decide +kernel
theorem fx_Md_allow_15 : decode fb_Md_allow 15 = .ok (.ifCond .ne 9, 3) := by decide +kernel
theorem fx_Md_allow_18 : decode fb_Md_allow 18 = .ok (.aload_n 0, 1) := by decide +kernel
theorem fx_Md_allow_19 : decode fb_Md_allow 19 = .ok (.iconst 1, 1) := by decide +kernel
theorem fx_Md_allow_20 : decode fb_Md_allow 20 = .ok (.invokevirtual 84, 3) := by decide +kernel
theorem fx_Md_allow_23 : decode fb_Md_allow 23 = .ok (.ireturn, 1) := by decide +kernel
theorem fx_Md_allow_24 : decode fb_Md_allow 24 = .ok (.aload_n 0, 1) := by decide +kernel
theorem fx_Md_allow_25 : decode fb_Md_allow 25 = .ok (.iconst 0, 1) := by decide +kernel
theorem fx_Md_allow_26 : decode fb_Md_allow 26 = .ok (.putfield 72, 3) := by decide +kernel
theorem fx_Md_allow_29 : decode fb_Md_allow 29 = .ok (.aload_n 0, 1) := by decide +kernel
theorem fx_Md_allow_30 : decode fb_Md_allow 30 = .ok (.getfield 25, 3) := by decide +kernel
theorem fx_Md_allow_33 : decode fb_Md_allow 33 = .ok (.iload_n 1, 1) := by decide +kernel
theorem fx_Md_allow_34 : decode fb_Md_allow 34 = .ok (.iaload, 1) := by decide +kernel
theorem fx_Md_allow_35 : decode fb_Md_allow 35 = .ok (.istore 4, 2) := by decide +kernel
theorem fx_Md_allow_37 : decode fb_Md_allow 37 = .ok (.aload_n 0, 1) := by decide +kernel
theorem fx_Md_allow_38 : decode fb_Md_allow 38 = .ok (.getfield 25, 3) := by decide +kernel
theorem fx_Md_allow_41 : decode fb_Md_allow 41 = .ok (.iload_n 1, 1) := by decide +kernel
theorem fx_Md_allow_42 : decode fb_Md_allow 42 = .ok (.iload_n 2, 1) := by decide +kernel
theorem fx_Md_allow_43 : decode fb_Md_allow 43 = .ok (.iastore, 1) := by decide +kernel
theorem fx_Md_allow_44 : decode fb_Md_allow 44 = .ok (.aload_n 0, 1) := by decide +kernel
theorem fx_Md_allow_45 : decode fb_Md_allow 45 = .ok (.getfield 40, 3) := by decide +kernel
theorem fx_Md_allow_48 : decode fb_Md_allow 48 = .ok (.iload_n 1, 1) := by decide +kernel
theorem fx_Md_allow_49 : decode fb_Md_allow 49 = .ok (.iload_n 3, 1) := by decide +kernel
theorem fx_Md_allow_50 : decode fb_Md_allow 50 = .ok (.bastore, 1) := by decide +kernel
theorem fx_Md_allow_51 : decode fb_Md_allow 51 = .ok (.iload 4, 2) := by decide +kernel
theorem fx_Md_allow_53 : decode fb_Md_allow 53 = .ok (.ireturn, 1) := by decide +kernel
theorem fx_Md_asked_0 : decode fb_Md_asked 0 = .ok (.aload_n 0, 1) := by decide +kernel
theorem fx_Md_asked_1 : decode fb_Md_asked 1 = .ok (.iload_n 1, 1) := by decide +kernel
theorem fx_Md_asked_2 : decode fb_Md_asked 2 = .ok (.invokestatic 80, 3) := by decide +kernel
theorem fx_Md_asked_5 : decode fb_Md_asked 5 = .ok (.ifCond .eq 44, 3) := by decide +kernel
theorem fx_Md_asked_8 : decode fb_Md_asked 8 = .ok (.iload_n 3, 1) := by decide +kernel
theorem fx_Md_asked_9 : decode fb_Md_asked 9 = .ok (.iconst 0, 1) := by decide +kernel
theorem fx_Md_asked_10 : decode fb_Md_asked 10 = .ok (.bipush 15, 2) := by decide +kernel
theorem fx_Md_asked_12 : decode fb_Md_asked 12 = .ok (.invokestatic 76, 3) := by decide +kernel
theorem fx_Md_asked_15 : decode fb_Md_asked 15 = .ok (.ifCond .eq 34, 3) := by decide +kernel
theorem fx_Md_asked_18 : decode fb_Md_asked 18 = .ok (.iload 4, 2) := by decide +kernel
theorem fx_Md_asked_20 : decode fb_Md_asked 20 = .ok (.iconst 0, 1) := by decide +kernel
theorem fx_Md_asked_21 : decode fb_Md_asked 21 = .ok (.bipush 15, 2) := by decide +kernel
theorem fx_Md_asked_23 : decode fb_Md_asked 23 = .ok (.invokestatic 76, 3) := by decide +kernel
theorem fx_Md_asked_26 : decode fb_Md_asked 26 = .ok (.ifCond .eq 23, 3) := by decide +kernel
theorem fx_Md_asked_29 : decode fb_Md_asked 29 = .ok (.dload 5, 2) := by decide +kernel
theorem fx_Md_asked_31 : decode fb_Md_asked 31 = .ok (.dconst 0, 1) := by decide +kernel
theorem fx_Md_asked_32 : decode fb_Md_asked 32 = .ok (.dcmp .l, 1) := by decide +kernel
theorem fx_Md_asked_33 : decode fb_Md_asked 33 = .ok (.ifCond .lt 16, 3) := by decide +kernel
theorem fx_Md_asked_36 : decode fb_Md_asked 36 = .ok (.dload 5, 2) := by decide +kernel
theorem fx_Md_asked_38 : decode fb_Md_asked 38 = .ok (.ldc2_w 88, 3) := by decide +kernel
theorem fx_Md_asked_41 : decode fb_Md_asked 41 = .ok (.dcmp .g, 1) := by decide +kernel
theorem fx_Md_asked_42 : decode fb_Md_asked 42 = .ok (.ifCond .gt 7, 3) := by decide +kernel
theorem fx_Md_asked_45 : decode fb_Md_asked 45 = .ok (.iconst 0, 1) := by decide +kernel
theorem fx_Md_asked_46 : decode fb_Md_asked 46 = .ok (.goto 4, 3) := by decide +kernel
theorem fx_Md_asked_49 : decode fb_Md_asked 49 = .ok (.iconst 1, 1) := by decide +kernel
theorem fx_Md_asked_50 : decode fb_Md_asked 50 = .ok (.putfield 72, 3) := by decide +kernel
theorem fx_Md_asked_53 : decode fb_Md_asked 53 = .ok (.aload_n 0, 1) := by decide +kernel
theorem fx_Md_asked_54 : decode fb_Md_asked 54 = .ok (.getfield 72, 3) := by decide +kernel
theorem fx_Md_asked_57 : decode fb_Md_asked 57 = .ok (.ifCond .le 4, 3) := by decide +kernel
theorem fx_Md_asked_60 : decode fb_Md_asked 60 = .ok (.return_, 1) := by decide +kernel
theorem fx_Md_asked_61 : decode fb_Md_asked 61 = .ok (.aload_n 0, 1) := by decide +kernel
theorem fx_Md_asked_62 : decode fb_Md_asked 62 = .ok (.getfield 44, 3) := by decide +kernel
theorem fx_Md_asked_65 : decode fb_Md_asked 65 = .ok (.iload_n 1, 1) := by decide +kernel
theorem fx_Md_asked_66 : decode fb_Md_asked 66 = .ok (.iload_n 2, 1) := by decide +kernel
theorem fx_Md_asked_67 : decode fb_Md_asked 67 = .ok (.bastore, 1) := by decide +kernel
theorem fx_Md_asked_68 : decode fb_Md_asked 68 = .ok (.aload_n 0, 1) := by decide +kernel
theorem fx_Md_asked_69 : decode fb_Md_asked 69 = .ok (.getfield 28, 3) := by decide +kernel
theorem fx_Md_asked_72 : decode fb_Md_asked 72 = .ok (.iload_n 1, 1) := by decide +kernel
theorem fx_Md_asked_73 : decode fb_Md_asked 73 = .ok (.iload_n 3, 1) := by decide +kernel
theorem fx_Md_asked_74 : decode fb_Md_asked 74 = .ok (.iastore, 1) := by decide +kernel
theorem fx_Md_asked_75 : decode fb_Md_asked 75 = .ok (.aload_n 0, 1) := by decide +kernel
theorem fx_Md_asked_76 : decode fb_Md_asked 76 = .ok (.getfield 31, 3) := by decide +kernel
theorem fx_Md_asked_79 : decode fb_Md_asked 79 = .ok (.iload_n 1, 1) := by decide +kernel
theorem fx_Md_asked_80 : decode fb_Md_asked 80 = .ok (.iload 4, 2) := by decide +kernel
theorem fx_Md_asked_82 : decode fb_Md_asked 82 = .ok (.iastore, 1) := by decide +kernel
theorem fx_Md_asked_83 : decode fb_Md_asked 83 = .ok (.aload_n 0, 1) := by decide +kernel
theorem fx_Md_asked_84 : decode fb_Md_asked 84 = .ok (.getfield 50, 3) := by decide +kernel
theorem fx_Md_asked_87 : decode fb_Md_asked 87 = .ok (.iload_n 1, 1) := by decide +kernel
theorem fx_Md_asked_88 : decode fb_Md_asked 88 = .ok (.dload 5, 2) := by decide +kernel
theorem fx_Md_asked_90 : decode fb_Md_asked 90 = .ok (.dastore, 1) := by decide +kernel
theorem fx_Md_asked_91 : decode fb_Md_asked 91 = .ok (.return_, 1) := by decide +kernel
theorem fx_Md_tick_0 : decode fb_Md_tick 0 = .ok (.aload_n 0, 1) := by decide +kernel
theorem fx_Md_tick_1 : decode fb_Md_tick 1 = .ok (.dload_n 1, 1) := by decide +kernel
theorem fx_Md_tick_2 : decode fb_Md_tick 2 = .ok (.dconst 0, 1) := by decide +kernel
theorem fx_Md_tick_3 : decode fb_Md_tick 3 = .ok (.dcmp .l, 1) := by decide +kernel
theorem fx_Md_tick_4 : decode fb_Md_tick 4 = .ok (.ifCond .le 15, 3) := by decide +kernel
theorem fx_Md_tick_7 : decode fb_Md_tick 7 = .ok (.dload_n 1, 1) := by decide +kernel
theorem fx_Md_tick_8 : decode fb_Md_tick 8 = .ok (.ldc2_w 90, 3) := by decide +kernel
theorem fx_Md_tick_11 : decode fb_Md_tick 11 = .ok (.dcmp .g, 1) := by decide +kernel
theorem fx_Md_tick_12 : decode fb_Md_tick 12 = .ok (.ifCond .gt 7, 3) := by decide +kernel
theorem fx_Md_tick_15 : decode fb_Md_tick 15 = .ok (.iconst 0, 1) := by decide +kernel
theorem fx_Md_tick_16 : decode fb_Md_tick 16 = .ok (.goto 4, 3) := by decide +kernel
theorem fx_Md_tick_19 : decode fb_Md_tick 19 = .ok (.iconst 1, 1) := by decide +kernel
theorem fx_Md_tick_20 : decode fb_Md_tick 20 = .ok (.putfield 72, 3) := by decide +kernel
theorem fx_Md_tick_23 : decode fb_Md_tick 23 = .ok (.aload_n 0, 1) := by decide +kernel
theorem fx_Md_tick_24 : decode fb_Md_tick 24 = .ok (.getfield 72, 3) := by decide +kernel
theorem fx_Md_tick_27 : decode fb_Md_tick 27 = .ok (.ifCond .le 5, 3) := by decide +kernel
theorem fx_Md_tick_30 : decode fb_Md_tick 30 = .ok (.dconst 0, 1) := by decide +kernel
theorem fx_Md_tick_31 : decode fb_Md_tick 31 = .ok (.dreturn, 1) := by decide +kernel
theorem fx_Md_tick_32 : decode fb_Md_tick 32 = .ok (.aload_n 0, 1) := by decide +kernel
theorem fx_Md_tick_33 : decode fb_Md_tick 33 = .ok (.aload_n 0, 1) := by decide +kernel
theorem fx_Md_tick_34 : decode fb_Md_tick 34 = .ok (.getfield 92, 3) := by decide +kernel
theorem fx_Md_tick_37 : decode fb_Md_tick 37 = .ok (.dload_n 1, 1) := by decide +kernel
theorem fx_Md_tick_38 : decode fb_Md_tick 38 = .ok (.dadd, 1) := by decide +kernel
theorem fx_Md_tick_39 : decode fb_Md_tick 39 = .ok (.putfield 92, 3) := by decide +kernel
theorem fx_Md_tick_42 : decode fb_Md_tick 42 = .ok (.aload_n 0, 1) := by decide +kernel
theorem fx_Md_tick_43 : decode fb_Md_tick 43 = .ok (.getfield 92, 3) := by decide +kernel
theorem fx_Md_tick_46 : decode fb_Md_tick 46 = .ok (.dreturn, 1) := by decide +kernel
theorem fx_Md_passes_0 : decode fb_Md_passes 0 = .ok (.aload_n 0, 1) := by decide +kernel
theorem fx_Md_passes_1 : decode fb_Md_passes 1 = .ok (.getfield 25, 3) := by decide +kernel
theorem fx_Md_passes_4 : decode fb_Md_passes 4 = .ok (.aload_n 0, 1) := by decide +kernel
theorem fx_Md_passes_5 : decode fb_Md_passes 5 = .ok (.getfield 96, 3) := by decide +kernel
theorem fx_Md_passes_8 : decode fb_Md_passes 8 = .ok (.iaload, 1) := by decide +kernel
theorem fx_Md_passes_9 : decode fb_Md_passes 9 = .ok (.aload_n 0, 1) := by decide +kernel
theorem fx_Md_passes_10 : decode fb_Md_passes 10 = .ok (.getfield 99, 3) := by decide +kernel
theorem fx_Md_passes_13 : decode fb_Md_passes 13 = .ok (.ishr, 1) := by decide +kernel
theorem fx_Md_passes_14 : decode fb_Md_passes 14 = .ok (.iconst 1, 1) := by decide +kernel
theorem fx_Md_passes_15 : decode fb_Md_passes 15 = .ok (.iand, 1) := by decide +kernel
theorem fx_Md_passes_16 : decode fb_Md_passes 16 = .ok (.iconst 1, 1) := by decide +kernel
theorem fx_Md_passes_17 : decode fb_Md_passes 17 = .ok (.if_icmp .ne 7, 3) := by decide +kernel
theorem fx_Md_passes_20 : decode fb_Md_passes 20 = .ok (.iconst 1, 1) := by decide +kernel
theorem fx_Md_passes_21 : decode fb_Md_passes 21 = .ok (.goto 4, 3) := by decide +kernel
theorem fx_Md_passes_24 : decode fb_Md_passes 24 = .ok (.iconst 0, 1) := by decide +kernel
theorem fx_Md_passes_25 : decode fb_Md_passes 25 = .ok (.istore_n 1, 1) := by decide +kernel
theorem fx_Md_passes_26 : decode fb_Md_passes 26 = .ok (.aload_n 0, 1) := by decide +kernel
theorem fx_Md_passes_27 : decode fb_Md_passes 27 = .ok (.getfield 25, 3) := by decide +kernel
theorem fx_Md_passes_30 : decode fb_Md_passes 30 = .ok (.aload_n 0, 1) := by decide +kernel
theorem fx_Md_passes_31 : decode fb_Md_passes 31 = .ok (.getfield 96, 3) := by decide +kernel
theorem fx_Md_passes_34 : decode fb_Md_passes 34 = .ok (.iaload, 1) := by decide +kernel
theorem fx_Md_passes_35 : decode fb_Md_passes 35 = .ok (.bipush 7, 2) := by decide +kernel
theorem fx_Md_passes_37 : decode fb_Md_passes 37 = .ok (.ishr, 1) := by decide +kernel
theorem fx_Md_passes_38 : decode fb_Md_passes 38 = .ok (.iconst 1, 1) := by decide +kernel
theorem fx_Md_passes_39 : decode fb_Md_passes 39 = .ok (.iand, 1) := by decide +kernel
theorem fx_Md_passes_40 : decode fb_Md_passes 40 = .ok (.iconst 1, 1) := by decide +kernel
theorem fx_Md_passes_41 : decode fb_Md_passes 41 = .ok (.if_icmp .ne 7, 3) := by decide +kernel
theorem fx_Md_passes_44 : decode fb_Md_passes 44 = .ok (.iconst 1, 1) := by decide +kernel
theorem fx_Md_passes_45 : decode fb_Md_passes 45 = .ok (.goto 4, 3) := by decide +kernel
theorem fx_Md_passes_48 : decode fb_Md_passes 48 = .ok (.iconst 0, 1) := by decide +kernel
theorem fx_Md_passes_49 : decode fb_Md_passes 49 = .ok (.istore_n 2, 1) := by decide +kernel
theorem fx_Md_passes_50 : decode fb_Md_passes 50 = .ok (.aload_n 0, 1) := by decide +kernel
theorem fx_Md_passes_51 : decode fb_Md_passes 51 = .ok (.getfield 102, 3) := by decide +kernel
theorem fx_Md_passes_54 : decode fb_Md_passes 54 = .ok (.ifCond .eq 27, 3) := by decide +kernel
theorem fx_Md_passes_57 : decode fb_Md_passes 57 = .ok (.iload_n 1, 1) := by decide +kernel
theorem fx_Md_passes_58 : decode fb_Md_passes 58 = .ok (.ifCond .eq 19, 3) := by decide +kernel
theorem fx_Md_passes_61 : decode fb_Md_passes 61 = .ok (.aload_n 0, 1) := by decide +kernel
theorem fx_Md_passes_62 : decode fb_Md_passes 62 = .ok (.getfield 40, 3) := by decide +kernel
theorem fx_Md_passes_65 : decode fb_Md_passes 65 = .ok (.aload_n 0, 1) := by decide +kernel
theorem fx_Md_passes_66 : decode fb_Md_passes 66 = .ok (.getfield 96, 3) := by decide +kernel
theorem fx_Md_passes_69 : decode fb_Md_passes 69 = .ok (.baload, 1) := by decide +kernel
theorem fx_Md_passes_70 : decode fb_Md_passes 70 = .ok (.ifCond .eq 7, 3) := by decide +kernel
theorem fx_Md_passes_73 : decode fb_Md_passes 73 = .ok (.iconst 1, 1) := by decide +kernel
theorem fx_Md_passes_74 : decode fb_Md_passes 74 = .ok (.goto 20, 3) := by decide +kernel
theorem fx_Md_passes_77 : decode fb_Md_passes 77 = .ok (.iconst 0, 1) := by decide +kernel
theorem fx_Md_passes_78 : decode fb_Md_passes 78 = .ok (.goto 16, 3) := by decide +kernel
theorem fx_Md_passes_81 : decode fb_Md_passes 81 = .ok (.iload_n 1, 1) := by decide +kernel
theorem fx_Md_passes_82 : decode fb_Md_passes 82 = .ok (.ifCond .ne 7, 3) := by decide +kernel
theorem fx_Md_passes_85 : decode fb_Md_passes 85 = .ok (.iload_n 2, 1) := by decide +kernel
theorem fx_Md_passes_86 : decode fb_Md_passes 86 = .ok (.ifCond .eq 7, 3) := by decide +kernel
theorem fx_Md_passes_89 : decode fb_Md_passes 89 = .ok (.iconst 1, 1) := by decide +kernel
theorem fx_Md_passes_90 : decode fb_Md_passes 90 = .ok (.goto 4, 3) := by decide +kernel
theorem fx_Md_passes_93 : decode fb_Md_passes 93 = .ok (.iconst 0, 1) := by decide +kernel
theorem fx_Md_passes_94 : decode fb_Md_passes 94 = .ok (.ireturn, 1) := by decide +kernel
theorem fx_Md_isSimple_0 : decode fb_Md_isSimple 0 = .ok (.iload_n 0, 1) := by decide +kernel
theorem fx_Md_isSimple_1 : decode fb_Md_isSimple 1 = .ok (.iconst 2, 1) := by decide +kernel
theorem fx_Md_isSimple_2 : decode fb_Md_isSimple 2 = .ok (.if_icmp .ge 7, 3) := by decide +kernel
theorem fx_Md_isSimple_5 : decode fb_Md_isSimple 5 = .ok (.iconst 1, 1) := by decide +kernel
theorem fx_Md_isSimple_6 : decode fb_Md_isSimple 6 = .ok (.goto 4, 3) := by decide +kernel
theorem fx_Md_isSimple_9 : decode fb_Md_isSimple 9 = .ok (.iconst 0, 1) := by decide +kernel
theorem fx_Md_isSimple_10 : decode fb_Md_isSimple 10 = .ok (.ireturn, 1) := by decide +kernel
theorem fx_Md_isSame_0 : decode fb_Md_isSame 0 = .ok (.aload_n 0, 1) := by decide +kernel
theorem fx_Md_isSame_1 : decode fb_Md_isSame 1 = .ok (.getfield 57, 3) := by decide +kernel
theorem fx_Md_isSame_4 : decode fb_Md_isSame 4 = .ok (.iload_n 1, 1) := by decide +kernel
theorem fx_Md_isSame_5 : decode fb_Md_isSame 5 = .ok (.iaload, 1) := by decide +kernel
theorem fx_Md_isSame_6 : decode fb_Md_isSame 6 = .ok (.aload_n 0, 1) := by decide +kernel
theorem fx_Md_isSame_7 : decode fb_Md_isSame 7 = .ok (.getfield 99, 3) := by decide +kernel
theorem fx_Md_isSame_10 : decode fb_Md_isSame 10 = .ok (.if_icmp .ne 33, 3) := by decide +kernel
theorem fx_Md_isSame_13 : decode fb_Md_isSame 13 = .ok (.aload_n 0, 1) := by decide +kernel
theorem fx_Md_isSame_14 : decode fb_Md_isSame 14 = .ok (.getfield 60, 3) := by decide +kernel
theorem fx_Md_isSame_17 : decode fb_Md_isSame 17 = .ok (.iload_n 1, 1) := by decide +kernel
theorem fx_Md_isSame_18 : decode fb_Md_isSame 18 = .ok (.iaload, 1) := by decide +kernel
theorem fx_Md_isSame_19 : decode fb_Md_isSame 19 = .ok (.aload_n 0, 1) := by decide +kernel
theorem fx_Md_isSame_20 : decode fb_Md_isSame 20 = .ok (.getfield 96, 3) := by decide +kernel
theorem fx_Md_isSame_23 : decode fb_Md_isSame 23 = .ok (.if_icmp .ne 20, 3) := by decide +kernel
theorem fx_Md_isSame_26 : decode fb_Md_isSame 26 = .ok (.aload_n 0, 1) := by decide +kernel
theorem fx_Md_isSame_27 : decode fb_Md_isSame 27 = .ok (.getfield 47, 3) := by decide +kernel
theorem fx_Md_isSame_30 : decode fb_Md_isSame 30 = .ok (.iload_n 1, 1) := by decide +kernel
theorem fx_Md_isSame_31 : decode fb_Md_isSame 31 = .ok (.baload, 1) := by decide +kernel
theorem fx_Md_isSame_32 : decode fb_Md_isSame 32 = .ok (.aload_n 0, 1) := by decide +kernel
theorem fx_Md_isSame_33 : decode fb_Md_isSame 33 = .ok (.getfield 102, 3) := by decide +kernel
theorem fx_Md_isSame_36 : decode fb_Md_isSame 36 = .ok (.if_icmp .ne 7, 3) := by decide +kernel
theorem fx_Md_isSame_39 : decode fb_Md_isSame 39 = .ok (.iconst 1, 1) := by decide +kernel
theorem fx_Md_isSame_40 : decode fb_Md_isSame 40 = .ok (.goto 4, 3) := by decide +kernel
theorem fx_Md_isSame_43 : decode fb_Md_isSame 43 = .ok (.iconst 0, 1) := by decide +kernel
theorem fx_Md_isSame_44 : decode fb_Md_isSame 44 = .ok (.ireturn, 1) := by decide +kernel
theorem fx_Md_isRemembered_0 : decode fb_Md_isRemembered 0 = .ok (.iconst 0, 1) := by decide +kernel
theorem fx_Md_isRemembered_1 : decode fb_Md_isRemembered 1 = .ok (.istore_n 1, 1) := by decide +kernel
theorem fx_Md_isRemembered_2 : decode fb_Md_isRemembered 2 = .ok (.iload_n 1, 1) := by decide +kernel
theorem fx_Md_isRemembered_3 : decode fb_Md_isRemembered 3 = .ok (.aload_n 0, 1) := by decide +kernel
theorem fx_Md_isRemembered_4 : decode fb_Md_isRemembered 4 = .ok (.getfield 106, 3) := by decide +kernel
theorem fx_Md_isRemembered_7 : decode fb_Md_isRemembered 7 = .ok (.if_icmp .ge 79, 3) := by decide +kernel
theorem fx_Md_isRemembered_10 : decode fb_Md_isRemembered 10 = .ok (.aload_n 0, 1) := by decide +kernel
theorem fx_Md_isRemembered_11 : decode fb_Md_isRemembered 11 = .ok (.iload_n 1, 1) := by decide +kernel
theorem fx_Md_isRemembered_12 : decode fb_Md_isRemembered 12 = .ok (.invokevirtual 109, 3) := by decide +kernel
theorem fx_Md_isRemembered_15 : decode fb_Md_isRemembered 15 = .ok (.ifCond .eq 65, 3) := by decide +kernel
theorem fx_Md_isRemembered_18 : decode fb_Md_isRemembered 18 = .ok (.aload_n 0, 1) := by decide +kernel
theorem fx_Md_isRemembered_19 : decode fb_Md_isRemembered 19 = .ok (.getfield 92, 3) := by decide +kernel
theorem fx_Md_isRemembered_22 : decode fb_Md_isRemembered 22 = .ok (.aload_n 0, 1) := by decide +kernel
theorem fx_Md_isRemembered_23 : decode fb_Md_isRemembered 23 = .ok (.getfield 54, 3) := by decide +kernel
theorem fx_Md_isRemembered_26 : decode fb_Md_isRemembered 26 = .ok (.iload_n 1, 1) := by decide +kernel
theorem fx_Md_isRemembered_27 : decode fb_Md_isRemembered 27 = .ok (.daload, 1) := by decide +kernel
theorem fx_Md_isRemembered_28 : decode fb_Md_isRemembered 28 = .ok (.dcmp .l, 1) := by decide +kernel
theorem fx_Md_isRemembered_29 : decode fb_Md_isRemembered 29 = .ok (.ifCond .lt 6, 3) := by decide +kernel
theorem fx_Md_isRemembered_32 : decode fb_Md_isRemembered 32 = .ok (.goto 48, 3) := by decide +kernel
theorem fx_Md_isRemembered_35 : decode fb_Md_isRemembered 35 = .ok (.aload_n 0, 1) := by decide +kernel
theorem fx_Md_isRemembered_36 : decode fb_Md_isRemembered 36 = .ok (.getfield 112, 3) := by decide +kernel
theorem fx_Md_isRemembered_39 : decode fb_Md_isRemembered 39 = .ok (.invokestatic 115, 3) := by decide +kernel
theorem fx_Md_isRemembered_42 : decode fb_Md_isRemembered 42 = .ok (.ifCond .ne 20, 3) := by decide +kernel
theorem fx_Md_isRemembered_45 : decode fb_Md_isRemembered 45 = .ok (.aload_n 0, 1) := by decide +kernel
theorem fx_Md_isRemembered_46 : decode fb_Md_isRemembered 46 = .ok (.getfield 63, 3) := by decide +kernel
theorem fx_Md_isRemembered_49 : decode fb_Md_isRemembered 49 = .ok (.iload_n 1, 1) := by decide +kernel
theorem fx_Md_isRemembered_50 : decode fb_Md_isRemembered 50 = .ok (.iaload, 1) := by decide +kernel
theorem fx_Md_isRemembered_51 : decode fb_Md_isRemembered 51 = .ok (.aload_n 0, 1) := by decide +kernel
theorem fx_Md_isRemembered_52 : decode fb_Md_isRemembered 52 = .ok (.getfield 112, 3) := by decide +kernel
theorem fx_Md_isRemembered_55 : decode fb_Md_isRemembered 55 = .ok (.ishr, 1) := by decide +kernel
theorem fx_Md_isRemembered_56 : decode fb_Md_isRemembered 56 = .ok (.iconst 1, 1) := by decide +kernel
theorem fx_Md_isRemembered_57 : decode fb_Md_isRemembered 57 = .ok (.iand, 1) := by decide +kernel
theorem fx_Md_isRemembered_58 : decode fb_Md_isRemembered 58 = .ok (.iconst 1, 1) := by decide +kernel
theorem fx_Md_isRemembered_59 : decode fb_Md_isRemembered 59 = .ok (.if_icmp .ne 21, 3) := by decide +kernel
theorem fx_Md_isRemembered_62 : decode fb_Md_isRemembered 62 = .ok (.aload_n 0, 1) := by decide +kernel
theorem fx_Md_isRemembered_63 : decode fb_Md_isRemembered 63 = .ok (.getfield 118, 3) := by decide +kernel
theorem fx_Md_isRemembered_66 : decode fb_Md_isRemembered 66 = .ok (.aload_n 0, 1) := by decide +kernel
theorem fx_Md_isRemembered_67 : decode fb_Md_isRemembered 67 = .ok (.getfield 66, 3) := by decide +kernel
theorem fx_Md_isRemembered_70 : decode fb_Md_isRemembered 70 = .ok (.iload_n 1, 1) := by decide +kernel
theorem fx_Md_isRemembered_71 : decode fb_Md_isRemembered 71 = .ok (.iaload, 1) := by decide +kernel
theorem fx_Md_isRemembered_72 : decode fb_Md_isRemembered 72 = .ok (.iconst (-1), 1) := by decide +kernel
theorem fx_Md_isRemembered_73 : decode fb_Md_isRemembered 73 = .ok (.ixor, 1) := by decide +kernel
theorem fx_Md_isRemembered_74 : decode fb_Md_isRemembered 74 = .ok (.iand, 1) := by decide +kernel
theorem fx_Md_isRemembered_75 : decode fb_Md_isRemembered 75 = .ok (.ifCond .ne 5, 3) := by decide +kernel
theorem fx_Md_isRemembered_78 : decode fb_Md_isRemembered 78 = .ok (.iconst 1, 1) := by decide +kernel
theorem fx_Md_isRemembered_79 : decode fb_Md_isRemembered 79 = .ok (.ireturn, 1) := by decide +kernel
theorem fx_Md_isRemembered_80 : decode fb_Md_isRemembered 80 = .ok (.iinc 1 1, 3) := by decide +kernel
theorem fx_Md_isRemembered_83 : decode fb_Md_isRemembered 83 = .ok (.goto (-81), 3) := by decide +kernel
theorem fx_Md_isRemembered_86 : decode fb_Md_isRemembered 86 = .ok (.iconst 0, 1) := by decide +kernel
theorem fx_Md_isRemembered_87 : decode fb_Md_isRemembered 87 = .ok (.ireturn, 1) := by decide +kernel
theorem fx_Md_forget_0 : decode fb_Md_forget 0 = .ok (.aload_n 0, 1) := by decide +kernel
theorem fx_Md_forget_1 : decode fb_Md_forget 1 = .ok (.dup, 1) := by decide +kernel
theorem fx_Md_forget_2 : decode fb_Md_forget 2 = .ok (.getfield 106, 3) := by decide +kernel
theorem fx_Md_forget_5 : decode fb_Md_forget 5 = .ok (.iconst 1, 1) := by decide +kernel
theorem fx_Md_forget_6 : decode fb_Md_forget 6 = .ok (.isub, 1) := by decide +kernel
theorem fx_Md_forget_7 : decode fb_Md_forget 7 = .ok (.putfield 106, 3) := by decide +kernel
theorem fx_Md_forget_10 : decode fb_Md_forget 10 = .ok (.iload_n 1, 1) := by decide +kernel
theorem fx_Md_forget_11 : decode fb_Md_forget 11 = .ok (.istore_n 2, 1) := by decide +kernel
theorem fx_Md_forget_12 : decode fb_Md_forget 12 = .ok (.iload_n 2, 1) := by decide +kernel
theorem fx_Md_forget_13 : decode fb_Md_forget 13 = .ok (.aload_n 0, 1) := by decide +kernel
theorem fx_Md_forget_14 : decode fb_Md_forget 14 = .ok (.getfield 106, 3) := by decide +kernel
theorem fx_Md_forget_17 : decode fb_Md_forget 17 = .ok (.if_icmp .ge 93, 3) := by decide +kernel
theorem fx_Md_forget_20 : decode fb_Md_forget 20 = .ok (.aload_n 0, 1) := by decide +kernel
theorem fx_Md_forget_21 : decode fb_Md_forget 21 = .ok (.getfield 57, 3) := by decide +kernel
theorem fx_Md_forget_24 : decode fb_Md_forget 24 = .ok (.iload_n 2, 1) := by decide +kernel
theorem fx_Md_forget_25 : decode fb_Md_forget 25 = .ok (.aload_n 0, 1) := by decide +kernel
theorem fx_Md_forget_26 : decode fb_Md_forget 26 = .ok (.getfield 57, 3) := by decide +kernel
theorem fx_Md_forget_29 : decode fb_Md_forget 29 = .ok (.iload_n 2, 1) := by decide +kernel
theorem fx_Md_forget_30 : decode fb_Md_forget 30 = .ok (.iconst 1, 1) := by decide +kernel
theorem fx_Md_forget_31 : decode fb_Md_forget 31 = .ok (.iadd, 1) := by decide +kernel
theorem fx_Md_forget_32 : decode fb_Md_forget 32 = .ok (.iaload, 1) := by decide +kernel
theorem fx_Md_forget_33 : decode fb_Md_forget 33 = .ok (.iastore, 1) := by decide +kernel
theorem fx_Md_forget_34 : decode fb_Md_forget 34 = .ok (.aload_n 0, 1) := by decide +kernel
theorem fx_Md_forget_35 : decode fb_Md_forget 35 = .ok (.getfield 60, 3) := by decide +kernel
theorem fx_Md_forget_38 : decode fb_Md_forget 38 = .ok (.iload_n 2, 1) := by decide +kernel
theorem fx_Md_forget_39 : decode fb_Md_forget 39 = .ok (.aload_n 0, 1) := by decide +kernel
theorem fx_Md_forget_40 : decode fb_Md_forget 40 = .ok (.getfield 60, 3) := by decide +kernel
theorem fx_Md_forget_43 : decode fb_Md_forget 43 = .ok (.iload_n 2, 1) := by decide +kernel
theorem fx_Md_forget_44 : decode fb_Md_forget 44 = .ok (.iconst 1, 1) := by decide +kernel
theorem fx_Md_forget_45 : decode fb_Md_forget 45 = .ok (.iadd, 1) := by decide +kernel
theorem fx_Md_forget_46 : decode fb_Md_forget 46 = .ok (.iaload, 1) := by decide +kernel
theorem fx_Md_forget_47 : decode fb_Md_forget 47 = .ok (.iastore, 1) := by decide +kernel
theorem fx_Md_forget_48 : decode fb_Md_forget 48 = .ok (.aload_n 0, 1) := by decide +kernel
theorem fx_Md_forget_49 : decode fb_Md_forget 49 = .ok (.getfield 47, 3) := by decide +kernel
theorem fx_Md_forget_52 : decode fb_Md_forget 52 = .ok (.iload_n 2, 1) := by decide +kernel
theorem fx_Md_forget_53 : decode fb_Md_forget 53 = .ok (.aload_n 0, 1) := by decide +kernel
theorem fx_Md_forget_54 : decode fb_Md_forget 54 = .ok (.getfield 47, 3) := by decide +kernel
theorem fx_Md_forget_57 : decode fb_Md_forget 57 = .ok (.iload_n 2, 1) := by decide +kernel
theorem fx_Md_forget_58 : decode fb_Md_forget 58 = .ok (.iconst 1, 1) := by decide +kernel
theorem fx_Md_forget_59 : decode fb_Md_forget 59 = .ok (.iadd, 1) := by decide +kernel
theorem fx_Md_forget_60 : decode fb_Md_forget 60 = .ok (.baload, 1) := by decide +kernel
theorem fx_Md_forget_61 : decode fb_Md_forget 61 = .ok (.bastore, 1) := by decide +kernel
theorem fx_Md_forget_62 : decode fb_Md_forget 62 = .ok (.aload_n 0, 1) := by decide +kernel
theorem fx_Md_forget_63 : decode fb_Md_forget 63 = .ok (.getfield 63, 3) := by decide +kernel
theorem fx_Md_forget_66 : decode fb_Md_forget 66 = .ok (.iload_n 2, 1) := by decide +kernel
theorem fx_Md_forget_67 : decode fb_Md_forget 67 = .ok (.aload_n 0, 1) := by decide +kernel
theorem fx_Md_forget_68 : decode fb_Md_forget 68 = .ok (.getfield 63, 3) := by decide +kernel
theorem fx_Md_forget_71 : decode fb_Md_forget 71 = .ok (.iload_n 2, 1) := by decide +kernel
theorem fx_Md_forget_72 : decode fb_Md_forget 72 = .ok (.iconst 1, 1) := by decide +kernel
theorem fx_Md_forget_73 : decode fb_Md_forget 73 = .ok (.iadd, 1) := by decide +kernel
theorem fx_Md_forget_74 : decode fb_Md_forget 74 = .ok (.iaload, 1) := by decide +kernel
theorem fx_Md_forget_75 : decode fb_Md_forget 75 = .ok (.iastore, 1) := by decide +kernel
theorem fx_Md_forget_76 : decode fb_Md_forget 76 = .ok (.aload_n 0, 1) := by decide +kernel
theorem fx_Md_forget_77 : decode fb_Md_forget 77 = .ok (.getfield 66, 3) := by decide +kernel
theorem fx_Md_forget_80 : decode fb_Md_forget 80 = .ok (.iload_n 2, 1) := by decide +kernel
theorem fx_Md_forget_81 : decode fb_Md_forget 81 = .ok (.aload_n 0, 1) := by decide +kernel
theorem fx_Md_forget_82 : decode fb_Md_forget 82 = .ok (.getfield 66, 3) := by decide +kernel
theorem fx_Md_forget_85 : decode fb_Md_forget 85 = .ok (.iload_n 2, 1) := by decide +kernel
theorem fx_Md_forget_86 : decode fb_Md_forget 86 = .ok (.iconst 1, 1) := by decide +kernel
theorem fx_Md_forget_87 : decode fb_Md_forget 87 = .ok (.iadd, 1) := by decide +kernel
theorem fx_Md_forget_88 : decode fb_Md_forget 88 = .ok (.iaload, 1) := by decide +kernel
theorem fx_Md_forget_89 : decode fb_Md_forget 89 = .ok (.iastore, 1) := by decide +kernel
theorem fx_Md_forget_90 : decode fb_Md_forget 90 = .ok (.aload_n 0, 1) := by decide +kernel
theorem fx_Md_forget_91 : decode fb_Md_forget 91 = .ok (.getfield 54, 3) := by decide +kernel
theorem fx_Md_forget_94 : decode fb_Md_forget 94 = .ok (.iload_n 2, 1) := by decide +kernel
theorem fx_Md_forget_95 : decode fb_Md_forget 95 = .ok (.aload_n 0, 1) := by decide +kernel
theorem fx_Md_forget_96 : decode fb_Md_forget 96 = .ok (.getfield 54, 3) := by decide +kernel
theorem fx_Md_forget_99 : decode fb_Md_forget 99 = .ok (.iload_n 2, 1) := by decide +kernel
theorem fx_Md_forget_100 : decode fb_Md_forget 100 = .ok (.iconst 1, 1) := by decide +kernel
theorem fx_Md_forget_101 : decode fb_Md_forget 101 = .ok (.iadd, 1) := by decide +kernel
theorem fx_Md_forget_102 : decode fb_Md_forget 102 = .ok (.daload, 1) := by decide +kernel
theorem fx_Md_forget_103 : decode fb_Md_forget 103 = .ok (.dastore, 1) := by decide +kernel
theorem fx_Md_forget_104 : decode fb_Md_forget 104 = .ok (.iinc 2 1, 3) := by decide +kernel
theorem fx_Md_forget_107 : decode fb_Md_forget 107 = .ok (.goto (-95), 3) := by decide +kernel
theorem fx_Md_forget_110 : decode fb_Md_forget 110 = .ok (.return_, 1) := by decide +kernel
theorem fx_Md_keep_0 : decode fb_Md_keep 0 = .ok (.aload_n 0, 1) := by decide +kernel
theorem fx_Md_keep_1 : decode fb_Md_keep 1 = .ok (.getfield 106, 3) := by decide +kernel
theorem fx_Md_keep_4 : decode fb_Md_keep 4 = .ok (.bipush 6, 2) := by decide +kernel
theorem fx_Md_keep_6 : decode fb_Md_keep 6 = .ok (.if_icmp .ne 44, 3) := by decide +kernel
theorem fx_Md_keep_9 : decode fb_Md_keep 9 = .ok (.iconst 0, 1) := by decide +kernel
theorem fx_Md_keep_10 : decode fb_Md_keep 10 = .ok (.istore_n 1, 1) := by decide +kernel
theorem fx_Md_keep_11 : decode fb_Md_keep 11 = .ok (.iconst 1, 1) := by decide +kernel
theorem fx_Md_keep_12 : decode fb_Md_keep 12 = .ok (.istore_n 2, 1) := by decide +kernel
theorem fx_Md_keep_13 : decode fb_Md_keep 13 = .ok (.iload_n 2, 1) := by decide +kernel
theorem fx_Md_keep_14 : decode fb_Md_keep 14 = .ok (.aload_n 0, 1) := by decide +kernel
theorem fx_Md_keep_15 : decode fb_Md_keep 15 = .ok (.getfield 106, 3) := by decide +kernel
theorem fx_Md_keep_18 : decode fb_Md_keep 18 = .ok (.if_icmp .ge 27, 3) := by decide +kernel
theorem fx_Md_keep_21 : decode fb_Md_keep 21 = .ok (.aload_n 0, 1) := by decide +kernel
theorem fx_Md_keep_22 : decode fb_Md_keep 22 = .ok (.getfield 54, 3) := by decide +kernel
theorem fx_Md_keep_25 : decode fb_Md_keep 25 = .ok (.iload_n 2, 1) := by decide +kernel
theorem fx_Md_keep_26 : decode fb_Md_keep 26 = .ok (.daload, 1) := by decide +kernel
theorem fx_Md_keep_27 : decode fb_Md_keep 27 = .ok (.aload_n 0, 1) := by decide +kernel
theorem fx_Md_keep_28 : decode fb_Md_keep 28 = .ok (.getfield 54, 3) := by decide +kernel
theorem fx_Md_keep_31 : decode fb_Md_keep 31 = .ok (.iload_n 1, 1) := by decide +kernel
theorem fx_Md_keep_32 : decode fb_Md_keep 32 = .ok (.daload, 1) := by decide +kernel
theorem fx_Md_keep_33 : decode fb_Md_keep 33 = .ok (.dcmp .g, 1) := by decide +kernel
theorem fx_Md_keep_34 : decode fb_Md_keep 34 = .ok (.ifCond .ge 5, 3) := by decide +kernel
theorem fx_Md_keep_37 : decode fb_Md_keep 37 = .ok (.iload_n 2, 1) := by decide +kernel
theorem fx_Md_keep_38 : decode fb_Md_keep 38 = .ok (.istore_n 1, 1) := by decide +kernel
theorem fx_Md_keep_39 : decode fb_Md_keep 39 = .ok (.iinc 2 1, 3) := by decide +kernel
theorem fx_Md_keep_42 : decode fb_Md_keep 42 = .ok (.goto (-29), 3) := by decide +kernel
theorem fx_Md_keep_45 : decode fb_Md_keep 45 = .ok (.aload_n 0, 1) := by decide +kernel
theorem fx_Md_keep_46 : decode fb_Md_keep 46 = .ok (.iload_n 1, 1) := by decide +kernel
theorem fx_Md_keep_47 : decode fb_Md_keep 47 = .ok (.invokevirtual 121, 3) := by decide +kernel
theorem fx_Md_keep_50 : decode fb_Md_keep 50 = .ok (.aload_n 0, 1) := by decide +kernel
theorem fx_Md_keep_51 : decode fb_Md_keep 51 = .ok (.getfield 57, 3) := by decide +kernel
theorem fx_Md_keep_54 : decode fb_Md_keep 54 = .ok (.aload_n 0, 1) := by decide +kernel
theorem fx_Md_keep_55 : decode fb_Md_keep 55 = .ok (.getfield 106, 3) := by decide +kernel
theorem fx_Md_keep_58 : decode fb_Md_keep 58 = .ok (.aload_n 0, 1) := by decide +kernel
theorem fx_Md_keep_59 : decode fb_Md_keep 59 = .ok (.getfield 99, 3) := by decide +kernel
theorem fx_Md_keep_62 : decode fb_Md_keep 62 = .ok (.iastore, 1) := by decide +kernel
theorem fx_Md_keep_63 : decode fb_Md_keep 63 = .ok (.aload_n 0, 1) := by decide +kernel
theorem fx_Md_keep_64 : decode fb_Md_keep 64 = .ok (.getfield 60, 3) := by decide +kernel
theorem fx_Md_keep_67 : decode fb_Md_keep 67 = .ok (.aload_n 0, 1) := by decide +kernel
theorem fx_Md_keep_68 : decode fb_Md_keep 68 = .ok (.getfield 106, 3) := by decide +kernel
theorem fx_Md_keep_71 : decode fb_Md_keep 71 = .ok (.aload_n 0, 1) := by decide +kernel
theorem fx_Md_keep_72 : decode fb_Md_keep 72 = .ok (.getfield 96, 3) := by decide +kernel
theorem fx_Md_keep_75 : decode fb_Md_keep 75 = .ok (.iastore, 1) := by decide +kernel
theorem fx_Md_keep_76 : decode fb_Md_keep 76 = .ok (.aload_n 0, 1) := by decide +kernel
theorem fx_Md_keep_77 : decode fb_Md_keep 77 = .ok (.getfield 47, 3) := by decide +kernel
theorem fx_Md_keep_80 : decode fb_Md_keep 80 = .ok (.aload_n 0, 1) := by decide +kernel
theorem fx_Md_keep_81 : decode fb_Md_keep 81 = .ok (.getfield 106, 3) := by decide +kernel
theorem fx_Md_keep_84 : decode fb_Md_keep 84 = .ok (.aload_n 0, 1) := by decide +kernel
theorem fx_Md_keep_85 : decode fb_Md_keep 85 = .ok (.getfield 102, 3) := by decide +kernel
theorem fx_Md_keep_88 : decode fb_Md_keep 88 = .ok (.bastore, 1) := by decide +kernel
theorem fx_Md_keep_89 : decode fb_Md_keep 89 = .ok (.aload_n 0, 1) := by decide +kernel
theorem fx_Md_keep_90 : decode fb_Md_keep 90 = .ok (.getfield 63, 3) := by decide +kernel
theorem fx_Md_keep_93 : decode fb_Md_keep 93 = .ok (.aload_n 0, 1) := by decide +kernel
theorem fx_Md_keep_94 : decode fb_Md_keep 94 = .ok (.getfield 106, 3) := by decide +kernel
theorem fx_Md_keep_97 : decode fb_Md_keep 97 = .ok (.aload_n 0, 1) := by decide +kernel
theorem fx_Md_keep_98 : decode fb_Md_keep 98 = .ok (.getfield 28, 3) := by decide +kernel
theorem fx_Md_keep_101 : decode fb_Md_keep 101 = .ok (.aload_n 0, 1) := by decide +kernel
theorem fx_Md_keep_102 : decode fb_Md_keep 102 = .ok (.getfield 96, 3) := by decide +kernel
theorem fx_Md_keep_105 : decode fb_Md_keep 105 = .ok (.iaload, 1) := by decide +kernel
theorem fx_Md_keep_106 : decode fb_Md_keep 106 = .ok (.iastore, 1) := by decide +kernel
theorem fx_Md_keep_107 : decode fb_Md_keep 107 = .ok (.aload_n 0, 1) := by decide +kernel
theorem fx_Md_keep_108 : decode fb_Md_keep 108 = .ok (.getfield 66, 3) := by decide +kernel
theorem fx_Md_keep_111 : decode fb_Md_keep 111 = .ok (.aload_n 0, 1) := by decide +kernel
theorem fx_Md_keep_112 : decode fb_Md_keep 112 = .ok (.getfield 106, 3) := by decide +kernel
theorem fx_Md_keep_115 : decode fb_Md_keep 115 = .ok (.aload_n 0, 1) := by decide +kernel
theorem fx_Md_keep_116 : decode fb_Md_keep 116 = .ok (.getfield 31, 3) := by decide +kernel
theorem fx_Md_keep_119 : decode fb_Md_keep 119 = .ok (.aload_n 0, 1) := by decide +kernel
theorem fx_Md_keep_120 : decode fb_Md_keep 120 = .ok (.getfield 96, 3) := by decide +kernel
theorem fx_Md_keep_123 : decode fb_Md_keep 123 = .ok (.iaload, 1) := by decide +kernel
theorem fx_Md_keep_124 : decode fb_Md_keep 124 = .ok (.iastore, 1) := by decide +kernel
theorem fx_Md_keep_125 : decode fb_Md_keep 125 = .ok (.aload_n 0, 1) := by decide +kernel
theorem fx_Md_keep_126 : decode fb_Md_keep 126 = .ok (.getfield 54, 3) := by decide +kernel
theorem fx_Md_keep_129 : decode fb_Md_keep 129 = .ok (.aload_n 0, 1) := by decide +kernel
theorem fx_Md_keep_130 : decode fb_Md_keep 130 = .ok (.getfield 106, 3) := by decide +kernel
theorem fx_Md_keep_133 : decode fb_Md_keep 133 = .ok (.aload_n 0, 1) := by decide +kernel
theorem fx_Md_keep_134 : decode fb_Md_keep 134 = .ok (.getfield 92, 3) := by decide +kernel
theorem fx_Md_keep_137 : decode fb_Md_keep 137 = .ok (.aload_n 0, 1) := by decide +kernel
theorem fx_Md_keep_138 : decode fb_Md_keep 138 = .ok (.getfield 50, 3) := by decide +kernel
theorem fx_Md_keep_141 : decode fb_Md_keep 141 = .ok (.aload_n 0, 1) := by decide +kernel
theorem fx_Md_keep_142 : decode fb_Md_keep 142 = .ok (.getfield 96, 3) := by decide +kernel
theorem fx_Md_keep_145 : decode fb_Md_keep 145 = .ok (.daload, 1) := by decide +kernel
theorem fx_Md_keep_146 : decode fb_Md_keep 146 = .ok (.ldc2_w 125, 3) := by decide +kernel
theorem fx_Md_keep_149 : decode fb_Md_keep 149 = .ok (.dcmp .l, 1) := by decide +kernel
theorem fx_Md_keep_150 : decode fb_Md_keep 150 = .ok (.ifCond .le 9, 3) := by decide +kernel
theorem fx_Md_keep_153 : decode fb_Md_keep 153 = .ok (.ldc2_w 125, 3) := by decide +kernel
theorem fx_Md_keep_156 : decode fb_Md_keep 156 = .ok (.goto 12, 3) := by decide +kernel
theorem fx_Md_keep_159 : decode fb_Md_keep 159 = .ok (.aload_n 0, 1) := by decide +kernel
theorem fx_Md_keep_160 : decode fb_Md_keep 160 = .ok (.getfield 50, 3) := by decide +kernel
theorem fx_Md_keep_163 : decode fb_Md_keep 163 = .ok (.aload_n 0, 1) := by decide +kernel
theorem fx_Md_keep_164 : decode fb_Md_keep 164 = .ok (.getfield 96, 3) := by decide +kernel
theorem fx_Md_keep_167 : decode fb_Md_keep 167 = .ok (.daload, 1) := by decide +kernel
theorem fx_Md_keep_168 : decode fb_Md_keep 168 = .ok (.dadd, 1) := by decide +kernel
theorem fx_Md_keep_169 : decode fb_Md_keep 169 = .ok (.dastore, 1) := by decide +kernel
theorem fx_Md_keep_170 : decode fb_Md_keep 170 = .ok (.aload_n 0, 1) := by decide +kernel
theorem fx_Md_keep_171 : decode fb_Md_keep 171 = .ok (.dup, 1) := by decide +kernel
theorem fx_Md_keep_172 : decode fb_Md_keep 172 = .ok (.getfield 106, 3) := by decide +kernel
theorem fx_Md_keep_175 : decode fb_Md_keep 175 = .ok (.iconst 1, 1) := by decide +kernel
theorem fx_Md_keep_176 : decode fb_Md_keep 176 = .ok (.iadd, 1) := by decide +kernel
theorem fx_Md_keep_177 : decode fb_Md_keep 177 = .ok (.putfield 106, 3) := by decide +kernel
theorem fx_Md_keep_180 : decode fb_Md_keep 180 = .ok (.return_, 1) := by decide +kernel
theorem fx_Md_ask_0 : decode fb_Md_ask 0 = .ok (.aload_n 0, 1) := by decide +kernel
theorem fx_Md_ask_1 : decode fb_Md_ask 1 = .ok (.dup, 1) := by decide +kernel
theorem fx_Md_ask_2 : decode fb_Md_ask 2 = .ok (.getfield 127, 3) := by decide +kernel
theorem fx_Md_ask_5 : decode fb_Md_ask 5 = .ok (.iconst 1, 1) := by decide +kernel
theorem fx_Md_ask_6 : decode fb_Md_ask 6 = .ok (.iadd, 1) := by decide +kernel
theorem fx_Md_ask_7 : decode fb_Md_ask 7 = .ok (.putfield 127, 3) := by decide +kernel
theorem fx_Md_ask_10 : decode fb_Md_ask 10 = .ok (.aload_n 0, 1) := by decide +kernel
theorem fx_Md_ask_11 : decode fb_Md_ask 11 = .ok (.getfield 106, 3) := by decide +kernel
theorem fx_Md_ask_14 : decode fb_Md_ask 14 = .ok (.iconst 1, 1) := by decide +kernel
theorem fx_Md_ask_15 : decode fb_Md_ask 15 = .ok (.isub, 1) := by decide +kernel
theorem fx_Md_ask_16 : decode fb_Md_ask 16 = .ok (.istore_n 1, 1) := by decide +kernel
theorem fx_Md_ask_17 : decode fb_Md_ask 17 = .ok (.iload_n 1, 1) := by decide +kernel
theorem fx_Md_ask_18 : decode fb_Md_ask 18 = .ok (.ifCond .lt 24, 3) := by decide +kernel
theorem fx_Md_ask_21 : decode fb_Md_ask 21 = .ok (.aload_n 0, 1) := by decide +kernel
theorem fx_Md_ask_22 : decode fb_Md_ask 22 = .ok (.iload_n 1, 1) := by decide +kernel
theorem fx_Md_ask_23 : decode fb_Md_ask 23 = .ok (.invokevirtual 109, 3) := by decide +kernel
theorem fx_Md_ask_26 : decode fb_Md_ask 26 = .ok (.istore_n 2, 1) := by decide +kernel
theorem fx_Md_ask_27 : decode fb_Md_ask 27 = .ok (.iload_n 2, 1) := by decide +kernel
theorem fx_Md_ask_28 : decode fb_Md_ask 28 = .ok (.ifCond .eq 8, 3) := by decide +kernel
theorem fx_Md_ask_31 : decode fb_Md_ask 31 = .ok (.aload_n 0, 1) := by decide +kernel
theorem fx_Md_ask_32 : decode fb_Md_ask 32 = .ok (.iload_n 1, 1) := by decide +kernel
theorem fx_Md_ask_33 : decode fb_Md_ask 33 = .ok (.invokevirtual 121, 3) := by decide +kernel
theorem fx_Md_ask_36 : decode fb_Md_ask 36 = .ok (.iinc 1 (-1), 3) := by decide +kernel
theorem fx_Md_ask_39 : decode fb_Md_ask 39 = .ok (.goto (-22), 3) := by decide +kernel
theorem fx_Md_ask_42 : decode fb_Md_ask 42 = .ok (.aload_n 0, 1) := by decide +kernel
theorem fx_Md_ask_43 : decode fb_Md_ask 43 = .ok (.getfield 44, 3) := by decide +kernel
theorem fx_Md_ask_46 : decode fb_Md_ask 46 = .ok (.aload_n 0, 1) := by decide +kernel
theorem fx_Md_ask_47 : decode fb_Md_ask 47 = .ok (.getfield 96, 3) := by decide +kernel
theorem fx_Md_ask_50 : decode fb_Md_ask 50 = .ok (.baload, 1) := by decide +kernel
theorem fx_Md_ask_51 : decode fb_Md_ask 51 = .ok (.ifCond .eq 63, 3) := by decide +kernel
theorem fx_Md_ask_54 : decode fb_Md_ask 54 = .ok (.aload_n 0, 1) := by decide +kernel
theorem fx_Md_ask_55 : decode fb_Md_ask 55 = .ok (.invokevirtual 130, 3) := by decide +kernel
theorem fx_Md_ask_58 : decode fb_Md_ask 58 = .ok (.ifCond .eq 56, 3) := by decide +kernel
theorem fx_Md_ask_61 : decode fb_Md_ask 61 = .ok (.aload_n 0, 1) := by decide +kernel
theorem fx_Md_ask_62 : decode fb_Md_ask 62 = .ok (.getfield 112, 3) := by decide +kernel
theorem fx_Md_ask_65 : decode fb_Md_ask 65 = .ok (.invokestatic 115, 3) := by decide +kernel
theorem fx_Md_ask_68 : decode fb_Md_ask 68 = .ok (.ifCond .ne 23, 3) := by decide +kernel
theorem fx_Md_ask_71 : decode fb_Md_ask 71 = .ok (.aload_n 0, 1) := by decide +kernel
theorem fx_Md_ask_72 : decode fb_Md_ask 72 = .ok (.getfield 28, 3) := by decide +kernel
theorem fx_Md_ask_75 : decode fb_Md_ask 75 = .ok (.aload_n 0, 1) := by decide +kernel
theorem fx_Md_ask_76 : decode fb_Md_ask 76 = .ok (.getfield 96, 3) := by decide +kernel
theorem fx_Md_ask_79 : decode fb_Md_ask 79 = .ok (.iaload, 1) := by decide +kernel
theorem fx_Md_ask_80 : decode fb_Md_ask 80 = .ok (.aload_n 0, 1) := by decide +kernel
theorem fx_Md_ask_81 : decode fb_Md_ask 81 = .ok (.getfield 112, 3) := by decide +kernel
theorem fx_Md_ask_84 : decode fb_Md_ask 84 = .ok (.ishr, 1) := by decide +kernel
theorem fx_Md_ask_85 : decode fb_Md_ask 85 = .ok (.iconst 1, 1) := by decide +kernel
theorem fx_Md_ask_86 : decode fb_Md_ask 86 = .ok (.iand, 1) := by decide +kernel
theorem fx_Md_ask_87 : decode fb_Md_ask 87 = .ok (.iconst 1, 1) := by decide +kernel
theorem fx_Md_ask_88 : decode fb_Md_ask 88 = .ok (.if_icmp .ne 26, 3) := by decide +kernel
theorem fx_Md_ask_91 : decode fb_Md_ask 91 = .ok (.aload_n 0, 1) := by decide +kernel
theorem fx_Md_ask_92 : decode fb_Md_ask 92 = .ok (.getfield 118, 3) := by decide +kernel
theorem fx_Md_ask_95 : decode fb_Md_ask 95 = .ok (.aload_n 0, 1) := by decide +kernel
theorem fx_Md_ask_96 : decode fb_Md_ask 96 = .ok (.getfield 31, 3) := by decide +kernel
theorem fx_Md_ask_99 : decode fb_Md_ask 99 = .ok (.aload_n 0, 1) := by decide +kernel
theorem fx_Md_ask_100 : decode fb_Md_ask 100 = .ok (.getfield 96, 3) := by decide +kernel
theorem fx_Md_ask_103 : decode fb_Md_ask 103 = .ok (.iaload, 1) := by decide +kernel
theorem fx_Md_ask_104 : decode fb_Md_ask 104 = .ok (.iconst (-1), 1) := by decide +kernel
theorem fx_Md_ask_105 : decode fb_Md_ask 105 = .ok (.ixor, 1) := by decide +kernel
theorem fx_Md_ask_106 : decode fb_Md_ask 106 = .ok (.iand, 1) := by decide +kernel
theorem fx_Md_ask_107 : decode fb_Md_ask 107 = .ok (.ifCond .ne 7, 3) := by decide +kernel
theorem fx_Md_ask_110 : decode fb_Md_ask 110 = .ok (.iconst 1, 1) := by decide +kernel
theorem fx_Md_ask_111 : decode fb_Md_ask 111 = .ok (.goto 4, 3) := by decide +kernel
theorem fx_Md_ask_114 : decode fb_Md_ask 114 = .ok (.iconst 0, 1) := by decide +kernel
theorem fx_Md_ask_115 : decode fb_Md_ask 115 = .ok (.istore_n 1, 1) := by decide +kernel
theorem fx_Md_ask_116 : decode fb_Md_ask 116 = .ok (.iload_n 1, 1) := by decide +kernel
theorem fx_Md_ask_117 : decode fb_Md_ask 117 = .ok (.ifCond .eq 30, 3) := by decide +kernel
theorem fx_Md_ask_120 : decode fb_Md_ask 120 = .ok (.aload_n 0, 1) := by decide +kernel
theorem fx_Md_ask_121 : decode fb_Md_ask 121 = .ok (.getfield 50, 3) := by decide +kernel
theorem fx_Md_ask_124 : decode fb_Md_ask 124 = .ok (.aload_n 0, 1) := by decide +kernel
theorem fx_Md_ask_125 : decode fb_Md_ask 125 = .ok (.getfield 96, 3) := by decide +kernel
theorem fx_Md_ask_128 : decode fb_Md_ask 128 = .ok (.daload, 1) := by decide +kernel
theorem fx_Md_ask_129 : decode fb_Md_ask 129 = .ok (.dconst 0, 1) := by decide +kernel
theorem fx_Md_ask_130 : decode fb_Md_ask 130 = .ok (.dcmp .l, 1) := by decide +kernel
theorem fx_Md_ask_131 : decode fb_Md_ask 131 = .ok (.ifCond .le 16, 3) := by decide +kernel
theorem fx_Md_ask_134 : decode fb_Md_ask 134 = .ok (.aload_n 0, 1) := by decide +kernel
theorem fx_Md_ask_135 : decode fb_Md_ask 135 = .ok (.getfield 99, 3) := by decide +kernel
theorem fx_Md_ask_138 : decode fb_Md_ask 138 = .ok (.bipush 6, 2) := by decide +kernel
theorem fx_Md_ask_140 : decode fb_Md_ask 140 = .ok (.if_icmp .eq 7, 3) := by decide +kernel
theorem fx_Md_ask_143 : decode fb_Md_ask 143 = .ok (.aload_n 0, 1) := by decide +kernel
theorem fx_Md_ask_144 : decode fb_Md_ask 144 = .ok (.invokevirtual 134, 3) := by decide +kernel
theorem fx_Md_ask_147 : decode fb_Md_ask 147 = .ok (.iload_n 1, 1) := by decide +kernel
theorem fx_Md_ask_148 : decode fb_Md_ask 148 = .ok (.ireturn, 1) := by decide +kernel
theorem fx_Md_isMoved_0 : decode fb_Md_isMoved 0 = .ok (.iload_n 0, 1) := by decide +kernel
theorem fx_Md_isMoved_1 : decode fb_Md_isMoved 1 = .ok (.sipush 301, 3) := by decide +kernel
theorem fx_Md_isMoved_4 : decode fb_Md_isMoved 4 = .ok (.sipush 303, 3) := by decide +kernel
theorem fx_Md_isMoved_7 : decode fb_Md_isMoved 7 = .ok (.invokestatic 76, 3) := by decide +kernel
theorem fx_Md_isMoved_10 : decode fb_Md_isMoved 10 = .ok (.ifCond .ne 17, 3) := by decide +kernel
theorem fx_Md_isMoved_13 : decode fb_Md_isMoved 13 = .ok (.iload_n 0, 1) := by decide +kernel
theorem fx_Md_isMoved_14 : decode fb_Md_isMoved 14 = .ok (.sipush 307, 3) := by decide +kernel
theorem fx_Md_isMoved_17 : decode fb_Md_isMoved 17 = .ok (.if_icmp .eq 10, 3) := by decide +kernel
theorem fx_Md_isMoved_20 : decode fb_Md_isMoved 20 = .ok (.iload_n 0, 1) := by decide +kernel
theorem fx_Md_isMoved_21 : decode fb_Md_isMoved 21 = .ok (.sipush 308, 3) := by decide +kernel
theorem fx_Md_isMoved_24 : decode fb_Md_isMoved 24 = .ok (.if_icmp .ne 7, 3) := by decide +kernel
theorem fx_Md_isMoved_27 : decode fb_Md_isMoved 27 = .ok (.iconst 1, 1) := by decide +kernel
theorem fx_Md_isMoved_28 : decode fb_Md_isMoved 28 = .ok (.goto 4, 3) := by decide +kernel
theorem fx_Md_isMoved_31 : decode fb_Md_isMoved 31 = .ok (.iconst 0, 1) := by decide +kernel
theorem fx_Md_isMoved_32 : decode fb_Md_isMoved 32 = .ok (.ireturn, 1) := by decide +kernel
theorem fx_Md_move_0 : decode fb_Md_move 0 = .ok (.aload_n 0, 1) := by decide +kernel
theorem fx_Md_move_1 : decode fb_Md_move 1 = .ok (.getfield 7, 3) := by decide +kernel
theorem fx_Md_move_4 : decode fb_Md_move 4 = .ok (.aload_n 0, 1) := by decide +kernel
theorem fx_Md_move_5 : decode fb_Md_move 5 = .ok (.getfield 96, 3) := by decide +kernel
theorem fx_Md_move_8 : decode fb_Md_move 8 = .ok (.iaload, 1) := by decide +kernel
theorem fx_Md_move_9 : decode fb_Md_move 9 = .ok (.istore_n 1, 1) := by decide +kernel
theorem fx_Md_move_10 : decode fb_Md_move 10 = .ok (.aload_n 0, 1) := by decide +kernel
theorem fx_Md_move_11 : decode fb_Md_move 11 = .ok (.getfield 16, 3) := by decide +kernel
theorem fx_Md_move_14 : decode fb_Md_move 14 = .ok (.aload_n 0, 1) := by decide +kernel
theorem fx_Md_move_15 : decode fb_Md_move 15 = .ok (.getfield 96, 3) := by decide +kernel
theorem fx_Md_move_18 : decode fb_Md_move 18 = .ok (.iaload, 1) := by decide +kernel
theorem fx_Md_move_19 : decode fb_Md_move 19 = .ok (.istore_n 2, 1) := by decide +kernel
theorem fx_Md_move_20 : decode fb_Md_move 20 = .ok (.iload_n 2, 1) := by decide +kernel
theorem fx_Md_move_21 : decode fb_Md_move 21 = .ok (.bipush 8, 2) := by decide +kernel
theorem fx_Md_move_23 : decode fb_Md_move 23 = .ok (.idiv, 1) := by decide +kernel
theorem fx_Md_move_24 : decode fb_Md_move 24 = .ok (.aload_n 0, 1) := by decide +kernel
theorem fx_Md_move_25 : decode fb_Md_move 25 = .ok (.getfield 96, 3) := by decide +kernel
theorem fx_Md_move_28 : decode fb_Md_move 28 = .ok (.bipush 8, 2) := by decide +kernel
theorem fx_Md_move_30 : decode fb_Md_move 30 = .ok (.idiv, 1) := by decide +kernel
theorem fx_Md_move_31 : decode fb_Md_move 31 = .ok (.if_icmp .eq 23, 3) := by decide +kernel
theorem fx_Md_move_34 : decode fb_Md_move 34 = .ok (.aload_n 0, 1) := by decide +kernel
theorem fx_Md_move_35 : decode fb_Md_move 35 = .ok (.getfield 96, 3) := by decide +kernel
theorem fx_Md_move_38 : decode fb_Md_move 38 = .ok (.bipush 8, 2) := by decide +kernel
theorem fx_Md_move_40 : decode fb_Md_move 40 = .ok (.idiv, 1) := by decide +kernel
theorem fx_Md_move_41 : decode fb_Md_move 41 = .ok (.aload_n 0, 1) := by decide +kernel
theorem fx_Md_move_42 : decode fb_Md_move 42 = .ok (.getfield 99, 3) := by decide +kernel
theorem fx_Md_move_45 : decode fb_Md_move 45 = .ok (.if_icmp .eq 9, 3) := by decide +kernel
theorem fx_Md_move_48 : decode fb_Md_move 48 = .ok (.aload_n 0, 1) := by decide +kernel
theorem fx_Md_move_49 : decode fb_Md_move 49 = .ok (.bipush 6, 2) := by decide +kernel
theorem fx_Md_move_51 : decode fb_Md_move 51 = .ok (.putfield 99, 3) := by decide +kernel
theorem fx_Md_move_54 : decode fb_Md_move 54 = .ok (.iload_n 1, 1) := by decide +kernel
theorem fx_Md_move_55 : decode fb_Md_move 55 = .ok (.sipush 303, 3) := by decide +kernel
theorem fx_Md_move_58 : decode fb_Md_move 58 = .ok (.if_icmp .ge 11, 3) := by decide +kernel
theorem fx_Md_move_61 : decode fb_Md_move 61 = .ok (.aload_n 0, 1) := by decide +kernel
theorem fx_Md_move_62 : decode fb_Md_move 62 = .ok (.getfield 112, 3) := by decide +kernel
theorem fx_Md_move_65 : decode fb_Md_move 65 = .ok (.iconst 1, 1) := by decide +kernel
theorem fx_Md_move_66 : decode fb_Md_move 66 = .ok (.if_icmp .eq 17, 3) := by decide +kernel
theorem fx_Md_move_69 : decode fb_Md_move 69 = .ok (.iload_n 1, 1) := by decide +kernel
theorem fx_Md_move_70 : decode fb_Md_move 70 = .ok (.sipush 303, 3) := by decide +kernel
theorem fx_Md_move_73 : decode fb_Md_move 73 = .ok (.if_icmp .ne 20, 3) := by decide +kernel
theorem fx_Md_move_76 : decode fb_Md_move 76 = .ok (.aload_n 0, 1) := by decide +kernel
theorem fx_Md_move_77 : decode fb_Md_move 77 = .ok (.getfield 112, 3) := by decide +kernel
theorem fx_Md_move_80 : decode fb_Md_move 80 = .ok (.ifCond .eq 13, 3) := by decide +kernel
theorem fx_Md_move_83 : decode fb_Md_move 83 = .ok (.aload_n 0, 1) := by decide +kernel
theorem fx_Md_move_84 : decode fb_Md_move 84 = .ok (.iconst 0, 1) := by decide +kernel
theorem fx_Md_move_85 : decode fb_Md_move 85 = .ok (.putfield 112, 3) := by decide +kernel
theorem fx_Md_move_88 : decode fb_Md_move 88 = .ok (.aload_n 0, 1) := by decide +kernel
theorem fx_Md_move_89 : decode fb_Md_move 89 = .ok (.iconst 0, 1) := by decide +kernel
theorem fx_Md_move_90 : decode fb_Md_move 90 = .ok (.putfield 118, 3) := by decide +kernel
theorem fx_Md_move_93 : decode fb_Md_move 93 = .ok (.aload_n 0, 1) := by decide +kernel
theorem fx_Md_move_94 : decode fb_Md_move 94 = .ok (.iload_n 2, 1) := by decide +kernel
theorem fx_Md_move_95 : decode fb_Md_move 95 = .ok (.putfield 96, 3) := by decide +kernel
theorem fx_Md_move_98 : decode fb_Md_move 98 = .ok (.return_, 1) := by decide +kernel
theorem fx_Md_answer_0 : decode fb_Md_answer 0 = .ok (.aload_n 0, 1) := by decide +kernel
theorem fx_Md_answer_1 : decode fb_Md_answer 1 = .ok (.getfield 69, 3) := by decide +kernel
theorem fx_Md_answer_4 : decode fb_Md_answer 4 = .ok (.bipush 9, 2) := by decide +kernel
theorem fx_Md_answer_6 : decode fb_Md_answer 6 = .ok (.iload_n 1, 1) := by decide +kernel
theorem fx_Md_answer_7 : decode fb_Md_answer 7 = .ok (.iastore, 1) := by decide +kernel
theorem fx_Md_answer_8 : decode fb_Md_answer 8 = .ok (.iload_n 1, 1) := by decide +kernel
theorem fx_Md_answer_9 : decode fb_Md_answer 9 = .ok (.iconst 1, 1) := by decide +kernel
theorem fx_Md_answer_10 : decode fb_Md_answer 10 = .ok (.if_icmp .le 4, 3) := by decide +kernel
theorem fx_Md_answer_13 : decode fb_Md_answer 13 = .ok (.return_, 1) := by decide +kernel
theorem fx_Md_answer_14 : decode fb_Md_answer 14 = .ok (.aload_n 0, 1) := by decide +kernel
theorem fx_Md_answer_15 : decode fb_Md_answer 15 = .ok (.getfield 69, 3) := by decide +kernel
theorem fx_Md_answer_18 : decode fb_Md_answer 18 = .ok (.bipush 6, 2) := by decide +kernel
theorem fx_Md_answer_20 : decode fb_Md_answer 20 = .ok (.aload_n 0, 1) := by decide +kernel
theorem fx_Md_answer_21 : decode fb_Md_answer 21 = .ok (.getfield 7, 3) := by decide +kernel
theorem fx_Md_answer_24 : decode fb_Md_answer 24 = .ok (.aload_n 0, 1) := by decide +kernel
theorem fx_Md_answer_25 : decode fb_Md_answer 25 = .ok (.getfield 96, 3) := by decide +kernel
theorem fx_Md_answer_28 : decode fb_Md_answer 28 = .ok (.iaload, 1) := by decide +kernel
theorem fx_Md_answer_29 : decode fb_Md_answer 29 = .ok (.iastore, 1) := by decide +kernel
theorem fx_Md_answer_30 : decode fb_Md_answer 30 = .ok (.aload_n 0, 1) := by decide +kernel
theorem fx_Md_answer_31 : decode fb_Md_answer 31 = .ok (.getfield 69, 3) := by decide +kernel
theorem fx_Md_answer_34 : decode fb_Md_answer 34 = .ok (.bipush 7, 2) := by decide +kernel
theorem fx_Md_answer_36 : decode fb_Md_answer 36 = .ok (.aload_n 0, 1) := by decide +kernel
theorem fx_Md_answer_37 : decode fb_Md_answer 37 = .ok (.getfield 13, 3) := by decide +kernel
theorem fx_Md_answer_40 : decode fb_Md_answer 40 = .ok (.aload_n 0, 1) := by decide +kernel
theorem fx_Md_answer_41 : decode fb_Md_answer 41 = .ok (.getfield 96, 3) := by decide +kernel
theorem fx_Md_answer_44 : decode fb_Md_answer 44 = .ok (.iaload, 1) := by decide +kernel
theorem fx_Md_answer_45 : decode fb_Md_answer 45 = .ok (.iastore, 1) := by decide +kernel
theorem fx_Md_answer_46 : decode fb_Md_answer 46 = .ok (.aload_n 0, 1) := by decide +kernel
theorem fx_Md_answer_47 : decode fb_Md_answer 47 = .ok (.getfield 69, 3) := by decide +kernel
theorem fx_Md_answer_50 : decode fb_Md_answer 50 = .ok (.bipush 8, 2) := by decide +kernel
theorem fx_Md_answer_52 : decode fb_Md_answer 52 = .ok (.iload_n 1, 1) := by decide +kernel
theorem fx_Md_answer_53 : decode fb_Md_answer 53 = .ok (.ifCond .ne 15, 3) := by decide +kernel
theorem fx_Md_answer_56 : decode fb_Md_answer 56 = .ok (.aload_n 0, 1) := by decide +kernel
theorem fx_Md_answer_57 : decode fb_Md_answer 57 = .ok (.getfield 19, 3) := by decide +kernel
theorem fx_Md_answer_60 : decode fb_Md_answer 60 = .ok (.aload_n 0, 1) := by decide +kernel
theorem fx_Md_answer_61 : decode fb_Md_answer 61 = .ok (.getfield 96, 3) := by decide +kernel
theorem fx_Md_answer_64 : decode fb_Md_answer 64 = .ok (.iaload, 1) := by decide +kernel
theorem fx_Md_answer_65 : decode fb_Md_answer 65 = .ok (.goto 22, 3) := by decide +kernel
theorem fx_Md_answer_68 : decode fb_Md_answer 68 = .ok (.aload_n 0, 1) := by decide +kernel
theorem fx_Md_answer_69 : decode fb_Md_answer 69 = .ok (.getfield 19, 3) := by decide +kernel
theorem fx_Md_answer_72 : decode fb_Md_answer 72 = .ok (.aload_n 0, 1) := by decide +kernel
theorem fx_Md_answer_73 : decode fb_Md_answer 73 = .ok (.getfield 96, 3) := by decide +kernel
theorem fx_Md_answer_76 : decode fb_Md_answer 76 = .ok (.iaload, 1) := by decide +kernel
theorem fx_Md_answer_77 : decode fb_Md_answer 77 = .ok (.aload_n 0, 1) := by decide +kernel
theorem fx_Md_answer_78 : decode fb_Md_answer 78 = .ok (.getfield 22, 3) := by decide +kernel
theorem fx_Md_answer_81 : decode fb_Md_answer 81 = .ok (.aload_n 0, 1) := by decide +kernel
theorem fx_Md_answer_82 : decode fb_Md_answer 82 = .ok (.getfield 96, 3) := by decide +kernel
theorem fx_Md_answer_85 : decode fb_Md_answer 85 = .ok (.iaload, 1) := by decide +kernel
theorem fx_Md_answer_86 : decode fb_Md_answer 86 = .ok (.iand, 1) := by decide +kernel
theorem fx_Md_answer_87 : decode fb_Md_answer 87 = .ok (.iastore, 1) := by decide +kernel
theorem fx_Md_answer_88 : decode fb_Md_answer 88 = .ok (.return_, 1) := by decide +kernel
theorem fx_Md_go_0 : decode fb_Md_go 0 = .ok (.iconst 0, 1) := by decide +kernel
theorem fx_Md_go_1 : decode fb_Md_go 1 = .ok (.istore 4, 2) := by decide +kernel
theorem fx_Md_go_3 : decode fb_Md_go 3 = .ok (.iconst 0, 1) := by decide +kernel
theorem fx_Md_go_4 : decode fb_Md_go 4 = .ok (.istore 5, 2) := by decide +kernel
theorem fx_Md_go_6 : decode fb_Md_go 6 = .ok (.aload_n 0, 1) := by decide +kernel
theorem fx_Md_go_7 : decode fb_Md_go 7 = .ok (.getfield 96, 3) := by decide +kernel
theorem fx_Md_go_10 : decode fb_Md_go 10 = .ok (.bipush 8, 2) := by decide +kernel
theorem fx_Md_go_12 : decode fb_Md_go 12 = .ok (.idiv, 1) := by decide +kernel
theorem fx_Md_go_13 : decode fb_Md_go 13 = .ok (.aload_n 0, 1) := by decide +kernel
theorem fx_Md_go_14 : decode fb_Md_go 14 = .ok (.getfield 99, 3) := by decide +kernel
theorem fx_Md_go_17 : decode fb_Md_go 17 = .ok (.if_icmp .ne 12, 3) := by decide +kernel
theorem fx_Md_go_20 : decode fb_Md_go 20 = .ok (.iload 4, 2) := by decide +kernel
theorem fx_Md_go_22 : decode fb_Md_go 22 = .ok (.ifCond .ne 7, 3) := by decide +kernel
theorem fx_Md_go_25 : decode fb_Md_go 25 = .ok (.iconst 1, 1) := by decide +kernel
theorem fx_Md_go_26 : decode fb_Md_go 26 = .ok (.goto 4, 3) := by decide +kernel
theorem fx_Md_go_29 : decode fb_Md_go 29 = .ok (.iconst 0, 1) := by decide +kernel
theorem fx_Md_go_30 : decode fb_Md_go 30 = .ok (.istore 6, 2) := by decide +kernel
theorem fx_Md_go_32 : decode fb_Md_go 32 = .ok (.iload 6, 2) := by decide +kernel
theorem fx_Md_go_34 : decode fb_Md_go 34 = .ok (.ifCond .ne 7, 3) := by decide +kernel
theorem fx_Md_go_37 : decode fb_Md_go 37 = .ok (.iconst 1, 1) := by decide +kernel
theorem fx_Md_go_38 : decode fb_Md_go 38 = .ok (.goto 4, 3) := by decide +kernel
theorem fx_Md_go_41 : decode fb_Md_go 41 = .ok (.iconst 0, 1) := by decide +kernel
theorem fx_Md_go_42 : decode fb_Md_go 42 = .ok (.istore 4, 2) := by decide +kernel
theorem fx_Md_go_44 : decode fb_Md_go 44 = .ok (.aload_n 0, 1) := by decide +kernel
theorem fx_Md_go_45 : decode fb_Md_go 45 = .ok (.iload_n 2, 1) := by decide +kernel
theorem fx_Md_go_46 : decode fb_Md_go 46 = .ok (.iconst 2, 1) := by decide +kernel
theorem fx_Md_go_47 : decode fb_Md_go 47 = .ok (.if_icmp .eq 13, 3) := by decide +kernel
theorem fx_Md_go_50 : decode fb_Md_go 50 = .ok (.iload_n 2, 1) := by decide +kernel
theorem fx_Md_go_51 : decode fb_Md_go 51 = .ok (.iconst 1, 1) := by decide +kernel
theorem fx_Md_go_52 : decode fb_Md_go 52 = .ok (.if_icmp .ne 12, 3) := by decide +kernel
theorem fx_Md_go_55 : decode fb_Md_go 55 = .ok (.iload 6, 2) := by decide +kernel
theorem fx_Md_go_57 : decode fb_Md_go 57 = .ok (.ifCond .eq 7, 3) := by decide +kernel
theorem fx_Md_go_60 : decode fb_Md_go 60 = .ok (.iconst 1, 1) := by decide +kernel
theorem fx_Md_go_61 : decode fb_Md_go 61 = .ok (.goto 4, 3) := by decide +kernel
theorem fx_Md_go_64 : decode fb_Md_go 64 = .ok (.iconst 0, 1) := by decide +kernel
theorem fx_Md_go_65 : decode fb_Md_go 65 = .ok (.putfield 102, 3) := by decide +kernel
theorem fx_Md_go_68 : decode fb_Md_go 68 = .ok (.aload_n 0, 1) := by decide +kernel
theorem fx_Md_go_69 : decode fb_Md_go 69 = .ok (.getfield 69, 3) := by decide +kernel
theorem fx_Md_go_72 : decode fb_Md_go 72 = .ok (.iconst 1, 1) := by decide +kernel
theorem fx_Md_go_73 : decode fb_Md_go 73 = .ok (.dup2, 1) := by decide +kernel
theorem fx_Md_go_74 : decode fb_Md_go 74 = .ok (.iaload, 1) := by decide +kernel
theorem fx_Md_go_75 : decode fb_Md_go 75 = .ok (.iconst 1, 1) := by decide +kernel
theorem fx_Md_go_76 : decode fb_Md_go 76 = .ok (.iadd, 1) := by decide +kernel
theorem fx_Md_go_77 : decode fb_Md_go 77 = .ok (.iastore, 1) := by decide +kernel
theorem fx_Md_go_78 : decode fb_Md_go 78 = .ok (.iload 4, 2) := by decide +kernel
theorem fx_Md_go_80 : decode fb_Md_go 80 = .ok (.ifCond .eq 9, 3) := by decide +kernel
theorem fx_Md_go_83 : decode fb_Md_go 83 = .ok (.iload_n 1, 1) := by decide +kernel
theorem fx_Md_go_84 : decode fb_Md_go 84 = .ok (.ifCond .ne 5, 3) := by decide +kernel
theorem fx_Md_go_87 : decode fb_Md_go 87 = .ok (.iconst 1, 1) := by decide +kernel
theorem fx_Md_go_88 : decode fb_Md_go 88 = .ok (.ireturn, 1) := by decide +kernel
theorem fx_Md_go_89 : decode fb_Md_go 89 = .ok (.iload 4, 2) := by decide +kernel
theorem fx_Md_go_91 : decode fb_Md_go 91 = .ok (.ifCond .eq 72, 3) := by decide +kernel
theorem fx_Md_go_94 : decode fb_Md_go 94 = .ok (.iload_n 1, 1) := by decide +kernel
theorem fx_Md_go_95 : decode fb_Md_go 95 = .ok (.iconst 1, 1) := by decide +kernel
theorem fx_Md_go_96 : decode fb_Md_go 96 = .ok (.if_icmp .ne 67, 3) := by decide +kernel
theorem fx_Md_go_99 : decode fb_Md_go 99 = .ok (.aload_n 0, 1) := by decide +kernel
theorem fx_Md_go_100 : decode fb_Md_go 100 = .ok (.getfield 112, 3) := by decide +kernel
theorem fx_Md_go_103 : decode fb_Md_go 103 = .ok (.invokestatic 115, 3) := by decide +kernel
theorem fx_Md_go_106 : decode fb_Md_go 106 = .ok (.ifCond .eq 10, 3) := by decide +kernel
theorem fx_Md_go_109 : decode fb_Md_go 109 = .ok (.aload_n 0, 1) := by decide +kernel
theorem fx_Md_go_110 : decode fb_Md_go 110 = .ok (.getfield 118, 3) := by decide +kernel
theorem fx_Md_go_113 : decode fb_Md_go 113 = .ok (.ifCond .eq 50, 3) := by decide +kernel
theorem fx_Md_go_116 : decode fb_Md_go 116 = .ok (.aload_n 0, 1) := by decide +kernel
theorem fx_Md_go_117 : decode fb_Md_go 117 = .ok (.invokevirtual 137, 3) := by decide +kernel
theorem fx_Md_go_120 : decode fb_Md_go 120 = .ok (.istore 7, 2) := by decide +kernel
theorem fx_Md_go_122 : decode fb_Md_go 122 = .ok (.iload 7, 2) := by decide +kernel
theorem fx_Md_go_124 : decode fb_Md_go 124 = .ok (.ifCond .eq 13, 3) := by decide +kernel
theorem fx_Md_go_127 : decode fb_Md_go 127 = .ok (.aload_n 0, 1) := by decide +kernel
theorem fx_Md_go_128 : decode fb_Md_go 128 = .ok (.dup, 1) := by decide +kernel
theorem fx_Md_go_129 : decode fb_Md_go 129 = .ok (.getfield 140, 3) := by decide +kernel
theorem fx_Md_go_132 : decode fb_Md_go 132 = .ok (.iconst 1, 1) := by decide +kernel
theorem fx_Md_go_133 : decode fb_Md_go 133 = .ok (.iadd, 1) := by decide +kernel
theorem fx_Md_go_134 : decode fb_Md_go 134 = .ok (.putfield 140, 3) := by decide +kernel
theorem fx_Md_go_137 : decode fb_Md_go 137 = .ok (.iload 7, 2) := by decide +kernel
theorem fx_Md_go_139 : decode fb_Md_go 139 = .ok (.ifCond .ne 10, 3) := by decide +kernel
theorem fx_Md_go_142 : decode fb_Md_go 142 = .ok (.aload_n 0, 1) := by decide +kernel
theorem fx_Md_go_143 : decode fb_Md_go 143 = .ok (.invokevirtual 143, 3) := by decide +kernel
theorem fx_Md_go_146 : decode fb_Md_go 146 = .ok (.ifCond .eq 7, 3) := by decide +kernel
theorem fx_Md_go_149 : decode fb_Md_go 149 = .ok (.iconst 1, 1) := by decide +kernel
theorem fx_Md_go_150 : decode fb_Md_go 150 = .ok (.goto 4, 3) := by decide +kernel
theorem fx_Md_go_153 : decode fb_Md_go 153 = .ok (.iconst 0, 1) := by decide +kernel
theorem fx_Md_go_154 : decode fb_Md_go 154 = .ok (.istore 8, 2) := by decide +kernel
theorem fx_Md_go_156 : decode fb_Md_go 156 = .ok (.iload 8, 2) := by decide +kernel
theorem fx_Md_go_158 : decode fb_Md_go 158 = .ok (.ifCond .ne 5, 3) := by decide +kernel
theorem fx_Md_go_161 : decode fb_Md_go 161 = .ok (.iconst 2, 1) := by decide +kernel
theorem fx_Md_go_162 : decode fb_Md_go 162 = .ok (.ireturn, 1) := by decide +kernel
theorem fx_Md_go_163 : decode fb_Md_go 163 = .ok (.aload_n 0, 1) := by decide +kernel
theorem fx_Md_go_164 : decode fb_Md_go 164 = .ok (.dup, 1) := by decide +kernel
theorem fx_Md_go_165 : decode fb_Md_go 165 = .ok (.getfield 146, 3) := by decide +kernel
theorem fx_Md_go_168 : decode fb_Md_go 168 = .ok (.iconst 1, 1) := by decide +kernel
theorem fx_Md_go_169 : decode fb_Md_go 169 = .ok (.iadd, 1) := by decide +kernel
theorem fx_Md_go_170 : decode fb_Md_go 170 = .ok (.putfield 146, 3) := by decide +kernel
theorem fx_Md_go_173 : decode fb_Md_go 173 = .ok (.aload_n 0, 1) := by decide +kernel
theorem fx_Md_go_174 : decode fb_Md_go 174 = .ok (.getfield 34, 3) := by decide +kernel
theorem fx_Md_go_177 : decode fb_Md_go 177 = .ok (.aload_n 0, 1) := by decide +kernel
theorem fx_Md_go_178 : decode fb_Md_go 178 = .ok (.getfield 96, 3) := by decide +kernel
theorem fx_Md_go_181 : decode fb_Md_go 181 = .ok (.dup2, 1) := by decide +kernel
theorem fx_Md_go_182 : decode fb_Md_go 182 = .ok (.iaload, 1) := by decide +kernel
theorem fx_Md_go_183 : decode fb_Md_go 183 = .ok (.iconst 1, 1) := by decide +kernel
theorem fx_Md_go_184 : decode fb_Md_go 184 = .ok (.iadd, 1) := by decide +kernel
theorem fx_Md_go_185 : decode fb_Md_go 185 = .ok (.iastore, 1) := by decide +kernel
theorem fx_Md_go_186 : decode fb_Md_go 186 = .ok (.aload_n 0, 1) := by decide +kernel
theorem fx_Md_go_187 : decode fb_Md_go 187 = .ok (.getfield 102, 3) := by decide +kernel
theorem fx_Md_go_190 : decode fb_Md_go 190 = .ok (.ifCond .eq 16, 3) := by decide +kernel
theorem fx_Md_go_193 : decode fb_Md_go 193 = .ok (.aload_n 0, 1) := by decide +kernel
theorem fx_Md_go_194 : decode fb_Md_go 194 = .ok (.getfield 37, 3) := by decide +kernel
theorem fx_Md_go_197 : decode fb_Md_go 197 = .ok (.aload_n 0, 1) := by decide +kernel
theorem fx_Md_go_198 : decode fb_Md_go 198 = .ok (.getfield 96, 3) := by decide +kernel
theorem fx_Md_go_201 : decode fb_Md_go 201 = .ok (.dup2, 1) := by decide +kernel
theorem fx_Md_go_202 : decode fb_Md_go 202 = .ok (.iaload, 1) := by decide +kernel
theorem fx_Md_go_203 : decode fb_Md_go 203 = .ok (.iconst 1, 1) := by decide +kernel
theorem fx_Md_go_204 : decode fb_Md_go 204 = .ok (.iadd, 1) := by decide +kernel
theorem fx_Md_go_205 : decode fb_Md_go 205 = .ok (.iastore, 1) := by decide +kernel
theorem fx_Md_go_206 : decode fb_Md_go 206 = .ok (.iload 4, 2) := by decide +kernel
theorem fx_Md_go_208 : decode fb_Md_go 208 = .ok (.ifCond .eq 21, 3) := by decide +kernel
theorem fx_Md_go_211 : decode fb_Md_go 211 = .ok (.iload_n 1, 1) := by decide +kernel
theorem fx_Md_go_212 : decode fb_Md_go 212 = .ok (.iconst 1, 1) := by decide +kernel
theorem fx_Md_go_213 : decode fb_Md_go 213 = .ok (.if_icmp .ne 16, 3) := by decide +kernel
theorem fx_Md_go_216 : decode fb_Md_go 216 = .ok (.aload_n 0, 1) := by decide +kernel
theorem fx_Md_go_217 : decode fb_Md_go 217 = .ok (.invokevirtual 130, 3) := by decide +kernel
theorem fx_Md_go_220 : decode fb_Md_go 220 = .ok (.istore 7, 2) := by decide +kernel
theorem fx_Md_go_222 : decode fb_Md_go 222 = .ok (.iload 7, 2) := by decide +kernel
theorem fx_Md_go_224 : decode fb_Md_go 224 = .ok (.ifCond .ne 5, 3) := by decide +kernel
theorem fx_Md_go_227 : decode fb_Md_go 227 = .ok (.iconst 3, 1) := by decide +kernel
theorem fx_Md_go_228 : decode fb_Md_go 228 = .ok (.ireturn, 1) := by decide +kernel
theorem fx_Md_go_229 : decode fb_Md_go 229 = .ok (.aload_n 0, 1) := by decide +kernel
theorem fx_Md_go_230 : decode fb_Md_go 230 = .ok (.getfield 7, 3) := by decide +kernel
theorem fx_Md_go_233 : decode fb_Md_go 233 = .ok (.aload_n 0, 1) := by decide +kernel
theorem fx_Md_go_234 : decode fb_Md_go 234 = .ok (.getfield 96, 3) := by decide +kernel
theorem fx_Md_go_237 : decode fb_Md_go 237 = .ok (.iaload, 1) := by decide +kernel
theorem fx_Md_go_238 : decode fb_Md_go 238 = .ok (.invokestatic 149, 3) := by decide +kernel
theorem fx_Md_go_241 : decode fb_Md_go 241 = .ok (.ifCond .eq 15, 3) := by decide +kernel
theorem fx_Md_go_244 : decode fb_Md_go 244 = .ok (.aload_n 0, 1) := by decide +kernel
theorem fx_Md_go_245 : decode fb_Md_go 245 = .ok (.getfield 16, 3) := by decide +kernel
theorem fx_Md_go_248 : decode fb_Md_go 248 = .ok (.aload_n 0, 1) := by decide +kernel
theorem fx_Md_go_249 : decode fb_Md_go 249 = .ok (.getfield 96, 3) := by decide +kernel
theorem fx_Md_go_252 : decode fb_Md_go 252 = .ok (.iaload, 1) := by decide +kernel
theorem fx_Md_go_253 : decode fb_Md_go 253 = .ok (.ifCond .ge 19, 3) := by decide +kernel
theorem fx_Md_go_256 : decode fb_Md_go 256 = .ok (.aload_n 0, 1) := by decide +kernel
theorem fx_Md_go_257 : decode fb_Md_go 257 = .ok (.iload 4, 2) := by decide +kernel
theorem fx_Md_go_259 : decode fb_Md_go 259 = .ok (.ifCond .eq 7, 3) := by decide +kernel
theorem fx_Md_go_262 : decode fb_Md_go 262 = .ok (.iload_n 1, 1) := by decide +kernel
theorem fx_Md_go_263 : decode fb_Md_go 263 = .ok (.goto 4, 3) := by decide +kernel
theorem fx_Md_go_266 : decode fb_Md_go 266 = .ok (.iconst 0, 1) := by decide +kernel
theorem fx_Md_go_267 : decode fb_Md_go 267 = .ok (.invokevirtual 152, 3) := by decide +kernel
theorem fx_Md_go_270 : decode fb_Md_go 270 = .ok (.iconst 0, 1) := by decide +kernel
theorem fx_Md_go_271 : decode fb_Md_go 271 = .ok (.ireturn, 1) := by decide +kernel
theorem fx_Md_go_272 : decode fb_Md_go 272 = .ok (.iload_n 3, 1) := by decide +kernel
theorem fx_Md_go_273 : decode fb_Md_go 273 = .ok (.iconst 1, 1) := by decide +kernel
theorem fx_Md_go_274 : decode fb_Md_go 274 = .ok (.if_icmp .ne 5, 3) := by decide +kernel
theorem fx_Md_go_277 : decode fb_Md_go 277 = .ok (.iconst 4, 1) := by decide +kernel
theorem fx_Md_go_278 : decode fb_Md_go 278 = .ok (.ireturn, 1) := by decide +kernel
theorem fx_Md_go_279 : decode fb_Md_go 279 = .ok (.iload_n 3, 1) := by decide +kernel
theorem fx_Md_go_280 : decode fb_Md_go 280 = .ok (.iconst 2, 1) := by decide +kernel
theorem fx_Md_go_281 : decode fb_Md_go 281 = .ok (.if_icmp .ne 10, 3) := by decide +kernel
theorem fx_Md_go_284 : decode fb_Md_go 284 = .ok (.aload_n 0, 1) := by decide +kernel
theorem fx_Md_go_285 : decode fb_Md_go 285 = .ok (.iconst 3, 1) := by decide +kernel
theorem fx_Md_go_286 : decode fb_Md_go 286 = .ok (.invokevirtual 152, 3) := by decide +kernel
theorem fx_Md_go_289 : decode fb_Md_go 289 = .ok (.iconst 0, 1) := by decide +kernel
theorem fx_Md_go_290 : decode fb_Md_go 290 = .ok (.ireturn, 1) := by decide +kernel
theorem fx_Md_go_291 : decode fb_Md_go 291 = .ok (.iload 5, 2) := by decide +kernel
theorem fx_Md_go_293 : decode fb_Md_go 293 = .ok (.iconst 4, 1) := by decide +kernel
theorem fx_Md_go_294 : decode fb_Md_go 294 = .ok (.if_icmp .ne 5, 3) := by decide +kernel
theorem fx_Md_go_297 : decode fb_Md_go 297 = .ok (.iconst 5, 1) := by decide +kernel
theorem fx_Md_go_298 : decode fb_Md_go 298 = .ok (.ireturn, 1) := by decide +kernel
theorem fx_Md_go_299 : decode fb_Md_go 299 = .ok (.iinc 5 1, 3) := by decide +kernel
theorem fx_Md_go_302 : decode fb_Md_go 302 = .ok (.aload_n 0, 1) := by decide +kernel
theorem fx_Md_go_303 : decode fb_Md_go 303 = .ok (.invokevirtual 155, 3) := by decide +kernel
theorem fx_Md_go_306 : decode fb_Md_go 306 = .ok (.goto (-300), 3) := by decide +kernel
theorem fx_Md_fetch_0 : decode fb_Md_fetch 0 = .ok (.iload_n 1, 1) := by decide +kernel
theorem fx_Md_fetch_1 : decode fb_Md_fetch 1 = .ok (.iconst 0, 1) := by decide +kernel
theorem fx_Md_fetch_2 : decode fb_Md_fetch 2 = .ok (.iconst 5, 1) := by decide +kernel
theorem fx_Md_fetch_3 : decode fb_Md_fetch 3 = .ok (.invokestatic 76, 3) := by decide +kernel
theorem fx_Md_fetch_6 : decode fb_Md_fetch 6 = .ok (.ifCond .eq 64, 3) := by decide +kernel
theorem fx_Md_fetch_9 : decode fb_Md_fetch 9 = .ok (.iload_n 2, 1) := by decide +kernel
theorem fx_Md_fetch_10 : decode fb_Md_fetch 10 = .ok (.invokestatic 80, 3) := by decide +kernel
theorem fx_Md_fetch_13 : decode fb_Md_fetch 13 = .ok (.ifCond .eq 57, 3) := by decide +kernel
theorem fx_Md_fetch_16 : decode fb_Md_fetch 16 = .ok (.iload_n 3, 1) := by decide +kernel
theorem fx_Md_fetch_17 : decode fb_Md_fetch 17 = .ok (.iconst 0, 1) := by decide +kernel
theorem fx_Md_fetch_18 : decode fb_Md_fetch 18 = .ok (.iconst 3, 1) := by decide +kernel
theorem fx_Md_fetch_19 : decode fb_Md_fetch 19 = .ok (.invokestatic 76, 3) := by decide +kernel
theorem fx_Md_fetch_22 : decode fb_Md_fetch 22 = .ok (.ifCond .eq 48, 3) := by decide +kernel
theorem fx_Md_fetch_25 : decode fb_Md_fetch 25 = .ok (.iload 4, 2) := by decide +kernel
theorem fx_Md_fetch_27 : decode fb_Md_fetch 27 = .ok (.iconst 0, 1) := by decide +kernel
theorem fx_Md_fetch_28 : decode fb_Md_fetch 28 = .ok (.bipush 15, 2) := by decide +kernel
theorem fx_Md_fetch_30 : decode fb_Md_fetch 30 = .ok (.invokestatic 76, 3) := by decide +kernel
theorem fx_Md_fetch_33 : decode fb_Md_fetch 33 = .ok (.ifCond .eq 37, 3) := by decide +kernel
theorem fx_Md_fetch_36 : decode fb_Md_fetch 36 = .ok (.iload 5, 2) := by decide +kernel
theorem fx_Md_fetch_38 : decode fb_Md_fetch 38 = .ok (.iconst 0, 1) := by decide +kernel
theorem fx_Md_fetch_39 : decode fb_Md_fetch 39 = .ok (.iconst 2, 1) := by decide +kernel
theorem fx_Md_fetch_40 : decode fb_Md_fetch 40 = .ok (.invokestatic 76, 3) := by decide +kernel
theorem fx_Md_fetch_43 : decode fb_Md_fetch 43 = .ok (.ifCond .eq 27, 3) := by decide +kernel
theorem fx_Md_fetch_46 : decode fb_Md_fetch 46 = .ok (.iload 6, 2) := by decide +kernel
theorem fx_Md_fetch_48 : decode fb_Md_fetch 48 = .ok (.iconst 0, 1) := by decide +kernel
theorem fx_Md_fetch_49 : decode fb_Md_fetch 49 = .ok (.iconst 2, 1) := by decide +kernel
theorem fx_Md_fetch_50 : decode fb_Md_fetch 50 = .ok (.invokestatic 76, 3) := by decide +kernel
theorem fx_Md_fetch_53 : decode fb_Md_fetch 53 = .ok (.ifCond .eq 17, 3) := by decide +kernel
theorem fx_Md_fetch_56 : decode fb_Md_fetch 56 = .ok (.iload 7, 2) := by decide +kernel
theorem fx_Md_fetch_58 : decode fb_Md_fetch 58 = .ok (.iconst 0, 1) := by decide +kernel
theorem fx_Md_fetch_59 : decode fb_Md_fetch 59 = .ok (.iconst 2, 1) := by decide +kernel
theorem fx_Md_fetch_60 : decode fb_Md_fetch 60 = .ok (.invokestatic 76, 3) := by decide +kernel
theorem fx_Md_fetch_63 : decode fb_Md_fetch 63 = .ok (.ifCond .eq 7, 3) := by decide +kernel
theorem fx_Md_fetch_66 : decode fb_Md_fetch 66 = .ok (.iconst 1, 1) := by decide +kernel
theorem fx_Md_fetch_67 : decode fb_Md_fetch 67 = .ok (.goto 4, 3) := by decide +kernel
theorem fx_Md_fetch_70 : decode fb_Md_fetch 70 = .ok (.iconst 0, 1) := by decide +kernel
theorem fx_Md_fetch_71 : decode fb_Md_fetch 71 = .ok (.istore 8, 2) := by decide +kernel
theorem fx_Md_fetch_73 : decode fb_Md_fetch 73 = .ok (.iload 8, 2) := by decide +kernel
theorem fx_Md_fetch_75 : decode fb_Md_fetch 75 = .ok (.ifCond .eq 21, 3) := by decide +kernel
theorem fx_Md_fetch_78 : decode fb_Md_fetch 78 = .ok (.iload 5, 2) := by decide +kernel
theorem fx_Md_fetch_80 : decode fb_Md_fetch 80 = .ok (.iconst 2, 1) := by decide +kernel
theorem fx_Md_fetch_81 : decode fb_Md_fetch 81 = .ok (.if_icmp .ne 21, 3) := by decide +kernel
theorem fx_Md_fetch_84 : decode fb_Md_fetch 84 = .ok (.iload_n 3, 1) := by decide +kernel
theorem fx_Md_fetch_85 : decode fb_Md_fetch 85 = .ok (.invokestatic 115, 3) := by decide +kernel
theorem fx_Md_fetch_88 : decode fb_Md_fetch 88 = .ok (.ifCond .eq 8, 3) := by decide +kernel
theorem fx_Md_fetch_91 : decode fb_Md_fetch 91 = .ok (.iload 4, 2) := by decide +kernel
theorem fx_Md_fetch_93 : decode fb_Md_fetch 93 = .ok (.ifCond .eq 9, 3) := by decide +kernel
theorem fx_Md_fetch_96 : decode fb_Md_fetch 96 = .ok (.aload_n 0, 1) := by decide +kernel
theorem fx_Md_fetch_97 : decode fb_Md_fetch 97 = .ok (.iconst 1, 1) := by decide +kernel
theorem fx_Md_fetch_98 : decode fb_Md_fetch 98 = .ok (.invokevirtual 84, 3) := by decide +kernel
theorem fx_Md_fetch_101 : decode fb_Md_fetch 101 = .ok (.ireturn, 1) := by decide +kernel
theorem fx_Md_fetch_102 : decode fb_Md_fetch 102 = .ok (.aload_n 0, 1) := by decide +kernel
theorem fx_Md_fetch_103 : decode fb_Md_fetch 103 = .ok (.iload_n 1, 1) := by decide +kernel
theorem fx_Md_fetch_104 : decode fb_Md_fetch 104 = .ok (.putfield 99, 3) := by decide +kernel
theorem fx_Md_fetch_107 : decode fb_Md_fetch 107 = .ok (.aload_n 0, 1) := by decide +kernel
theorem fx_Md_fetch_108 : decode fb_Md_fetch 108 = .ok (.iload_n 2, 1) := by decide +kernel
theorem fx_Md_fetch_109 : decode fb_Md_fetch 109 = .ok (.putfield 96, 3) := by decide +kernel
theorem fx_Md_fetch_112 : decode fb_Md_fetch 112 = .ok (.aload_n 0, 1) := by decide +kernel
theorem fx_Md_fetch_113 : decode fb_Md_fetch 113 = .ok (.iload_n 3, 1) := by decide +kernel
theorem fx_Md_fetch_114 : decode fb_Md_fetch 114 = .ok (.putfield 112, 3) := by decide +kernel
theorem fx_Md_fetch_117 : decode fb_Md_fetch 117 = .ok (.aload_n 0, 1) := by decide +kernel
theorem fx_Md_fetch_118 : decode fb_Md_fetch 118 = .ok (.iload 4, 2) := by decide +kernel
theorem fx_Md_fetch_120 : decode fb_Md_fetch 120 = .ok (.putfield 118, 3) := by decide +kernel
theorem fx_Md_fetch_123 : decode fb_Md_fetch 123 = .ok (.iconst 0, 1) := by decide +kernel
theorem fx_Md_fetch_124 : decode fb_Md_fetch 124 = .ok (.istore 9, 2) := by decide +kernel
theorem fx_Md_fetch_126 : decode fb_Md_fetch 126 = .ok (.iload 9, 2) := by decide +kernel
theorem fx_Md_fetch_128 : decode fb_Md_fetch 128 = .ok (.bipush 10, 2) := by decide +kernel
theorem fx_Md_fetch_130 : decode fb_Md_fetch 130 = .ok (.if_icmp .ge 17, 3) := by decide +kernel
theorem fx_Md_fetch_133 : decode fb_Md_fetch 133 = .ok (.aload_n 0, 1) := by decide +kernel
theorem fx_Md_fetch_134 : decode fb_Md_fetch 134 = .ok (.getfield 69, 3) := by decide +kernel
theorem fx_Md_fetch_137 : decode fb_Md_fetch 137 = .ok (.iload 9, 2) := by decide +kernel
theorem fx_Md_fetch_139 : decode fb_Md_fetch 139 = .ok (.iconst 0, 1) := by decide +kernel
theorem fx_Md_fetch_140 : decode fb_Md_fetch 140 = .ok (.iastore, 1) := by decide +kernel
theorem fx_Md_fetch_141 : decode fb_Md_fetch 141 = .ok (.iinc 9 1, 3) := by decide +kernel
theorem fx_Md_fetch_144 : decode fb_Md_fetch 144 = .ok (.goto (-18), 3) := by decide +kernel
theorem fx_Md_fetch_147 : decode fb_Md_fetch 147 = .ok (.aload_n 0, 1) := by decide +kernel
theorem fx_Md_fetch_148 : decode fb_Md_fetch 148 = .ok (.dup, 1) := by decide +kernel
theorem fx_Md_fetch_149 : decode fb_Md_fetch 149 = .ok (.getfield 158, 3) := by decide +kernel
theorem fx_Md_fetch_152 : decode fb_Md_fetch 152 = .ok (.iconst 1, 1) := by decide +kernel
theorem fx_Md_fetch_153 : decode fb_Md_fetch 153 = .ok (.iadd, 1) := by decide +kernel
theorem fx_Md_fetch_154 : decode fb_Md_fetch 154 = .ok (.putfield 158, 3) := by decide +kernel
theorem fx_Md_fetch_157 : decode fb_Md_fetch 157 = .ok (.aload_n 0, 1) := by decide +kernel
theorem fx_Md_fetch_158 : decode fb_Md_fetch 158 = .ok (.iload 5, 2) := by decide +kernel
theorem fx_Md_fetch_160 : decode fb_Md_fetch 160 = .ok (.iload 6, 2) := by decide +kernel
theorem fx_Md_fetch_162 : decode fb_Md_fetch 162 = .ok (.iload 7, 2) := by decide +kernel
theorem fx_Md_fetch_164 : decode fb_Md_fetch 164 = .ok (.invokevirtual 161, 3) := by decide +kernel
theorem fx_Md_fetch_167 : decode fb_Md_fetch 167 = .ok (.istore 9, 2) := by decide +kernel
theorem fx_Md_fetch_169 : decode fb_Md_fetch 169 = .ok (.aload_n 0, 1) := by decide +kernel
theorem fx_Md_fetch_170 : decode fb_Md_fetch 170 = .ok (.getfield 69, 3) := by decide +kernel
theorem fx_Md_fetch_173 : decode fb_Md_fetch 173 = .ok (.iconst 0, 1) := by decide +kernel
theorem fx_Md_fetch_174 : decode fb_Md_fetch 174 = .ok (.iload 9, 2) := by decide +kernel
theorem fx_Md_fetch_176 : decode fb_Md_fetch 176 = .ok (.iastore, 1) := by decide +kernel
theorem fx_Md_fetch_177 : decode fb_Md_fetch 177 = .ok (.aload_n 0, 1) := by decide +kernel
theorem fx_Md_fetch_178 : decode fb_Md_fetch 178 = .ok (.getfield 69, 3) := by decide +kernel
theorem fx_Md_fetch_181 : decode fb_Md_fetch 181 = .ok (.iconst 2, 1) := by decide +kernel
theorem fx_Md_fetch_182 : decode fb_Md_fetch 182 = .ok (.aload_n 0, 1) := by decide +kernel
theorem fx_Md_fetch_183 : decode fb_Md_fetch 183 = .ok (.getfield 96, 3) := by decide +kernel
theorem fx_Md_fetch_186 : decode fb_Md_fetch 186 = .ok (.iastore, 1) := by decide +kernel
theorem fx_Md_fetch_187 : decode fb_Md_fetch 187 = .ok (.aload_n 0, 1) := by decide +kernel
theorem fx_Md_fetch_188 : decode fb_Md_fetch 188 = .ok (.getfield 69, 3) := by decide +kernel
theorem fx_Md_fetch_191 : decode fb_Md_fetch 191 = .ok (.iconst 3, 1) := by decide +kernel
theorem fx_Md_fetch_192 : decode fb_Md_fetch 192 = .ok (.aload_n 0, 1) := by decide +kernel
theorem fx_Md_fetch_193 : decode fb_Md_fetch 193 = .ok (.getfield 99, 3) := by decide +kernel
theorem fx_Md_fetch_196 : decode fb_Md_fetch 196 = .ok (.iastore, 1) := by decide +kernel
theorem fx_Md_fetch_197 : decode fb_Md_fetch 197 = .ok (.aload_n 0, 1) := by decide +kernel
theorem fx_Md_fetch_198 : decode fb_Md_fetch 198 = .ok (.getfield 69, 3) := by decide +kernel
theorem fx_Md_fetch_201 : decode fb_Md_fetch 201 = .ok (.iconst 4, 1) := by decide +kernel
theorem fx_Md_fetch_202 : decode fb_Md_fetch 202 = .ok (.aload_n 0, 1) := by decide +kernel
theorem fx_Md_fetch_203 : decode fb_Md_fetch 203 = .ok (.getfield 112, 3) := by decide +kernel
theorem fx_Md_fetch_206 : decode fb_Md_fetch 206 = .ok (.iastore, 1) := by decide +kernel
theorem fx_Md_fetch_207 : decode fb_Md_fetch 207 = .ok (.aload_n 0, 1) := by decide +kernel
theorem fx_Md_fetch_208 : decode fb_Md_fetch 208 = .ok (.getfield 69, 3) := by decide +kernel
theorem fx_Md_fetch_211 : decode fb_Md_fetch 211 = .ok (.iconst 5, 1) := by decide +kernel
theorem fx_Md_fetch_212 : decode fb_Md_fetch 212 = .ok (.aload_n 0, 1) := by decide +kernel
theorem fx_Md_fetch_213 : decode fb_Md_fetch 213 = .ok (.getfield 102, 3) := by decide +kernel
theorem fx_Md_fetch_216 : decode fb_Md_fetch 216 = .ok (.ifCond .eq 7, 3) := by decide +kernel
theorem fx_Md_fetch_219 : decode fb_Md_fetch 219 = .ok (.iconst 1, 1) := by decide +kernel
theorem fx_Md_fetch_220 : decode fb_Md_fetch 220 = .ok (.goto 4, 3) := by decide +kernel
theorem fx_Md_fetch_223 : decode fb_Md_fetch 223 = .ok (.iconst 0, 1) := by decide +kernel
theorem fx_Md_fetch_224 : decode fb_Md_fetch 224 = .ok (.iastore, 1) := by decide +kernel
theorem fx_Md_fetch_225 : decode fb_Md_fetch 225 = .ok (.iload 9, 2) := by decide +kernel
theorem fx_Md_fetch_227 : decode fb_Md_fetch 227 = .ok (.ifCond .le 13, 3) := by decide +kernel
theorem fx_Md_fetch_230 : decode fb_Md_fetch 230 = .ok (.aload_n 0, 1) := by decide +kernel
theorem fx_Md_fetch_231 : decode fb_Md_fetch 231 = .ok (.dup, 1) := by decide +kernel
theorem fx_Md_fetch_232 : decode fb_Md_fetch 232 = .ok (.getfield 165, 3) := by decide +kernel
theorem fx_Md_fetch_235 : decode fb_Md_fetch 235 = .ok (.iconst 1, 1) := by decide +kernel
theorem fx_Md_fetch_236 : decode fb_Md_fetch 236 = .ok (.iadd, 1) := by decide +kernel
theorem fx_Md_fetch_237 : decode fb_Md_fetch 237 = .ok (.putfield 165, 3) := by decide +kernel
theorem fx_Md_fetch_240 : decode fb_Md_fetch 240 = .ok (.iload 9, 2) := by decide +kernel
theorem fx_Md_fetch_242 : decode fb_Md_fetch 242 = .ok (.ifCond .le 9, 3) := by decide +kernel
theorem fx_Md_fetch_245 : decode fb_Md_fetch 245 = .ok (.aload_n 0, 1) := by decide +kernel
theorem fx_Md_fetch_246 : decode fb_Md_fetch 246 = .ok (.iconst 2, 1) := by decide +kernel
theorem fx_Md_fetch_247 : decode fb_Md_fetch 247 = .ok (.invokevirtual 84, 3) := by decide +kernel
theorem fx_Md_fetch_250 : decode fb_Md_fetch 250 = .ok (.ireturn, 1) := by decide +kernel
theorem fx_Md_fetch_251 : decode fb_Md_fetch 251 = .ok (.aload_n 0, 1) := by decide +kernel
theorem fx_Md_fetch_252 : decode fb_Md_fetch 252 = .ok (.iconst 0, 1) := by decide +kernel
theorem fx_Md_fetch_253 : decode fb_Md_fetch 253 = .ok (.putfield 72, 3) := by decide +kernel
theorem fx_Md_fetch_256 : decode fb_Md_fetch 256 = .ok (.aload_n 0, 1) := by decide +kernel
theorem fx_Md_fetch_257 : decode fb_Md_fetch 257 = .ok (.getfield 69, 3) := by decide +kernel
theorem fx_Md_fetch_260 : decode fb_Md_fetch 260 = .ok (.bipush 9, 2) := by decide +kernel
theorem fx_Md_fetch_262 : decode fb_Md_fetch 262 = .ok (.iaload, 1) := by decide +kernel
theorem fx_Md_fetch_263 : decode fb_Md_fetch 263 = .ok (.ireturn, 1) := by decide +kernel
theorem fx_Md_told_0 : decode fb_Md_told 0 = .ok (.iload_n 1, 1) := by decide +kernel
theorem fx_Md_told_1 : decode fb_Md_told 1 = .ok (.iconst 0, 1) := by decide +kernel
theorem fx_Md_told_2 : decode fb_Md_told 2 = .ok (.bipush 9, 2) := by decide +kernel
theorem fx_Md_told_4 : decode fb_Md_told 4 = .ok (.invokestatic 76, 3) := by decide +kernel
theorem fx_Md_told_7 : decode fb_Md_told 7 = .ok (.ifCond .ne 9, 3) := by decide +kernel
theorem fx_Md_told_10 : decode fb_Md_told 10 = .ok (.aload_n 0, 1) := by decide +kernel
theorem fx_Md_told_11 : decode fb_Md_told 11 = .ok (.iconst 1, 1) := by decide +kernel
theorem fx_Md_told_12 : decode fb_Md_told 12 = .ok (.invokevirtual 84, 3) := by decide +kernel
theorem fx_Md_told_15 : decode fb_Md_told 15 = .ok (.ireturn, 1) := by decide +kernel
theorem fx_Md_told_16 : decode fb_Md_told 16 = .ok (.aload_n 0, 1) := by decide +kernel
theorem fx_Md_told_17 : decode fb_Md_told 17 = .ok (.iconst 0, 1) := by decide +kernel
theorem fx_Md_told_18 : decode fb_Md_told 18 = .ok (.putfield 72, 3) := by decide +kernel
theorem fx_Md_told_21 : decode fb_Md_told 21 = .ok (.aload_n 0, 1) := by decide +kernel
theorem fx_Md_told_22 : decode fb_Md_told 22 = .ok (.getfield 69, 3) := by decide +kernel
theorem fx_Md_told_25 : decode fb_Md_told 25 = .ok (.iload_n 1, 1) := by decide +kernel
theorem fx_Md_told_26 : decode fb_Md_told 26 = .ok (.iaload, 1) := by decide +kernel
theorem fx_Md_told_27 : decode fb_Md_told 27 = .ok (.ireturn, 1) := by decide +kernel
theorem fx_Md_kept_0 : decode fb_Md_kept 0 = .ok (.iload_n 2, 1) := by decide +kernel
theorem fx_Md_kept_1 : decode fb_Md_kept 1 = .ok (.iconst 0, 1) := by decide +kernel
theorem fx_Md_kept_2 : decode fb_Md_kept 2 = .ok (.iconst 5, 1) := by decide +kernel
theorem fx_Md_kept_3 : decode fb_Md_kept 3 = .ok (.invokestatic 76, 3) := by decide +kernel
theorem fx_Md_kept_6 : decode fb_Md_kept 6 = .ok (.ifCond .ne 9, 3) := by decide +kernel
theorem fx_Md_kept_9 : decode fb_Md_kept 9 = .ok (.aload_n 0, 1) := by decide +kernel
theorem fx_Md_kept_10 : decode fb_Md_kept 10 = .ok (.iconst 1, 1) := by decide +kernel
theorem fx_Md_kept_11 : decode fb_Md_kept 11 = .ok (.invokevirtual 84, 3) := by decide +kernel
theorem fx_Md_kept_14 : decode fb_Md_kept 14 = .ok (.ireturn, 1) := by decide +kernel
theorem fx_Md_kept_15 : decode fb_Md_kept 15 = .ok (.iload_n 1, 1) := by decide +kernel
theorem fx_Md_kept_16 : decode fb_Md_kept 16 = .ok (.iconst 0, 1) := by decide +kernel
theorem fx_Md_kept_17 : decode fb_Md_kept 17 = .ok (.aload_n 0, 1) := by decide +kernel
theorem fx_Md_kept_18 : decode fb_Md_kept 18 = .ok (.getfield 106, 3) := by decide +kernel
theorem fx_Md_kept_21 : decode fb_Md_kept 21 = .ok (.iconst 1, 1) := by decide +kernel
theorem fx_Md_kept_22 : decode fb_Md_kept 22 = .ok (.isub, 1) := by decide +kernel
theorem fx_Md_kept_23 : decode fb_Md_kept 23 = .ok (.invokestatic 76, 3) := by decide +kernel
theorem fx_Md_kept_26 : decode fb_Md_kept 26 = .ok (.ifCond .ne 9, 3) := by decide +kernel
theorem fx_Md_kept_29 : decode fb_Md_kept 29 = .ok (.aload_n 0, 1) := by decide +kernel
theorem fx_Md_kept_30 : decode fb_Md_kept 30 = .ok (.iconst 2, 1) := by decide +kernel
theorem fx_Md_kept_31 : decode fb_Md_kept 31 = .ok (.invokevirtual 84, 3) := by decide +kernel
theorem fx_Md_kept_34 : decode fb_Md_kept 34 = .ok (.ireturn, 1) := by decide +kernel
theorem fx_Md_kept_35 : decode fb_Md_kept 35 = .ok (.aload_n 0, 1) := by decide +kernel
theorem fx_Md_kept_36 : decode fb_Md_kept 36 = .ok (.iconst 0, 1) := by decide +kernel
theorem fx_Md_kept_37 : decode fb_Md_kept 37 = .ok (.putfield 72, 3) := by decide +kernel
theorem fx_Md_kept_40 : decode fb_Md_kept 40 = .ok (.iload_n 2, 1) := by decide +kernel
theorem fx_Md_kept_41 : decode fb_Md_kept 41 = .ok (.tableswitch 78 0 4 #[35, 42, 49, 64, 71], 35) := by decide +kernel
theorem fx_Md_kept_76 : decode fb_Md_kept 76 = .ok (.aload_n 0, 1) := by decide +kernel
theorem fx_Md_kept_77 : decode fb_Md_kept 77 = .ok (.getfield 57, 3) := by decide +kernel
theorem fx_Md_kept_80 : decode fb_Md_kept 80 = .ok (.iload_n 1, 1) := by decide +kernel
theorem fx_Md_kept_81 : decode fb_Md_kept 81 = .ok (.iaload, 1) := by decide +kernel
theorem fx_Md_kept_82 : decode fb_Md_kept 82 = .ok (.ireturn, 1) := by decide +kernel
theorem fx_Md_kept_83 : decode fb_Md_kept 83 = .ok (.aload_n 0, 1) := by decide +kernel
theorem fx_Md_kept_84 : decode fb_Md_kept 84 = .ok (.getfield 60, 3) := by decide +kernel
theorem fx_Md_kept_87 : decode fb_Md_kept 87 = .ok (.iload_n 1, 1) := by decide +kernel
theorem fx_Md_kept_88 : decode fb_Md_kept 88 = .ok (.iaload, 1) := by decide +kernel
theorem fx_Md_kept_89 : decode fb_Md_kept 89 = .ok (.ireturn, 1) := by decide +kernel
theorem fx_Md_kept_90 : decode fb_Md_kept 90 = .ok (.aload_n 0, 1) := by decide +kernel
theorem fx_Md_kept_91 : decode fb_Md_kept 91 = .ok (.getfield 47, 3) := by decide +kernel
theorem fx_Md_kept_94 : decode fb_Md_kept 94 = .ok (.iload_n 1, 1) := by decide +kernel
theorem fx_Md_kept_95 : decode fb_Md_kept 95 = .ok (.baload, 1) := by decide +kernel
theorem fx_Md_kept_96 : decode fb_Md_kept 96 = .ok (.ifCond .eq 7, 3) := by decide +kernel
theorem fx_Md_kept_99 : decode fb_Md_kept 99 = .ok (.iconst 1, 1) := by decide +kernel
theorem fx_Md_kept_100 : decode fb_Md_kept 100 = .ok (.goto 4, 3) := by decide +kernel
theorem fx_Md_kept_103 : decode fb_Md_kept 103 = .ok (.iconst 0, 1) := by decide +kernel
theorem fx_Md_kept_104 : decode fb_Md_kept 104 = .ok (.ireturn, 1) := by decide +kernel
theorem fx_Md_kept_105 : decode fb_Md_kept 105 = .ok (.aload_n 0, 1) := by decide +kernel
theorem fx_Md_kept_106 : decode fb_Md_kept 106 = .ok (.getfield 63, 3) := by decide +kernel
theorem fx_Md_kept_109 : decode fb_Md_kept 109 = .ok (.iload_n 1, 1) := by decide +kernel
theorem fx_Md_kept_110 : decode fb_Md_kept 110 = .ok (.iaload, 1) := by decide +kernel
theorem fx_Md_kept_111 : decode fb_Md_kept 111 = .ok (.ireturn, 1) := by decide +kernel
theorem fx_Md_kept_112 : decode fb_Md_kept 112 = .ok (.aload_n 0, 1) := by decide +kernel
theorem fx_Md_kept_113 : decode fb_Md_kept 113 = .ok (.getfield 66, 3) := by decide +kernel
theorem fx_Md_kept_116 : decode fb_Md_kept 116 = .ok (.iload_n 1, 1) := by decide +kernel
theorem fx_Md_kept_117 : decode fb_Md_kept 117 = .ok (.iaload, 1) := by decide +kernel
theorem fx_Md_kept_118 : decode fb_Md_kept 118 = .ok (.ireturn, 1) := by decide +kernel
theorem fx_Md_kept_119 : decode fb_Md_kept 119 = .ok (.aload_n 0, 1) := by decide +kernel
theorem fx_Md_kept_120 : decode fb_Md_kept 120 = .ok (.getfield 92, 3) := by decide +kernel
theorem fx_Md_kept_123 : decode fb_Md_kept 123 = .ok (.aload_n 0, 1) := by decide +kernel
theorem fx_Md_kept_124 : decode fb_Md_kept 124 = .ok (.getfield 54, 3) := by decide +kernel
theorem fx_Md_kept_127 : decode fb_Md_kept 127 = .ok (.iload_n 1, 1) := by decide +kernel
theorem fx_Md_kept_128 : decode fb_Md_kept 128 = .ok (.daload, 1) := by decide +kernel
theorem fx_Md_kept_129 : decode fb_Md_kept 129 = .ok (.dcmp .g, 1) := by decide +kernel
theorem fx_Md_kept_130 : decode fb_Md_kept 130 = .ok (.ifCond .ge 7, 3) := by decide +kernel
theorem fx_Md_kept_133 : decode fb_Md_kept 133 = .ok (.iconst 1, 1) := by decide +kernel
theorem fx_Md_kept_134 : decode fb_Md_kept 134 = .ok (.goto 4, 3) := by decide +kernel
theorem fx_Md_kept_137 : decode fb_Md_kept 137 = .ok (.iconst 0, 1) := by decide +kernel
theorem fx_Md_kept_138 : decode fb_Md_kept 138 = .ok (.ireturn, 1) := by decide +kernel
theorem fx_Md_left_0 : decode fb_Md_left 0 = .ok (.aload_n 0, 1) := by decide +kernel
theorem fx_Md_left_1 : decode fb_Md_left 1 = .ok (.iload_n 1, 1) := by decide +kernel
theorem fx_Md_left_2 : decode fb_Md_left 2 = .ok (.iconst 0, 1) := by decide +kernel
theorem fx_Md_left_3 : decode fb_Md_left 3 = .ok (.aload_n 0, 1) := by decide +kernel
theorem fx_Md_left_4 : decode fb_Md_left 4 = .ok (.getfield 106, 3) := by decide +kernel
theorem fx_Md_left_7 : decode fb_Md_left 7 = .ok (.iconst 1, 1) := by decide +kernel
theorem fx_Md_left_8 : decode fb_Md_left 8 = .ok (.isub, 1) := by decide +kernel
theorem fx_Md_left_9 : decode fb_Md_left 9 = .ok (.invokestatic 76, 3) := by decide +kernel
theorem fx_Md_left_12 : decode fb_Md_left 12 = .ok (.ifCond .eq 7, 3) := by decide +kernel
theorem fx_Md_left_15 : decode fb_Md_left 15 = .ok (.iconst 0, 1) := by decide +kernel
theorem fx_Md_left_16 : decode fb_Md_left 16 = .ok (.goto 4, 3) := by decide +kernel
theorem fx_Md_left_19 : decode fb_Md_left 19 = .ok (.iconst 1, 1) := by decide +kernel
theorem fx_Md_left_20 : decode fb_Md_left 20 = .ok (.putfield 72, 3) := by decide +kernel
theorem fx_Md_left_23 : decode fb_Md_left 23 = .ok (.aload_n 0, 1) := by decide +kernel
theorem fx_Md_left_24 : decode fb_Md_left 24 = .ok (.getfield 72, 3) := by decide +kernel
theorem fx_Md_left_27 : decode fb_Md_left 27 = .ok (.ifCond .gt 17, 3) := by decide +kernel
theorem fx_Md_left_30 : decode fb_Md_left 30 = .ok (.aload_n 0, 1) := by decide +kernel
theorem fx_Md_left_31 : decode fb_Md_left 31 = .ok (.getfield 92, 3) := by decide +kernel
theorem fx_Md_left_34 : decode fb_Md_left 34 = .ok (.aload_n 0, 1) := by decide +kernel
theorem fx_Md_left_35 : decode fb_Md_left 35 = .ok (.getfield 54, 3) := by decide +kernel
theorem fx_Md_left_38 : decode fb_Md_left 38 = .ok (.iload_n 1, 1) := by decide +kernel
theorem fx_Md_left_39 : decode fb_Md_left 39 = .ok (.daload, 1) := by decide +kernel
theorem fx_Md_left_40 : decode fb_Md_left 40 = .ok (.dcmp .l, 1) := by decide +kernel
theorem fx_Md_left_41 : decode fb_Md_left 41 = .ok (.ifCond .lt 7, 3) := by decide +kernel
theorem fx_Md_left_44 : decode fb_Md_left 44 = .ok (.dconst 0, 1) := by decide +kernel
theorem fx_Md_left_45 : decode fb_Md_left 45 = .ok (.goto 14, 3) := by decide +kernel
theorem fx_Md_left_48 : decode fb_Md_left 48 = .ok (.aload_n 0, 1) := by decide +kernel
theorem fx_Md_left_49 : decode fb_Md_left 49 = .ok (.getfield 54, 3) := by decide +kernel
theorem fx_Md_left_52 : decode fb_Md_left 52 = .ok (.iload_n 1, 1) := by decide +kernel
theorem fx_Md_left_53 : decode fb_Md_left 53 = .ok (.daload, 1) := by decide +kernel
theorem fx_Md_left_54 : decode fb_Md_left 54 = .ok (.aload_n 0, 1) := by decide +kernel
theorem fx_Md_left_55 : decode fb_Md_left 55 = .ok (.getfield 92, 3) := by decide +kernel
theorem fx_Md_left_58 : decode fb_Md_left 58 = .ok (.dsub, 1) := by decide +kernel
theorem fx_Md_left_59 : decode fb_Md_left 59 = .ok (.dreturn, 1) := by decide +kernel
theorem fx_Md_count_0 : decode fb_Md_count 0 = .ok (.iload_n 1, 1) := by decide +kernel
theorem fx_Md_count_1 : decode fb_Md_count 1 = .ok (.iconst 0, 1) := by decide +kernel
theorem fx_Md_count_2 : decode fb_Md_count 2 = .ok (.iconst 5, 1) := by decide +kernel
theorem fx_Md_count_3 : decode fb_Md_count 3 = .ok (.invokestatic 76, 3) := by decide +kernel
theorem fx_Md_count_6 : decode fb_Md_count 6 = .ok (.ifCond .ne 31, 3) := by decide +kernel
theorem fx_Md_count_9 : decode fb_Md_count 9 = .ok (.iload_n 1, 1) := by decide +kernel
theorem fx_Md_count_10 : decode fb_Md_count 10 = .ok (.bipush 10, 2) := by decide +kernel
theorem fx_Md_count_12 : decode fb_Md_count 12 = .ok (.bipush 57, 2) := by decide +kernel
theorem fx_Md_count_14 : decode fb_Md_count 14 = .ok (.invokestatic 76, 3) := by decide +kernel
theorem fx_Md_count_17 : decode fb_Md_count 17 = .ok (.ifCond .ne 20, 3) := by decide +kernel
theorem fx_Md_count_20 : decode fb_Md_count 20 = .ok (.iload_n 1, 1) := by decide +kernel
theorem fx_Md_count_21 : decode fb_Md_count 21 = .ok (.bipush 60, 2) := by decide +kernel
theorem fx_Md_count_23 : decode fb_Md_count 23 = .ok (.bipush 107, 2) := by decide +kernel
theorem fx_Md_count_25 : decode fb_Md_count 25 = .ok (.invokestatic 76, 3) := by decide +kernel
theorem fx_Md_count_28 : decode fb_Md_count 28 = .ok (.ifCond .ne 9, 3) := by decide +kernel
theorem fx_Md_count_31 : decode fb_Md_count 31 = .ok (.aload_n 0, 1) := by decide +kernel
theorem fx_Md_count_32 : decode fb_Md_count 32 = .ok (.iconst 1, 1) := by decide +kernel
theorem fx_Md_count_33 : decode fb_Md_count 33 = .ok (.invokevirtual 84, 3) := by decide +kernel
theorem fx_Md_count_36 : decode fb_Md_count 36 = .ok (.ireturn, 1) := by decide +kernel
theorem fx_Md_count_37 : decode fb_Md_count 37 = .ok (.aload_n 0, 1) := by decide +kernel
theorem fx_Md_count_38 : decode fb_Md_count 38 = .ok (.iconst 0, 1) := by decide +kernel
theorem fx_Md_count_39 : decode fb_Md_count 39 = .ok (.putfield 72, 3) := by decide +kernel
theorem fx_Md_count_42 : decode fb_Md_count 42 = .ok (.iload_n 1, 1) := by decide +kernel
theorem fx_Md_count_43 : decode fb_Md_count 43 = .ok (.bipush 59, 2) := by decide +kernel
theorem fx_Md_count_45 : decode fb_Md_count 45 = .ok (.if_icmp .le 13, 3) := by decide +kernel
theorem fx_Md_count_48 : decode fb_Md_count 48 = .ok (.aload_n 0, 1) := by decide +kernel
theorem fx_Md_count_49 : decode fb_Md_count 49 = .ok (.getfield 37, 3) := by decide +kernel
theorem fx_Md_count_52 : decode fb_Md_count 52 = .ok (.iload_n 1, 1) := by decide +kernel
theorem fx_Md_count_53 : decode fb_Md_count 53 = .ok (.bipush 60, 2) := by decide +kernel
theorem fx_Md_count_55 : decode fb_Md_count 55 = .ok (.isub, 1) := by decide +kernel
theorem fx_Md_count_56 : decode fb_Md_count 56 = .ok (.iaload, 1) := by decide +kernel
theorem fx_Md_count_57 : decode fb_Md_count 57 = .ok (.ireturn, 1) := by decide +kernel
theorem fx_Md_count_58 : decode fb_Md_count 58 = .ok (.iload_n 1, 1) := by decide +kernel
theorem fx_Md_count_59 : decode fb_Md_count 59 = .ok (.bipush 9, 2) := by decide +kernel
theorem fx_Md_count_61 : decode fb_Md_count 61 = .ok (.if_icmp .le 13, 3) := by decide +kernel
theorem fx_Md_count_64 : decode fb_Md_count 64 = .ok (.aload_n 0, 1) := by decide +kernel
theorem fx_Md_count_65 : decode fb_Md_count 65 = .ok (.getfield 34, 3) := by decide +kernel
theorem fx_Md_count_68 : decode fb_Md_count 68 = .ok (.iload_n 1, 1) := by decide +kernel
theorem fx_Md_count_69 : decode fb_Md_count 69 = .ok (.bipush 10, 2) := by decide +kernel
theorem fx_Md_count_71 : decode fb_Md_count 71 = .ok (.isub, 1) := by decide +kernel
theorem fx_Md_count_72 : decode fb_Md_count 72 = .ok (.iaload, 1) := by decide +kernel
theorem fx_Md_count_73 : decode fb_Md_count 73 = .ok (.ireturn, 1) := by decide +kernel
theorem fx_Md_count_74 : decode fb_Md_count 74 = .ok (.iload_n 1, 1) := by decide +kernel
theorem fx_Md_count_75 : decode fb_Md_count 75 = .ok (.ifCond .ne 10, 3) := by decide +kernel
theorem fx_Md_count_78 : decode fb_Md_count 78 = .ok (.aload_n 0, 1) := by decide +kernel
theorem fx_Md_count_79 : decode fb_Md_count 79 = .ok (.getfield 158, 3) := by decide +kernel
theorem fx_Md_count_82 : decode fb_Md_count 82 = .ok (.goto 55, 3) := by decide +kernel
theorem fx_Md_count_85 : decode fb_Md_count 85 = .ok (.iload_n 1, 1) := by decide +kernel
theorem fx_Md_count_86 : decode fb_Md_count 86 = .ok (.iconst 1, 1) := by decide +kernel
theorem fx_Md_count_87 : decode fb_Md_count 87 = .ok (.if_icmp .ne 10, 3) := by decide +kernel
theorem fx_Md_count_90 : decode fb_Md_count 90 = .ok (.aload_n 0, 1) := by decide +kernel
theorem fx_Md_count_91 : decode fb_Md_count 91 = .ok (.getfield 165, 3) := by decide +kernel
theorem fx_Md_count_94 : decode fb_Md_count 94 = .ok (.goto 43, 3) := by decide +kernel
theorem fx_Md_count_97 : decode fb_Md_count 97 = .ok (.iload_n 1, 1) := by decide +kernel
theorem fx_Md_count_98 : decode fb_Md_count 98 = .ok (.iconst 2, 1) := by decide +kernel
theorem fx_Md_count_99 : decode fb_Md_count 99 = .ok (.if_icmp .ne 10, 3) := by decide +kernel
theorem fx_Md_count_102 : decode fb_Md_count 102 = .ok (.aload_n 0, 1) := by decide +kernel
theorem fx_Md_count_103 : decode fb_Md_count 103 = .ok (.getfield 146, 3) := by decide +kernel
theorem fx_Md_count_106 : decode fb_Md_count 106 = .ok (.goto 31, 3) := by decide +kernel
theorem fx_Md_count_109 : decode fb_Md_count 109 = .ok (.iload_n 1, 1) := by decide +kernel
theorem fx_Md_count_110 : decode fb_Md_count 110 = .ok (.iconst 3, 1) := by decide +kernel
theorem fx_Md_count_111 : decode fb_Md_count 111 = .ok (.if_icmp .ne 10, 3) := by decide +kernel
theorem fx_Md_count_114 : decode fb_Md_count 114 = .ok (.aload_n 0, 1) := by decide +kernel
theorem fx_Md_count_115 : decode fb_Md_count 115 = .ok (.getfield 127, 3) := by decide +kernel
theorem fx_Md_count_118 : decode fb_Md_count 118 = .ok (.goto 19, 3) := by decide +kernel
theorem fx_Md_count_121 : decode fb_Md_count 121 = .ok (.iload_n 1, 1) := by decide +kernel
theorem fx_Md_count_122 : decode fb_Md_count 122 = .ok (.iconst 4, 1) := by decide +kernel
theorem fx_Md_count_123 : decode fb_Md_count 123 = .ok (.if_icmp .ne 10, 3) := by decide +kernel
theorem fx_Md_count_126 : decode fb_Md_count 126 = .ok (.aload_n 0, 1) := by decide +kernel
theorem fx_Md_count_127 : decode fb_Md_count 127 = .ok (.getfield 140, 3) := by decide +kernel
theorem fx_Md_count_130 : decode fb_Md_count 130 = .ok (.goto 7, 3) := by decide +kernel
theorem fx_Md_count_133 : decode fb_Md_count 133 = .ok (.aload_n 0, 1) := by decide +kernel
theorem fx_Md_count_134 : decode fb_Md_count 134 = .ok (.getfield 106, 3) := by decide +kernel
theorem fx_Md_count_137 : decode fb_Md_count 137 = .ok (.ireturn, 1) := by decide +kernel
