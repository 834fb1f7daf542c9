/-! the words of the tables, by their numbers there -/
def fn_R_Lw : String := "FetchDeskLaw"
abbrev fb_Md_init : ByteArray := prog_7_method_1_code
def fy_Md_init : MethodName := ⟨fn_R_Md, "<init>", "()V"⟩
abbrev fw_Md_init : Cond := .code fy_Md_init fb_Md_init 2 none
theorem fm_Md_init : fw_Md_init ∈ fb_tbl := fb_mem3 (i := 45) rfl rfl
abbrev fb_Md_thrown : ByteArray := prog_7_method_2_code
def fy_Md_thrown : MethodName := ⟨fn_R_Md, "thrown", "()I"⟩
abbrev fw_Md_thrown : Cond := .code fy_Md_thrown fb_Md_thrown 1 (some .int)
theorem fm_Md_thrown : fw_Md_thrown ∈ fb_tbl := fb_mem3 (i := 153) rfl rfl
abbrev fb_Md_in : ByteArray := prog_7_method_3_code
def fy_Md_in : MethodName := ⟨fn_R_Md, "in", "(III)Z"⟩
abbrev fw_Md_in : Cond := .code fy_Md_in fb_Md_in 3 (some .boolean)
theorem fm_Md_in : fw_Md_in ∈ fb_tbl := fb_mem3 (i := 163) rfl rfl
abbrev fb_Md_fail : ByteArray := prog_7_method_4_code
def fy_Md_fail : MethodName := ⟨fn_R_Md, "fail", "(I)I"⟩
abbrev fw_Md_fail : Cond := .code fy_Md_fail fb_Md_fail 2 (some .int)
theorem fm_Md_fail : fw_Md_fail ∈ fb_tbl := fb_mem3 (i := 175) rfl rfl
abbrev fb_Md_isUrl : ByteArray := prog_7_method_5_code
def fy_Md_isUrl : MethodName := ⟨fn_R_Md, "isUrl", "(I)Z"⟩
abbrev fw_Md_isUrl : Cond := .code fy_Md_isUrl fb_Md_isUrl 1 (some .boolean)
theorem fm_Md_isUrl : fw_Md_isUrl ∈ fb_tbl := fb_mem3 (i := 160) rfl rfl
abbrev fb_Md_serve : ByteArray := prog_7_method_6_code
def fy_Md_serve : MethodName := ⟨fn_R_Md, "serve", "(IIII)V"⟩
abbrev fw_Md_serve : Cond := .code fy_Md_serve fb_Md_serve 5 none
theorem fm_Md_serve : fw_Md_serve ∈ fb_tbl := fb_mem3 (i := 157) rfl rfl
abbrev fb_Md_headers : ByteArray := prog_7_method_7_code
def fy_Md_headers : MethodName := ⟨fn_R_Md, "headers", "(III)V"⟩
abbrev fw_Md_headers : Cond := .code fy_Md_headers fb_Md_headers 4 none
theorem fm_Md_headers : fw_Md_headers ∈ fb_tbl := fb_mem3 (i := 167) rfl rfl
abbrev fb_Md_allow : ByteArray := prog_7_method_8_code
def fy_Md_allow : MethodName := ⟨fn_R_Md, "allow", "(IIZ)I"⟩
abbrev fw_Md_allow : Cond := .code fy_Md_allow fb_Md_allow 5 (some .int)
theorem fm_Md_allow : fw_Md_allow ∈ fb_tbl := fb_mem3 (i := 171) rfl rfl
abbrev fb_Md_asked : ByteArray := prog_7_method_9_code
def fy_Md_asked : MethodName := ⟨fn_R_Md, "asked", "(IZIID)V"⟩
abbrev fw_Md_asked : Cond := .code fy_Md_asked fb_Md_asked 7 none
theorem fm_Md_asked : fw_Md_asked ∈ fb_tbl := fb_mem3 (i := 179) rfl rfl
abbrev fb_Md_tick : ByteArray := prog_7_method_10_code
def fy_Md_tick : MethodName := ⟨fn_R_Md, "tick", "(D)D"⟩
abbrev fw_Md_tick : Cond := .code fy_Md_tick fb_Md_tick 3 (some .double)
theorem fm_Md_tick : fw_Md_tick ∈ fb_tbl := fb_mem3 (i := 184) rfl rfl
abbrev fb_Md_passes : ByteArray := prog_7_method_11_code
def fy_Md_passes : MethodName := ⟨fn_R_Md, "passes", "()Z"⟩
abbrev fw_Md_passes : Cond := .code fy_Md_passes fb_Md_passes 3 (some .boolean)
theorem fm_Md_passes : fw_Md_passes ∈ fb_tbl := fb_mem3 (i := 216) rfl rfl
abbrev fb_Md_isSimple : ByteArray := prog_7_method_12_code
def fy_Md_isSimple : MethodName := ⟨fn_R_Md, "isSimple", "(I)Z"⟩
abbrev fw_Md_isSimple : Cond := .code fy_Md_isSimple fb_Md_isSimple 1 (some .boolean)
theorem fm_Md_isSimple : fw_Md_isSimple ∈ fb_tbl := fb_mem3 (i := 192) rfl rfl
abbrev fb_Md_isSame : ByteArray := prog_7_method_13_code
def fy_Md_isSame : MethodName := ⟨fn_R_Md, "isSame", "(I)Z"⟩
abbrev fw_Md_isSame : Cond := .code fy_Md_isSame fb_Md_isSame 2 (some .boolean)
theorem fm_Md_isSame : fw_Md_isSame ∈ fb_tbl := fb_mem3 (i := 204) rfl rfl
abbrev fb_Md_isRemembered : ByteArray := prog_7_method_14_code
def fy_Md_isRemembered : MethodName := ⟨fn_R_Md, "isRemembered", "()Z"⟩
abbrev fw_Md_isRemembered : Cond := .code fy_Md_isRemembered fb_Md_isRemembered 2 (some .boolean)
theorem fm_Md_isRemembered : fw_Md_isRemembered ∈ fb_tbl := fb_mem3 (i := 200) rfl rfl
abbrev fb_Md_forget : ByteArray := prog_7_method_15_code
def fy_Md_forget : MethodName := ⟨fn_R_Md, "forget", "(I)V"⟩
abbrev fw_Md_forget : Cond := .code fy_Md_forget fb_Md_forget 3 none
theorem fm_Md_forget : fw_Md_forget ∈ fb_tbl := fb_mem3 (i := 212) rfl rfl
abbrev fb_Md_keep : ByteArray := prog_7_method_16_code
def fy_Md_keep : MethodName := ⟨fn_R_Md, "keep", "()V"⟩
abbrev fw_Md_keep : Cond := .code fy_Md_keep fb_Md_keep 3 none
theorem fm_Md_keep : fw_Md_keep ∈ fb_tbl := fb_mem3 (i := 220) rfl rfl
abbrev fb_Md_ask : ByteArray := prog_7_method_17_code
def fy_Md_ask : MethodName := ⟨fn_R_Md, "ask", "()Z"⟩
abbrev fw_Md_ask : Cond := .code fy_Md_ask fb_Md_ask 3 (some .boolean)
theorem fm_Md_ask : fw_Md_ask ∈ fb_tbl := fb_mem3 (i := 208) rfl rfl
abbrev fb_Md_isMoved : ByteArray := prog_7_method_18_code
def fy_Md_isMoved : MethodName := ⟨fn_R_Md, "isMoved", "(I)Z"⟩
abbrev fw_Md_isMoved : Cond := .code fy_Md_isMoved fb_Md_isMoved 1 (some .boolean)
theorem fm_Md_isMoved : fw_Md_isMoved ∈ fb_tbl := fb_mem3 (i := 224) rfl rfl
abbrev fb_Md_move : ByteArray := prog_7_method_19_code
def fy_Md_move : MethodName := ⟨fn_R_Md, "move", "()V"⟩
abbrev fw_Md_move : Cond := .code fy_Md_move fb_Md_move 3 none
theorem fm_Md_move : fw_Md_move ∈ fb_tbl := fb_mem3 (i := 232) rfl rfl
abbrev fb_Md_answer : ByteArray := prog_7_method_20_code
def fy_Md_answer : MethodName := ⟨fn_R_Md, "answer", "(I)V"⟩
abbrev fw_Md_answer : Cond := .code fy_Md_answer fb_Md_answer 2 none
theorem fm_Md_answer : fw_Md_answer ∈ fb_tbl := fb_mem3 (i := 228) rfl rfl
abbrev fb_Md_go : ByteArray := prog_7_method_21_code
def fy_Md_go : MethodName := ⟨fn_R_Md, "go", "(III)I"⟩
abbrev fw_Md_go : Cond := .code fy_Md_go fb_Md_go 9 (some .int)
theorem fm_Md_go : fw_Md_go ∈ fb_tbl := fb_mem3 (i := 196) rfl rfl
abbrev fb_Md_fetch : ByteArray := prog_7_method_22_code
def fy_Md_fetch : MethodName := ⟨fn_R_Md, "fetch", "(IIIIIII)I"⟩
abbrev fw_Md_fetch : Cond := .code fy_Md_fetch fb_Md_fetch 10 (some .int)
theorem fm_Md_fetch : fw_Md_fetch ∈ fb_tbl := fb_mem3 (i := 189) rfl rfl
abbrev fb_Md_told : ByteArray := prog_7_method_23_code
def fy_Md_told : MethodName := ⟨fn_R_Md, "told", "(I)I"⟩
abbrev fw_Md_told : Cond := .code fy_Md_told fb_Md_told 2 (some .int)
theorem fm_Md_told : fw_Md_told ∈ fb_tbl := fb_mem3 (i := 236) rfl rfl
abbrev fb_Md_kept : ByteArray := prog_7_method_24_code
def fy_Md_kept : MethodName := ⟨fn_R_Md, "kept", "(II)I"⟩
abbrev fw_Md_kept : Cond := .code fy_Md_kept fb_Md_kept 3 (some .int)
theorem fm_Md_kept : fw_Md_kept ∈ fb_tbl := fb_mem4 (i := 0) rfl rfl
abbrev fb_Md_left : ByteArray := prog_7_method_25_code
def fy_Md_left : MethodName := ⟨fn_R_Md, "left", "(I)D"⟩
abbrev fw_Md_left : Cond := .code fy_Md_left fb_Md_left 2 (some .double)
theorem fm_Md_left : fw_Md_left ∈ fb_tbl := fb_mem4 (i := 4) rfl rfl
abbrev fb_Md_count : ByteArray := prog_7_method_26_code
def fy_Md_count : MethodName := ⟨fn_R_Md, "count", "(I)I"⟩
abbrev fw_Md_count : Cond := .code fy_Md_count fb_Md_count 2 (some .int)
theorem fm_Md_count : fw_Md_count ∈ fb_tbl := fb_mem4 (i := 8) rfl rfl
abbrev fb_Lw_serve : ByteArray := method_3_code
def fy_Lw_serve : MethodName := ⟨fn_R_Lw, "serve", "(LFetchDesk;IIII)I"⟩
abbrev fb_Lw_headers : ByteArray := method_4_code
def fy_Lw_headers : MethodName := ⟨fn_R_Lw, "headers", "(LFetchDesk;III)I"⟩
abbrev fb_Lw_allow : ByteArray := method_5_code
def fy_Lw_allow : MethodName := ⟨fn_R_Lw, "allow", "(LFetchDesk;IIZ[J)I"⟩
abbrev fb_Lw_asked : ByteArray := method_6_code
def fy_Lw_asked : MethodName := ⟨fn_R_Lw, "asked", "(LFetchDesk;IZIID)I"⟩
abbrev fb_Lw_tick : ByteArray := method_7_code
def fy_Lw_tick : MethodName := ⟨fn_R_Lw, "tick", "(LFetchDesk;D[D)I"⟩
abbrev fb_Lw_fetch : ByteArray := method_8_code
def fy_Lw_fetch : MethodName := ⟨fn_R_Lw, "fetch", "(LFetchDesk;IIIIIII[J)I"⟩
abbrev fb_Lw_told : ByteArray := method_9_code
def fy_Lw_told : MethodName := ⟨fn_R_Lw, "told", "(LFetchDesk;I[J)I"⟩
abbrev fb_Lw_kept : ByteArray := method_10_code
def fy_Lw_kept : MethodName := ⟨fn_R_Lw, "kept", "(LFetchDesk;II[J)I"⟩
abbrev fb_Lw_left : ByteArray := method_11_code
def fy_Lw_left : MethodName := ⟨fn_R_Lw, "left", "(LFetchDesk;I[D)I"⟩
abbrev fb_Lw_count : ByteArray := method_12_code
def fy_Lw_count : MethodName := ⟨fn_R_Lw, "count", "(LFetchDesk;I[J)I"⟩
theorem fq_0 : ((.initialized fn_R_Lw) : Cond) ∈ fb_tbl := fb_mem1 (i := 0) rfl rfl
theorem fq_1 : ((.initialized fn_R_Dk) : Cond) ∈ fb_tbl := fb_mem1 (i := 1) rfl rfl
theorem fq_2 : ((.initialized fn_R_Rs) : Cond) ∈ fb_tbl := fb_mem1 (i := 2) rfl rfl
theorem fq_3 : ((.initialized fn_R_Mm) : Cond) ∈ fb_tbl := fb_mem1 (i := 3) rfl rfl
theorem fq_4 : ((.initialized fn_R_Pm) : Cond) ∈ fb_tbl := fb_mem1 (i := 4) rfl rfl
theorem fq_5 : ((.initialized fn_R_Rq) : Cond) ∈ fb_tbl := fb_mem1 (i := 5) rfl rfl
theorem fq_6 : ((.initialized fn_R_Md) : Cond) ∈ fb_tbl := fb_mem1 (i := 6) rfl rfl
theorem fq_7 : ((.initialized "java/lang/Throwable") : Cond) ∈ fb_tbl := fb_mem1 (i := 7) rfl rfl
theorem fq_8 : ((.initialized "java/lang/Exception") : Cond) ∈ fb_tbl := fb_mem1 (i := 8) rfl rfl
theorem fq_9 : ((.initialized "java/lang/RuntimeException") : Cond) ∈ fb_tbl := fb_mem1 (i := 9) rfl rfl
theorem fq_10 : ((.initialized "java/lang/IllegalArgumentException") : Cond) ∈ fb_tbl := fb_mem1 (i := 10) rfl rfl
theorem fq_11 : ((.initialized "java/lang/UnsupportedOperationException") : Cond) ∈ fb_tbl := fb_mem1 (i := 11) rfl rfl
theorem fq_12 : ((.initialized "java/lang/IndexOutOfBoundsException") : Cond) ∈ fb_tbl := fb_mem1 (i := 12) rfl rfl
theorem fq_13 : ((.classLink fn_R_Lw 8 fn_R_Dk) : Cond) ∈ fb_tbl := fb_mem1 (i := 13) rfl rfl
theorem fq_14 : ((.instantiable fn_R_Dk 9) : Cond) ∈ fb_tbl := fb_mem1 (i := 14) rfl rfl
theorem fq_15 : ((.methodLink fn_R_Lw 54 fy_Dk_init) : Cond) ∈ fb_tbl := fb_mem1 (i := 15) rfl rfl
theorem fq_16 : ((.instanceMethod fy_Dk_init) : Cond) ∈ fb_tbl := fb_mem1 (i := 16) rfl rfl
theorem fq_18 : ((.methodLink fn_R_Dk 3 objectInit) : Cond) ∈ fb_tbl := fb_mem1 (i := 18) rfl rfl
theorem fq_19 : ((.instanceMethod objectInit) : Cond) ∈ fb_tbl := fb_mem1 (i := 19) rfl rfl
theorem fq_21 : ((.classLink fn_R_Dk 9 fn_R_Rs) : Cond) ∈ fb_tbl := fb_mem1 (i := 21) rfl rfl
theorem fq_23 : ((.instantiable fn_R_Rs 13) : Cond) ∈ fb_tbl := fb_mem1 (i := 23) rfl rfl
theorem fq_25 : ((.instanceMethod fy_Rs_init) : Cond) ∈ fb_tbl := fb_mem1 (i := 25) rfl rfl
theorem fq_27 : ((.methodLink fn_R_Rs 3 objectInit) : Cond) ∈ fb_tbl := fb_mem1 (i := 27) rfl rfl
theorem fq_28 : ((.fieldLink fn_R_Rs 9 "FetchDesk$Resource" "status" "I") : Cond) ∈ fb_tbl := fb_mem1 (i := 28) rfl rfl
theorem fq_33 : ((.fieldLink fn_R_Rs 15 "FetchDesk$Resource" "target" "I") : Cond) ∈ fb_tbl := fb_mem1 (i := 33) rfl rfl
theorem fq_80 : ((.classLink fn_R_Dk 16 fn_R_Mm) : Cond) ∈ fb_tbl := fb_mem1 (i := 80) rfl rfl
theorem fq_81 : ((.instantiable fn_R_Mm 2) : Cond) ∈ fb_tbl := fb_mem1 (i := 81) rfl rfl
theorem fq_83 : ((.instanceMethod fy_Mm_init) : Cond) ∈ fb_tbl := fb_mem1 (i := 83) rfl rfl
theorem fq_85 : ((.methodLink fn_R_Mm 3 objectInit) : Cond) ∈ fb_tbl := fb_mem1 (i := 85) rfl rfl
theorem fq_86 : ((.classLink fn_R_Mm 9 fn_R_Pm) : Cond) ∈ fb_tbl := fb_mem1 (i := 86) rfl rfl
theorem fq_88 : ((.instantiable fn_R_Pm 6) : Cond) ∈ fb_tbl := fb_mem1 (i := 88) rfl rfl
theorem fq_90 : ((.instanceMethod fy_Pm_init) : Cond) ∈ fb_tbl := fb_mem1 (i := 90) rfl rfl
theorem fq_92 : ((.methodLink fn_R_Pm 1 objectInit) : Cond) ∈ fb_tbl := fb_mem1 (i := 92) rfl rfl
theorem fq_93 : ((.fieldLink fn_R_Pm 13 "FetchDesk$Permit" "origin" "I") : Cond) ∈ fb_tbl := fb_mem1 (i := 93) rfl rfl
theorem fq_96 : ((.fieldLink fn_R_Pm 19 "FetchDesk$Permit" "url" "I") : Cond) ∈ fb_tbl := fb_mem1 (i := 96) rfl rfl
theorem fq_99 : ((.fieldLink fn_R_Pm 24 "FetchDesk$Permit" "withCredentials" "Z") : Cond) ∈ fb_tbl := fb_mem1 (i := 99) rfl rfl
theorem fq_102 : ((.fieldLink fn_R_Pm 32 "FetchDesk$Permit" "methods" "I") : Cond) ∈ fb_tbl := fb_mem1 (i := 102) rfl rfl
theorem fq_105 : ((.fieldLink fn_R_Pm 38 "FetchDesk$Permit" "headers" "I") : Cond) ∈ fb_tbl := fb_mem1 (i := 105) rfl rfl
theorem fq_108 : ((.fieldLink fn_R_Pm 41 "FetchDesk$Permit" "end" "D") : Cond) ∈ fb_tbl := fb_mem1 (i := 108) rfl rfl
theorem fq_124 : ((.fieldLink fn_R_Mm 11 "FetchDesk$Memory" "permits" "[LFetchDesk$Permit;") : Cond) ∈ fb_tbl := fb_mem1 (i := 124) rfl rfl
theorem fq_126 : ((.fieldLink fn_R_Mm 18 "FetchDesk$Memory" "size" "I") : Cond) ∈ fb_tbl := fb_mem1 (i := 126) rfl rfl
theorem fq_133 : ((.classLink fn_R_Dk 23 fn_R_Rq) : Cond) ∈ fb_tbl := fb_mem1 (i := 133) rfl rfl
theorem fq_134 : ((.instantiable fn_R_Rq 15) : Cond) ∈ fb_tbl := fb_mem1 (i := 134) rfl rfl
theorem fq_136 : ((.instanceMethod fy_Rq_init) : Cond) ∈ fb_tbl := fb_mem1 (i := 136) rfl rfl
theorem fq_138 : ((.methodLink fn_R_Rq 3 objectInit) : Cond) ∈ fb_tbl := fb_mem1 (i := 138) rfl rfl
theorem fq_139 : ((.fieldLink fn_R_Rq 9 "FetchDesk$Request" "origin" "I") : Cond) ∈ fb_tbl := fb_mem1 (i := 139) rfl rfl
theorem fq_143 : ((.fieldLink fn_R_Rq 15 "FetchDesk$Request" "url" "I") : Cond) ∈ fb_tbl := fb_mem1 (i := 143) rfl rfl
theorem fq_147 : ((.fieldLink fn_R_Rq 18 "FetchDesk$Request" "method" "I") : Cond) ∈ fb_tbl := fb_mem1 (i := 147) rfl rfl
theorem fq_149 : ((.fieldLink fn_R_Rq 21 "FetchDesk$Request" "headers" "I") : Cond) ∈ fb_tbl := fb_mem1 (i := 149) rfl rfl
theorem fq_151 : ((.fieldLink fn_R_Rq 24 "FetchDesk$Request" "mode" "I") : Cond) ∈ fb_tbl := fb_mem1 (i := 151) rfl rfl
theorem fq_153 : ((.fieldLink fn_R_Rq 27 "FetchDesk$Request" "credentials" "I") : Cond) ∈ fb_tbl := fb_mem1 (i := 153) rfl rfl
theorem fq_154 : ((.fieldLink fn_R_Rq 30 "FetchDesk$Request" "redirects" "I") : Cond) ∈ fb_tbl := fb_mem1 (i := 154) rfl rfl
theorem fq_155 : ((.fieldLink fn_R_Rq 33 "FetchDesk$Request" "rounds" "I") : Cond) ∈ fb_tbl := fb_mem1 (i := 155) rfl rfl
theorem fq_157 : ((.fieldLink fn_R_Rq 36 "FetchDesk$Request" "far" "Z") : Cond) ∈ fb_tbl := fb_mem1 (i := 157) rfl rfl
theorem fq_160 : ((.fieldLink fn_R_Rq 40 "FetchDesk$Request" "sendsCredentials" "Z") : Cond) ∈ fb_tbl := fb_mem1 (i := 160) rfl rfl
theorem fq_163 : ((.fieldLink fn_R_Rq 43 "FetchDesk$Request" "error" "I") : Cond) ∈ fb_tbl := fb_mem1 (i := 163) rfl rfl
theorem fq_165 : ((.fieldLink fn_R_Rq 50 "FetchDesk$Request" "shownStatus" "I") : Cond) ∈ fb_tbl := fb_mem1 (i := 165) rfl rfl
theorem fq_167 : ((.fieldLink fn_R_Rq 53 "FetchDesk$Request" "shownBody" "I") : Cond) ∈ fb_tbl := fb_mem1 (i := 167) rfl rfl
theorem fq_169 : ((.fieldLink fn_R_Rq 56 "FetchDesk$Request" "shownHeaders" "I") : Cond) ∈ fb_tbl := fb_mem1 (i := 169) rfl rfl
theorem fq_171 : ((.fieldLink fn_R_Rq 59 "FetchDesk$Request" "sort" "I") : Cond) ∈ fb_tbl := fb_mem1 (i := 171) rfl rfl
theorem fq_204 : ((.fieldLink fn_R_Dk 11 "FetchDesk" "resources" "[LFetchDesk$Resource;") : Cond) ∈ fb_tbl := fb_mem1 (i := 204) rfl rfl
theorem fq_205 : ((.fieldLink fn_R_Dk 19 "FetchDesk" "memory" "LFetchDesk$Memory;") : Cond) ∈ fb_tbl := fb_mem1 (i := 205) rfl rfl
theorem fq_206 : ((.fieldLink fn_R_Dk 26 "FetchDesk" "latest" "LFetchDesk$Request;") : Cond) ∈ fb_tbl := fb_mem1 (i := 206) rfl rfl
theorem fq_207 : ((.fieldLink fn_R_Dk 80 "FetchDesk" "time" "D") : Cond) ∈ fb_tbl := fb_mem1 (i := 207) rfl rfl
theorem fq_208 : ((.fieldLink fn_R_Dk 100 "FetchDesk" "requestCount" "I") : Cond) ∈ fb_tbl := fb_mem1 (i := 208) rfl rfl
theorem fq_209 : ((.fieldLink fn_R_Dk 109 "FetchDesk" "errorCount" "I") : Cond) ∈ fb_tbl := fb_mem1 (i := 209) rfl rfl
theorem fq_210 : ((.fieldLink fn_R_Dk 174 "FetchDesk" "requestedCount" "I") : Cond) ∈ fb_tbl := fb_mem1 (i := 210) rfl rfl
theorem fq_211 : ((.fieldLink fn_R_Dk 175 "FetchDesk" "askedCount" "I") : Cond) ∈ fb_tbl := fb_mem1 (i := 211) rfl rfl
theorem fq_212 : ((.fieldLink fn_R_Dk 178 "FetchDesk" "rememberedCount" "I") : Cond) ∈ fb_tbl := fb_mem1 (i := 212) rfl rfl
theorem fq_232 : ((.methodLink fn_R_Lw 58 fy_Lw_serve) : Cond) ∈ fb_tbl := fb_mem1 (i := 232) rfl rfl
theorem fq_233 : ((.static fy_Lw_serve) : Cond) ∈ fb_tbl := fb_mem1 (i := 233) rfl rfl
theorem fq_235 : ((.classLink fn_R_Lw 13 "java/lang/IllegalArgumentException") : Cond) ∈ fb_tbl := fb_mem1 (i := 235) rfl rfl
theorem fq_236 : ((.methodLink fn_R_Lw 7 fy_Dk_serve) : Cond) ∈ fb_tbl := fb_mem1 (i := 236) rfl rfl
theorem fq_237 : ((.instanceMethod fy_Dk_serve) : Cond) ∈ fb_tbl := fb_mem1 (i := 237) rfl rfl
theorem fq_238 : ((.selects fn_R_Dk fy_Dk_serve fy_Dk_serve) : Cond) ∈ fb_tbl := fb_mem1 (i := 238) rfl rfl
theorem fq_240 : ((.methodLink fn_R_Dk 30 fy_Dk_isUrl) : Cond) ∈ fb_tbl := fb_mem2 (i := 0) rfl rfl
theorem fq_241 : ((.static fy_Dk_isUrl) : Cond) ∈ fb_tbl := fb_mem2 (i := 1) rfl rfl
theorem fq_243 : ((.classLink fn_R_Dk 34 "java/lang/IllegalArgumentException") : Cond) ∈ fb_tbl := fb_mem2 (i := 3) rfl rfl
theorem fq_266 : ((.instanceMethod ⟨"java/lang/Throwable", "<init>", "()V"⟩) : Cond) ∈ fb_tbl := fb_mem2 (i := 26) rfl rfl
theorem fq_268 : ((.methodLink "java/lang/Throwable" 1 objectInit) : Cond) ∈ fb_tbl := fb_mem2 (i := 28) rfl rfl
theorem fq_273 : ((.methodLink "java/lang/Throwable" 27 ⟨"java/lang/Throwable", "fillInStackTrace", "()Ljava/lang/Throwable;"⟩) : Cond) ∈ fb_tbl := fb_mem2 (i := 33) rfl rfl
theorem fq_274 : ((.instanceMethod ⟨"java/lang/Throwable", "fillInStackTrace", "()Ljava/lang/Throwable;"⟩) : Cond) ∈ fb_tbl := fb_mem2 (i := 34) rfl rfl
theorem fq_279 : ((.methodLink "java/lang/Throwable" 202 ⟨"java/lang/Throwable", "fillInStackTrace", "(I)Ljava/lang/Throwable;"⟩) : Cond) ∈ fb_tbl := fb_mem2 (i := 39) rfl rfl
theorem fq_281 : ((.instanceMethod ⟨"java/lang/Throwable", "fillInStackTrace", "(I)Ljava/lang/Throwable;"⟩) : Cond) ∈ fb_tbl := fb_mem2 (i := 41) rfl rfl
theorem fq_284 : ((.methodLink fn_R_Dk 36 ⟨"java/lang/IllegalArgumentException", "<init>", "()V"⟩) : Cond) ∈ fb_tbl := fb_mem2 (i := 44) rfl rfl
theorem fq_285 : ((.instanceMethod ⟨"java/lang/IllegalArgumentException", "<init>", "()V"⟩) : Cond) ∈ fb_tbl := fb_mem2 (i := 45) rfl rfl
theorem fq_287 : ((.methodLink "java/lang/IllegalArgumentException" 1 ⟨"java/lang/RuntimeException", "<init>", "()V"⟩) : Cond) ∈ fb_tbl := fb_mem2 (i := 47) rfl rfl
theorem fq_288 : ((.instanceMethod ⟨"java/lang/RuntimeException", "<init>", "()V"⟩) : Cond) ∈ fb_tbl := fb_mem2 (i := 48) rfl rfl
theorem fq_290 : ((.methodLink "java/lang/RuntimeException" 1 ⟨"java/lang/Exception", "<init>", "()V"⟩) : Cond) ∈ fb_tbl := fb_mem2 (i := 50) rfl rfl
theorem fq_291 : ((.instanceMethod ⟨"java/lang/Exception", "<init>", "()V"⟩) : Cond) ∈ fb_tbl := fb_mem2 (i := 51) rfl rfl
theorem fq_293 : ((.methodLink "java/lang/Exception" 1 ⟨"java/lang/Throwable", "<init>", "()V"⟩) : Cond) ∈ fb_tbl := fb_mem2 (i := 53) rfl rfl
theorem fq_306 : ((.methodLink fn_R_Lw 68 fy_Lw_headers) : Cond) ∈ fb_tbl := fb_mem2 (i := 66) rfl rfl
theorem fq_307 : ((.static fy_Lw_headers) : Cond) ∈ fb_tbl := fb_mem2 (i := 67) rfl rfl
theorem fq_309 : ((.methodLink fn_R_Lw 15 fy_Dk_headers) : Cond) ∈ fb_tbl := fb_mem2 (i := 69) rfl rfl
theorem fq_310 : ((.instanceMethod fy_Dk_headers) : Cond) ∈ fb_tbl := fb_mem2 (i := 70) rfl rfl
theorem fq_311 : ((.selects fn_R_Dk fy_Dk_headers fy_Dk_headers) : Cond) ∈ fb_tbl := fb_mem2 (i := 71) rfl rfl
theorem fq_313 : ((.methodLink fn_R_Dk 47 fy_Dk_isFourBits) : Cond) ∈ fb_tbl := fb_mem2 (i := 73) rfl rfl
theorem fq_314 : ((.static fy_Dk_isFourBits) : Cond) ∈ fb_tbl := fb_mem2 (i := 74) rfl rfl
theorem fq_316 : ((.methodLink fn_R_Lw 72 fy_Lw_allow) : Cond) ∈ fb_tbl := fb_mem2 (i := 76) rfl rfl
theorem fq_317 : ((.static fy_Lw_allow) : Cond) ∈ fb_tbl := fb_mem2 (i := 77) rfl rfl
theorem fq_319 : ((.methodLink fn_R_Lw 19 fy_Dk_allow) : Cond) ∈ fb_tbl := fb_mem2 (i := 79) rfl rfl
theorem fq_320 : ((.instanceMethod fy_Dk_allow) : Cond) ∈ fb_tbl := fb_mem2 (i := 80) rfl rfl
theorem fq_321 : ((.selects fn_R_Dk fy_Dk_allow fy_Dk_allow) : Cond) ∈ fb_tbl := fb_mem2 (i := 81) rfl rfl
theorem fq_323 : ((.methodLink fn_R_Lw 78 fy_Lw_asked) : Cond) ∈ fb_tbl := fb_mem2 (i := 83) rfl rfl
theorem fq_324 : ((.static fy_Lw_asked) : Cond) ∈ fb_tbl := fb_mem2 (i := 84) rfl rfl
theorem fq_326 : ((.methodLink fn_R_Lw 23 fy_Dk_asked) : Cond) ∈ fb_tbl := fb_mem2 (i := 86) rfl rfl
theorem fq_327 : ((.instanceMethod fy_Dk_asked) : Cond) ∈ fb_tbl := fb_mem2 (i := 87) rfl rfl
theorem fq_328 : ((.selects fn_R_Dk fy_Dk_asked fy_Dk_asked) : Cond) ∈ fb_tbl := fb_mem2 (i := 88) rfl rfl
theorem fq_330 : ((.constantDouble fn_R_Dk 63 4636737291354636288) : Cond) ∈ fb_tbl := fb_mem2 (i := 90) rfl rfl
theorem fq_331 : ((.methodLink fn_R_Lw 82 fy_Lw_tick) : Cond) ∈ fb_tbl := fb_mem2 (i := 91) rfl rfl
theorem fq_332 : ((.static fy_Lw_tick) : Cond) ∈ fb_tbl := fb_mem2 (i := 92) rfl rfl
theorem fq_334 : ((.methodLink fn_R_Lw 27 fy_Dk_tick) : Cond) ∈ fb_tbl := fb_mem2 (i := 94) rfl rfl
theorem fq_335 : ((.instanceMethod fy_Dk_tick) : Cond) ∈ fb_tbl := fb_mem2 (i := 95) rfl rfl
theorem fq_336 : ((.selects fn_R_Dk fy_Dk_tick fy_Dk_tick) : Cond) ∈ fb_tbl := fb_mem2 (i := 96) rfl rfl
theorem fq_338 : ((.constantDouble fn_R_Dk 78 4652007308841189376) : Cond) ∈ fb_tbl := fb_mem2 (i := 98) rfl rfl
theorem fq_339 : ((.methodLink fn_R_Lw 86 fy_Lw_fetch) : Cond) ∈ fb_tbl := fb_mem2 (i := 99) rfl rfl
theorem fq_340 : ((.static fy_Lw_fetch) : Cond) ∈ fb_tbl := fb_mem2 (i := 100) rfl rfl
theorem fq_342 : ((.classLink fn_R_Lw 35 "java/lang/UnsupportedOperationException") : Cond) ∈ fb_tbl := fb_mem2 (i := 102) rfl rfl
theorem fq_343 : ((.methodLink fn_R_Lw 31 fy_Dk_fetch) : Cond) ∈ fb_tbl := fb_mem2 (i := 103) rfl rfl
theorem fq_344 : ((.instanceMethod fy_Dk_fetch) : Cond) ∈ fb_tbl := fb_mem2 (i := 104) rfl rfl
theorem fq_345 : ((.selects fn_R_Dk fy_Dk_fetch fy_Dk_fetch) : Cond) ∈ fb_tbl := fb_mem2 (i := 105) rfl rfl
theorem fq_347 : ((.methodLink fn_R_Dk 83 fy_Dk_isOrigin) : Cond) ∈ fb_tbl := fb_mem2 (i := 107) rfl rfl
theorem fq_348 : ((.static fy_Dk_isOrigin) : Cond) ∈ fb_tbl := fb_mem2 (i := 108) rfl rfl
theorem fq_350 : ((.methodLink fn_R_Dk 86 fy_Dk_isMethod) : Cond) ∈ fb_tbl := fb_mem2 (i := 110) rfl rfl
theorem fq_351 : ((.static fy_Dk_isMethod) : Cond) ∈ fb_tbl := fb_mem2 (i := 111) rfl rfl
theorem fq_353 : ((.methodLink fn_R_Dk 89 fy_Dk_isChoice) : Cond) ∈ fb_tbl := fb_mem2 (i := 113) rfl rfl
theorem fq_354 : ((.static fy_Dk_isChoice) : Cond) ∈ fb_tbl := fb_mem2 (i := 114) rfl rfl
theorem fq_356 : ((.methodLink fn_R_Dk 92 fy_Dk_isPlain) : Cond) ∈ fb_tbl := fb_mem2 (i := 116) rfl rfl
theorem fq_357 : ((.static fy_Dk_isPlain) : Cond) ∈ fb_tbl := fb_mem2 (i := 117) rfl rfl
theorem fq_359 : ((.methodLink fn_R_Dk 242 fy_Dk_isSimple) : Cond) ∈ fb_tbl := fb_mem2 (i := 119) rfl rfl
theorem fq_360 : ((.static fy_Dk_isSimple) : Cond) ∈ fb_tbl := fb_mem2 (i := 120) rfl rfl
theorem fq_364 : ((.instanceMethod fy_Rq_begin) : Cond) ∈ fb_tbl := fb_mem2 (i := 124) rfl rfl
theorem fq_366 : ((.methodLink fn_R_Rq 46 fy_Rq_show) : Cond) ∈ fb_tbl := fb_mem2 (i := 126) rfl rfl
theorem fq_368 : ((.instanceMethod fy_Rq_show) : Cond) ∈ fb_tbl := fb_mem2 (i := 128) rfl rfl
theorem fq_370 : ((.methodLink fn_R_Dk 103 fy_Dk_goThroughRounds) : Cond) ∈ fb_tbl := fb_mem2 (i := 130) rfl rfl
theorem fq_372 : ((.instanceMethod fy_Dk_goThroughRounds) : Cond) ∈ fb_tbl := fb_mem2 (i := 132) rfl rfl
theorem fq_374 : ((.methodLink fn_R_Dk 184 fy_Dk_goOneRound) : Cond) ∈ fb_tbl := fb_mem2 (i := 134) rfl rfl
theorem fq_376 : ((.instanceMethod fy_Dk_goOneRound) : Cond) ∈ fb_tbl := fb_mem2 (i := 136) rfl rfl
theorem fq_380 : ((.instanceMethod fy_Rq_enterRound) : Cond) ∈ fb_tbl := fb_mem2 (i := 140) rfl rfl
theorem fq_383 : ((.static fy_Dk_originOf) : Cond) ∈ fb_tbl := fb_mem2 (i := 143) rfl rfl
theorem fq_385 : ((.methodLink fn_R_Dk 190 fy_Dk_errorBeforeRequesting) : Cond) ∈ fb_tbl := fb_mem2 (i := 145) rfl rfl
theorem fq_387 : ((.instanceMethod fy_Dk_errorBeforeRequesting) : Cond) ∈ fb_tbl := fb_mem2 (i := 147) rfl rfl
theorem fq_391 : ((.instanceMethod fy_Rq_mustPass) : Cond) ∈ fb_tbl := fb_mem2 (i := 151) rfl rfl
theorem fq_395 : ((.instanceMethod fy_Mm_covers) : Cond) ∈ fb_tbl := fb_mem2 (i := 155) rfl rfl
theorem fq_397 : ((.methodLink fn_R_Mm 39 fy_Mm_find) : Cond) ∈ fb_tbl := fb_mem2 (i := 157) rfl rfl
theorem fq_399 : ((.instanceMethod fy_Mm_find) : Cond) ∈ fb_tbl := fb_mem2 (i := 159) rfl rfl
theorem fq_402 : ((.static fy_Dk_lets) : Cond) ∈ fb_tbl := fb_mem2 (i := 162) rfl rfl
theorem fq_404 : ((.methodLink fn_R_Dk 227 fy_Dk_ask) : Cond) ∈ fb_tbl := fb_mem2 (i := 164) rfl rfl
theorem fq_406 : ((.instanceMethod fy_Dk_ask) : Cond) ∈ fb_tbl := fb_mem2 (i := 166) rfl rfl
theorem fq_410 : ((.instanceMethod fy_Mm_forget) : Cond) ∈ fb_tbl := fb_mem2 (i := 170) rfl rfl
theorem fq_412 : ((.methodLink fn_R_Mm 57 fy_Mm_drop) : Cond) ∈ fb_tbl := fb_mem2 (i := 172) rfl rfl
theorem fq_414 : ((.instanceMethod fy_Mm_drop) : Cond) ∈ fb_tbl := fb_mem2 (i := 174) rfl rfl
theorem fq_418 : ((.instanceMethod fy_Rq_passes) : Cond) ∈ fb_tbl := fb_mem2 (i := 178) rfl rfl
theorem fq_420 : ((.methodLink fn_R_Dk 234 fy_Dk_lets) : Cond) ∈ fb_tbl := fb_mem2 (i := 180) rfl rfl
theorem fq_423 : ((.instanceMethod fy_Mm_remember) : Cond) ∈ fb_tbl := fb_mem2 (i := 183) rfl rfl
theorem fq_425 : ((.methodLink fn_R_Mm 61 fy_Mm_firstToEnd) : Cond) ∈ fb_tbl := fb_mem2 (i := 185) rfl rfl
theorem fq_427 : ((.instanceMethod fy_Mm_firstToEnd) : Cond) ∈ fb_tbl := fb_mem2 (i := 187) rfl rfl
theorem fq_429 : ((.constantDouble fn_R_Mm 70 4621819117588971520) : Cond) ∈ fb_tbl := fb_mem2 (i := 189) rfl rfl
theorem fq_432 : ((.instanceMethod fy_Pm_write) : Cond) ∈ fb_tbl := fb_mem2 (i := 192) rfl rfl
theorem fq_434 : ((.methodLink fn_R_Dk 194 fy_Dk_countRequested) : Cond) ∈ fb_tbl := fb_mem2 (i := 194) rfl rfl
theorem fq_436 : ((.instanceMethod fy_Dk_countRequested) : Cond) ∈ fb_tbl := fb_mem2 (i := 196) rfl rfl
theorem fq_440 : ((.instanceMethod fy_Rs_isRedirect) : Cond) ∈ fb_tbl := fb_mem2 (i := 200) rfl rfl
theorem fq_444 : ((.instanceMethod fy_Rq_meetRedirect) : Cond) ∈ fb_tbl := fb_mem2 (i := 204) rfl rfl
theorem fq_446 : ((.methodLink fn_R_Rq 74 fy_Rq_follow) : Cond) ∈ fb_tbl := fb_mem2 (i := 206) rfl rfl
theorem fq_448 : ((.instanceMethod fy_Rq_follow) : Cond) ∈ fb_tbl := fb_mem2 (i := 208) rfl rfl
theorem fq_452 : ((.instanceMethod fy_Rs_turnsIntoGet) : Cond) ∈ fb_tbl := fb_mem2 (i := 212) rfl rfl
theorem fq_456 : ((.instanceMethod fy_Rq_takeResponse) : Cond) ∈ fb_tbl := fb_mem2 (i := 216) rfl rfl
theorem fq_458 : ((.classLink fn_R_Dk 112 "java/lang/UnsupportedOperationException") : Cond) ∈ fb_tbl := fb_mem2 (i := 218) rfl rfl
theorem fq_467 : ((.methodLink fn_R_Dk 114 ⟨"java/lang/UnsupportedOperationException", "<init>", "()V"⟩) : Cond) ∈ fb_tbl := fb_mem2 (i := 227) rfl rfl
theorem fq_468 : ((.instanceMethod ⟨"java/lang/UnsupportedOperationException", "<init>", "()V"⟩) : Cond) ∈ fb_tbl := fb_mem2 (i := 228) rfl rfl
theorem fq_470 : ((.methodLink "java/lang/UnsupportedOperationException" 1 ⟨"java/lang/RuntimeException", "<init>", "()V"⟩) : Cond) ∈ fb_tbl := fb_mem2 (i := 230) rfl rfl
theorem fq_473 : ((.methodLink fn_R_Lw 90 fy_Lw_told) : Cond) ∈ fb_tbl := fb_mem2 (i := 233) rfl rfl
theorem fq_474 : ((.static fy_Lw_told) : Cond) ∈ fb_tbl := fb_mem2 (i := 234) rfl rfl
theorem fq_476 : ((.methodLink fn_R_Lw 37 fy_Dk_told) : Cond) ∈ fb_tbl := fb_mem2 (i := 236) rfl rfl
theorem fq_477 : ((.instanceMethod fy_Dk_told) : Cond) ∈ fb_tbl := fb_mem2 (i := 237) rfl rfl
theorem fq_478 : ((.selects fn_R_Dk fy_Dk_told fy_Dk_told) : Cond) ∈ fb_tbl := fb_mem2 (i := 238) rfl rfl
theorem fq_480 : ((.methodLink fn_R_Lw 94 fy_Lw_kept) : Cond) ∈ fb_tbl := fb_mem3 (i := 0) rfl rfl
theorem fq_481 : ((.static fy_Lw_kept) : Cond) ∈ fb_tbl := fb_mem3 (i := 1) rfl rfl
theorem fq_483 : ((.classLink fn_R_Lw 45 "java/lang/IndexOutOfBoundsException") : Cond) ∈ fb_tbl := fb_mem3 (i := 3) rfl rfl
theorem fq_484 : ((.methodLink fn_R_Lw 41 fy_Dk_kept) : Cond) ∈ fb_tbl := fb_mem3 (i := 4) rfl rfl
theorem fq_485 : ((.instanceMethod fy_Dk_kept) : Cond) ∈ fb_tbl := fb_mem3 (i := 5) rfl rfl
theorem fq_486 : ((.selects fn_R_Dk fy_Dk_kept fy_Dk_kept) : Cond) ∈ fb_tbl := fb_mem3 (i := 6) rfl rfl
theorem fq_490 : ((.instanceMethod fy_Mm_holds) : Cond) ∈ fb_tbl := fb_mem3 (i := 10) rfl rfl
theorem fq_492 : ((.classLink fn_R_Dk 145 "java/lang/IndexOutOfBoundsException") : Cond) ∈ fb_tbl := fb_mem3 (i := 12) rfl rfl
theorem fq_501 : ((.methodLink fn_R_Dk 147 ⟨"java/lang/IndexOutOfBoundsException", "<init>", "()V"⟩) : Cond) ∈ fb_tbl := fb_mem3 (i := 21) rfl rfl
theorem fq_502 : ((.instanceMethod ⟨"java/lang/IndexOutOfBoundsException", "<init>", "()V"⟩) : Cond) ∈ fb_tbl := fb_mem3 (i := 22) rfl rfl
theorem fq_504 : ((.methodLink "java/lang/IndexOutOfBoundsException" 1 ⟨"java/lang/RuntimeException", "<init>", "()V"⟩) : Cond) ∈ fb_tbl := fb_mem3 (i := 24) rfl rfl
theorem fq_507 : ((.methodLink fn_R_Lw 98 fy_Lw_left) : Cond) ∈ fb_tbl := fb_mem3 (i := 27) rfl rfl
theorem fq_508 : ((.static fy_Lw_left) : Cond) ∈ fb_tbl := fb_mem3 (i := 28) rfl rfl
theorem fq_510 : ((.methodLink fn_R_Lw 47 fy_Dk_left) : Cond) ∈ fb_tbl := fb_mem3 (i := 30) rfl rfl
theorem fq_511 : ((.instanceMethod fy_Dk_left) : Cond) ∈ fb_tbl := fb_mem3 (i := 31) rfl rfl
theorem fq_512 : ((.selects fn_R_Dk fy_Dk_left fy_Dk_left) : Cond) ∈ fb_tbl := fb_mem3 (i := 32) rfl rfl
theorem fq_514 : ((.methodLink fn_R_Lw 102 fy_Lw_count) : Cond) ∈ fb_tbl := fb_mem3 (i := 34) rfl rfl
theorem fq_515 : ((.static fy_Lw_count) : Cond) ∈ fb_tbl := fb_mem3 (i := 35) rfl rfl
theorem fq_517 : ((.methodLink fn_R_Lw 51 fy_Dk_count) : Cond) ∈ fb_tbl := fb_mem3 (i := 37) rfl rfl
theorem fq_518 : ((.instanceMethod fy_Dk_count) : Cond) ∈ fb_tbl := fb_mem3 (i := 38) rfl rfl
theorem fq_519 : ((.selects fn_R_Dk fy_Dk_count fy_Dk_count) : Cond) ∈ fb_tbl := fb_mem3 (i := 39) rfl rfl
theorem fq_521 : ((.classLink fn_R_Lw 55 fn_R_Md) : Cond) ∈ fb_tbl := fb_mem3 (i := 41) rfl rfl
theorem fq_522 : ((.instantiable fn_R_Md 33) : Cond) ∈ fb_tbl := fb_mem3 (i := 42) rfl rfl
theorem fq_523 : ((.methodLink fn_R_Lw 57 fy_Md_init) : Cond) ∈ fb_tbl := fb_mem3 (i := 43) rfl rfl
theorem fq_524 : ((.instanceMethod fy_Md_init) : Cond) ∈ fb_tbl := fb_mem3 (i := 44) rfl rfl
theorem fq_526 : ((.methodLink fn_R_Md 1 objectInit) : Cond) ∈ fb_tbl := fb_mem3 (i := 46) rfl rfl
theorem fq_527 : ((.fieldLink fn_R_Md 7 "FetchDeskModel" "status" "[I") : Cond) ∈ fb_tbl := fb_mem3 (i := 47) rfl rfl
theorem fq_528 : ((.fieldLink fn_R_Md 13 "FetchDeskModel" "body" "[I") : Cond) ∈ fb_tbl := fb_mem3 (i := 48) rfl rfl
theorem fq_529 : ((.fieldLink fn_R_Md 16 "FetchDeskModel" "target" "[I") : Cond) ∈ fb_tbl := fb_mem3 (i := 49) rfl rfl
theorem fq_530 : ((.fieldLink fn_R_Md 19 "FetchDeskModel" "given" "[I") : Cond) ∈ fb_tbl := fb_mem3 (i := 50) rfl rfl
theorem fq_531 : ((.fieldLink fn_R_Md 22 "FetchDeskModel" "exposed" "[I") : Cond) ∈ fb_tbl := fb_mem3 (i := 51) rfl rfl
theorem fq_532 : ((.fieldLink fn_R_Md 25 "FetchDeskModel" "allowed" "[I") : Cond) ∈ fb_tbl := fb_mem3 (i := 52) rfl rfl
theorem fq_533 : ((.fieldLink fn_R_Md 28 "FetchDeskModel" "methods" "[I") : Cond) ∈ fb_tbl := fb_mem3 (i := 53) rfl rfl
theorem fq_534 : ((.fieldLink fn_R_Md 31 "FetchDeskModel" "takes" "[I") : Cond) ∈ fb_tbl := fb_mem3 (i := 54) rfl rfl
theorem fq_535 : ((.fieldLink fn_R_Md 34 "FetchDeskModel" "requested" "[I") : Cond) ∈ fb_tbl := fb_mem3 (i := 55) rfl rfl
theorem fq_536 : ((.fieldLink fn_R_Md 37 "FetchDeskModel" "trusted" "[I") : Cond) ∈ fb_tbl := fb_mem3 (i := 56) rfl rfl
theorem fq_537 : ((.fieldLink fn_R_Md 40 "FetchDeskModel" "trusts" "[Z") : Cond) ∈ fb_tbl := fb_mem3 (i := 57) rfl rfl
theorem fq_538 : ((.fieldLink fn_R_Md 44 "FetchDeskModel" "ok" "[Z") : Cond) ∈ fb_tbl := fb_mem3 (i := 58) rfl rfl
theorem fq_539 : ((.fieldLink fn_R_Md 47 "FetchDeskModel" "withKept" "[Z") : Cond) ∈ fb_tbl := fb_mem3 (i := 59) rfl rfl
theorem fq_540 : ((.fieldLink fn_R_Md 50 "FetchDeskModel" "age" "[D") : Cond) ∈ fb_tbl := fb_mem3 (i := 60) rfl rfl
theorem fq_541 : ((.fieldLink fn_R_Md 54 "FetchDeskModel" "endKept" "[D") : Cond) ∈ fb_tbl := fb_mem3 (i := 61) rfl rfl
theorem fq_542 : ((.fieldLink fn_R_Md 57 "FetchDeskModel" "originKept" "[I") : Cond) ∈ fb_tbl := fb_mem3 (i := 62) rfl rfl
theorem fq_543 : ((.fieldLink fn_R_Md 60 "FetchDeskModel" "urlKept" "[I") : Cond) ∈ fb_tbl := fb_mem3 (i := 63) rfl rfl
theorem fq_544 : ((.fieldLink fn_R_Md 63 "FetchDeskModel" "methodsKept" "[I") : Cond) ∈ fb_tbl := fb_mem3 (i := 64) rfl rfl
theorem fq_545 : ((.fieldLink fn_R_Md 66 "FetchDeskModel" "headersKept" "[I") : Cond) ∈ fb_tbl := fb_mem3 (i := 65) rfl rfl
theorem fq_546 : ((.fieldLink fn_R_Md 69 "FetchDeskModel" "told" "[I") : Cond) ∈ fb_tbl := fb_mem3 (i := 66) rfl rfl
theorem fq_547 : ((.fieldLink fn_R_Md 92 "FetchDeskModel" "time" "D") : Cond) ∈ fb_tbl := fb_mem3 (i := 67) rfl rfl
theorem fq_548 : ((.fieldLink fn_R_Md 106 "FetchDeskModel" "kept" "I") : Cond) ∈ fb_tbl := fb_mem3 (i := 68) rfl rfl
theorem fq_549 : ((.fieldLink fn_R_Md 158 "FetchDeskModel" "requests" "I") : Cond) ∈ fb_tbl := fb_mem3 (i := 69) rfl rfl
theorem fq_550 : ((.fieldLink fn_R_Md 165 "FetchDeskModel" "errors" "I") : Cond) ∈ fb_tbl := fb_mem3 (i := 70) rfl rfl
theorem fq_551 : ((.fieldLink fn_R_Md 146 "FetchDeskModel" "all" "I") : Cond) ∈ fb_tbl := fb_mem3 (i := 71) rfl rfl
theorem fq_552 : ((.fieldLink fn_R_Md 127 "FetchDeskModel" "asks" "I") : Cond) ∈ fb_tbl := fb_mem3 (i := 72) rfl rfl
theorem fq_553 : ((.fieldLink fn_R_Md 140 "FetchDeskModel" "remembered" "I") : Cond) ∈ fb_tbl := fb_mem3 (i := 73) rfl rfl
theorem fq_554 : ((.fieldLink fn_R_Md 72 "FetchDeskModel" "thrown" "I") : Cond) ∈ fb_tbl := fb_mem3 (i := 74) rfl rfl
theorem fq_555 : ((.fieldLink fn_R_Md 99 "FetchDeskModel" "origin" "I") : Cond) ∈ fb_tbl := fb_mem3 (i := 75) rfl rfl
theorem fq_556 : ((.fieldLink fn_R_Md 96 "FetchDeskModel" "url" "I") : Cond) ∈ fb_tbl := fb_mem3 (i := 76) rfl rfl
theorem fq_557 : ((.fieldLink fn_R_Md 112 "FetchDeskModel" "method" "I") : Cond) ∈ fb_tbl := fb_mem3 (i := 77) rfl rfl
theorem fq_558 : ((.fieldLink fn_R_Md 118 "FetchDeskModel" "headers" "I") : Cond) ∈ fb_tbl := fb_mem3 (i := 78) rfl rfl
theorem fq_559 : ((.fieldLink fn_R_Md 102 "FetchDeskModel" "sent" "Z") : Cond) ∈ fb_tbl := fb_mem3 (i := 79) rfl rfl
theorem fq_627 : ((.arrayClass .int) : Cond) ∈ fb_tbl := fb_mem3 (i := 147) rfl rfl
theorem fq_628 : ((.arrayClass .boolean) : Cond) ∈ fb_tbl := fb_mem3 (i := 148) rfl rfl
theorem fq_629 : ((.arrayClass .double) : Cond) ∈ fb_tbl := fb_mem3 (i := 149) rfl rfl
theorem fq_630 : ((.methodLink fn_R_Lw 64 fy_Md_thrown) : Cond) ∈ fb_tbl := fb_mem3 (i := 150) rfl rfl
theorem fq_631 : ((.instanceMethod fy_Md_thrown) : Cond) ∈ fb_tbl := fb_mem3 (i := 151) rfl rfl
theorem fq_632 : ((.selects fn_R_Md fy_Md_thrown fy_Md_thrown) : Cond) ∈ fb_tbl := fb_mem3 (i := 152) rfl rfl
theorem fq_634 : ((.methodLink fn_R_Lw 63 fy_Md_serve) : Cond) ∈ fb_tbl := fb_mem3 (i := 154) rfl rfl
theorem fq_635 : ((.instanceMethod fy_Md_serve) : Cond) ∈ fb_tbl := fb_mem3 (i := 155) rfl rfl
theorem fq_636 : ((.selects fn_R_Md fy_Md_serve fy_Md_serve) : Cond) ∈ fb_tbl := fb_mem3 (i := 156) rfl rfl
theorem fq_638 : ((.methodLink fn_R_Md 80 fy_Md_isUrl) : Cond) ∈ fb_tbl := fb_mem3 (i := 158) rfl rfl
theorem fq_639 : ((.static fy_Md_isUrl) : Cond) ∈ fb_tbl := fb_mem3 (i := 159) rfl rfl
theorem fq_641 : ((.methodLink fn_R_Md 76 fy_Md_in) : Cond) ∈ fb_tbl := fb_mem3 (i := 161) rfl rfl
theorem fq_642 : ((.static fy_Md_in) : Cond) ∈ fb_tbl := fb_mem3 (i := 162) rfl rfl
theorem fq_644 : ((.methodLink fn_R_Lw 71 fy_Md_headers) : Cond) ∈ fb_tbl := fb_mem3 (i := 164) rfl rfl
theorem fq_645 : ((.instanceMethod fy_Md_headers) : Cond) ∈ fb_tbl := fb_mem3 (i := 165) rfl rfl
theorem fq_646 : ((.selects fn_R_Md fy_Md_headers fy_Md_headers) : Cond) ∈ fb_tbl := fb_mem3 (i := 166) rfl rfl
theorem fq_648 : ((.methodLink fn_R_Lw 75 fy_Md_allow) : Cond) ∈ fb_tbl := fb_mem3 (i := 168) rfl rfl
theorem fq_649 : ((.instanceMethod fy_Md_allow) : Cond) ∈ fb_tbl := fb_mem3 (i := 169) rfl rfl
theorem fq_650 : ((.selects fn_R_Md fy_Md_allow fy_Md_allow) : Cond) ∈ fb_tbl := fb_mem3 (i := 170) rfl rfl
theorem fq_652 : ((.methodLink fn_R_Md 84 fy_Md_fail) : Cond) ∈ fb_tbl := fb_mem3 (i := 172) rfl rfl
theorem fq_654 : ((.instanceMethod fy_Md_fail) : Cond) ∈ fb_tbl := fb_mem3 (i := 174) rfl rfl
theorem fq_656 : ((.methodLink fn_R_Lw 81 fy_Md_asked) : Cond) ∈ fb_tbl := fb_mem3 (i := 176) rfl rfl
theorem fq_657 : ((.instanceMethod fy_Md_asked) : Cond) ∈ fb_tbl := fb_mem3 (i := 177) rfl rfl
theorem fq_658 : ((.selects fn_R_Md fy_Md_asked fy_Md_asked) : Cond) ∈ fb_tbl := fb_mem3 (i := 178) rfl rfl
theorem fq_660 : ((.constantDouble fn_R_Md 88 4636737291354636288) : Cond) ∈ fb_tbl := fb_mem3 (i := 180) rfl rfl
theorem fq_661 : ((.methodLink fn_R_Lw 85 fy_Md_tick) : Cond) ∈ fb_tbl := fb_mem3 (i := 181) rfl rfl
theorem fq_662 : ((.instanceMethod fy_Md_tick) : Cond) ∈ fb_tbl := fb_mem3 (i := 182) rfl rfl
theorem fq_663 : ((.selects fn_R_Md fy_Md_tick fy_Md_tick) : Cond) ∈ fb_tbl := fb_mem3 (i := 183) rfl rfl
theorem fq_665 : ((.constantDouble fn_R_Md 90 4652007308841189376) : Cond) ∈ fb_tbl := fb_mem3 (i := 185) rfl rfl
theorem fq_666 : ((.methodLink fn_R_Lw 89 fy_Md_fetch) : Cond) ∈ fb_tbl := fb_mem3 (i := 186) rfl rfl
theorem fq_667 : ((.instanceMethod fy_Md_fetch) : Cond) ∈ fb_tbl := fb_mem3 (i := 187) rfl rfl
theorem fq_668 : ((.selects fn_R_Md fy_Md_fetch fy_Md_fetch) : Cond) ∈ fb_tbl := fb_mem3 (i := 188) rfl rfl
theorem fq_670 : ((.methodLink fn_R_Md 115 fy_Md_isSimple) : Cond) ∈ fb_tbl := fb_mem3 (i := 190) rfl rfl
theorem fq_671 : ((.static fy_Md_isSimple) : Cond) ∈ fb_tbl := fb_mem3 (i := 191) rfl rfl
theorem fq_673 : ((.methodLink fn_R_Md 161 fy_Md_go) : Cond) ∈ fb_tbl := fb_mem3 (i := 193) rfl rfl
theorem fq_675 : ((.instanceMethod fy_Md_go) : Cond) ∈ fb_tbl := fb_mem3 (i := 195) rfl rfl
theorem fq_677 : ((.methodLink fn_R_Md 137 fy_Md_isRemembered) : Cond) ∈ fb_tbl := fb_mem3 (i := 197) rfl rfl
theorem fq_679 : ((.instanceMethod fy_Md_isRemembered) : Cond) ∈ fb_tbl := fb_mem3 (i := 199) rfl rfl
theorem fq_681 : ((.methodLink fn_R_Md 109 fy_Md_isSame) : Cond) ∈ fb_tbl := fb_mem3 (i := 201) rfl rfl
theorem fq_683 : ((.instanceMethod fy_Md_isSame) : Cond) ∈ fb_tbl := fb_mem3 (i := 203) rfl rfl
theorem fq_685 : ((.methodLink fn_R_Md 143 fy_Md_ask) : Cond) ∈ fb_tbl := fb_mem3 (i := 205) rfl rfl
theorem fq_687 : ((.instanceMethod fy_Md_ask) : Cond) ∈ fb_tbl := fb_mem3 (i := 207) rfl rfl
theorem fq_689 : ((.methodLink fn_R_Md 121 fy_Md_forget) : Cond) ∈ fb_tbl := fb_mem3 (i := 209) rfl rfl
theorem fq_691 : ((.instanceMethod fy_Md_forget) : Cond) ∈ fb_tbl := fb_mem3 (i := 211) rfl rfl
theorem fq_693 : ((.methodLink fn_R_Md 130 fy_Md_passes) : Cond) ∈ fb_tbl := fb_mem3 (i := 213) rfl rfl
theorem fq_695 : ((.instanceMethod fy_Md_passes) : Cond) ∈ fb_tbl := fb_mem3 (i := 215) rfl rfl
theorem fq_697 : ((.methodLink fn_R_Md 134 fy_Md_keep) : Cond) ∈ fb_tbl := fb_mem3 (i := 217) rfl rfl
theorem fq_699 : ((.instanceMethod fy_Md_keep) : Cond) ∈ fb_tbl := fb_mem3 (i := 219) rfl rfl
theorem fq_701 : ((.constantDouble fn_R_Md 125 4621819117588971520) : Cond) ∈ fb_tbl := fb_mem3 (i := 221) rfl rfl
theorem fq_702 : ((.methodLink fn_R_Md 149 fy_Md_isMoved) : Cond) ∈ fb_tbl := fb_mem3 (i := 222) rfl rfl
theorem fq_703 : ((.static fy_Md_isMoved) : Cond) ∈ fb_tbl := fb_mem3 (i := 223) rfl rfl
theorem fq_705 : ((.methodLink fn_R_Md 152 fy_Md_answer) : Cond) ∈ fb_tbl := fb_mem3 (i := 225) rfl rfl
theorem fq_707 : ((.instanceMethod fy_Md_answer) : Cond) ∈ fb_tbl := fb_mem3 (i := 227) rfl rfl
theorem fq_709 : ((.methodLink fn_R_Md 155 fy_Md_move) : Cond) ∈ fb_tbl := fb_mem3 (i := 229) rfl rfl
theorem fq_711 : ((.instanceMethod fy_Md_move) : Cond) ∈ fb_tbl := fb_mem3 (i := 231) rfl rfl
theorem fq_713 : ((.methodLink fn_R_Lw 93 fy_Md_told) : Cond) ∈ fb_tbl := fb_mem3 (i := 233) rfl rfl
theorem fq_714 : ((.instanceMethod fy_Md_told) : Cond) ∈ fb_tbl := fb_mem3 (i := 234) rfl rfl
theorem fq_715 : ((.selects fn_R_Md fy_Md_told fy_Md_told) : Cond) ∈ fb_tbl := fb_mem3 (i := 235) rfl rfl
theorem fq_717 : ((.methodLink fn_R_Lw 97 fy_Md_kept) : Cond) ∈ fb_tbl := fb_mem3 (i := 237) rfl rfl
theorem fq_718 : ((.instanceMethod fy_Md_kept) : Cond) ∈ fb_tbl := fb_mem3 (i := 238) rfl rfl
theorem fq_719 : ((.selects fn_R_Md fy_Md_kept fy_Md_kept) : Cond) ∈ fb_tbl := fb_mem3 (i := 239) rfl rfl
theorem fq_721 : ((.methodLink fn_R_Lw 101 fy_Md_left) : Cond) ∈ fb_tbl := fb_mem4 (i := 1) rfl rfl
theorem fq_722 : ((.instanceMethod fy_Md_left) : Cond) ∈ fb_tbl := fb_mem4 (i := 2) rfl rfl
theorem fq_723 : ((.selects fn_R_Md fy_Md_left fy_Md_left) : Cond) ∈ fb_tbl := fb_mem4 (i := 3) rfl rfl
theorem fq_725 : ((.methodLink fn_R_Lw 104 fy_Md_count) : Cond) ∈ fb_tbl := fb_mem4 (i := 5) rfl rfl
theorem fq_726 : ((.instanceMethod fy_Md_count) : Cond) ∈ fb_tbl := fb_mem4 (i := 6) rfl rfl
theorem fq_727 : ((.selects fn_R_Md fy_Md_count fy_Md_count) : Cond) ∈ fb_tbl := fb_mem4 (i := 7) rfl rfl
theorem fq_729 : ((.constantDouble fn_R_Lw 76 4593671619917905920) : Cond) ∈ fb_tbl := fb_mem4 (i := 9) rfl rfl
theorem fq_730 : ((.arrayClass .long) : Cond) ∈ fb_tbl := fb_mem4 (i := 10) rfl rfl
def fn_nw : List Cond := [.methodLinkNest fn_R_Dk 15 fy_Rs_init "FetchDesk",
  .fieldLinkNest fn_R_Dk 37 "FetchDesk$Resource" "status" "I" "FetchDesk",
  .fieldLinkNest fn_R_Rq 85 "FetchDesk$Resource" "status" "I" "FetchDesk",
  .fieldLinkNest fn_R_Dk 41 "FetchDesk$Resource" "body" "I" "FetchDesk",
  .fieldLinkNest fn_R_Rq 88 "FetchDesk$Resource" "body" "I" "FetchDesk",
  .fieldLinkNest fn_R_Dk 44 "FetchDesk$Resource" "target" "I" "FetchDesk",
  .fieldLinkNest fn_R_Rq 78 "FetchDesk$Resource" "target" "I" "FetchDesk",
  .fieldLinkNest fn_R_Dk 50 "FetchDesk$Resource" "givenHeaders" "I" "FetchDesk",
  .fieldLinkNest fn_R_Rq 91 "FetchDesk$Resource" "givenHeaders" "I" "FetchDesk",
  .fieldLinkNest fn_R_Dk 53 "FetchDesk$Resource" "exposedHeaders" "I" "FetchDesk",
  .fieldLinkNest fn_R_Rq 94 "FetchDesk$Resource" "exposedHeaders" "I" "FetchDesk",
  .fieldLinkNest fn_R_Dk 56 "FetchDesk$Resource" "allowedOrigins" "I" "FetchDesk",
  .fieldLinkNest fn_R_Rq 66 "FetchDesk$Resource" "allowedOrigins" "I" "FetchDesk",
  .fieldLinkNest fn_R_Dk 59 "FetchDesk$Resource" "allowsCredentials" "Z" "FetchDesk",
  .fieldLinkNest fn_R_Rq 71 "FetchDesk$Resource" "allowsCredentials" "Z" "FetchDesk",
  .fieldLinkNest fn_R_Dk 65 "FetchDesk$Resource" "okWhenAsked" "Z" "FetchDesk",
  .fieldLinkNest fn_R_Pm 27 "FetchDesk$Resource" "askedMethods" "I" "FetchDesk",
  .fieldLinkNest fn_R_Dk 68 "FetchDesk$Resource" "askedMethods" "I" "FetchDesk",
  .fieldLinkNest fn_R_Pm 35 "FetchDesk$Resource" "askedHeaders" "I" "FetchDesk",
  .fieldLinkNest fn_R_Dk 71 "FetchDesk$Resource" "askedHeaders" "I" "FetchDesk",
  .fieldLinkNest fn_R_Dk 74 "FetchDesk$Resource" "age" "D" "FetchDesk",
  .fieldLinkNest fn_R_Mm 65 "FetchDesk$Resource" "age" "D" "FetchDesk",
  .fieldLinkNest fn_R_Dk 168 "FetchDesk$Resource" "requestedCount" "I" "FetchDesk",
  .fieldLinkNest fn_R_Dk 171 "FetchDesk$Resource" "requestedWithCredentialsCount" "I" "FetchDesk",
  .methodLinkNest fn_R_Dk 18 fy_Mm_init "FetchDesk",
  .methodLinkNest fn_R_Mm 17 fy_Pm_init "FetchDesk",
  .fieldLinkNest fn_R_Mm 22 "FetchDesk$Permit" "origin" "I" "FetchDesk",
  .fieldLinkNest fn_R_Dk 152 "FetchDesk$Permit" "origin" "I" "FetchDesk",
  .fieldLinkNest fn_R_Mm 28 "FetchDesk$Permit" "url" "I" "FetchDesk",
  .fieldLinkNest fn_R_Dk 155 "FetchDesk$Permit" "url" "I" "FetchDesk",
  .fieldLinkNest fn_R_Mm 32 "FetchDesk$Permit" "withCredentials" "Z" "FetchDesk",
  .fieldLinkNest fn_R_Dk 156 "FetchDesk$Permit" "withCredentials" "Z" "FetchDesk",
  .fieldLinkNest fn_R_Mm 47 "FetchDesk$Permit" "methods" "I" "FetchDesk",
  .fieldLinkNest fn_R_Dk 159 "FetchDesk$Permit" "methods" "I" "FetchDesk",
  .fieldLinkNest fn_R_Mm 50 "FetchDesk$Permit" "headers" "I" "FetchDesk",
  .fieldLinkNest fn_R_Dk 162 "FetchDesk$Permit" "headers" "I" "FetchDesk",
  .fieldLinkNest fn_R_Mm 43 "FetchDesk$Permit" "end" "D" "FetchDesk",
  .fieldLinkNest fn_R_Dk 165 "FetchDesk$Permit" "end" "D" "FetchDesk",
  .fieldLinkNest fn_R_Dk 148 "FetchDesk$Memory" "permits" "[LFetchDesk$Permit;" "FetchDesk",
  .fieldLinkNest fn_R_Dk 181 "FetchDesk$Memory" "size" "I" "FetchDesk",
  .methodLinkNest fn_R_Dk 25 fy_Rq_init "FetchDesk",
  .fieldLinkNest fn_R_Pm 7 "FetchDesk$Request" "origin" "I" "FetchDesk",
  .fieldLinkNest fn_R_Mm 25 "FetchDesk$Request" "origin" "I" "FetchDesk",
  .fieldLinkNest fn_R_Dk 124 "FetchDesk$Request" "origin" "I" "FetchDesk",
  .fieldLinkNest fn_R_Pm 16 "FetchDesk$Request" "url" "I" "FetchDesk",
  .fieldLinkNest fn_R_Mm 31 "FetchDesk$Request" "url" "I" "FetchDesk",
  .fieldLinkNest fn_R_Dk 121 "FetchDesk$Request" "url" "I" "FetchDesk",
  .fieldLinkNest fn_R_Dk 127 "FetchDesk$Request" "method" "I" "FetchDesk",
  .fieldLinkNest fn_R_Dk 222 "FetchDesk$Request" "headers" "I" "FetchDesk",
  .fieldLinkNest fn_R_Dk 219 "FetchDesk$Request" "mode" "I" "FetchDesk",
  .fieldLinkNest fn_R_Dk 118 "FetchDesk$Request" "rounds" "I" "FetchDesk",
  .fieldLinkNest fn_R_Dk 216 "FetchDesk$Request" "far" "Z" "FetchDesk",
  .fieldLinkNest fn_R_Pm 20 "FetchDesk$Request" "sendsCredentials" "Z" "FetchDesk",
  .fieldLinkNest fn_R_Mm 36 "FetchDesk$Request" "sendsCredentials" "Z" "FetchDesk",
  .fieldLinkNest fn_R_Dk 130 "FetchDesk$Request" "sendsCredentials" "Z" "FetchDesk",
  .fieldLinkNest fn_R_Dk 106 "FetchDesk$Request" "error" "I" "FetchDesk",
  .fieldLinkNest fn_R_Dk 133 "FetchDesk$Request" "shownStatus" "I" "FetchDesk",
  .fieldLinkNest fn_R_Dk 136 "FetchDesk$Request" "shownBody" "I" "FetchDesk",
  .fieldLinkNest fn_R_Dk 139 "FetchDesk$Request" "shownHeaders" "I" "FetchDesk",
  .fieldLinkNest fn_R_Dk 115 "FetchDesk$Request" "sort" "I" "FetchDesk",
  .methodLinkNest fn_R_Dk 96 fy_Rq_begin "FetchDesk",
  .methodLinkNest fn_R_Dk 187 fy_Rq_enterRound "FetchDesk",
  .methodLinkNest fn_R_Rq 62 fy_Dk_originOf "FetchDesk",
  .methodLinkNest fn_R_Dk 198 fy_Rq_mustPass "FetchDesk",
  .methodLinkNest fn_R_Dk 223 fy_Mm_covers "FetchDesk",
  .methodLinkNest fn_R_Mm 53 fy_Dk_lets "FetchDesk",
  .methodLinkNest fn_R_Dk 230 fy_Mm_forget "FetchDesk",
  .methodLinkNest fn_R_Dk 202 fy_Rq_passes "FetchDesk",
  .methodLinkNest fn_R_Dk 238 fy_Mm_remember "FetchDesk",
  .methodLinkNest fn_R_Mm 72 fy_Pm_write "FetchDesk",
  .methodLinkNest fn_R_Dk 206 fy_Rs_isRedirect "FetchDesk",
  .methodLinkNest fn_R_Dk 209 fy_Rq_meetRedirect "FetchDesk",
  .methodLinkNest fn_R_Rq 81 fy_Rs_turnsIntoGet "FetchDesk",
  .methodLinkNest fn_R_Dk 213 fy_Rq_takeResponse "FetchDesk",
  .methodLinkNest fn_R_Dk 142 fy_Mm_holds "FetchDesk"]
theorem fq_24 : ((.methodLinkNest fn_R_Dk 15 fy_Rs_init "FetchDesk") : Cond) ∈ fn_nw := List.mem_of_getElem? (i := 0) rfl
theorem fq_29 : ((.fieldLinkNest fn_R_Dk 37 "FetchDesk$Resource" "status" "I" "FetchDesk") : Cond) ∈ fn_nw := List.mem_of_getElem? (i := 1) rfl
theorem fq_30 : ((.fieldLinkNest fn_R_Rq 85 "FetchDesk$Resource" "status" "I" "FetchDesk") : Cond) ∈ fn_nw := List.mem_of_getElem? (i := 2) rfl
theorem fq_31 : ((.fieldLinkNest fn_R_Dk 41 "FetchDesk$Resource" "body" "I" "FetchDesk") : Cond) ∈ fn_nw := List.mem_of_getElem? (i := 3) rfl
theorem fq_32 : ((.fieldLinkNest fn_R_Rq 88 "FetchDesk$Resource" "body" "I" "FetchDesk") : Cond) ∈ fn_nw := List.mem_of_getElem? (i := 4) rfl
theorem fq_34 : ((.fieldLinkNest fn_R_Dk 44 "FetchDesk$Resource" "target" "I" "FetchDesk") : Cond) ∈ fn_nw := List.mem_of_getElem? (i := 5) rfl
theorem fq_35 : ((.fieldLinkNest fn_R_Rq 78 "FetchDesk$Resource" "target" "I" "FetchDesk") : Cond) ∈ fn_nw := List.mem_of_getElem? (i := 6) rfl
theorem fq_36 : ((.fieldLinkNest fn_R_Dk 50 "FetchDesk$Resource" "givenHeaders" "I" "FetchDesk") : Cond) ∈ fn_nw := List.mem_of_getElem? (i := 7) rfl
theorem fq_37 : ((.fieldLinkNest fn_R_Rq 91 "FetchDesk$Resource" "givenHeaders" "I" "FetchDesk") : Cond) ∈ fn_nw := List.mem_of_getElem? (i := 8) rfl
theorem fq_38 : ((.fieldLinkNest fn_R_Dk 53 "FetchDesk$Resource" "exposedHeaders" "I" "FetchDesk") : Cond) ∈ fn_nw := List.mem_of_getElem? (i := 9) rfl
theorem fq_39 : ((.fieldLinkNest fn_R_Rq 94 "FetchDesk$Resource" "exposedHeaders" "I" "FetchDesk") : Cond) ∈ fn_nw := List.mem_of_getElem? (i := 10) rfl
theorem fq_40 : ((.fieldLinkNest fn_R_Dk 56 "FetchDesk$Resource" "allowedOrigins" "I" "FetchDesk") : Cond) ∈ fn_nw := List.mem_of_getElem? (i := 11) rfl
theorem fq_41 : ((.fieldLinkNest fn_R_Rq 66 "FetchDesk$Resource" "allowedOrigins" "I" "FetchDesk") : Cond) ∈ fn_nw := List.mem_of_getElem? (i := 12) rfl
theorem fq_42 : ((.fieldLinkNest fn_R_Dk 59 "FetchDesk$Resource" "allowsCredentials" "Z" "FetchDesk") : Cond) ∈ fn_nw := List.mem_of_getElem? (i := 13) rfl
theorem fq_43 : ((.fieldLinkNest fn_R_Rq 71 "FetchDesk$Resource" "allowsCredentials" "Z" "FetchDesk") : Cond) ∈ fn_nw := List.mem_of_getElem? (i := 14) rfl
theorem fq_44 : ((.fieldLinkNest fn_R_Dk 65 "FetchDesk$Resource" "okWhenAsked" "Z" "FetchDesk") : Cond) ∈ fn_nw := List.mem_of_getElem? (i := 15) rfl
theorem fq_45 : ((.fieldLinkNest fn_R_Pm 27 "FetchDesk$Resource" "askedMethods" "I" "FetchDesk") : Cond) ∈ fn_nw := List.mem_of_getElem? (i := 16) rfl
theorem fq_46 : ((.fieldLinkNest fn_R_Dk 68 "FetchDesk$Resource" "askedMethods" "I" "FetchDesk") : Cond) ∈ fn_nw := List.mem_of_getElem? (i := 17) rfl
theorem fq_47 : ((.fieldLinkNest fn_R_Pm 35 "FetchDesk$Resource" "askedHeaders" "I" "FetchDesk") : Cond) ∈ fn_nw := List.mem_of_getElem? (i := 18) rfl
theorem fq_48 : ((.fieldLinkNest fn_R_Dk 71 "FetchDesk$Resource" "askedHeaders" "I" "FetchDesk") : Cond) ∈ fn_nw := List.mem_of_getElem? (i := 19) rfl
theorem fq_49 : ((.fieldLinkNest fn_R_Dk 74 "FetchDesk$Resource" "age" "D" "FetchDesk") : Cond) ∈ fn_nw := List.mem_of_getElem? (i := 20) rfl
theorem fq_50 : ((.fieldLinkNest fn_R_Mm 65 "FetchDesk$Resource" "age" "D" "FetchDesk") : Cond) ∈ fn_nw := List.mem_of_getElem? (i := 21) rfl
theorem fq_51 : ((.fieldLinkNest fn_R_Dk 168 "FetchDesk$Resource" "requestedCount" "I" "FetchDesk") : Cond) ∈ fn_nw := List.mem_of_getElem? (i := 22) rfl
theorem fq_52 : ((.fieldLinkNest fn_R_Dk 171 "FetchDesk$Resource" "requestedWithCredentialsCount" "I" "FetchDesk") : Cond) ∈ fn_nw := List.mem_of_getElem? (i := 23) rfl
theorem fq_82 : ((.methodLinkNest fn_R_Dk 18 fy_Mm_init "FetchDesk") : Cond) ∈ fn_nw := List.mem_of_getElem? (i := 24) rfl
theorem fq_89 : ((.methodLinkNest fn_R_Mm 17 fy_Pm_init "FetchDesk") : Cond) ∈ fn_nw := List.mem_of_getElem? (i := 25) rfl
theorem fq_94 : ((.fieldLinkNest fn_R_Mm 22 "FetchDesk$Permit" "origin" "I" "FetchDesk") : Cond) ∈ fn_nw := List.mem_of_getElem? (i := 26) rfl
theorem fq_95 : ((.fieldLinkNest fn_R_Dk 152 "FetchDesk$Permit" "origin" "I" "FetchDesk") : Cond) ∈ fn_nw := List.mem_of_getElem? (i := 27) rfl
theorem fq_97 : ((.fieldLinkNest fn_R_Mm 28 "FetchDesk$Permit" "url" "I" "FetchDesk") : Cond) ∈ fn_nw := List.mem_of_getElem? (i := 28) rfl
theorem fq_98 : ((.fieldLinkNest fn_R_Dk 155 "FetchDesk$Permit" "url" "I" "FetchDesk") : Cond) ∈ fn_nw := List.mem_of_getElem? (i := 29) rfl
theorem fq_100 : ((.fieldLinkNest fn_R_Mm 32 "FetchDesk$Permit" "withCredentials" "Z" "FetchDesk") : Cond) ∈ fn_nw := List.mem_of_getElem? (i := 30) rfl
theorem fq_101 : ((.fieldLinkNest fn_R_Dk 156 "FetchDesk$Permit" "withCredentials" "Z" "FetchDesk") : Cond) ∈ fn_nw := List.mem_of_getElem? (i := 31) rfl
theorem fq_103 : ((.fieldLinkNest fn_R_Mm 47 "FetchDesk$Permit" "methods" "I" "FetchDesk") : Cond) ∈ fn_nw := List.mem_of_getElem? (i := 32) rfl
theorem fq_104 : ((.fieldLinkNest fn_R_Dk 159 "FetchDesk$Permit" "methods" "I" "FetchDesk") : Cond) ∈ fn_nw := List.mem_of_getElem? (i := 33) rfl
theorem fq_106 : ((.fieldLinkNest fn_R_Mm 50 "FetchDesk$Permit" "headers" "I" "FetchDesk") : Cond) ∈ fn_nw := List.mem_of_getElem? (i := 34) rfl
theorem fq_107 : ((.fieldLinkNest fn_R_Dk 162 "FetchDesk$Permit" "headers" "I" "FetchDesk") : Cond) ∈ fn_nw := List.mem_of_getElem? (i := 35) rfl
theorem fq_109 : ((.fieldLinkNest fn_R_Mm 43 "FetchDesk$Permit" "end" "D" "FetchDesk") : Cond) ∈ fn_nw := List.mem_of_getElem? (i := 36) rfl
theorem fq_110 : ((.fieldLinkNest fn_R_Dk 165 "FetchDesk$Permit" "end" "D" "FetchDesk") : Cond) ∈ fn_nw := List.mem_of_getElem? (i := 37) rfl
theorem fq_125 : ((.fieldLinkNest fn_R_Dk 148 "FetchDesk$Memory" "permits" "[LFetchDesk$Permit;" "FetchDesk") : Cond) ∈ fn_nw := List.mem_of_getElem? (i := 38) rfl
theorem fq_127 : ((.fieldLinkNest fn_R_Dk 181 "FetchDesk$Memory" "size" "I" "FetchDesk") : Cond) ∈ fn_nw := List.mem_of_getElem? (i := 39) rfl
theorem fq_135 : ((.methodLinkNest fn_R_Dk 25 fy_Rq_init "FetchDesk") : Cond) ∈ fn_nw := List.mem_of_getElem? (i := 40) rfl
theorem fq_140 : ((.fieldLinkNest fn_R_Pm 7 "FetchDesk$Request" "origin" "I" "FetchDesk") : Cond) ∈ fn_nw := List.mem_of_getElem? (i := 41) rfl
theorem fq_141 : ((.fieldLinkNest fn_R_Mm 25 "FetchDesk$Request" "origin" "I" "FetchDesk") : Cond) ∈ fn_nw := List.mem_of_getElem? (i := 42) rfl
theorem fq_142 : ((.fieldLinkNest fn_R_Dk 124 "FetchDesk$Request" "origin" "I" "FetchDesk") : Cond) ∈ fn_nw := List.mem_of_getElem? (i := 43) rfl
theorem fq_144 : ((.fieldLinkNest fn_R_Pm 16 "FetchDesk$Request" "url" "I" "FetchDesk") : Cond) ∈ fn_nw := List.mem_of_getElem? (i := 44) rfl
theorem fq_145 : ((.fieldLinkNest fn_R_Mm 31 "FetchDesk$Request" "url" "I" "FetchDesk") : Cond) ∈ fn_nw := List.mem_of_getElem? (i := 45) rfl
theorem fq_146 : ((.fieldLinkNest fn_R_Dk 121 "FetchDesk$Request" "url" "I" "FetchDesk") : Cond) ∈ fn_nw := List.mem_of_getElem? (i := 46) rfl
theorem fq_148 : ((.fieldLinkNest fn_R_Dk 127 "FetchDesk$Request" "method" "I" "FetchDesk") : Cond) ∈ fn_nw := List.mem_of_getElem? (i := 47) rfl
theorem fq_150 : ((.fieldLinkNest fn_R_Dk 222 "FetchDesk$Request" "headers" "I" "FetchDesk") : Cond) ∈ fn_nw := List.mem_of_getElem? (i := 48) rfl
theorem fq_152 : ((.fieldLinkNest fn_R_Dk 219 "FetchDesk$Request" "mode" "I" "FetchDesk") : Cond) ∈ fn_nw := List.mem_of_getElem? (i := 49) rfl
theorem fq_156 : ((.fieldLinkNest fn_R_Dk 118 "FetchDesk$Request" "rounds" "I" "FetchDesk") : Cond) ∈ fn_nw := List.mem_of_getElem? (i := 50) rfl
theorem fq_158 : ((.fieldLinkNest fn_R_Dk 216 "FetchDesk$Request" "far" "Z" "FetchDesk") : Cond) ∈ fn_nw := List.mem_of_getElem? (i := 51) rfl
theorem fq_159 : ((.fieldLinkNest fn_R_Pm 20 "FetchDesk$Request" "sendsCredentials" "Z" "FetchDesk") : Cond) ∈ fn_nw := List.mem_of_getElem? (i := 52) rfl
theorem fq_161 : ((.fieldLinkNest fn_R_Mm 36 "FetchDesk$Request" "sendsCredentials" "Z" "FetchDesk") : Cond) ∈ fn_nw := List.mem_of_getElem? (i := 53) rfl
theorem fq_162 : ((.fieldLinkNest fn_R_Dk 130 "FetchDesk$Request" "sendsCredentials" "Z" "FetchDesk") : Cond) ∈ fn_nw := List.mem_of_getElem? (i := 54) rfl
theorem fq_164 : ((.fieldLinkNest fn_R_Dk 106 "FetchDesk$Request" "error" "I" "FetchDesk") : Cond) ∈ fn_nw := List.mem_of_getElem? (i := 55) rfl
theorem fq_166 : ((.fieldLinkNest fn_R_Dk 133 "FetchDesk$Request" "shownStatus" "I" "FetchDesk") : Cond) ∈ fn_nw := List.mem_of_getElem? (i := 56) rfl
theorem fq_168 : ((.fieldLinkNest fn_R_Dk 136 "FetchDesk$Request" "shownBody" "I" "FetchDesk") : Cond) ∈ fn_nw := List.mem_of_getElem? (i := 57) rfl
theorem fq_170 : ((.fieldLinkNest fn_R_Dk 139 "FetchDesk$Request" "shownHeaders" "I" "FetchDesk") : Cond) ∈ fn_nw := List.mem_of_getElem? (i := 58) rfl
theorem fq_172 : ((.fieldLinkNest fn_R_Dk 115 "FetchDesk$Request" "sort" "I" "FetchDesk") : Cond) ∈ fn_nw := List.mem_of_getElem? (i := 59) rfl
theorem fq_362 : ((.methodLinkNest fn_R_Dk 96 fy_Rq_begin "FetchDesk") : Cond) ∈ fn_nw := List.mem_of_getElem? (i := 60) rfl
theorem fq_378 : ((.methodLinkNest fn_R_Dk 187 fy_Rq_enterRound "FetchDesk") : Cond) ∈ fn_nw := List.mem_of_getElem? (i := 61) rfl
theorem fq_382 : ((.methodLinkNest fn_R_Rq 62 fy_Dk_originOf "FetchDesk") : Cond) ∈ fn_nw := List.mem_of_getElem? (i := 62) rfl
theorem fq_389 : ((.methodLinkNest fn_R_Dk 198 fy_Rq_mustPass "FetchDesk") : Cond) ∈ fn_nw := List.mem_of_getElem? (i := 63) rfl
theorem fq_393 : ((.methodLinkNest fn_R_Dk 223 fy_Mm_covers "FetchDesk") : Cond) ∈ fn_nw := List.mem_of_getElem? (i := 64) rfl
theorem fq_401 : ((.methodLinkNest fn_R_Mm 53 fy_Dk_lets "FetchDesk") : Cond) ∈ fn_nw := List.mem_of_getElem? (i := 65) rfl
theorem fq_408 : ((.methodLinkNest fn_R_Dk 230 fy_Mm_forget "FetchDesk") : Cond) ∈ fn_nw := List.mem_of_getElem? (i := 66) rfl
theorem fq_416 : ((.methodLinkNest fn_R_Dk 202 fy_Rq_passes "FetchDesk") : Cond) ∈ fn_nw := List.mem_of_getElem? (i := 67) rfl
theorem fq_421 : ((.methodLinkNest fn_R_Dk 238 fy_Mm_remember "FetchDesk") : Cond) ∈ fn_nw := List.mem_of_getElem? (i := 68) rfl
theorem fq_430 : ((.methodLinkNest fn_R_Mm 72 fy_Pm_write "FetchDesk") : Cond) ∈ fn_nw := List.mem_of_getElem? (i := 69) rfl
theorem fq_438 : ((.methodLinkNest fn_R_Dk 206 fy_Rs_isRedirect "FetchDesk") : Cond) ∈ fn_nw := List.mem_of_getElem? (i := 70) rfl
theorem fq_442 : ((.methodLinkNest fn_R_Dk 209 fy_Rq_meetRedirect "FetchDesk") : Cond) ∈ fn_nw := List.mem_of_getElem? (i := 71) rfl
theorem fq_450 : ((.methodLinkNest fn_R_Rq 81 fy_Rs_turnsIntoGet "FetchDesk") : Cond) ∈ fn_nw := List.mem_of_getElem? (i := 72) rfl
theorem fq_454 : ((.methodLinkNest fn_R_Dk 213 fy_Rq_takeResponse "FetchDesk") : Cond) ∈ fn_nw := List.mem_of_getElem? (i := 73) rfl
theorem fq_488 : ((.methodLinkNest fn_R_Dk 142 fy_Mm_holds "FetchDesk") : Cond) ∈ fn_nw := List.mem_of_getElem? (i := 74) rfl
theorem fp_Rq_begin : (Cond.selects fn_R_Rq fy_Rq_begin fy_Rq_begin) ∈ fb_tbl := fb_memP (i := 1) rfl rfl
theorem fp_Rq_show : (Cond.selects fn_R_Rq fy_Rq_show fy_Rq_show) ∈ fb_tbl := fb_memP (i := 2) rfl rfl
theorem fp_Dk_goThroughRounds : (Cond.selects fn_R_Dk fy_Dk_goThroughRounds fy_Dk_goThroughRounds) ∈ fb_tbl := fb_memP (i := 3) rfl rfl
theorem fp_Dk_goOneRound : (Cond.selects fn_R_Dk fy_Dk_goOneRound fy_Dk_goOneRound) ∈ fb_tbl := fb_memP (i := 4) rfl rfl
theorem fp_Rq_enterRound : (Cond.selects fn_R_Rq fy_Rq_enterRound fy_Rq_enterRound) ∈ fb_tbl := fb_memP (i := 5) rfl rfl
theorem fp_Dk_errorBeforeRequesting : (Cond.selects fn_R_Dk fy_Dk_errorBeforeRequesting fy_Dk_errorBeforeRequesting) ∈ fb_tbl := fb_memP (i := 6) rfl rfl
theorem fp_Rq_mustPass : (Cond.selects fn_R_Rq fy_Rq_mustPass fy_Rq_mustPass) ∈ fb_tbl := fb_memP (i := 7) rfl rfl
theorem fp_Mm_covers : (Cond.selects fn_R_Mm fy_Mm_covers fy_Mm_covers) ∈ fb_tbl := fb_memP (i := 8) rfl rfl
theorem fp_Mm_find : (Cond.selects fn_R_Mm fy_Mm_find fy_Mm_find) ∈ fb_tbl := fb_memP (i := 9) rfl rfl
theorem fp_Dk_ask : (Cond.selects fn_R_Dk fy_Dk_ask fy_Dk_ask) ∈ fb_tbl := fb_memP (i := 10) rfl rfl
theorem fp_Mm_forget : (Cond.selects fn_R_Mm fy_Mm_forget fy_Mm_forget) ∈ fb_tbl := fb_memP (i := 11) rfl rfl
theorem fp_Mm_drop : (Cond.selects fn_R_Mm fy_Mm_drop fy_Mm_drop) ∈ fb_tbl := fb_memP (i := 12) rfl rfl
theorem fp_Rq_passes : (Cond.selects fn_R_Rq fy_Rq_passes fy_Rq_passes) ∈ fb_tbl := fb_memP (i := 13) rfl rfl
theorem fp_Mm_remember : (Cond.selects fn_R_Mm fy_Mm_remember fy_Mm_remember) ∈ fb_tbl := fb_memP (i := 14) rfl rfl
theorem fp_Mm_firstToEnd : (Cond.selects fn_R_Mm fy_Mm_firstToEnd fy_Mm_firstToEnd) ∈ fb_tbl := fb_memP (i := 15) rfl rfl
theorem fp_Pm_write : (Cond.selects fn_R_Pm fy_Pm_write fy_Pm_write) ∈ fb_tbl := fb_memP (i := 16) rfl rfl
theorem fp_Dk_countRequested : (Cond.selects fn_R_Dk fy_Dk_countRequested fy_Dk_countRequested) ∈ fb_tbl := fb_memP (i := 17) rfl rfl
theorem fp_Rs_isRedirect : (Cond.selects fn_R_Rs fy_Rs_isRedirect fy_Rs_isRedirect) ∈ fb_tbl := fb_memP (i := 18) rfl rfl
theorem fp_Rq_meetRedirect : (Cond.selects fn_R_Rq fy_Rq_meetRedirect fy_Rq_meetRedirect) ∈ fb_tbl := fb_memP (i := 19) rfl rfl
theorem fp_Rq_follow : (Cond.selects fn_R_Rq fy_Rq_follow fy_Rq_follow) ∈ fb_tbl := fb_memP (i := 20) rfl rfl
theorem fp_Rs_turnsIntoGet : (Cond.selects fn_R_Rs fy_Rs_turnsIntoGet fy_Rs_turnsIntoGet) ∈ fb_tbl := fb_memP (i := 21) rfl rfl
theorem fp_Rq_takeResponse : (Cond.selects fn_R_Rq fy_Rq_takeResponse fy_Rq_takeResponse) ∈ fb_tbl := fb_memP (i := 22) rfl rfl
theorem fp_Mm_holds : (Cond.selects fn_R_Mm fy_Mm_holds fy_Mm_holds) ∈ fb_tbl := fb_memP (i := 23) rfl rfl
theorem fp_Md_fail : (Cond.selects fn_R_Md fy_Md_fail fy_Md_fail) ∈ fb_tbl := fb_memP (i := 24) rfl rfl
theorem fp_Md_go : (Cond.selects fn_R_Md fy_Md_go fy_Md_go) ∈ fb_tbl := fb_memP (i := 25) rfl rfl
theorem fp_Md_isRemembered : (Cond.selects fn_R_Md fy_Md_isRemembered fy_Md_isRemembered) ∈ fb_tbl := fb_memP (i := 26) rfl rfl
theorem fp_Md_isSame : (Cond.selects fn_R_Md fy_Md_isSame fy_Md_isSame) ∈ fb_tbl := fb_memP (i := 27) rfl rfl
theorem fp_Md_ask : (Cond.selects fn_R_Md fy_Md_ask fy_Md_ask) ∈ fb_tbl := fb_memP (i := 28) rfl rfl
theorem fp_Md_forget : (Cond.selects fn_R_Md fy_Md_forget fy_Md_forget) ∈ fb_tbl := fb_memP (i := 29) rfl rfl
theorem fp_Md_passes : (Cond.selects fn_R_Md fy_Md_passes fy_Md_passes) ∈ fb_tbl := fb_memP (i := 30) rfl rfl
theorem fp_Md_keep : (Cond.selects fn_R_Md fy_Md_keep fy_Md_keep) ∈ fb_tbl := fb_memP (i := 31) rfl rfl
theorem fp_Md_answer : (Cond.selects fn_R_Md fy_Md_answer fy_Md_answer) ∈ fb_tbl := fb_memP (i := 32) rfl rfl
theorem fp_Md_move : (Cond.selects fn_R_Md fy_Md_move fy_Md_move) ∈ fb_tbl := fb_memP (i := 33) rfl rfl
