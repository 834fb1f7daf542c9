/-! names of the kinds, their fields, their methods -/
def fn_R_Mm : String := "FetchDesk$Memory"
def fn_T_Mm : u_T := fun k => match k with
  | 0 => ("FetchDesk$Memory", "permits", "[LFetchDesk$Permit;", true)
  | _ => ("FetchDesk$Memory", "size", "I", false)
def fn_t_Mm : Nat → FieldType := fun k => match k with
  | 0 => .array (.object "FetchDesk$Permit")
  | _ => .int
theorem fn_n_Mm : ∀ a, a < 2 → ∀ b, b < 2 → a ≠ b → (fn_T_Mm a).2.1 ≠ (fn_T_Mm b).2.1 := by decide +kernel
theorem fn_k_Mm : ∀ k, k < 2 → parseFieldDescriptor (fn_T_Mm k).2.2.1 = some (fn_t_Mm k) := by decide +kernel
theorem fl_128 : (Cond.laysFinal fn_R_Mm "FetchDesk$Memory" "permits" "[LFetchDesk$Permit;") ∈ fb_tbl := fb_mem1 (i := 128) rfl rfl
theorem fl_130 : (Cond.lays fn_R_Mm "FetchDesk$Memory" "size" "I") ∈ fb_tbl := fb_mem1 (i := 130) rfl rfl
theorem fn_i_Mm : ∀ w ∈ u_ws fn_R_Mm fn_T_Mm 2, w ∈ fb_tbl := List.forall_mem_cons.mpr ⟨fl_128, List.forall_mem_cons.mpr ⟨fl_130, fun _ h => absurd h List.not_mem_nil⟩⟩
theorem fn_j_Mm {x : Cond} : ∀ w ∈ u_ws fn_R_Mm fn_T_Mm 2, w ∈ x :: fb_tbl := fun w h => List.mem_cons_of_mem _ (fn_i_Mm w h)
def fn_R_Pm : String := "FetchDesk$Permit"
def fn_T_Pm : u_T := fun k => match k with
  | 0 => ("FetchDesk$Permit", "origin", "I", false)
  | 1 => ("FetchDesk$Permit", "url", "I", false)
  | 2 => ("FetchDesk$Permit", "withCredentials", "Z", false)
  | 3 => ("FetchDesk$Permit", "methods", "I", false)
  | 4 => ("FetchDesk$Permit", "headers", "I", false)
  | _ => ("FetchDesk$Permit", "end", "D", false)
def fn_t_Pm : Nat → FieldType := fun k => match k with
  | 0 => .int
  | 1 => .int
  | 2 => .boolean
  | 3 => .int
  | 4 => .int
  | _ => .double
theorem fn_n_Pm : ∀ a, a < 6 → ∀ b, b < 6 → a ≠ b → (fn_T_Pm a).2.1 ≠ (fn_T_Pm b).2.1 := by decide +kernel
theorem fn_k_Pm : ∀ k, k < 6 → parseFieldDescriptor (fn_T_Pm k).2.2.1 = some (fn_t_Pm k) := by decide +kernel
theorem fl_111 : (Cond.lays fn_R_Pm "FetchDesk$Permit" "origin" "I") ∈ fb_tbl := fb_mem1 (i := 111) rfl rfl
theorem fl_113 : (Cond.lays fn_R_Pm "FetchDesk$Permit" "url" "I") ∈ fb_tbl := fb_mem1 (i := 113) rfl rfl
theorem fl_115 : (Cond.lays fn_R_Pm "FetchDesk$Permit" "withCredentials" "Z") ∈ fb_tbl := fb_mem1 (i := 115) rfl rfl
theorem fl_117 : (Cond.lays fn_R_Pm "FetchDesk$Permit" "methods" "I") ∈ fb_tbl := fb_mem1 (i := 117) rfl rfl
theorem fl_119 : (Cond.lays fn_R_Pm "FetchDesk$Permit" "headers" "I") ∈ fb_tbl := fb_mem1 (i := 119) rfl rfl
theorem fl_121 : (Cond.lays fn_R_Pm "FetchDesk$Permit" "end" "D") ∈ fb_tbl := fb_mem1 (i := 121) rfl rfl
theorem fn_i_Pm : ∀ w ∈ u_ws fn_R_Pm fn_T_Pm 6, w ∈ fb_tbl := List.forall_mem_cons.mpr ⟨fl_111, List.forall_mem_cons.mpr ⟨fl_113, List.forall_mem_cons.mpr ⟨fl_115, List.forall_mem_cons.mpr ⟨fl_117, List.forall_mem_cons.mpr ⟨fl_119, List.forall_mem_cons.mpr ⟨fl_121, fun _ h => absurd h List.not_mem_nil⟩⟩⟩⟩⟩⟩
theorem fn_j_Pm {x : Cond} : ∀ w ∈ u_ws fn_R_Pm fn_T_Pm 6, w ∈ x :: fb_tbl := fun w h => List.mem_cons_of_mem _ (fn_i_Pm w h)
def fn_R_Rq : String := "FetchDesk$Request"
def fn_T_Rq : u_T := fun k => match k with
  | 0 => ("FetchDesk$Request", "origin", "I", false)
  | 1 => ("FetchDesk$Request", "url", "I", false)
  | 2 => ("FetchDesk$Request", "method", "I", false)
  | 3 => ("FetchDesk$Request", "headers", "I", false)
  | 4 => ("FetchDesk$Request", "mode", "I", false)
  | 5 => ("FetchDesk$Request", "credentials", "I", false)
  | 6 => ("FetchDesk$Request", "redirects", "I", false)
  | 7 => ("FetchDesk$Request", "rounds", "I", false)
  | 8 => ("FetchDesk$Request", "far", "Z", false)
  | 9 => ("FetchDesk$Request", "sendsCredentials", "Z", false)
  | 10 => ("FetchDesk$Request", "error", "I", false)
  | 11 => ("FetchDesk$Request", "shownStatus", "I", false)
  | 12 => ("FetchDesk$Request", "shownBody", "I", false)
  | 13 => ("FetchDesk$Request", "shownHeaders", "I", false)
  | _ => ("FetchDesk$Request", "sort", "I", false)
def fn_t_Rq : Nat → FieldType := fun k => match k with
  | 0 => .int
  | 1 => .int
  | 2 => .int
  | 3 => .int
  | 4 => .int
  | 5 => .int
  | 6 => .int
  | 7 => .int
  | 8 => .boolean
  | 9 => .boolean
  | 10 => .int
  | 11 => .int
  | 12 => .int
  | 13 => .int
  | _ => .int
theorem fn_n_Rq : ∀ a, a < 15 → ∀ b, b < 15 → a ≠ b → (fn_T_Rq a).2.1 ≠ (fn_T_Rq b).2.1 := by decide +kernel
theorem fn_k_Rq : ∀ k, k < 15 → parseFieldDescriptor (fn_T_Rq k).2.2.1 = some (fn_t_Rq k) := by decide +kernel
theorem fl_173 : (Cond.lays fn_R_Rq "FetchDesk$Request" "origin" "I") ∈ fb_tbl := fb_mem1 (i := 173) rfl rfl
theorem fl_175 : (Cond.lays fn_R_Rq "FetchDesk$Request" "url" "I") ∈ fb_tbl := fb_mem1 (i := 175) rfl rfl
theorem fl_177 : (Cond.lays fn_R_Rq "FetchDesk$Request" "method" "I") ∈ fb_tbl := fb_mem1 (i := 177) rfl rfl
theorem fl_179 : (Cond.lays fn_R_Rq "FetchDesk$Request" "headers" "I") ∈ fb_tbl := fb_mem1 (i := 179) rfl rfl
theorem fl_181 : (Cond.lays fn_R_Rq "FetchDesk$Request" "mode" "I") ∈ fb_tbl := fb_mem1 (i := 181) rfl rfl
theorem fl_183 : (Cond.lays fn_R_Rq "FetchDesk$Request" "credentials" "I") ∈ fb_tbl := fb_mem1 (i := 183) rfl rfl
theorem fl_185 : (Cond.lays fn_R_Rq "FetchDesk$Request" "redirects" "I") ∈ fb_tbl := fb_mem1 (i := 185) rfl rfl
theorem fl_187 : (Cond.lays fn_R_Rq "FetchDesk$Request" "rounds" "I") ∈ fb_tbl := fb_mem1 (i := 187) rfl rfl
theorem fl_189 : (Cond.lays fn_R_Rq "FetchDesk$Request" "far" "Z") ∈ fb_tbl := fb_mem1 (i := 189) rfl rfl
theorem fl_191 : (Cond.lays fn_R_Rq "FetchDesk$Request" "sendsCredentials" "Z") ∈ fb_tbl := fb_mem1 (i := 191) rfl rfl
theorem fl_193 : (Cond.lays fn_R_Rq "FetchDesk$Request" "error" "I") ∈ fb_tbl := fb_mem1 (i := 193) rfl rfl
theorem fl_195 : (Cond.lays fn_R_Rq "FetchDesk$Request" "shownStatus" "I") ∈ fb_tbl := fb_mem1 (i := 195) rfl rfl
theorem fl_197 : (Cond.lays fn_R_Rq "FetchDesk$Request" "shownBody" "I") ∈ fb_tbl := fb_mem1 (i := 197) rfl rfl
theorem fl_199 : (Cond.lays fn_R_Rq "FetchDesk$Request" "shownHeaders" "I") ∈ fb_tbl := fb_mem1 (i := 199) rfl rfl
theorem fl_201 : (Cond.lays fn_R_Rq "FetchDesk$Request" "sort" "I") ∈ fb_tbl := fb_mem1 (i := 201) rfl rfl
theorem fn_i_Rq : ∀ w ∈ u_ws fn_R_Rq fn_T_Rq 15, w ∈ fb_tbl := List.forall_mem_cons.mpr ⟨fl_173, List.forall_mem_cons.mpr ⟨fl_175, List.forall_mem_cons.mpr ⟨fl_177, List.forall_mem_cons.mpr ⟨fl_179, List.forall_mem_cons.mpr ⟨fl_181, List.forall_mem_cons.mpr ⟨fl_183, List.forall_mem_cons.mpr ⟨fl_185, List.forall_mem_cons.mpr ⟨fl_187, List.forall_mem_cons.mpr ⟨fl_189, List.forall_mem_cons.mpr ⟨fl_191, List.forall_mem_cons.mpr ⟨fl_193, List.forall_mem_cons.mpr ⟨fl_195, List.forall_mem_cons.mpr ⟨fl_197, List.forall_mem_cons.mpr ⟨fl_199, List.forall_mem_cons.mpr ⟨fl_201, fun _ h => absurd h List.not_mem_nil⟩⟩⟩⟩⟩⟩⟩⟩⟩⟩⟩⟩⟩⟩⟩
theorem fn_j_Rq {x : Cond} : ∀ w ∈ u_ws fn_R_Rq fn_T_Rq 15, w ∈ x :: fb_tbl := fun w h => List.mem_cons_of_mem _ (fn_i_Rq w h)
def fn_R_Rs : String := "FetchDesk$Resource"
def fn_T_Rs : u_T := fun k => match k with
  | 0 => ("FetchDesk$Resource", "status", "I", false)
  | 1 => ("FetchDesk$Resource", "body", "I", false)
  | 2 => ("FetchDesk$Resource", "target", "I", false)
  | 3 => ("FetchDesk$Resource", "givenHeaders", "I", false)
  | 4 => ("FetchDesk$Resource", "exposedHeaders", "I", false)
  | 5 => ("FetchDesk$Resource", "allowedOrigins", "I", false)
  | 6 => ("FetchDesk$Resource", "allowsCredentials", "Z", false)
  | 7 => ("FetchDesk$Resource", "okWhenAsked", "Z", false)
  | 8 => ("FetchDesk$Resource", "askedMethods", "I", false)
  | 9 => ("FetchDesk$Resource", "askedHeaders", "I", false)
  | 10 => ("FetchDesk$Resource", "age", "D", false)
  | 11 => ("FetchDesk$Resource", "requestedCount", "I", false)
  | _ => ("FetchDesk$Resource", "requestedWithCredentialsCount", "I", false)
def fn_t_Rs : Nat → FieldType := fun k => match k with
  | 0 => .int
  | 1 => .int
  | 2 => .int
  | 3 => .int
  | 4 => .int
  | 5 => .int
  | 6 => .boolean
  | 7 => .boolean
  | 8 => .int
  | 9 => .int
  | 10 => .double
  | 11 => .int
  | _ => .int
theorem fn_n_Rs : ∀ a, a < 13 → ∀ b, b < 13 → a ≠ b → (fn_T_Rs a).2.1 ≠ (fn_T_Rs b).2.1 := by decide +kernel
theorem fn_k_Rs : ∀ k, k < 13 → parseFieldDescriptor (fn_T_Rs k).2.2.1 = some (fn_t_Rs k) := by decide +kernel
theorem fl_53 : (Cond.lays fn_R_Rs "FetchDesk$Resource" "status" "I") ∈ fb_tbl := fb_mem1 (i := 53) rfl rfl
theorem fl_55 : (Cond.lays fn_R_Rs "FetchDesk$Resource" "body" "I") ∈ fb_tbl := fb_mem1 (i := 55) rfl rfl
theorem fl_57 : (Cond.lays fn_R_Rs "FetchDesk$Resource" "target" "I") ∈ fb_tbl := fb_mem1 (i := 57) rfl rfl
theorem fl_59 : (Cond.lays fn_R_Rs "FetchDesk$Resource" "givenHeaders" "I") ∈ fb_tbl := fb_mem1 (i := 59) rfl rfl
theorem fl_61 : (Cond.lays fn_R_Rs "FetchDesk$Resource" "exposedHeaders" "I") ∈ fb_tbl := fb_mem1 (i := 61) rfl rfl
theorem fl_63 : (Cond.lays fn_R_Rs "FetchDesk$Resource" "allowedOrigins" "I") ∈ fb_tbl := fb_mem1 (i := 63) rfl rfl
theorem fl_65 : (Cond.lays fn_R_Rs "FetchDesk$Resource" "allowsCredentials" "Z") ∈ fb_tbl := fb_mem1 (i := 65) rfl rfl
theorem fl_67 : (Cond.lays fn_R_Rs "FetchDesk$Resource" "okWhenAsked" "Z") ∈ fb_tbl := fb_mem1 (i := 67) rfl rfl
theorem fl_69 : (Cond.lays fn_R_Rs "FetchDesk$Resource" "askedMethods" "I") ∈ fb_tbl := fb_mem1 (i := 69) rfl rfl
theorem fl_71 : (Cond.lays fn_R_Rs "FetchDesk$Resource" "askedHeaders" "I") ∈ fb_tbl := fb_mem1 (i := 71) rfl rfl
theorem fl_73 : (Cond.lays fn_R_Rs "FetchDesk$Resource" "age" "D") ∈ fb_tbl := fb_mem1 (i := 73) rfl rfl
theorem fl_75 : (Cond.lays fn_R_Rs "FetchDesk$Resource" "requestedCount" "I") ∈ fb_tbl := fb_mem1 (i := 75) rfl rfl
theorem fl_77 : (Cond.lays fn_R_Rs "FetchDesk$Resource" "requestedWithCredentialsCount" "I") ∈ fb_tbl := fb_mem1 (i := 77) rfl rfl
theorem fn_i_Rs : ∀ w ∈ u_ws fn_R_Rs fn_T_Rs 13, w ∈ fb_tbl := List.forall_mem_cons.mpr ⟨fl_53, List.forall_mem_cons.mpr ⟨fl_55, List.forall_mem_cons.mpr ⟨fl_57, List.forall_mem_cons.mpr ⟨fl_59, List.forall_mem_cons.mpr ⟨fl_61, List.forall_mem_cons.mpr ⟨fl_63, List.forall_mem_cons.mpr ⟨fl_65, List.forall_mem_cons.mpr ⟨fl_67, List.forall_mem_cons.mpr ⟨fl_69, List.forall_mem_cons.mpr ⟨fl_71, List.forall_mem_cons.mpr ⟨fl_73, List.forall_mem_cons.mpr ⟨fl_75, List.forall_mem_cons.mpr ⟨fl_77, fun _ h => absurd h List.not_mem_nil⟩⟩⟩⟩⟩⟩⟩⟩⟩⟩⟩⟩⟩
theorem fn_j_Rs {x : Cond} : ∀ w ∈ u_ws fn_R_Rs fn_T_Rs 13, w ∈ x :: fb_tbl := fun w h => List.mem_cons_of_mem _ (fn_i_Rs w h)
def fn_R_Dk : String := "FetchDesk"
def fn_T_Dk : u_T := fun k => match k with
  | 0 => ("FetchDesk", "resources", "[LFetchDesk$Resource;", true)
  | 1 => ("FetchDesk", "memory", "LFetchDesk$Memory;", true)
  | 2 => ("FetchDesk", "latest", "LFetchDesk$Request;", true)
  | 3 => ("FetchDesk", "time", "D", false)
  | 4 => ("FetchDesk", "requestCount", "I", false)
  | 5 => ("FetchDesk", "errorCount", "I", false)
  | 6 => ("FetchDesk", "requestedCount", "I", false)
  | 7 => ("FetchDesk", "askedCount", "I", false)
  | _ => ("FetchDesk", "rememberedCount", "I", false)
def fn_t_Dk : Nat → FieldType := fun k => match k with
  | 0 => .array (.object "FetchDesk$Resource")
  | 1 => .object "FetchDesk$Memory"
  | 2 => .object "FetchDesk$Request"
  | 3 => .double
  | 4 => .int
  | 5 => .int
  | 6 => .int
  | 7 => .int
  | _ => .int
theorem fn_n_Dk : ∀ a, a < 9 → ∀ b, b < 9 → a ≠ b → (fn_T_Dk a).2.1 ≠ (fn_T_Dk b).2.1 := by decide +kernel
theorem fn_k_Dk : ∀ k, k < 9 → parseFieldDescriptor (fn_T_Dk k).2.2.1 = some (fn_t_Dk k) := by decide +kernel
theorem fl_213 : (Cond.laysFinal fn_R_Dk "FetchDesk" "resources" "[LFetchDesk$Resource;") ∈ fb_tbl := fb_mem1 (i := 213) rfl rfl
theorem fl_215 : (Cond.laysFinal fn_R_Dk "FetchDesk" "memory" "LFetchDesk$Memory;") ∈ fb_tbl := fb_mem1 (i := 215) rfl rfl
theorem fl_217 : (Cond.laysFinal fn_R_Dk "FetchDesk" "latest" "LFetchDesk$Request;") ∈ fb_tbl := fb_mem1 (i := 217) rfl rfl
theorem fl_219 : (Cond.lays fn_R_Dk "FetchDesk" "time" "D") ∈ fb_tbl := fb_mem1 (i := 219) rfl rfl
theorem fl_221 : (Cond.lays fn_R_Dk "FetchDesk" "requestCount" "I") ∈ fb_tbl := fb_mem1 (i := 221) rfl rfl
theorem fl_223 : (Cond.lays fn_R_Dk "FetchDesk" "errorCount" "I") ∈ fb_tbl := fb_mem1 (i := 223) rfl rfl
theorem fl_225 : (Cond.lays fn_R_Dk "FetchDesk" "requestedCount" "I") ∈ fb_tbl := fb_mem1 (i := 225) rfl rfl
theorem fl_227 : (Cond.lays fn_R_Dk "FetchDesk" "askedCount" "I") ∈ fb_tbl := fb_mem1 (i := 227) rfl rfl
theorem fl_229 : (Cond.lays fn_R_Dk "FetchDesk" "rememberedCount" "I") ∈ fb_tbl := fb_mem1 (i := 229) rfl rfl
theorem fn_i_Dk : ∀ w ∈ u_ws fn_R_Dk fn_T_Dk 9, w ∈ fb_tbl := List.forall_mem_cons.mpr ⟨fl_213, List.forall_mem_cons.mpr ⟨fl_215, List.forall_mem_cons.mpr ⟨fl_217, List.forall_mem_cons.mpr ⟨fl_219, List.forall_mem_cons.mpr ⟨fl_221, List.forall_mem_cons.mpr ⟨fl_223, List.forall_mem_cons.mpr ⟨fl_225, List.forall_mem_cons.mpr ⟨fl_227, List.forall_mem_cons.mpr ⟨fl_229, fun _ h => absurd h List.not_mem_nil⟩⟩⟩⟩⟩⟩⟩⟩⟩
theorem fn_j_Dk {x : Cond} : ∀ w ∈ u_ws fn_R_Dk fn_T_Dk 9, w ∈ x :: fb_tbl := fun w h => List.mem_cons_of_mem _ (fn_i_Dk w h)
def fn_R_Md : String := "FetchDeskModel"
def fn_T_Md : u_T := fun k => match k with
  | 0 => ("FetchDeskModel", "status", "[I", true)
  | 1 => ("FetchDeskModel", "body", "[I", true)
  | 2 => ("FetchDeskModel", "target", "[I", true)
  | 3 => ("FetchDeskModel", "given", "[I", true)
  | 4 => ("FetchDeskModel", "exposed", "[I", true)
  | 5 => ("FetchDeskModel", "allowed", "[I", true)
  | 6 => ("FetchDeskModel", "methods", "[I", true)
  | 7 => ("FetchDeskModel", "takes", "[I", true)
  | 8 => ("FetchDeskModel", "requested", "[I", true)
  | 9 => ("FetchDeskModel", "trusted", "[I", true)
  | 10 => ("FetchDeskModel", "trusts", "[Z", true)
  | 11 => ("FetchDeskModel", "ok", "[Z", true)
  | 12 => ("FetchDeskModel", "withKept", "[Z", true)
  | 13 => ("FetchDeskModel", "age", "[D", true)
  | 14 => ("FetchDeskModel", "endKept", "[D", true)
  | 15 => ("FetchDeskModel", "originKept", "[I", true)
  | 16 => ("FetchDeskModel", "urlKept", "[I", true)
  | 17 => ("FetchDeskModel", "methodsKept", "[I", true)
  | 18 => ("FetchDeskModel", "headersKept", "[I", true)
  | 19 => ("FetchDeskModel", "told", "[I", true)
  | 20 => ("FetchDeskModel", "time", "D", false)
  | 21 => ("FetchDeskModel", "kept", "I", false)
  | 22 => ("FetchDeskModel", "requests", "I", false)
  | 23 => ("FetchDeskModel", "errors", "I", false)
  | 24 => ("FetchDeskModel", "all", "I", false)
  | 25 => ("FetchDeskModel", "asks", "I", false)
  | 26 => ("FetchDeskModel", "remembered", "I", false)
  | 27 => ("FetchDeskModel", "thrown", "I", false)
  | 28 => ("FetchDeskModel", "origin", "I", false)
  | 29 => ("FetchDeskModel", "url", "I", false)
  | 30 => ("FetchDeskModel", "method", "I", false)
  | 31 => ("FetchDeskModel", "headers", "I", false)
  | _ => ("FetchDeskModel", "sent", "Z", false)
def fn_t_Md : Nat → FieldType := fun k => match k with
  | 0 => .array .int
  | 1 => .array .int
  | 2 => .array .int
  | 3 => .array .int
  | 4 => .array .int
  | 5 => .array .int
  | 6 => .array .int
  | 7 => .array .int
  | 8 => .array .int
  | 9 => .array .int
  | 10 => .array .boolean
  | 11 => .array .boolean
  | 12 => .array .boolean
  | 13 => .array .double
  | 14 => .array .double
  | 15 => .array .int
  | 16 => .array .int
  | 17 => .array .int
  | 18 => .array .int
  | 19 => .array .int
  | 20 => .double
  | 21 => .int
  | 22 => .int
  | 23 => .int
  | 24 => .int
  | 25 => .int
  | 26 => .int
  | 27 => .int
  | 28 => .int
  | 29 => .int
  | 30 => .int
  | 31 => .int
  | _ => .boolean
theorem fn_n_Md : ∀ a, a < 33 → ∀ b, b < 33 → a ≠ b → (fn_T_Md a).2.1 ≠ (fn_T_Md b).2.1 := by decide +kernel
theorem fn_k_Md : ∀ k, k < 33 → parseFieldDescriptor (fn_T_Md k).2.2.1 = some (fn_t_Md k) := by decide +kernel
theorem fl_560 : (Cond.laysFinal fn_R_Md "FetchDeskModel" "status" "[I") ∈ fb_tbl := fb_mem3 (i := 80) rfl rfl
theorem fl_562 : (Cond.laysFinal fn_R_Md "FetchDeskModel" "body" "[I") ∈ fb_tbl := fb_mem3 (i := 82) rfl rfl
theorem fl_564 : (Cond.laysFinal fn_R_Md "FetchDeskModel" "target" "[I") ∈ fb_tbl := fb_mem3 (i := 84) rfl rfl
theorem fl_566 : (Cond.laysFinal fn_R_Md "FetchDeskModel" "given" "[I") ∈ fb_tbl := fb_mem3 (i := 86) rfl rfl
theorem fl_568 : (Cond.laysFinal fn_R_Md "FetchDeskModel" "exposed" "[I") ∈ fb_tbl := fb_mem3 (i := 88) rfl rfl
theorem fl_570 : (Cond.laysFinal fn_R_Md "FetchDeskModel" "allowed" "[I") ∈ fb_tbl := fb_mem3 (i := 90) rfl rfl
theorem fl_572 : (Cond.laysFinal fn_R_Md "FetchDeskModel" "methods" "[I") ∈ fb_tbl := fb_mem3 (i := 92) rfl rfl
theorem fl_574 : (Cond.laysFinal fn_R_Md "FetchDeskModel" "takes" "[I") ∈ fb_tbl := fb_mem3 (i := 94) rfl rfl
theorem fl_576 : (Cond.laysFinal fn_R_Md "FetchDeskModel" "requested" "[I") ∈ fb_tbl := fb_mem3 (i := 96) rfl rfl
theorem fl_578 : (Cond.laysFinal fn_R_Md "FetchDeskModel" "trusted" "[I") ∈ fb_tbl := fb_mem3 (i := 98) rfl rfl
theorem fl_580 : (Cond.laysFinal fn_R_Md "FetchDeskModel" "trusts" "[Z") ∈ fb_tbl := fb_mem3 (i := 100) rfl rfl
theorem fl_582 : (Cond.laysFinal fn_R_Md "FetchDeskModel" "ok" "[Z") ∈ fb_tbl := fb_mem3 (i := 102) rfl rfl
theorem fl_584 : (Cond.laysFinal fn_R_Md "FetchDeskModel" "withKept" "[Z") ∈ fb_tbl := fb_mem3 (i := 104) rfl rfl
theorem fl_586 : (Cond.laysFinal fn_R_Md "FetchDeskModel" "age" "[D") ∈ fb_tbl := fb_mem3 (i := 106) rfl rfl
theorem fl_588 : (Cond.laysFinal fn_R_Md "FetchDeskModel" "endKept" "[D") ∈ fb_tbl := fb_mem3 (i := 108) rfl rfl
theorem fl_590 : (Cond.laysFinal fn_R_Md "FetchDeskModel" "originKept" "[I") ∈ fb_tbl := fb_mem3 (i := 110) rfl rfl
theorem fl_592 : (Cond.laysFinal fn_R_Md "FetchDeskModel" "urlKept" "[I") ∈ fb_tbl := fb_mem3 (i := 112) rfl rfl
theorem fl_594 : (Cond.laysFinal fn_R_Md "FetchDeskModel" "methodsKept" "[I") ∈ fb_tbl := fb_mem3 (i := 114) rfl rfl
theorem fl_596 : (Cond.laysFinal fn_R_Md "FetchDeskModel" "headersKept" "[I") ∈ fb_tbl := fb_mem3 (i := 116) rfl rfl
theorem fl_598 : (Cond.laysFinal fn_R_Md "FetchDeskModel" "told" "[I") ∈ fb_tbl := fb_mem3 (i := 118) rfl rfl
theorem fl_600 : (Cond.lays fn_R_Md "FetchDeskModel" "time" "D") ∈ fb_tbl := fb_mem3 (i := 120) rfl rfl
theorem fl_602 : (Cond.lays fn_R_Md "FetchDeskModel" "kept" "I") ∈ fb_tbl := fb_mem3 (i := 122) rfl rfl
theorem fl_604 : (Cond.lays fn_R_Md "FetchDeskModel" "requests" "I") ∈ fb_tbl := fb_mem3 (i := 124) rfl rfl
theorem fl_606 : (Cond.lays fn_R_Md "FetchDeskModel" "errors" "I") ∈ fb_tbl := fb_mem3 (i := 126) rfl rfl
theorem fl_608 : (Cond.lays fn_R_Md "FetchDeskModel" "all" "I") ∈ fb_tbl := fb_mem3 (i := 128) rfl rfl
theorem fl_610 : (Cond.lays fn_R_Md "FetchDeskModel" "asks" "I") ∈ fb_tbl := fb_mem3 (i := 130) rfl rfl
theorem fl_612 : (Cond.lays fn_R_Md "FetchDeskModel" "remembered" "I") ∈ fb_tbl := fb_mem3 (i := 132) rfl rfl
theorem fl_614 : (Cond.lays fn_R_Md "FetchDeskModel" "thrown" "I") ∈ fb_tbl := fb_mem3 (i := 134) rfl rfl
theorem fl_616 : (Cond.lays fn_R_Md "FetchDeskModel" "origin" "I") ∈ fb_tbl := fb_mem3 (i := 136) rfl rfl
theorem fl_618 : (Cond.lays fn_R_Md "FetchDeskModel" "url" "I") ∈ fb_tbl := fb_mem3 (i := 138) rfl rfl
theorem fl_620 : (Cond.lays fn_R_Md "FetchDeskModel" "method" "I") ∈ fb_tbl := fb_mem3 (i := 140) rfl rfl
theorem fl_622 : (Cond.lays fn_R_Md "FetchDeskModel" "headers" "I") ∈ fb_tbl := fb_mem3 (i := 142) rfl rfl
theorem fl_624 : (Cond.lays fn_R_Md "FetchDeskModel" "sent" "Z") ∈ fb_tbl := fb_mem3 (i := 144) rfl rfl
theorem fn_i_Md : ∀ w ∈ u_ws fn_R_Md fn_T_Md 33, w ∈ fb_tbl := List.forall_mem_cons.mpr ⟨fl_560, List.forall_mem_cons.mpr ⟨fl_562, List.forall_mem_cons.mpr ⟨fl_564, List.forall_mem_cons.mpr ⟨fl_566, List.forall_mem_cons.mpr ⟨fl_568, List.forall_mem_cons.mpr ⟨fl_570, List.forall_mem_cons.mpr ⟨fl_572, List.forall_mem_cons.mpr ⟨fl_574, List.forall_mem_cons.mpr ⟨fl_576, List.forall_mem_cons.mpr ⟨fl_578, List.forall_mem_cons.mpr ⟨fl_580, List.forall_mem_cons.mpr ⟨fl_582, List.forall_mem_cons.mpr ⟨fl_584, List.forall_mem_cons.mpr ⟨fl_586, List.forall_mem_cons.mpr ⟨fl_588, List.forall_mem_cons.mpr ⟨fl_590, List.forall_mem_cons.mpr ⟨fl_592, List.forall_mem_cons.mpr ⟨fl_594, List.forall_mem_cons.mpr ⟨fl_596, List.forall_mem_cons.mpr ⟨fl_598, List.forall_mem_cons.mpr ⟨fl_600, List.forall_mem_cons.mpr ⟨fl_602, List.forall_mem_cons.mpr ⟨fl_604, List.forall_mem_cons.mpr ⟨fl_606, List.forall_mem_cons.mpr ⟨fl_608, List.forall_mem_cons.mpr ⟨fl_610, List.forall_mem_cons.mpr ⟨fl_612, List.forall_mem_cons.mpr ⟨fl_614, List.forall_mem_cons.mpr ⟨fl_616, List.forall_mem_cons.mpr ⟨fl_618, List.forall_mem_cons.mpr ⟨fl_620, List.forall_mem_cons.mpr ⟨fl_622, List.forall_mem_cons.mpr ⟨fl_624, fun _ h => absurd h List.not_mem_nil⟩⟩⟩⟩⟩⟩⟩⟩⟩⟩⟩⟩⟩⟩⟩⟩⟩⟩⟩⟩⟩⟩⟩⟩⟩⟩⟩⟩⟩⟩⟩⟩⟩
theorem fn_j_Md {x : Cond} : ∀ w ∈ u_ws fn_R_Md fn_T_Md 33, w ∈ x :: fb_tbl := fun w h => List.mem_cons_of_mem _ (fn_i_Md w h)
abbrev fn_cl : List vw_C := [(fn_R_Mm, fn_T_Mm, 2), (fn_R_Pm, fn_T_Pm, 6), (fn_R_Rq, fn_T_Rq, 15), (fn_R_Rs, fn_T_Rs, 13), (fn_R_Dk, fn_T_Dk, 9), (fn_R_Md, fn_T_Md, 33)]
abbrev fb_Dk_init : ByteArray := prog_1_method_1_code
def fy_Dk_init : MethodName := ⟨fn_R_Dk, "<init>", "()V"⟩
abbrev fw_Dk_init : Cond := .code fy_Dk_init fb_Dk_init 2 none
theorem fm_Dk_init : fw_Dk_init ∈ fb_tbl := fb_mem1 (i := 17) rfl rfl
abbrev fb_Dk_serve : ByteArray := prog_1_method_2_code
def fy_Dk_serve : MethodName := ⟨fn_R_Dk, "serve", "(IIII)V"⟩
abbrev fw_Dk_serve : Cond := .code fy_Dk_serve fb_Dk_serve 8 none
theorem fm_Dk_serve : fw_Dk_serve ∈ fb_tbl := fb_mem1 (i := 239) rfl rfl
abbrev fb_Dk_headers : ByteArray := prog_1_method_3_code
def fy_Dk_headers : MethodName := ⟨fn_R_Dk, "headers", "(III)V"⟩
abbrev fw_Dk_headers : Cond := .code fy_Dk_headers fb_Dk_headers 5 none
theorem fm_Dk_headers : fw_Dk_headers ∈ fb_tbl := fb_mem2 (i := 72) rfl rfl
abbrev fb_Dk_allow : ByteArray := prog_1_method_4_code
def fy_Dk_allow : MethodName := ⟨fn_R_Dk, "allow", "(IIZ)I"⟩
abbrev fw_Dk_allow : Cond := .code fy_Dk_allow fb_Dk_allow 6 (some .int)
theorem fm_Dk_allow : fw_Dk_allow ∈ fb_tbl := fb_mem2 (i := 82) rfl rfl
abbrev fb_Dk_asked : ByteArray := prog_1_method_5_code
def fy_Dk_asked : MethodName := ⟨fn_R_Dk, "asked", "(IZIID)V"⟩
abbrev fw_Dk_asked : Cond := .code fy_Dk_asked fb_Dk_asked 9 none
theorem fm_Dk_asked : fw_Dk_asked ∈ fb_tbl := fb_mem2 (i := 89) rfl rfl
abbrev fb_Dk_tick : ByteArray := prog_1_method_6_code
def fy_Dk_tick : MethodName := ⟨fn_R_Dk, "tick", "(D)D"⟩
abbrev fw_Dk_tick : Cond := .code fy_Dk_tick fb_Dk_tick 4 (some .double)
theorem fm_Dk_tick : fw_Dk_tick ∈ fb_tbl := fb_mem2 (i := 97) rfl rfl
abbrev fb_Dk_fetch : ByteArray := prog_1_method_7_code
def fy_Dk_fetch : MethodName := ⟨fn_R_Dk, "fetch", "(IIIIIII)I"⟩
abbrev fw_Dk_fetch : Cond := .code fy_Dk_fetch fb_Dk_fetch 8 (some .int)
theorem fm_Dk_fetch : fw_Dk_fetch ∈ fb_tbl := fb_mem2 (i := 106) rfl rfl
abbrev fb_Dk_told : ByteArray := prog_1_method_8_code
def fy_Dk_told : MethodName := ⟨fn_R_Dk, "told", "(I)I"⟩
abbrev fw_Dk_told : Cond := .code fy_Dk_told fb_Dk_told 2 (some .int)
theorem fm_Dk_told : fw_Dk_told ∈ fb_tbl := fb_mem2 (i := 239) rfl rfl
abbrev fb_Dk_kept : ByteArray := prog_1_method_9_code
def fy_Dk_kept : MethodName := ⟨fn_R_Dk, "kept", "(II)I"⟩
abbrev fw_Dk_kept : Cond := .code fy_Dk_kept fb_Dk_kept 4 (some .int)
theorem fm_Dk_kept : fw_Dk_kept ∈ fb_tbl := fb_mem3 (i := 7) rfl rfl
abbrev fb_Dk_left : ByteArray := prog_1_method_10_code
def fy_Dk_left : MethodName := ⟨fn_R_Dk, "left", "(I)D"⟩
abbrev fw_Dk_left : Cond := .code fy_Dk_left fb_Dk_left 4 (some .double)
theorem fm_Dk_left : fw_Dk_left ∈ fb_tbl := fb_mem3 (i := 33) rfl rfl
abbrev fb_Dk_count : ByteArray := prog_1_method_11_code
def fy_Dk_count : MethodName := ⟨fn_R_Dk, "count", "(I)I"⟩
abbrev fw_Dk_count : Cond := .code fy_Dk_count fb_Dk_count 2 (some .int)
theorem fm_Dk_count : fw_Dk_count ∈ fb_tbl := fb_mem3 (i := 40) rfl rfl
abbrev fb_Dk_goThroughRounds : ByteArray := prog_1_method_12_code
def fy_Dk_goThroughRounds : MethodName := ⟨fn_R_Dk, "goThroughRounds", "()V"⟩
abbrev fw_Dk_goThroughRounds : Cond := .code fy_Dk_goThroughRounds fb_Dk_goThroughRounds 3 none
theorem fm_Dk_goThroughRounds : fw_Dk_goThroughRounds ∈ fb_tbl := fb_mem2 (i := 133) rfl rfl
abbrev fb_Dk_goOneRound : ByteArray := prog_1_method_13_code
def fy_Dk_goOneRound : MethodName := ⟨fn_R_Dk, "goOneRound", "(I)Z"⟩
abbrev fw_Dk_goOneRound : Cond := .code fy_Dk_goOneRound fb_Dk_goOneRound 3 (some .boolean)
theorem fm_Dk_goOneRound : fw_Dk_goOneRound ∈ fb_tbl := fb_mem2 (i := 137) rfl rfl
abbrev fb_Dk_errorBeforeRequesting : ByteArray := prog_1_method_14_code
def fy_Dk_errorBeforeRequesting : MethodName := ⟨fn_R_Dk, "errorBeforeRequesting", "(LFetchDesk$Resource;)I"⟩
abbrev fw_Dk_errorBeforeRequesting : Cond := .code fy_Dk_errorBeforeRequesting fb_Dk_errorBeforeRequesting 2 (some .int)
theorem fm_Dk_errorBeforeRequesting : fw_Dk_errorBeforeRequesting ∈ fb_tbl := fb_mem2 (i := 148) rfl rfl
abbrev fb_Dk_ask : ByteArray := prog_1_method_15_code
def fy_Dk_ask : MethodName := ⟨fn_R_Dk, "ask", "(LFetchDesk$Resource;)Z"⟩
abbrev fw_Dk_ask : Cond := .code fy_Dk_ask fb_Dk_ask 3 (some .boolean)
theorem fm_Dk_ask : fw_Dk_ask ∈ fb_tbl := fb_mem2 (i := 167) rfl rfl
abbrev fb_Dk_countRequested : ByteArray := prog_1_method_16_code
def fy_Dk_countRequested : MethodName := ⟨fn_R_Dk, "countRequested", "(LFetchDesk$Resource;)V"⟩
abbrev fw_Dk_countRequested : Cond := .code fy_Dk_countRequested fb_Dk_countRequested 2 none
theorem fm_Dk_countRequested : fw_Dk_countRequested ∈ fb_tbl := fb_mem2 (i := 197) rfl rfl
abbrev fb_Dk_isOrigin : ByteArray := prog_1_method_17_code
def fy_Dk_isOrigin : MethodName := ⟨fn_R_Dk, "isOrigin", "(I)Z"⟩
abbrev fw_Dk_isOrigin : Cond := .code fy_Dk_isOrigin fb_Dk_isOrigin 1 (some .boolean)
theorem fm_Dk_isOrigin : fw_Dk_isOrigin ∈ fb_tbl := fb_mem2 (i := 109) rfl rfl
abbrev fb_Dk_isUrl : ByteArray := prog_1_method_18_code
def fy_Dk_isUrl : MethodName := ⟨fn_R_Dk, "isUrl", "(I)Z"⟩
abbrev fw_Dk_isUrl : Cond := .code fy_Dk_isUrl fb_Dk_isUrl 1 (some .boolean)
theorem fm_Dk_isUrl : fw_Dk_isUrl ∈ fb_tbl := fb_mem2 (i := 2) rfl rfl
abbrev fb_Dk_isMethod : ByteArray := prog_1_method_19_code
def fy_Dk_isMethod : MethodName := ⟨fn_R_Dk, "isMethod", "(I)Z"⟩
abbrev fw_Dk_isMethod : Cond := .code fy_Dk_isMethod fb_Dk_isMethod 1 (some .boolean)
theorem fm_Dk_isMethod : fw_Dk_isMethod ∈ fb_tbl := fb_mem2 (i := 112) rfl rfl
abbrev fb_Dk_isFourBits : ByteArray := prog_1_method_20_code
def fy_Dk_isFourBits : MethodName := ⟨fn_R_Dk, "isFourBits", "(I)Z"⟩
abbrev fw_Dk_isFourBits : Cond := .code fy_Dk_isFourBits fb_Dk_isFourBits 1 (some .boolean)
theorem fm_Dk_isFourBits : fw_Dk_isFourBits ∈ fb_tbl := fb_mem2 (i := 75) rfl rfl
abbrev fb_Dk_isChoice : ByteArray := prog_1_method_21_code
def fy_Dk_isChoice : MethodName := ⟨fn_R_Dk, "isChoice", "(I)Z"⟩
abbrev fw_Dk_isChoice : Cond := .code fy_Dk_isChoice fb_Dk_isChoice 1 (some .boolean)
theorem fm_Dk_isChoice : fw_Dk_isChoice ∈ fb_tbl := fb_mem2 (i := 115) rfl rfl
abbrev fb_Dk_isSimple : ByteArray := prog_1_method_22_code
def fy_Dk_isSimple : MethodName := ⟨fn_R_Dk, "isSimple", "(I)Z"⟩
abbrev fw_Dk_isSimple : Cond := .code fy_Dk_isSimple fb_Dk_isSimple 1 (some .boolean)
theorem fm_Dk_isSimple : fw_Dk_isSimple ∈ fb_tbl := fb_mem2 (i := 121) rfl rfl
abbrev fb_Dk_isPlain : ByteArray := prog_1_method_23_code
def fy_Dk_isPlain : MethodName := ⟨fn_R_Dk, "isPlain", "(II)Z"⟩
abbrev fw_Dk_isPlain : Cond := .code fy_Dk_isPlain fb_Dk_isPlain 2 (some .boolean)
theorem fm_Dk_isPlain : fw_Dk_isPlain ∈ fb_tbl := fb_mem2 (i := 118) rfl rfl
abbrev fb_Dk_lets : ByteArray := prog_1_method_24_code
def fy_Dk_lets : MethodName := ⟨fn_R_Dk, "lets", "(IILFetchDesk$Request;)Z"⟩
abbrev fw_Dk_lets : Cond := .code fy_Dk_lets fb_Dk_lets 5 (some .boolean)
theorem fm_Dk_lets : fw_Dk_lets ∈ fb_tbl := fb_mem2 (i := 163) rfl rfl
abbrev fb_Dk_originOf : ByteArray := prog_1_method_25_code
def fy_Dk_originOf : MethodName := ⟨fn_R_Dk, "originOf", "(I)I"⟩
abbrev fw_Dk_originOf : Cond := .code fy_Dk_originOf fb_Dk_originOf 1 (some .int)
theorem fm_Dk_originOf : fw_Dk_originOf ∈ fb_tbl := fb_mem2 (i := 144) rfl rfl
abbrev fb_Mm_init : ByteArray := prog_2_method_1_code
def fy_Mm_init : MethodName := ⟨fn_R_Mm, "<init>", "()V"⟩
abbrev fw_Mm_init : Cond := .code fy_Mm_init fb_Mm_init 2 none
theorem fm_Mm_init : fw_Mm_init ∈ fb_tbl := fb_mem1 (i := 84) rfl rfl
abbrev fb_Mm_holds : ByteArray := prog_2_method_2_code
def fy_Mm_holds : MethodName := ⟨fn_R_Mm, "holds", "(I)Z"⟩
abbrev fw_Mm_holds : Cond := .code fy_Mm_holds fb_Mm_holds 2 (some .boolean)
theorem fm_Mm_holds : fw_Mm_holds ∈ fb_tbl := fb_mem3 (i := 11) rfl rfl
abbrev fb_Mm_find : ByteArray := prog_2_method_3_code
def fy_Mm_find : MethodName := ⟨fn_R_Mm, "find", "(LFetchDesk$Request;)I"⟩
abbrev fw_Mm_find : Cond := .code fy_Mm_find fb_Mm_find 4 (some .int)
theorem fm_Mm_find : fw_Mm_find ∈ fb_tbl := fb_mem2 (i := 160) rfl rfl
abbrev fb_Mm_covers : ByteArray := prog_2_method_4_code
def fy_Mm_covers : MethodName := ⟨fn_R_Mm, "covers", "(LFetchDesk$Request;D)Z"⟩
abbrev fw_Mm_covers : Cond := .code fy_Mm_covers fb_Mm_covers 6 (some .boolean)
theorem fm_Mm_covers : fw_Mm_covers ∈ fb_tbl := fb_mem2 (i := 156) rfl rfl
abbrev fb_Mm_forget : ByteArray := prog_2_method_5_code
def fy_Mm_forget : MethodName := ⟨fn_R_Mm, "forget", "(LFetchDesk$Request;)V"⟩
abbrev fw_Mm_forget : Cond := .code fy_Mm_forget fb_Mm_forget 3 none
theorem fm_Mm_forget : fw_Mm_forget ∈ fb_tbl := fb_mem2 (i := 171) rfl rfl
abbrev fb_Mm_remember : ByteArray := prog_2_method_6_code
def fy_Mm_remember : MethodName := ⟨fn_R_Mm, "remember", "(LFetchDesk$Request;LFetchDesk$Resource;D)V"⟩
abbrev fw_Mm_remember : Cond := .code fy_Mm_remember fb_Mm_remember 7 none
theorem fm_Mm_remember : fw_Mm_remember ∈ fb_tbl := fb_mem2 (i := 184) rfl rfl
abbrev fb_Mm_firstToEnd : ByteArray := prog_2_method_7_code
def fy_Mm_firstToEnd : MethodName := ⟨fn_R_Mm, "firstToEnd", "()I"⟩
abbrev fw_Mm_firstToEnd : Cond := .code fy_Mm_firstToEnd fb_Mm_firstToEnd 3 (some .int)
theorem fm_Mm_firstToEnd : fw_Mm_firstToEnd ∈ fb_tbl := fb_mem2 (i := 188) rfl rfl
abbrev fb_Mm_drop : ByteArray := prog_2_method_8_code
def fy_Mm_drop : MethodName := ⟨fn_R_Mm, "drop", "(I)V"⟩
abbrev fw_Mm_drop : Cond := .code fy_Mm_drop fb_Mm_drop 4 none
theorem fm_Mm_drop : fw_Mm_drop ∈ fb_tbl := fb_mem2 (i := 175) rfl rfl
abbrev fb_Pm_init : ByteArray := prog_3_method_1_code
def fy_Pm_init : MethodName := ⟨fn_R_Pm, "<init>", "()V"⟩
abbrev fw_Pm_init : Cond := .code fy_Pm_init fb_Pm_init 1 none
theorem fm_Pm_init : fw_Pm_init ∈ fb_tbl := fb_mem1 (i := 91) rfl rfl
abbrev fb_Pm_write : ByteArray := prog_3_method_2_code
def fy_Pm_write : MethodName := ⟨fn_R_Pm, "write", "(LFetchDesk$Request;LFetchDesk$Resource;D)V"⟩
abbrev fw_Pm_write : Cond := .code fy_Pm_write fb_Pm_write 5 none
theorem fm_Pm_write : fw_Pm_write ∈ fb_tbl := fb_mem2 (i := 193) rfl rfl
abbrev fb_Rq_init : ByteArray := prog_4_method_1_code
def fy_Rq_init : MethodName := ⟨fn_R_Rq, "<init>", "()V"⟩
abbrev fw_Rq_init : Cond := .code fy_Rq_init fb_Rq_init 1 none
theorem fm_Rq_init : fw_Rq_init ∈ fb_tbl := fb_mem1 (i := 137) rfl rfl
abbrev fb_Rq_begin : ByteArray := prog_4_method_2_code
def fy_Rq_begin : MethodName := ⟨fn_R_Rq, "begin", "(IIIIIII)V"⟩
abbrev fw_Rq_begin : Cond := .code fy_Rq_begin fb_Rq_begin 8 none
theorem fm_Rq_begin : fw_Rq_begin ∈ fb_tbl := fb_mem2 (i := 125) rfl rfl
abbrev fb_Rq_show : ByteArray := prog_4_method_3_code
def fy_Rq_show : MethodName := ⟨fn_R_Rq, "show", "(IIII)V"⟩
abbrev fw_Rq_show : Cond := .code fy_Rq_show fb_Rq_show 5 none
theorem fm_Rq_show : fw_Rq_show ∈ fb_tbl := fb_mem2 (i := 129) rfl rfl
abbrev fb_Rq_enterRound : ByteArray := prog_4_method_4_code
def fy_Rq_enterRound : MethodName := ⟨fn_R_Rq, "enterRound", "()V"⟩
abbrev fw_Rq_enterRound : Cond := .code fy_Rq_enterRound fb_Rq_enterRound 1 none
theorem fm_Rq_enterRound : fw_Rq_enterRound ∈ fb_tbl := fb_mem2 (i := 141) rfl rfl
abbrev fb_Rq_mustPass : ByteArray := prog_4_method_5_code
def fy_Rq_mustPass : MethodName := ⟨fn_R_Rq, "mustPass", "()Z"⟩
abbrev fw_Rq_mustPass : Cond := .code fy_Rq_mustPass fb_Rq_mustPass 1 (some .boolean)
theorem fm_Rq_mustPass : fw_Rq_mustPass ∈ fb_tbl := fb_mem2 (i := 152) rfl rfl
abbrev fb_Rq_passes : ByteArray := prog_4_method_6_code
def fy_Rq_passes : MethodName := ⟨fn_R_Rq, "passes", "(LFetchDesk$Resource;)Z"⟩
abbrev fw_Rq_passes : Cond := .code fy_Rq_passes fb_Rq_passes 3 (some .boolean)
theorem fm_Rq_passes : fw_Rq_passes ∈ fb_tbl := fb_mem2 (i := 179) rfl rfl
abbrev fb_Rq_meetRedirect : ByteArray := prog_4_method_7_code
def fy_Rq_meetRedirect : MethodName := ⟨fn_R_Rq, "meetRedirect", "(LFetchDesk$Resource;I)Z"⟩
abbrev fw_Rq_meetRedirect : Cond := .code fy_Rq_meetRedirect fb_Rq_meetRedirect 3 (some .boolean)
theorem fm_Rq_meetRedirect : fw_Rq_meetRedirect ∈ fb_tbl := fb_mem2 (i := 205) rfl rfl
abbrev fb_Rq_follow : ByteArray := prog_4_method_8_code
def fy_Rq_follow : MethodName := ⟨fn_R_Rq, "follow", "(LFetchDesk$Resource;)V"⟩
abbrev fw_Rq_follow : Cond := .code fy_Rq_follow fb_Rq_follow 3 none
theorem fm_Rq_follow : fw_Rq_follow ∈ fb_tbl := fb_mem2 (i := 209) rfl rfl
abbrev fb_Rq_takeResponse : ByteArray := prog_4_method_9_code
def fy_Rq_takeResponse : MethodName := ⟨fn_R_Rq, "takeResponse", "(LFetchDesk$Resource;)V"⟩
abbrev fw_Rq_takeResponse : Cond := .code fy_Rq_takeResponse fb_Rq_takeResponse 3 none
theorem fm_Rq_takeResponse : fw_Rq_takeResponse ∈ fb_tbl := fb_mem2 (i := 217) rfl rfl
abbrev fb_Rs_init : ByteArray := prog_5_method_1_code
def fy_Rs_init : MethodName := ⟨fn_R_Rs, "<init>", "()V"⟩
abbrev fw_Rs_init : Cond := .code fy_Rs_init fb_Rs_init 1 none
theorem fm_Rs_init : fw_Rs_init ∈ fb_tbl := fb_mem1 (i := 26) rfl rfl
abbrev fb_Rs_isRedirect : ByteArray := prog_5_method_2_code
def fy_Rs_isRedirect : MethodName := ⟨fn_R_Rs, "isRedirect", "()Z"⟩
abbrev fw_Rs_isRedirect : Cond := .code fy_Rs_isRedirect fb_Rs_isRedirect 1 (some .boolean)
theorem fm_Rs_isRedirect : fw_Rs_isRedirect ∈ fb_tbl := fb_mem2 (i := 201) rfl rfl
abbrev fb_Rs_turnsIntoGet : ByteArray := prog_5_method_3_code
def fy_Rs_turnsIntoGet : MethodName := ⟨fn_R_Rs, "turnsIntoGet", "(I)Z"⟩
abbrev fw_Rs_turnsIntoGet : Cond := .code fy_Rs_turnsIntoGet fb_Rs_turnsIntoGet 2 (some .boolean)
theorem fm_Rs_turnsIntoGet : fw_Rs_turnsIntoGet ∈ fb_tbl := fb_mem2 (i := 213) rfl rfl
