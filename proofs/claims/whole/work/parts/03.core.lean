/-! ===== the words that every method stands on ===== -/
def zx_G : List Cond := lw_tbl.filter goodWord
theorem zx_Gm {w : Cond} (h1 : w ∈ lw_tbl) (h2 : goodWord w = true) : w ∈ zx_G := List.mem_filter.mpr ⟨h1, h2⟩
theorem zx_Gt (i : Nat) {w : Cond} (h1 : tables_1[i]? = some w) (h2 : goodWord w = true) : w ∈ zx_G := zx_Gm (List.mem_append_right _ (List.mem_of_getElem? h1)) h2
theorem zx_Gs {ws : List Cond} (h : ∀ w ∈ ws, w ∈ zx_G) : GoodIn zx_G ws := fun w hw => ⟨h w hw, good_of_word (List.mem_filter.mp (h w hw)).2⟩
theorem zx_Gsel (i : Nat) {y : MethodName} {n : Nat} (h : lw_privs[i]? = some (y, n)) : Cond.selects y.cls y y ∈ zx_G := by
  refine zx_Gm (List.mem_append_left _ ?_) rfl
  exact List.mem_map.mpr ⟨(y, n), List.mem_of_getElem? h, rfl⟩
/-! ===== the shapes of the system: classes, families of cells ===== -/
def zx_RLoom : String := "BeanLoom"
def zx_TLoom : u_T := fun k => match k with
  | 0 => ("BeanLoom", "types", "LBeanLoom$Types;", true)
  | 1 => ("BeanLoom", "model", "LBeanLoom$Model;", true)
  | 2 => ("BeanLoom", "store", "LBeanLoom$Store;", true)
  | 3 => ("BeanLoom", "planner", "LBeanLoom$Planner;", true)
  | 4 => ("BeanLoom", "mapper", "LBeanLoom$Mapper;", true)
  | _ => ("BeanLoom", "built", "Z", false)
def zx_tyLoom : Nat → FieldType := fun k => match k with
  | 0 => .object "BeanLoom$Types"
  | 1 => .object "BeanLoom$Model"
  | 2 => .object "BeanLoom$Store"
  | 3 => .object "BeanLoom$Planner"
  | 4 => .object "BeanLoom$Mapper"
  | _ => .boolean
theorem zx_nmLoom : ∀ a, a < 6 → ∀ b, b < 6 → a ≠ b → (zx_TLoom a).2.1 ≠ (zx_TLoom b).2.1 := by decide +kernel
theorem zx_tyokLoom : ∀ k, k < 6 → parseFieldDescriptor (zx_TLoom k).2.2.1 = some (zx_tyLoom k) := by decide +kernel
theorem zx_inLoom : ∀ w ∈ u_ws zx_RLoom zx_TLoom 6, w ∈ zx_G := by
  intro w hw
  have h : w ∈ (List.range 6).map (u_lay zx_RLoom zx_TLoom) := hw
  simp only [List.range, List.range.loop, List.map_cons, List.map_nil, List.mem_cons, List.not_mem_nil, or_false] at h
  rcases h with rfl | rfl | rfl | rfl | rfl | rfl
  · exact zx_Gt 361 (by decide +kernel) rfl
  · exact zx_Gt 363 (by decide +kernel) rfl
  · exact zx_Gt 365 (by decide +kernel) rfl
  · exact zx_Gt 367 (by decide +kernel) rfl
  · exact zx_Gt 369 (by decide +kernel) rfl
  · exact zx_Gt 371 (by decide +kernel) rfl
def zx_RTypes : String := "BeanLoom$Types"
def zx_TTypes : u_T := fun k => match k with
  | 0 => ("BeanLoom$Types", "forms", "[I", true)
  | 1 => ("BeanLoom$Types", "elements", "[I", true)
  | 2 => ("BeanLoom$Types", "memberCounts", "[I", true)
  | 3 => ("BeanLoom$Types", "names", "[I", true)
  | 4 => ("BeanLoom$Types", "memberTypes", "[I", true)
  | _ => ("BeanLoom$Types", "size", "I", false)
def zx_tyTypes : Nat → FieldType := fun k => match k with
  | 0 => .array (.int)
  | 1 => .array (.int)
  | 2 => .array (.int)
  | 3 => .array (.int)
  | 4 => .array (.int)
  | _ => .int
theorem zx_nmTypes : ∀ a, a < 6 → ∀ b, b < 6 → a ≠ b → (zx_TTypes a).2.1 ≠ (zx_TTypes b).2.1 := by decide +kernel
theorem zx_tyokTypes : ∀ k, k < 6 → parseFieldDescriptor (zx_TTypes k).2.2.1 = some (zx_tyTypes k) := by decide +kernel
theorem zx_inTypes : ∀ w ∈ u_ws zx_RTypes zx_TTypes 6, w ∈ zx_G := by
  intro w hw
  have h : w ∈ (List.range 6).map (u_lay zx_RTypes zx_TTypes) := hw
  simp only [List.range, List.range.loop, List.map_cons, List.map_nil, List.mem_cons, List.not_mem_nil, or_false] at h
  rcases h with rfl | rfl | rfl | rfl | rfl | rfl
  · exact zx_Gt 47 (by decide +kernel) rfl
  · exact zx_Gt 49 (by decide +kernel) rfl
  · exact zx_Gt 51 (by decide +kernel) rfl
  · exact zx_Gt 53 (by decide +kernel) rfl
  · exact zx_Gt 55 (by decide +kernel) rfl
  · exact zx_Gt 57 (by decide +kernel) rfl
def zx_RStore : String := "BeanLoom$Store"
def zx_TStore : u_T := fun k => match k with
  | 0 => ("BeanLoom$Store", "types", "LBeanLoom$Types;", true)
  | 1 => ("BeanLoom$Store", "objectTypes", "[I", true)
  | 2 => ("BeanLoom$Store", "lengths", "[I", true)
  | 3 => ("BeanLoom$Store", "cells", "[J", true)
  | _ => ("BeanLoom$Store", "size", "I", false)
def zx_tyStore : Nat → FieldType := fun k => match k with
  | 0 => .object "BeanLoom$Types"
  | 1 => .array (.int)
  | 2 => .array (.int)
  | 3 => .array (.long)
  | _ => .int
theorem zx_nmStore : ∀ a, a < 5 → ∀ b, b < 5 → a ≠ b → (zx_TStore a).2.1 ≠ (zx_TStore b).2.1 := by decide +kernel
theorem zx_tyokStore : ∀ k, k < 5 → parseFieldDescriptor (zx_TStore k).2.2.1 = some (zx_tyStore k) := by decide +kernel
theorem zx_inStore : ∀ w ∈ u_ws zx_RStore zx_TStore 5, w ∈ zx_G := by
  intro w hw
  have h : w ∈ (List.range 5).map (u_lay zx_RStore zx_TStore) := hw
  simp only [List.range, List.range.loop, List.map_cons, List.map_nil, List.mem_cons, List.not_mem_nil, or_false] at h
  rcases h with rfl | rfl | rfl | rfl | rfl
  · exact zx_Gt 238 (by decide +kernel) rfl
  · exact zx_Gt 240 (by decide +kernel) rfl
  · exact zx_Gt 242 (by decide +kernel) rfl
  · exact zx_Gt 244 (by decide +kernel) rfl
  · exact zx_Gt 246 (by decide +kernel) rfl
def zx_RModel : String := "BeanLoom$Model"
def zx_TModel : u_T := fun k => match k with
  | 0 => ("BeanLoom$Model", "functions", "[LBeanLoom$Function;", true)
  | 1 => ("BeanLoom$Model", "methods", "[LBeanLoom$Method;", true)
  | 2 => ("BeanLoom$Model", "functionCount", "I", false)
  | _ => ("BeanLoom$Model", "methodCount", "I", false)
def zx_tyModel : Nat → FieldType := fun k => match k with
  | 0 => .array (.object "BeanLoom$Function")
  | 1 => .array (.object "BeanLoom$Method")
  | 2 => .int
  | _ => .int
theorem zx_nmModel : ∀ a, a < 4 → ∀ b, b < 4 → a ≠ b → (zx_TModel a).2.1 ≠ (zx_TModel b).2.1 := by decide +kernel
theorem zx_tyokModel : ∀ k, k < 4 → parseFieldDescriptor (zx_TModel k).2.2.1 = some (zx_tyModel k) := by decide +kernel
theorem zx_inModel : ∀ w ∈ u_ws zx_RModel zx_TModel 4, w ∈ zx_G := by
  intro w hw
  have h : w ∈ (List.range 4).map (u_lay zx_RModel zx_TModel) := hw
  simp only [List.range, List.range.loop, List.map_cons, List.map_nil, List.mem_cons, List.not_mem_nil, or_false] at h
  rcases h with rfl | rfl | rfl | rfl
  · exact zx_Gt 218 (by decide +kernel) rfl
  · exact zx_Gt 220 (by decide +kernel) rfl
  · exact zx_Gt 222 (by decide +kernel) rfl
  · exact zx_Gt 224 (by decide +kernel) rfl
def zx_RWays : String := "BeanLoom$Ways"
def zx_TWays : u_T := fun k => match k with
  | 0 => ("BeanLoom$Ways", "types", "LBeanLoom$Types;", true)
  | 1 => ("BeanLoom$Ways", "model", "LBeanLoom$Model;", true)
  | _ => ("BeanLoom$Ways", "found", "[I", true)
def zx_tyWays : Nat → FieldType := fun k => match k with
  | 0 => .object "BeanLoom$Types"
  | 1 => .object "BeanLoom$Model"
  | _ => .array (.int)
theorem zx_nmWays : ∀ a, a < 3 → ∀ b, b < 3 → a ≠ b → (zx_TWays a).2.1 ≠ (zx_TWays b).2.1 := by decide +kernel
theorem zx_tyokWays : ∀ k, k < 3 → parseFieldDescriptor (zx_TWays k).2.2.1 = some (zx_tyWays k) := by decide +kernel
theorem zx_inWays : ∀ w ∈ u_ws zx_RWays zx_TWays 3, w ∈ zx_G := by
  intro w hw
  have h : w ∈ (List.range 3).map (u_lay zx_RWays zx_TWays) := hw
  simp only [List.range, List.range.loop, List.map_cons, List.map_nil, List.mem_cons, List.not_mem_nil, or_false] at h
  rcases h with rfl | rfl | rfl
  · exact zx_Gt 258 (by decide +kernel) rfl
  · exact zx_Gt 260 (by decide +kernel) rfl
  · exact zx_Gt 262 (by decide +kernel) rfl
def zx_RPlanner : String := "BeanLoom$Planner"
def zx_TPlanner : u_T := fun k => match k with
  | 0 => ("BeanLoom$Planner", "types", "LBeanLoom$Types;", true)
  | 1 => ("BeanLoom$Planner", "model", "LBeanLoom$Model;", true)
  | 2 => ("BeanLoom$Planner", "ways", "LBeanLoom$Ways;", true)
  | 3 => ("BeanLoom$Planner", "trial", "LBeanLoom$Plan;", true)
  | 4 => ("BeanLoom$Planner", "fault", "I", false)
  | 5 => ("BeanLoom$Planner", "faultMethod", "I", false)
  | _ => ("BeanLoom$Planner", "faultPlace", "I", false)
def zx_tyPlanner : Nat → FieldType := fun k => match k with
  | 0 => .object "BeanLoom$Types"
  | 1 => .object "BeanLoom$Model"
  | 2 => .object "BeanLoom$Ways"
  | 3 => .object "BeanLoom$Plan"
  | 4 => .int
  | 5 => .int
  | _ => .int
theorem zx_nmPlanner : ∀ a, a < 7 → ∀ b, b < 7 → a ≠ b → (zx_TPlanner a).2.1 ≠ (zx_TPlanner b).2.1 := by decide +kernel
theorem zx_tyokPlanner : ∀ k, k < 7 → parseFieldDescriptor (zx_TPlanner k).2.2.1 = some (zx_tyPlanner k) := by decide +kernel
theorem zx_inPlanner : ∀ w ∈ u_ws zx_RPlanner zx_TPlanner 7, w ∈ zx_G := by
  intro w hw
  have h : w ∈ (List.range 7).map (u_lay zx_RPlanner zx_TPlanner) := hw
  simp only [List.range, List.range.loop, List.map_cons, List.map_nil, List.mem_cons, List.not_mem_nil, or_false] at h
  rcases h with rfl | rfl | rfl | rfl | rfl | rfl | rfl
  · exact zx_Gt 283 (by decide +kernel) rfl
  · exact zx_Gt 285 (by decide +kernel) rfl
  · exact zx_Gt 287 (by decide +kernel) rfl
  · exact zx_Gt 289 (by decide +kernel) rfl
  · exact zx_Gt 291 (by decide +kernel) rfl
  · exact zx_Gt 293 (by decide +kernel) rfl
  · exact zx_Gt 295 (by decide +kernel) rfl
def zx_RMapper : String := "BeanLoom$Mapper"
def zx_TMapper : u_T := fun k => match k with
  | 0 => ("BeanLoom$Mapper", "types", "LBeanLoom$Types;", true)
  | 1 => ("BeanLoom$Mapper", "model", "LBeanLoom$Model;", true)
  | 2 => ("BeanLoom$Mapper", "store", "LBeanLoom$Store;", true)
  | 3 => ("BeanLoom$Mapper", "ways", "LBeanLoom$Ways;", true)
  | 4 => ("BeanLoom$Mapper", "converter", "LBeanLoom$Converter;", true)
  | 5 => ("BeanLoom$Mapper", "taken", "[I", true)
  | 6 => ("BeanLoom$Mapper", "sources", "[I", true)
  | 7 => ("BeanLoom$Mapper", "targets", "[I", true)
  | 8 => ("BeanLoom$Mapper", "nexts", "[I", true)
  | 9 => ("BeanLoom$Mapper", "methods", "[I", true)
  | _ => ("BeanLoom$Mapper", "height", "I", false)
def zx_tyMapper : Nat → FieldType := fun k => match k with
  | 0 => .object "BeanLoom$Types"
  | 1 => .object "BeanLoom$Model"
  | 2 => .object "BeanLoom$Store"
  | 3 => .object "BeanLoom$Ways"
  | 4 => .object "BeanLoom$Converter"
  | 5 => .array (.int)
  | 6 => .array (.int)
  | 7 => .array (.int)
  | 8 => .array (.int)
  | 9 => .array (.int)
  | _ => .int
theorem zx_nmMapper : ∀ a, a < 11 → ∀ b, b < 11 → a ≠ b → (zx_TMapper a).2.1 ≠ (zx_TMapper b).2.1 := by decide +kernel
theorem zx_tyokMapper : ∀ k, k < 11 → parseFieldDescriptor (zx_TMapper k).2.2.1 = some (zx_tyMapper k) := by decide +kernel
theorem zx_inMapper : ∀ w ∈ u_ws zx_RMapper zx_TMapper 11, w ∈ zx_G := by
  intro w hw
  have h : w ∈ (List.range 11).map (u_lay zx_RMapper zx_TMapper) := hw
  simp only [List.range, List.range.loop, List.map_cons, List.map_nil, List.mem_cons, List.not_mem_nil, or_false] at h
  rcases h with rfl | rfl | rfl | rfl | rfl | rfl | rfl | rfl | rfl | rfl | rfl
  · exact zx_Gt 332 (by decide +kernel) rfl
  · exact zx_Gt 334 (by decide +kernel) rfl
  · exact zx_Gt 336 (by decide +kernel) rfl
  · exact zx_Gt 338 (by decide +kernel) rfl
  · exact zx_Gt 340 (by decide +kernel) rfl
  · exact zx_Gt 342 (by decide +kernel) rfl
  · exact zx_Gt 344 (by decide +kernel) rfl
  · exact zx_Gt 346 (by decide +kernel) rfl
  · exact zx_Gt 348 (by decide +kernel) rfl
  · exact zx_Gt 350 (by decide +kernel) rfl
  · exact zx_Gt 352 (by decide +kernel) rfl
def zx_RConverter : String := "BeanLoom$Converter"
def zx_TConverter : u_T := fun k => match k with
  | 0 => ("BeanLoom$Converter", "types", "LBeanLoom$Types;", true)
  | 1 => ("BeanLoom$Converter", "store", "LBeanLoom$Store;", true)
  | _ => ("BeanLoom$Converter", "failed", "Z", false)
def zx_tyConverter : Nat → FieldType := fun k => match k with
  | 0 => .object "BeanLoom$Types"
  | 1 => .object "BeanLoom$Store"
  | _ => .boolean
theorem zx_nmConverter : ∀ a, a < 3 → ∀ b, b < 3 → a ≠ b → (zx_TConverter a).2.1 ≠ (zx_TConverter b).2.1 := by decide +kernel
theorem zx_tyokConverter : ∀ k, k < 3 → parseFieldDescriptor (zx_TConverter k).2.2.1 = some (zx_tyConverter k) := by decide +kernel
theorem zx_inConverter : ∀ w ∈ u_ws zx_RConverter zx_TConverter 3, w ∈ zx_G := by
  intro w hw
  have h : w ∈ (List.range 3).map (u_lay zx_RConverter zx_TConverter) := hw
  simp only [List.range, List.range.loop, List.map_cons, List.map_nil, List.mem_cons, List.not_mem_nil, or_false] at h
  rcases h with rfl | rfl | rfl
  · exact zx_Gt 314 (by decide +kernel) rfl
  · exact zx_Gt 316 (by decide +kernel) rfl
  · exact zx_Gt 318 (by decide +kernel) rfl
def zx_RFunction : String := "BeanLoom$Function"
def zx_TFunction : u_T := fun k => match k with
  | 0 => ("BeanLoom$Function", "from", "I", false)
  | 1 => ("BeanLoom$Function", "to", "I", false)
  | 2 => ("BeanLoom$Function", "a", "I", false)
  | 3 => ("BeanLoom$Function", "b", "I", false)
  | _ => ("BeanLoom$Function", "named", "Z", false)
def zx_tyFunction : Nat → FieldType := fun k => match k with
  | 0 => .int
  | 1 => .int
  | 2 => .int
  | 3 => .int
  | _ => .boolean
theorem zx_nmFunction : ∀ a, a < 5 → ∀ b, b < 5 → a ≠ b → (zx_TFunction a).2.1 ≠ (zx_TFunction b).2.1 := by decide +kernel
theorem zx_tyokFunction : ∀ k, k < 5 → parseFieldDescriptor (zx_TFunction k).2.2.1 = some (zx_tyFunction k) := by decide +kernel
theorem zx_inFunction : ∀ w ∈ u_ws zx_RFunction zx_TFunction 5, w ∈ zx_G := by
  intro w hw
  have h : w ∈ (List.range 5).map (u_lay zx_RFunction zx_TFunction) := hw
  simp only [List.range, List.range.loop, List.map_cons, List.map_nil, List.mem_cons, List.not_mem_nil, or_false] at h
  rcases h with rfl | rfl | rfl | rfl | rfl
  · exact zx_Gt 90 (by decide +kernel) rfl
  · exact zx_Gt 92 (by decide +kernel) rfl
  · exact zx_Gt 94 (by decide +kernel) rfl
  · exact zx_Gt 96 (by decide +kernel) rfl
  · exact zx_Gt 98 (by decide +kernel) rfl
def zx_RMethod : String := "BeanLoom$Method"
def zx_TMethod : u_T := fun k => match k with
  | 0 => ("BeanLoom$Method", "from", "I", false)
  | 1 => ("BeanLoom$Method", "to", "I", false)
  | 2 => ("BeanLoom$Method", "ruleCount", "I", false)
  | 3 => ("BeanLoom$Method", "kinds", "[I", true)
  | 4 => ("BeanLoom$Method", "targets", "[I", true)
  | 5 => ("BeanLoom$Method", "whats", "[J", true)
  | 6 => ("BeanLoom$Method", "inverse", "I", false)
  | 7 => ("BeanLoom$Method", "makesOfNull", "Z", false)
  | 8 => ("BeanLoom$Method", "plans", "[LBeanLoom$Plan;", true)
  | _ => ("BeanLoom$Method", "becomes", "[I", true)
def zx_tyMethod : Nat → FieldType := fun k => match k with
  | 0 => .int
  | 1 => .int
  | 2 => .int
  | 3 => .array (.int)
  | 4 => .array (.int)
  | 5 => .array (.long)
  | 6 => .int
  | 7 => .boolean
  | 8 => .array (.object "BeanLoom$Plan")
  | _ => .array (.int)
theorem zx_nmMethod : ∀ a, a < 10 → ∀ b, b < 10 → a ≠ b → (zx_TMethod a).2.1 ≠ (zx_TMethod b).2.1 := by decide +kernel
theorem zx_tyokMethod : ∀ k, k < 10 → parseFieldDescriptor (zx_TMethod k).2.2.1 = some (zx_tyMethod k) := by decide +kernel
theorem zx_inMethod : ∀ w ∈ u_ws zx_RMethod zx_TMethod 10, w ∈ zx_G := by
  intro w hw
  have h : w ∈ (List.range 10).map (u_lay zx_RMethod zx_TMethod) := hw
  simp only [List.range, List.range.loop, List.map_cons, List.map_nil, List.mem_cons, List.not_mem_nil, or_false] at h
  rcases h with rfl | rfl | rfl | rfl | rfl | rfl | rfl | rfl | rfl | rfl
  · exact zx_Gt 181 (by decide +kernel) rfl
  · exact zx_Gt 183 (by decide +kernel) rfl
  · exact zx_Gt 185 (by decide +kernel) rfl
  · exact zx_Gt 187 (by decide +kernel) rfl
  · exact zx_Gt 189 (by decide +kernel) rfl
  · exact zx_Gt 191 (by decide +kernel) rfl
  · exact zx_Gt 193 (by decide +kernel) rfl
  · exact zx_Gt 195 (by decide +kernel) rfl
  · exact zx_Gt 197 (by decide +kernel) rfl
  · exact zx_Gt 199 (by decide +kernel) rfl
def zx_RPlan : String := "BeanLoom$Plan"
def zx_TPlan : u_T := fun k => match k with
  | 0 => ("BeanLoom$Plan", "origin", "I", false)
  | 1 => ("BeanLoom$Plan", "constant", "J", false)
  | 2 => ("BeanLoom$Plan", "steps", "I", false)
  | 3 => ("BeanLoom$Plan", "places", "[I", true)
  | 4 => ("BeanLoom$Plan", "sourceType", "I", false)
  | 5 => ("BeanLoom$Plan", "way", "I", false)
  | 6 => ("BeanLoom$Plan", "hasDefault", "Z", false)
  | 7 => ("BeanLoom$Plan", "fallback", "J", false)
  | _ => ("BeanLoom$Plan", "fallbackWay", "I", false)
def zx_tyPlan : Nat → FieldType := fun k => match k with
  | 0 => .int
  | 1 => .long
  | 2 => .int
  | 3 => .array (.int)
  | 4 => .int
  | 5 => .int
  | 6 => .boolean
  | 7 => .long
  | _ => .int
theorem zx_nmPlan : ∀ a, a < 9 → ∀ b, b < 9 → a ≠ b → (zx_TPlan a).2.1 ≠ (zx_TPlan b).2.1 := by decide +kernel
theorem zx_tyokPlan : ∀ k, k < 9 → parseFieldDescriptor (zx_TPlan k).2.2.1 = some (zx_tyPlan k) := by decide +kernel
theorem zx_inPlan : ∀ w ∈ u_ws zx_RPlan zx_TPlan 9, w ∈ zx_G := by
  intro w hw
  have h : w ∈ (List.range 9).map (u_lay zx_RPlan zx_TPlan) := hw
  simp only [List.range, List.range.loop, List.map_cons, List.map_nil, List.mem_cons, List.not_mem_nil, or_false] at h
  rcases h with rfl | rfl | rfl | rfl | rfl | rfl | rfl | rfl | rfl
  · exact zx_Gt 132 (by decide +kernel) rfl
  · exact zx_Gt 134 (by decide +kernel) rfl
  · exact zx_Gt 136 (by decide +kernel) rfl
  · exact zx_Gt 138 (by decide +kernel) rfl
  · exact zx_Gt 140 (by decide +kernel) rfl
  · exact zx_Gt 142 (by decide +kernel) rfl
  · exact zx_Gt 144 (by decide +kernel) rfl
  · exact zx_Gt 146 (by decide +kernel) rfl
  · exact zx_Gt 148 (by decide +kernel) rfl
def zx_RRef : String := "BeanLoomModel"
def zx_TRef : u_T := fun k => match k with
  | 0 => ("BeanLoomModel", "thrown", "I", false)
  | 1 => ("BeanLoomModel", "built", "Z", false)
  | 2 => ("BeanLoomModel", "types", "I", false)
  | 3 => ("BeanLoomModel", "sort", "[I", true)
  | 4 => ("BeanLoomModel", "size", "[I", true)
  | 5 => ("BeanLoomModel", "names", "[I", true)
  | 6 => ("BeanLoomModel", "propertyTypes", "[I", true)
  | 7 => ("BeanLoomModel", "of", "[I", true)
  | 8 => ("BeanLoomModel", "methods", "I", false)
  | 9 => ("BeanLoomModel", "methodFrom", "[I", true)
  | 10 => ("BeanLoomModel", "methodTo", "[I", true)
  | 11 => ("BeanLoomModel", "ruleCount", "[I", true)
  | 12 => ("BeanLoomModel", "kinds", "[I", true)
  | 13 => ("BeanLoomModel", "targets", "[I", true)
  | 14 => ("BeanLoomModel", "whats", "[J", true)
  | 15 => ("BeanLoomModel", "functions", "I", false)
  | 16 => ("BeanLoomModel", "functionFrom", "[I", true)
  | 17 => ("BeanLoomModel", "functionTo", "[I", true)
  | 18 => ("BeanLoomModel", "factor", "[I", true)
  | 19 => ("BeanLoomModel", "addend", "[I", true)
  | 20 => ("BeanLoomModel", "diagnosis", "I", false)
  | 21 => ("BeanLoomModel", "faultyMethod", "I", false)
  | 22 => ("BeanLoomModel", "faultyPlace", "I", false)
  | 23 => ("BeanLoomModel", "objects", "I", false)
  | 24 => ("BeanLoomModel", "type", "[I", true)
  | 25 => ("BeanLoomModel", "count", "[I", true)
  | 26 => ("BeanLoomModel", "values", "[J", true)
  | 27 => ("BeanLoomModel", "characters", "[I", true)
  | 28 => ("BeanLoomModel", "known", "I", false)
  | 29 => ("BeanLoomModel", "knownMethod", "[I", true)
  | 30 => ("BeanLoomModel", "knownSource", "[I", true)
  | 31 => ("BeanLoomModel", "knownTarget", "[I", true)
  | 32 => ("BeanLoomModel", "deep", "I", false)
  | 33 => ("BeanLoomModel", "by", "[I", true)
  | 34 => ("BeanLoomModel", "source", "[I", true)
  | 35 => ("BeanLoomModel", "target", "[I", true)
  | 36 => ("BeanLoomModel", "place", "[I", true)
  | 37 => ("BeanLoomModel", "failed", "Z", false)
  | 38 => ("BeanLoomModel", "length", "I", false)
  | _ => ("BeanLoomModel", "text", "[I", true)
def zx_tyRef : Nat → FieldType := fun k => match k with
  | 0 => .int
  | 1 => .boolean
  | 2 => .int
  | 3 => .array (.int)
  | 4 => .array (.int)
  | 5 => .array (.int)
  | 6 => .array (.int)
  | 7 => .array (.int)
  | 8 => .int
  | 9 => .array (.int)
  | 10 => .array (.int)
  | 11 => .array (.int)
  | 12 => .array (.int)
  | 13 => .array (.int)
  | 14 => .array (.long)
  | 15 => .int
  | 16 => .array (.int)
  | 17 => .array (.int)
  | 18 => .array (.int)
  | 19 => .array (.int)
  | 20 => .int
  | 21 => .int
  | 22 => .int
  | 23 => .int
  | 24 => .array (.int)
  | 25 => .array (.int)
  | 26 => .array (.long)
  | 27 => .array (.int)
  | 28 => .int
  | 29 => .array (.int)
  | 30 => .array (.int)
  | 31 => .array (.int)
  | 32 => .int
  | 33 => .array (.int)
  | 34 => .array (.int)
  | 35 => .array (.int)
  | 36 => .array (.int)
  | 37 => .boolean
  | 38 => .int
  | _ => .array (.int)
theorem zx_nmRef : ∀ a, a < 40 → ∀ b, b < 40 → a ≠ b → (zx_TRef a).2.1 ≠ (zx_TRef b).2.1 := by decide +kernel
theorem zx_tyokRef : ∀ k, k < 40 → parseFieldDescriptor (zx_TRef k).2.2.1 = some (zx_tyRef k) := by decide +kernel
theorem zx_inRef : ∀ w ∈ u_ws zx_RRef zx_TRef 40, w ∈ zx_G := by
  intro w hw
  have h : w ∈ (List.range 40).map (u_lay zx_RRef zx_TRef) := hw
  simp only [List.range, List.range.loop, List.map_cons, List.map_nil, List.mem_cons, List.not_mem_nil, or_false] at h
  rcases h with rfl | rfl | rfl | rfl | rfl | rfl | rfl | rfl | rfl | rfl | rfl | rfl | rfl | rfl | rfl | rfl | rfl | rfl | rfl | rfl | rfl | rfl | rfl | rfl | rfl | rfl | rfl | rfl | rfl | rfl | rfl | rfl | rfl | rfl | rfl | rfl | rfl | rfl | rfl | rfl
  · exact zx_Gt 1147 (by decide +kernel) rfl
  · exact zx_Gt 1149 (by decide +kernel) rfl
  · exact zx_Gt 1151 (by decide +kernel) rfl
  · exact zx_Gt 1153 (by decide +kernel) rfl
  · exact zx_Gt 1155 (by decide +kernel) rfl
  · exact zx_Gt 1157 (by decide +kernel) rfl
  · exact zx_Gt 1159 (by decide +kernel) rfl
  · exact zx_Gt 1161 (by decide +kernel) rfl
  · exact zx_Gt 1163 (by decide +kernel) rfl
  · exact zx_Gt 1165 (by decide +kernel) rfl
  · exact zx_Gt 1167 (by decide +kernel) rfl
  · exact zx_Gt 1169 (by decide +kernel) rfl
  · exact zx_Gt 1171 (by decide +kernel) rfl
  · exact zx_Gt 1173 (by decide +kernel) rfl
  · exact zx_Gt 1175 (by decide +kernel) rfl
  · exact zx_Gt 1177 (by decide +kernel) rfl
  · exact zx_Gt 1179 (by decide +kernel) rfl
  · exact zx_Gt 1181 (by decide +kernel) rfl
  · exact zx_Gt 1183 (by decide +kernel) rfl
  · exact zx_Gt 1185 (by decide +kernel) rfl
  · exact zx_Gt 1187 (by decide +kernel) rfl
  · exact zx_Gt 1189 (by decide +kernel) rfl
  · exact zx_Gt 1191 (by decide +kernel) rfl
  · exact zx_Gt 1193 (by decide +kernel) rfl
  · exact zx_Gt 1195 (by decide +kernel) rfl
  · exact zx_Gt 1197 (by decide +kernel) rfl
  · exact zx_Gt 1199 (by decide +kernel) rfl
  · exact zx_Gt 1201 (by decide +kernel) rfl
  · exact zx_Gt 1203 (by decide +kernel) rfl
  · exact zx_Gt 1205 (by decide +kernel) rfl
  · exact zx_Gt 1207 (by decide +kernel) rfl
  · exact zx_Gt 1209 (by decide +kernel) rfl
  · exact zx_Gt 1211 (by decide +kernel) rfl
  · exact zx_Gt 1213 (by decide +kernel) rfl
  · exact zx_Gt 1215 (by decide +kernel) rfl
  · exact zx_Gt 1217 (by decide +kernel) rfl
  · exact zx_Gt 1219 (by decide +kernel) rfl
  · exact zx_Gt 1221 (by decide +kernel) rfl
  · exact zx_Gt 1223 (by decide +kernel) rfl
  · exact zx_Gt 1225 (by decide +kernel) rfl
abbrev zx_cl : List vw_C := [(zx_RLoom, zx_TLoom, 6), (zx_RTypes, zx_TTypes, 6), (zx_RStore, zx_TStore, 5), (zx_RModel, zx_TModel, 4), (zx_RWays, zx_TWays, 3), (zx_RPlanner, zx_TPlanner, 7), (zx_RMapper, zx_TMapper, 11), (zx_RConverter, zx_TConverter, 3), (zx_RFunction, zx_TFunction, 5), (zx_RMethod, zx_TMethod, 10), (zx_RPlan, zx_TPlan, 9), (zx_RRef, zx_TRef, 40)]
def zx_NP : Nat := 415
def zx_NF : Nat := 62
/-- a family: 0 objects (class, fields), 1 ints, 2 longs, 3 .. 5 references; length; how many -/
def zx_kd : Nat → Nat × Nat × Nat := fun F => match F with
  | 0 => (0, 0, 6)
  | 1 => (0, 1, 6)
  | 2 => (1, 0, 40)
  | 3 => (1, 0, 40)
  | 4 => (1, 0, 40)
  | 5 => (1, 0, 320)
  | 6 => (1, 0, 320)
  | 7 => (0, 2, 5)
  | 8 => (1, 0, 400)
  | 9 => (1, 0, 400)
  | 10 => (2, 0, 9600)
  | 11 => (0, 3, 4)
  | 12 => (3, 0, 8)
  | 13 => (4, 0, 16)
  | 14 => (0, 4, 3)
  | 15 => (1, 0, 1600)
  | 16 => (0, 5, 7)
  | 17 => (0, 6, 11)
  | 18 => (1, 0, 6400)
  | 19 => (1, 0, 400)
  | 20 => (1, 0, 400)
  | 21 => (1, 0, 400)
  | 22 => (1, 0, 400)
  | 23 => (0, 7, 3)
  | 24 => (0, 11, 40)
  | 25 => (1, 0, 40)
  | 26 => (1, 0, 40)
  | 27 => (1, 0, 320)
  | 28 => (1, 0, 320)
  | 29 => (1, 0, 40)
  | 30 => (1, 0, 16)
  | 31 => (1, 0, 16)
  | 32 => (1, 0, 16)
  | 33 => (1, 0, 384)
  | 34 => (1, 0, 384)
  | 35 => (2, 0, 384)
  | 36 => (1, 0, 8)
  | 37 => (1, 0, 8)
  | 38 => (1, 0, 8)
  | 39 => (1, 0, 8)
  | 40 => (1, 0, 400)
  | 41 => (1, 0, 400)
  | 42 => (2, 0, 6400)
  | 43 => (1, 0, 9600)
  | 44 => (1, 0, 400)
  | 45 => (1, 0, 400)
  | 46 => (1, 0, 400)
  | 47 => (1, 0, 802)
  | 48 => (1, 0, 802)
  | 49 => (1, 0, 802)
  | 50 => (1, 0, 802)
  | 51 => (1, 0, 24)
  | 52 => (2, 0, 1)
  | 53 => (0, 8, 5)
  | 54 => (0, 9, 10)
  | 55 => (1, 0, 24)
  | 56 => (1, 0, 24)
  | 57 => (2, 0, 24)
  | 58 => (5, 0, 8)
  | 59 => (1, 0, 8)
  | 60 => (0, 10, 9)
  | 61 => (1, 0, 3)
  | _ => (9, 0, 0)
def zx_off : Nat → Nat := fun F => match F with
  | 53 => 53
  | 54 => 61
  | 55 => 77
  | 56 => 93
  | 57 => 109
  | 58 => 125
  | 59 => 141
  | 60 => 157
  | 61 => 286
  | F => F
def zx_nF : Nat → Nat := fun F => match F with
  | 53 => 8
  | 54 => 16
  | 55 => 16
  | 56 => 16
  | 57 => 16
  | 58 => 16
  | 59 => 16
  | 60 => 129
  | 61 => 129
  | _ => 1
def zx_fam : Nat → Nat × Nat := fun k => if k < 53 then (k, 0)
  else if k < 61 then (53, k - 53)
  else if k < 77 then (54, k - 61)
  else if k < 93 then (55, k - 77)
  else if k < 109 then (56, k - 93)
  else if k < 125 then (57, k - 109)
  else if k < 141 then (58, k - 125)
  else if k < 157 then (59, k - 141)
  else if k < 286 then (60, k - 157)
  else if k < 415 then (61, k - 286)
  else (62, 0)
/-- what a slot of a class holds: 0 an int, 1 a long, 2 a reference -/
def zx_ft : Nat → Nat → Nat := fun c k => match c, k with
  | 0, 0 => 2
  | 0, 1 => 2
  | 0, 2 => 2
  | 0, 3 => 2
  | 0, 4 => 2
  | 1, 0 => 2
  | 1, 1 => 2
  | 1, 2 => 2
  | 1, 3 => 2
  | 1, 4 => 2
  | 2, 0 => 2
  | 2, 1 => 2
  | 2, 2 => 2
  | 2, 3 => 2
  | 3, 0 => 2
  | 3, 1 => 2
  | 4, 0 => 2
  | 4, 1 => 2
  | 4, 2 => 2
  | 5, 0 => 2
  | 5, 1 => 2
  | 5, 2 => 2
  | 5, 3 => 2
  | 6, 0 => 2
  | 6, 1 => 2
  | 6, 2 => 2
  | 6, 3 => 2
  | 6, 4 => 2
  | 6, 5 => 2
  | 6, 6 => 2
  | 6, 7 => 2
  | 6, 8 => 2
  | 6, 9 => 2
  | 7, 0 => 2
  | 7, 1 => 2
  | 9, 3 => 2
  | 9, 4 => 2
  | 9, 5 => 2
  | 9, 8 => 2
  | 9, 9 => 2
  | 10, 1 => 1
  | 10, 3 => 2
  | 10, 7 => 1
  | 11, 3 => 2
  | 11, 4 => 2
  | 11, 5 => 2
  | 11, 6 => 2
  | 11, 7 => 2
  | 11, 9 => 2
  | 11, 10 => 2
  | 11, 11 => 2
  | 11, 12 => 2
  | 11, 13 => 2
  | 11, 14 => 2
  | 11, 16 => 2
  | 11, 17 => 2
  | 11, 18 => 2
  | 11, 19 => 2
  | 11, 24 => 2
  | 11, 25 => 2
  | 11, 26 => 2
  | 11, 27 => 2
  | 11, 29 => 2
  | 11, 30 => 2
  | 11, 31 => 2
  | 11, 33 => 2
  | 11, 34 => 2
  | 11, 35 => 2
  | 11, 36 => 2
  | 11, 39 => 2
  | _, _ => 0
/-- where a reference leads: family and number -/
def zx_rf : Nat → Nat → Nat → Nat × Nat := fun F i j => match F, j with
  | 0, 0 => (1, 0)
  | 0, 1 => (11, 0)
  | 0, 2 => (7, 0)
  | 0, 3 => (16, 0)
  | 0, 4 => (17, 0)
  | 1, 0 => (2, i)
  | 1, 1 => (3, i)
  | 1, 2 => (4, i)
  | 1, 3 => (5, i)
  | 1, 4 => (6, i)
  | 7, 0 => (1, 0)
  | 7, 1 => (8, i)
  | 7, 2 => (9, i)
  | 7, 3 => (10, i)
  | 11, 0 => (12, i)
  | 11, 1 => (13, i)
  | 12, j => (53, j)
  | 13, j => (54, j)
  | 14, 0 => (1, 0)
  | 14, 1 => (11, 0)
  | 14, 2 => (15, i)
  | 16, 0 => (1, 0)
  | 16, 1 => (11, 0)
  | 16, 2 => (14, 0)
  | 16, 3 => (60, 128)
  | 17, 0 => (1, 0)
  | 17, 1 => (11, 0)
  | 17, 2 => (7, 0)
  | 17, 3 => (14, 0)
  | 17, 4 => (23, 0)
  | 17, 5 => (18, i)
  | 17, 6 => (19, i)
  | 17, 7 => (20, i)
  | 17, 8 => (21, i)
  | 17, 9 => (22, i)
  | 23, 0 => (1, 0)
  | 23, 1 => (7, 0)
  | 24, 3 => (25, i)
  | 24, 4 => (26, i)
  | 24, 5 => (27, i)
  | 24, 6 => (28, i)
  | 24, 7 => (29, i)
  | 24, 9 => (30, i)
  | 24, 10 => (31, i)
  | 24, 11 => (32, i)
  | 24, 12 => (33, i)
  | 24, 13 => (34, i)
  | 24, 14 => (35, i)
  | 24, 16 => (36, i)
  | 24, 17 => (37, i)
  | 24, 18 => (38, i)
  | 24, 19 => (39, i)
  | 24, 24 => (40, i)
  | 24, 25 => (41, i)
  | 24, 26 => (42, i)
  | 24, 27 => (43, i)
  | 24, 29 => (44, i)
  | 24, 30 => (45, i)
  | 24, 31 => (46, i)
  | 24, 33 => (47, i)
  | 24, 34 => (48, i)
  | 24, 35 => (49, i)
  | 24, 36 => (50, i)
  | 24, 39 => (51, i)
  | 54, 3 => (55, i)
  | 54, 4 => (56, i)
  | 54, 5 => (57, i)
  | 54, 8 => (58, i)
  | 54, 9 => (59, i)
  | 58, j => (60, 8 * i + j)
  | 60, 3 => (61, i)
  | _, _ => (0, 0)
/-! ===== a state in numbers, and the world that it stands for ===== -/
abbrev zx_H : Type := (Nat → Nat → Nat → Int32) × (Nat → Nat → Nat → Int64)
def zx_sI (h : zx_H) (F i j : Nat) (x : Int32) : zx_H := (fun a b c => if a = F ∧ b = i ∧ c = j then x else h.1 a b c, h.2)
def zx_sJ (h : zx_H) (F i j : Nat) (x : Int64) : zx_H := (h.1, fun a b c => if a = F ∧ b = i ∧ c = j then x else h.2 a b c)
/-- what is fixed over a run: class numbers and slots, array classes, addresses, where the law's own cells begin, addresses of constants -/
abbrev zx_K : Type := va_G × (Nat → ClassId) × (Nat → Nat) × Nat × (Nat → Nat)
def zx_kD (K : zx_K) : va_G := K.1
def zx_kc (K : zx_K) : Nat → ClassId := K.2.1
def zx_ad (K : zx_K) : Nat → Nat := K.2.2.1
def zx_n0 (K : zx_K) : Nat := K.2.2.2.1
def zx_xa (K : zx_K) : Nat → Nat := K.2.2.2.2
def zx_A (K : zx_K) : Nat → Prop := fun q => zx_n0 K ≤ q
def zx_pl (F i : Nat) : Nat := zx_off F + i
def zx_rV (K : zx_K) (F i : Nat) : Value := .ref (zx_ad K (zx_pl F i))
def zx_fv (K : zx_K) (h : zx_H) (F i c j : Nat) : Value := match zx_ft c j with
  | 0 => .int (h.1 F i j)
  | 1 => .long (h.2 F i j)
  | _ => zx_rV K (zx_rf F i j).1 (zx_rf F i j).2
def zx_cF (K : zx_K) (h : zx_H) (F i : Nat) : va_E := match zx_kd F with
  | (0, c, n) => .inr (c, (List.range n).map (fun j => zx_fv K h F i c j))
  | (1, _, n) => .inl (zx_kc K 0, n, .inl (fun j => h.1 F i j))
  | (2, _, n) => .inl (zx_kc K 1, n, .inr (.inl (fun j => h.2 F i j)))
  | (t, _, n) => .inl (zx_kc K (t - 1), n, .inr (.inr (.inr (.inr (fun j => some (zx_ad K (zx_pl (zx_rf F i j).1 (zx_rf F i j).2)))))))
def zx_cE (K : zx_K) (h : zx_H) (k : Nat) : va_E := zx_cF K h (zx_fam k).1 (zx_fam k).2
def zx_wd (K : zx_K) (h : zx_H) : va_W := (List.range zx_NP).map (fun k => (zx_ad K k, zx_cE K h k))
def zx_tys (K : zx_K) : List (ClassId × FieldType) := [(zx_kc K 0, .int), (zx_kc K 1, .long), (zx_kc K 2, .object "BeanLoom$Function"), (zx_kc K 3, .object "BeanLoom$Method"), (zx_kc K 4, .object "BeanLoom$Plan")]
set_option maxRecDepth 100000 in
theorem zx_fam_pl : ∀ F, F < zx_NF → ∀ i, i < zx_nF F → zx_pl F i < zx_NP ∧ zx_fam (zx_pl F i) = (F, i) := by decide +kernel
set_option maxRecDepth 100000 in
theorem zx_pl_fam : ∀ k, k < zx_NP → zx_pl (zx_fam k).1 (zx_fam k).2 = k ∧ (zx_fam k).1 < zx_NF ∧ (zx_fam k).2 < zx_nF (zx_fam k).1 := by decide +kernel
theorem zx_wd_k (K : zx_K) (h : zx_H) {k : Nat} (hk : k < zx_NP) : (zx_wd K h)[k]? = some (zx_ad K k, zx_cE K h k) := by
  unfold zx_wd
  rw [List.getElem?_map, List.getElem?_range hk]
  rfl
theorem zx_wd_out (K : zx_K) (h : zx_H) {k : Nat} (hk : zx_NP ≤ k) : (zx_wd K h)[k]? = none := by
  unfold zx_wd
  rw [List.getElem?_eq_none]
  rw [List.length_map, List.length_range]
  exact hk
theorem zx_wd_at (K : zx_K) (h : zx_H) {F i : Nat} (hF : F < zx_NF) (hi : i < zx_nF F) : (zx_wd K h)[zx_pl F i]? = some (zx_ad K (zx_pl F i), zx_cF K h F i) := by
  obtain ⟨h1, h2⟩ := zx_fam_pl F hF i hi
  rw [zx_wd_k K h h1]
  unfold zx_cE
  rw [h2]
theorem zx_wd_set {K : zx_K} {h h' : zx_H} {F i : Nat} {e : va_E} (hF : F < zx_NF) (hi : i < zx_nF F) (he : zx_cF K h' F i = e) (ho : ∀ F' i', (F', i') ≠ (F, i) → zx_cF K h' F' i' = zx_cF K h F' i') :
    (zx_wd K h).set (zx_pl F i) (zx_ad K (zx_pl F i), e) = zx_wd K h' := by
  obtain ⟨h1, h2⟩ := zx_fam_pl F hF i hi
  apply List.ext_getElem?
  intro k
  by_cases hk : k < zx_NP
  · rw [zx_wd_k K h' hk]
    by_cases hq : zx_pl F i = k
    · subst hq
      rw [List.getElem?_set_self (by unfold zx_wd; rw [List.length_map, List.length_range]; exact h1)]
      unfold zx_cE
      rw [h2, he]
    · rw [List.getElem?_set_ne hq, zx_wd_k K h hk]
      unfold zx_cE
      rw [ho _ _ (fun q => hq (by have h9 := (zx_pl_fam k hk).1; have q1 := congrArg Prod.fst q; have q2 := congrArg Prod.snd q; dsimp only at q1 q2; rw [q1, q2] at h9; exact h9))]
  · have hk := Nat.not_lt.mp hk
    rw [zx_wd_out K h' hk, List.getElem?_set_ne (fun q => absurd h1 (by omega)), zx_wd_out K h hk]
theorem zx_cF_sI {K : zx_K} {h : zx_H} {F i j : Nat} {x : Int32} (F' i' : Nat) (hne : (F', i') ≠ (F, i)) : zx_cF K (zx_sI h F i j x) F' i' = zx_cF K h F' i' := by
  have e1 : ∀ c, (zx_sI h F i j x).1 F' i' c = h.1 F' i' c := fun c => by
    show (if F' = F ∧ i' = i ∧ c = j then x else h.1 F' i' c) = _
    rw [if_neg]
    rintro ⟨a, b, -⟩
    exact hne (by rw [a, b])
  have e2 : ∀ c, (zx_sI h F i j x).2 F' i' c = h.2 F' i' c := fun c => rfl
  unfold zx_cF zx_fv
  simp only [e1, e2]
theorem zx_cF_sJ {K : zx_K} {h : zx_H} {F i j : Nat} {x : Int64} (F' i' : Nat) (hne : (F', i') ≠ (F, i)) : zx_cF K (zx_sJ h F i j x) F' i' = zx_cF K h F' i' := by
  have e1 : ∀ c, (zx_sJ h F i j x).2 F' i' c = h.2 F' i' c := fun c => by
    show (if F' = F ∧ i' = i ∧ c = j then x else h.2 F' i' c) = _
    rw [if_neg]
    rintro ⟨a, b, -⟩
    exact hne (by rw [a, b])
  have e2 : ∀ c, (zx_sJ h F i j x).1 F' i' c = h.1 F' i' c := fun c => rfl
  unfold zx_cF zx_fv
  simp only [e1, e2]
/-- of a family: what it is, out of the tables -/
def zx_isO (F c n : Nat) : Prop := F < zx_NF ∧ zx_kd F = (0, c, n)
def zx_isI (F n : Nat) : Prop := F < zx_NF ∧ ∃ c, zx_kd F = (1, c, n)
def zx_isJ (F n : Nat) : Prop := F < zx_NF ∧ ∃ c, zx_kd F = (2, c, n)
def zx_isR (F t n : Nat) : Prop := F < zx_NF ∧ ∃ c, zx_kd F = (t + 3, c, n)
theorem zx_cF_O {K : zx_K} {h : zx_H} {F c n i : Nat} (hF : zx_isO F c n) : zx_cF K h F i = .inr (c, (List.range n).map (fun j => zx_fv K h F i c j)) := by
  unfold zx_cF
  rw [hF.2]
  rfl
theorem zx_cF_I {K : zx_K} {h : zx_H} {F n i : Nat} (hF : zx_isI F n) : zx_cF K h F i = .inl (zx_kc K 0, n, .inl (fun j => h.1 F i j)) := by
  obtain ⟨-, c, e⟩ := hF
  unfold zx_cF
  rw [e]
  rfl
theorem zx_cF_J {K : zx_K} {h : zx_H} {F n i : Nat} (hF : zx_isJ F n) : zx_cF K h F i = .inl (zx_kc K 1, n, .inr (.inl (fun j => h.2 F i j))) := by
  obtain ⟨-, c, e⟩ := hF
  unfold zx_cF
  rw [e]
  rfl
theorem zx_cF_R {K : zx_K} {h : zx_H} {F t n i : Nat} (hF : zx_isR F t n) : zx_cF K h F i = .inl (zx_kc K (t + 2), n, .inr (.inr (.inr (.inr (fun j => some (zx_ad K (zx_pl (zx_rf F i j).1 (zx_rf F i j).2))))))) := by
  obtain ⟨-, c, e⟩ := hF
  unfold zx_cF
  rw [e]
  rfl
theorem zx_fs_at {K : zx_K} {h : zx_H} {F i c n j : Nat} (hj : j < n) : ((List.range n).map (fun j => zx_fv K h F i c j))[j]? = some (zx_fv K h F i c j) := by
  rw [List.getElem?_map, List.getElem?_range hj]; rfl
theorem zx_fs_sI {K : zx_K} {h : zx_H} {F i c n j : Nat} {x : Int32} (hj : j < n) (ht : zx_ft c j = 0) : (List.range n).map (fun q => zx_fv K (zx_sI h F i j x) F i c q) = ((List.range n).map (fun q => zx_fv K h F i c q)).set j (.int x) := by
  apply List.ext_getElem?
  intro k
  by_cases hk : k < n
  · rw [zx_fs_at hk]
    by_cases hq : j = k
    · subst hq
      rw [List.getElem?_set_self (by rw [List.length_map, List.length_range]; exact hj)]
      unfold zx_fv
      rw [ht]
      simp [zx_sI]
    · rw [List.getElem?_set_ne hq, zx_fs_at hk]
      have e : (zx_sI h F i j x).1 F i k = h.1 F i k := by
        show (if F = F ∧ i = i ∧ k = j then x else h.1 F i k) = _
        rw [if_neg (fun z => hq z.2.2.symm)]
      unfold zx_fv
      rw [e]
      rfl
  · rw [List.getElem?_eq_none (by rw [List.length_map, List.length_range]; omega), List.getElem?_eq_none (by rw [List.length_set, List.length_map, List.length_range]; omega)]
theorem zx_fs_sJ {K : zx_K} {h : zx_H} {F i c n j : Nat} {x : Int64} (hj : j < n) (ht : zx_ft c j = 1) : (List.range n).map (fun q => zx_fv K (zx_sJ h F i j x) F i c q) = ((List.range n).map (fun q => zx_fv K h F i c q)).set j (.long x) := by
  apply List.ext_getElem?
  intro k
  by_cases hk : k < n
  · rw [zx_fs_at hk]
    by_cases hq : j = k
    · subst hq
      rw [List.getElem?_set_self (by rw [List.length_map, List.length_range]; exact hj)]
      unfold zx_fv
      rw [ht]
      simp [zx_sJ]
    · rw [List.getElem?_set_ne hq, zx_fs_at hk]
      have e : (zx_sJ h F i j x).2 F i k = h.2 F i k := by
        show (if F = F ∧ i = i ∧ k = j then x else h.2 F i k) = _
        rw [if_neg (fun z => hq z.2.2.symm)]
      unfold zx_fv
      rw [e]
      rfl
  · rw [List.getElem?_eq_none (by rw [List.length_map, List.length_range]; omega), List.getElem?_eq_none (by rw [List.length_set, List.length_map, List.length_range]; omega)]
/-! ===== what stands beside the world and is never written ===== -/
def zx_least : Nat → Int64 := fun j => match j with
  | 0 => -128
  | 1 => -32768
  | 2 => 0
  | 3 => -2147483648
  | 4 => -9223372036854775808
  | _ => 0
def zx_most : Nat → Int64 := fun j => match j with
  | 0 => 127
  | 1 => 32767
  | 2 => 65535
  | 3 => 2147483647
  | 4 => 9223372036854775807
  | _ => 1
def zx_strs : List (String × Nat × String) := [("BeanLoom", 65, "not 1 to 8 different names"), ("BeanLoom", 76, "built, or no room for a type"), ("BeanLoom", 102, "no such bean, name or type, or the name is taken"), ("BeanLoom", 112, "built, no room for a property, or there are objects"), ("BeanLoom", 119, "no such type, or a primitive one"), ("BeanLoom", 127, "neither two beans nor two enums"), ("BeanLoom", 133, "built, or no room for a method"), ("BeanLoom", 141, "not from whole numbers to whole numbers"), ("BeanLoom", 146, "built, or no room for a function"), ("BeanLoom", 156, "no such method or kind"), ("BeanLoom", 167, "built, or no room for a rule"), ("BeanLoom", 173, "built already"), ("BeanLoom", 181, "there is a diagnosis"), ("BeanLoom", 202, "a type without objects, or no value of the box"), ("BeanLoom", 205, "no room for an object"), ("BeanLoom", 246, "no such method, or no value of its first type"), ("BeanLoom", 248, "not built"), ("BeanLoom", 263, "something fails, or too many objects"), ("BeanLoom", 268, "no such object or place"), ("BeanLoom", 278, "no such object or what")]
def zx_S0 (K : zx_K) (U : State) : Prop :=
  va_Z "BeanLoom$Basics" "LEAST" "[J" (.ref (zx_xa K 0)) (zx_A K) U U.heap ∧ va_Z "BeanLoom$Basics" "MOST" "[J" (.ref (zx_xa K 1)) (zx_A K) U U.heap ∧
  va_T .long (zx_xa K 0) 6 (fun j => .long (zx_least j)) (zx_A K) U U.heap ∧ va_T .long (zx_xa K 1) 6 (fun j => .long (zx_most j)) (zx_A K) U U.heap ∧
  vx_Zq Bundle.tN "UNASSIGNED_STACK" Bundle.steD (zx_A K) U U.heap ∧ vx_Zq Bundle.tN "SUPPRESSED_SENTINEL" Bundle.listD (zx_A K) U U.heap ∧
  va_Z "java/lang/String" "COMPACT_STRINGS" "Z" (.int 1) (zx_A K) U U.heap ∧
  vk_S 2 [4, 5] [[116, 114, 117, 101], [102, 97, 108, 115, 101]] (fun i => zx_xa K (i + 2)) (fun i => zx_xa K (i + 4)) (zx_A K) U U.heap ∧
  (vk_R "BeanLoom$Converter" 136 "true" (zx_xa K 2) U ∧ vk_R "BeanLoom$Converter" 138 "false" (zx_xa K 3) U) ∧ ∀ q ∈ zx_strs, ∃ a, vk_R q.1 q.2.1 q.2.2 a U
theorem zx_S0_warm {K : zx_K} {s U : State} (hW : s.WarmedH U.vm) (hq : ∀ q : Nat, q < s.heap.size → ¬ zx_A K q → U.heap[q]? = s.heap[q]?) (h : zx_S0 K s) : zx_S0 K U := by
  obtain ⟨h1, h2, h3, h4, h5, h6, h7, h8, ⟨h9, h10⟩, h11⟩ := h
  have hv := hW.alike
  exact ⟨(va_Z.moved hv h1).kept hq, (va_Z.moved hv h2).kept hq, (va_T.moved hv h3).kept hq, (va_T.moved hv h4).kept hq, (vx_Zq.moved hv h5).kept hq, (vx_Zq.moved hv h6).kept hq, (va_Z.moved hv h7).kept hq, (vk_S.moved hv h8).kept hq, ⟨vk_R.warm hW h9, vk_R.warm hW h10⟩, fun q hm => by obtain ⟨a, ha⟩ := h11 q hm; exact ⟨a, vk_R.warm hW ha⟩⟩
theorem zx_S0_same {K : zx_K} {s U : State} (hv : U.vm = s.vm) (hh : U.heap = s.heap) (h : zx_S0 K s) : zx_S0 K U := by
  obtain ⟨h1, h2, h3, h4, h5, h6, h7, h8, ⟨h9, h10⟩, h11⟩ := h
  have ha : s.vm.Alike U.vm := by rw [hv]; exact Vm.Alike.refl _
  have hq : ∀ q : Nat, q < s.heap.size → ¬ zx_A K q → U.heap[q]? = s.heap[q]? := fun q _ _ => by rw [hh]
  exact ⟨(va_Z.moved ha h1).kept hq, (va_Z.moved ha h2).kept hq, (va_T.moved ha h3).kept hq, (va_T.moved ha h4).kept hq, (vx_Zq.moved ha h5).kept hq, (vx_Zq.moved ha h6).kept hq, (va_Z.moved ha h7).kept hq, (vk_S.moved ha h8).kept hq, ⟨vk_R.same hv h9, vk_R.same hv h10⟩, fun q hm => by obtain ⟨a, ha⟩ := h11 q hm; exact ⟨a, vk_R.same hv ha⟩⟩
/-- words that want a law of their own to be carried -/
def zx_nw (w : Cond) : Bool := match w with
  | .declares _ => true
  | .castable .. => true
  | .methodLinkNest .. => true
  | _ => false
def zx_N : List Cond := tables_1.filter zx_nw
theorem zx_Nt (i : Nat) {w : Cond} (h1 : tables_1[i]? = some w) (h2 : zx_nw w = true) : w ∈ zx_N := List.mem_filter.mpr ⟨List.mem_of_getElem? h1, h2⟩
def zx_ex : List String := ["java/lang/IllegalArgumentException", "java/lang/IllegalStateException", "java/lang/IndexOutOfBoundsException", "java/lang/UnsupportedOperationException"]
def zx_S1 (K : zx_K) (U : State) : Prop := (∀ w ∈ zx_N, va_Nw w U) ∧ (∀ C ∈ ["BeanLoom$Function", "BeanLoom$Method", "BeanLoom$Plan"], va_AO C U) ∧ (∀ x ∈ zx_ex, ∀ y ∈ zx_ex, x ≠ y → va_Nc x y U) ∧ va_Zq "jdk/internal/util/Preconditions" "SIOOBE_FORMATTER" "Ljava/util/function/BiFunction;" (zx_A K) U U.heap
theorem zx_S1_warm {K : zx_K} {s U : State} (hW : s.WarmedH U.vm) (hq : ∀ q : Nat, q < s.heap.size → ¬ zx_A K q → U.heap[q]? = s.heap[q]?) (h : zx_S1 K s) : zx_S1 K U := by
  obtain ⟨h1, h2, h3, h4⟩ := h
  refine ⟨fun w hw => ?_, fun C hC => va_AO.moved hW.alike (h2 C hC), fun x hx y hy hn => va_Nc.moved hW.alike (h3 x hx y hy hn), (va_Zq.moved hW.alike h4).kept hq⟩
  have hn := (List.mem_filter.mp hw).2
  have h0 := h1 w hw
  cases w <;> first | exact va_Nw.warmD hW h0 | exact va_Nw.warmC hW h0 | exact va_Nw.warmM hW h0 | cases hn
theorem zx_S1_same {K : zx_K} {s U : State} (hv : U.vm = s.vm) (hh : U.heap = s.heap) (h : zx_S1 K s) : zx_S1 K U := by
  obtain ⟨h1, h2, h3, h4⟩ := h
  have ha : s.vm.Alike U.vm := by rw [hv]; exact Vm.Alike.refl _
  refine ⟨fun w hw => ?_, fun C hC => va_AO.moved ha (h2 C hC), fun x hx y hy hn => va_Nc.moved ha (h3 x hx y hy hn), (va_Zq.moved ha h4).kept (fun q _ _ => by rw [hh])⟩
  have hn := (List.mem_filter.mp hw).2
  refine va_Nw.same ?_ hv.symm (h1 w hw)
  cases w <;> first | rfl | cases hn
def zx_S (K : zx_K) (U : State) : Prop := zx_S0 K U ∧ zx_S1 K U
theorem zx_S_warm {K : zx_K} {s U : State} (hW : s.WarmedH U.vm) (hq : ∀ q : Nat, q < s.heap.size → ¬ zx_A K q → U.heap[q]? = s.heap[q]?) (h : zx_S K s) : zx_S K U := ⟨zx_S0_warm hW hq h.1, zx_S1_warm hW hq h.2⟩
theorem zx_S_same {K : zx_K} {s U : State} (hv : U.vm = s.vm) (hh : U.heap = s.heap) (h : zx_S K s) : zx_S K U := ⟨zx_S0_same hv hh h.1, zx_S1_same hv hh h.2⟩
def zx_ok (K : zx_K) : Prop := (∀ i j, i < zx_NP → j < zx_NP → zx_ad K i = zx_ad K j → i = j) ∧ ∀ i, i < zx_NP → zx_n0 K ≤ zx_ad K i
theorem zx_wd_D {K : zx_K} (h : zx_ok K) (z : zx_H) : va_D (zx_A K) (zx_wd K z) := by
  refine ⟨fun i j p q hp hq e => ?_, fun k q hq => ?_⟩
  · by_cases hi : i < zx_NP
    · by_cases hj : j < zx_NP
      · rw [zx_wd_k K z hi] at hp
        rw [zx_wd_k K z hj] at hq
        cases hp
        cases hq
        exact h.1 i j hi hj e
      · rw [zx_wd_out K z (Nat.not_lt.mp hj)] at hq
        cases hq
    · rw [zx_wd_out K z (Nat.not_lt.mp hi)] at hp
      cases hp
  · by_cases hk : k < zx_NP
    · rw [zx_wd_k K z hk] at hq
      cases hq
      exact h.2 k hk
    · rw [zx_wd_out K z (Nat.not_lt.mp hk)] at hq
      cases hq
/-- the world of a state in numbers -/
def zx_I (K : zx_K) (h : zx_H) (U : State) : Prop := zx_ok K ∧ zx_n0 K ≤ U.heap.size ∧ va_P (zx_kD K) zx_cl (zx_wd K h) U.heap ∧ va_K (zx_kD K) zx_cl (zx_tys K) U ∧ zx_S K U
theorem zx_I_same {K : zx_K} {h : zx_H} {s U : State} (hv : U.vm = s.vm) (hh : U.heap = s.heap) (H : zx_I K h s) : zx_I K h U := by
  obtain ⟨h1, h2, h3, h4, h5⟩ := H
  exact ⟨h1, by rw [hh]; exact h2, by rw [hh]; exact h3, va_K.moved (by rw [hv]; exact Vm.Alike.refl _) h4, zx_S_same hv hh h5⟩
def zx_Q (K : zx_K) (v : Option Value) (h : zx_H) : Array Value → State → Outcome → State → Prop := fun _ st oc t => oc = .returned v ∧ zx_I K h t ∧ va_F (zx_A K) st t
/-- of a method: its code, locals, class, what it returns, its room -/
abbrev zx_M : Type := ByteArray × Nat × String × Option FieldType × Room
abbrev zx_B : Type := Program × Launch × Env × State × MethodId × Array Value × List Frame × Method × Code × zx_K
/-- a method that returns: from the world h with these arguments, v and the world h' -/
def zx_MR (l : Launch) (M : zx_M) (y : MethodName) (K : zx_K) (as : List Value) (h : zx_H) (v : Option Value) (h' : zx_H) : Prop :=
  Met l y (Cond.code y M.1 M.2.1 M.2.2.2.1 :: zx_G) M.2.2.2.2 (va_Pc as (zx_I K h)) (zx_Q K v h') 0 0 (zx_A K)
/-- the body of a method stands: machine, code, words, what is fixed -/
def zx_E (B : zx_B) (M : zx_M) : Prop := match B, M with
  | (p, _, _, s, m, args, _, meth, c, K), (cc, nL, own, ret, _) => p.tables.exec = Jvm.exec ∧ c.code = cc ∧ c.maxLocals = nL ∧ s.vm.findClass own = some m.cls ∧ (∀ w ∈ zx_G, w.before args s = true) ∧ meth.sig.returnType = ret ∧ meth.locks = false ∧ zx_ok K ∧ zx_n0 K ≤ s.heap.size ∧ va_K (zx_kD K) zx_cl (zx_tys K) s ∧ zx_S K s
/-- from pc, with these locals, this stack and this world, the machine comes to the end that the meaning 'sem' has -/
def zx_X (B : zx_B) (M : zx_M) {α : Type} (Qf : α → State → Prop) (sem : Option α) (ck cn : Nat) (pc : Nat) (lv : List (Nat × Value)) (st : List Value) (h : zx_H) : Prop := match B, M with
  | (p, l, e, s, m, args, below, meth, c, K), (_, nL, _, _, R) => ∀ a, sem = some a → ∀ (H : Heap) (locs : List Loc) (ls : Array Slot), va_P (zx_kD K) zx_cl (zx_wd K h) H → va_S (zx_A K) s.heap H locs → lv_has ls nL lv → W p l e R s m args below meth c H locs ck cn (Qf a) (F0 m pc ls st)
def zx_bnd {α β : Type} (x : α) (k : α → β) : β := k x
def zx_b (x : Bool) : Int32 := cond x 1 0
def zx_asB (x : Int32) : Option Bool := if x = 0 then some false else if x = 1 then some true else none
def zx_in (i : Int32) (n : Nat) : Bool := !(decide (i < 0)) && decide (i.toNatClampNeg < n)
theorem zx_in_lt {i : Int32} {n : Nat} (h : zx_in i n = true) : i.toNatClampNeg < n := by
  unfold zx_in at h
  simp only [Bool.and_eq_true, decide_eq_true_eq] at h
  exact h.2
theorem zx_in_vp {i : Int32} {n : Nat} (h : zx_in i n = true) : vp_in i n := by
  have h1 := zx_in_lt h
  unfold zx_in at h
  simp only [Bool.and_eq_true, Bool.not_eq_true', decide_eq_false_iff_not] at h
  exact fun q => q.elim h.1 (fun z => absurd h1 (Nat.not_lt.mpr z))
def zx_fin (n : Nat) (x : Int32) : Option (Fin n) := if h : zx_in x n = true then some ⟨x.toNatClampNeg, zx_in_lt h⟩ else none
def zx_pp (i : Fin 16) (j : Fin 8) : Fin 129 := ⟨8 * i.val + j.val, by omega⟩
def zx_trial : Fin 129 := 128
def zx_clushr (x : Int64) (y : Int32) : Int64 := (x.toUInt64 >>> (y.toInt64.toUInt64 &&& Int64.toUInt64 63)).toInt64
def zx_clshl (x : Int64) (y : Int32) : Int64 := x <<< (y.toInt64 &&& 63)
def zx_clshr (x : Int64) (y : Int32) : Int64 := x >>> (y.toInt64 &&& 63)
def zx_ci2c (x : Int32) : Int32 := (x.toUInt32 % 65536).toInt32
def zx_loop {τ : Type} (bot : τ) (body : τ → τ) (n : Nat) : τ := Nat.rec bot (fun _ ih => body ih) n
def zx_fuel : Nat := 10000
def zx_chain {α : Type} (x : Int32) : List (Int32 × Option α) → Option α → Option α
  | [], D => D
  | (k, A) :: r, D => if x = k then A else zx_chain x r D
def zx_max (x y : Int64) : Int64 := if y < x then x else y
def zx_min (x y : Int64) : Int64 := if y < x then y else x

