/-! families, words, fields, calls (printed by gen.py) -/
theorem zx_kdn (ci N : Nat) (h0 : ∀ F, F < zx_NF → (zx_kd F).1 = 0 → (zx_kd F).2.1 = ci → (zx_kd F).2.2 = N) : ∀ F n9, zx_isO F ci n9 → n9 = N := fun F n9 h => by
  have h1 := h0 F h.1 (by rw [h.2]) (by rw [h.2])
  rw [h.2] at h1
  exact h1
theorem zg_0 : zx_isO 0 0 6 := ⟨by decide, rfl⟩
theorem zg_1 : zx_isO 1 1 6 := ⟨by decide, rfl⟩
theorem zg_2 : zx_isI 2 40 := ⟨by decide, _, rfl⟩
theorem zg_3 : zx_isI 3 40 := ⟨by decide, _, rfl⟩
theorem zg_4 : zx_isI 4 40 := ⟨by decide, _, rfl⟩
theorem zg_5 : zx_isI 5 320 := ⟨by decide, _, rfl⟩
theorem zg_6 : zx_isI 6 320 := ⟨by decide, _, rfl⟩
theorem zg_7 : zx_isO 7 2 5 := ⟨by decide, rfl⟩
theorem zg_8 : zx_isI 8 400 := ⟨by decide, _, rfl⟩
theorem zg_9 : zx_isI 9 400 := ⟨by decide, _, rfl⟩
theorem zg_10 : zx_isJ 10 9600 := ⟨by decide, _, rfl⟩
theorem zg_11 : zx_isO 11 3 4 := ⟨by decide, rfl⟩
theorem zg_14 : zx_isO 14 4 3 := ⟨by decide, rfl⟩
theorem zg_15 : zx_isI 15 1600 := ⟨by decide, _, rfl⟩
theorem zg_16 : zx_isO 16 5 7 := ⟨by decide, rfl⟩
theorem zg_17 : zx_isO 17 6 11 := ⟨by decide, rfl⟩
theorem zg_18 : zx_isI 18 6400 := ⟨by decide, _, rfl⟩
theorem zg_19 : zx_isI 19 400 := ⟨by decide, _, rfl⟩
theorem zg_20 : zx_isI 20 400 := ⟨by decide, _, rfl⟩
theorem zg_21 : zx_isI 21 400 := ⟨by decide, _, rfl⟩
theorem zg_22 : zx_isI 22 400 := ⟨by decide, _, rfl⟩
theorem zg_23 : zx_isO 23 7 3 := ⟨by decide, rfl⟩
theorem zg_24 : zx_isO 24 11 40 := ⟨by decide, rfl⟩
theorem zg_25 : zx_isI 25 40 := ⟨by decide, _, rfl⟩
theorem zg_26 : zx_isI 26 40 := ⟨by decide, _, rfl⟩
theorem zg_27 : zx_isI 27 320 := ⟨by decide, _, rfl⟩
theorem zg_28 : zx_isI 28 320 := ⟨by decide, _, rfl⟩
theorem zg_29 : zx_isI 29 40 := ⟨by decide, _, rfl⟩
theorem zg_30 : zx_isI 30 16 := ⟨by decide, _, rfl⟩
theorem zg_31 : zx_isI 31 16 := ⟨by decide, _, rfl⟩
theorem zg_32 : zx_isI 32 16 := ⟨by decide, _, rfl⟩
theorem zg_33 : zx_isI 33 384 := ⟨by decide, _, rfl⟩
theorem zg_34 : zx_isI 34 384 := ⟨by decide, _, rfl⟩
theorem zg_35 : zx_isJ 35 384 := ⟨by decide, _, rfl⟩
theorem zg_36 : zx_isI 36 8 := ⟨by decide, _, rfl⟩
theorem zg_37 : zx_isI 37 8 := ⟨by decide, _, rfl⟩
theorem zg_38 : zx_isI 38 8 := ⟨by decide, _, rfl⟩
theorem zg_39 : zx_isI 39 8 := ⟨by decide, _, rfl⟩
theorem zg_40 : zx_isI 40 400 := ⟨by decide, _, rfl⟩
theorem zg_41 : zx_isI 41 400 := ⟨by decide, _, rfl⟩
theorem zg_42 : zx_isJ 42 6400 := ⟨by decide, _, rfl⟩
theorem zg_43 : zx_isI 43 9600 := ⟨by decide, _, rfl⟩
theorem zg_44 : zx_isI 44 400 := ⟨by decide, _, rfl⟩
theorem zg_45 : zx_isI 45 400 := ⟨by decide, _, rfl⟩
theorem zg_46 : zx_isI 46 400 := ⟨by decide, _, rfl⟩
theorem zg_47 : zx_isI 47 802 := ⟨by decide, _, rfl⟩
theorem zg_48 : zx_isI 48 802 := ⟨by decide, _, rfl⟩
theorem zg_49 : zx_isI 49 802 := ⟨by decide, _, rfl⟩
theorem zg_50 : zx_isI 50 802 := ⟨by decide, _, rfl⟩
theorem zg_51 : zx_isI 51 24 := ⟨by decide, _, rfl⟩
theorem zg_52 : zx_isJ 52 1 := ⟨by decide, _, rfl⟩
theorem zg_53 : zx_isO 53 8 5 := ⟨by decide, rfl⟩
theorem zg_54 : zx_isO 54 9 10 := ⟨by decide, rfl⟩
theorem zg_55 : zx_isI 55 24 := ⟨by decide, _, rfl⟩
theorem zg_56 : zx_isI 56 24 := ⟨by decide, _, rfl⟩
theorem zg_57 : zx_isJ 57 24 := ⟨by decide, _, rfl⟩
theorem zg_59 : zx_isI 59 8 := ⟨by decide, _, rfl⟩
theorem zg_60 : zx_isO 60 10 9 := ⟨by decide, rfl⟩
theorem zg_61 : zx_isI 61 3 := ⟨by decide, _, rfl⟩
theorem zx_keys {α : Type} (cs : List (Int32 × Option α)) (lo : Int) (ks : List Int32) (hk : cs.map Prod.fst = ks) (h0 : ks.zipIdx.all (fun q => decide (q.1.toInt = lo + (q.2 : Int))) = true) : ∀ (i : Nat) (q : Int32 × Option α), cs[i]? = some q → q.1.toInt = lo + (i : Int) := by
  intro i q hq
  subst hk
  have h1 := List.all_eq_true.mp h0 (q.1, i) (List.mem_zipIdx_iff_getElem?.mpr (by simp [hq]))
  simpa using h1
def zx_si (b : Bool) : Nat := cond b 2 3
theorem zw_358 : (Jvm.Cond.fieldLink "BeanLoom" (42 : Nat) "BeanLoom" "planner" "LBeanLoom$Planner;") ∈ zx_G := zx_Gt 358 (by decide +kernel) rfl
theorem zw_278 : (Jvm.Cond.fieldLink "BeanLoom" (178 : Nat) "BeanLoom$Planner" "fault" "I") ∈ zx_G := zx_Gt 278 (by decide +kernel) rfl
theorem zw_280 : (Jvm.Cond.fieldLink "BeanLoom" (183 : Nat) "BeanLoom$Planner" "faultMethod" "I") ∈ zx_G := zx_Gt 280 (by decide +kernel) rfl
theorem zw_282 : (Jvm.Cond.fieldLink "BeanLoom" (186 : Nat) "BeanLoom$Planner" "faultPlace" "I") ∈ zx_G := zx_Gt 282 (by decide +kernel) rfl
theorem zw_237 : (Jvm.Cond.fieldLink "BeanLoom$Store" (26 : Nat) "BeanLoom$Store" "size" "I") ∈ zx_G := zx_Gt 237 (by decide +kernel) rfl
theorem zw_234 : (Jvm.Cond.fieldLink "BeanLoom$Store" (9 : Nat) "BeanLoom$Store" "objectTypes" "[I") ∈ zx_G := zx_Gt 234 (by decide +kernel) rfl
theorem zw_46 : (Jvm.Cond.fieldLink "BeanLoom$Types" (27 : Nat) "BeanLoom$Types" "size" "I") ∈ zx_G := zx_Gt 46 (by decide +kernel) rfl
theorem zw_41 : (Jvm.Cond.fieldLink "BeanLoom$Types" (9 : Nat) "BeanLoom$Types" "forms" "[I") ∈ zx_G := zx_Gt 41 (by decide +kernel) rfl
theorem zw_235 : (Jvm.Cond.fieldLink "BeanLoom$Store" (15 : Nat) "BeanLoom$Store" "lengths" "[I") ∈ zx_G := zx_Gt 235 (by decide +kernel) rfl
theorem zw_43 : (Jvm.Cond.fieldLink "BeanLoom$Types" (18 : Nat) "BeanLoom$Types" "memberCounts" "[I") ∈ zx_G := zx_Gt 43 (by decide +kernel) rfl
theorem zw_45 : (Jvm.Cond.fieldLink "BeanLoom$Types" (24 : Nat) "BeanLoom$Types" "memberTypes" "[I") ∈ zx_G := zx_Gt 45 (by decide +kernel) rfl
theorem zw_408 : (Jvm.Cond.constantLong "BeanLoom$Basics" (13 : Nat) (9223372036854775807 : Int64)) ∈ zx_G := zx_Gt 408 (by decide +kernel) rfl
theorem zw_409 : (Jvm.Cond.constantLong "BeanLoom$Basics" (15 : Nat) (9218868437227405312 : Int64)) ∈ zx_G := zx_Gt 409 (by decide +kernel) rfl
theorem zw_410 : (Jvm.Cond.fieldLink "BeanLoom$Basics" (17 : Nat) "BeanLoom$Basics" "LEAST" "[J") ∈ zx_G := zx_Gt 410 (by decide +kernel) rfl
theorem zw_412 : (Jvm.Cond.fieldLink "BeanLoom$Basics" (21 : Nat) "BeanLoom$Basics" "MOST" "[J") ∈ zx_G := zx_Gt 412 (by decide +kernel) rfl
theorem zw_414 : (Jvm.Cond.constantLong "BeanLoom$Store" (62 : Nat) (-1 : Int64)) ∈ zx_G := zx_Gt 414 (by decide +kernel) rfl
theorem zw_233 : (Jvm.Cond.fieldLink "BeanLoom$Store" (22 : Nat) "BeanLoom$Store" "types" "LBeanLoom$Types;") ∈ zx_G := zx_Gt 233 (by decide +kernel) rfl
theorem zw_236 : (Jvm.Cond.fieldLink "BeanLoom$Store" (18 : Nat) "BeanLoom$Store" "cells" "[J") ∈ zx_G := zx_Gt 236 (by decide +kernel) rfl
theorem zw_42 : (Jvm.Cond.fieldLink "BeanLoom$Types" (15 : Nat) "BeanLoom$Types" "elements" "[I") ∈ zx_G := zx_Gt 42 (by decide +kernel) rfl
theorem zw_357 : (Jvm.Cond.fieldLink "BeanLoom" (28 : Nat) "BeanLoom" "store" "LBeanLoom$Store;") ∈ zx_G := zx_Gt 357 (by decide +kernel) rfl
theorem zw_355 : (Jvm.Cond.fieldLink "BeanLoom" (10 : Nat) "BeanLoom" "types" "LBeanLoom$Types;") ∈ zx_G := zx_Gt 355 (by decide +kernel) rfl
theorem zw_356 : (Jvm.Cond.fieldLink "BeanLoom" (19 : Nat) "BeanLoom" "model" "LBeanLoom$Model;") ∈ zx_G := zx_Gt 356 (by decide +kernel) rfl
theorem zw_217 : (Jvm.Cond.fieldLink "BeanLoom" (129 : Nat) "BeanLoom$Model" "methodCount" "I") ∈ zx_G := zx_Gt 217 (by decide +kernel) rfl
theorem zw_213 : (Jvm.Cond.fieldLink "BeanLoom" (143 : Nat) "BeanLoom$Model" "functionCount" "I") ∈ zx_G := zx_Gt 213 (by decide +kernel) rfl
theorem zw_360 : (Jvm.Cond.fieldLink "BeanLoom" (55 : Nat) "BeanLoom" "built" "Z") ∈ zx_G := zx_Gt 360 (by decide +kernel) rfl
theorem zw_1107 : (Jvm.Cond.fieldLink "BeanLoomModel" (102 : Nat) "BeanLoomModel" "thrown" "I") ∈ zx_G := zx_Gt 1107 (by decide +kernel) rfl
theorem zw_1109 : (Jvm.Cond.fieldLink "BeanLoomModel" (7 : Nat) "BeanLoomModel" "types" "I") ∈ zx_G := zx_Gt 1109 (by decide +kernel) rfl
theorem zw_1110 : (Jvm.Cond.fieldLink "BeanLoomModel" (13 : Nat) "BeanLoomModel" "sort" "[I") ∈ zx_G := zx_Gt 1110 (by decide +kernel) rfl
theorem zw_1111 : (Jvm.Cond.fieldLink "BeanLoomModel" (17 : Nat) "BeanLoomModel" "size" "[I") ∈ zx_G := zx_Gt 1111 (by decide +kernel) rfl
theorem zw_1240 : (Jvm.Cond.constantLong "BeanLoomModel" (113 : Nat) (255 : Int64)) ∈ zx_G := zx_Gt 1240 (by decide +kernel) rfl
theorem zw_1108 : (Jvm.Cond.fieldLink "BeanLoomModel" (118 : Nat) "BeanLoomModel" "built" "Z") ∈ zx_G := zx_Gt 1108 (by decide +kernel) rfl
theorem zw_1112 : (Jvm.Cond.fieldLink "BeanLoomModel" (20 : Nat) "BeanLoomModel" "names" "[I") ∈ zx_G := zx_Gt 1112 (by decide +kernel) rfl
theorem zw_1130 : (Jvm.Cond.fieldLink "BeanLoomModel" (133 : Nat) "BeanLoomModel" "objects" "I") ∈ zx_G := zx_Gt 1130 (by decide +kernel) rfl
theorem zw_1113 : (Jvm.Cond.fieldLink "BeanLoomModel" (23 : Nat) "BeanLoomModel" "propertyTypes" "[I") ∈ zx_G := zx_Gt 1113 (by decide +kernel) rfl
theorem zw_1114 : (Jvm.Cond.fieldLink "BeanLoomModel" (26 : Nat) "BeanLoomModel" "of" "[I") ∈ zx_G := zx_Gt 1114 (by decide +kernel) rfl
theorem zw_1115 : (Jvm.Cond.fieldLink "BeanLoomModel" (136 : Nat) "BeanLoomModel" "methods" "I") ∈ zx_G := zx_Gt 1115 (by decide +kernel) rfl
theorem zw_1116 : (Jvm.Cond.fieldLink "BeanLoomModel" (29 : Nat) "BeanLoomModel" "methodFrom" "[I") ∈ zx_G := zx_Gt 1116 (by decide +kernel) rfl
theorem zw_1117 : (Jvm.Cond.fieldLink "BeanLoomModel" (32 : Nat) "BeanLoomModel" "methodTo" "[I") ∈ zx_G := zx_Gt 1117 (by decide +kernel) rfl
theorem zw_1122 : (Jvm.Cond.fieldLink "BeanLoomModel" (145 : Nat) "BeanLoomModel" "functions" "I") ∈ zx_G := zx_Gt 1122 (by decide +kernel) rfl
theorem zw_1123 : (Jvm.Cond.fieldLink "BeanLoomModel" (48 : Nat) "BeanLoomModel" "functionFrom" "[I") ∈ zx_G := zx_Gt 1123 (by decide +kernel) rfl
theorem zw_1124 : (Jvm.Cond.fieldLink "BeanLoomModel" (51 : Nat) "BeanLoomModel" "functionTo" "[I") ∈ zx_G := zx_Gt 1124 (by decide +kernel) rfl
theorem zw_1125 : (Jvm.Cond.fieldLink "BeanLoomModel" (54 : Nat) "BeanLoomModel" "factor" "[I") ∈ zx_G := zx_Gt 1125 (by decide +kernel) rfl
theorem zw_1126 : (Jvm.Cond.fieldLink "BeanLoomModel" (57 : Nat) "BeanLoomModel" "addend" "[I") ∈ zx_G := zx_Gt 1126 (by decide +kernel) rfl
theorem zw_1118 : (Jvm.Cond.fieldLink "BeanLoomModel" (35 : Nat) "BeanLoomModel" "ruleCount" "[I") ∈ zx_G := zx_Gt 1118 (by decide +kernel) rfl
theorem zw_1119 : (Jvm.Cond.fieldLink "BeanLoomModel" (38 : Nat) "BeanLoomModel" "kinds" "[I") ∈ zx_G := zx_Gt 1119 (by decide +kernel) rfl
theorem zw_1120 : (Jvm.Cond.fieldLink "BeanLoomModel" (41 : Nat) "BeanLoomModel" "targets" "[I") ∈ zx_G := zx_Gt 1120 (by decide +kernel) rfl
theorem zw_1121 : (Jvm.Cond.fieldLink "BeanLoomModel" (44 : Nat) "BeanLoomModel" "whats" "[J") ∈ zx_G := zx_Gt 1121 (by decide +kernel) rfl
theorem zw_1322 : (Jvm.Cond.constantLong "BeanLoomModel" (166 : Nat) (-1 : Int64)) ∈ zx_G := zx_Gt 1322 (by decide +kernel) rfl
theorem zw_1323 : (Jvm.Cond.constantLong "BeanLoomModel" (168 : Nat) (-2 : Int64)) ∈ zx_G := zx_Gt 1323 (by decide +kernel) rfl
theorem zw_1127 : (Jvm.Cond.fieldLink "BeanLoomModel" (183 : Nat) "BeanLoomModel" "diagnosis" "I") ∈ zx_G := zx_Gt 1127 (by decide +kernel) rfl
theorem zw_1128 : (Jvm.Cond.fieldLink "BeanLoomModel" (60 : Nat) "BeanLoomModel" "faultyMethod" "I") ∈ zx_G := zx_Gt 1128 (by decide +kernel) rfl
theorem zw_1129 : (Jvm.Cond.fieldLink "BeanLoomModel" (63 : Nat) "BeanLoomModel" "faultyPlace" "I") ∈ zx_G := zx_Gt 1129 (by decide +kernel) rfl
theorem zw_1321 : (Jvm.Cond.constantLong "BeanLoomModel" (190 : Nat) (64 : Int64)) ∈ zx_G := zx_Gt 1321 (by decide +kernel) rfl
theorem zw_1383 : (Jvm.Cond.constantLong "BeanLoomModel" (220 : Nat) (9223372036854775807 : Int64)) ∈ zx_G := zx_Gt 1383 (by decide +kernel) rfl
theorem zw_1384 : (Jvm.Cond.constantLong "BeanLoomModel" (222 : Nat) (9218868437227405312 : Int64)) ∈ zx_G := zx_Gt 1384 (by decide +kernel) rfl
theorem zw_1131 : (Jvm.Cond.fieldLink "BeanLoomModel" (66 : Nat) "BeanLoomModel" "type" "[I") ∈ zx_G := zx_Gt 1131 (by decide +kernel) rfl
theorem zw_1144 : (Jvm.Cond.fieldLink "BeanLoomModel" (228 : Nat) "BeanLoomModel" "failed" "Z") ∈ zx_G := zx_Gt 1144 (by decide +kernel) rfl
theorem zw_1132 : (Jvm.Cond.fieldLink "BeanLoomModel" (69 : Nat) "BeanLoomModel" "count" "[I") ∈ zx_G := zx_Gt 1132 (by decide +kernel) rfl
theorem zw_1133 : (Jvm.Cond.fieldLink "BeanLoomModel" (72 : Nat) "BeanLoomModel" "values" "[J") ∈ zx_G := zx_Gt 1133 (by decide +kernel) rfl
theorem zw_1134 : (Jvm.Cond.fieldLink "BeanLoomModel" (75 : Nat) "BeanLoomModel" "characters" "[I") ∈ zx_G := zx_Gt 1134 (by decide +kernel) rfl
theorem zw_1442 : (Jvm.Cond.constantLong "BeanLoomModel" (245 : Nat) (2047 : Int64)) ∈ zx_G := zx_Gt 1442 (by decide +kernel) rfl
theorem zw_1443 : (Jvm.Cond.constantLong "BeanLoomModel" (247 : Nat) (1024 : Int64)) ∈ zx_G := zx_Gt 1443 (by decide +kernel) rfl
theorem zw_1444 : (Jvm.Cond.constantLong "BeanLoomModel" (249 : Nat) (4503599627370496 : Int64)) ∈ zx_G := zx_Gt 1444 (by decide +kernel) rfl
theorem zw_1445 : (Jvm.Cond.constantLong "BeanLoomModel" (251 : Nat) (-9223372036854775808 : Int64)) ∈ zx_G := zx_Gt 1445 (by decide +kernel) rfl
theorem zw_1449 : (Jvm.Cond.constantLong "BeanLoomModel" (253 : Nat) (4503599627370495 : Int64)) ∈ zx_G := zx_Gt 1449 (by decide +kernel) rfl
theorem zw_1450 : (Jvm.Cond.constantLong "BeanLoomModel" (263 : Nat) (-2147483648 : Int64)) ∈ zx_G := zx_Gt 1450 (by decide +kernel) rfl
theorem zw_1451 : (Jvm.Cond.constantLong "BeanLoomModel" (265 : Nat) (2147483647 : Int64)) ∈ zx_G := zx_Gt 1451 (by decide +kernel) rfl
theorem zw_1146 : (Jvm.Cond.fieldLink "BeanLoomModel" (99 : Nat) "BeanLoomModel" "text" "[I") ∈ zx_G := zx_Gt 1146 (by decide +kernel) rfl
theorem zw_1145 : (Jvm.Cond.fieldLink "BeanLoomModel" (267 : Nat) "BeanLoomModel" "length" "I") ∈ zx_G := zx_Gt 1145 (by decide +kernel) rfl
theorem zw_1464 : (Jvm.Cond.constantLong "BeanLoomModel" (274 : Nat) (9 : Int64)) ∈ zx_G := zx_Gt 1464 (by decide +kernel) rfl
theorem zw_1465 : (Jvm.Cond.constantLong "BeanLoomModel" (276 : Nat) (-9 : Int64)) ∈ zx_G := zx_Gt 1465 (by decide +kernel) rfl
theorem zw_1466 : (Jvm.Cond.constantLong "BeanLoomModel" (278 : Nat) (10 : Int64)) ∈ zx_G := zx_Gt 1466 (by decide +kernel) rfl
theorem zw_1467 : (Jvm.Cond.constantLong "BeanLoomModel" (280 : Nat) (48 : Int64)) ∈ zx_G := zx_Gt 1467 (by decide +kernel) rfl
theorem zw_1140 : (Jvm.Cond.fieldLink "BeanLoomModel" (87 : Nat) "BeanLoomModel" "by" "[I") ∈ zx_G := zx_Gt 1140 (by decide +kernel) rfl
theorem zw_1139 : (Jvm.Cond.fieldLink "BeanLoomModel" (337 : Nat) "BeanLoomModel" "deep" "I") ∈ zx_G := zx_Gt 1139 (by decide +kernel) rfl
theorem zw_1141 : (Jvm.Cond.fieldLink "BeanLoomModel" (90 : Nat) "BeanLoomModel" "source" "[I") ∈ zx_G := zx_Gt 1141 (by decide +kernel) rfl
theorem zw_1142 : (Jvm.Cond.fieldLink "BeanLoomModel" (93 : Nat) "BeanLoomModel" "target" "[I") ∈ zx_G := zx_Gt 1142 (by decide +kernel) rfl
theorem zw_1143 : (Jvm.Cond.fieldLink "BeanLoomModel" (96 : Nat) "BeanLoomModel" "place" "[I") ∈ zx_G := zx_Gt 1143 (by decide +kernel) rfl
theorem zw_1135 : (Jvm.Cond.fieldLink "BeanLoomModel" (340 : Nat) "BeanLoomModel" "known" "I") ∈ zx_G := zx_Gt 1135 (by decide +kernel) rfl
theorem zw_1136 : (Jvm.Cond.fieldLink "BeanLoomModel" (78 : Nat) "BeanLoomModel" "knownMethod" "[I") ∈ zx_G := zx_Gt 1136 (by decide +kernel) rfl
theorem zw_1137 : (Jvm.Cond.fieldLink "BeanLoomModel" (81 : Nat) "BeanLoomModel" "knownSource" "[I") ∈ zx_G := zx_Gt 1137 (by decide +kernel) rfl
theorem zw_1138 : (Jvm.Cond.fieldLink "BeanLoomModel" (84 : Nat) "BeanLoomModel" "knownTarget" "[I") ∈ zx_G := zx_Gt 1138 (by decide +kernel) rfl
theorem zw_817 : (Jvm.Cond.constantLong "BeanLoom$Basics" (9 : Nat) (-1 : Int64)) ∈ zx_G := zx_Gt 817 (by decide +kernel) rfl
theorem zw_908 : (Jvm.Cond.constantLong "BeanLoom$Basics" (42 : Nat) (2047 : Int64)) ∈ zx_G := zx_Gt 908 (by decide +kernel) rfl
theorem zw_909 : (Jvm.Cond.constantLong "BeanLoom$Basics" (44 : Nat) (-9223372036854775808 : Int64)) ∈ zx_G := zx_Gt 909 (by decide +kernel) rfl
theorem zw_910 : (Jvm.Cond.constantLong "BeanLoom$Basics" (46 : Nat) (4503599627370496 : Int64)) ∈ zx_G := zx_Gt 910 (by decide +kernel) rfl
theorem zw_911 : (Jvm.Cond.methodLink "BeanLoom$Basics" (28 : Nat) ({ cls := "java/lang/Math", name := "min", desc := "(JJ)J" } : Jvm.MethodName)) ∈ zx_G := zx_Gt 911 (by decide +kernel) rfl
theorem zw_912 : (Jvm.Cond.static ({ cls := "java/lang/Math", name := "min", desc := "(JJ)J" } : Jvm.MethodName)) ∈ zx_G := zx_Gt 912 (by decide +kernel) rfl
theorem zw_20 : (Jvm.Cond.initialized "java/lang/Math") ∈ zx_G := zx_Gt 20 (by decide +kernel) rfl
theorem zw_913 : (Jvm.Cond.code ({ cls := "java/lang/Math", name := "min", desc := "(JJ)J" } : Jvm.MethodName) prog_19_method_70_code (4 : Nat) (Option.some Jvm.ClassFile.FieldType.long)) ∈ zx_G := zx_Gt 913 (by decide +kernel) rfl
theorem zw_914 : (Jvm.Cond.methodLink "BeanLoom$Basics" (34 : Nat) ({ cls := "java/lang/Math", name := "max", desc := "(JJ)J" } : Jvm.MethodName)) ∈ zx_G := zx_Gt 914 (by decide +kernel) rfl
theorem zw_915 : (Jvm.Cond.static ({ cls := "java/lang/Math", name := "max", desc := "(JJ)J" } : Jvm.MethodName)) ∈ zx_G := zx_Gt 915 (by decide +kernel) rfl
theorem zw_916 : (Jvm.Cond.code ({ cls := "java/lang/Math", name := "max", desc := "(JJ)J" } : Jvm.MethodName) prog_19_method_66_code (4 : Nat) (Option.some Jvm.ClassFile.FieldType.long)) ∈ zx_G := zx_Gt 916 (by decide +kernel) rfl
theorem zw_917 : (Jvm.Cond.constantLong "BeanLoom$Basics" (37 : Nat) (65535 : Int64)) ∈ zx_G := zx_Gt 917 (by decide +kernel) rfl
theorem zw_311 : (Jvm.Cond.fieldLink "BeanLoom$Converter" (15 : Nat) "BeanLoom$Converter" "store" "LBeanLoom$Store;") ∈ zx_G := zx_Gt 311 (by decide +kernel) rfl
theorem zw_313 : (Jvm.Cond.fieldLink "BeanLoom$Converter" (93 : Nat) "BeanLoom$Converter" "failed" "Z") ∈ zx_G := zx_Gt 313 (by decide +kernel) rfl
theorem zw_44 : (Jvm.Cond.fieldLink "BeanLoom$Types" (21 : Nat) "BeanLoom$Types" "names" "[I") ∈ zx_G := zx_Gt 44 (by decide +kernel) rfl
theorem zw_935 : (Jvm.Cond.constantLong "BeanLoom$Converter" (125 : Nat) (48 : Int64)) ∈ zx_G := zx_Gt 935 (by decide +kernel) rfl
theorem zw_938 : (Jvm.Cond.constantLong "BeanLoom$Converter" (131 : Nat) (10 : Int64)) ∈ zx_G := zx_Gt 938 (by decide +kernel) rfl
theorem zw_1028 : (Jvm.Cond.constantLong "BeanLoom$Converter" (166 : Nat) (110 : Int64)) ∈ zx_G := zx_Gt 1028 (by decide +kernel) rfl
theorem zw_310 : (Jvm.Cond.fieldLink "BeanLoom$Converter" (9 : Nat) "BeanLoom$Converter" "types" "LBeanLoom$Types;") ∈ zx_G := zx_Gt 310 (by decide +kernel) rfl
theorem zw_1029 : (Jvm.Cond.constantLong "BeanLoom$Converter" (164 : Nat) (-1 : Int64)) ∈ zx_G := zx_Gt 1029 (by decide +kernel) rfl
theorem zw_926 : (Jvm.Cond.constantLong "BeanLoom$Converter" (115 : Nat) (116 : Int64)) ∈ zx_G := zx_Gt 926 (by decide +kernel) rfl
theorem zw_927 : (Jvm.Cond.constantLong "BeanLoom$Converter" (117 : Nat) (114 : Int64)) ∈ zx_G := zx_Gt 927 (by decide +kernel) rfl
theorem zw_928 : (Jvm.Cond.constantLong "BeanLoom$Converter" (119 : Nat) (117 : Int64)) ∈ zx_G := zx_Gt 928 (by decide +kernel) rfl
theorem zw_929 : (Jvm.Cond.constantLong "BeanLoom$Converter" (121 : Nat) (101 : Int64)) ∈ zx_G := zx_Gt 929 (by decide +kernel) rfl
theorem zw_934 : (Jvm.Cond.constantLong "BeanLoom$Converter" (123 : Nat) (45 : Int64)) ∈ zx_G := zx_Gt 934 (by decide +kernel) rfl
theorem zw_936 : (Jvm.Cond.constantLong "BeanLoom$Converter" (127 : Nat) (9 : Int64)) ∈ zx_G := zx_Gt 936 (by decide +kernel) rfl
theorem zw_937 : (Jvm.Cond.constantLong "BeanLoom$Converter" (129 : Nat) (-9223372036854775808 : Int64)) ∈ zx_G := zx_Gt 937 (by decide +kernel) rfl
theorem zw_80 : (Jvm.Cond.fieldLink "BeanLoom$Converter" (69 : Nat) "BeanLoom$Function" "to" "I") ∈ zx_G := zx_Gt 80 (by decide +kernel) rfl
theorem zw_76 : (Jvm.Cond.fieldLink "BeanLoom$Converter" (75 : Nat) "BeanLoom$Function" "from" "I") ∈ zx_G := zx_Gt 76 (by decide +kernel) rfl
theorem zw_84 : (Jvm.Cond.fieldLink "BeanLoom$Converter" (78 : Nat) "BeanLoom$Function" "a" "I") ∈ zx_G := zx_Gt 84 (by decide +kernel) rfl
theorem zw_86 : (Jvm.Cond.fieldLink "BeanLoom$Converter" (81 : Nat) "BeanLoom$Function" "b" "I") ∈ zx_G := zx_Gt 86 (by decide +kernel) rfl
theorem zw_325 : (Jvm.Cond.fieldLink "BeanLoom$Mapper" (48 : Nat) "BeanLoom$Mapper" "converter" "LBeanLoom$Converter;") ∈ zx_G := zx_Gt 325 (by decide +kernel) rfl
theorem zw_312 : (Jvm.Cond.fieldLink "BeanLoom$Mapper" (52 : Nat) "BeanLoom$Converter" "failed" "Z") ∈ zx_G := zx_Gt 312 (by decide +kernel) rfl
theorem zw_214 : (Jvm.Cond.fieldLink "BeanLoom$Model" (25 : Nat) "BeanLoom$Model" "methodCount" "I") ∈ zx_G := zx_Gt 214 (by decide +kernel) rfl
theorem zw_331 : (Jvm.Cond.fieldLink "BeanLoom$Mapper" (56 : Nat) "BeanLoom$Mapper" "height" "I") ∈ zx_G := zx_Gt 331 (by decide +kernel) rfl
theorem zw_330 : (Jvm.Cond.fieldLink "BeanLoom$Mapper" (24 : Nat) "BeanLoom$Mapper" "methods" "[I") ∈ zx_G := zx_Gt 330 (by decide +kernel) rfl
theorem zw_327 : (Jvm.Cond.fieldLink "BeanLoom$Mapper" (15 : Nat) "BeanLoom$Mapper" "sources" "[I") ∈ zx_G := zx_Gt 327 (by decide +kernel) rfl
theorem zw_328 : (Jvm.Cond.fieldLink "BeanLoom$Mapper" (18 : Nat) "BeanLoom$Mapper" "targets" "[I") ∈ zx_G := zx_Gt 328 (by decide +kernel) rfl
theorem zw_329 : (Jvm.Cond.fieldLink "BeanLoom$Mapper" (21 : Nat) "BeanLoom$Mapper" "nexts" "[I") ∈ zx_G := zx_Gt 329 (by decide +kernel) rfl
theorem zw_847 : (Jvm.Cond.constantLong "BeanLoom$Mapper" (146 : Nat) (-1 : Int64)) ∈ zx_G := zx_Gt 847 (by decide +kernel) rfl
theorem zw_174 : (Jvm.Cond.fieldLink "BeanLoom$Mapper" (210 : Nat) "BeanLoom$Method" "makesOfNull" "Z") ∈ zx_G := zx_Gt 174 (by decide +kernel) rfl
theorem zw_853 : (Jvm.Cond.constantLong "BeanLoom$Mapper" (213 : Nat) (400 : Int64)) ∈ zx_G := zx_Gt 853 (by decide +kernel) rfl
theorem zw_326 : (Jvm.Cond.fieldLink "BeanLoom$Mapper" (9 : Nat) "BeanLoom$Mapper" "taken" "[I") ∈ zx_G := zx_Gt 326 (by decide +kernel) rfl
theorem zw_323 : (Jvm.Cond.fieldLink "BeanLoom$Mapper" (35 : Nat) "BeanLoom$Mapper" "store" "LBeanLoom$Store;") ∈ zx_G := zx_Gt 323 (by decide +kernel) rfl
theorem zw_159 : (Jvm.Cond.fieldLink "BeanLoom$Mapper" (121 : Nat) "BeanLoom$Method" "to" "I") ∈ zx_G := zx_Gt 159 (by decide +kernel) rfl
theorem zw_863 : (Jvm.Cond.constantLong "BeanLoom$Mapper" (205 : Nat) (8 : Int64)) ∈ zx_G := zx_Gt 863 (by decide +kernel) rfl
theorem zw_179 : (Jvm.Cond.fieldLink "BeanLoom$Mapper" (207 : Nat) "BeanLoom$Method" "becomes" "[I") ∈ zx_G := zx_Gt 179 (by decide +kernel) rfl
theorem zw_322 : (Jvm.Cond.fieldLink "BeanLoom$Mapper" (31 : Nat) "BeanLoom$Mapper" "model" "LBeanLoom$Model;") ∈ zx_G := zx_Gt 322 (by decide +kernel) rfl
theorem zw_208 : (Jvm.Cond.fieldLink "BeanLoom$Mapper" (80 : Nat) "BeanLoom$Model" "methods" "[LBeanLoom$Method;") ∈ zx_G := zx_Gt 208 (by decide +kernel) rfl
theorem zw_321 : (Jvm.Cond.fieldLink "BeanLoom$Mapper" (27 : Nat) "BeanLoom$Mapper" "types" "LBeanLoom$Types;") ∈ zx_G := zx_Gt 321 (by decide +kernel) rfl
theorem zw_255 : (Jvm.Cond.fieldLink "BeanLoom$Ways" (15 : Nat) "BeanLoom$Ways" "types" "LBeanLoom$Types;") ∈ zx_G := zx_Gt 255 (by decide +kernel) rfl
theorem zw_257 : (Jvm.Cond.fieldLink "BeanLoom$Ways" (9 : Nat) "BeanLoom$Ways" "found" "[I") ∈ zx_G := zx_Gt 257 (by decide +kernel) rfl
theorem zw_204 : (Jvm.Cond.fieldLink "BeanLoom$Mapper" (168 : Nat) "BeanLoom$Model" "functions" "[LBeanLoom$Function;") ∈ zx_G := zx_Gt 204 (by decide +kernel) rfl
theorem zw_324 : (Jvm.Cond.fieldLink "BeanLoom$Mapper" (39 : Nat) "BeanLoom$Mapper" "ways" "LBeanLoom$Ways;") ∈ zx_G := zx_Gt 324 (by decide +kernel) rfl
theorem zw_176 : (Jvm.Cond.fieldLink "BeanLoom$Mapper" (115 : Nat) "BeanLoom$Method" "plans" "[LBeanLoom$Plan;") ∈ zx_G := zx_Gt 176 (by decide +kernel) rfl
theorem zw_113 : (Jvm.Cond.fieldLink "BeanLoom$Mapper" (127 : Nat) "BeanLoom$Plan" "origin" "I") ∈ zx_G := zx_Gt 113 (by decide +kernel) rfl
theorem zw_124 : (Jvm.Cond.fieldLink "BeanLoom$Mapper" (132 : Nat) "BeanLoom$Plan" "way" "I") ∈ zx_G := zx_Gt 124 (by decide +kernel) rfl
theorem zw_115 : (Jvm.Cond.fieldLink "BeanLoom$Mapper" (135 : Nat) "BeanLoom$Plan" "constant" "J") ∈ zx_G := zx_Gt 115 (by decide +kernel) rfl
theorem zw_118 : (Jvm.Cond.fieldLink "BeanLoom$Mapper" (143 : Nat) "BeanLoom$Plan" "steps" "I") ∈ zx_G := zx_Gt 118 (by decide +kernel) rfl
theorem zw_120 : (Jvm.Cond.fieldLink "BeanLoom$Mapper" (148 : Nat) "BeanLoom$Plan" "places" "[I") ∈ zx_G := zx_Gt 120 (by decide +kernel) rfl
theorem zw_126 : (Jvm.Cond.fieldLink "BeanLoom$Mapper" (151 : Nat) "BeanLoom$Plan" "hasDefault" "Z") ∈ zx_G := zx_Gt 126 (by decide +kernel) rfl
theorem zw_122 : (Jvm.Cond.fieldLink "BeanLoom$Mapper" (154 : Nat) "BeanLoom$Plan" "sourceType" "I") ∈ zx_G := zx_Gt 122 (by decide +kernel) rfl
theorem zw_130 : (Jvm.Cond.fieldLink "BeanLoom$Mapper" (162 : Nat) "BeanLoom$Plan" "fallbackWay" "I") ∈ zx_G := zx_Gt 130 (by decide +kernel) rfl
theorem zw_128 : (Jvm.Cond.fieldLink "BeanLoom$Mapper" (165 : Nat) "BeanLoom$Plan" "fallback" "J") ∈ zx_G := zx_Gt 128 (by decide +kernel) rfl
theorem zw_160 : (Jvm.Cond.fieldLink "BeanLoom$Method" (32 : Nat) "BeanLoom$Method" "ruleCount" "I") ∈ zx_G := zx_Gt 160 (by decide +kernel) rfl
theorem zw_164 : (Jvm.Cond.fieldLink "BeanLoom$Method" (9 : Nat) "BeanLoom$Method" "kinds" "[I") ∈ zx_G := zx_Gt 164 (by decide +kernel) rfl
theorem zw_167 : (Jvm.Cond.fieldLink "BeanLoom$Method" (15 : Nat) "BeanLoom$Method" "targets" "[I") ∈ zx_G := zx_Gt 167 (by decide +kernel) rfl
theorem zw_169 : (Jvm.Cond.fieldLink "BeanLoom$Method" (18 : Nat) "BeanLoom$Method" "whats" "[J") ∈ zx_G := zx_Gt 169 (by decide +kernel) rfl
theorem zw_211 : (Jvm.Cond.fieldLink "BeanLoom$Model" (29 : Nat) "BeanLoom$Model" "functionCount" "I") ∈ zx_G := zx_Gt 211 (by decide +kernel) rfl
theorem zw_206 : (Jvm.Cond.fieldLink "BeanLoom$Model" (19 : Nat) "BeanLoom$Model" "methods" "[LBeanLoom$Method;") ∈ zx_G := zx_Gt 206 (by decide +kernel) rfl
theorem zw_153 : (Jvm.Cond.fieldLink "BeanLoom$Model" (32 : Nat) "BeanLoom$Method" "from" "I") ∈ zx_G := zx_Gt 153 (by decide +kernel) rfl
theorem zw_157 : (Jvm.Cond.fieldLink "BeanLoom$Model" (35 : Nat) "BeanLoom$Method" "to" "I") ∈ zx_G := zx_Gt 157 (by decide +kernel) rfl
theorem zw_202 : (Jvm.Cond.fieldLink "BeanLoom$Model" (11 : Nat) "BeanLoom$Model" "functions" "[LBeanLoom$Function;") ∈ zx_G := zx_Gt 202 (by decide +kernel) rfl
theorem zw_78 : (Jvm.Cond.fieldLink "BeanLoom$Model" (38 : Nat) "BeanLoom$Function" "from" "I") ∈ zx_G := zx_Gt 78 (by decide +kernel) rfl
theorem zw_82 : (Jvm.Cond.fieldLink "BeanLoom$Model" (39 : Nat) "BeanLoom$Function" "to" "I") ∈ zx_G := zx_Gt 82 (by decide +kernel) rfl
theorem zw_85 : (Jvm.Cond.fieldLink "BeanLoom$Model" (40 : Nat) "BeanLoom$Function" "a" "I") ∈ zx_G := zx_Gt 85 (by decide +kernel) rfl
theorem zw_87 : (Jvm.Cond.fieldLink "BeanLoom$Model" (43 : Nat) "BeanLoom$Function" "b" "I") ∈ zx_G := zx_Gt 87 (by decide +kernel) rfl
theorem zw_89 : (Jvm.Cond.fieldLink "BeanLoom$Model" (46 : Nat) "BeanLoom$Function" "named" "Z") ∈ zx_G := zx_Gt 89 (by decide +kernel) rfl
theorem zw_162 : (Jvm.Cond.fieldLink "BeanLoom$Model" (50 : Nat) "BeanLoom$Method" "ruleCount" "I") ∈ zx_G := zx_Gt 162 (by decide +kernel) rfl
theorem zw_166 : (Jvm.Cond.fieldLink "BeanLoom$Model" (53 : Nat) "BeanLoom$Method" "kinds" "[I") ∈ zx_G := zx_Gt 166 (by decide +kernel) rfl
theorem zw_171 : (Jvm.Cond.fieldLink "BeanLoom$Model" (57 : Nat) "BeanLoom$Method" "whats" "[J") ∈ zx_G := zx_Gt 171 (by decide +kernel) rfl
theorem zw_117 : (Jvm.Cond.fieldLink "BeanLoom$Plan" (15 : Nat) "BeanLoom$Plan" "steps" "I") ∈ zx_G := zx_Gt 117 (by decide +kernel) rfl
theorem zw_119 : (Jvm.Cond.fieldLink "BeanLoom$Plan" (9 : Nat) "BeanLoom$Plan" "places" "[I") ∈ zx_G := zx_Gt 119 (by decide +kernel) rfl
theorem zw_121 : (Jvm.Cond.fieldLink "BeanLoom$Plan" (37 : Nat) "BeanLoom$Plan" "sourceType" "I") ∈ zx_G := zx_Gt 121 (by decide +kernel) rfl
theorem zw_172 : (Jvm.Cond.fieldLink "BeanLoom$Planner" (109 : Nat) "BeanLoom$Method" "inverse" "I") ∈ zx_G := zx_Gt 172 (by decide +kernel) rfl
theorem zw_170 : (Jvm.Cond.fieldLink "BeanLoom$Planner" (77 : Nat) "BeanLoom$Method" "whats" "[J") ∈ zx_G := zx_Gt 170 (by decide +kernel) rfl
theorem zw_274 : (Jvm.Cond.fieldLink "BeanLoom$Planner" (29 : Nat) "BeanLoom$Planner" "model" "LBeanLoom$Model;") ∈ zx_G := zx_Gt 274 (by decide +kernel) rfl
theorem zw_207 : (Jvm.Cond.fieldLink "BeanLoom$Planner" (48 : Nat) "BeanLoom$Model" "methods" "[LBeanLoom$Method;") ∈ zx_G := zx_Gt 207 (by decide +kernel) rfl
theorem zw_152 : (Jvm.Cond.fieldLink "BeanLoom$Planner" (94 : Nat) "BeanLoom$Method" "from" "I") ∈ zx_G := zx_Gt 152 (by decide +kernel) rfl
theorem zw_156 : (Jvm.Cond.fieldLink "BeanLoom$Planner" (85 : Nat) "BeanLoom$Method" "to" "I") ∈ zx_G := zx_Gt 156 (by decide +kernel) rfl
theorem zw_165 : (Jvm.Cond.fieldLink "BeanLoom$Planner" (116 : Nat) "BeanLoom$Method" "kinds" "[I") ∈ zx_G := zx_Gt 165 (by decide +kernel) rfl
theorem zw_168 : (Jvm.Cond.fieldLink "BeanLoom$Planner" (120 : Nat) "BeanLoom$Method" "targets" "[I") ∈ zx_G := zx_Gt 168 (by decide +kernel) rfl
theorem zw_273 : (Jvm.Cond.fieldLink "BeanLoom$Planner" (25 : Nat) "BeanLoom$Planner" "types" "LBeanLoom$Types;") ∈ zx_G := zx_Gt 273 (by decide +kernel) rfl
theorem zw_276 : (Jvm.Cond.fieldLink "BeanLoom$Planner" (12 : Nat) "BeanLoom$Planner" "trial" "LBeanLoom$Plan;") ∈ zx_G := zx_Gt 276 (by decide +kernel) rfl
theorem zw_709 : (Jvm.Cond.constantLong "BeanLoom$Planner" (137 : Nat) (-1 : Int64)) ∈ zx_G := zx_Gt 709 (by decide +kernel) rfl
theorem zw_710 : (Jvm.Cond.constantLong "BeanLoom$Planner" (139 : Nat) (-2 : Int64)) ∈ zx_G := zx_Gt 710 (by decide +kernel) rfl
theorem zw_277 : (Jvm.Cond.fieldLink "BeanLoom$Planner" (42 : Nat) "BeanLoom$Planner" "fault" "I") ∈ zx_G := zx_Gt 277 (by decide +kernel) rfl
theorem zw_281 : (Jvm.Cond.fieldLink "BeanLoom$Planner" (22 : Nat) "BeanLoom$Planner" "faultPlace" "I") ∈ zx_G := zx_Gt 281 (by decide +kernel) rfl
theorem zw_256 : (Jvm.Cond.fieldLink "BeanLoom$Ways" (19 : Nat) "BeanLoom$Ways" "model" "LBeanLoom$Model;") ∈ zx_G := zx_Gt 256 (by decide +kernel) rfl
theorem zw_212 : (Jvm.Cond.fieldLink "BeanLoom$Ways" (48 : Nat) "BeanLoom$Model" "functionCount" "I") ∈ zx_G := zx_Gt 212 (by decide +kernel) rfl
theorem zw_203 : (Jvm.Cond.fieldLink "BeanLoom$Ways" (54 : Nat) "BeanLoom$Model" "functions" "[LBeanLoom$Function;") ∈ zx_G := zx_Gt 203 (by decide +kernel) rfl
theorem zw_77 : (Jvm.Cond.fieldLink "BeanLoom$Ways" (58 : Nat) "BeanLoom$Function" "from" "I") ∈ zx_G := zx_Gt 77 (by decide +kernel) rfl
theorem zw_88 : (Jvm.Cond.fieldLink "BeanLoom$Ways" (63 : Nat) "BeanLoom$Function" "named" "Z") ∈ zx_G := zx_Gt 88 (by decide +kernel) rfl
theorem zw_81 : (Jvm.Cond.fieldLink "BeanLoom$Ways" (67 : Nat) "BeanLoom$Function" "to" "I") ∈ zx_G := zx_Gt 81 (by decide +kernel) rfl
theorem zw_216 : (Jvm.Cond.fieldLink "BeanLoom$Ways" (70 : Nat) "BeanLoom$Model" "methodCount" "I") ∈ zx_G := zx_Gt 216 (by decide +kernel) rfl
theorem zw_209 : (Jvm.Cond.fieldLink "BeanLoom$Ways" (73 : Nat) "BeanLoom$Model" "methods" "[LBeanLoom$Method;") ∈ zx_G := zx_Gt 209 (by decide +kernel) rfl
theorem zw_154 : (Jvm.Cond.fieldLink "BeanLoom$Ways" (77 : Nat) "BeanLoom$Method" "from" "I") ∈ zx_G := zx_Gt 154 (by decide +kernel) rfl
theorem zw_158 : (Jvm.Cond.fieldLink "BeanLoom$Ways" (80 : Nat) "BeanLoom$Method" "to" "I") ∈ zx_G := zx_Gt 158 (by decide +kernel) rfl
theorem zw_161 : (Jvm.Cond.fieldLink "BeanLoom$Planner" (60 : Nat) "BeanLoom$Method" "ruleCount" "I") ∈ zx_G := zx_Gt 161 (by decide +kernel) rfl
theorem zw_764 : (Jvm.Cond.constantLong "BeanLoom$Planner" (201 : Nat) (65535 : Int64)) ∈ zx_G := zx_Gt 764 (by decide +kernel) rfl
theorem zw_205 : (Jvm.Cond.fieldLink "BeanLoom$Planner" (193 : Nat) "BeanLoom$Model" "functions" "[LBeanLoom$Function;") ∈ zx_G := zx_Gt 205 (by decide +kernel) rfl
theorem zw_79 : (Jvm.Cond.fieldLink "BeanLoom$Planner" (197 : Nat) "BeanLoom$Function" "from" "I") ∈ zx_G := zx_Gt 79 (by decide +kernel) rfl
theorem zw_83 : (Jvm.Cond.fieldLink "BeanLoom$Planner" (200 : Nat) "BeanLoom$Function" "to" "I") ∈ zx_G := zx_Gt 83 (by decide +kernel) rfl
theorem zw_177 : (Jvm.Cond.fieldLink "BeanLoom$Planner" (141 : Nat) "BeanLoom$Method" "plans" "[LBeanLoom$Plan;") ∈ zx_G := zx_Gt 177 (by decide +kernel) rfl
theorem zw_114 : (Jvm.Cond.fieldLink "BeanLoom$Planner" (155 : Nat) "BeanLoom$Plan" "origin" "I") ∈ zx_G := zx_Gt 114 (by decide +kernel) rfl
theorem zw_116 : (Jvm.Cond.fieldLink "BeanLoom$Planner" (158 : Nat) "BeanLoom$Plan" "constant" "J") ∈ zx_G := zx_Gt 116 (by decide +kernel) rfl
theorem zw_275 : (Jvm.Cond.fieldLink "BeanLoom$Planner" (33 : Nat) "BeanLoom$Planner" "ways" "LBeanLoom$Ways;") ∈ zx_G := zx_Gt 275 (by decide +kernel) rfl
theorem zw_125 : (Jvm.Cond.fieldLink "BeanLoom$Planner" (167 : Nat) "BeanLoom$Plan" "way" "I") ∈ zx_G := zx_Gt 125 (by decide +kernel) rfl
theorem zw_123 : (Jvm.Cond.fieldLink "BeanLoom$Planner" (177 : Nat) "BeanLoom$Plan" "sourceType" "I") ∈ zx_G := zx_Gt 123 (by decide +kernel) rfl
theorem zw_781 : (Jvm.Cond.constantLong "BeanLoom$Planner" (206 : Nat) (-3 : Int64)) ∈ zx_G := zx_Gt 781 (by decide +kernel) rfl
theorem zw_180 : (Jvm.Cond.fieldLink "BeanLoom$Planner" (208 : Nat) "BeanLoom$Method" "becomes" "[I") ∈ zx_G := zx_Gt 180 (by decide +kernel) rfl
theorem zw_127 : (Jvm.Cond.fieldLink "BeanLoom$Planner" (184 : Nat) "BeanLoom$Plan" "hasDefault" "Z") ∈ zx_G := zx_Gt 127 (by decide +kernel) rfl
theorem zw_129 : (Jvm.Cond.fieldLink "BeanLoom$Planner" (187 : Nat) "BeanLoom$Plan" "fallback" "J") ∈ zx_G := zx_Gt 129 (by decide +kernel) rfl
theorem zw_131 : (Jvm.Cond.fieldLink "BeanLoom$Planner" (190 : Nat) "BeanLoom$Plan" "fallbackWay" "I") ∈ zx_G := zx_Gt 131 (by decide +kernel) rfl
theorem zw_173 : (Jvm.Cond.fieldLink "BeanLoom$Planner" (81 : Nat) "BeanLoom$Method" "makesOfNull" "Z") ∈ zx_G := zx_Gt 173 (by decide +kernel) rfl
theorem zw_279 : (Jvm.Cond.fieldLink "BeanLoom$Planner" (18 : Nat) "BeanLoom$Planner" "faultMethod" "I") ∈ zx_G := zx_Gt 279 (by decide +kernel) rfl
theorem zw_215 : (Jvm.Cond.fieldLink "BeanLoom$Planner" (45 : Nat) "BeanLoom$Model" "methodCount" "I") ∈ zx_G := zx_Gt 215 (by decide +kernel) rfl
theorem zw_824 : (Jvm.Cond.constantLong "BeanLoom$Store" (30 : Nat) (255 : Int64)) ∈ zx_G := zx_Gt 824 (by decide +kernel) rfl
theorem zw_474 : (Jvm.Cond.classLink "BeanLoom" (63 : Nat) "java/lang/IllegalArgumentException") ∈ zx_G := zx_Gt 474 (by decide +kernel) rfl
theorem zw_547 : (Jvm.Cond.classLink "BeanLoom" (74 : Nat) "java/lang/IllegalStateException") ∈ zx_G := zx_Gt 547 (by decide +kernel) rfl
theorem zw_210 : (Jvm.Cond.fieldLink "BeanLoom" (158 : Nat) "BeanLoom$Model" "methods" "[LBeanLoom$Method;") ∈ zx_G := zx_Gt 210 (by decide +kernel) rfl
theorem zw_163 : (Jvm.Cond.fieldLink "BeanLoom" (162 : Nat) "BeanLoom$Method" "ruleCount" "I") ∈ zx_G := zx_Gt 163 (by decide +kernel) rfl
theorem zw_155 : (Jvm.Cond.fieldLink "BeanLoom" (243 : Nat) "BeanLoom$Method" "from" "I") ∈ zx_G := zx_Gt 155 (by decide +kernel) rfl
theorem zw_359 : (Jvm.Cond.fieldLink "BeanLoom" (51 : Nat) "BeanLoom" "mapper" "LBeanLoom$Mapper;") ∈ zx_G := zx_Gt 359 (by decide +kernel) rfl
theorem zw_1051 : (Jvm.Cond.classLink "BeanLoom" (261 : Nat) "java/lang/UnsupportedOperationException") ∈ zx_G := zx_Gt 1051 (by decide +kernel) rfl
theorem zw_1075 : (Jvm.Cond.classLink "BeanLoom" (266 : Nat) "java/lang/IndexOutOfBoundsException") ∈ zx_G := zx_Gt 1075 (by decide +kernel) rfl
theorem zw_1524 : (Jvm.Cond.constantLong "BeanLoomLaw" (66 : Nat) (4294967295 : Int64)) ∈ zx_G := zx_Gt 1524 (by decide +kernel) rfl
theorem zw_402 : (Jvm.Cond.methodLink "BeanLoom$Store" (55 : Nat) ({ cls := "BeanLoom$Basics", name := "isPrimitive", desc := "(I)Z" } : Jvm.MethodName)) ∈ zx_G := zx_Gt 402 (by decide +kernel) rfl
theorem zw_18 : (Jvm.Cond.initialized "BeanLoom$Basics") ∈ zx_G := zx_Gt 18 (by decide +kernel) rfl
theorem zw_404 : (Jvm.Cond.code ({ cls := "BeanLoom$Basics", name := "isPrimitive", desc := "(I)Z" } : Jvm.MethodName) prog_2_method_2_code (1 : Nat) (Option.some Jvm.ClassFile.FieldType.boolean)) ∈ zx_G := zx_Gt 404 (by decide +kernel) rfl
theorem zw_403 : (Jvm.Cond.static ({ cls := "BeanLoom$Basics", name := "isPrimitive", desc := "(I)Z" } : Jvm.MethodName)) ∈ zx_G := zx_Gt 403 (by decide +kernel) rfl
theorem zw_405 : (Jvm.Cond.methodLink "BeanLoom$Store" (59 : Nat) ({ cls := "BeanLoom$Basics", name := "holds", desc := "(IJ)Z" } : Jvm.MethodName)) ∈ zx_G := zx_Gt 405 (by decide +kernel) rfl
theorem zw_407 : (Jvm.Cond.code ({ cls := "BeanLoom$Basics", name := "holds", desc := "(IJ)Z" } : Jvm.MethodName) prog_2_method_9_code (3 : Nat) (Option.some Jvm.ClassFile.FieldType.boolean)) ∈ zx_G := zx_Gt 407 (by decide +kernel) rfl
theorem zw_406 : (Jvm.Cond.static ({ cls := "BeanLoom$Basics", name := "holds", desc := "(IJ)Z" } : Jvm.MethodName)) ∈ zx_G := zx_Gt 406 (by decide +kernel) rfl
theorem zw_415 : (Jvm.Cond.methodLink "BeanLoom$Store" (64 : Nat) ({ cls := "BeanLoom$Types", name := "isEnum", desc := "(I)Z" } : Jvm.MethodName)) ∈ zx_G := zx_Gt 415 (by decide +kernel) rfl
theorem zw_2 : (Jvm.Cond.initialized "BeanLoom$Types") ∈ zx_G := zx_Gt 2 (by decide +kernel) rfl
theorem zw_418 : (Jvm.Cond.code ({ cls := "BeanLoom$Types", name := "isEnum", desc := "(I)Z" } : Jvm.MethodName) prog_11_method_7_code (2 : Nat) (Option.some Jvm.ClassFile.FieldType.boolean)) ∈ zx_G := zx_Gt 418 (by decide +kernel) rfl
theorem zw_416 : (Jvm.Cond.instanceMethod ({ cls := "BeanLoom$Types", name := "isEnum", desc := "(I)Z" } : Jvm.MethodName)) ∈ zx_G := zx_Gt 416 (by decide +kernel) rfl
theorem zw_417 : (Jvm.Cond.selects "BeanLoom$Types" ({ cls := "BeanLoom$Types", name := "isEnum", desc := "(I)Z" } : Jvm.MethodName) ({ cls := "BeanLoom$Types", name := "isEnum", desc := "(I)Z" } : Jvm.MethodName)) ∈ zx_G := zx_Gt 417 (by decide +kernel) rfl
theorem zw_419 : (Jvm.Cond.methodLink "BeanLoom$Store" (40 : Nat) ({ cls := "BeanLoom$Types", name := "memberCount", desc := "(I)I" } : Jvm.MethodName)) ∈ zx_G := zx_Gt 419 (by decide +kernel) rfl
theorem zw_422 : (Jvm.Cond.code ({ cls := "BeanLoom$Types", name := "memberCount", desc := "(I)I" } : Jvm.MethodName) prog_11_method_14_code (2 : Nat) (Option.some Jvm.ClassFile.FieldType.int)) ∈ zx_G := zx_Gt 422 (by decide +kernel) rfl
theorem zw_420 : (Jvm.Cond.instanceMethod ({ cls := "BeanLoom$Types", name := "memberCount", desc := "(I)I" } : Jvm.MethodName)) ∈ zx_G := zx_Gt 420 (by decide +kernel) rfl
theorem zw_421 : (Jvm.Cond.selects "BeanLoom$Types" ({ cls := "BeanLoom$Types", name := "memberCount", desc := "(I)I" } : Jvm.MethodName) ({ cls := "BeanLoom$Types", name := "memberCount", desc := "(I)I" } : Jvm.MethodName)) ∈ zx_G := zx_Gt 421 (by decide +kernel) rfl
theorem zw_423 : (Jvm.Cond.methodLink "BeanLoom$Store" (67 : Nat) ({ cls := "BeanLoom$Store", name := "has", desc := "(J)Z" } : Jvm.MethodName)) ∈ zx_G := zx_Gt 423 (by decide +kernel) rfl
theorem zw_7 : (Jvm.Cond.initialized "BeanLoom$Store") ∈ zx_G := zx_Gt 7 (by decide +kernel) rfl
theorem zw_426 : (Jvm.Cond.code ({ cls := "BeanLoom$Store", name := "has", desc := "(J)Z" } : Jvm.MethodName) prog_10_method_5_code (3 : Nat) (Option.some Jvm.ClassFile.FieldType.boolean)) ∈ zx_G := zx_Gt 426 (by decide +kernel) rfl
theorem zw_424 : (Jvm.Cond.instanceMethod ({ cls := "BeanLoom$Store", name := "has", desc := "(J)Z" } : Jvm.MethodName)) ∈ zx_G := zx_Gt 424 (by decide +kernel) rfl
theorem zw_425 : (Jvm.Cond.selects "BeanLoom$Store" ({ cls := "BeanLoom$Store", name := "has", desc := "(J)Z" } : Jvm.MethodName) ({ cls := "BeanLoom$Store", name := "has", desc := "(J)Z" } : Jvm.MethodName)) ∈ zx_G := zx_Gt 425 (by decide +kernel) rfl
theorem zw_382 : (Jvm.Cond.methodLink "BeanLoom" (220 : Nat) ({ cls := "BeanLoom$Store", name := "typeOf", desc := "(I)I" } : Jvm.MethodName)) ∈ zx_G := zx_Gt 382 (by decide +kernel) rfl
theorem zw_385 : (Jvm.Cond.code ({ cls := "BeanLoom$Store", name := "typeOf", desc := "(I)I" } : Jvm.MethodName) prog_10_method_6_code (2 : Nat) (Option.some Jvm.ClassFile.FieldType.int)) ∈ zx_G := zx_Gt 385 (by decide +kernel) rfl
theorem zw_383 : (Jvm.Cond.instanceMethod ({ cls := "BeanLoom$Store", name := "typeOf", desc := "(I)I" } : Jvm.MethodName)) ∈ zx_G := zx_Gt 383 (by decide +kernel) rfl
theorem zw_384 : (Jvm.Cond.selects "BeanLoom$Store" ({ cls := "BeanLoom$Store", name := "typeOf", desc := "(I)I" } : Jvm.MethodName) ({ cls := "BeanLoom$Store", name := "typeOf", desc := "(I)I" } : Jvm.MethodName)) ∈ zx_G := zx_Gt 384 (by decide +kernel) rfl
theorem zw_386 : (Jvm.Cond.methodLink "BeanLoom" (91 : Nat) ({ cls := "BeanLoom$Types", name := "isBean", desc := "(I)Z" } : Jvm.MethodName)) ∈ zx_G := zx_Gt 386 (by decide +kernel) rfl
theorem zw_389 : (Jvm.Cond.code ({ cls := "BeanLoom$Types", name := "isBean", desc := "(I)Z" } : Jvm.MethodName) prog_11_method_8_code (2 : Nat) (Option.some Jvm.ClassFile.FieldType.boolean)) ∈ zx_G := zx_Gt 389 (by decide +kernel) rfl
theorem zw_387 : (Jvm.Cond.instanceMethod ({ cls := "BeanLoom$Types", name := "isBean", desc := "(I)Z" } : Jvm.MethodName)) ∈ zx_G := zx_Gt 387 (by decide +kernel) rfl
theorem zw_388 : (Jvm.Cond.selects "BeanLoom$Types" ({ cls := "BeanLoom$Types", name := "isBean", desc := "(I)Z" } : Jvm.MethodName) ({ cls := "BeanLoom$Types", name := "isBean", desc := "(I)Z" } : Jvm.MethodName)) ∈ zx_G := zx_Gt 388 (by decide +kernel) rfl
theorem zw_390 : (Jvm.Cond.methodLink "BeanLoom" (223 : Nat) ({ cls := "BeanLoom$Store", name := "hasPlace", desc := "(II)Z" } : Jvm.MethodName)) ∈ zx_G := zx_Gt 390 (by decide +kernel) rfl
theorem zw_393 : (Jvm.Cond.code ({ cls := "BeanLoom$Store", name := "hasPlace", desc := "(II)Z" } : Jvm.MethodName) prog_10_method_8_code (3 : Nat) (Option.some Jvm.ClassFile.FieldType.boolean)) ∈ zx_G := zx_Gt 393 (by decide +kernel) rfl
theorem zw_391 : (Jvm.Cond.instanceMethod ({ cls := "BeanLoom$Store", name := "hasPlace", desc := "(II)Z" } : Jvm.MethodName)) ∈ zx_G := zx_Gt 391 (by decide +kernel) rfl
theorem zw_392 : (Jvm.Cond.selects "BeanLoom$Store" ({ cls := "BeanLoom$Store", name := "hasPlace", desc := "(II)Z" } : Jvm.MethodName) ({ cls := "BeanLoom$Store", name := "hasPlace", desc := "(II)Z" } : Jvm.MethodName)) ∈ zx_G := zx_Gt 392 (by decide +kernel) rfl
theorem zw_394 : (Jvm.Cond.methodLink "BeanLoom" (227 : Nat) ({ cls := "BeanLoom$Types", name := "typeAt", desc := "(II)I" } : Jvm.MethodName)) ∈ zx_G := zx_Gt 394 (by decide +kernel) rfl
theorem zw_397 : (Jvm.Cond.code ({ cls := "BeanLoom$Types", name := "typeAt", desc := "(II)I" } : Jvm.MethodName) prog_11_method_16_code (4 : Nat) (Option.some Jvm.ClassFile.FieldType.int)) ∈ zx_G := zx_Gt 397 (by decide +kernel) rfl
theorem zw_395 : (Jvm.Cond.instanceMethod ({ cls := "BeanLoom$Types", name := "typeAt", desc := "(II)I" } : Jvm.MethodName)) ∈ zx_G := zx_Gt 395 (by decide +kernel) rfl
theorem zw_396 : (Jvm.Cond.selects "BeanLoom$Types" ({ cls := "BeanLoom$Types", name := "typeAt", desc := "(II)I" } : Jvm.MethodName) ({ cls := "BeanLoom$Types", name := "typeAt", desc := "(II)I" } : Jvm.MethodName)) ∈ zx_G := zx_Gt 396 (by decide +kernel) rfl
theorem zw_398 : (Jvm.Cond.methodLink "BeanLoom" (230 : Nat) ({ cls := "BeanLoom$Store", name := "isValue", desc := "(IJ)Z" } : Jvm.MethodName)) ∈ zx_G := zx_Gt 398 (by decide +kernel) rfl
theorem zw_401 : (Jvm.Cond.code ({ cls := "BeanLoom$Store", name := "isValue", desc := "(IJ)Z" } : Jvm.MethodName) prog_10_method_15_code (4 : Nat) (Option.some Jvm.ClassFile.FieldType.boolean)) ∈ zx_G := zx_Gt 401 (by decide +kernel) rfl
theorem zw_399 : (Jvm.Cond.instanceMethod ({ cls := "BeanLoom$Store", name := "isValue", desc := "(IJ)Z" } : Jvm.MethodName)) ∈ zx_G := zx_Gt 399 (by decide +kernel) rfl
theorem zw_400 : (Jvm.Cond.selects "BeanLoom$Store" ({ cls := "BeanLoom$Store", name := "isValue", desc := "(IJ)Z" } : Jvm.MethodName) ({ cls := "BeanLoom$Store", name := "isValue", desc := "(IJ)Z" } : Jvm.MethodName)) ∈ zx_G := zx_Gt 400 (by decide +kernel) rfl
theorem zw_427 : (Jvm.Cond.methodLink "BeanLoom" (233 : Nat) ({ cls := "BeanLoom$Store", name := "set", desc := "(IIJ)Z" } : Jvm.MethodName)) ∈ zx_G := zx_Gt 427 (by decide +kernel) rfl
theorem zw_430 : (Jvm.Cond.code ({ cls := "BeanLoom$Store", name := "set", desc := "(IIJ)Z" } : Jvm.MethodName) prog_10_method_10_code (6 : Nat) (Option.some Jvm.ClassFile.FieldType.boolean)) ∈ zx_G := zx_Gt 430 (by decide +kernel) rfl
theorem zw_428 : (Jvm.Cond.instanceMethod ({ cls := "BeanLoom$Store", name := "set", desc := "(IIJ)Z" } : Jvm.MethodName)) ∈ zx_G := zx_Gt 428 (by decide +kernel) rfl
theorem zw_429 : (Jvm.Cond.selects "BeanLoom$Store" ({ cls := "BeanLoom$Store", name := "set", desc := "(IIJ)Z" } : Jvm.MethodName) ({ cls := "BeanLoom$Store", name := "set", desc := "(IIJ)Z" } : Jvm.MethodName)) ∈ zx_G := zx_Gt 429 (by decide +kernel) rfl
theorem zw_431 : (Jvm.Cond.methodLink "BeanLoom" (192 : Nat) ({ cls := "BeanLoom$Types", name := "isList", desc := "(I)Z" } : Jvm.MethodName)) ∈ zx_G := zx_Gt 431 (by decide +kernel) rfl
theorem zw_434 : (Jvm.Cond.code ({ cls := "BeanLoom$Types", name := "isList", desc := "(I)Z" } : Jvm.MethodName) prog_11_method_9_code (2 : Nat) (Option.some Jvm.ClassFile.FieldType.boolean)) ∈ zx_G := zx_Gt 434 (by decide +kernel) rfl
theorem zw_432 : (Jvm.Cond.instanceMethod ({ cls := "BeanLoom$Types", name := "isList", desc := "(I)Z" } : Jvm.MethodName)) ∈ zx_G := zx_Gt 432 (by decide +kernel) rfl
theorem zw_433 : (Jvm.Cond.selects "BeanLoom$Types" ({ cls := "BeanLoom$Types", name := "isList", desc := "(I)Z" } : Jvm.MethodName) ({ cls := "BeanLoom$Types", name := "isList", desc := "(I)Z" } : Jvm.MethodName)) ∈ zx_G := zx_Gt 433 (by decide +kernel) rfl
theorem zw_435 : (Jvm.Cond.methodLink "BeanLoom" (237 : Nat) ({ cls := "BeanLoom$Store", name := "length", desc := "(I)I" } : Jvm.MethodName)) ∈ zx_G := zx_Gt 435 (by decide +kernel) rfl
theorem zw_438 : (Jvm.Cond.code ({ cls := "BeanLoom$Store", name := "length", desc := "(I)I" } : Jvm.MethodName) prog_10_method_7_code (2 : Nat) (Option.some Jvm.ClassFile.FieldType.int)) ∈ zx_G := zx_Gt 438 (by decide +kernel) rfl
theorem zw_436 : (Jvm.Cond.instanceMethod ({ cls := "BeanLoom$Store", name := "length", desc := "(I)I" } : Jvm.MethodName)) ∈ zx_G := zx_Gt 436 (by decide +kernel) rfl
theorem zw_437 : (Jvm.Cond.selects "BeanLoom$Store" ({ cls := "BeanLoom$Store", name := "length", desc := "(I)I" } : Jvm.MethodName) ({ cls := "BeanLoom$Store", name := "length", desc := "(I)I" } : Jvm.MethodName)) ∈ zx_G := zx_Gt 437 (by decide +kernel) rfl
theorem zw_439 : (Jvm.Cond.methodLink "BeanLoom" (240 : Nat) ({ cls := "BeanLoom$Types", name := "element", desc := "(I)I" } : Jvm.MethodName)) ∈ zx_G := zx_Gt 439 (by decide +kernel) rfl
theorem zw_442 : (Jvm.Cond.code ({ cls := "BeanLoom$Types", name := "element", desc := "(I)I" } : Jvm.MethodName) prog_11_method_13_code (2 : Nat) (Option.some Jvm.ClassFile.FieldType.int)) ∈ zx_G := zx_Gt 442 (by decide +kernel) rfl
theorem zw_440 : (Jvm.Cond.instanceMethod ({ cls := "BeanLoom$Types", name := "element", desc := "(I)I" } : Jvm.MethodName)) ∈ zx_G := zx_Gt 440 (by decide +kernel) rfl
theorem zw_441 : (Jvm.Cond.selects "BeanLoom$Types" ({ cls := "BeanLoom$Types", name := "element", desc := "(I)I" } : Jvm.MethodName) ({ cls := "BeanLoom$Types", name := "element", desc := "(I)I" } : Jvm.MethodName)) ∈ zx_G := zx_Gt 441 (by decide +kernel) rfl
theorem zw_443 : (Jvm.Cond.methodLink "BeanLoom" (213 : Nat) ({ cls := "BeanLoom$Store", name := "append", desc := "(IJ)Z" } : Jvm.MethodName)) ∈ zx_G := zx_Gt 443 (by decide +kernel) rfl
theorem zw_446 : (Jvm.Cond.code ({ cls := "BeanLoom$Store", name := "append", desc := "(IJ)Z" } : Jvm.MethodName) prog_10_method_11_code (4 : Nat) (Option.some Jvm.ClassFile.FieldType.boolean)) ∈ zx_G := zx_Gt 446 (by decide +kernel) rfl
theorem zw_444 : (Jvm.Cond.instanceMethod ({ cls := "BeanLoom$Store", name := "append", desc := "(IJ)Z" } : Jvm.MethodName)) ∈ zx_G := zx_Gt 444 (by decide +kernel) rfl
theorem zw_445 : (Jvm.Cond.selects "BeanLoom$Store" ({ cls := "BeanLoom$Store", name := "append", desc := "(IJ)Z" } : Jvm.MethodName) ({ cls := "BeanLoom$Store", name := "append", desc := "(IJ)Z" } : Jvm.MethodName)) ∈ zx_G := zx_Gt 445 (by decide +kernel) rfl
theorem zw_451 : (Jvm.Cond.methodLink "BeanLoom" (280 : Nat) ({ cls := "BeanLoom$Types", name := "size", desc := "()I" } : Jvm.MethodName)) ∈ zx_G := zx_Gt 451 (by decide +kernel) rfl
theorem zw_454 : (Jvm.Cond.code ({ cls := "BeanLoom$Types", name := "size", desc := "()I" } : Jvm.MethodName) prog_11_method_4_code (1 : Nat) (Option.some Jvm.ClassFile.FieldType.int)) ∈ zx_G := zx_Gt 454 (by decide +kernel) rfl
theorem zw_452 : (Jvm.Cond.instanceMethod ({ cls := "BeanLoom$Types", name := "size", desc := "()I" } : Jvm.MethodName)) ∈ zx_G := zx_Gt 452 (by decide +kernel) rfl
theorem zw_453 : (Jvm.Cond.selects "BeanLoom$Types" ({ cls := "BeanLoom$Types", name := "size", desc := "()I" } : Jvm.MethodName) ({ cls := "BeanLoom$Types", name := "size", desc := "()I" } : Jvm.MethodName)) ∈ zx_G := zx_Gt 453 (by decide +kernel) rfl
theorem zw_455 : (Jvm.Cond.methodLink "BeanLoom" (108 : Nat) ({ cls := "BeanLoom$Store", name := "size", desc := "()I" } : Jvm.MethodName)) ∈ zx_G := zx_Gt 455 (by decide +kernel) rfl
theorem zw_458 : (Jvm.Cond.code ({ cls := "BeanLoom$Store", name := "size", desc := "()I" } : Jvm.MethodName) prog_10_method_2_code (1 : Nat) (Option.some Jvm.ClassFile.FieldType.int)) ∈ zx_G := zx_Gt 458 (by decide +kernel) rfl
theorem zw_456 : (Jvm.Cond.instanceMethod ({ cls := "BeanLoom$Store", name := "size", desc := "()I" } : Jvm.MethodName)) ∈ zx_G := zx_Gt 456 (by decide +kernel) rfl
theorem zw_457 : (Jvm.Cond.selects "BeanLoom$Store" ({ cls := "BeanLoom$Store", name := "size", desc := "()I" } : Jvm.MethodName) ({ cls := "BeanLoom$Store", name := "size", desc := "()I" } : Jvm.MethodName)) ∈ zx_G := zx_Gt 457 (by decide +kernel) rfl
theorem zw_1260 : (Jvm.Cond.methodLink "BeanLoomModel" (105 : Nat) ({ cls := "BeanLoomModel", name := "isType", desc := "(I)Z" } : Jvm.MethodName)) ∈ zx_G := zx_Gt 1260 (by decide +kernel) rfl
theorem zw_12 : (Jvm.Cond.initialized "BeanLoomModel") ∈ zx_G := zx_Gt 12 (by decide +kernel) rfl
theorem zw_1263 : (Jvm.Cond.code ({ cls := "BeanLoomModel", name := "isType", desc := "(I)Z" } : Jvm.MethodName) prog_14_method_5_code (2 : Nat) (Option.some Jvm.ClassFile.FieldType.boolean)) ∈ zx_G := zx_Gt 1263 (by decide +kernel) rfl
theorem zw_1262 : (Jvm.Cond.instanceMethod ({ cls := "BeanLoomModel", name := "isType", desc := "(I)Z" } : Jvm.MethodName)) ∈ zx_G := zx_Gt 1262 (by decide +kernel) rfl
theorem zw_1241 : (Jvm.Cond.methodLink "BeanLoomModel" (115 : Nat) ({ cls := "BeanLoomModel", name := "isName", desc := "(I)Z" } : Jvm.MethodName)) ∈ zx_G := zx_Gt 1241 (by decide +kernel) rfl
theorem zw_1243 : (Jvm.Cond.code ({ cls := "BeanLoomModel", name := "isName", desc := "(I)Z" } : Jvm.MethodName) prog_14_method_4_code (1 : Nat) (Option.some Jvm.ClassFile.FieldType.boolean)) ∈ zx_G := zx_Gt 1243 (by decide +kernel) rfl
theorem zw_1242 : (Jvm.Cond.static ({ cls := "BeanLoomModel", name := "isName", desc := "(I)Z" } : Jvm.MethodName)) ∈ zx_G := zx_Gt 1242 (by decide +kernel) rfl
theorem zw_1244 : (Jvm.Cond.methodLink "BeanLoomModel" (122 : Nat) ({ cls := "BeanLoomModel", name := "newType", desc := "(I)I" } : Jvm.MethodName)) ∈ zx_G := zx_Gt 1244 (by decide +kernel) rfl
theorem zw_1247 : (Jvm.Cond.code ({ cls := "BeanLoomModel", name := "newType", desc := "(I)I" } : Jvm.MethodName) prog_14_method_7_code (2 : Nat) (Option.some Jvm.ClassFile.FieldType.int)) ∈ zx_G := zx_Gt 1247 (by decide +kernel) rfl
theorem zw_1246 : (Jvm.Cond.instanceMethod ({ cls := "BeanLoomModel", name := "newType", desc := "(I)I" } : Jvm.MethodName)) ∈ zx_G := zx_Gt 1246 (by decide +kernel) rfl
theorem zw_1236 : (Jvm.Cond.methodLink "BeanLoomModel" (109 : Nat) ({ cls := "BeanLoomModel", name := "fails", desc := "(I)I" } : Jvm.MethodName)) ∈ zx_G := zx_Gt 1236 (by decide +kernel) rfl
theorem zw_1239 : (Jvm.Cond.code ({ cls := "BeanLoomModel", name := "fails", desc := "(I)I" } : Jvm.MethodName) prog_14_method_3_code (2 : Nat) (Option.some Jvm.ClassFile.FieldType.int)) ∈ zx_G := zx_Gt 1239 (by decide +kernel) rfl
theorem zw_1238 : (Jvm.Cond.instanceMethod ({ cls := "BeanLoomModel", name := "fails", desc := "(I)I" } : Jvm.MethodName)) ∈ zx_G := zx_Gt 1238 (by decide +kernel) rfl
theorem zw_1256 : (Jvm.Cond.methodLink "BeanLoomModel" (125 : Nat) ({ cls := "BeanLoomModel", name := "isSort", desc := "(II)Z" } : Jvm.MethodName)) ∈ zx_G := zx_Gt 1256 (by decide +kernel) rfl
theorem zw_1259 : (Jvm.Cond.code ({ cls := "BeanLoomModel", name := "isSort", desc := "(II)Z" } : Jvm.MethodName) prog_14_method_6_code (3 : Nat) (Option.some Jvm.ClassFile.FieldType.boolean)) ∈ zx_G := zx_Gt 1259 (by decide +kernel) rfl
theorem zw_1258 : (Jvm.Cond.instanceMethod ({ cls := "BeanLoomModel", name := "isSort", desc := "(II)Z" } : Jvm.MethodName)) ∈ zx_G := zx_Gt 1258 (by decide +kernel) rfl
theorem zw_1264 : (Jvm.Cond.methodLink "BeanLoomModel" (129 : Nat) ({ cls := "BeanLoomModel", name := "placeOf", desc := "(II)I" } : Jvm.MethodName)) ∈ zx_G := zx_Gt 1264 (by decide +kernel) rfl
theorem zw_1267 : (Jvm.Cond.code ({ cls := "BeanLoomModel", name := "placeOf", desc := "(II)I" } : Jvm.MethodName) prog_14_method_10_code (5 : Nat) (Option.some Jvm.ClassFile.FieldType.int)) ∈ zx_G := zx_Gt 1267 (by decide +kernel) rfl
theorem zw_1266 : (Jvm.Cond.instanceMethod ({ cls := "BeanLoomModel", name := "placeOf", desc := "(II)I" } : Jvm.MethodName)) ∈ zx_G := zx_Gt 1266 (by decide +kernel) rfl
theorem zw_1280 : (Jvm.Cond.methodLink "BeanLoomModel" (139 : Nat) ({ cls := "BeanLoomModel", name := "isAmount", desc := "(I)Z" } : Jvm.MethodName)) ∈ zx_G := zx_Gt 1280 (by decide +kernel) rfl
theorem zw_1282 : (Jvm.Cond.code ({ cls := "BeanLoomModel", name := "isAmount", desc := "(I)Z" } : Jvm.MethodName) prog_14_method_15_code (1 : Nat) (Option.some Jvm.ClassFile.FieldType.boolean)) ∈ zx_G := zx_Gt 1282 (by decide +kernel) rfl
theorem zw_1281 : (Jvm.Cond.static ({ cls := "BeanLoomModel", name := "isAmount", desc := "(I)Z" } : Jvm.MethodName)) ∈ zx_G := zx_Gt 1281 (by decide +kernel) rfl
theorem zw_1283 : (Jvm.Cond.methodLink "BeanLoomModel" (142 : Nat) ({ cls := "BeanLoomModel", name := "kindOf", desc := "(I)I" } : Jvm.MethodName)) ∈ zx_G := zx_Gt 1283 (by decide +kernel) rfl
theorem zw_1285 : (Jvm.Cond.code ({ cls := "BeanLoomModel", name := "kindOf", desc := "(I)I" } : Jvm.MethodName) prog_14_method_14_code (1 : Nat) (Option.some Jvm.ClassFile.FieldType.int)) ∈ zx_G := zx_Gt 1285 (by decide +kernel) rfl
theorem zw_1284 : (Jvm.Cond.static ({ cls := "BeanLoomModel", name := "kindOf", desc := "(I)I" } : Jvm.MethodName)) ∈ zx_G := zx_Gt 1284 (by decide +kernel) rfl
theorem zw_1306 : (Jvm.Cond.methodLink "BeanLoomModel" (148 : Nat) ({ cls := "BeanLoomModel", name := "latest", desc := "(II)I" } : Jvm.MethodName)) ∈ zx_G := zx_Gt 1306 (by decide +kernel) rfl
theorem zw_1309 : (Jvm.Cond.code ({ cls := "BeanLoomModel", name := "latest", desc := "(II)I" } : Jvm.MethodName) prog_14_method_19_code (5 : Nat) (Option.some Jvm.ClassFile.FieldType.int)) ∈ zx_G := zx_Gt 1309 (by decide +kernel) rfl
theorem zw_1308 : (Jvm.Cond.instanceMethod ({ cls := "BeanLoomModel", name := "latest", desc := "(II)I" } : Jvm.MethodName)) ∈ zx_G := zx_Gt 1308 (by decide +kernel) rfl
theorem zw_1328 : (Jvm.Cond.methodLink "BeanLoomModel" (151 : Nat) ({ cls := "BeanLoomModel", name := "firstRule", desc := "(III)I" } : Jvm.MethodName)) ∈ zx_G := zx_Gt 1328 (by decide +kernel) rfl
theorem zw_1331 : (Jvm.Cond.code ({ cls := "BeanLoomModel", name := "firstRule", desc := "(III)I" } : Jvm.MethodName) prog_14_method_18_code (5 : Nat) (Option.some Jvm.ClassFile.FieldType.int)) ∈ zx_G := zx_Gt 1331 (by decide +kernel) rfl
theorem zw_1330 : (Jvm.Cond.instanceMethod ({ cls := "BeanLoomModel", name := "firstRule", desc := "(III)I" } : Jvm.MethodName)) ∈ zx_G := zx_Gt 1330 (by decide +kernel) rfl
theorem zw_1359 : (Jvm.Cond.methodLink "BeanLoomModel" (155 : Nat) ({ cls := "BeanLoomModel", name := "inverseOf", desc := "(I)I" } : Jvm.MethodName)) ∈ zx_G := zx_Gt 1359 (by decide +kernel) rfl
theorem zw_1362 : (Jvm.Cond.code ({ cls := "BeanLoomModel", name := "inverseOf", desc := "(I)I" } : Jvm.MethodName) prog_14_method_21_code (3 : Nat) (Option.some Jvm.ClassFile.FieldType.int)) ∈ zx_G := zx_Gt 1362 (by decide +kernel) rfl
theorem zw_1361 : (Jvm.Cond.instanceMethod ({ cls := "BeanLoomModel", name := "inverseOf", desc := "(I)I" } : Jvm.MethodName)) ∈ zx_G := zx_Gt 1361 (by decide +kernel) rfl
theorem zw_1318 : (Jvm.Cond.methodLink "BeanLoomModel" (158 : Nat) ({ cls := "BeanLoomModel", name := "nameOf", desc := "(JI)I" } : Jvm.MethodName)) ∈ zx_G := zx_Gt 1318 (by decide +kernel) rfl
theorem zw_1320 : (Jvm.Cond.code ({ cls := "BeanLoomModel", name := "nameOf", desc := "(JI)I" } : Jvm.MethodName) prog_14_method_22_code (4 : Nat) (Option.some Jvm.ClassFile.FieldType.int)) ∈ zx_G := zx_Gt 1320 (by decide +kernel) rfl
theorem zw_1319 : (Jvm.Cond.static ({ cls := "BeanLoomModel", name := "nameOf", desc := "(JI)I" } : Jvm.MethodName)) ∈ zx_G := zx_Gt 1319 (by decide +kernel) rfl
theorem zw_1363 : (Jvm.Cond.methodLink "BeanLoomModel" (162 : Nat) ({ cls := "BeanLoomModel", name := "byName", desc := "(II)J" } : Jvm.MethodName)) ∈ zx_G := zx_Gt 1363 (by decide +kernel) rfl
theorem zw_1366 : (Jvm.Cond.code ({ cls := "BeanLoomModel", name := "byName", desc := "(II)J" } : Jvm.MethodName) prog_14_method_24_code (3 : Nat) (Option.some Jvm.ClassFile.FieldType.long)) ∈ zx_G := zx_Gt 1366 (by decide +kernel) rfl
theorem zw_1365 : (Jvm.Cond.instanceMethod ({ cls := "BeanLoomModel", name := "byName", desc := "(II)J" } : Jvm.MethodName)) ∈ zx_G := zx_Gt 1365 (by decide +kernel) rfl
theorem zw_1344 : (Jvm.Cond.methodLink "BeanLoomModel" (180 : Nat) ({ cls := "BeanLoomModel", name := "isNamed", desc := "(I)Z" } : Jvm.MethodName)) ∈ zx_G := zx_Gt 1344 (by decide +kernel) rfl
theorem zw_1347 : (Jvm.Cond.code ({ cls := "BeanLoomModel", name := "isNamed", desc := "(I)Z" } : Jvm.MethodName) prog_14_method_20_code (5 : Nat) (Option.some Jvm.ClassFile.FieldType.boolean)) ∈ zx_G := zx_Gt 1347 (by decide +kernel) rfl
theorem zw_1346 : (Jvm.Cond.instanceMethod ({ cls := "BeanLoomModel", name := "isNamed", desc := "(I)Z" } : Jvm.MethodName)) ∈ zx_G := zx_Gt 1346 (by decide +kernel) rfl
theorem zw_1348 : (Jvm.Cond.methodLink "BeanLoomModel" (177 : Nat) ({ cls := "BeanLoomModel", name := "converts", desc := "(II)Z" } : Jvm.MethodName)) ∈ zx_G := zx_Gt 1348 (by decide +kernel) rfl
theorem zw_1351 : (Jvm.Cond.code ({ cls := "BeanLoomModel", name := "converts", desc := "(II)Z" } : Jvm.MethodName) prog_14_method_27_code (3 : Nat) (Option.some Jvm.ClassFile.FieldType.boolean)) ∈ zx_G := zx_Gt 1351 (by decide +kernel) rfl
theorem zw_1350 : (Jvm.Cond.instanceMethod ({ cls := "BeanLoomModel", name := "converts", desc := "(II)Z" } : Jvm.MethodName)) ∈ zx_G := zx_Gt 1350 (by decide +kernel) rfl
theorem zw_1340 : (Jvm.Cond.methodLink "BeanLoomModel" (173 : Nat) ({ cls := "BeanLoomModel", name := "functionOf", desc := "(IIZ)I" } : Jvm.MethodName)) ∈ zx_G := zx_Gt 1340 (by decide +kernel) rfl
theorem zw_1343 : (Jvm.Cond.code ({ cls := "BeanLoomModel", name := "functionOf", desc := "(IIZ)I" } : Jvm.MethodName) prog_14_method_30_code (7 : Nat) (Option.some Jvm.ClassFile.FieldType.int)) ∈ zx_G := zx_Gt 1343 (by decide +kernel) rfl
theorem zw_1342 : (Jvm.Cond.instanceMethod ({ cls := "BeanLoomModel", name := "functionOf", desc := "(IIZ)I" } : Jvm.MethodName)) ∈ zx_G := zx_Gt 1342 (by decide +kernel) rfl
theorem zw_1336 : (Jvm.Cond.methodLink "BeanLoomModel" (170 : Nat) ({ cls := "BeanLoomModel", name := "one", desc := "(II)I" } : Jvm.MethodName)) ∈ zx_G := zx_Gt 1336 (by decide +kernel) rfl
theorem zw_1339 : (Jvm.Cond.code ({ cls := "BeanLoomModel", name := "one", desc := "(II)I" } : Jvm.MethodName) prog_14_method_29_code (7 : Nat) (Option.some Jvm.ClassFile.FieldType.int)) ∈ zx_G := zx_Gt 1339 (by decide +kernel) rfl
theorem zw_1338 : (Jvm.Cond.instanceMethod ({ cls := "BeanLoomModel", name := "one", desc := "(II)I" } : Jvm.MethodName)) ∈ zx_G := zx_Gt 1338 (by decide +kernel) rfl
theorem zw_1314 : (Jvm.Cond.methodLink "BeanLoomModel" (186 : Nat) ({ cls := "BeanLoomModel", name := "endOf", desc := "(IJ)I" } : Jvm.MethodName)) ∈ zx_G := zx_Gt 1314 (by decide +kernel) rfl
theorem zw_1317 : (Jvm.Cond.code ({ cls := "BeanLoomModel", name := "endOf", desc := "(IJ)I" } : Jvm.MethodName) prog_14_method_25_code (8 : Nat) (Option.some Jvm.ClassFile.FieldType.int)) ∈ zx_G := zx_Gt 1317 (by decide +kernel) rfl
theorem zw_1316 : (Jvm.Cond.instanceMethod ({ cls := "BeanLoomModel", name := "endOf", desc := "(IJ)I" } : Jvm.MethodName)) ∈ zx_G := zx_Gt 1316 (by decide +kernel) rfl
theorem zw_1332 : (Jvm.Cond.methodLink "BeanLoomModel" (192 : Nat) ({ cls := "BeanLoomModel", name := "how", desc := "(II)I" } : Jvm.MethodName)) ∈ zx_G := zx_Gt 1332 (by decide +kernel) rfl
theorem zw_1335 : (Jvm.Cond.code ({ cls := "BeanLoomModel", name := "how", desc := "(II)I" } : Jvm.MethodName) prog_14_method_28_code (7 : Nat) (Option.some Jvm.ClassFile.FieldType.int)) ∈ zx_G := zx_Gt 1335 (by decide +kernel) rfl
theorem zw_1334 : (Jvm.Cond.instanceMethod ({ cls := "BeanLoomModel", name := "how", desc := "(II)I" } : Jvm.MethodName)) ∈ zx_G := zx_Gt 1334 (by decide +kernel) rfl
theorem zw_1352 : (Jvm.Cond.methodLink "BeanLoomModel" (195 : Nat) ({ cls := "BeanLoomModel", name := "wrongWay", desc := "(I)I" } : Jvm.MethodName)) ∈ zx_G := zx_Gt 1352 (by decide +kernel) rfl
theorem zw_1354 : (Jvm.Cond.code ({ cls := "BeanLoomModel", name := "wrongWay", desc := "(I)I" } : Jvm.MethodName) prog_14_method_34_code (1 : Nat) (Option.some Jvm.ClassFile.FieldType.int)) ∈ zx_G := zx_Gt 1354 (by decide +kernel) rfl
theorem zw_1353 : (Jvm.Cond.static ({ cls := "BeanLoomModel", name := "wrongWay", desc := "(I)I" } : Jvm.MethodName)) ∈ zx_G := zx_Gt 1353 (by decide +kernel) rfl
theorem zw_1355 : (Jvm.Cond.methodLink "BeanLoomModel" (198 : Nat) ({ cls := "BeanLoomModel", name := "pathOf", desc := "(II)J" } : Jvm.MethodName)) ∈ zx_G := zx_Gt 1355 (by decide +kernel) rfl
theorem zw_1358 : (Jvm.Cond.code ({ cls := "BeanLoomModel", name := "pathOf", desc := "(II)J" } : Jvm.MethodName) prog_14_method_23_code (7 : Nat) (Option.some Jvm.ClassFile.FieldType.long)) ∈ zx_G := zx_Gt 1358 (by decide +kernel) rfl
theorem zw_1357 : (Jvm.Cond.instanceMethod ({ cls := "BeanLoomModel", name := "pathOf", desc := "(II)J" } : Jvm.MethodName)) ∈ zx_G := zx_Gt 1357 (by decide +kernel) rfl
theorem zw_1302 : (Jvm.Cond.methodLink "BeanLoomModel" (201 : Nat) ({ cls := "BeanLoomModel", name := "isWrongInverse", desc := "(I)Z" } : Jvm.MethodName)) ∈ zx_G := zx_Gt 1302 (by decide +kernel) rfl
theorem zw_1305 : (Jvm.Cond.code ({ cls := "BeanLoomModel", name := "isWrongInverse", desc := "(I)Z" } : Jvm.MethodName) prog_14_method_32_code (6 : Nat) (Option.some Jvm.ClassFile.FieldType.boolean)) ∈ zx_G := zx_Gt 1305 (by decide +kernel) rfl
theorem zw_1304 : (Jvm.Cond.instanceMethod ({ cls := "BeanLoomModel", name := "isWrongInverse", desc := "(I)Z" } : Jvm.MethodName)) ∈ zx_G := zx_Gt 1304 (by decide +kernel) rfl
theorem zw_1294 : (Jvm.Cond.methodLink "BeanLoomModel" (204 : Nat) ({ cls := "BeanLoomModel", name := "faulty", desc := "(III)Z" } : Jvm.MethodName)) ∈ zx_G := zx_Gt 1294 (by decide +kernel) rfl
theorem zw_1297 : (Jvm.Cond.code ({ cls := "BeanLoomModel", name := "faulty", desc := "(III)Z" } : Jvm.MethodName) prog_14_method_31_code (4 : Nat) (Option.some Jvm.ClassFile.FieldType.boolean)) ∈ zx_G := zx_Gt 1297 (by decide +kernel) rfl
theorem zw_1296 : (Jvm.Cond.instanceMethod ({ cls := "BeanLoomModel", name := "faulty", desc := "(III)Z" } : Jvm.MethodName)) ∈ zx_G := zx_Gt 1296 (by decide +kernel) rfl
theorem zw_1310 : (Jvm.Cond.methodLink "BeanLoomModel" (208 : Nat) ({ cls := "BeanLoomModel", name := "wrong", desc := "(II)I" } : Jvm.MethodName)) ∈ zx_G := zx_Gt 1310 (by decide +kernel) rfl
theorem zw_1313 : (Jvm.Cond.code ({ cls := "BeanLoomModel", name := "wrong", desc := "(II)I" } : Jvm.MethodName) prog_14_method_33_code (7 : Nat) (Option.some Jvm.ClassFile.FieldType.int)) ∈ zx_G := zx_Gt 1313 (by decide +kernel) rfl
theorem zw_1312 : (Jvm.Cond.instanceMethod ({ cls := "BeanLoomModel", name := "wrong", desc := "(II)I" } : Jvm.MethodName)) ∈ zx_G := zx_Gt 1312 (by decide +kernel) rfl
theorem zw_1324 : (Jvm.Cond.methodLink "BeanLoomModel" (211 : Nat) ({ cls := "BeanLoomModel", name := "wrongProperty", desc := "(II)I" } : Jvm.MethodName)) ∈ zx_G := zx_Gt 1324 (by decide +kernel) rfl
theorem zw_1327 : (Jvm.Cond.code ({ cls := "BeanLoomModel", name := "wrongProperty", desc := "(II)I" } : Jvm.MethodName) prog_14_method_35_code (11 : Nat) (Option.some Jvm.ClassFile.FieldType.int)) ∈ zx_G := zx_Gt 1327 (by decide +kernel) rfl
theorem zw_1326 : (Jvm.Cond.instanceMethod ({ cls := "BeanLoomModel", name := "wrongProperty", desc := "(II)I" } : Jvm.MethodName)) ∈ zx_G := zx_Gt 1326 (by decide +kernel) rfl
theorem zw_1367 : (Jvm.Cond.methodLink "BeanLoomModel" (214 : Nat) ({ cls := "BeanLoomModel", name := "constantOf", desc := "(II)I" } : Jvm.MethodName)) ∈ zx_G := zx_Gt 1367 (by decide +kernel) rfl
theorem zw_1370 : (Jvm.Cond.code ({ cls := "BeanLoomModel", name := "constantOf", desc := "(II)I" } : Jvm.MethodName) prog_14_method_26_code (10 : Nat) (Option.some Jvm.ClassFile.FieldType.int)) ∈ zx_G := zx_Gt 1370 (by decide +kernel) rfl
theorem zw_1369 : (Jvm.Cond.instanceMethod ({ cls := "BeanLoomModel", name := "constantOf", desc := "(II)I" } : Jvm.MethodName)) ∈ zx_G := zx_Gt 1369 (by decide +kernel) rfl
theorem zw_1298 : (Jvm.Cond.methodLink "BeanLoomModel" (217 : Nat) ({ cls := "BeanLoomModel", name := "isFaulty", desc := "(I)Z" } : Jvm.MethodName)) ∈ zx_G := zx_Gt 1298 (by decide +kernel) rfl
theorem zw_1301 : (Jvm.Cond.code ({ cls := "BeanLoomModel", name := "isFaulty", desc := "(I)Z" } : Jvm.MethodName) prog_14_method_36_code (6 : Nat) (Option.some Jvm.ClassFile.FieldType.boolean)) ∈ zx_G := zx_Gt 1301 (by decide +kernel) rfl
theorem zw_1300 : (Jvm.Cond.instanceMethod ({ cls := "BeanLoomModel", name := "isFaulty", desc := "(I)Z" } : Jvm.MethodName)) ∈ zx_G := zx_Gt 1300 (by decide +kernel) rfl
theorem zw_1385 : (Jvm.Cond.methodLink "BeanLoomModel" (224 : Nat) ({ cls := "BeanLoomModel", name := "cast", desc := "(JI)J" } : Jvm.MethodName)) ∈ zx_G := zx_Gt 1385 (by decide +kernel) rfl
theorem zw_1387 : (Jvm.Cond.code ({ cls := "BeanLoomModel", name := "cast", desc := "(JI)J" } : Jvm.MethodName) prog_14_method_39_code (3 : Nat) (Option.some Jvm.ClassFile.FieldType.long)) ∈ zx_G := zx_Gt 1387 (by decide +kernel) rfl
theorem zw_1386 : (Jvm.Cond.static ({ cls := "BeanLoomModel", name := "cast", desc := "(JI)J" } : Jvm.MethodName)) ∈ zx_G := zx_Gt 1386 (by decide +kernel) rfl
theorem zw_1392 : (Jvm.Cond.methodLink "BeanLoomModel" (231 : Nat) ({ cls := "BeanLoomModel", name := "empty", desc := "(I)J" } : Jvm.MethodName)) ∈ zx_G := zx_Gt 1392 (by decide +kernel) rfl
theorem zw_1395 : (Jvm.Cond.code ({ cls := "BeanLoomModel", name := "empty", desc := "(I)J" } : Jvm.MethodName) prog_14_method_41_code (2 : Nat) (Option.some Jvm.ClassFile.FieldType.long)) ∈ zx_G := zx_Gt 1395 (by decide +kernel) rfl
theorem zw_1394 : (Jvm.Cond.instanceMethod ({ cls := "BeanLoomModel", name := "empty", desc := "(I)J" } : Jvm.MethodName)) ∈ zx_G := zx_Gt 1394 (by decide +kernel) rfl
theorem zw_1379 : (Jvm.Cond.methodLink "BeanLoomModel" (235 : Nat) ({ cls := "BeanLoomModel", name := "isValue", desc := "(IJ)Z" } : Jvm.MethodName)) ∈ zx_G := zx_Gt 1379 (by decide +kernel) rfl
theorem zw_1382 : (Jvm.Cond.code ({ cls := "BeanLoomModel", name := "isValue", desc := "(IJ)Z" } : Jvm.MethodName) prog_14_method_40_code (4 : Nat) (Option.some Jvm.ClassFile.FieldType.boolean)) ∈ zx_G := zx_Gt 1382 (by decide +kernel) rfl
theorem zw_1381 : (Jvm.Cond.instanceMethod ({ cls := "BeanLoomModel", name := "isValue", desc := "(IJ)Z" } : Jvm.MethodName)) ∈ zx_G := zx_Gt 1381 (by decide +kernel) rfl
theorem zw_1388 : (Jvm.Cond.methodLink "BeanLoomModel" (239 : Nat) ({ cls := "BeanLoomModel", name := "object", desc := "(I)I" } : Jvm.MethodName)) ∈ zx_G := zx_Gt 1388 (by decide +kernel) rfl
theorem zw_1391 : (Jvm.Cond.code ({ cls := "BeanLoomModel", name := "object", desc := "(I)I" } : Jvm.MethodName) prog_14_method_42_code (3 : Nat) (Option.some Jvm.ClassFile.FieldType.int)) ∈ zx_G := zx_Gt 1391 (by decide +kernel) rfl
theorem zw_1390 : (Jvm.Cond.instanceMethod ({ cls := "BeanLoomModel", name := "object", desc := "(I)I" } : Jvm.MethodName)) ∈ zx_G := zx_Gt 1390 (by decide +kernel) rfl
theorem zw_1400 : (Jvm.Cond.methodLink "BeanLoomModel" (242 : Nat) ({ cls := "BeanLoomModel", name := "isObject", desc := "(I)Z" } : Jvm.MethodName)) ∈ zx_G := zx_Gt 1400 (by decide +kernel) rfl
theorem zw_1403 : (Jvm.Cond.code ({ cls := "BeanLoomModel", name := "isObject", desc := "(I)Z" } : Jvm.MethodName) prog_14_method_44_code (2 : Nat) (Option.some Jvm.ClassFile.FieldType.boolean)) ∈ zx_G := zx_Gt 1403 (by decide +kernel) rfl
theorem zw_1402 : (Jvm.Cond.instanceMethod ({ cls := "BeanLoomModel", name := "isObject", desc := "(I)Z" } : Jvm.MethodName)) ∈ zx_G := zx_Gt 1402 (by decide +kernel) rfl
theorem zw_1439 : (Jvm.Cond.methodLink "BeanLoomModel" (255 : Nat) ({ cls := "BeanLoomModel", name := "doubled", desc := "(J)J" } : Jvm.MethodName)) ∈ zx_G := zx_Gt 1439 (by decide +kernel) rfl
theorem zw_1441 : (Jvm.Cond.code ({ cls := "BeanLoomModel", name := "doubled", desc := "(J)J" } : Jvm.MethodName) prog_14_method_46_code (12 : Nat) (Option.some Jvm.ClassFile.FieldType.long)) ∈ zx_G := zx_Gt 1441 (by decide +kernel) rfl
theorem zw_1440 : (Jvm.Cond.static ({ cls := "BeanLoomModel", name := "doubled", desc := "(J)J" } : Jvm.MethodName)) ∈ zx_G := zx_Gt 1440 (by decide +kernel) rfl
theorem zw_1446 : (Jvm.Cond.methodLink "BeanLoomModel" (259 : Nat) ({ cls := "BeanLoomModel", name := "whole", desc := "(JJJ)J" } : Jvm.MethodName)) ∈ zx_G := zx_Gt 1446 (by decide +kernel) rfl
theorem zw_1448 : (Jvm.Cond.code ({ cls := "BeanLoomModel", name := "whole", desc := "(JJJ)J" } : Jvm.MethodName) prog_14_method_47_code (12 : Nat) (Option.some Jvm.ClassFile.FieldType.long)) ∈ zx_G := zx_Gt 1448 (by decide +kernel) rfl
theorem zw_1447 : (Jvm.Cond.static ({ cls := "BeanLoomModel", name := "whole", desc := "(JJJ)J" } : Jvm.MethodName)) ∈ zx_G := zx_Gt 1447 (by decide +kernel) rfl
theorem zw_1456 : (Jvm.Cond.methodLink "BeanLoomModel" (270 : Nat) ({ cls := "BeanLoomModel", name := "write", desc := "(I)V" } : Jvm.MethodName)) ∈ zx_G := zx_Gt 1456 (by decide +kernel) rfl
theorem zw_1459 : (Jvm.Cond.code ({ cls := "BeanLoomModel", name := "write", desc := "(I)V" } : Jvm.MethodName) prog_14_method_49_code (2 : Nat) (Option.none : Option Jvm.ClassFile.FieldType)) ∈ zx_G := zx_Gt 1459 (by decide +kernel) rfl
theorem zw_1458 : (Jvm.Cond.instanceMethod ({ cls := "BeanLoomModel", name := "write", desc := "(I)V" } : Jvm.MethodName)) ∈ zx_G := zx_Gt 1458 (by decide +kernel) rfl
theorem zw_1460 : (Jvm.Cond.methodLink "BeanLoomModel" (282 : Nat) ({ cls := "BeanLoomModel", name := "writeNumber", desc := "(J)V" } : Jvm.MethodName)) ∈ zx_G := zx_Gt 1460 (by decide +kernel) rfl
theorem zw_1463 : (Jvm.Cond.code ({ cls := "BeanLoomModel", name := "writeNumber", desc := "(J)V" } : Jvm.MethodName) prog_14_method_50_code (7 : Nat) (Option.none : Option Jvm.ClassFile.FieldType)) ∈ zx_G := zx_Gt 1463 (by decide +kernel) rfl
theorem zw_1462 : (Jvm.Cond.instanceMethod ({ cls := "BeanLoomModel", name := "writeNumber", desc := "(J)V" } : Jvm.MethodName)) ∈ zx_G := zx_Gt 1462 (by decide +kernel) rfl
theorem zw_1472 : (Jvm.Cond.methodLink "BeanLoomModel" (290 : Nat) ({ cls := "BeanLoomModel", name := "newText", desc := "()J" } : Jvm.MethodName)) ∈ zx_G := zx_Gt 1472 (by decide +kernel) rfl
theorem zw_1475 : (Jvm.Cond.code ({ cls := "BeanLoomModel", name := "newText", desc := "()J" } : Jvm.MethodName) prog_14_method_52_code (3 : Nat) (Option.some Jvm.ClassFile.FieldType.long)) ∈ zx_G := zx_Gt 1475 (by decide +kernel) rfl
theorem zw_1474 : (Jvm.Cond.instanceMethod ({ cls := "BeanLoomModel", name := "newText", desc := "()J" } : Jvm.MethodName)) ∈ zx_G := zx_Gt 1474 (by decide +kernel) rfl
theorem zw_1468 : (Jvm.Cond.methodLink "BeanLoomModel" (286 : Nat) ({ cls := "BeanLoomModel", name := "writeFour", desc := "(IIII)V" } : Jvm.MethodName)) ∈ zx_G := zx_Gt 1468 (by decide +kernel) rfl
theorem zw_1471 : (Jvm.Cond.code ({ cls := "BeanLoomModel", name := "writeFour", desc := "(IIII)V" } : Jvm.MethodName) prog_14_method_51_code (5 : Nat) (Option.none : Option Jvm.ClassFile.FieldType)) ∈ zx_G := zx_Gt 1471 (by decide +kernel) rfl
theorem zw_1470 : (Jvm.Cond.instanceMethod ({ cls := "BeanLoomModel", name := "writeFour", desc := "(IIII)V" } : Jvm.MethodName)) ∈ zx_G := zx_Gt 1470 (by decide +kernel) rfl
theorem zw_1480 : (Jvm.Cond.methodLink "BeanLoomModel" (294 : Nat) ({ cls := "BeanLoomModel", name := "isTrue", desc := "(I)Z" } : Jvm.MethodName)) ∈ zx_G := zx_Gt 1480 (by decide +kernel) rfl
theorem zw_1483 : (Jvm.Cond.code ({ cls := "BeanLoomModel", name := "isTrue", desc := "(I)Z" } : Jvm.MethodName) prog_14_method_54_code (2 : Nat) (Option.some Jvm.ClassFile.FieldType.boolean)) ∈ zx_G := zx_Gt 1483 (by decide +kernel) rfl
theorem zw_1482 : (Jvm.Cond.instanceMethod ({ cls := "BeanLoomModel", name := "isTrue", desc := "(I)Z" } : Jvm.MethodName)) ∈ zx_G := zx_Gt 1482 (by decide +kernel) rfl
theorem zw_1484 : (Jvm.Cond.methodLink "BeanLoomModel" (297 : Nat) ({ cls := "BeanLoomModel", name := "numberOf", desc := "(II)J" } : Jvm.MethodName)) ∈ zx_G := zx_Gt 1484 (by decide +kernel) rfl
theorem zw_1487 : (Jvm.Cond.code ({ cls := "BeanLoomModel", name := "numberOf", desc := "(II)J" } : Jvm.MethodName) prog_14_method_55_code (10 : Nat) (Option.some Jvm.ClassFile.FieldType.long)) ∈ zx_G := zx_Gt 1487 (by decide +kernel) rfl
theorem zw_1486 : (Jvm.Cond.instanceMethod ({ cls := "BeanLoomModel", name := "numberOf", desc := "(II)J" } : Jvm.MethodName)) ∈ zx_G := zx_Gt 1486 (by decide +kernel) rfl
theorem zw_1432 : (Jvm.Cond.methodLink "BeanLoomModel" (300 : Nat) ({ cls := "BeanLoomModel", name := "plain", desc := "(IJ)J" } : Jvm.MethodName)) ∈ zx_G := zx_Gt 1432 (by decide +kernel) rfl
theorem zw_1435 : (Jvm.Cond.code ({ cls := "BeanLoomModel", name := "plain", desc := "(IJ)J" } : Jvm.MethodName) prog_14_method_58_code (4 : Nat) (Option.some Jvm.ClassFile.FieldType.long)) ∈ zx_G := zx_Gt 1435 (by decide +kernel) rfl
theorem zw_1434 : (Jvm.Cond.instanceMethod ({ cls := "BeanLoomModel", name := "plain", desc := "(IJ)J" } : Jvm.MethodName)) ∈ zx_G := zx_Gt 1434 (by decide +kernel) rfl
theorem zw_1436 : (Jvm.Cond.methodLink "BeanLoomModel" (304 : Nat) ({ cls := "BeanLoomModel", name := "castFrom", desc := "(JII)J" } : Jvm.MethodName)) ∈ zx_G := zx_Gt 1436 (by decide +kernel) rfl
theorem zw_1438 : (Jvm.Cond.code ({ cls := "BeanLoomModel", name := "castFrom", desc := "(JII)J" } : Jvm.MethodName) prog_14_method_48_code (6 : Nat) (Option.some Jvm.ClassFile.FieldType.long)) ∈ zx_G := zx_Gt 1438 (by decide +kernel) rfl
theorem zw_1437 : (Jvm.Cond.static ({ cls := "BeanLoomModel", name := "castFrom", desc := "(JII)J" } : Jvm.MethodName)) ∈ zx_G := zx_Gt 1437 (by decide +kernel) rfl
theorem zw_1452 : (Jvm.Cond.methodLink "BeanLoomModel" (308 : Nat) ({ cls := "BeanLoomModel", name := "toText", desc := "(IJ)J" } : Jvm.MethodName)) ∈ zx_G := zx_Gt 1452 (by decide +kernel) rfl
theorem zw_1455 : (Jvm.Cond.code ({ cls := "BeanLoomModel", name := "toText", desc := "(IJ)J" } : Jvm.MethodName) prog_14_method_53_code (5 : Nat) (Option.some Jvm.ClassFile.FieldType.long)) ∈ zx_G := zx_Gt 1455 (by decide +kernel) rfl
theorem zw_1454 : (Jvm.Cond.instanceMethod ({ cls := "BeanLoomModel", name := "toText", desc := "(IJ)J" } : Jvm.MethodName)) ∈ zx_G := zx_Gt 1454 (by decide +kernel) rfl
theorem zw_1476 : (Jvm.Cond.methodLink "BeanLoomModel" (311 : Nat) ({ cls := "BeanLoomModel", name := "fromText", desc := "(II)J" } : Jvm.MethodName)) ∈ zx_G := zx_Gt 1476 (by decide +kernel) rfl
theorem zw_1479 : (Jvm.Cond.code ({ cls := "BeanLoomModel", name := "fromText", desc := "(II)J" } : Jvm.MethodName) prog_14_method_56_code (3 : Nat) (Option.some Jvm.ClassFile.FieldType.long)) ∈ zx_G := zx_Gt 1479 (by decide +kernel) rfl
theorem zw_1478 : (Jvm.Cond.instanceMethod ({ cls := "BeanLoomModel", name := "fromText", desc := "(II)J" } : Jvm.MethodName)) ∈ zx_G := zx_Gt 1478 (by decide +kernel) rfl
theorem zw_1488 : (Jvm.Cond.methodLink "BeanLoomModel" (314 : Nat) ({ cls := "BeanLoomModel", name := "constant", desc := "(II)J" } : Jvm.MethodName)) ∈ zx_G := zx_Gt 1488 (by decide +kernel) rfl
theorem zw_1491 : (Jvm.Cond.code ({ cls := "BeanLoomModel", name := "constant", desc := "(II)J" } : Jvm.MethodName) prog_14_method_57_code (8 : Nat) (Option.some Jvm.ClassFile.FieldType.long)) ∈ zx_G := zx_Gt 1491 (by decide +kernel) rfl
theorem zw_1490 : (Jvm.Cond.instanceMethod ({ cls := "BeanLoomModel", name := "constant", desc := "(II)J" } : Jvm.MethodName)) ∈ zx_G := zx_Gt 1490 (by decide +kernel) rfl
theorem zw_1496 : (Jvm.Cond.methodLink "BeanLoomModel" (317 : Nat) ({ cls := "BeanLoomModel", name := "boxed", desc := "(IJ)J" } : Jvm.MethodName)) ∈ zx_G := zx_Gt 1496 (by decide +kernel) rfl
theorem zw_1499 : (Jvm.Cond.code ({ cls := "BeanLoomModel", name := "boxed", desc := "(IJ)J" } : Jvm.MethodName) prog_14_method_59_code (5 : Nat) (Option.some Jvm.ClassFile.FieldType.long)) ∈ zx_G := zx_Gt 1499 (by decide +kernel) rfl
theorem zw_1498 : (Jvm.Cond.instanceMethod ({ cls := "BeanLoomModel", name := "boxed", desc := "(IJ)J" } : Jvm.MethodName)) ∈ zx_G := zx_Gt 1498 (by decide +kernel) rfl
theorem zw_1412 : (Jvm.Cond.methodLink "BeanLoomModel" (326 : Nat) ({ cls := "BeanLoomModel", name := "wait", desc := "(III)V" } : Jvm.MethodName)) ∈ zx_G := zx_Gt 1412 (by decide +kernel) rfl
theorem zw_1415 : (Jvm.Cond.code ({ cls := "BeanLoomModel", name := "wait", desc := "(III)V" } : Jvm.MethodName) prog_14_method_64_code (4 : Nat) (Option.none : Option Jvm.ClassFile.FieldType)) ∈ zx_G := zx_Gt 1415 (by decide +kernel) rfl
theorem zw_1414 : (Jvm.Cond.instanceMethod ({ cls := "BeanLoomModel", name := "wait", desc := "(III)V" } : Jvm.MethodName)) ∈ zx_G := zx_Gt 1414 (by decide +kernel) rfl
theorem zw_1408 : (Jvm.Cond.methodLink "BeanLoomModel" (320 : Nat) ({ cls := "BeanLoomModel", name := "mapped", desc := "(IJ)J" } : Jvm.MethodName)) ∈ zx_G := zx_Gt 1408 (by decide +kernel) rfl
theorem zw_1411 : (Jvm.Cond.code ({ cls := "BeanLoomModel", name := "mapped", desc := "(IJ)J" } : Jvm.MethodName) prog_14_method_65_code (5 : Nat) (Option.some Jvm.ClassFile.FieldType.long)) ∈ zx_G := zx_Gt 1411 (by decide +kernel) rfl
theorem zw_1410 : (Jvm.Cond.instanceMethod ({ cls := "BeanLoomModel", name := "mapped", desc := "(IJ)J" } : Jvm.MethodName)) ∈ zx_G := zx_Gt 1410 (by decide +kernel) rfl
theorem zw_1424 : (Jvm.Cond.methodLink "BeanLoomModel" (323 : Nat) ({ cls := "BeanLoomModel", name := "isNull", desc := "(IJ)Z" } : Jvm.MethodName)) ∈ zx_G := zx_Gt 1424 (by decide +kernel) rfl
theorem zw_1427 : (Jvm.Cond.code ({ cls := "BeanLoomModel", name := "isNull", desc := "(IJ)Z" } : Jvm.MethodName) prog_14_method_62_code (4 : Nat) (Option.some Jvm.ClassFile.FieldType.boolean)) ∈ zx_G := zx_Gt 1427 (by decide +kernel) rfl
theorem zw_1426 : (Jvm.Cond.instanceMethod ({ cls := "BeanLoomModel", name := "isNull", desc := "(IJ)Z" } : Jvm.MethodName)) ∈ zx_G := zx_Gt 1426 (by decide +kernel) rfl
theorem zw_1428 : (Jvm.Cond.methodLink "BeanLoomModel" (330 : Nat) ({ cls := "BeanLoomModel", name := "converted", desc := "(IIJ)J" } : Jvm.MethodName)) ∈ zx_G := zx_Gt 1428 (by decide +kernel) rfl
theorem zw_1431 : (Jvm.Cond.code ({ cls := "BeanLoomModel", name := "converted", desc := "(IIJ)J" } : Jvm.MethodName) prog_14_method_60_code (5 : Nat) (Option.some Jvm.ClassFile.FieldType.long)) ∈ zx_G := zx_Gt 1431 (by decide +kernel) rfl
theorem zw_1430 : (Jvm.Cond.instanceMethod ({ cls := "BeanLoomModel", name := "converted", desc := "(IIJ)J" } : Jvm.MethodName)) ∈ zx_G := zx_Gt 1430 (by decide +kernel) rfl
theorem zw_1492 : (Jvm.Cond.methodLink "BeanLoomModel" (334 : Nat) ({ cls := "BeanLoomModel", name := "applied", desc := "(IJ)J" } : Jvm.MethodName)) ∈ zx_G := zx_Gt 1492 (by decide +kernel) rfl
theorem zw_1495 : (Jvm.Cond.code ({ cls := "BeanLoomModel", name := "applied", desc := "(IJ)J" } : Jvm.MethodName) prog_14_method_61_code (4 : Nat) (Option.some Jvm.ClassFile.FieldType.long)) ∈ zx_G := zx_Gt 1495 (by decide +kernel) rfl
theorem zw_1494 : (Jvm.Cond.instanceMethod ({ cls := "BeanLoomModel", name := "applied", desc := "(IJ)J" } : Jvm.MethodName)) ∈ zx_G := zx_Gt 1494 (by decide +kernel) rfl
theorem zw_1420 : (Jvm.Cond.methodLink "BeanLoomModel" (343 : Nat) ({ cls := "BeanLoomModel", name := "become", desc := "(IIJ)J" } : Jvm.MethodName)) ∈ zx_G := zx_Gt 1420 (by decide +kernel) rfl
theorem zw_1423 : (Jvm.Cond.code ({ cls := "BeanLoomModel", name := "become", desc := "(IIJ)J" } : Jvm.MethodName) prog_14_method_63_code (9 : Nat) (Option.some Jvm.ClassFile.FieldType.long)) ∈ zx_G := zx_Gt 1423 (by decide +kernel) rfl
theorem zw_1422 : (Jvm.Cond.instanceMethod ({ cls := "BeanLoomModel", name := "become", desc := "(IIJ)J" } : Jvm.MethodName)) ∈ zx_G := zx_Gt 1422 (by decide +kernel) rfl
theorem zw_1508 : (Jvm.Cond.methodLink "BeanLoomModel" (350 : Nat) ({ cls := "BeanLoomModel", name := "ends", desc := "(IIIIJ)J" } : Jvm.MethodName)) ∈ zx_G := zx_Gt 1508 (by decide +kernel) rfl
theorem zw_1511 : (Jvm.Cond.code ({ cls := "BeanLoomModel", name := "ends", desc := "(IIIIJ)J" } : Jvm.MethodName) prog_14_method_69_code (9 : Nat) (Option.some Jvm.ClassFile.FieldType.long)) ∈ zx_G := zx_Gt 1511 (by decide +kernel) rfl
theorem zw_1510 : (Jvm.Cond.instanceMethod ({ cls := "BeanLoomModel", name := "ends", desc := "(IIIIJ)J" } : Jvm.MethodName)) ∈ zx_G := zx_Gt 1510 (by decide +kernel) rfl
theorem zw_1504 : (Jvm.Cond.methodLink "BeanLoomModel" (346 : Nat) ({ cls := "BeanLoomModel", name := "valueOf", desc := "(IIII)J" } : Jvm.MethodName)) ∈ zx_G := zx_Gt 1504 (by decide +kernel) rfl
theorem zw_1507 : (Jvm.Cond.code ({ cls := "BeanLoomModel", name := "valueOf", desc := "(IIII)J" } : Jvm.MethodName) prog_14_method_68_code (13 : Nat) (Option.some Jvm.ClassFile.FieldType.long)) ∈ zx_G := zx_Gt 1507 (by decide +kernel) rfl
theorem zw_1506 : (Jvm.Cond.instanceMethod ({ cls := "BeanLoomModel", name := "valueOf", desc := "(IIII)J" } : Jvm.MethodName)) ∈ zx_G := zx_Gt 1506 (by decide +kernel) rfl
theorem zw_1416 : (Jvm.Cond.methodLink "BeanLoomModel" (354 : Nat) ({ cls := "BeanLoomModel", name := "fillList", desc := "()V" } : Jvm.MethodName)) ∈ zx_G := zx_Gt 1416 (by decide +kernel) rfl
theorem zw_1419 : (Jvm.Cond.code ({ cls := "BeanLoomModel", name := "fillList", desc := "()V" } : Jvm.MethodName) prog_14_method_66_code (5 : Nat) (Option.none : Option Jvm.ClassFile.FieldType)) ∈ zx_G := zx_Gt 1419 (by decide +kernel) rfl
theorem zw_1418 : (Jvm.Cond.instanceMethod ({ cls := "BeanLoomModel", name := "fillList", desc := "()V" } : Jvm.MethodName)) ∈ zx_G := zx_Gt 1418 (by decide +kernel) rfl
theorem zw_1500 : (Jvm.Cond.methodLink "BeanLoomModel" (357 : Nat) ({ cls := "BeanLoomModel", name := "fillBean", desc := "()V" } : Jvm.MethodName)) ∈ zx_G := zx_Gt 1500 (by decide +kernel) rfl
theorem zw_1503 : (Jvm.Cond.code ({ cls := "BeanLoomModel", name := "fillBean", desc := "()V" } : Jvm.MethodName) prog_14_method_67_code (7 : Nat) (Option.none : Option Jvm.ClassFile.FieldType)) ∈ zx_G := zx_Gt 1503 (by decide +kernel) rfl
theorem zw_1502 : (Jvm.Cond.instanceMethod ({ cls := "BeanLoomModel", name := "fillBean", desc := "()V" } : Jvm.MethodName)) ∈ zx_G := zx_Gt 1502 (by decide +kernel) rfl
theorem zw_905 : (Jvm.Cond.methodLink "BeanLoom$Basics" (24 : Nat) ({ cls := "BeanLoom$Basics", name := "wholeOf", desc := "(J)J" } : Jvm.MethodName)) ∈ zx_G := zx_Gt 905 (by decide +kernel) rfl
theorem zw_907 : (Jvm.Cond.code ({ cls := "BeanLoom$Basics", name := "wholeOf", desc := "(J)J" } : Jvm.MethodName) prog_2_method_11_code (9 : Nat) (Option.some Jvm.ClassFile.FieldType.long)) ∈ zx_G := zx_Gt 907 (by decide +kernel) rfl
theorem zw_906 : (Jvm.Cond.static ({ cls := "BeanLoom$Basics", name := "wholeOf", desc := "(J)J" } : Jvm.MethodName)) ∈ zx_G := zx_Gt 906 (by decide +kernel) rfl
theorem zw_918 : (Jvm.Cond.methodLink "BeanLoom$Basics" (39 : Nat) ({ cls := "BeanLoom$Basics", name := "nearestDouble", desc := "(J)J" } : Jvm.MethodName)) ∈ zx_G := zx_Gt 918 (by decide +kernel) rfl
theorem zw_920 : (Jvm.Cond.code ({ cls := "BeanLoom$Basics", name := "nearestDouble", desc := "(J)J" } : Jvm.MethodName) prog_2_method_12_code (13 : Nat) (Option.some Jvm.ClassFile.FieldType.long)) ∈ zx_G := zx_Gt 920 (by decide +kernel) rfl
theorem zw_919 : (Jvm.Cond.static ({ cls := "BeanLoom$Basics", name := "nearestDouble", desc := "(J)J" } : Jvm.MethodName)) ∈ zx_G := zx_Gt 919 (by decide +kernel) rfl
theorem zw_948 : (Jvm.Cond.methodLink "BeanLoom$Converter" (88 : Nat) ({ cls := "BeanLoom$Store", name := "create", desc := "(I)I" } : Jvm.MethodName)) ∈ zx_G := zx_Gt 948 (by decide +kernel) rfl
theorem zw_812 : (Jvm.Cond.code ({ cls := "BeanLoom$Store", name := "create", desc := "(I)I" } : Jvm.MethodName) prog_10_method_13_code (3 : Nat) (Option.some Jvm.ClassFile.FieldType.int)) ∈ zx_G := zx_Gt 812 (by decide +kernel) rfl
theorem zw_810 : (Jvm.Cond.instanceMethod ({ cls := "BeanLoom$Store", name := "create", desc := "(I)I" } : Jvm.MethodName)) ∈ zx_G := zx_Gt 810 (by decide +kernel) rfl
theorem zw_811 : (Jvm.Cond.selects "BeanLoom$Store" ({ cls := "BeanLoom$Store", name := "create", desc := "(I)I" } : Jvm.MethodName) ({ cls := "BeanLoom$Store", name := "create", desc := "(I)I" } : Jvm.MethodName)) ∈ zx_G := zx_Gt 811 (by decide +kernel) rfl
theorem zw_949 : (Jvm.Cond.methodLink "BeanLoom$Converter" (103 : Nat) ({ cls := "BeanLoom$Store", name := "append", desc := "(IJ)Z" } : Jvm.MethodName)) ∈ zx_G := zx_Gt 949 (by decide +kernel) rfl
theorem zw_925 : (Jvm.Cond.methodLink "BeanLoom$Converter" (109 : Nat) ({ cls := "BeanLoom$Store", name := "length", desc := "(I)I" } : Jvm.MethodName)) ∈ zx_G := zx_Gt 925 (by decide +kernel) rfl
theorem zw_960 : (Jvm.Cond.methodLink "BeanLoom$Converter" (153 : Nat) ({ cls := "BeanLoom$Store", name := "set", desc := "(IIJ)Z" } : Jvm.MethodName)) ∈ zx_G := zx_Gt 960 (by decide +kernel) rfl
theorem zw_900 : (Jvm.Cond.methodLink "BeanLoom$Converter" (97 : Nat) ({ cls := "BeanLoom$Basics", name := "isPrimitive", desc := "(I)Z" } : Jvm.MethodName)) ∈ zx_G := zx_Gt 900 (by decide +kernel) rfl
theorem zw_901 : (Jvm.Cond.methodLink "BeanLoom$Converter" (100 : Nat) ({ cls := "BeanLoom$Store", name := "cell", desc := "(II)J" } : Jvm.MethodName)) ∈ zx_G := zx_Gt 901 (by decide +kernel) rfl
theorem zw_878 : (Jvm.Cond.code ({ cls := "BeanLoom$Store", name := "cell", desc := "(II)J" } : Jvm.MethodName) prog_10_method_9_code (4 : Nat) (Option.some Jvm.ClassFile.FieldType.long)) ∈ zx_G := zx_Gt 878 (by decide +kernel) rfl
theorem zw_876 : (Jvm.Cond.instanceMethod ({ cls := "BeanLoom$Store", name := "cell", desc := "(II)J" } : Jvm.MethodName)) ∈ zx_G := zx_Gt 876 (by decide +kernel) rfl
theorem zw_877 : (Jvm.Cond.selects "BeanLoom$Store" ({ cls := "BeanLoom$Store", name := "cell", desc := "(II)J" } : Jvm.MethodName) ({ cls := "BeanLoom$Store", name := "cell", desc := "(II)J" } : Jvm.MethodName)) ∈ zx_G := zx_Gt 877 (by decide +kernel) rfl
theorem zw_956 : (Jvm.Cond.methodLink "BeanLoom$Converter" (43 : Nat) ({ cls := "BeanLoom$Converter", name := "writeNumber", desc := "(ICJ)V" } : Jvm.MethodName)) ∈ zx_G := zx_Gt 956 (by decide +kernel) rfl
theorem zw_11 : (Jvm.Cond.initialized "BeanLoom$Converter") ∈ zx_G := zx_Gt 11 (by decide +kernel) rfl
theorem zw_959 : (Jvm.Cond.code ({ cls := "BeanLoom$Converter", name := "writeNumber", desc := "(ICJ)V" } : Jvm.MethodName) prog_3_method_12_code (10 : Nat) (Option.none : Option Jvm.ClassFile.FieldType)) ∈ zx_G := zx_Gt 959 (by decide +kernel) rfl
theorem zw_958 : (Jvm.Cond.instanceMethod ({ cls := "BeanLoom$Converter", name := "writeNumber", desc := "(ICJ)V" } : Jvm.MethodName)) ∈ zx_G := zx_Gt 958 (by decide +kernel) rfl
theorem zw_967 : (Jvm.Cond.methodLink "BeanLoom$Converter" (140 : Nat) ({ cls := "BeanLoom$Converter", name := "writeWord", desc := "(ILjava/lang/String;)V" } : Jvm.MethodName)) ∈ zx_G := zx_Gt 967 (by decide +kernel) rfl
theorem zw_970 : (Jvm.Cond.code ({ cls := "BeanLoom$Converter", name := "writeWord", desc := "(ILjava/lang/String;)V" } : Jvm.MethodName) prog_3_method_11_code (4 : Nat) (Option.none : Option Jvm.ClassFile.FieldType)) ∈ zx_G := zx_Gt 970 (by decide +kernel) rfl
theorem zw_969 : (Jvm.Cond.instanceMethod ({ cls := "BeanLoom$Converter", name := "writeWord", desc := "(ILjava/lang/String;)V" } : Jvm.MethodName)) ∈ zx_G := zx_Gt 969 (by decide +kernel) rfl
theorem zw_1023 : (Jvm.Cond.methodLink "BeanLoom$Converter" (157 : Nat) ({ cls := "BeanLoom$Types", name := "memberCount", desc := "(I)I" } : Jvm.MethodName)) ∈ zx_G := zx_Gt 1023 (by decide +kernel) rfl
theorem zw_955 : (Jvm.Cond.methodLink "BeanLoom$Converter" (39 : Nat) ({ cls := "BeanLoom$Types", name := "nameAt", desc := "(II)I" } : Jvm.MethodName)) ∈ zx_G := zx_Gt 955 (by decide +kernel) rfl
theorem zw_723 : (Jvm.Cond.code ({ cls := "BeanLoom$Types", name := "nameAt", desc := "(II)I" } : Jvm.MethodName) prog_11_method_15_code (4 : Nat) (Option.some Jvm.ClassFile.FieldType.int)) ∈ zx_G := zx_Gt 723 (by decide +kernel) rfl
theorem zw_721 : (Jvm.Cond.instanceMethod ({ cls := "BeanLoom$Types", name := "nameAt", desc := "(II)I" } : Jvm.MethodName)) ∈ zx_G := zx_Gt 721 (by decide +kernel) rfl
theorem zw_722 : (Jvm.Cond.selects "BeanLoom$Types" ({ cls := "BeanLoom$Types", name := "nameAt", desc := "(II)I" } : Jvm.MethodName) ({ cls := "BeanLoom$Types", name := "nameAt", desc := "(II)I" } : Jvm.MethodName)) ∈ zx_G := zx_Gt 722 (by decide +kernel) rfl
theorem zw_1024 : (Jvm.Cond.methodLink "BeanLoom$Converter" (160 : Nat) ({ cls := "BeanLoom$Converter", name := "isNameText", desc := "(II)Z" } : Jvm.MethodName)) ∈ zx_G := zx_Gt 1024 (by decide +kernel) rfl
theorem zw_1027 : (Jvm.Cond.code ({ cls := "BeanLoom$Converter", name := "isNameText", desc := "(II)Z" } : Jvm.MethodName) prog_3_method_14_code (3 : Nat) (Option.some Jvm.ClassFile.FieldType.boolean)) ∈ zx_G := zx_Gt 1027 (by decide +kernel) rfl
theorem zw_1026 : (Jvm.Cond.instanceMethod ({ cls := "BeanLoom$Converter", name := "isNameText", desc := "(II)Z" } : Jvm.MethodName)) ∈ zx_G := zx_Gt 1026 (by decide +kernel) rfl
theorem zw_939 : (Jvm.Cond.methodLink "BeanLoom$Converter" (133 : Nat) ({ cls := "BeanLoom$Basics", name := "holds", desc := "(IJ)Z" } : Jvm.MethodName)) ∈ zx_G := zx_Gt 939 (by decide +kernel) rfl
theorem zw_891 : (Jvm.Cond.methodLink "BeanLoom$Converter" (47 : Nat) ({ cls := "BeanLoom$Basics", name := "kindOf", desc := "(I)I" } : Jvm.MethodName)) ∈ zx_G := zx_Gt 891 (by decide +kernel) rfl
theorem zw_746 : (Jvm.Cond.code ({ cls := "BeanLoom$Basics", name := "kindOf", desc := "(I)I" } : Jvm.MethodName) prog_2_method_5_code (1 : Nat) (Option.some Jvm.ClassFile.FieldType.int)) ∈ zx_G := zx_Gt 746 (by decide +kernel) rfl
theorem zw_745 : (Jvm.Cond.static ({ cls := "BeanLoom$Basics", name := "kindOf", desc := "(I)I" } : Jvm.MethodName)) ∈ zx_G := zx_Gt 745 (by decide +kernel) rfl
theorem zw_896 : (Jvm.Cond.methodLink "BeanLoom$Converter" (50 : Nat) ({ cls := "BeanLoom$Converter", name := "unboxed", desc := "(IJ)J" } : Jvm.MethodName)) ∈ zx_G := zx_Gt 896 (by decide +kernel) rfl
theorem zw_899 : (Jvm.Cond.code ({ cls := "BeanLoom$Converter", name := "unboxed", desc := "(IJ)J" } : Jvm.MethodName) prog_3_method_5_code (4 : Nat) (Option.some Jvm.ClassFile.FieldType.long)) ∈ zx_G := zx_Gt 899 (by decide +kernel) rfl
theorem zw_898 : (Jvm.Cond.instanceMethod ({ cls := "BeanLoom$Converter", name := "unboxed", desc := "(IJ)J" } : Jvm.MethodName)) ∈ zx_G := zx_Gt 898 (by decide +kernel) rfl
theorem zw_902 : (Jvm.Cond.methodLink "BeanLoom$Converter" (84 : Nat) ({ cls := "BeanLoom$Basics", name := "cast", desc := "(IIJ)J" } : Jvm.MethodName)) ∈ zx_G := zx_Gt 902 (by decide +kernel) rfl
theorem zw_904 : (Jvm.Cond.code ({ cls := "BeanLoom$Basics", name := "cast", desc := "(IIJ)J" } : Jvm.MethodName) prog_2_method_10_code (6 : Nat) (Option.some Jvm.ClassFile.FieldType.long)) ∈ zx_G := zx_Gt 904 (by decide +kernel) rfl
theorem zw_903 : (Jvm.Cond.static ({ cls := "BeanLoom$Basics", name := "cast", desc := "(IIJ)J" } : Jvm.MethodName)) ∈ zx_G := zx_Gt 903 (by decide +kernel) rfl
theorem zw_921 : (Jvm.Cond.methodLink "BeanLoom$Converter" (106 : Nat) ({ cls := "BeanLoom$Converter", name := "isTrue", desc := "(I)Z" } : Jvm.MethodName)) ∈ zx_G := zx_Gt 921 (by decide +kernel) rfl
theorem zw_924 : (Jvm.Cond.code ({ cls := "BeanLoom$Converter", name := "isTrue", desc := "(I)Z" } : Jvm.MethodName) prog_3_method_8_code (2 : Nat) (Option.some Jvm.ClassFile.FieldType.boolean)) ∈ zx_G := zx_Gt 924 (by decide +kernel) rfl
theorem zw_923 : (Jvm.Cond.instanceMethod ({ cls := "BeanLoom$Converter", name := "isTrue", desc := "(I)Z" } : Jvm.MethodName)) ∈ zx_G := zx_Gt 923 (by decide +kernel) rfl
theorem zw_930 : (Jvm.Cond.methodLink "BeanLoom$Converter" (112 : Nat) ({ cls := "BeanLoom$Converter", name := "number", desc := "(II)J" } : Jvm.MethodName)) ∈ zx_G := zx_Gt 930 (by decide +kernel) rfl
theorem zw_933 : (Jvm.Cond.code ({ cls := "BeanLoom$Converter", name := "number", desc := "(II)J" } : Jvm.MethodName) prog_3_method_9_code (12 : Nat) (Option.some Jvm.ClassFile.FieldType.long)) ∈ zx_G := zx_Gt 933 (by decide +kernel) rfl
theorem zw_932 : (Jvm.Cond.instanceMethod ({ cls := "BeanLoom$Converter", name := "number", desc := "(II)J" } : Jvm.MethodName)) ∈ zx_G := zx_Gt 932 (by decide +kernel) rfl
theorem zw_944 : (Jvm.Cond.methodLink "BeanLoom$Converter" (29 : Nat) ({ cls := "BeanLoom$Converter", name := "created", desc := "(I)I" } : Jvm.MethodName)) ∈ zx_G := zx_Gt 944 (by decide +kernel) rfl
theorem zw_947 : (Jvm.Cond.code ({ cls := "BeanLoom$Converter", name := "created", desc := "(I)I" } : Jvm.MethodName) prog_3_method_4_code (3 : Nat) (Option.some Jvm.ClassFile.FieldType.int)) ∈ zx_G := zx_Gt 947 (by decide +kernel) rfl
theorem zw_945 : (Jvm.Cond.instanceMethod ({ cls := "BeanLoom$Converter", name := "created", desc := "(I)I" } : Jvm.MethodName)) ∈ zx_G := zx_Gt 945 (by decide +kernel) rfl
theorem zw_946 : (Jvm.Cond.selects "BeanLoom$Converter" ({ cls := "BeanLoom$Converter", name := "created", desc := "(I)I" } : Jvm.MethodName) ({ cls := "BeanLoom$Converter", name := "created", desc := "(I)I" } : Jvm.MethodName)) ∈ zx_G := zx_Gt 946 (by decide +kernel) rfl
theorem zw_887 : (Jvm.Cond.methodLink "BeanLoom$Converter" (19 : Nat) ({ cls := "BeanLoom$Basics", name := "isNull", desc := "(IJ)Z" } : Jvm.MethodName)) ∈ zx_G := zx_Gt 887 (by decide +kernel) rfl
theorem zw_889 : (Jvm.Cond.code ({ cls := "BeanLoom$Basics", name := "isNull", desc := "(IJ)Z" } : Jvm.MethodName) prog_2_method_7_code (3 : Nat) (Option.some Jvm.ClassFile.FieldType.boolean)) ∈ zx_G := zx_Gt 889 (by decide +kernel) rfl
theorem zw_888 : (Jvm.Cond.static ({ cls := "BeanLoom$Basics", name := "isNull", desc := "(IJ)Z" } : Jvm.MethodName)) ∈ zx_G := zx_Gt 888 (by decide +kernel) rfl
theorem zw_890 : (Jvm.Cond.methodLink "BeanLoom$Converter" (25 : Nat) ({ cls := "BeanLoom$Basics", name := "emptyOf", desc := "(I)J" } : Jvm.MethodName)) ∈ zx_G := zx_Gt 890 (by decide +kernel) rfl
theorem zw_816 : (Jvm.Cond.code ({ cls := "BeanLoom$Basics", name := "emptyOf", desc := "(I)J" } : Jvm.MethodName) prog_2_method_8_code (1 : Nat) (Option.some Jvm.ClassFile.FieldType.long)) ∈ zx_G := zx_Gt 816 (by decide +kernel) rfl
theorem zw_815 : (Jvm.Cond.static ({ cls := "BeanLoom$Basics", name := "emptyOf", desc := "(I)J" } : Jvm.MethodName)) ∈ zx_G := zx_Gt 815 (by decide +kernel) rfl
theorem zw_954 : (Jvm.Cond.methodLink "BeanLoom$Converter" (33 : Nat) ({ cls := "BeanLoom$Types", name := "isEnum", desc := "(I)Z" } : Jvm.MethodName)) ∈ zx_G := zx_Gt 954 (by decide +kernel) rfl
theorem zw_961 : (Jvm.Cond.methodLink "BeanLoom$Converter" (54 : Nat) ({ cls := "BeanLoom$Converter", name := "writePlain", desc := "(IIJ)V" } : Jvm.MethodName)) ∈ zx_G := zx_Gt 961 (by decide +kernel) rfl
theorem zw_964 : (Jvm.Cond.code ({ cls := "BeanLoom$Converter", name := "writePlain", desc := "(IIJ)V" } : Jvm.MethodName) prog_3_method_10_code (5 : Nat) (Option.none : Option Jvm.ClassFile.FieldType)) ∈ zx_G := zx_Gt 964 (by decide +kernel) rfl
theorem zw_963 : (Jvm.Cond.instanceMethod ({ cls := "BeanLoom$Converter", name := "writePlain", desc := "(IIJ)V" } : Jvm.MethodName)) ∈ zx_G := zx_Gt 963 (by decide +kernel) rfl
theorem zw_1019 : (Jvm.Cond.methodLink "BeanLoom$Converter" (58 : Nat) ({ cls := "BeanLoom$Converter", name := "constantOf", desc := "(II)J" } : Jvm.MethodName)) ∈ zx_G := zx_Gt 1019 (by decide +kernel) rfl
theorem zw_1022 : (Jvm.Cond.code ({ cls := "BeanLoom$Converter", name := "constantOf", desc := "(II)J" } : Jvm.MethodName) prog_3_method_13_code (5 : Nat) (Option.some Jvm.ClassFile.FieldType.long)) ∈ zx_G := zx_Gt 1022 (by decide +kernel) rfl
theorem zw_1021 : (Jvm.Cond.instanceMethod ({ cls := "BeanLoom$Converter", name := "constantOf", desc := "(II)J" } : Jvm.MethodName)) ∈ zx_G := zx_Gt 1021 (by decide +kernel) rfl
theorem zw_892 : (Jvm.Cond.methodLink "BeanLoom$Converter" (62 : Nat) ({ cls := "BeanLoom$Converter", name := "plain", desc := "(IJI)J" } : Jvm.MethodName)) ∈ zx_G := zx_Gt 892 (by decide +kernel) rfl
theorem zw_895 : (Jvm.Cond.code ({ cls := "BeanLoom$Converter", name := "plain", desc := "(IJI)J" } : Jvm.MethodName) prog_3_method_7_code (6 : Nat) (Option.some Jvm.ClassFile.FieldType.long)) ∈ zx_G := zx_Gt 895 (by decide +kernel) rfl
theorem zw_894 : (Jvm.Cond.instanceMethod ({ cls := "BeanLoom$Converter", name := "plain", desc := "(IJI)J" } : Jvm.MethodName)) ∈ zx_G := zx_Gt 894 (by decide +kernel) rfl
theorem zw_940 : (Jvm.Cond.methodLink "BeanLoom$Converter" (66 : Nat) ({ cls := "BeanLoom$Converter", name := "boxed", desc := "(IJ)J" } : Jvm.MethodName)) ∈ zx_G := zx_Gt 940 (by decide +kernel) rfl
theorem zw_943 : (Jvm.Cond.code ({ cls := "BeanLoom$Converter", name := "boxed", desc := "(IJ)J" } : Jvm.MethodName) prog_3_method_6_code (5 : Nat) (Option.some Jvm.ClassFile.FieldType.long)) ∈ zx_G := zx_Gt 943 (by decide +kernel) rfl
theorem zw_942 : (Jvm.Cond.instanceMethod ({ cls := "BeanLoom$Converter", name := "boxed", desc := "(IJ)J" } : Jvm.MethodName)) ∈ zx_G := zx_Gt 942 (by decide +kernel) rfl
theorem zw_809 : (Jvm.Cond.methodLink "BeanLoom$Store" (36 : Nat) ({ cls := "BeanLoom$Store", name := "create", desc := "(I)I" } : Jvm.MethodName)) ∈ zx_G := zx_Gt 809 (by decide +kernel) rfl
theorem zw_813 : (Jvm.Cond.methodLink "BeanLoom$Store" (45 : Nat) ({ cls := "BeanLoom$Types", name := "typeAt", desc := "(II)I" } : Jvm.MethodName)) ∈ zx_G := zx_Gt 813 (by decide +kernel) rfl
theorem zw_814 : (Jvm.Cond.methodLink "BeanLoom$Store" (49 : Nat) ({ cls := "BeanLoom$Basics", name := "emptyOf", desc := "(I)J" } : Jvm.MethodName)) ∈ zx_G := zx_Gt 814 (by decide +kernel) rfl
theorem zw_818 : (Jvm.Cond.methodLink "BeanLoom$Store" (32 : Nat) ({ cls := "BeanLoom$Store", name := "append", desc := "(IJ)Z" } : Jvm.MethodName)) ∈ zx_G := zx_Gt 818 (by decide +kernel) rfl
theorem zw_854 : (Jvm.Cond.methodLink "BeanLoom$Mapper" (215 : Nat) ({ cls := "BeanLoom$Store", name := "createBean", desc := "(I)I" } : Jvm.MethodName)) ∈ zx_G := zx_Gt 854 (by decide +kernel) rfl
theorem zw_808 : (Jvm.Cond.code ({ cls := "BeanLoom$Store", name := "createBean", desc := "(I)I" } : Jvm.MethodName) prog_10_method_14_code (5 : Nat) (Option.some Jvm.ClassFile.FieldType.int)) ∈ zx_G := zx_Gt 808 (by decide +kernel) rfl
theorem zw_806 : (Jvm.Cond.instanceMethod ({ cls := "BeanLoom$Store", name := "createBean", desc := "(I)I" } : Jvm.MethodName)) ∈ zx_G := zx_Gt 806 (by decide +kernel) rfl
theorem zw_807 : (Jvm.Cond.selects "BeanLoom$Store" ({ cls := "BeanLoom$Store", name := "createBean", desc := "(I)I" } : Jvm.MethodName) ({ cls := "BeanLoom$Store", name := "createBean", desc := "(I)I" } : Jvm.MethodName)) ∈ zx_G := zx_Gt 807 (by decide +kernel) rfl
theorem zw_855 : (Jvm.Cond.methodLink "BeanLoom$Mapper" (186 : Nat) ({ cls := "BeanLoom$Mapper", name := "begin", desc := "(III)V" } : Jvm.MethodName)) ∈ zx_G := zx_Gt 855 (by decide +kernel) rfl
theorem zw_10 : (Jvm.Cond.initialized "BeanLoom$Mapper") ∈ zx_G := zx_Gt 10 (by decide +kernel) rfl
theorem zw_858 : (Jvm.Cond.code ({ cls := "BeanLoom$Mapper", name := "begin", desc := "(III)V" } : Jvm.MethodName) prog_5_method_4_code (4 : Nat) (Option.none : Option Jvm.ClassFile.FieldType)) ∈ zx_G := zx_Gt 858 (by decide +kernel) rfl
theorem zw_857 : (Jvm.Cond.instanceMethod ({ cls := "BeanLoom$Mapper", name := "begin", desc := "(III)V" } : Jvm.MethodName)) ∈ zx_G := zx_Gt 857 (by decide +kernel) rfl
theorem zw_846 : (Jvm.Cond.methodLink "BeanLoom$Mapper" (189 : Nat) ({ cls := "BeanLoom$Model", name := "hasMethod", desc := "(J)Z" } : Jvm.MethodName)) ∈ zx_G := zx_Gt 846 (by decide +kernel) rfl
theorem zw_3 : (Jvm.Cond.initialized "BeanLoom$Model") ∈ zx_G := zx_Gt 3 (by decide +kernel) rfl
theorem zw_650 : (Jvm.Cond.code ({ cls := "BeanLoom$Model", name := "hasMethod", desc := "(J)Z" } : Jvm.MethodName) prog_7_method_2_code (3 : Nat) (Option.some Jvm.ClassFile.FieldType.boolean)) ∈ zx_G := zx_Gt 650 (by decide +kernel) rfl
theorem zw_648 : (Jvm.Cond.instanceMethod ({ cls := "BeanLoom$Model", name := "hasMethod", desc := "(J)Z" } : Jvm.MethodName)) ∈ zx_G := zx_Gt 648 (by decide +kernel) rfl
theorem zw_649 : (Jvm.Cond.selects "BeanLoom$Model" ({ cls := "BeanLoom$Model", name := "hasMethod", desc := "(J)Z" } : Jvm.MethodName) ({ cls := "BeanLoom$Model", name := "hasMethod", desc := "(J)Z" } : Jvm.MethodName)) ∈ zx_G := zx_Gt 649 (by decide +kernel) rfl
theorem zw_848 : (Jvm.Cond.methodLink "BeanLoom$Mapper" (193 : Nat) ({ cls := "BeanLoom$Types", name := "isBean", desc := "(I)Z" } : Jvm.MethodName)) ∈ zx_G := zx_Gt 848 (by decide +kernel) rfl
theorem zw_849 : (Jvm.Cond.methodLink "BeanLoom$Mapper" (197 : Nat) ({ cls := "BeanLoom$Mapper", name := "beanOf", desc := "(ILBeanLoom$Method;J)J" } : Jvm.MethodName)) ∈ zx_G := zx_Gt 849 (by decide +kernel) rfl
theorem zw_852 : (Jvm.Cond.code ({ cls := "BeanLoom$Mapper", name := "beanOf", desc := "(ILBeanLoom$Method;J)J" } : Jvm.MethodName) prog_5_method_11_code (7 : Nat) (Option.some Jvm.ClassFile.FieldType.long)) ∈ zx_G := zx_Gt 852 (by decide +kernel) rfl
theorem zw_851 : (Jvm.Cond.instanceMethod ({ cls := "BeanLoom$Mapper", name := "beanOf", desc := "(ILBeanLoom$Method;J)J" } : Jvm.MethodName)) ∈ zx_G := zx_Gt 851 (by decide +kernel) rfl
theorem zw_859 : (Jvm.Cond.methodLink "BeanLoom$Mapper" (201 : Nat) ({ cls := "BeanLoom$Mapper", name := "constantOf", desc := "(LBeanLoom$Method;J)J" } : Jvm.MethodName)) ∈ zx_G := zx_Gt 859 (by decide +kernel) rfl
theorem zw_862 : (Jvm.Cond.code ({ cls := "BeanLoom$Mapper", name := "constantOf", desc := "(LBeanLoom$Method;J)J" } : Jvm.MethodName) prog_5_method_10_code (5 : Nat) (Option.some Jvm.ClassFile.FieldType.long)) ∈ zx_G := zx_Gt 862 (by decide +kernel) rfl
theorem zw_861 : (Jvm.Cond.instanceMethod ({ cls := "BeanLoom$Mapper", name := "constantOf", desc := "(LBeanLoom$Method;J)J" } : Jvm.MethodName)) ∈ zx_G := zx_Gt 861 (by decide +kernel) rfl
theorem zw_754 : (Jvm.Cond.methodLink "BeanLoom$Ways" (23 : Nat) ({ cls := "BeanLoom$Types", name := "exists", desc := "(I)Z" } : Jvm.MethodName)) ∈ zx_G := zx_Gt 754 (by decide +kernel) rfl
theorem zw_589 : (Jvm.Cond.code ({ cls := "BeanLoom$Types", name := "exists", desc := "(I)Z" } : Jvm.MethodName) prog_11_method_6_code (2 : Nat) (Option.some Jvm.ClassFile.FieldType.boolean)) ∈ zx_G := zx_Gt 589 (by decide +kernel) rfl
theorem zw_587 : (Jvm.Cond.instanceMethod ({ cls := "BeanLoom$Types", name := "exists", desc := "(I)Z" } : Jvm.MethodName)) ∈ zx_G := zx_Gt 587 (by decide +kernel) rfl
theorem zw_588 : (Jvm.Cond.selects "BeanLoom$Types" ({ cls := "BeanLoom$Types", name := "exists", desc := "(I)Z" } : Jvm.MethodName) ({ cls := "BeanLoom$Types", name := "exists", desc := "(I)Z" } : Jvm.MethodName)) ∈ zx_G := zx_Gt 588 (by decide +kernel) rfl
theorem zw_1034 : (Jvm.Cond.methodLink "BeanLoom$Mapper" (183 : Nat) ({ cls := "BeanLoom$Converter", name := "created", desc := "(I)I" } : Jvm.MethodName)) ∈ zx_G := zx_Gt 1034 (by decide +kernel) rfl
theorem zw_883 : (Jvm.Cond.methodLink "BeanLoom$Mapper" (172 : Nat) ({ cls := "BeanLoom$Converter", name := "byFunction", desc := "(LBeanLoom$Function;IJ)J" } : Jvm.MethodName)) ∈ zx_G := zx_Gt 883 (by decide +kernel) rfl
theorem zw_886 : (Jvm.Cond.code ({ cls := "BeanLoom$Converter", name := "byFunction", desc := "(LBeanLoom$Function;IJ)J" } : Jvm.MethodName) prog_3_method_3_code (7 : Nat) (Option.some Jvm.ClassFile.FieldType.long)) ∈ zx_G := zx_Gt 886 (by decide +kernel) rfl
theorem zw_884 : (Jvm.Cond.instanceMethod ({ cls := "BeanLoom$Converter", name := "byFunction", desc := "(LBeanLoom$Function;IJ)J" } : Jvm.MethodName)) ∈ zx_G := zx_Gt 884 (by decide +kernel) rfl
theorem zw_885 : (Jvm.Cond.selects "BeanLoom$Converter" ({ cls := "BeanLoom$Converter", name := "byFunction", desc := "(LBeanLoom$Function;IJ)J" } : Jvm.MethodName) ({ cls := "BeanLoom$Converter", name := "byFunction", desc := "(LBeanLoom$Function;IJ)J" } : Jvm.MethodName)) ∈ zx_G := zx_Gt 885 (by decide +kernel) rfl
theorem zw_842 : (Jvm.Cond.methodLink "BeanLoom$Mapper" (66 : Nat) ({ cls := "BeanLoom$Mapper", name := "byMethod", desc := "(IJ)J" } : Jvm.MethodName)) ∈ zx_G := zx_Gt 842 (by decide +kernel) rfl
theorem zw_845 : (Jvm.Cond.code ({ cls := "BeanLoom$Mapper", name := "byMethod", desc := "(IJ)J" } : Jvm.MethodName) prog_5_method_9_code (5 : Nat) (Option.some Jvm.ClassFile.FieldType.long)) ∈ zx_G := zx_Gt 845 (by decide +kernel) rfl
theorem zw_844 : (Jvm.Cond.instanceMethod ({ cls := "BeanLoom$Mapper", name := "byMethod", desc := "(IJ)J" } : Jvm.MethodName)) ∈ zx_G := zx_Gt 844 (by decide +kernel) rfl
theorem zw_950 : (Jvm.Cond.methodLink "BeanLoom$Mapper" (176 : Nat) ({ cls := "BeanLoom$Converter", name := "byTable", desc := "(IIJ)J" } : Jvm.MethodName)) ∈ zx_G := zx_Gt 950 (by decide +kernel) rfl
theorem zw_953 : (Jvm.Cond.code ({ cls := "BeanLoom$Converter", name := "byTable", desc := "(IIJ)J" } : Jvm.MethodName) prog_3_method_2_code (6 : Nat) (Option.some Jvm.ClassFile.FieldType.long)) ∈ zx_G := zx_Gt 953 (by decide +kernel) rfl
theorem zw_951 : (Jvm.Cond.instanceMethod ({ cls := "BeanLoom$Converter", name := "byTable", desc := "(IIJ)J" } : Jvm.MethodName)) ∈ zx_G := zx_Gt 951 (by decide +kernel) rfl
theorem zw_952 : (Jvm.Cond.selects "BeanLoom$Converter" ({ cls := "BeanLoom$Converter", name := "byTable", desc := "(IIJ)J" } : Jvm.MethodName) ({ cls := "BeanLoom$Converter", name := "byTable", desc := "(IIJ)J" } : Jvm.MethodName)) ∈ zx_G := zx_Gt 952 (by decide +kernel) rfl
theorem zw_1030 : (Jvm.Cond.methodLink "BeanLoom$Mapper" (180 : Nat) ({ cls := "BeanLoom$Mapper", name := "beginList", desc := "(IJ)J" } : Jvm.MethodName)) ∈ zx_G := zx_Gt 1030 (by decide +kernel) rfl
theorem zw_1033 : (Jvm.Cond.code ({ cls := "BeanLoom$Mapper", name := "beginList", desc := "(IJ)J" } : Jvm.MethodName) prog_5_method_8_code (5 : Nat) (Option.some Jvm.ClassFile.FieldType.long)) ∈ zx_G := zx_Gt 1033 (by decide +kernel) rfl
theorem zw_1032 : (Jvm.Cond.instanceMethod ({ cls := "BeanLoom$Mapper", name := "beginList", desc := "(IJ)J" } : Jvm.MethodName)) ∈ zx_G := zx_Gt 1032 (by decide +kernel) rfl
theorem zw_869 : (Jvm.Cond.methodLink "BeanLoom$Mapper" (89 : Nat) ({ cls := "BeanLoom$Store", name := "typeOf", desc := "(I)I" } : Jvm.MethodName)) ∈ zx_G := zx_Gt 869 (by decide +kernel) rfl
theorem zw_870 : (Jvm.Cond.methodLink "BeanLoom$Mapper" (92 : Nat) ({ cls := "BeanLoom$Types", name := "element", desc := "(I)I" } : Jvm.MethodName)) ∈ zx_G := zx_Gt 870 (by decide +kernel) rfl
theorem zw_871 : (Jvm.Cond.methodLink "BeanLoom$Mapper" (97 : Nat) ({ cls := "BeanLoom$Ways", name := "known", desc := "(II)I" } : Jvm.MethodName)) ∈ zx_G := zx_Gt 871 (by decide +kernel) rfl
theorem zw_8 : (Jvm.Cond.initialized "BeanLoom$Ways") ∈ zx_G := zx_Gt 8 (by decide +kernel) rfl
theorem zw_874 : (Jvm.Cond.code ({ cls := "BeanLoom$Ways", name := "known", desc := "(II)I" } : Jvm.MethodName) prog_12_method_2_code (3 : Nat) (Option.some Jvm.ClassFile.FieldType.int)) ∈ zx_G := zx_Gt 874 (by decide +kernel) rfl
theorem zw_872 : (Jvm.Cond.instanceMethod ({ cls := "BeanLoom$Ways", name := "known", desc := "(II)I" } : Jvm.MethodName)) ∈ zx_G := zx_Gt 872 (by decide +kernel) rfl
theorem zw_873 : (Jvm.Cond.selects "BeanLoom$Ways" ({ cls := "BeanLoom$Ways", name := "known", desc := "(II)I" } : Jvm.MethodName) ({ cls := "BeanLoom$Ways", name := "known", desc := "(II)I" } : Jvm.MethodName)) ∈ zx_G := zx_Gt 873 (by decide +kernel) rfl
theorem zw_875 : (Jvm.Cond.methodLink "BeanLoom$Mapper" (103 : Nat) ({ cls := "BeanLoom$Store", name := "cell", desc := "(II)J" } : Jvm.MethodName)) ∈ zx_G := zx_Gt 875 (by decide +kernel) rfl
theorem zw_879 : (Jvm.Cond.methodLink "BeanLoom$Mapper" (107 : Nat) ({ cls := "BeanLoom$Mapper", name := "become", desc := "(IIIJ)J" } : Jvm.MethodName)) ∈ zx_G := zx_Gt 879 (by decide +kernel) rfl
theorem zw_882 : (Jvm.Cond.code ({ cls := "BeanLoom$Mapper", name := "become", desc := "(IIIJ)J" } : Jvm.MethodName) prog_5_method_7_code (7 : Nat) (Option.some Jvm.ClassFile.FieldType.long)) ∈ zx_G := zx_Gt 882 (by decide +kernel) rfl
theorem zw_881 : (Jvm.Cond.instanceMethod ({ cls := "BeanLoom$Mapper", name := "become", desc := "(IIIJ)J" } : Jvm.MethodName)) ∈ zx_G := zx_Gt 881 (by decide +kernel) rfl
theorem zw_1035 : (Jvm.Cond.methodLink "BeanLoom$Mapper" (111 : Nat) ({ cls := "BeanLoom$Store", name := "append", desc := "(IJ)Z" } : Jvm.MethodName)) ∈ zx_G := zx_Gt 1035 (by decide +kernel) rfl
theorem zw_1040 : (Jvm.Cond.methodLink "BeanLoom$Mapper" (124 : Nat) ({ cls := "BeanLoom$Types", name := "typeAt", desc := "(II)I" } : Jvm.MethodName)) ∈ zx_G := zx_Gt 1040 (by decide +kernel) rfl
theorem zw_1041 : (Jvm.Cond.methodLink "BeanLoom$Mapper" (139 : Nat) ({ cls := "BeanLoom$Store", name := "set", desc := "(IIJ)Z" } : Jvm.MethodName)) ∈ zx_G := zx_Gt 1041 (by decide +kernel) rfl
theorem zw_1042 : (Jvm.Cond.methodLink "BeanLoom$Mapper" (157 : Nat) ({ cls := "BeanLoom$Basics", name := "isNull", desc := "(IJ)Z" } : Jvm.MethodName)) ∈ zx_G := zx_Gt 1042 (by decide +kernel) rfl
theorem zw_839 : (Jvm.Cond.methodLink "BeanLoom$Mapper" (60 : Nat) ({ cls := "java/util/Arrays", name := "fill", desc := "([II)V" } : Jvm.MethodName)) ∈ zx_G := zx_Gt 839 (by decide +kernel) rfl
theorem zw_19 : (Jvm.Cond.initialized "java/util/Arrays") ∈ zx_G := zx_Gt 19 (by decide +kernel) rfl
theorem zw_841 : (Jvm.Cond.code ({ cls := "java/util/Arrays", name := "fill", desc := "([II)V" } : Jvm.MethodName) prog_26_method_103_code (4 : Nat) (Option.none : Option Jvm.ClassFile.FieldType)) ∈ zx_G := zx_Gt 841 (by decide +kernel) rfl
theorem zw_840 : (Jvm.Cond.static ({ cls := "java/util/Arrays", name := "fill", desc := "([II)V" } : Jvm.MethodName)) ∈ zx_G := zx_Gt 840 (by decide +kernel) rfl
theorem zw_864 : (Jvm.Cond.methodLink "BeanLoom$Mapper" (70 : Nat) ({ cls := "BeanLoom$Store", name := "length", desc := "(I)I" } : Jvm.MethodName)) ∈ zx_G := zx_Gt 864 (by decide +kernel) rfl
theorem zw_865 : (Jvm.Cond.methodLink "BeanLoom$Mapper" (76 : Nat) ({ cls := "BeanLoom$Mapper", name := "fillList", desc := "(III)V" } : Jvm.MethodName)) ∈ zx_G := zx_Gt 865 (by decide +kernel) rfl
theorem zw_868 : (Jvm.Cond.code ({ cls := "BeanLoom$Mapper", name := "fillList", desc := "(III)V" } : Jvm.MethodName) prog_5_method_5_code (6 : Nat) (Option.none : Option Jvm.ClassFile.FieldType)) ∈ zx_G := zx_Gt 868 (by decide +kernel) rfl
theorem zw_867 : (Jvm.Cond.instanceMethod ({ cls := "BeanLoom$Mapper", name := "fillList", desc := "(III)V" } : Jvm.MethodName)) ∈ zx_G := zx_Gt 867 (by decide +kernel) rfl
theorem zw_1036 : (Jvm.Cond.methodLink "BeanLoom$Mapper" (85 : Nat) ({ cls := "BeanLoom$Mapper", name := "fillProperty", desc := "(LBeanLoom$Method;III)V" } : Jvm.MethodName)) ∈ zx_G := zx_Gt 1036 (by decide +kernel) rfl
theorem zw_1039 : (Jvm.Cond.code ({ cls := "BeanLoom$Mapper", name := "fillProperty", desc := "(LBeanLoom$Method;III)V" } : Jvm.MethodName) prog_5_method_6_code (13 : Nat) (Option.none : Option Jvm.ClassFile.FieldType)) ∈ zx_G := zx_Gt 1039 (by decide +kernel) rfl
theorem zw_1038 : (Jvm.Cond.instanceMethod ({ cls := "BeanLoom$Mapper", name := "fillProperty", desc := "(LBeanLoom$Method;III)V" } : Jvm.MethodName)) ∈ zx_G := zx_Gt 1038 (by decide +kernel) rfl
theorem zw_673 : (Jvm.Cond.methodLink "BeanLoom$Model" (61 : Nat) ({ cls := "BeanLoom$Model", name := "hasFunction", desc := "(J)Z" } : Jvm.MethodName)) ∈ zx_G := zx_Gt 673 (by decide +kernel) rfl
theorem zw_676 : (Jvm.Cond.code ({ cls := "BeanLoom$Model", name := "hasFunction", desc := "(J)Z" } : Jvm.MethodName) prog_7_method_3_code (3 : Nat) (Option.some Jvm.ClassFile.FieldType.boolean)) ∈ zx_G := zx_Gt 676 (by decide +kernel) rfl
theorem zw_674 : (Jvm.Cond.instanceMethod ({ cls := "BeanLoom$Model", name := "hasFunction", desc := "(J)Z" } : Jvm.MethodName)) ∈ zx_G := zx_Gt 674 (by decide +kernel) rfl
theorem zw_675 : (Jvm.Cond.selects "BeanLoom$Model" ({ cls := "BeanLoom$Model", name := "hasFunction", desc := "(J)Z" } : Jvm.MethodName) ({ cls := "BeanLoom$Model", name := "hasFunction", desc := "(J)Z" } : Jvm.MethodName)) ∈ zx_G := zx_Gt 675 (by decide +kernel) rfl
theorem zw_704 : (Jvm.Cond.methodLink "BeanLoom$Plan" (19 : Nat) ({ cls := "BeanLoom$Types", name := "nameIn", desc := "(JI)I" } : Jvm.MethodName)) ∈ zx_G := zx_Gt 704 (by decide +kernel) rfl
theorem zw_473 : (Jvm.Cond.code ({ cls := "BeanLoom$Types", name := "nameIn", desc := "(JI)I" } : Jvm.MethodName) prog_11_method_2_code (3 : Nat) (Option.some Jvm.ClassFile.FieldType.int)) ∈ zx_G := zx_Gt 473 (by decide +kernel) rfl
theorem zw_472 : (Jvm.Cond.static ({ cls := "BeanLoom$Types", name := "nameIn", desc := "(JI)I" } : Jvm.MethodName)) ∈ zx_G := zx_Gt 472 (by decide +kernel) rfl
theorem zw_705 : (Jvm.Cond.methodLink "BeanLoom$Plan" (25 : Nat) ({ cls := "BeanLoom$Types", name := "isBean", desc := "(I)Z" } : Jvm.MethodName)) ∈ zx_G := zx_Gt 705 (by decide +kernel) rfl
theorem zw_706 : (Jvm.Cond.methodLink "BeanLoom$Plan" (29 : Nat) ({ cls := "BeanLoom$Types", name := "placeOf", desc := "(IJ)I" } : Jvm.MethodName)) ∈ zx_G := zx_Gt 706 (by decide +kernel) rfl
theorem zw_593 : (Jvm.Cond.code ({ cls := "BeanLoom$Types", name := "placeOf", desc := "(IJ)I" } : Jvm.MethodName) prog_11_method_17_code (6 : Nat) (Option.some Jvm.ClassFile.FieldType.int)) ∈ zx_G := zx_Gt 593 (by decide +kernel) rfl
theorem zw_591 : (Jvm.Cond.instanceMethod ({ cls := "BeanLoom$Types", name := "placeOf", desc := "(IJ)I" } : Jvm.MethodName)) ∈ zx_G := zx_Gt 591 (by decide +kernel) rfl
theorem zw_592 : (Jvm.Cond.selects "BeanLoom$Types" ({ cls := "BeanLoom$Types", name := "placeOf", desc := "(IJ)I" } : Jvm.MethodName) ({ cls := "BeanLoom$Types", name := "placeOf", desc := "(IJ)I" } : Jvm.MethodName)) ∈ zx_G := zx_Gt 592 (by decide +kernel) rfl
theorem zw_707 : (Jvm.Cond.methodLink "BeanLoom$Plan" (33 : Nat) ({ cls := "BeanLoom$Types", name := "typeAt", desc := "(II)I" } : Jvm.MethodName)) ∈ zx_G := zx_Gt 707 (by decide +kernel) rfl
theorem zw_685 : (Jvm.Cond.methodLink "BeanLoom$Planner" (73 : Nat) ({ cls := "BeanLoom$Method", name := "latest", desc := "(I)I" } : Jvm.MethodName)) ∈ zx_G := zx_Gt 685 (by decide +kernel) rfl
theorem zw_5 : (Jvm.Cond.initialized "BeanLoom$Method") ∈ zx_G := zx_Gt 5 (by decide +kernel) rfl
theorem zw_688 : (Jvm.Cond.code ({ cls := "BeanLoom$Method", name := "latest", desc := "(I)I" } : Jvm.MethodName) prog_6_method_3_code (3 : Nat) (Option.some Jvm.ClassFile.FieldType.int)) ∈ zx_G := zx_Gt 688 (by decide +kernel) rfl
theorem zw_686 : (Jvm.Cond.instanceMethod ({ cls := "BeanLoom$Method", name := "latest", desc := "(I)I" } : Jvm.MethodName)) ∈ zx_G := zx_Gt 686 (by decide +kernel) rfl
theorem zw_687 : (Jvm.Cond.selects "BeanLoom$Method" ({ cls := "BeanLoom$Method", name := "latest", desc := "(I)I" } : Jvm.MethodName) ({ cls := "BeanLoom$Method", name := "latest", desc := "(I)I" } : Jvm.MethodName)) ∈ zx_G := zx_Gt 687 (by decide +kernel) rfl
theorem zw_689 : (Jvm.Cond.methodLink "BeanLoom$Planner" (112 : Nat) ({ cls := "BeanLoom$Model", name := "hasMethod", desc := "(J)Z" } : Jvm.MethodName)) ∈ zx_G := zx_Gt 689 (by decide +kernel) rfl
theorem zw_694 : (Jvm.Cond.methodLink "BeanLoom$Planner" (88 : Nat) ({ cls := "BeanLoom$Types", name := "isBean", desc := "(I)Z" } : Jvm.MethodName)) ∈ zx_G := zx_Gt 694 (by decide +kernel) rfl
theorem zw_695 : (Jvm.Cond.methodLink "BeanLoom$Planner" (123 : Nat) ({ cls := "BeanLoom$Method", name := "repeats", desc := "(I)Z" } : Jvm.MethodName)) ∈ zx_G := zx_Gt 695 (by decide +kernel) rfl
theorem zw_698 : (Jvm.Cond.code ({ cls := "BeanLoom$Method", name := "repeats", desc := "(I)Z" } : Jvm.MethodName) prog_6_method_5_code (4 : Nat) (Option.some Jvm.ClassFile.FieldType.boolean)) ∈ zx_G := zx_Gt 698 (by decide +kernel) rfl
theorem zw_696 : (Jvm.Cond.instanceMethod ({ cls := "BeanLoom$Method", name := "repeats", desc := "(I)Z" } : Jvm.MethodName)) ∈ zx_G := zx_Gt 696 (by decide +kernel) rfl
theorem zw_697 : (Jvm.Cond.selects "BeanLoom$Method" ({ cls := "BeanLoom$Method", name := "repeats", desc := "(I)Z" } : Jvm.MethodName) ({ cls := "BeanLoom$Method", name := "repeats", desc := "(I)Z" } : Jvm.MethodName)) ∈ zx_G := zx_Gt 697 (by decide +kernel) rfl
theorem zw_700 : (Jvm.Cond.methodLink "BeanLoom$Planner" (130 : Nat) ({ cls := "BeanLoom$Plan", name := "trace", desc := "(LBeanLoom$Types;IJ)Z" } : Jvm.MethodName)) ∈ zx_G := zx_Gt 700 (by decide +kernel) rfl
theorem zw_6 : (Jvm.Cond.initialized "BeanLoom$Plan") ∈ zx_G := zx_Gt 6 (by decide +kernel) rfl
theorem zw_703 : (Jvm.Cond.code ({ cls := "BeanLoom$Plan", name := "trace", desc := "(LBeanLoom$Types;IJ)Z" } : Jvm.MethodName) prog_8_method_2_code (9 : Nat) (Option.some Jvm.ClassFile.FieldType.boolean)) ∈ zx_G := zx_Gt 703 (by decide +kernel) rfl
theorem zw_701 : (Jvm.Cond.instanceMethod ({ cls := "BeanLoom$Plan", name := "trace", desc := "(LBeanLoom$Types;IJ)Z" } : Jvm.MethodName)) ∈ zx_G := zx_Gt 701 (by decide +kernel) rfl
theorem zw_702 : (Jvm.Cond.selects "BeanLoom$Plan" ({ cls := "BeanLoom$Plan", name := "trace", desc := "(LBeanLoom$Types;IJ)Z" } : Jvm.MethodName) ({ cls := "BeanLoom$Plan", name := "trace", desc := "(LBeanLoom$Types;IJ)Z" } : Jvm.MethodName)) ∈ zx_G := zx_Gt 702 (by decide +kernel) rfl
theorem zw_708 : (Jvm.Cond.methodLink "BeanLoom$Planner" (134 : Nat) ({ cls := "BeanLoom$Model", name := "hasFunction", desc := "(J)Z" } : Jvm.MethodName)) ∈ zx_G := zx_Gt 708 (by decide +kernel) rfl
theorem zw_699 : (Jvm.Cond.methodLink "BeanLoom$Planner" (126 : Nat) ({ cls := "BeanLoom$Types", name := "placeOf", desc := "(IJ)I" } : Jvm.MethodName)) ∈ zx_G := zx_Gt 699 (by decide +kernel) rfl
theorem zw_741 : (Jvm.Cond.methodLink "BeanLoom$Ways" (81 : Nat) ({ cls := "BeanLoom$Basics", name := "isBasic", desc := "(I)Z" } : Jvm.MethodName)) ∈ zx_G := zx_Gt 741 (by decide +kernel) rfl
theorem zw_743 : (Jvm.Cond.code ({ cls := "BeanLoom$Basics", name := "isBasic", desc := "(I)Z" } : Jvm.MethodName) prog_2_method_4_code (1 : Nat) (Option.some Jvm.ClassFile.FieldType.boolean)) ∈ zx_G := zx_Gt 743 (by decide +kernel) rfl
theorem zw_742 : (Jvm.Cond.static ({ cls := "BeanLoom$Basics", name := "isBasic", desc := "(I)Z" } : Jvm.MethodName)) ∈ zx_G := zx_Gt 742 (by decide +kernel) rfl
theorem zw_744 : (Jvm.Cond.methodLink "BeanLoom$Ways" (86 : Nat) ({ cls := "BeanLoom$Basics", name := "kindOf", desc := "(I)I" } : Jvm.MethodName)) ∈ zx_G := zx_Gt 744 (by decide +kernel) rfl
theorem zw_747 : (Jvm.Cond.methodLink "BeanLoom$Ways" (89 : Nat) ({ cls := "BeanLoom$Basics", name := "isWhole", desc := "(I)Z" } : Jvm.MethodName)) ∈ zx_G := zx_Gt 747 (by decide +kernel) rfl
theorem zw_633 : (Jvm.Cond.code ({ cls := "BeanLoom$Basics", name := "isWhole", desc := "(I)Z" } : Jvm.MethodName) prog_2_method_6_code (1 : Nat) (Option.some Jvm.ClassFile.FieldType.boolean)) ∈ zx_G := zx_Gt 633 (by decide +kernel) rfl
theorem zw_632 : (Jvm.Cond.static ({ cls := "BeanLoom$Basics", name := "isWhole", desc := "(I)Z" } : Jvm.MethodName)) ∈ zx_G := zx_Gt 632 (by decide +kernel) rfl
theorem zw_748 : (Jvm.Cond.methodLink "BeanLoom$Ways" (92 : Nat) ({ cls := "BeanLoom$Types", name := "isEnum", desc := "(I)Z" } : Jvm.MethodName)) ∈ zx_G := zx_Gt 748 (by decide +kernel) rfl
theorem zw_737 : (Jvm.Cond.methodLink "BeanLoom$Ways" (37 : Nat) ({ cls := "BeanLoom$Ways", name := "converts", desc := "(II)Z" } : Jvm.MethodName)) ∈ zx_G := zx_Gt 737 (by decide +kernel) rfl
theorem zw_740 : (Jvm.Cond.code ({ cls := "BeanLoom$Ways", name := "converts", desc := "(II)Z" } : Jvm.MethodName) prog_12_method_6_code (5 : Nat) (Option.some Jvm.ClassFile.FieldType.boolean)) ∈ zx_G := zx_Gt 740 (by decide +kernel) rfl
theorem zw_739 : (Jvm.Cond.instanceMethod ({ cls := "BeanLoom$Ways", name := "converts", desc := "(II)Z" } : Jvm.MethodName)) ∈ zx_G := zx_Gt 739 (by decide +kernel) rfl
theorem zw_733 : (Jvm.Cond.methodLink "BeanLoom$Ways" (29 : Nat) ({ cls := "BeanLoom$Ways", name := "functionWay", desc := "(IIZ)I" } : Jvm.MethodName)) ∈ zx_G := zx_Gt 733 (by decide +kernel) rfl
theorem zw_736 : (Jvm.Cond.code ({ cls := "BeanLoom$Ways", name := "functionWay", desc := "(IIZ)I" } : Jvm.MethodName) prog_12_method_4_code (8 : Nat) (Option.some Jvm.ClassFile.FieldType.int)) ∈ zx_G := zx_Gt 736 (by decide +kernel) rfl
theorem zw_735 : (Jvm.Cond.instanceMethod ({ cls := "BeanLoom$Ways", name := "functionWay", desc := "(IIZ)I" } : Jvm.MethodName)) ∈ zx_G := zx_Gt 735 (by decide +kernel) rfl
theorem zw_749 : (Jvm.Cond.methodLink "BeanLoom$Ways" (33 : Nat) ({ cls := "BeanLoom$Ways", name := "methodWay", desc := "(II)I" } : Jvm.MethodName)) ∈ zx_G := zx_Gt 749 (by decide +kernel) rfl
theorem zw_752 : (Jvm.Cond.code ({ cls := "BeanLoom$Ways", name := "methodWay", desc := "(II)I" } : Jvm.MethodName) prog_12_method_5_code (5 : Nat) (Option.some Jvm.ClassFile.FieldType.int)) ∈ zx_G := zx_Gt 752 (by decide +kernel) rfl
theorem zw_751 : (Jvm.Cond.instanceMethod ({ cls := "BeanLoom$Ways", name := "methodWay", desc := "(II)I" } : Jvm.MethodName)) ∈ zx_G := zx_Gt 751 (by decide +kernel) rfl
theorem zw_753 : (Jvm.Cond.methodLink "BeanLoom$Ways" (41 : Nat) ({ cls := "BeanLoom$Types", name := "isList", desc := "(I)Z" } : Jvm.MethodName)) ∈ zx_G := zx_Gt 753 (by decide +kernel) rfl
theorem zw_755 : (Jvm.Cond.methodLink "BeanLoom$Ways" (44 : Nat) ({ cls := "BeanLoom$Types", name := "element", desc := "(I)I" } : Jvm.MethodName)) ∈ zx_G := zx_Gt 755 (by decide +kernel) rfl
theorem zw_725 : (Jvm.Cond.methodLink "BeanLoom$Planner" (152 : Nat) ({ cls := "BeanLoom$Method", name := "first", desc := "(II)I" } : Jvm.MethodName)) ∈ zx_G := zx_Gt 725 (by decide +kernel) rfl
theorem zw_728 : (Jvm.Cond.code ({ cls := "BeanLoom$Method", name := "first", desc := "(II)I" } : Jvm.MethodName) prog_6_method_4_code (4 : Nat) (Option.some Jvm.ClassFile.FieldType.int)) ∈ zx_G := zx_Gt 728 (by decide +kernel) rfl
theorem zw_726 : (Jvm.Cond.instanceMethod ({ cls := "BeanLoom$Method", name := "first", desc := "(II)I" } : Jvm.MethodName)) ∈ zx_G := zx_Gt 726 (by decide +kernel) rfl
theorem zw_727 : (Jvm.Cond.selects "BeanLoom$Method" ({ cls := "BeanLoom$Method", name := "first", desc := "(II)I" } : Jvm.MethodName) ({ cls := "BeanLoom$Method", name := "first", desc := "(II)I" } : Jvm.MethodName)) ∈ zx_G := zx_Gt 727 (by decide +kernel) rfl
theorem zw_720 : (Jvm.Cond.methodLink "BeanLoom$Planner" (145 : Nat) ({ cls := "BeanLoom$Types", name := "nameAt", desc := "(II)I" } : Jvm.MethodName)) ∈ zx_G := zx_Gt 720 (by decide +kernel) rfl
theorem zw_724 : (Jvm.Cond.methodLink "BeanLoom$Planner" (149 : Nat) ({ cls := "BeanLoom$Types", name := "typeAt", desc := "(II)I" } : Jvm.MethodName)) ∈ zx_G := zx_Gt 724 (by decide +kernel) rfl
theorem zw_729 : (Jvm.Cond.methodLink "BeanLoom$Planner" (162 : Nat) ({ cls := "BeanLoom$Ways", name := "find", desc := "(II)I" } : Jvm.MethodName)) ∈ zx_G := zx_Gt 729 (by decide +kernel) rfl
theorem zw_732 : (Jvm.Cond.code ({ cls := "BeanLoom$Ways", name := "find", desc := "(II)I" } : Jvm.MethodName) prog_12_method_3_code (8 : Nat) (Option.some Jvm.ClassFile.FieldType.int)) ∈ zx_G := zx_Gt 732 (by decide +kernel) rfl
theorem zw_730 : (Jvm.Cond.instanceMethod ({ cls := "BeanLoom$Ways", name := "find", desc := "(II)I" } : Jvm.MethodName)) ∈ zx_G := zx_Gt 730 (by decide +kernel) rfl
theorem zw_731 : (Jvm.Cond.selects "BeanLoom$Ways" ({ cls := "BeanLoom$Ways", name := "find", desc := "(II)I" } : Jvm.MethodName) ({ cls := "BeanLoom$Ways", name := "find", desc := "(II)I" } : Jvm.MethodName)) ∈ zx_G := zx_Gt 731 (by decide +kernel) rfl
theorem zw_756 : (Jvm.Cond.methodLink "BeanLoom$Planner" (170 : Nat) ({ cls := "BeanLoom$Planner", name := "faultOf", desc := "(I)I" } : Jvm.MethodName)) ∈ zx_G := zx_Gt 756 (by decide +kernel) rfl
theorem zw_9 : (Jvm.Cond.initialized "BeanLoom$Planner") ∈ zx_G := zx_Gt 9 (by decide +kernel) rfl
theorem zw_759 : (Jvm.Cond.code ({ cls := "BeanLoom$Planner", name := "faultOf", desc := "(I)I" } : Jvm.MethodName) prog_9_method_10_code (2 : Nat) (Option.some Jvm.ClassFile.FieldType.int)) ∈ zx_G := zx_Gt 759 (by decide +kernel) rfl
theorem zw_758 : (Jvm.Cond.instanceMethod ({ cls := "BeanLoom$Planner", name := "faultOf", desc := "(I)I" } : Jvm.MethodName)) ∈ zx_G := zx_Gt 758 (by decide +kernel) rfl
theorem zw_760 : (Jvm.Cond.methodLink "BeanLoom$Planner" (173 : Nat) ({ cls := "BeanLoom$Planner", name := "pathTo", desc := "(LBeanLoom$Method;I)J" } : Jvm.MethodName)) ∈ zx_G := zx_Gt 760 (by decide +kernel) rfl
theorem zw_763 : (Jvm.Cond.code ({ cls := "BeanLoom$Planner", name := "pathTo", desc := "(LBeanLoom$Method;I)J" } : Jvm.MethodName) prog_9_method_11_code (7 : Nat) (Option.some Jvm.ClassFile.FieldType.long)) ∈ zx_G := zx_Gt 763 (by decide +kernel) rfl
theorem zw_762 : (Jvm.Cond.instanceMethod ({ cls := "BeanLoom$Planner", name := "pathTo", desc := "(LBeanLoom$Method;I)J" } : Jvm.MethodName)) ∈ zx_G := zx_Gt 762 (by decide +kernel) rfl
theorem zw_765 : (Jvm.Cond.methodLink "BeanLoom$Planner" (180 : Nat) ({ cls := "BeanLoom$Planner", name := "wayBy", desc := "(JII)I" } : Jvm.MethodName)) ∈ zx_G := zx_Gt 765 (by decide +kernel) rfl
theorem zw_768 : (Jvm.Cond.code ({ cls := "BeanLoom$Planner", name := "wayBy", desc := "(JII)I" } : Jvm.MethodName) prog_9_method_9_code (6 : Nat) (Option.some Jvm.ClassFile.FieldType.int)) ∈ zx_G := zx_Gt 768 (by decide +kernel) rfl
theorem zw_767 : (Jvm.Cond.instanceMethod ({ cls := "BeanLoom$Planner", name := "wayBy", desc := "(JII)I" } : Jvm.MethodName)) ∈ zx_G := zx_Gt 767 (by decide +kernel) rfl
theorem zw_777 : (Jvm.Cond.methodLink "BeanLoom$Planner" (211 : Nat) ({ cls := "BeanLoom$Planner", name := "inverseConstant", desc := "(LBeanLoom$Method;I)I" } : Jvm.MethodName)) ∈ zx_G := zx_Gt 777 (by decide +kernel) rfl
theorem zw_780 : (Jvm.Cond.code ({ cls := "BeanLoom$Planner", name := "inverseConstant", desc := "(LBeanLoom$Method;I)I" } : Jvm.MethodName) prog_9_method_14_code (6 : Nat) (Option.some Jvm.ClassFile.FieldType.int)) ∈ zx_G := zx_Gt 780 (by decide +kernel) rfl
theorem zw_779 : (Jvm.Cond.instanceMethod ({ cls := "BeanLoom$Planner", name := "inverseConstant", desc := "(LBeanLoom$Method;I)I" } : Jvm.MethodName)) ∈ zx_G := zx_Gt 779 (by decide +kernel) rfl
theorem zw_773 : (Jvm.Cond.methodLink "BeanLoom$Planner" (203 : Nat) ({ cls := "BeanLoom$Planner", name := "becoming", desc := "(LBeanLoom$Method;I)J" } : Jvm.MethodName)) ∈ zx_G := zx_Gt 773 (by decide +kernel) rfl
theorem zw_776 : (Jvm.Cond.code ({ cls := "BeanLoom$Planner", name := "becoming", desc := "(LBeanLoom$Method;I)J" } : Jvm.MethodName) prog_9_method_13_code (6 : Nat) (Option.some Jvm.ClassFile.FieldType.long)) ∈ zx_G := zx_Gt 776 (by decide +kernel) rfl
theorem zw_775 : (Jvm.Cond.instanceMethod ({ cls := "BeanLoom$Planner", name := "becoming", desc := "(LBeanLoom$Method;I)J" } : Jvm.MethodName)) ∈ zx_G := zx_Gt 775 (by decide +kernel) rfl
theorem zw_681 : (Jvm.Cond.methodLink "BeanLoom$Planner" (56 : Nat) ({ cls := "BeanLoom$Planner", name := "planInverse", desc := "(LBeanLoom$Method;)Z" } : Jvm.MethodName)) ∈ zx_G := zx_Gt 681 (by decide +kernel) rfl
theorem zw_684 : (Jvm.Cond.code ({ cls := "BeanLoom$Planner", name := "planInverse", desc := "(LBeanLoom$Method;)Z" } : Jvm.MethodName) prog_9_method_5_code (6 : Nat) (Option.some Jvm.ClassFile.FieldType.boolean)) ∈ zx_G := zx_Gt 684 (by decide +kernel) rfl
theorem zw_683 : (Jvm.Cond.instanceMethod ({ cls := "BeanLoom$Planner", name := "planInverse", desc := "(LBeanLoom$Method;)Z" } : Jvm.MethodName)) ∈ zx_G := zx_Gt 683 (by decide +kernel) rfl
theorem zw_690 : (Jvm.Cond.methodLink "BeanLoom$Planner" (65 : Nat) ({ cls := "BeanLoom$Planner", name := "ruleFault", desc := "(LBeanLoom$Method;I)I" } : Jvm.MethodName)) ∈ zx_G := zx_Gt 690 (by decide +kernel) rfl
theorem zw_693 : (Jvm.Cond.code ({ cls := "BeanLoom$Planner", name := "ruleFault", desc := "(LBeanLoom$Method;I)I" } : Jvm.MethodName) prog_9_method_6_code (10 : Nat) (Option.some Jvm.ClassFile.FieldType.int)) ∈ zx_G := zx_Gt 693 (by decide +kernel) rfl
theorem zw_692 : (Jvm.Cond.instanceMethod ({ cls := "BeanLoom$Planner", name := "ruleFault", desc := "(LBeanLoom$Method;I)I" } : Jvm.MethodName)) ∈ zx_G := zx_Gt 692 (by decide +kernel) rfl
theorem zw_711 : (Jvm.Cond.methodLink "BeanLoom$Planner" (69 : Nat) ({ cls := "BeanLoom$Planner", name := "note", desc := "(II)V" } : Jvm.MethodName)) ∈ zx_G := zx_Gt 711 (by decide +kernel) rfl
theorem zw_714 : (Jvm.Cond.code ({ cls := "BeanLoom$Planner", name := "note", desc := "(II)V" } : Jvm.MethodName) prog_9_method_4_code (3 : Nat) (Option.none : Option Jvm.ClassFile.FieldType)) ∈ zx_G := zx_Gt 714 (by decide +kernel) rfl
theorem zw_713 : (Jvm.Cond.instanceMethod ({ cls := "BeanLoom$Planner", name := "note", desc := "(II)V" } : Jvm.MethodName)) ∈ zx_G := zx_Gt 713 (by decide +kernel) rfl
theorem zw_715 : (Jvm.Cond.methodLink "BeanLoom$Planner" (97 : Nat) ({ cls := "BeanLoom$Types", name := "memberCount", desc := "(I)I" } : Jvm.MethodName)) ∈ zx_G := zx_Gt 715 (by decide +kernel) rfl
theorem zw_716 : (Jvm.Cond.methodLink "BeanLoom$Planner" (100 : Nat) ({ cls := "BeanLoom$Planner", name := "planProperty", desc := "(LBeanLoom$Method;I)I" } : Jvm.MethodName)) ∈ zx_G := zx_Gt 716 (by decide +kernel) rfl
theorem zw_719 : (Jvm.Cond.code ({ cls := "BeanLoom$Planner", name := "planProperty", desc := "(LBeanLoom$Method;I)I" } : Jvm.MethodName) prog_9_method_7_code (8 : Nat) (Option.some Jvm.ClassFile.FieldType.int)) ∈ zx_G := zx_Gt 719 (by decide +kernel) rfl
theorem zw_718 : (Jvm.Cond.instanceMethod ({ cls := "BeanLoom$Planner", name := "planProperty", desc := "(LBeanLoom$Method;I)I" } : Jvm.MethodName)) ∈ zx_G := zx_Gt 718 (by decide +kernel) rfl
theorem zw_769 : (Jvm.Cond.methodLink "BeanLoom$Planner" (103 : Nat) ({ cls := "BeanLoom$Planner", name := "planConstant", desc := "(LBeanLoom$Method;I)I" } : Jvm.MethodName)) ∈ zx_G := zx_Gt 769 (by decide +kernel) rfl
theorem zw_772 : (Jvm.Cond.code ({ cls := "BeanLoom$Planner", name := "planConstant", desc := "(LBeanLoom$Method;I)I" } : Jvm.MethodName) prog_9_method_12_code (5 : Nat) (Option.some Jvm.ClassFile.FieldType.int)) ∈ zx_G := zx_Gt 772 (by decide +kernel) rfl
theorem zw_771 : (Jvm.Cond.instanceMethod ({ cls := "BeanLoom$Planner", name := "planConstant", desc := "(LBeanLoom$Method;I)I" } : Jvm.MethodName)) ∈ zx_G := zx_Gt 771 (by decide +kernel) rfl
theorem zw_782 : (Jvm.Cond.methodLink "BeanLoom$Planner" (106 : Nat) ({ cls := "BeanLoom$Planner", name := "planDefault", desc := "(LBeanLoom$Method;I)I" } : Jvm.MethodName)) ∈ zx_G := zx_Gt 782 (by decide +kernel) rfl
theorem zw_785 : (Jvm.Cond.code ({ cls := "BeanLoom$Planner", name := "planDefault", desc := "(LBeanLoom$Method;I)I" } : Jvm.MethodName) prog_9_method_8_code (5 : Nat) (Option.some Jvm.ClassFile.FieldType.int)) ∈ zx_G := zx_Gt 785 (by decide +kernel) rfl
theorem zw_784 : (Jvm.Cond.instanceMethod ({ cls := "BeanLoom$Planner", name := "planDefault", desc := "(LBeanLoom$Method;I)I" } : Jvm.MethodName)) ∈ zx_G := zx_Gt 784 (by decide +kernel) rfl
theorem zw_669 : (Jvm.Cond.methodLink "BeanLoom$Planner" (37 : Nat) ({ cls := "BeanLoom$Model", name := "nameFunctions", desc := "()V" } : Jvm.MethodName)) ∈ zx_G := zx_Gt 669 (by decide +kernel) rfl
theorem zw_672 : (Jvm.Cond.code ({ cls := "BeanLoom$Model", name := "nameFunctions", desc := "()V" } : Jvm.MethodName) prog_7_method_6_code (4 : Nat) (Option.none : Option Jvm.ClassFile.FieldType)) ∈ zx_G := zx_Gt 672 (by decide +kernel) rfl
theorem zw_670 : (Jvm.Cond.instanceMethod ({ cls := "BeanLoom$Model", name := "nameFunctions", desc := "()V" } : Jvm.MethodName)) ∈ zx_G := zx_Gt 670 (by decide +kernel) rfl
theorem zw_671 : (Jvm.Cond.selects "BeanLoom$Model" ({ cls := "BeanLoom$Model", name := "nameFunctions", desc := "()V" } : Jvm.MethodName) ({ cls := "BeanLoom$Model", name := "nameFunctions", desc := "()V" } : Jvm.MethodName)) ∈ zx_G := zx_Gt 671 (by decide +kernel) rfl
theorem zw_677 : (Jvm.Cond.methodLink "BeanLoom$Planner" (52 : Nat) ({ cls := "BeanLoom$Planner", name := "planMethod", desc := "(LBeanLoom$Method;)V" } : Jvm.MethodName)) ∈ zx_G := zx_Gt 677 (by decide +kernel) rfl
theorem zw_680 : (Jvm.Cond.code ({ cls := "BeanLoom$Planner", name := "planMethod", desc := "(LBeanLoom$Method;)V" } : Jvm.MethodName) prog_9_method_3_code (6 : Nat) (Option.none : Option Jvm.ClassFile.FieldType)) ∈ zx_G := zx_Gt 680 (by decide +kernel) rfl
theorem zw_679 : (Jvm.Cond.instanceMethod ({ cls := "BeanLoom$Planner", name := "planMethod", desc := "(LBeanLoom$Method;)V" } : Jvm.MethodName)) ∈ zx_G := zx_Gt 679 (by decide +kernel) rfl
theorem zw_471 : (Jvm.Cond.methodLink "BeanLoom$Types" (31 : Nat) ({ cls := "BeanLoom$Types", name := "nameIn", desc := "(JI)I" } : Jvm.MethodName)) ∈ zx_G := zx_Gt 471 (by decide +kernel) rfl
theorem zw_468 : (Jvm.Cond.methodLink "BeanLoom" (59 : Nat) ({ cls := "BeanLoom$Types", name := "areNames", desc := "(JI)Z" } : Jvm.MethodName)) ∈ zx_G := zx_Gt 468 (by decide +kernel) rfl
theorem zw_470 : (Jvm.Cond.code ({ cls := "BeanLoom$Types", name := "areNames", desc := "(JI)Z" } : Jvm.MethodName) prog_11_method_3_code (6 : Nat) (Option.some Jvm.ClassFile.FieldType.boolean)) ∈ zx_G := zx_Gt 470 (by decide +kernel) rfl
theorem zw_469 : (Jvm.Cond.static ({ cls := "BeanLoom$Types", name := "areNames", desc := "(JI)Z" } : Jvm.MethodName)) ∈ zx_G := zx_Gt 469 (by decide +kernel) rfl
theorem zw_543 : (Jvm.Cond.methodLink "BeanLoom" (70 : Nat) ({ cls := "BeanLoom$Types", name := "isFull", desc := "()Z" } : Jvm.MethodName)) ∈ zx_G := zx_Gt 543 (by decide +kernel) rfl
theorem zw_546 : (Jvm.Cond.code ({ cls := "BeanLoom$Types", name := "isFull", desc := "()Z" } : Jvm.MethodName) prog_11_method_5_code (1 : Nat) (Option.some Jvm.ClassFile.FieldType.boolean)) ∈ zx_G := zx_Gt 546 (by decide +kernel) rfl
theorem zw_544 : (Jvm.Cond.instanceMethod ({ cls := "BeanLoom$Types", name := "isFull", desc := "()Z" } : Jvm.MethodName)) ∈ zx_G := zx_Gt 544 (by decide +kernel) rfl
theorem zw_545 : (Jvm.Cond.selects "BeanLoom$Types" ({ cls := "BeanLoom$Types", name := "isFull", desc := "()Z" } : Jvm.MethodName) ({ cls := "BeanLoom$Types", name := "isFull", desc := "()Z" } : Jvm.MethodName)) ∈ zx_G := zx_Gt 545 (by decide +kernel) rfl
theorem zw_563 : (Jvm.Cond.methodLink "BeanLoom" (79 : Nat) ({ cls := "BeanLoom$Types", name := "add", desc := "(II)I" } : Jvm.MethodName)) ∈ zx_G := zx_Gt 563 (by decide +kernel) rfl
theorem zw_566 : (Jvm.Cond.code ({ cls := "BeanLoom$Types", name := "add", desc := "(II)I" } : Jvm.MethodName) prog_11_method_10_code (4 : Nat) (Option.some Jvm.ClassFile.FieldType.int)) ∈ zx_G := zx_Gt 566 (by decide +kernel) rfl
theorem zw_564 : (Jvm.Cond.instanceMethod ({ cls := "BeanLoom$Types", name := "add", desc := "(II)I" } : Jvm.MethodName)) ∈ zx_G := zx_Gt 564 (by decide +kernel) rfl
theorem zw_565 : (Jvm.Cond.selects "BeanLoom$Types" ({ cls := "BeanLoom$Types", name := "add", desc := "(II)I" } : Jvm.MethodName) ({ cls := "BeanLoom$Types", name := "add", desc := "(II)I" } : Jvm.MethodName)) ∈ zx_G := zx_Gt 565 (by decide +kernel) rfl
theorem zw_567 : (Jvm.Cond.methodLink "BeanLoom" (83 : Nat) ({ cls := "BeanLoom$Types", name := "nameIn", desc := "(JI)I" } : Jvm.MethodName)) ∈ zx_G := zx_Gt 567 (by decide +kernel) rfl
theorem zw_568 : (Jvm.Cond.methodLink "BeanLoom" (87 : Nat) ({ cls := "BeanLoom$Types", name := "addMember", desc := "(III)I" } : Jvm.MethodName)) ∈ zx_G := zx_Gt 568 (by decide +kernel) rfl
theorem zw_571 : (Jvm.Cond.code ({ cls := "BeanLoom$Types", name := "addMember", desc := "(III)I" } : Jvm.MethodName) prog_11_method_11_code (5 : Nat) (Option.some Jvm.ClassFile.FieldType.int)) ∈ zx_G := zx_Gt 571 (by decide +kernel) rfl
theorem zw_569 : (Jvm.Cond.instanceMethod ({ cls := "BeanLoom$Types", name := "addMember", desc := "(III)I" } : Jvm.MethodName)) ∈ zx_G := zx_Gt 569 (by decide +kernel) rfl
theorem zw_570 : (Jvm.Cond.selects "BeanLoom$Types" ({ cls := "BeanLoom$Types", name := "addMember", desc := "(III)I" } : Jvm.MethodName) ({ cls := "BeanLoom$Types", name := "addMember", desc := "(III)I" } : Jvm.MethodName)) ∈ zx_G := zx_Gt 570 (by decide +kernel) rfl
theorem zw_586 : (Jvm.Cond.methodLink "BeanLoom" (95 : Nat) ({ cls := "BeanLoom$Types", name := "exists", desc := "(I)Z" } : Jvm.MethodName)) ∈ zx_G := zx_Gt 586 (by decide +kernel) rfl
theorem zw_590 : (Jvm.Cond.methodLink "BeanLoom" (98 : Nat) ({ cls := "BeanLoom$Types", name := "placeOf", desc := "(IJ)I" } : Jvm.MethodName)) ∈ zx_G := zx_Gt 590 (by decide +kernel) rfl
theorem zw_595 : (Jvm.Cond.methodLink "BeanLoom" (104 : Nat) ({ cls := "BeanLoom$Types", name := "memberCount", desc := "(I)I" } : Jvm.MethodName)) ∈ zx_G := zx_Gt 595 (by decide +kernel) rfl
theorem zw_604 : (Jvm.Cond.methodLink "BeanLoom" (114 : Nat) ({ cls := "BeanLoom$Basics", name := "isPrimitive", desc := "(I)Z" } : Jvm.MethodName)) ∈ zx_G := zx_Gt 604 (by decide +kernel) rfl
theorem zw_606 : (Jvm.Cond.methodLink "BeanLoom" (121 : Nat) ({ cls := "BeanLoom$Types", name := "listOf", desc := "(I)I" } : Jvm.MethodName)) ∈ zx_G := zx_Gt 606 (by decide +kernel) rfl
theorem zw_609 : (Jvm.Cond.code ({ cls := "BeanLoom$Types", name := "listOf", desc := "(I)I" } : Jvm.MethodName) prog_11_method_12_code (3 : Nat) (Option.some Jvm.ClassFile.FieldType.int)) ∈ zx_G := zx_Gt 609 (by decide +kernel) rfl
theorem zw_607 : (Jvm.Cond.instanceMethod ({ cls := "BeanLoom$Types", name := "listOf", desc := "(I)I" } : Jvm.MethodName)) ∈ zx_G := zx_Gt 607 (by decide +kernel) rfl
theorem zw_608 : (Jvm.Cond.selects "BeanLoom$Types" ({ cls := "BeanLoom$Types", name := "listOf", desc := "(I)I" } : Jvm.MethodName) ({ cls := "BeanLoom$Types", name := "listOf", desc := "(I)I" } : Jvm.MethodName)) ∈ zx_G := zx_Gt 608 (by decide +kernel) rfl
theorem zw_617 : (Jvm.Cond.methodLink "BeanLoom" (124 : Nat) ({ cls := "BeanLoom$Types", name := "isEnum", desc := "(I)Z" } : Jvm.MethodName)) ∈ zx_G := zx_Gt 617 (by decide +kernel) rfl
theorem zw_620 : (Jvm.Cond.methodLink "BeanLoom" (135 : Nat) ({ cls := "BeanLoom$Model", name := "addMethod", desc := "(II)I" } : Jvm.MethodName)) ∈ zx_G := zx_Gt 620 (by decide +kernel) rfl
theorem zw_623 : (Jvm.Cond.code ({ cls := "BeanLoom$Model", name := "addMethod", desc := "(II)I" } : Jvm.MethodName) prog_7_method_4_code (4 : Nat) (Option.some Jvm.ClassFile.FieldType.int)) ∈ zx_G := zx_Gt 623 (by decide +kernel) rfl
theorem zw_621 : (Jvm.Cond.instanceMethod ({ cls := "BeanLoom$Model", name := "addMethod", desc := "(II)I" } : Jvm.MethodName)) ∈ zx_G := zx_Gt 621 (by decide +kernel) rfl
theorem zw_622 : (Jvm.Cond.selects "BeanLoom$Model" ({ cls := "BeanLoom$Model", name := "addMethod", desc := "(II)I" } : Jvm.MethodName) ({ cls := "BeanLoom$Model", name := "addMethod", desc := "(II)I" } : Jvm.MethodName)) ∈ zx_G := zx_Gt 622 (by decide +kernel) rfl
theorem zw_631 : (Jvm.Cond.methodLink "BeanLoom" (138 : Nat) ({ cls := "BeanLoom$Basics", name := "isWhole", desc := "(I)Z" } : Jvm.MethodName)) ∈ zx_G := zx_Gt 631 (by decide +kernel) rfl
theorem zw_636 : (Jvm.Cond.methodLink "BeanLoom" (148 : Nat) ({ cls := "BeanLoom$Model", name := "addFunction", desc := "(IIII)I" } : Jvm.MethodName)) ∈ zx_G := zx_Gt 636 (by decide +kernel) rfl
theorem zw_639 : (Jvm.Cond.code ({ cls := "BeanLoom$Model", name := "addFunction", desc := "(IIII)I" } : Jvm.MethodName) prog_7_method_5_code (7 : Nat) (Option.some Jvm.ClassFile.FieldType.int)) ∈ zx_G := zx_Gt 639 (by decide +kernel) rfl
theorem zw_637 : (Jvm.Cond.instanceMethod ({ cls := "BeanLoom$Model", name := "addFunction", desc := "(IIII)I" } : Jvm.MethodName)) ∈ zx_G := zx_Gt 637 (by decide +kernel) rfl
theorem zw_638 : (Jvm.Cond.selects "BeanLoom$Model" ({ cls := "BeanLoom$Model", name := "addFunction", desc := "(IIII)I" } : Jvm.MethodName) ({ cls := "BeanLoom$Model", name := "addFunction", desc := "(IIII)I" } : Jvm.MethodName)) ∈ zx_G := zx_Gt 638 (by decide +kernel) rfl
theorem zw_647 : (Jvm.Cond.methodLink "BeanLoom" (152 : Nat) ({ cls := "BeanLoom$Model", name := "hasMethod", desc := "(J)Z" } : Jvm.MethodName)) ∈ zx_G := zx_Gt 647 (by decide +kernel) rfl
theorem zw_653 : (Jvm.Cond.methodLink "BeanLoom" (169 : Nat) ({ cls := "BeanLoom$Method", name := "tell", desc := "(IIJ)V" } : Jvm.MethodName)) ∈ zx_G := zx_Gt 653 (by decide +kernel) rfl
theorem zw_656 : (Jvm.Cond.code ({ cls := "BeanLoom$Method", name := "tell", desc := "(IIJ)V" } : Jvm.MethodName) prog_6_method_2_code (5 : Nat) (Option.none : Option Jvm.ClassFile.FieldType)) ∈ zx_G := zx_Gt 656 (by decide +kernel) rfl
theorem zw_654 : (Jvm.Cond.instanceMethod ({ cls := "BeanLoom$Method", name := "tell", desc := "(IIJ)V" } : Jvm.MethodName)) ∈ zx_G := zx_Gt 654 (by decide +kernel) rfl
theorem zw_655 : (Jvm.Cond.selects "BeanLoom$Method" ({ cls := "BeanLoom$Method", name := "tell", desc := "(IIJ)V" } : Jvm.MethodName) ({ cls := "BeanLoom$Method", name := "tell", desc := "(IIJ)V" } : Jvm.MethodName)) ∈ zx_G := zx_Gt 655 (by decide +kernel) rfl
theorem zw_665 : (Jvm.Cond.methodLink "BeanLoom" (175 : Nat) ({ cls := "BeanLoom$Planner", name := "planAll", desc := "()V" } : Jvm.MethodName)) ∈ zx_G := zx_Gt 665 (by decide +kernel) rfl
theorem zw_668 : (Jvm.Cond.code ({ cls := "BeanLoom$Planner", name := "planAll", desc := "()V" } : Jvm.MethodName) prog_9_method_2_code (2 : Nat) (Option.none : Option Jvm.ClassFile.FieldType)) ∈ zx_G := zx_Gt 668 (by decide +kernel) rfl
theorem zw_666 : (Jvm.Cond.instanceMethod ({ cls := "BeanLoom$Planner", name := "planAll", desc := "()V" } : Jvm.MethodName)) ∈ zx_G := zx_Gt 666 (by decide +kernel) rfl
theorem zw_667 : (Jvm.Cond.selects "BeanLoom$Planner" ({ cls := "BeanLoom$Planner", name := "planAll", desc := "()V" } : Jvm.MethodName) ({ cls := "BeanLoom$Planner", name := "planAll", desc := "()V" } : Jvm.MethodName)) ∈ zx_G := zx_Gt 667 (by decide +kernel) rfl
theorem zw_794 : (Jvm.Cond.methodLink "BeanLoom" (189 : Nat) ({ cls := "BeanLoom$Basics", name := "isBox", desc := "(I)Z" } : Jvm.MethodName)) ∈ zx_G := zx_Gt 794 (by decide +kernel) rfl
theorem zw_796 : (Jvm.Cond.code ({ cls := "BeanLoom$Basics", name := "isBox", desc := "(I)Z" } : Jvm.MethodName) prog_2_method_3_code (1 : Nat) (Option.some Jvm.ClassFile.FieldType.boolean)) ∈ zx_G := zx_Gt 796 (by decide +kernel) rfl
theorem zw_795 : (Jvm.Cond.static ({ cls := "BeanLoom$Basics", name := "isBox", desc := "(I)Z" } : Jvm.MethodName)) ∈ zx_G := zx_Gt 795 (by decide +kernel) rfl
theorem zw_797 : (Jvm.Cond.methodLink "BeanLoom" (195 : Nat) ({ cls := "BeanLoom$Basics", name := "kindOf", desc := "(I)I" } : Jvm.MethodName)) ∈ zx_G := zx_Gt 797 (by decide +kernel) rfl
theorem zw_798 : (Jvm.Cond.methodLink "BeanLoom" (198 : Nat) ({ cls := "BeanLoom$Basics", name := "holds", desc := "(IJ)Z" } : Jvm.MethodName)) ∈ zx_G := zx_Gt 798 (by decide +kernel) rfl
theorem zw_800 : (Jvm.Cond.methodLink "BeanLoom" (204 : Nat) ({ cls := "BeanLoom$Store", name := "isFull", desc := "()Z" } : Jvm.MethodName)) ∈ zx_G := zx_Gt 800 (by decide +kernel) rfl
theorem zw_803 : (Jvm.Cond.code ({ cls := "BeanLoom$Store", name := "isFull", desc := "()Z" } : Jvm.MethodName) prog_10_method_3_code (1 : Nat) (Option.some Jvm.ClassFile.FieldType.boolean)) ∈ zx_G := zx_Gt 803 (by decide +kernel) rfl
theorem zw_801 : (Jvm.Cond.instanceMethod ({ cls := "BeanLoom$Store", name := "isFull", desc := "()Z" } : Jvm.MethodName)) ∈ zx_G := zx_Gt 801 (by decide +kernel) rfl
theorem zw_802 : (Jvm.Cond.selects "BeanLoom$Store" ({ cls := "BeanLoom$Store", name := "isFull", desc := "()Z" } : Jvm.MethodName) ({ cls := "BeanLoom$Store", name := "isFull", desc := "()Z" } : Jvm.MethodName)) ∈ zx_G := zx_Gt 802 (by decide +kernel) rfl
theorem zw_805 : (Jvm.Cond.methodLink "BeanLoom" (207 : Nat) ({ cls := "BeanLoom$Store", name := "createBean", desc := "(I)I" } : Jvm.MethodName)) ∈ zx_G := zx_Gt 805 (by decide +kernel) rfl
theorem zw_819 : (Jvm.Cond.methodLink "BeanLoom" (210 : Nat) ({ cls := "BeanLoom$Store", name := "create", desc := "(I)I" } : Jvm.MethodName)) ∈ zx_G := zx_Gt 819 (by decide +kernel) rfl
theorem zw_820 : (Jvm.Cond.methodLink "BeanLoom" (216 : Nat) ({ cls := "BeanLoom$Store", name := "appendBytes", desc := "(IJ)V" } : Jvm.MethodName)) ∈ zx_G := zx_Gt 820 (by decide +kernel) rfl
theorem zw_823 : (Jvm.Cond.code ({ cls := "BeanLoom$Store", name := "appendBytes", desc := "(IJ)V" } : Jvm.MethodName) prog_10_method_12_code (7 : Nat) (Option.none : Option Jvm.ClassFile.FieldType)) ∈ zx_G := zx_Gt 823 (by decide +kernel) rfl
theorem zw_821 : (Jvm.Cond.instanceMethod ({ cls := "BeanLoom$Store", name := "appendBytes", desc := "(IJ)V" } : Jvm.MethodName)) ∈ zx_G := zx_Gt 821 (by decide +kernel) rfl
theorem zw_822 : (Jvm.Cond.selects "BeanLoom$Store" ({ cls := "BeanLoom$Store", name := "appendBytes", desc := "(IJ)V" } : Jvm.MethodName) ({ cls := "BeanLoom$Store", name := "appendBytes", desc := "(IJ)V" } : Jvm.MethodName)) ∈ zx_G := zx_Gt 822 (by decide +kernel) rfl
theorem zw_835 : (Jvm.Cond.methodLink "BeanLoom" (250 : Nat) ({ cls := "BeanLoom$Mapper", name := "run", desc := "(IJ)J" } : Jvm.MethodName)) ∈ zx_G := zx_Gt 835 (by decide +kernel) rfl
theorem zw_838 : (Jvm.Cond.code ({ cls := "BeanLoom$Mapper", name := "run", desc := "(IJ)J" } : Jvm.MethodName) prog_5_method_3_code (9 : Nat) (Option.some Jvm.ClassFile.FieldType.long)) ∈ zx_G := zx_Gt 838 (by decide +kernel) rfl
theorem zw_836 : (Jvm.Cond.instanceMethod ({ cls := "BeanLoom$Mapper", name := "run", desc := "(IJ)J" } : Jvm.MethodName)) ∈ zx_G := zx_Gt 836 (by decide +kernel) rfl
theorem zw_837 : (Jvm.Cond.selects "BeanLoom$Mapper" ({ cls := "BeanLoom$Mapper", name := "run", desc := "(IJ)J" } : Jvm.MethodName) ({ cls := "BeanLoom$Mapper", name := "run", desc := "(IJ)J" } : Jvm.MethodName)) ∈ zx_G := zx_Gt 837 (by decide +kernel) rfl
theorem zw_1043 : (Jvm.Cond.methodLink "BeanLoom" (254 : Nat) ({ cls := "BeanLoom$Mapper", name := "hasFailed", desc := "()Z" } : Jvm.MethodName)) ∈ zx_G := zx_Gt 1043 (by decide +kernel) rfl
theorem zw_1046 : (Jvm.Cond.code ({ cls := "BeanLoom$Mapper", name := "hasFailed", desc := "()Z" } : Jvm.MethodName) prog_5_method_2_code (1 : Nat) (Option.some Jvm.ClassFile.FieldType.boolean)) ∈ zx_G := zx_Gt 1046 (by decide +kernel) rfl
theorem zw_1044 : (Jvm.Cond.instanceMethod ({ cls := "BeanLoom$Mapper", name := "hasFailed", desc := "()Z" } : Jvm.MethodName)) ∈ zx_G := zx_Gt 1044 (by decide +kernel) rfl
theorem zw_1045 : (Jvm.Cond.selects "BeanLoom$Mapper" ({ cls := "BeanLoom$Mapper", name := "hasFailed", desc := "()Z" } : Jvm.MethodName) ({ cls := "BeanLoom$Mapper", name := "hasFailed", desc := "()Z" } : Jvm.MethodName)) ∈ zx_G := zx_Gt 1045 (by decide +kernel) rfl
theorem zw_1047 : (Jvm.Cond.methodLink "BeanLoom" (257 : Nat) ({ cls := "BeanLoom$Store", name := "forget", desc := "(I)V" } : Jvm.MethodName)) ∈ zx_G := zx_Gt 1047 (by decide +kernel) rfl
theorem zw_1050 : (Jvm.Cond.code ({ cls := "BeanLoom$Store", name := "forget", desc := "(I)V" } : Jvm.MethodName) prog_10_method_4_code (2 : Nat) (Option.none : Option Jvm.ClassFile.FieldType)) ∈ zx_G := zx_Gt 1050 (by decide +kernel) rfl
theorem zw_1048 : (Jvm.Cond.instanceMethod ({ cls := "BeanLoom$Store", name := "forget", desc := "(I)V" } : Jvm.MethodName)) ∈ zx_G := zx_Gt 1048 (by decide +kernel) rfl
theorem zw_1049 : (Jvm.Cond.selects "BeanLoom$Store" ({ cls := "BeanLoom$Store", name := "forget", desc := "(I)V" } : Jvm.MethodName) ({ cls := "BeanLoom$Store", name := "forget", desc := "(I)V" } : Jvm.MethodName)) ∈ zx_G := zx_Gt 1049 (by decide +kernel) rfl
theorem zw_1091 : (Jvm.Cond.methodLink "BeanLoom" (271 : Nat) ({ cls := "BeanLoom$Store", name := "cell", desc := "(II)J" } : Jvm.MethodName)) ∈ zx_G := zx_Gt 1091 (by decide +kernel) rfl
theorem zw_1099 : (Jvm.Cond.methodLink "BeanLoom" (275 : Nat) ({ cls := "BeanLoom$Store", name := "has", desc := "(J)Z" } : Jvm.MethodName)) ∈ zx_G := zx_Gt 1099 (by decide +kernel) rfl
theorem zw_464 : (Jvm.Cond.methodLink "BeanLoomLaw" (7 : Nat) ({ cls := "BeanLoom", name := "enumeration", desc := "(JI)I" } : Jvm.MethodName)) ∈ zx_G := zx_Gt 464 (by decide +kernel) rfl
theorem zw_1 : (Jvm.Cond.initialized "BeanLoom") ∈ zx_G := zx_Gt 1 (by decide +kernel) rfl
theorem zw_467 : (Jvm.Cond.code ({ cls := "BeanLoom", name := "enumeration", desc := "(JI)I" } : Jvm.MethodName) prog_1_method_2_code (6 : Nat) (Option.some Jvm.ClassFile.FieldType.int)) ∈ zx_G := zx_Gt 467 (by decide +kernel) rfl
theorem zw_465 : (Jvm.Cond.instanceMethod ({ cls := "BeanLoom", name := "enumeration", desc := "(JI)I" } : Jvm.MethodName)) ∈ zx_G := zx_Gt 465 (by decide +kernel) rfl
theorem zw_466 : (Jvm.Cond.selects "BeanLoom" ({ cls := "BeanLoom", name := "enumeration", desc := "(JI)I" } : Jvm.MethodName) ({ cls := "BeanLoom", name := "enumeration", desc := "(JI)I" } : Jvm.MethodName)) ∈ zx_G := zx_Gt 466 (by decide +kernel) rfl
theorem zw_575 : (Jvm.Cond.methodLink "BeanLoomLaw" (17 : Nat) ({ cls := "BeanLoom", name := "bean", desc := "()I" } : Jvm.MethodName)) ∈ zx_G := zx_Gt 575 (by decide +kernel) rfl
theorem zw_578 : (Jvm.Cond.code ({ cls := "BeanLoom", name := "bean", desc := "()I" } : Jvm.MethodName) prog_1_method_3_code (1 : Nat) (Option.some Jvm.ClassFile.FieldType.int)) ∈ zx_G := zx_Gt 578 (by decide +kernel) rfl
theorem zw_576 : (Jvm.Cond.instanceMethod ({ cls := "BeanLoom", name := "bean", desc := "()I" } : Jvm.MethodName)) ∈ zx_G := zx_Gt 576 (by decide +kernel) rfl
theorem zw_577 : (Jvm.Cond.selects "BeanLoom" ({ cls := "BeanLoom", name := "bean", desc := "()I" } : Jvm.MethodName) ({ cls := "BeanLoom", name := "bean", desc := "()I" } : Jvm.MethodName)) ∈ zx_G := zx_Gt 577 (by decide +kernel) rfl
theorem zw_582 : (Jvm.Cond.methodLink "BeanLoomLaw" (21 : Nat) ({ cls := "BeanLoom", name := "property", desc := "(III)I" } : Jvm.MethodName)) ∈ zx_G := zx_Gt 582 (by decide +kernel) rfl
theorem zw_585 : (Jvm.Cond.code ({ cls := "BeanLoom", name := "property", desc := "(III)I" } : Jvm.MethodName) prog_1_method_4_code (4 : Nat) (Option.some Jvm.ClassFile.FieldType.int)) ∈ zx_G := zx_Gt 585 (by decide +kernel) rfl
theorem zw_583 : (Jvm.Cond.instanceMethod ({ cls := "BeanLoom", name := "property", desc := "(III)I" } : Jvm.MethodName)) ∈ zx_G := zx_Gt 583 (by decide +kernel) rfl
theorem zw_584 : (Jvm.Cond.selects "BeanLoom" ({ cls := "BeanLoom", name := "property", desc := "(III)I" } : Jvm.MethodName) ({ cls := "BeanLoom", name := "property", desc := "(III)I" } : Jvm.MethodName)) ∈ zx_G := zx_Gt 584 (by decide +kernel) rfl
theorem zw_600 : (Jvm.Cond.methodLink "BeanLoomLaw" (25 : Nat) ({ cls := "BeanLoom", name := "list", desc := "(I)I" } : Jvm.MethodName)) ∈ zx_G := zx_Gt 600 (by decide +kernel) rfl
theorem zw_603 : (Jvm.Cond.code ({ cls := "BeanLoom", name := "list", desc := "(I)I" } : Jvm.MethodName) prog_1_method_5_code (3 : Nat) (Option.some Jvm.ClassFile.FieldType.int)) ∈ zx_G := zx_Gt 603 (by decide +kernel) rfl
theorem zw_601 : (Jvm.Cond.instanceMethod ({ cls := "BeanLoom", name := "list", desc := "(I)I" } : Jvm.MethodName)) ∈ zx_G := zx_Gt 601 (by decide +kernel) rfl
theorem zw_602 : (Jvm.Cond.selects "BeanLoom" ({ cls := "BeanLoom", name := "list", desc := "(I)I" } : Jvm.MethodName) ({ cls := "BeanLoom", name := "list", desc := "(I)I" } : Jvm.MethodName)) ∈ zx_G := zx_Gt 602 (by decide +kernel) rfl
theorem zw_613 : (Jvm.Cond.methodLink "BeanLoomLaw" (29 : Nat) ({ cls := "BeanLoom", name := "method", desc := "(II)I" } : Jvm.MethodName)) ∈ zx_G := zx_Gt 613 (by decide +kernel) rfl
theorem zw_616 : (Jvm.Cond.code ({ cls := "BeanLoom", name := "method", desc := "(II)I" } : Jvm.MethodName) prog_1_method_6_code (5 : Nat) (Option.some Jvm.ClassFile.FieldType.int)) ∈ zx_G := zx_Gt 616 (by decide +kernel) rfl
theorem zw_614 : (Jvm.Cond.instanceMethod ({ cls := "BeanLoom", name := "method", desc := "(II)I" } : Jvm.MethodName)) ∈ zx_G := zx_Gt 614 (by decide +kernel) rfl
theorem zw_615 : (Jvm.Cond.selects "BeanLoom" ({ cls := "BeanLoom", name := "method", desc := "(II)I" } : Jvm.MethodName) ({ cls := "BeanLoom", name := "method", desc := "(II)I" } : Jvm.MethodName)) ∈ zx_G := zx_Gt 615 (by decide +kernel) rfl
theorem zw_627 : (Jvm.Cond.methodLink "BeanLoomLaw" (33 : Nat) ({ cls := "BeanLoom", name := "function", desc := "(IIII)I" } : Jvm.MethodName)) ∈ zx_G := zx_Gt 627 (by decide +kernel) rfl
theorem zw_630 : (Jvm.Cond.code ({ cls := "BeanLoom", name := "function", desc := "(IIII)I" } : Jvm.MethodName) prog_1_method_7_code (5 : Nat) (Option.some Jvm.ClassFile.FieldType.int)) ∈ zx_G := zx_Gt 630 (by decide +kernel) rfl
theorem zw_628 : (Jvm.Cond.instanceMethod ({ cls := "BeanLoom", name := "function", desc := "(IIII)I" } : Jvm.MethodName)) ∈ zx_G := zx_Gt 628 (by decide +kernel) rfl
theorem zw_629 : (Jvm.Cond.selects "BeanLoom" ({ cls := "BeanLoom", name := "function", desc := "(IIII)I" } : Jvm.MethodName) ({ cls := "BeanLoom", name := "function", desc := "(IIII)I" } : Jvm.MethodName)) ∈ zx_G := zx_Gt 629 (by decide +kernel) rfl
theorem zw_643 : (Jvm.Cond.methodLink "BeanLoomLaw" (37 : Nat) ({ cls := "BeanLoom", name := "rule", desc := "(IIIJ)V" } : Jvm.MethodName)) ∈ zx_G := zx_Gt 643 (by decide +kernel) rfl
theorem zw_646 : (Jvm.Cond.code ({ cls := "BeanLoom", name := "rule", desc := "(IIIJ)V" } : Jvm.MethodName) prog_1_method_8_code (6 : Nat) (Option.none : Option Jvm.ClassFile.FieldType)) ∈ zx_G := zx_Gt 646 (by decide +kernel) rfl
theorem zw_644 : (Jvm.Cond.instanceMethod ({ cls := "BeanLoom", name := "rule", desc := "(IIIJ)V" } : Jvm.MethodName)) ∈ zx_G := zx_Gt 644 (by decide +kernel) rfl
theorem zw_645 : (Jvm.Cond.selects "BeanLoom" ({ cls := "BeanLoom", name := "rule", desc := "(IIIJ)V" } : Jvm.MethodName) ({ cls := "BeanLoom", name := "rule", desc := "(IIIJ)V" } : Jvm.MethodName)) ∈ zx_G := zx_Gt 645 (by decide +kernel) rfl
theorem zw_660 : (Jvm.Cond.methodLink "BeanLoomLaw" (41 : Nat) ({ cls := "BeanLoom", name := "build", desc := "()I" } : Jvm.MethodName)) ∈ zx_G := zx_Gt 660 (by decide +kernel) rfl
theorem zw_663 : (Jvm.Cond.code ({ cls := "BeanLoom", name := "build", desc := "()I" } : Jvm.MethodName) prog_1_method_9_code (1 : Nat) (Option.some Jvm.ClassFile.FieldType.int)) ∈ zx_G := zx_Gt 663 (by decide +kernel) rfl
theorem zw_661 : (Jvm.Cond.instanceMethod ({ cls := "BeanLoom", name := "build", desc := "()I" } : Jvm.MethodName)) ∈ zx_G := zx_Gt 661 (by decide +kernel) rfl
theorem zw_662 : (Jvm.Cond.selects "BeanLoom" ({ cls := "BeanLoom", name := "build", desc := "()I" } : Jvm.MethodName) ({ cls := "BeanLoom", name := "build", desc := "()I" } : Jvm.MethodName)) ∈ zx_G := zx_Gt 662 (by decide +kernel) rfl
theorem zw_790 : (Jvm.Cond.methodLink "BeanLoomLaw" (44 : Nat) ({ cls := "BeanLoom", name := "make", desc := "(IJ)I" } : Jvm.MethodName)) ∈ zx_G := zx_Gt 790 (by decide +kernel) rfl
theorem zw_793 : (Jvm.Cond.code ({ cls := "BeanLoom", name := "make", desc := "(IJ)I" } : Jvm.MethodName) prog_1_method_11_code (6 : Nat) (Option.some Jvm.ClassFile.FieldType.int)) ∈ zx_G := zx_Gt 793 (by decide +kernel) rfl
theorem zw_791 : (Jvm.Cond.instanceMethod ({ cls := "BeanLoom", name := "make", desc := "(IJ)I" } : Jvm.MethodName)) ∈ zx_G := zx_Gt 791 (by decide +kernel) rfl
theorem zw_792 : (Jvm.Cond.selects "BeanLoom" ({ cls := "BeanLoom", name := "make", desc := "(IJ)I" } : Jvm.MethodName) ({ cls := "BeanLoom", name := "make", desc := "(IJ)I" } : Jvm.MethodName)) ∈ zx_G := zx_Gt 792 (by decide +kernel) rfl
theorem zw_829 : (Jvm.Cond.methodLink "BeanLoomLaw" (48 : Nat) ({ cls := "BeanLoom", name := "map", desc := "(II)I" } : Jvm.MethodName)) ∈ zx_G := zx_Gt 829 (by decide +kernel) rfl
theorem zw_832 : (Jvm.Cond.code ({ cls := "BeanLoom", name := "map", desc := "(II)I" } : Jvm.MethodName) prog_1_method_13_code (6 : Nat) (Option.some Jvm.ClassFile.FieldType.int)) ∈ zx_G := zx_Gt 832 (by decide +kernel) rfl
theorem zw_830 : (Jvm.Cond.instanceMethod ({ cls := "BeanLoom", name := "map", desc := "(II)I" } : Jvm.MethodName)) ∈ zx_G := zx_Gt 830 (by decide +kernel) rfl
theorem zw_831 : (Jvm.Cond.selects "BeanLoom" ({ cls := "BeanLoom", name := "map", desc := "(II)I" } : Jvm.MethodName) ({ cls := "BeanLoom", name := "map", desc := "(II)I" } : Jvm.MethodName)) ∈ zx_G := zx_Gt 831 (by decide +kernel) rfl
theorem zw_1071 : (Jvm.Cond.methodLink "BeanLoomLaw" (53 : Nat) ({ cls := "BeanLoom", name := "get", desc := "(II)J" } : Jvm.MethodName)) ∈ zx_G := zx_Gt 1071 (by decide +kernel) rfl
theorem zw_1074 : (Jvm.Cond.code ({ cls := "BeanLoom", name := "get", desc := "(II)J" } : Jvm.MethodName) prog_1_method_14_code (3 : Nat) (Option.some Jvm.ClassFile.FieldType.long)) ∈ zx_G := zx_Gt 1074 (by decide +kernel) rfl
theorem zw_1072 : (Jvm.Cond.instanceMethod ({ cls := "BeanLoom", name := "get", desc := "(II)J" } : Jvm.MethodName)) ∈ zx_G := zx_Gt 1072 (by decide +kernel) rfl
theorem zw_1073 : (Jvm.Cond.selects "BeanLoom" ({ cls := "BeanLoom", name := "get", desc := "(II)J" } : Jvm.MethodName) ({ cls := "BeanLoom", name := "get", desc := "(II)J" } : Jvm.MethodName)) ∈ zx_G := zx_Gt 1073 (by decide +kernel) rfl
theorem zw_1095 : (Jvm.Cond.methodLink "BeanLoomLaw" (59 : Nat) ({ cls := "BeanLoom", name := "about", desc := "(II)I" } : Jvm.MethodName)) ∈ zx_G := zx_Gt 1095 (by decide +kernel) rfl
theorem zw_1098 : (Jvm.Cond.code ({ cls := "BeanLoom", name := "about", desc := "(II)I" } : Jvm.MethodName) prog_1_method_15_code (3 : Nat) (Option.some Jvm.ClassFile.FieldType.int)) ∈ zx_G := zx_Gt 1098 (by decide +kernel) rfl
theorem zw_1096 : (Jvm.Cond.instanceMethod ({ cls := "BeanLoom", name := "about", desc := "(II)I" } : Jvm.MethodName)) ∈ zx_G := zx_Gt 1096 (by decide +kernel) rfl
theorem zw_1097 : (Jvm.Cond.selects "BeanLoom" ({ cls := "BeanLoom", name := "about", desc := "(II)I" } : Jvm.MethodName) ({ cls := "BeanLoom", name := "about", desc := "(II)I" } : Jvm.MethodName)) ∈ zx_G := zx_Gt 1097 (by decide +kernel) rfl
theorem zw_459 : (Jvm.Cond.methodLink "BeanLoomLaw" (68 : Nat) ({ cls := "BeanLoomLaw", name := "enumeration", desc := "(LBeanLoom;JI[J)I" } : Jvm.MethodName)) ∈ zx_G := zx_Gt 459 (by decide +kernel) rfl
theorem zw_0 : (Jvm.Cond.initialized "BeanLoomLaw") ∈ zx_G := zx_Gt 0 (by decide +kernel) rfl
theorem zw_461 : (Jvm.Cond.codeWith ({ cls := "BeanLoomLaw", name := "enumeration", desc := "(LBeanLoom;JI[J)I" } : Jvm.MethodName) method_3_code (6 : Nat) (Option.some Jvm.ClassFile.FieldType.int) [((0 : Nat), (11 : Nat), (14 : Nat), (13 : Nat)), ((0 : Nat), (11 : Nat), (18 : Nat), (15 : Nat))]) ∈ zx_G := zx_Gt 461 (by decide +kernel) rfl
theorem zw_460 : (Jvm.Cond.static ({ cls := "BeanLoomLaw", name := "enumeration", desc := "(LBeanLoom;JI[J)I" } : Jvm.MethodName)) ∈ zx_G := zx_Gt 460 (by decide +kernel) rfl
theorem zw_1232 : (Jvm.Cond.methodLink "BeanLoomLaw" (73 : Nat) ({ cls := "BeanLoomModel", name := "enumeration", desc := "(JI)I" } : Jvm.MethodName)) ∈ zx_G := zx_Gt 1232 (by decide +kernel) rfl
theorem zw_1235 : (Jvm.Cond.code ({ cls := "BeanLoomModel", name := "enumeration", desc := "(JI)I" } : Jvm.MethodName) prog_14_method_8_code (8 : Nat) (Option.some Jvm.ClassFile.FieldType.int)) ∈ zx_G := zx_Gt 1235 (by decide +kernel) rfl
theorem zw_1233 : (Jvm.Cond.instanceMethod ({ cls := "BeanLoomModel", name := "enumeration", desc := "(JI)I" } : Jvm.MethodName)) ∈ zx_G := zx_Gt 1233 (by decide +kernel) rfl
theorem zw_1234 : (Jvm.Cond.selects "BeanLoomModel" ({ cls := "BeanLoomModel", name := "enumeration", desc := "(JI)I" } : Jvm.MethodName) ({ cls := "BeanLoomModel", name := "enumeration", desc := "(JI)I" } : Jvm.MethodName)) ∈ zx_G := zx_Gt 1234 (by decide +kernel) rfl
theorem zw_1228 : (Jvm.Cond.methodLink "BeanLoomLaw" (74 : Nat) ({ cls := "BeanLoomModel", name := "thrown", desc := "()I" } : Jvm.MethodName)) ∈ zx_G := zx_Gt 1228 (by decide +kernel) rfl
theorem zw_1231 : (Jvm.Cond.code ({ cls := "BeanLoomModel", name := "thrown", desc := "()I" } : Jvm.MethodName) prog_14_method_2_code (1 : Nat) (Option.some Jvm.ClassFile.FieldType.int)) ∈ zx_G := zx_Gt 1231 (by decide +kernel) rfl
theorem zw_1229 : (Jvm.Cond.instanceMethod ({ cls := "BeanLoomModel", name := "thrown", desc := "()I" } : Jvm.MethodName)) ∈ zx_G := zx_Gt 1229 (by decide +kernel) rfl
theorem zw_1230 : (Jvm.Cond.selects "BeanLoomModel" ({ cls := "BeanLoomModel", name := "thrown", desc := "()I" } : Jvm.MethodName) ({ cls := "BeanLoomModel", name := "thrown", desc := "()I" } : Jvm.MethodName)) ∈ zx_G := zx_Gt 1230 (by decide +kernel) rfl
theorem zw_572 : (Jvm.Cond.methodLink "BeanLoomLaw" (77 : Nat) ({ cls := "BeanLoomLaw", name := "bean", desc := "(LBeanLoom;[J)I" } : Jvm.MethodName)) ∈ zx_G := zx_Gt 572 (by decide +kernel) rfl
theorem zw_574 : (Jvm.Cond.codeWith ({ cls := "BeanLoomLaw", name := "bean", desc := "(LBeanLoom;[J)I" } : Jvm.MethodName) method_4_code (3 : Nat) (Option.some Jvm.ClassFile.FieldType.int) [((0 : Nat), (8 : Nat), (11 : Nat), (15 : Nat))]) ∈ zx_G := zx_Gt 574 (by decide +kernel) rfl
theorem zw_573 : (Jvm.Cond.static ({ cls := "BeanLoomLaw", name := "bean", desc := "(LBeanLoom;[J)I" } : Jvm.MethodName)) ∈ zx_G := zx_Gt 573 (by decide +kernel) rfl
theorem zw_1248 : (Jvm.Cond.methodLink "BeanLoomLaw" (80 : Nat) ({ cls := "BeanLoomModel", name := "bean", desc := "()I" } : Jvm.MethodName)) ∈ zx_G := zx_Gt 1248 (by decide +kernel) rfl
theorem zw_1251 : (Jvm.Cond.code ({ cls := "BeanLoomModel", name := "bean", desc := "()I" } : Jvm.MethodName) prog_14_method_9_code (1 : Nat) (Option.some Jvm.ClassFile.FieldType.int)) ∈ zx_G := zx_Gt 1251 (by decide +kernel) rfl
theorem zw_1249 : (Jvm.Cond.instanceMethod ({ cls := "BeanLoomModel", name := "bean", desc := "()I" } : Jvm.MethodName)) ∈ zx_G := zx_Gt 1249 (by decide +kernel) rfl
theorem zw_1250 : (Jvm.Cond.selects "BeanLoomModel" ({ cls := "BeanLoomModel", name := "bean", desc := "()I" } : Jvm.MethodName) ({ cls := "BeanLoomModel", name := "bean", desc := "()I" } : Jvm.MethodName)) ∈ zx_G := zx_Gt 1250 (by decide +kernel) rfl
theorem zw_579 : (Jvm.Cond.methodLink "BeanLoomLaw" (81 : Nat) ({ cls := "BeanLoomLaw", name := "property", desc := "(LBeanLoom;III[J)I" } : Jvm.MethodName)) ∈ zx_G := zx_Gt 579 (by decide +kernel) rfl
theorem zw_581 : (Jvm.Cond.codeWith ({ cls := "BeanLoomLaw", name := "property", desc := "(LBeanLoom;III[J)I" } : Jvm.MethodName) method_5_code (6 : Nat) (Option.some Jvm.ClassFile.FieldType.int) [((0 : Nat), (12 : Nat), (15 : Nat), (13 : Nat)), ((0 : Nat), (12 : Nat), (19 : Nat), (15 : Nat))]) ∈ zx_G := zx_Gt 581 (by decide +kernel) rfl
theorem zw_580 : (Jvm.Cond.static ({ cls := "BeanLoomLaw", name := "property", desc := "(LBeanLoom;III[J)I" } : Jvm.MethodName)) ∈ zx_G := zx_Gt 580 (by decide +kernel) rfl
theorem zw_1252 : (Jvm.Cond.methodLink "BeanLoomLaw" (84 : Nat) ({ cls := "BeanLoomModel", name := "property", desc := "(III)I" } : Jvm.MethodName)) ∈ zx_G := zx_Gt 1252 (by decide +kernel) rfl
theorem zw_1255 : (Jvm.Cond.code ({ cls := "BeanLoomModel", name := "property", desc := "(III)I" } : Jvm.MethodName) prog_14_method_11_code (4 : Nat) (Option.some Jvm.ClassFile.FieldType.int)) ∈ zx_G := zx_Gt 1255 (by decide +kernel) rfl
theorem zw_1253 : (Jvm.Cond.instanceMethod ({ cls := "BeanLoomModel", name := "property", desc := "(III)I" } : Jvm.MethodName)) ∈ zx_G := zx_Gt 1253 (by decide +kernel) rfl
theorem zw_1254 : (Jvm.Cond.selects "BeanLoomModel" ({ cls := "BeanLoomModel", name := "property", desc := "(III)I" } : Jvm.MethodName) ({ cls := "BeanLoomModel", name := "property", desc := "(III)I" } : Jvm.MethodName)) ∈ zx_G := zx_Gt 1254 (by decide +kernel) rfl
theorem zw_597 : (Jvm.Cond.methodLink "BeanLoomLaw" (85 : Nat) ({ cls := "BeanLoomLaw", name := "list", desc := "(LBeanLoom;I[J)I" } : Jvm.MethodName)) ∈ zx_G := zx_Gt 597 (by decide +kernel) rfl
theorem zw_599 : (Jvm.Cond.codeWith ({ cls := "BeanLoomLaw", name := "list", desc := "(LBeanLoom;I[J)I" } : Jvm.MethodName) method_6_code (4 : Nat) (Option.some Jvm.ClassFile.FieldType.int) [((0 : Nat), (9 : Nat), (12 : Nat), (13 : Nat)), ((0 : Nat), (9 : Nat), (15 : Nat), (15 : Nat))]) ∈ zx_G := zx_Gt 599 (by decide +kernel) rfl
theorem zw_598 : (Jvm.Cond.static ({ cls := "BeanLoomLaw", name := "list", desc := "(LBeanLoom;I[J)I" } : Jvm.MethodName)) ∈ zx_G := zx_Gt 598 (by decide +kernel) rfl
theorem zw_1268 : (Jvm.Cond.methodLink "BeanLoomLaw" (88 : Nat) ({ cls := "BeanLoomModel", name := "list", desc := "(I)I" } : Jvm.MethodName)) ∈ zx_G := zx_Gt 1268 (by decide +kernel) rfl
theorem zw_1271 : (Jvm.Cond.code ({ cls := "BeanLoomModel", name := "list", desc := "(I)I" } : Jvm.MethodName) prog_14_method_12_code (3 : Nat) (Option.some Jvm.ClassFile.FieldType.int)) ∈ zx_G := zx_Gt 1271 (by decide +kernel) rfl
theorem zw_1269 : (Jvm.Cond.instanceMethod ({ cls := "BeanLoomModel", name := "list", desc := "(I)I" } : Jvm.MethodName)) ∈ zx_G := zx_Gt 1269 (by decide +kernel) rfl
theorem zw_1270 : (Jvm.Cond.selects "BeanLoomModel" ({ cls := "BeanLoomModel", name := "list", desc := "(I)I" } : Jvm.MethodName) ({ cls := "BeanLoomModel", name := "list", desc := "(I)I" } : Jvm.MethodName)) ∈ zx_G := zx_Gt 1270 (by decide +kernel) rfl
theorem zw_610 : (Jvm.Cond.methodLink "BeanLoomLaw" (89 : Nat) ({ cls := "BeanLoomLaw", name := "method", desc := "(LBeanLoom;II[J)I" } : Jvm.MethodName)) ∈ zx_G := zx_Gt 610 (by decide +kernel) rfl
theorem zw_612 : (Jvm.Cond.codeWith ({ cls := "BeanLoomLaw", name := "method", desc := "(LBeanLoom;II[J)I" } : Jvm.MethodName) method_7_code (5 : Nat) (Option.some Jvm.ClassFile.FieldType.int) [((0 : Nat), (10 : Nat), (13 : Nat), (13 : Nat)), ((0 : Nat), (10 : Nat), (17 : Nat), (15 : Nat))]) ∈ zx_G := zx_Gt 612 (by decide +kernel) rfl
theorem zw_611 : (Jvm.Cond.static ({ cls := "BeanLoomLaw", name := "method", desc := "(LBeanLoom;II[J)I" } : Jvm.MethodName)) ∈ zx_G := zx_Gt 611 (by decide +kernel) rfl
theorem zw_1272 : (Jvm.Cond.methodLink "BeanLoomLaw" (92 : Nat) ({ cls := "BeanLoomModel", name := "method", desc := "(II)I" } : Jvm.MethodName)) ∈ zx_G := zx_Gt 1272 (by decide +kernel) rfl
theorem zw_1275 : (Jvm.Cond.code ({ cls := "BeanLoomModel", name := "method", desc := "(II)I" } : Jvm.MethodName) prog_14_method_13_code (4 : Nat) (Option.some Jvm.ClassFile.FieldType.int)) ∈ zx_G := zx_Gt 1275 (by decide +kernel) rfl
theorem zw_1273 : (Jvm.Cond.instanceMethod ({ cls := "BeanLoomModel", name := "method", desc := "(II)I" } : Jvm.MethodName)) ∈ zx_G := zx_Gt 1273 (by decide +kernel) rfl
theorem zw_1274 : (Jvm.Cond.selects "BeanLoomModel" ({ cls := "BeanLoomModel", name := "method", desc := "(II)I" } : Jvm.MethodName) ({ cls := "BeanLoomModel", name := "method", desc := "(II)I" } : Jvm.MethodName)) ∈ zx_G := zx_Gt 1274 (by decide +kernel) rfl
theorem zw_624 : (Jvm.Cond.methodLink "BeanLoomLaw" (93 : Nat) ({ cls := "BeanLoomLaw", name := "function", desc := "(LBeanLoom;IIII[J)I" } : Jvm.MethodName)) ∈ zx_G := zx_Gt 624 (by decide +kernel) rfl
theorem zw_626 : (Jvm.Cond.codeWith ({ cls := "BeanLoomLaw", name := "function", desc := "(LBeanLoom;IIII[J)I" } : Jvm.MethodName) method_8_code (7 : Nat) (Option.some Jvm.ClassFile.FieldType.int) [((0 : Nat), (14 : Nat), (17 : Nat), (13 : Nat)), ((0 : Nat), (14 : Nat), (21 : Nat), (15 : Nat))]) ∈ zx_G := zx_Gt 626 (by decide +kernel) rfl
theorem zw_625 : (Jvm.Cond.static ({ cls := "BeanLoomLaw", name := "function", desc := "(LBeanLoom;IIII[J)I" } : Jvm.MethodName)) ∈ zx_G := zx_Gt 625 (by decide +kernel) rfl
theorem zw_1276 : (Jvm.Cond.methodLink "BeanLoomLaw" (96 : Nat) ({ cls := "BeanLoomModel", name := "function", desc := "(IIII)I" } : Jvm.MethodName)) ∈ zx_G := zx_Gt 1276 (by decide +kernel) rfl
theorem zw_1279 : (Jvm.Cond.code ({ cls := "BeanLoomModel", name := "function", desc := "(IIII)I" } : Jvm.MethodName) prog_14_method_16_code (5 : Nat) (Option.some Jvm.ClassFile.FieldType.int)) ∈ zx_G := zx_Gt 1279 (by decide +kernel) rfl
theorem zw_1277 : (Jvm.Cond.instanceMethod ({ cls := "BeanLoomModel", name := "function", desc := "(IIII)I" } : Jvm.MethodName)) ∈ zx_G := zx_Gt 1277 (by decide +kernel) rfl
theorem zw_1278 : (Jvm.Cond.selects "BeanLoomModel" ({ cls := "BeanLoomModel", name := "function", desc := "(IIII)I" } : Jvm.MethodName) ({ cls := "BeanLoomModel", name := "function", desc := "(IIII)I" } : Jvm.MethodName)) ∈ zx_G := zx_Gt 1278 (by decide +kernel) rfl
theorem zw_640 : (Jvm.Cond.methodLink "BeanLoomLaw" (97 : Nat) ({ cls := "BeanLoomLaw", name := "rule", desc := "(LBeanLoom;IIIJ)I" } : Jvm.MethodName)) ∈ zx_G := zx_Gt 640 (by decide +kernel) rfl
theorem zw_642 : (Jvm.Cond.codeWith ({ cls := "BeanLoomLaw", name := "rule", desc := "(LBeanLoom;IIIJ)I" } : Jvm.MethodName) method_9_code (7 : Nat) (Option.some Jvm.ClassFile.FieldType.int) [((0 : Nat), (9 : Nat), (12 : Nat), (13 : Nat)), ((0 : Nat), (9 : Nat), (16 : Nat), (15 : Nat))]) ∈ zx_G := zx_Gt 642 (by decide +kernel) rfl
theorem zw_641 : (Jvm.Cond.static ({ cls := "BeanLoomLaw", name := "rule", desc := "(LBeanLoom;IIIJ)I" } : Jvm.MethodName)) ∈ zx_G := zx_Gt 641 (by decide +kernel) rfl
theorem zw_1286 : (Jvm.Cond.methodLink "BeanLoomLaw" (100 : Nat) ({ cls := "BeanLoomModel", name := "rule", desc := "(IIIJ)V" } : Jvm.MethodName)) ∈ zx_G := zx_Gt 1286 (by decide +kernel) rfl
theorem zw_1289 : (Jvm.Cond.code ({ cls := "BeanLoomModel", name := "rule", desc := "(IIIJ)V" } : Jvm.MethodName) prog_14_method_17_code (7 : Nat) (Option.none : Option Jvm.ClassFile.FieldType)) ∈ zx_G := zx_Gt 1289 (by decide +kernel) rfl
theorem zw_1287 : (Jvm.Cond.instanceMethod ({ cls := "BeanLoomModel", name := "rule", desc := "(IIIJ)V" } : Jvm.MethodName)) ∈ zx_G := zx_Gt 1287 (by decide +kernel) rfl
theorem zw_1288 : (Jvm.Cond.selects "BeanLoomModel" ({ cls := "BeanLoomModel", name := "rule", desc := "(IIIJ)V" } : Jvm.MethodName) ({ cls := "BeanLoomModel", name := "rule", desc := "(IIIJ)V" } : Jvm.MethodName)) ∈ zx_G := zx_Gt 1288 (by decide +kernel) rfl
theorem zw_657 : (Jvm.Cond.methodLink "BeanLoomLaw" (101 : Nat) ({ cls := "BeanLoomLaw", name := "build", desc := "(LBeanLoom;[J)I" } : Jvm.MethodName)) ∈ zx_G := zx_Gt 657 (by decide +kernel) rfl
theorem zw_659 : (Jvm.Cond.codeWith ({ cls := "BeanLoomLaw", name := "build", desc := "(LBeanLoom;[J)I" } : Jvm.MethodName) method_10_code (3 : Nat) (Option.some Jvm.ClassFile.FieldType.int) [((0 : Nat), (8 : Nat), (11 : Nat), (13 : Nat)), ((0 : Nat), (8 : Nat), (14 : Nat), (15 : Nat))]) ∈ zx_G := zx_Gt 659 (by decide +kernel) rfl
theorem zw_658 : (Jvm.Cond.static ({ cls := "BeanLoomLaw", name := "build", desc := "(LBeanLoom;[J)I" } : Jvm.MethodName)) ∈ zx_G := zx_Gt 658 (by decide +kernel) rfl
theorem zw_1290 : (Jvm.Cond.methodLink "BeanLoomLaw" (103 : Nat) ({ cls := "BeanLoomModel", name := "build", desc := "()I" } : Jvm.MethodName)) ∈ zx_G := zx_Gt 1290 (by decide +kernel) rfl
theorem zw_1293 : (Jvm.Cond.code ({ cls := "BeanLoomModel", name := "build", desc := "()I" } : Jvm.MethodName) prog_14_method_37_code (3 : Nat) (Option.some Jvm.ClassFile.FieldType.int)) ∈ zx_G := zx_Gt 1293 (by decide +kernel) rfl
theorem zw_1291 : (Jvm.Cond.instanceMethod ({ cls := "BeanLoomModel", name := "build", desc := "()I" } : Jvm.MethodName)) ∈ zx_G := zx_Gt 1291 (by decide +kernel) rfl
theorem zw_1292 : (Jvm.Cond.selects "BeanLoomModel" ({ cls := "BeanLoomModel", name := "build", desc := "()I" } : Jvm.MethodName) ({ cls := "BeanLoomModel", name := "build", desc := "()I" } : Jvm.MethodName)) ∈ zx_G := zx_Gt 1292 (by decide +kernel) rfl
theorem zw_374 : (Jvm.Cond.methodLink "BeanLoomLaw" (104 : Nat) ({ cls := "BeanLoom", name := "diagnosis", desc := "(I)I" } : Jvm.MethodName)) ∈ zx_G := zx_Gt 374 (by decide +kernel) rfl
theorem zw_377 : (Jvm.Cond.code ({ cls := "BeanLoom", name := "diagnosis", desc := "(I)I" } : Jvm.MethodName) prog_1_method_10_code (2 : Nat) (Option.some Jvm.ClassFile.FieldType.int)) ∈ zx_G := zx_Gt 377 (by decide +kernel) rfl
theorem zw_375 : (Jvm.Cond.instanceMethod ({ cls := "BeanLoom", name := "diagnosis", desc := "(I)I" } : Jvm.MethodName)) ∈ zx_G := zx_Gt 375 (by decide +kernel) rfl
theorem zw_376 : (Jvm.Cond.selects "BeanLoom" ({ cls := "BeanLoom", name := "diagnosis", desc := "(I)I" } : Jvm.MethodName) ({ cls := "BeanLoom", name := "diagnosis", desc := "(I)I" } : Jvm.MethodName)) ∈ zx_G := zx_Gt 376 (by decide +kernel) rfl
theorem zw_1371 : (Jvm.Cond.methodLink "BeanLoomLaw" (107 : Nat) ({ cls := "BeanLoomModel", name := "diagnosis", desc := "(I)I" } : Jvm.MethodName)) ∈ zx_G := zx_Gt 1371 (by decide +kernel) rfl
theorem zw_1374 : (Jvm.Cond.code ({ cls := "BeanLoomModel", name := "diagnosis", desc := "(I)I" } : Jvm.MethodName) prog_14_method_38_code (2 : Nat) (Option.some Jvm.ClassFile.FieldType.int)) ∈ zx_G := zx_Gt 1374 (by decide +kernel) rfl
theorem zw_1372 : (Jvm.Cond.instanceMethod ({ cls := "BeanLoomModel", name := "diagnosis", desc := "(I)I" } : Jvm.MethodName)) ∈ zx_G := zx_Gt 1372 (by decide +kernel) rfl
theorem zw_1373 : (Jvm.Cond.selects "BeanLoomModel" ({ cls := "BeanLoomModel", name := "diagnosis", desc := "(I)I" } : Jvm.MethodName) ({ cls := "BeanLoomModel", name := "diagnosis", desc := "(I)I" } : Jvm.MethodName)) ∈ zx_G := zx_Gt 1373 (by decide +kernel) rfl
theorem zw_787 : (Jvm.Cond.methodLink "BeanLoomLaw" (108 : Nat) ({ cls := "BeanLoomLaw", name := "make", desc := "(LBeanLoom;IJ[J)I" } : Jvm.MethodName)) ∈ zx_G := zx_Gt 787 (by decide +kernel) rfl
theorem zw_789 : (Jvm.Cond.codeWith ({ cls := "BeanLoomLaw", name := "make", desc := "(LBeanLoom;IJ[J)I" } : Jvm.MethodName) method_11_code (6 : Nat) (Option.some Jvm.ClassFile.FieldType.int) [((0 : Nat), (11 : Nat), (14 : Nat), (13 : Nat)), ((0 : Nat), (11 : Nat), (18 : Nat), (15 : Nat))]) ∈ zx_G := zx_Gt 789 (by decide +kernel) rfl
theorem zw_788 : (Jvm.Cond.static ({ cls := "BeanLoomLaw", name := "make", desc := "(LBeanLoom;IJ[J)I" } : Jvm.MethodName)) ∈ zx_G := zx_Gt 788 (by decide +kernel) rfl
theorem zw_1375 : (Jvm.Cond.methodLink "BeanLoomLaw" (111 : Nat) ({ cls := "BeanLoomModel", name := "make", desc := "(IJ)I" } : Jvm.MethodName)) ∈ zx_G := zx_Gt 1375 (by decide +kernel) rfl
theorem zw_1378 : (Jvm.Cond.code ({ cls := "BeanLoomModel", name := "make", desc := "(IJ)I" } : Jvm.MethodName) prog_14_method_43_code (7 : Nat) (Option.some Jvm.ClassFile.FieldType.int)) ∈ zx_G := zx_Gt 1378 (by decide +kernel) rfl
theorem zw_1376 : (Jvm.Cond.instanceMethod ({ cls := "BeanLoomModel", name := "make", desc := "(IJ)I" } : Jvm.MethodName)) ∈ zx_G := zx_Gt 1376 (by decide +kernel) rfl
theorem zw_1377 : (Jvm.Cond.selects "BeanLoomModel" ({ cls := "BeanLoomModel", name := "make", desc := "(IJ)I" } : Jvm.MethodName) ({ cls := "BeanLoomModel", name := "make", desc := "(IJ)I" } : Jvm.MethodName)) ∈ zx_G := zx_Gt 1377 (by decide +kernel) rfl
theorem zw_378 : (Jvm.Cond.methodLink "BeanLoomLaw" (112 : Nat) ({ cls := "BeanLoom", name := "put", desc := "(IIJ)Z" } : Jvm.MethodName)) ∈ zx_G := zx_Gt 378 (by decide +kernel) rfl
theorem zw_381 : (Jvm.Cond.code ({ cls := "BeanLoom", name := "put", desc := "(IIJ)Z" } : Jvm.MethodName) prog_1_method_12_code (6 : Nat) (Option.some Jvm.ClassFile.FieldType.boolean)) ∈ zx_G := zx_Gt 381 (by decide +kernel) rfl
theorem zw_379 : (Jvm.Cond.instanceMethod ({ cls := "BeanLoom", name := "put", desc := "(IIJ)Z" } : Jvm.MethodName)) ∈ zx_G := zx_Gt 379 (by decide +kernel) rfl
theorem zw_380 : (Jvm.Cond.selects "BeanLoom" ({ cls := "BeanLoom", name := "put", desc := "(IIJ)Z" } : Jvm.MethodName) ({ cls := "BeanLoom", name := "put", desc := "(IIJ)Z" } : Jvm.MethodName)) ∈ zx_G := zx_Gt 380 (by decide +kernel) rfl
theorem zw_1396 : (Jvm.Cond.methodLink "BeanLoomLaw" (116 : Nat) ({ cls := "BeanLoomModel", name := "put", desc := "(IIJ)Z" } : Jvm.MethodName)) ∈ zx_G := zx_Gt 1396 (by decide +kernel) rfl
theorem zw_1399 : (Jvm.Cond.code ({ cls := "BeanLoomModel", name := "put", desc := "(IIJ)Z" } : Jvm.MethodName) prog_14_method_45_code (7 : Nat) (Option.some Jvm.ClassFile.FieldType.boolean)) ∈ zx_G := zx_Gt 1399 (by decide +kernel) rfl
theorem zw_1397 : (Jvm.Cond.instanceMethod ({ cls := "BeanLoomModel", name := "put", desc := "(IIJ)Z" } : Jvm.MethodName)) ∈ zx_G := zx_Gt 1397 (by decide +kernel) rfl
theorem zw_1398 : (Jvm.Cond.selects "BeanLoomModel" ({ cls := "BeanLoomModel", name := "put", desc := "(IIJ)Z" } : Jvm.MethodName) ({ cls := "BeanLoomModel", name := "put", desc := "(IIJ)Z" } : Jvm.MethodName)) ∈ zx_G := zx_Gt 1398 (by decide +kernel) rfl
theorem zw_825 : (Jvm.Cond.methodLink "BeanLoomLaw" (117 : Nat) ({ cls := "BeanLoomLaw", name := "map", desc := "(LBeanLoom;II[J)I" } : Jvm.MethodName)) ∈ zx_G := zx_Gt 825 (by decide +kernel) rfl
theorem zw_827 : (Jvm.Cond.codeWith ({ cls := "BeanLoomLaw", name := "map", desc := "(LBeanLoom;II[J)I" } : Jvm.MethodName) method_12_code (5 : Nat) (Option.some Jvm.ClassFile.FieldType.int) [((0 : Nat), (10 : Nat), (13 : Nat), (13 : Nat)), ((0 : Nat), (10 : Nat), (17 : Nat), (15 : Nat)), ((0 : Nat), (10 : Nat), (21 : Nat), (51 : Nat))]) ∈ zx_G := zx_Gt 827 (by decide +kernel) rfl
theorem zw_826 : (Jvm.Cond.static ({ cls := "BeanLoomLaw", name := "map", desc := "(LBeanLoom;II[J)I" } : Jvm.MethodName)) ∈ zx_G := zx_Gt 826 (by decide +kernel) rfl
theorem zw_1404 : (Jvm.Cond.methodLink "BeanLoomLaw" (119 : Nat) ({ cls := "BeanLoomModel", name := "map", desc := "(II)I" } : Jvm.MethodName)) ∈ zx_G := zx_Gt 1404 (by decide +kernel) rfl
theorem zw_1407 : (Jvm.Cond.code ({ cls := "BeanLoomModel", name := "map", desc := "(II)I" } : Jvm.MethodName) prog_14_method_70_code (6 : Nat) (Option.some Jvm.ClassFile.FieldType.int)) ∈ zx_G := zx_Gt 1407 (by decide +kernel) rfl
theorem zw_1405 : (Jvm.Cond.instanceMethod ({ cls := "BeanLoomModel", name := "map", desc := "(II)I" } : Jvm.MethodName)) ∈ zx_G := zx_Gt 1405 (by decide +kernel) rfl
theorem zw_1406 : (Jvm.Cond.selects "BeanLoomModel" ({ cls := "BeanLoomModel", name := "map", desc := "(II)I" } : Jvm.MethodName) ({ cls := "BeanLoomModel", name := "map", desc := "(II)I" } : Jvm.MethodName)) ∈ zx_G := zx_Gt 1406 (by decide +kernel) rfl
theorem zw_1067 : (Jvm.Cond.methodLink "BeanLoomLaw" (120 : Nat) ({ cls := "BeanLoomLaw", name := "get", desc := "(LBeanLoom;II[J)I" } : Jvm.MethodName)) ∈ zx_G := zx_Gt 1067 (by decide +kernel) rfl
theorem zw_1069 : (Jvm.Cond.codeWith ({ cls := "BeanLoomLaw", name := "get", desc := "(LBeanLoom;II[J)I" } : Jvm.MethodName) method_13_code (5 : Nat) (Option.some Jvm.ClassFile.FieldType.int) [((0 : Nat), (9 : Nat), (12 : Nat), (57 : Nat))]) ∈ zx_G := zx_Gt 1069 (by decide +kernel) rfl
theorem zw_1068 : (Jvm.Cond.static ({ cls := "BeanLoomLaw", name := "get", desc := "(LBeanLoom;II[J)I" } : Jvm.MethodName)) ∈ zx_G := zx_Gt 1068 (by decide +kernel) rfl
theorem zw_1512 : (Jvm.Cond.methodLink "BeanLoomLaw" (122 : Nat) ({ cls := "BeanLoomModel", name := "get", desc := "(II)J" } : Jvm.MethodName)) ∈ zx_G := zx_Gt 1512 (by decide +kernel) rfl
theorem zw_1515 : (Jvm.Cond.code ({ cls := "BeanLoomModel", name := "get", desc := "(II)J" } : Jvm.MethodName) prog_14_method_71_code (3 : Nat) (Option.some Jvm.ClassFile.FieldType.long)) ∈ zx_G := zx_Gt 1515 (by decide +kernel) rfl
theorem zw_1513 : (Jvm.Cond.instanceMethod ({ cls := "BeanLoomModel", name := "get", desc := "(II)J" } : Jvm.MethodName)) ∈ zx_G := zx_Gt 1513 (by decide +kernel) rfl
theorem zw_1514 : (Jvm.Cond.selects "BeanLoomModel" ({ cls := "BeanLoomModel", name := "get", desc := "(II)J" } : Jvm.MethodName) ({ cls := "BeanLoomModel", name := "get", desc := "(II)J" } : Jvm.MethodName)) ∈ zx_G := zx_Gt 1514 (by decide +kernel) rfl
theorem zw_1092 : (Jvm.Cond.methodLink "BeanLoomLaw" (123 : Nat) ({ cls := "BeanLoomLaw", name := "about", desc := "(LBeanLoom;II[J)I" } : Jvm.MethodName)) ∈ zx_G := zx_Gt 1092 (by decide +kernel) rfl
theorem zw_1094 : (Jvm.Cond.codeWith ({ cls := "BeanLoomLaw", name := "about", desc := "(LBeanLoom;II[J)I" } : Jvm.MethodName) method_14_code (5 : Nat) (Option.some Jvm.ClassFile.FieldType.int) [((0 : Nat), (10 : Nat), (13 : Nat), (57 : Nat))]) ∈ zx_G := zx_Gt 1094 (by decide +kernel) rfl
theorem zw_1093 : (Jvm.Cond.static ({ cls := "BeanLoomLaw", name := "about", desc := "(LBeanLoom;II[J)I" } : Jvm.MethodName)) ∈ zx_G := zx_Gt 1093 (by decide +kernel) rfl
theorem zw_1516 : (Jvm.Cond.methodLink "BeanLoomLaw" (125 : Nat) ({ cls := "BeanLoomModel", name := "about", desc := "(II)I" } : Jvm.MethodName)) ∈ zx_G := zx_Gt 1516 (by decide +kernel) rfl
theorem zw_1519 : (Jvm.Cond.code ({ cls := "BeanLoomModel", name := "about", desc := "(II)I" } : Jvm.MethodName) prog_14_method_72_code (3 : Nat) (Option.some Jvm.ClassFile.FieldType.int)) ∈ zx_G := zx_Gt 1519 (by decide +kernel) rfl
theorem zw_1517 : (Jvm.Cond.instanceMethod ({ cls := "BeanLoomModel", name := "about", desc := "(II)I" } : Jvm.MethodName)) ∈ zx_G := zx_Gt 1517 (by decide +kernel) rfl
theorem zw_1518 : (Jvm.Cond.selects "BeanLoomModel" ({ cls := "BeanLoomModel", name := "about", desc := "(II)I" } : Jvm.MethodName) ({ cls := "BeanLoomModel", name := "about", desc := "(II)I" } : Jvm.MethodName)) ∈ zx_G := zx_Gt 1518 (by decide +kernel) rfl
theorem zw_447 : (Jvm.Cond.methodLink "BeanLoomLaw" (126 : Nat) ({ cls := "BeanLoom", name := "count", desc := "(I)I" } : Jvm.MethodName)) ∈ zx_G := zx_Gt 447 (by decide +kernel) rfl
theorem zw_450 : (Jvm.Cond.code ({ cls := "BeanLoom", name := "count", desc := "(I)I" } : Jvm.MethodName) prog_1_method_16_code (2 : Nat) (Option.some Jvm.ClassFile.FieldType.int)) ∈ zx_G := zx_Gt 450 (by decide +kernel) rfl
theorem zw_448 : (Jvm.Cond.instanceMethod ({ cls := "BeanLoom", name := "count", desc := "(I)I" } : Jvm.MethodName)) ∈ zx_G := zx_Gt 448 (by decide +kernel) rfl
theorem zw_449 : (Jvm.Cond.selects "BeanLoom" ({ cls := "BeanLoom", name := "count", desc := "(I)I" } : Jvm.MethodName) ({ cls := "BeanLoom", name := "count", desc := "(I)I" } : Jvm.MethodName)) ∈ zx_G := zx_Gt 449 (by decide +kernel) rfl
theorem zw_1520 : (Jvm.Cond.methodLink "BeanLoomLaw" (129 : Nat) ({ cls := "BeanLoomModel", name := "count", desc := "(I)I" } : Jvm.MethodName)) ∈ zx_G := zx_Gt 1520 (by decide +kernel) rfl
theorem zw_1523 : (Jvm.Cond.code ({ cls := "BeanLoomModel", name := "count", desc := "(I)I" } : Jvm.MethodName) prog_14_method_73_code (2 : Nat) (Option.some Jvm.ClassFile.FieldType.int)) ∈ zx_G := zx_Gt 1523 (by decide +kernel) rfl
theorem zw_1521 : (Jvm.Cond.instanceMethod ({ cls := "BeanLoomModel", name := "count", desc := "(I)I" } : Jvm.MethodName)) ∈ zx_G := zx_Gt 1521 (by decide +kernel) rfl
theorem zw_1522 : (Jvm.Cond.selects "BeanLoomModel" ({ cls := "BeanLoomModel", name := "count", desc := "(I)I" } : Jvm.MethodName) ({ cls := "BeanLoomModel", name := "count", desc := "(I)I" } : Jvm.MethodName)) ∈ zx_G := zx_Gt 1522 (by decide +kernel) rfl
theorem zw_16 : (Jvm.Cond.initialized "java/lang/IllegalArgumentException") ∈ zx_G := zx_Gt 16 (by decide +kernel) rfl
theorem zw_17 : (Jvm.Cond.initialized "java/lang/IllegalStateException") ∈ zx_G := zx_Gt 17 (by decide +kernel) rfl
theorem zw_25 : (Jvm.Cond.initialized "java/lang/UnsupportedOperationException") ∈ zx_G := zx_Gt 25 (by decide +kernel) rfl
theorem zw_26 : (Jvm.Cond.initialized "java/lang/IndexOutOfBoundsException") ∈ zx_G := zx_Gt 26 (by decide +kernel) rfl
theorem zw_462 : (Jvm.Cond.classLink "BeanLoomLaw" (13 : Nat) "java/lang/IllegalArgumentException") ∈ zx_G := zx_Gt 462 (by decide +kernel) rfl
theorem zw_463 : (Jvm.Cond.classLink "BeanLoomLaw" (15 : Nat) "java/lang/IllegalStateException") ∈ zx_G := zx_Gt 463 (by decide +kernel) rfl
theorem zw_828 : (Jvm.Cond.classLink "BeanLoomLaw" (51 : Nat) "java/lang/UnsupportedOperationException") ∈ zx_G := zx_Gt 828 (by decide +kernel) rfl
theorem zw_1070 : (Jvm.Cond.classLink "BeanLoomLaw" (57 : Nat) "java/lang/IndexOutOfBoundsException") ∈ zx_G := zx_Gt 1070 (by decide +kernel) rfl
theorem zd_Loom_planner : zx_fd 0 3 "BeanLoom" "planner" "LBeanLoom$Planner;" 2 := ⟨zx_TLoom, 6, rfl, by decide, rfl, rfl, rfl, rfl, zx_inLoom, fun F n9 h => zx_kdn 0 6 (by decide +kernel) F n9 h⟩
theorem zd_Planner_fault : zx_fd 5 4 "BeanLoom$Planner" "fault" "I" 0 := ⟨zx_TPlanner, 7, rfl, by decide, rfl, rfl, rfl, rfl, zx_inPlanner, fun F n9 h => zx_kdn 5 7 (by decide +kernel) F n9 h⟩
theorem zd_Planner_faultMethod : zx_fd 5 5 "BeanLoom$Planner" "faultMethod" "I" 0 := ⟨zx_TPlanner, 7, rfl, by decide, rfl, rfl, rfl, rfl, zx_inPlanner, fun F n9 h => zx_kdn 5 7 (by decide +kernel) F n9 h⟩
theorem zd_Planner_faultPlace : zx_fd 5 6 "BeanLoom$Planner" "faultPlace" "I" 0 := ⟨zx_TPlanner, 7, rfl, by decide, rfl, rfl, rfl, rfl, zx_inPlanner, fun F n9 h => zx_kdn 5 7 (by decide +kernel) F n9 h⟩
theorem zd_Store_size : zx_fd 2 4 "BeanLoom$Store" "size" "I" 0 := ⟨zx_TStore, 5, rfl, by decide, rfl, rfl, rfl, rfl, zx_inStore, fun F n9 h => zx_kdn 2 5 (by decide +kernel) F n9 h⟩
theorem zd_Store_objectTypes : zx_fd 2 1 "BeanLoom$Store" "objectTypes" "[I" 2 := ⟨zx_TStore, 5, rfl, by decide, rfl, rfl, rfl, rfl, zx_inStore, fun F n9 h => zx_kdn 2 5 (by decide +kernel) F n9 h⟩
theorem zd_Types_size : zx_fd 1 5 "BeanLoom$Types" "size" "I" 0 := ⟨zx_TTypes, 6, rfl, by decide, rfl, rfl, rfl, rfl, zx_inTypes, fun F n9 h => zx_kdn 1 6 (by decide +kernel) F n9 h⟩
theorem zd_Types_forms : zx_fd 1 0 "BeanLoom$Types" "forms" "[I" 2 := ⟨zx_TTypes, 6, rfl, by decide, rfl, rfl, rfl, rfl, zx_inTypes, fun F n9 h => zx_kdn 1 6 (by decide +kernel) F n9 h⟩
theorem zd_Store_lengths : zx_fd 2 2 "BeanLoom$Store" "lengths" "[I" 2 := ⟨zx_TStore, 5, rfl, by decide, rfl, rfl, rfl, rfl, zx_inStore, fun F n9 h => zx_kdn 2 5 (by decide +kernel) F n9 h⟩
theorem zd_Types_memberCounts : zx_fd 1 2 "BeanLoom$Types" "memberCounts" "[I" 2 := ⟨zx_TTypes, 6, rfl, by decide, rfl, rfl, rfl, rfl, zx_inTypes, fun F n9 h => zx_kdn 1 6 (by decide +kernel) F n9 h⟩
theorem zd_Types_memberTypes : zx_fd 1 4 "BeanLoom$Types" "memberTypes" "[I" 2 := ⟨zx_TTypes, 6, rfl, by decide, rfl, rfl, rfl, rfl, zx_inTypes, fun F n9 h => zx_kdn 1 6 (by decide +kernel) F n9 h⟩
theorem zd_Store_types : zx_fd 2 0 "BeanLoom$Store" "types" "LBeanLoom$Types;" 2 := ⟨zx_TStore, 5, rfl, by decide, rfl, rfl, rfl, rfl, zx_inStore, fun F n9 h => zx_kdn 2 5 (by decide +kernel) F n9 h⟩
theorem zd_Store_cells : zx_fd 2 3 "BeanLoom$Store" "cells" "[J" 2 := ⟨zx_TStore, 5, rfl, by decide, rfl, rfl, rfl, rfl, zx_inStore, fun F n9 h => zx_kdn 2 5 (by decide +kernel) F n9 h⟩
theorem zd_Types_elements : zx_fd 1 1 "BeanLoom$Types" "elements" "[I" 2 := ⟨zx_TTypes, 6, rfl, by decide, rfl, rfl, rfl, rfl, zx_inTypes, fun F n9 h => zx_kdn 1 6 (by decide +kernel) F n9 h⟩
theorem zd_Loom_store : zx_fd 0 2 "BeanLoom" "store" "LBeanLoom$Store;" 2 := ⟨zx_TLoom, 6, rfl, by decide, rfl, rfl, rfl, rfl, zx_inLoom, fun F n9 h => zx_kdn 0 6 (by decide +kernel) F n9 h⟩
theorem zd_Loom_types : zx_fd 0 0 "BeanLoom" "types" "LBeanLoom$Types;" 2 := ⟨zx_TLoom, 6, rfl, by decide, rfl, rfl, rfl, rfl, zx_inLoom, fun F n9 h => zx_kdn 0 6 (by decide +kernel) F n9 h⟩
theorem zd_Loom_model : zx_fd 0 1 "BeanLoom" "model" "LBeanLoom$Model;" 2 := ⟨zx_TLoom, 6, rfl, by decide, rfl, rfl, rfl, rfl, zx_inLoom, fun F n9 h => zx_kdn 0 6 (by decide +kernel) F n9 h⟩
theorem zd_Model_methodCount : zx_fd 3 3 "BeanLoom$Model" "methodCount" "I" 0 := ⟨zx_TModel, 4, rfl, by decide, rfl, rfl, rfl, rfl, zx_inModel, fun F n9 h => zx_kdn 3 4 (by decide +kernel) F n9 h⟩
theorem zd_Model_functionCount : zx_fd 3 2 "BeanLoom$Model" "functionCount" "I" 0 := ⟨zx_TModel, 4, rfl, by decide, rfl, rfl, rfl, rfl, zx_inModel, fun F n9 h => zx_kdn 3 4 (by decide +kernel) F n9 h⟩
theorem zd_Loom_built : zx_fd 0 5 "BeanLoom" "built" "Z" 0 := ⟨zx_TLoom, 6, rfl, by decide, rfl, rfl, rfl, rfl, zx_inLoom, fun F n9 h => zx_kdn 0 6 (by decide +kernel) F n9 h⟩
theorem zd_Ref_thrown : zx_fd 11 0 "BeanLoomModel" "thrown" "I" 0 := ⟨zx_TRef, 40, rfl, by decide, rfl, rfl, rfl, rfl, zx_inRef, fun F n9 h => zx_kdn 11 40 (by decide +kernel) F n9 h⟩
theorem zd_Ref_types : zx_fd 11 2 "BeanLoomModel" "types" "I" 0 := ⟨zx_TRef, 40, rfl, by decide, rfl, rfl, rfl, rfl, zx_inRef, fun F n9 h => zx_kdn 11 40 (by decide +kernel) F n9 h⟩
theorem zd_Ref_sort : zx_fd 11 3 "BeanLoomModel" "sort" "[I" 2 := ⟨zx_TRef, 40, rfl, by decide, rfl, rfl, rfl, rfl, zx_inRef, fun F n9 h => zx_kdn 11 40 (by decide +kernel) F n9 h⟩
theorem zd_Ref_size : zx_fd 11 4 "BeanLoomModel" "size" "[I" 2 := ⟨zx_TRef, 40, rfl, by decide, rfl, rfl, rfl, rfl, zx_inRef, fun F n9 h => zx_kdn 11 40 (by decide +kernel) F n9 h⟩
theorem zd_Ref_built : zx_fd 11 1 "BeanLoomModel" "built" "Z" 0 := ⟨zx_TRef, 40, rfl, by decide, rfl, rfl, rfl, rfl, zx_inRef, fun F n9 h => zx_kdn 11 40 (by decide +kernel) F n9 h⟩
theorem zd_Ref_names : zx_fd 11 5 "BeanLoomModel" "names" "[I" 2 := ⟨zx_TRef, 40, rfl, by decide, rfl, rfl, rfl, rfl, zx_inRef, fun F n9 h => zx_kdn 11 40 (by decide +kernel) F n9 h⟩
theorem zd_Ref_objects : zx_fd 11 23 "BeanLoomModel" "objects" "I" 0 := ⟨zx_TRef, 40, rfl, by decide, rfl, rfl, rfl, rfl, zx_inRef, fun F n9 h => zx_kdn 11 40 (by decide +kernel) F n9 h⟩
theorem zd_Ref_propertyTypes : zx_fd 11 6 "BeanLoomModel" "propertyTypes" "[I" 2 := ⟨zx_TRef, 40, rfl, by decide, rfl, rfl, rfl, rfl, zx_inRef, fun F n9 h => zx_kdn 11 40 (by decide +kernel) F n9 h⟩
theorem zd_Ref_of : zx_fd 11 7 "BeanLoomModel" "of" "[I" 2 := ⟨zx_TRef, 40, rfl, by decide, rfl, rfl, rfl, rfl, zx_inRef, fun F n9 h => zx_kdn 11 40 (by decide +kernel) F n9 h⟩
theorem zd_Ref_methods : zx_fd 11 8 "BeanLoomModel" "methods" "I" 0 := ⟨zx_TRef, 40, rfl, by decide, rfl, rfl, rfl, rfl, zx_inRef, fun F n9 h => zx_kdn 11 40 (by decide +kernel) F n9 h⟩
theorem zd_Ref_methodFrom : zx_fd 11 9 "BeanLoomModel" "methodFrom" "[I" 2 := ⟨zx_TRef, 40, rfl, by decide, rfl, rfl, rfl, rfl, zx_inRef, fun F n9 h => zx_kdn 11 40 (by decide +kernel) F n9 h⟩
theorem zd_Ref_methodTo : zx_fd 11 10 "BeanLoomModel" "methodTo" "[I" 2 := ⟨zx_TRef, 40, rfl, by decide, rfl, rfl, rfl, rfl, zx_inRef, fun F n9 h => zx_kdn 11 40 (by decide +kernel) F n9 h⟩
theorem zd_Ref_functions : zx_fd 11 15 "BeanLoomModel" "functions" "I" 0 := ⟨zx_TRef, 40, rfl, by decide, rfl, rfl, rfl, rfl, zx_inRef, fun F n9 h => zx_kdn 11 40 (by decide +kernel) F n9 h⟩
theorem zd_Ref_functionFrom : zx_fd 11 16 "BeanLoomModel" "functionFrom" "[I" 2 := ⟨zx_TRef, 40, rfl, by decide, rfl, rfl, rfl, rfl, zx_inRef, fun F n9 h => zx_kdn 11 40 (by decide +kernel) F n9 h⟩
theorem zd_Ref_functionTo : zx_fd 11 17 "BeanLoomModel" "functionTo" "[I" 2 := ⟨zx_TRef, 40, rfl, by decide, rfl, rfl, rfl, rfl, zx_inRef, fun F n9 h => zx_kdn 11 40 (by decide +kernel) F n9 h⟩
theorem zd_Ref_factor : zx_fd 11 18 "BeanLoomModel" "factor" "[I" 2 := ⟨zx_TRef, 40, rfl, by decide, rfl, rfl, rfl, rfl, zx_inRef, fun F n9 h => zx_kdn 11 40 (by decide +kernel) F n9 h⟩
theorem zd_Ref_addend : zx_fd 11 19 "BeanLoomModel" "addend" "[I" 2 := ⟨zx_TRef, 40, rfl, by decide, rfl, rfl, rfl, rfl, zx_inRef, fun F n9 h => zx_kdn 11 40 (by decide +kernel) F n9 h⟩
theorem zd_Ref_ruleCount : zx_fd 11 11 "BeanLoomModel" "ruleCount" "[I" 2 := ⟨zx_TRef, 40, rfl, by decide, rfl, rfl, rfl, rfl, zx_inRef, fun F n9 h => zx_kdn 11 40 (by decide +kernel) F n9 h⟩
theorem zd_Ref_kinds : zx_fd 11 12 "BeanLoomModel" "kinds" "[I" 2 := ⟨zx_TRef, 40, rfl, by decide, rfl, rfl, rfl, rfl, zx_inRef, fun F n9 h => zx_kdn 11 40 (by decide +kernel) F n9 h⟩
theorem zd_Ref_targets : zx_fd 11 13 "BeanLoomModel" "targets" "[I" 2 := ⟨zx_TRef, 40, rfl, by decide, rfl, rfl, rfl, rfl, zx_inRef, fun F n9 h => zx_kdn 11 40 (by decide +kernel) F n9 h⟩
theorem zd_Ref_whats : zx_fd 11 14 "BeanLoomModel" "whats" "[J" 2 := ⟨zx_TRef, 40, rfl, by decide, rfl, rfl, rfl, rfl, zx_inRef, fun F n9 h => zx_kdn 11 40 (by decide +kernel) F n9 h⟩
theorem zd_Ref_diagnosis : zx_fd 11 20 "BeanLoomModel" "diagnosis" "I" 0 := ⟨zx_TRef, 40, rfl, by decide, rfl, rfl, rfl, rfl, zx_inRef, fun F n9 h => zx_kdn 11 40 (by decide +kernel) F n9 h⟩
theorem zd_Ref_faultyMethod : zx_fd 11 21 "BeanLoomModel" "faultyMethod" "I" 0 := ⟨zx_TRef, 40, rfl, by decide, rfl, rfl, rfl, rfl, zx_inRef, fun F n9 h => zx_kdn 11 40 (by decide +kernel) F n9 h⟩
theorem zd_Ref_faultyPlace : zx_fd 11 22 "BeanLoomModel" "faultyPlace" "I" 0 := ⟨zx_TRef, 40, rfl, by decide, rfl, rfl, rfl, rfl, zx_inRef, fun F n9 h => zx_kdn 11 40 (by decide +kernel) F n9 h⟩
theorem zd_Ref_type : zx_fd 11 24 "BeanLoomModel" "type" "[I" 2 := ⟨zx_TRef, 40, rfl, by decide, rfl, rfl, rfl, rfl, zx_inRef, fun F n9 h => zx_kdn 11 40 (by decide +kernel) F n9 h⟩
theorem zd_Ref_failed : zx_fd 11 37 "BeanLoomModel" "failed" "Z" 0 := ⟨zx_TRef, 40, rfl, by decide, rfl, rfl, rfl, rfl, zx_inRef, fun F n9 h => zx_kdn 11 40 (by decide +kernel) F n9 h⟩
theorem zd_Ref_count : zx_fd 11 25 "BeanLoomModel" "count" "[I" 2 := ⟨zx_TRef, 40, rfl, by decide, rfl, rfl, rfl, rfl, zx_inRef, fun F n9 h => zx_kdn 11 40 (by decide +kernel) F n9 h⟩
theorem zd_Ref_values : zx_fd 11 26 "BeanLoomModel" "values" "[J" 2 := ⟨zx_TRef, 40, rfl, by decide, rfl, rfl, rfl, rfl, zx_inRef, fun F n9 h => zx_kdn 11 40 (by decide +kernel) F n9 h⟩
theorem zd_Ref_characters : zx_fd 11 27 "BeanLoomModel" "characters" "[I" 2 := ⟨zx_TRef, 40, rfl, by decide, rfl, rfl, rfl, rfl, zx_inRef, fun F n9 h => zx_kdn 11 40 (by decide +kernel) F n9 h⟩
theorem zd_Ref_text : zx_fd 11 39 "BeanLoomModel" "text" "[I" 2 := ⟨zx_TRef, 40, rfl, by decide, rfl, rfl, rfl, rfl, zx_inRef, fun F n9 h => zx_kdn 11 40 (by decide +kernel) F n9 h⟩
theorem zd_Ref_length : zx_fd 11 38 "BeanLoomModel" "length" "I" 0 := ⟨zx_TRef, 40, rfl, by decide, rfl, rfl, rfl, rfl, zx_inRef, fun F n9 h => zx_kdn 11 40 (by decide +kernel) F n9 h⟩
theorem zd_Ref_by : zx_fd 11 33 "BeanLoomModel" "by" "[I" 2 := ⟨zx_TRef, 40, rfl, by decide, rfl, rfl, rfl, rfl, zx_inRef, fun F n9 h => zx_kdn 11 40 (by decide +kernel) F n9 h⟩
theorem zd_Ref_deep : zx_fd 11 32 "BeanLoomModel" "deep" "I" 0 := ⟨zx_TRef, 40, rfl, by decide, rfl, rfl, rfl, rfl, zx_inRef, fun F n9 h => zx_kdn 11 40 (by decide +kernel) F n9 h⟩
theorem zd_Ref_source : zx_fd 11 34 "BeanLoomModel" "source" "[I" 2 := ⟨zx_TRef, 40, rfl, by decide, rfl, rfl, rfl, rfl, zx_inRef, fun F n9 h => zx_kdn 11 40 (by decide +kernel) F n9 h⟩
theorem zd_Ref_target : zx_fd 11 35 "BeanLoomModel" "target" "[I" 2 := ⟨zx_TRef, 40, rfl, by decide, rfl, rfl, rfl, rfl, zx_inRef, fun F n9 h => zx_kdn 11 40 (by decide +kernel) F n9 h⟩
theorem zd_Ref_place : zx_fd 11 36 "BeanLoomModel" "place" "[I" 2 := ⟨zx_TRef, 40, rfl, by decide, rfl, rfl, rfl, rfl, zx_inRef, fun F n9 h => zx_kdn 11 40 (by decide +kernel) F n9 h⟩
theorem zd_Ref_known : zx_fd 11 28 "BeanLoomModel" "known" "I" 0 := ⟨zx_TRef, 40, rfl, by decide, rfl, rfl, rfl, rfl, zx_inRef, fun F n9 h => zx_kdn 11 40 (by decide +kernel) F n9 h⟩
theorem zd_Ref_knownMethod : zx_fd 11 29 "BeanLoomModel" "knownMethod" "[I" 2 := ⟨zx_TRef, 40, rfl, by decide, rfl, rfl, rfl, rfl, zx_inRef, fun F n9 h => zx_kdn 11 40 (by decide +kernel) F n9 h⟩
theorem zd_Ref_knownSource : zx_fd 11 30 "BeanLoomModel" "knownSource" "[I" 2 := ⟨zx_TRef, 40, rfl, by decide, rfl, rfl, rfl, rfl, zx_inRef, fun F n9 h => zx_kdn 11 40 (by decide +kernel) F n9 h⟩
theorem zd_Ref_knownTarget : zx_fd 11 31 "BeanLoomModel" "knownTarget" "[I" 2 := ⟨zx_TRef, 40, rfl, by decide, rfl, rfl, rfl, rfl, zx_inRef, fun F n9 h => zx_kdn 11 40 (by decide +kernel) F n9 h⟩
theorem zd_Converter_store : zx_fd 7 1 "BeanLoom$Converter" "store" "LBeanLoom$Store;" 2 := ⟨zx_TConverter, 3, rfl, by decide, rfl, rfl, rfl, rfl, zx_inConverter, fun F n9 h => zx_kdn 7 3 (by decide +kernel) F n9 h⟩
theorem zd_Converter_failed : zx_fd 7 2 "BeanLoom$Converter" "failed" "Z" 0 := ⟨zx_TConverter, 3, rfl, by decide, rfl, rfl, rfl, rfl, zx_inConverter, fun F n9 h => zx_kdn 7 3 (by decide +kernel) F n9 h⟩
theorem zd_Types_names : zx_fd 1 3 "BeanLoom$Types" "names" "[I" 2 := ⟨zx_TTypes, 6, rfl, by decide, rfl, rfl, rfl, rfl, zx_inTypes, fun F n9 h => zx_kdn 1 6 (by decide +kernel) F n9 h⟩
theorem zd_Converter_types : zx_fd 7 0 "BeanLoom$Converter" "types" "LBeanLoom$Types;" 2 := ⟨zx_TConverter, 3, rfl, by decide, rfl, rfl, rfl, rfl, zx_inConverter, fun F n9 h => zx_kdn 7 3 (by decide +kernel) F n9 h⟩
theorem zd_Function_to : zx_fd 8 1 "BeanLoom$Function" "to" "I" 0 := ⟨zx_TFunction, 5, rfl, by decide, rfl, rfl, rfl, rfl, zx_inFunction, fun F n9 h => zx_kdn 8 5 (by decide +kernel) F n9 h⟩
theorem zd_Function_from : zx_fd 8 0 "BeanLoom$Function" "from" "I" 0 := ⟨zx_TFunction, 5, rfl, by decide, rfl, rfl, rfl, rfl, zx_inFunction, fun F n9 h => zx_kdn 8 5 (by decide +kernel) F n9 h⟩
theorem zd_Function_a : zx_fd 8 2 "BeanLoom$Function" "a" "I" 0 := ⟨zx_TFunction, 5, rfl, by decide, rfl, rfl, rfl, rfl, zx_inFunction, fun F n9 h => zx_kdn 8 5 (by decide +kernel) F n9 h⟩
theorem zd_Function_b : zx_fd 8 3 "BeanLoom$Function" "b" "I" 0 := ⟨zx_TFunction, 5, rfl, by decide, rfl, rfl, rfl, rfl, zx_inFunction, fun F n9 h => zx_kdn 8 5 (by decide +kernel) F n9 h⟩
theorem zd_Mapper_converter : zx_fd 6 4 "BeanLoom$Mapper" "converter" "LBeanLoom$Converter;" 2 := ⟨zx_TMapper, 11, rfl, by decide, rfl, rfl, rfl, rfl, zx_inMapper, fun F n9 h => zx_kdn 6 11 (by decide +kernel) F n9 h⟩
theorem zd_Mapper_height : zx_fd 6 10 "BeanLoom$Mapper" "height" "I" 0 := ⟨zx_TMapper, 11, rfl, by decide, rfl, rfl, rfl, rfl, zx_inMapper, fun F n9 h => zx_kdn 6 11 (by decide +kernel) F n9 h⟩
theorem zd_Mapper_methods : zx_fd 6 9 "BeanLoom$Mapper" "methods" "[I" 2 := ⟨zx_TMapper, 11, rfl, by decide, rfl, rfl, rfl, rfl, zx_inMapper, fun F n9 h => zx_kdn 6 11 (by decide +kernel) F n9 h⟩
theorem zd_Mapper_sources : zx_fd 6 6 "BeanLoom$Mapper" "sources" "[I" 2 := ⟨zx_TMapper, 11, rfl, by decide, rfl, rfl, rfl, rfl, zx_inMapper, fun F n9 h => zx_kdn 6 11 (by decide +kernel) F n9 h⟩
theorem zd_Mapper_targets : zx_fd 6 7 "BeanLoom$Mapper" "targets" "[I" 2 := ⟨zx_TMapper, 11, rfl, by decide, rfl, rfl, rfl, rfl, zx_inMapper, fun F n9 h => zx_kdn 6 11 (by decide +kernel) F n9 h⟩
theorem zd_Mapper_nexts : zx_fd 6 8 "BeanLoom$Mapper" "nexts" "[I" 2 := ⟨zx_TMapper, 11, rfl, by decide, rfl, rfl, rfl, rfl, zx_inMapper, fun F n9 h => zx_kdn 6 11 (by decide +kernel) F n9 h⟩
theorem zd_Method_makesOfNull : zx_fd 9 7 "BeanLoom$Method" "makesOfNull" "Z" 0 := ⟨zx_TMethod, 10, rfl, by decide, rfl, rfl, rfl, rfl, zx_inMethod, fun F n9 h => zx_kdn 9 10 (by decide +kernel) F n9 h⟩
theorem zd_Mapper_taken : zx_fd 6 5 "BeanLoom$Mapper" "taken" "[I" 2 := ⟨zx_TMapper, 11, rfl, by decide, rfl, rfl, rfl, rfl, zx_inMapper, fun F n9 h => zx_kdn 6 11 (by decide +kernel) F n9 h⟩
theorem zd_Mapper_store : zx_fd 6 2 "BeanLoom$Mapper" "store" "LBeanLoom$Store;" 2 := ⟨zx_TMapper, 11, rfl, by decide, rfl, rfl, rfl, rfl, zx_inMapper, fun F n9 h => zx_kdn 6 11 (by decide +kernel) F n9 h⟩
theorem zd_Method_to : zx_fd 9 1 "BeanLoom$Method" "to" "I" 0 := ⟨zx_TMethod, 10, rfl, by decide, rfl, rfl, rfl, rfl, zx_inMethod, fun F n9 h => zx_kdn 9 10 (by decide +kernel) F n9 h⟩
theorem zd_Method_becomes : zx_fd 9 9 "BeanLoom$Method" "becomes" "[I" 2 := ⟨zx_TMethod, 10, rfl, by decide, rfl, rfl, rfl, rfl, zx_inMethod, fun F n9 h => zx_kdn 9 10 (by decide +kernel) F n9 h⟩
theorem zd_Mapper_model : zx_fd 6 1 "BeanLoom$Mapper" "model" "LBeanLoom$Model;" 2 := ⟨zx_TMapper, 11, rfl, by decide, rfl, rfl, rfl, rfl, zx_inMapper, fun F n9 h => zx_kdn 6 11 (by decide +kernel) F n9 h⟩
theorem zd_Model_methods : zx_fd 3 1 "BeanLoom$Model" "methods" "[LBeanLoom$Method;" 2 := ⟨zx_TModel, 4, rfl, by decide, rfl, rfl, rfl, rfl, zx_inModel, fun F n9 h => zx_kdn 3 4 (by decide +kernel) F n9 h⟩
theorem zd_Mapper_types : zx_fd 6 0 "BeanLoom$Mapper" "types" "LBeanLoom$Types;" 2 := ⟨zx_TMapper, 11, rfl, by decide, rfl, rfl, rfl, rfl, zx_inMapper, fun F n9 h => zx_kdn 6 11 (by decide +kernel) F n9 h⟩
theorem zd_Ways_types : zx_fd 4 0 "BeanLoom$Ways" "types" "LBeanLoom$Types;" 2 := ⟨zx_TWays, 3, rfl, by decide, rfl, rfl, rfl, rfl, zx_inWays, fun F n9 h => zx_kdn 4 3 (by decide +kernel) F n9 h⟩
theorem zd_Ways_found : zx_fd 4 2 "BeanLoom$Ways" "found" "[I" 2 := ⟨zx_TWays, 3, rfl, by decide, rfl, rfl, rfl, rfl, zx_inWays, fun F n9 h => zx_kdn 4 3 (by decide +kernel) F n9 h⟩
theorem zd_Model_functions : zx_fd 3 0 "BeanLoom$Model" "functions" "[LBeanLoom$Function;" 2 := ⟨zx_TModel, 4, rfl, by decide, rfl, rfl, rfl, rfl, zx_inModel, fun F n9 h => zx_kdn 3 4 (by decide +kernel) F n9 h⟩
theorem zd_Mapper_ways : zx_fd 6 3 "BeanLoom$Mapper" "ways" "LBeanLoom$Ways;" 2 := ⟨zx_TMapper, 11, rfl, by decide, rfl, rfl, rfl, rfl, zx_inMapper, fun F n9 h => zx_kdn 6 11 (by decide +kernel) F n9 h⟩
theorem zd_Method_plans : zx_fd 9 8 "BeanLoom$Method" "plans" "[LBeanLoom$Plan;" 2 := ⟨zx_TMethod, 10, rfl, by decide, rfl, rfl, rfl, rfl, zx_inMethod, fun F n9 h => zx_kdn 9 10 (by decide +kernel) F n9 h⟩
theorem zd_Plan_origin : zx_fd 10 0 "BeanLoom$Plan" "origin" "I" 0 := ⟨zx_TPlan, 9, rfl, by decide, rfl, rfl, rfl, rfl, zx_inPlan, fun F n9 h => zx_kdn 10 9 (by decide +kernel) F n9 h⟩
theorem zd_Plan_way : zx_fd 10 5 "BeanLoom$Plan" "way" "I" 0 := ⟨zx_TPlan, 9, rfl, by decide, rfl, rfl, rfl, rfl, zx_inPlan, fun F n9 h => zx_kdn 10 9 (by decide +kernel) F n9 h⟩
theorem zd_Plan_constant : zx_fd 10 1 "BeanLoom$Plan" "constant" "J" 1 := ⟨zx_TPlan, 9, rfl, by decide, rfl, rfl, rfl, rfl, zx_inPlan, fun F n9 h => zx_kdn 10 9 (by decide +kernel) F n9 h⟩
theorem zd_Plan_steps : zx_fd 10 2 "BeanLoom$Plan" "steps" "I" 0 := ⟨zx_TPlan, 9, rfl, by decide, rfl, rfl, rfl, rfl, zx_inPlan, fun F n9 h => zx_kdn 10 9 (by decide +kernel) F n9 h⟩
theorem zd_Plan_places : zx_fd 10 3 "BeanLoom$Plan" "places" "[I" 2 := ⟨zx_TPlan, 9, rfl, by decide, rfl, rfl, rfl, rfl, zx_inPlan, fun F n9 h => zx_kdn 10 9 (by decide +kernel) F n9 h⟩
theorem zd_Plan_hasDefault : zx_fd 10 6 "BeanLoom$Plan" "hasDefault" "Z" 0 := ⟨zx_TPlan, 9, rfl, by decide, rfl, rfl, rfl, rfl, zx_inPlan, fun F n9 h => zx_kdn 10 9 (by decide +kernel) F n9 h⟩
theorem zd_Plan_sourceType : zx_fd 10 4 "BeanLoom$Plan" "sourceType" "I" 0 := ⟨zx_TPlan, 9, rfl, by decide, rfl, rfl, rfl, rfl, zx_inPlan, fun F n9 h => zx_kdn 10 9 (by decide +kernel) F n9 h⟩
theorem zd_Plan_fallbackWay : zx_fd 10 8 "BeanLoom$Plan" "fallbackWay" "I" 0 := ⟨zx_TPlan, 9, rfl, by decide, rfl, rfl, rfl, rfl, zx_inPlan, fun F n9 h => zx_kdn 10 9 (by decide +kernel) F n9 h⟩
theorem zd_Plan_fallback : zx_fd 10 7 "BeanLoom$Plan" "fallback" "J" 1 := ⟨zx_TPlan, 9, rfl, by decide, rfl, rfl, rfl, rfl, zx_inPlan, fun F n9 h => zx_kdn 10 9 (by decide +kernel) F n9 h⟩
theorem zd_Method_ruleCount : zx_fd 9 2 "BeanLoom$Method" "ruleCount" "I" 0 := ⟨zx_TMethod, 10, rfl, by decide, rfl, rfl, rfl, rfl, zx_inMethod, fun F n9 h => zx_kdn 9 10 (by decide +kernel) F n9 h⟩
theorem zd_Method_kinds : zx_fd 9 3 "BeanLoom$Method" "kinds" "[I" 2 := ⟨zx_TMethod, 10, rfl, by decide, rfl, rfl, rfl, rfl, zx_inMethod, fun F n9 h => zx_kdn 9 10 (by decide +kernel) F n9 h⟩
theorem zd_Method_targets : zx_fd 9 4 "BeanLoom$Method" "targets" "[I" 2 := ⟨zx_TMethod, 10, rfl, by decide, rfl, rfl, rfl, rfl, zx_inMethod, fun F n9 h => zx_kdn 9 10 (by decide +kernel) F n9 h⟩
theorem zd_Method_whats : zx_fd 9 5 "BeanLoom$Method" "whats" "[J" 2 := ⟨zx_TMethod, 10, rfl, by decide, rfl, rfl, rfl, rfl, zx_inMethod, fun F n9 h => zx_kdn 9 10 (by decide +kernel) F n9 h⟩
theorem zd_Method_from : zx_fd 9 0 "BeanLoom$Method" "from" "I" 0 := ⟨zx_TMethod, 10, rfl, by decide, rfl, rfl, rfl, rfl, zx_inMethod, fun F n9 h => zx_kdn 9 10 (by decide +kernel) F n9 h⟩
theorem zd_Function_named : zx_fd 8 4 "BeanLoom$Function" "named" "Z" 0 := ⟨zx_TFunction, 5, rfl, by decide, rfl, rfl, rfl, rfl, zx_inFunction, fun F n9 h => zx_kdn 8 5 (by decide +kernel) F n9 h⟩
theorem zd_Method_inverse : zx_fd 9 6 "BeanLoom$Method" "inverse" "I" 0 := ⟨zx_TMethod, 10, rfl, by decide, rfl, rfl, rfl, rfl, zx_inMethod, fun F n9 h => zx_kdn 9 10 (by decide +kernel) F n9 h⟩
theorem zd_Planner_model : zx_fd 5 1 "BeanLoom$Planner" "model" "LBeanLoom$Model;" 2 := ⟨zx_TPlanner, 7, rfl, by decide, rfl, rfl, rfl, rfl, zx_inPlanner, fun F n9 h => zx_kdn 5 7 (by decide +kernel) F n9 h⟩
theorem zd_Planner_types : zx_fd 5 0 "BeanLoom$Planner" "types" "LBeanLoom$Types;" 2 := ⟨zx_TPlanner, 7, rfl, by decide, rfl, rfl, rfl, rfl, zx_inPlanner, fun F n9 h => zx_kdn 5 7 (by decide +kernel) F n9 h⟩
theorem zd_Planner_trial : zx_fd 5 3 "BeanLoom$Planner" "trial" "LBeanLoom$Plan;" 2 := ⟨zx_TPlanner, 7, rfl, by decide, rfl, rfl, rfl, rfl, zx_inPlanner, fun F n9 h => zx_kdn 5 7 (by decide +kernel) F n9 h⟩
theorem zd_Ways_model : zx_fd 4 1 "BeanLoom$Ways" "model" "LBeanLoom$Model;" 2 := ⟨zx_TWays, 3, rfl, by decide, rfl, rfl, rfl, rfl, zx_inWays, fun F n9 h => zx_kdn 4 3 (by decide +kernel) F n9 h⟩
theorem zd_Planner_ways : zx_fd 5 2 "BeanLoom$Planner" "ways" "LBeanLoom$Ways;" 2 := ⟨zx_TPlanner, 7, rfl, by decide, rfl, rfl, rfl, rfl, zx_inPlanner, fun F n9 h => zx_kdn 5 7 (by decide +kernel) F n9 h⟩
theorem zd_Loom_mapper : zx_fd 0 4 "BeanLoom" "mapper" "LBeanLoom$Mapper;" 2 := ⟨zx_TLoom, 6, rfl, by decide, rfl, rfl, rfl, rfl, zx_inLoom, fun F n9 h => zx_kdn 0 6 (by decide +kernel) F n9 h⟩
theorem zp_Ref_thrown : zx_fp 11 0 .int := ⟨_, zx_TRef, 40, zx_tyRef, rfl, zx_tyokRef, zx_nmRef, rfl, by decide +kernel⟩
theorem zp_Ref_types : zx_fp 11 2 .int := ⟨_, zx_TRef, 40, zx_tyRef, rfl, zx_tyokRef, zx_nmRef, rfl, by decide +kernel⟩
theorem zp_Ref_methods : zx_fp 11 8 .int := ⟨_, zx_TRef, 40, zx_tyRef, rfl, zx_tyokRef, zx_nmRef, rfl, by decide +kernel⟩
theorem zp_Ref_functions : zx_fp 11 15 .int := ⟨_, zx_TRef, 40, zx_tyRef, rfl, zx_tyokRef, zx_nmRef, rfl, by decide +kernel⟩
theorem zp_Ref_diagnosis : zx_fp 11 20 .int := ⟨_, zx_TRef, 40, zx_tyRef, rfl, zx_tyokRef, zx_nmRef, rfl, by decide +kernel⟩
theorem zp_Ref_faultyMethod : zx_fp 11 21 .int := ⟨_, zx_TRef, 40, zx_tyRef, rfl, zx_tyokRef, zx_nmRef, rfl, by decide +kernel⟩
theorem zp_Ref_faultyPlace : zx_fp 11 22 .int := ⟨_, zx_TRef, 40, zx_tyRef, rfl, zx_tyokRef, zx_nmRef, rfl, by decide +kernel⟩
theorem zp_Ref_built : zx_fp 11 1 .boolean := ⟨_, zx_TRef, 40, zx_tyRef, rfl, zx_tyokRef, zx_nmRef, rfl, by decide +kernel⟩
theorem zp_Ref_failed : zx_fp 11 37 .boolean := ⟨_, zx_TRef, 40, zx_tyRef, rfl, zx_tyokRef, zx_nmRef, rfl, by decide +kernel⟩
theorem zp_Ref_objects : zx_fp 11 23 .int := ⟨_, zx_TRef, 40, zx_tyRef, rfl, zx_tyokRef, zx_nmRef, rfl, by decide +kernel⟩
theorem zp_Ref_length : zx_fp 11 38 .int := ⟨_, zx_TRef, 40, zx_tyRef, rfl, zx_tyokRef, zx_nmRef, rfl, by decide +kernel⟩
theorem zp_Ref_deep : zx_fp 11 32 .int := ⟨_, zx_TRef, 40, zx_tyRef, rfl, zx_tyokRef, zx_nmRef, rfl, by decide +kernel⟩
theorem zp_Ref_known : zx_fp 11 28 .int := ⟨_, zx_TRef, 40, zx_tyRef, rfl, zx_tyokRef, zx_nmRef, rfl, by decide +kernel⟩
theorem zp_Store_size : zx_fp 2 4 .int := ⟨_, zx_TStore, 5, zx_tyStore, rfl, zx_tyokStore, zx_nmStore, rfl, by decide +kernel⟩
theorem zp_Converter_failed : zx_fp 7 2 .boolean := ⟨_, zx_TConverter, 3, zx_tyConverter, rfl, zx_tyokConverter, zx_nmConverter, rfl, by decide +kernel⟩
theorem zp_Mapper_height : zx_fp 6 10 .int := ⟨_, zx_TMapper, 11, zx_tyMapper, rfl, zx_tyokMapper, zx_nmMapper, rfl, by decide +kernel⟩
theorem zp_Method_ruleCount : zx_fp 9 2 .int := ⟨_, zx_TMethod, 10, zx_tyMethod, rfl, zx_tyokMethod, zx_nmMethod, rfl, by decide +kernel⟩
theorem zp_Model_methodCount : zx_fp 3 3 .int := ⟨_, zx_TModel, 4, zx_tyModel, rfl, zx_tyokModel, zx_nmModel, rfl, by decide +kernel⟩
theorem zp_Method_from : zx_fp 9 0 .int := ⟨_, zx_TMethod, 10, zx_tyMethod, rfl, zx_tyokMethod, zx_nmMethod, rfl, by decide +kernel⟩
theorem zp_Method_to : zx_fp 9 1 .int := ⟨_, zx_TMethod, 10, zx_tyMethod, rfl, zx_tyokMethod, zx_nmMethod, rfl, by decide +kernel⟩
theorem zp_Model_functionCount : zx_fp 3 2 .int := ⟨_, zx_TModel, 4, zx_tyModel, rfl, zx_tyokModel, zx_nmModel, rfl, by decide +kernel⟩
theorem zp_Function_from : zx_fp 8 0 .int := ⟨_, zx_TFunction, 5, zx_tyFunction, rfl, zx_tyokFunction, zx_nmFunction, rfl, by decide +kernel⟩
theorem zp_Function_to : zx_fp 8 1 .int := ⟨_, zx_TFunction, 5, zx_tyFunction, rfl, zx_tyokFunction, zx_nmFunction, rfl, by decide +kernel⟩
theorem zp_Function_a : zx_fp 8 2 .int := ⟨_, zx_TFunction, 5, zx_tyFunction, rfl, zx_tyokFunction, zx_nmFunction, rfl, by decide +kernel⟩
theorem zp_Function_b : zx_fp 8 3 .int := ⟨_, zx_TFunction, 5, zx_tyFunction, rfl, zx_tyokFunction, zx_nmFunction, rfl, by decide +kernel⟩
theorem zp_Function_named : zx_fp 8 4 .boolean := ⟨_, zx_TFunction, 5, zx_tyFunction, rfl, zx_tyokFunction, zx_nmFunction, rfl, by decide +kernel⟩
theorem zp_Plan_steps : zx_fp 10 2 .int := ⟨_, zx_TPlan, 9, zx_tyPlan, rfl, zx_tyokPlan, zx_nmPlan, rfl, by decide +kernel⟩
theorem zp_Plan_sourceType : zx_fp 10 4 .int := ⟨_, zx_TPlan, 9, zx_tyPlan, rfl, zx_tyokPlan, zx_nmPlan, rfl, by decide +kernel⟩
theorem zp_Method_inverse : zx_fp 9 6 .int := ⟨_, zx_TMethod, 10, zx_tyMethod, rfl, zx_tyokMethod, zx_nmMethod, rfl, by decide +kernel⟩
theorem zp_Planner_fault : zx_fp 5 4 .int := ⟨_, zx_TPlanner, 7, zx_tyPlanner, rfl, zx_tyokPlanner, zx_nmPlanner, rfl, by decide +kernel⟩
theorem zp_Planner_faultPlace : zx_fp 5 6 .int := ⟨_, zx_TPlanner, 7, zx_tyPlanner, rfl, zx_tyokPlanner, zx_nmPlanner, rfl, by decide +kernel⟩
theorem zp_Plan_origin : zx_fp 10 0 .int := ⟨_, zx_TPlan, 9, zx_tyPlan, rfl, zx_tyokPlan, zx_nmPlan, rfl, by decide +kernel⟩
theorem zp_Plan_constant : zx_fp 10 1 .long := ⟨_, zx_TPlan, 9, zx_tyPlan, rfl, zx_tyokPlan, zx_nmPlan, rfl, by decide +kernel⟩
theorem zp_Plan_way : zx_fp 10 5 .int := ⟨_, zx_TPlan, 9, zx_tyPlan, rfl, zx_tyokPlan, zx_nmPlan, rfl, by decide +kernel⟩
theorem zp_Plan_hasDefault : zx_fp 10 6 .boolean := ⟨_, zx_TPlan, 9, zx_tyPlan, rfl, zx_tyokPlan, zx_nmPlan, rfl, by decide +kernel⟩
theorem zp_Plan_fallback : zx_fp 10 7 .long := ⟨_, zx_TPlan, 9, zx_tyPlan, rfl, zx_tyokPlan, zx_nmPlan, rfl, by decide +kernel⟩
theorem zp_Plan_fallbackWay : zx_fp 10 8 .int := ⟨_, zx_TPlan, 9, zx_tyPlan, rfl, zx_tyokPlan, zx_nmPlan, rfl, by decide +kernel⟩
theorem zp_Method_makesOfNull : zx_fp 9 7 .boolean := ⟨_, zx_TMethod, 10, zx_tyMethod, rfl, zx_tyokMethod, zx_nmMethod, rfl, by decide +kernel⟩
theorem zp_Planner_faultMethod : zx_fp 5 5 .int := ⟨_, zx_TPlanner, 7, zx_tyPlanner, rfl, zx_tyokPlanner, zx_nmPlanner, rfl, by decide +kernel⟩
theorem zp_Types_size : zx_fp 1 5 .int := ⟨_, zx_TTypes, 6, zx_tyTypes, rfl, zx_tyokTypes, zx_nmTypes, rfl, by decide +kernel⟩
theorem zp_Loom_built : zx_fp 0 5 .boolean := ⟨_, zx_TLoom, 6, zx_tyLoom, rfl, zx_tyokLoom, zx_nmLoom, rfl, by decide +kernel⟩
theorem zr_Loom_planner (i : Nat) : zx_rf 0 i 3 = (16, 0) := rfl
theorem zr_Store_objectTypes (i : Nat) : zx_rf 7 i 1 = (8, i) := rfl
theorem zr_Types_forms (i : Nat) : zx_rf 1 i 0 = (2, i) := rfl
theorem zr_Store_lengths (i : Nat) : zx_rf 7 i 2 = (9, i) := rfl
theorem zr_Types_memberCounts (i : Nat) : zx_rf 1 i 2 = (4, i) := rfl
theorem zr_Types_memberTypes (i : Nat) : zx_rf 1 i 4 = (6, i) := rfl
theorem zr_Store_types (i : Nat) : zx_rf 7 i 0 = (1, 0) := rfl
theorem zr_Store_cells (i : Nat) : zx_rf 7 i 3 = (10, i) := rfl
theorem zr_Types_elements (i : Nat) : zx_rf 1 i 1 = (3, i) := rfl
theorem zr_Loom_store (i : Nat) : zx_rf 0 i 2 = (7, 0) := rfl
theorem zr_Loom_types (i : Nat) : zx_rf 0 i 0 = (1, 0) := rfl
theorem zr_Loom_model (i : Nat) : zx_rf 0 i 1 = (11, 0) := rfl
theorem zr_Ref_sort (i : Nat) : zx_rf 24 i 3 = (25, i) := rfl
theorem zr_Ref_size (i : Nat) : zx_rf 24 i 4 = (26, i) := rfl
theorem zr_Ref_names (i : Nat) : zx_rf 24 i 5 = (27, i) := rfl
theorem zr_Ref_propertyTypes (i : Nat) : zx_rf 24 i 6 = (28, i) := rfl
theorem zr_Ref_of (i : Nat) : zx_rf 24 i 7 = (29, i) := rfl
theorem zr_Ref_methodFrom (i : Nat) : zx_rf 24 i 9 = (30, i) := rfl
theorem zr_Ref_methodTo (i : Nat) : zx_rf 24 i 10 = (31, i) := rfl
theorem zr_Ref_functionFrom (i : Nat) : zx_rf 24 i 16 = (36, i) := rfl
theorem zr_Ref_functionTo (i : Nat) : zx_rf 24 i 17 = (37, i) := rfl
theorem zr_Ref_factor (i : Nat) : zx_rf 24 i 18 = (38, i) := rfl
theorem zr_Ref_addend (i : Nat) : zx_rf 24 i 19 = (39, i) := rfl
theorem zr_Ref_ruleCount (i : Nat) : zx_rf 24 i 11 = (32, i) := rfl
theorem zr_Ref_kinds (i : Nat) : zx_rf 24 i 12 = (33, i) := rfl
theorem zr_Ref_targets (i : Nat) : zx_rf 24 i 13 = (34, i) := rfl
theorem zr_Ref_whats (i : Nat) : zx_rf 24 i 14 = (35, i) := rfl
theorem zr_Ref_type (i : Nat) : zx_rf 24 i 24 = (40, i) := rfl
theorem zr_Ref_count (i : Nat) : zx_rf 24 i 25 = (41, i) := rfl
theorem zr_Ref_values (i : Nat) : zx_rf 24 i 26 = (42, i) := rfl
theorem zr_Ref_characters (i : Nat) : zx_rf 24 i 27 = (43, i) := rfl
theorem zr_Ref_text (i : Nat) : zx_rf 24 i 39 = (51, i) := rfl
theorem zr_Ref_by (i : Nat) : zx_rf 24 i 33 = (47, i) := rfl
theorem zr_Ref_source (i : Nat) : zx_rf 24 i 34 = (48, i) := rfl
theorem zr_Ref_target (i : Nat) : zx_rf 24 i 35 = (49, i) := rfl
theorem zr_Ref_place (i : Nat) : zx_rf 24 i 36 = (50, i) := rfl
theorem zr_Ref_knownMethod (i : Nat) : zx_rf 24 i 29 = (44, i) := rfl
theorem zr_Ref_knownSource (i : Nat) : zx_rf 24 i 30 = (45, i) := rfl
theorem zr_Ref_knownTarget (i : Nat) : zx_rf 24 i 31 = (46, i) := rfl
theorem zr_Converter_store (i : Nat) : zx_rf 23 i 1 = (7, 0) := rfl
theorem zr_Types_names (i : Nat) : zx_rf 1 i 3 = (5, i) := rfl
theorem zr_Converter_types (i : Nat) : zx_rf 23 i 0 = (1, 0) := rfl
theorem zr_Mapper_converter (i : Nat) : zx_rf 17 i 4 = (23, 0) := rfl
theorem zr_Mapper_methods (i : Nat) : zx_rf 17 i 9 = (22, i) := rfl
theorem zr_Mapper_sources (i : Nat) : zx_rf 17 i 6 = (19, i) := rfl
theorem zr_Mapper_targets (i : Nat) : zx_rf 17 i 7 = (20, i) := rfl
theorem zr_Mapper_nexts (i : Nat) : zx_rf 17 i 8 = (21, i) := rfl
theorem zr_Mapper_taken (i : Nat) : zx_rf 17 i 5 = (18, i) := rfl
theorem zr_Mapper_store (i : Nat) : zx_rf 17 i 2 = (7, 0) := rfl
theorem zr_Method_becomes (i : Nat) : zx_rf 54 i 9 = (59, i) := rfl
theorem zr_Mapper_model (i : Nat) : zx_rf 17 i 1 = (11, 0) := rfl
theorem zr_Model_methods (i : Nat) : zx_rf 11 i 1 = (13, i) := rfl
theorem zr_Mapper_types (i : Nat) : zx_rf 17 i 0 = (1, 0) := rfl
theorem zr_Ways_types (i : Nat) : zx_rf 14 i 0 = (1, 0) := rfl
theorem zr_Ways_found (i : Nat) : zx_rf 14 i 2 = (15, i) := rfl
theorem zr_Model_functions (i : Nat) : zx_rf 11 i 0 = (12, i) := rfl
theorem zr_Mapper_ways (i : Nat) : zx_rf 17 i 3 = (14, 0) := rfl
theorem zr_Method_plans (i : Nat) : zx_rf 54 i 8 = (58, i) := rfl
theorem zr_Plan_places (i : Nat) : zx_rf 60 i 3 = (61, i) := rfl
theorem zr_Method_kinds (i : Nat) : zx_rf 54 i 3 = (55, i) := rfl
theorem zr_Method_targets (i : Nat) : zx_rf 54 i 4 = (56, i) := rfl
theorem zr_Method_whats (i : Nat) : zx_rf 54 i 5 = (57, i) := rfl
theorem zr_Planner_model (i : Nat) : zx_rf 16 i 1 = (11, 0) := rfl
theorem zr_Planner_types (i : Nat) : zx_rf 16 i 0 = (1, 0) := rfl
theorem zr_Planner_trial (i : Nat) : zx_rf 16 i 3 = (60, zx_trial.val) := rfl
theorem zr_Ways_model (i : Nat) : zx_rf 14 i 1 = (11, 0) := rfl
theorem zr_Planner_ways (i : Nat) : zx_rf 16 i 2 = (14, 0) := rfl
theorem zr_Loom_mapper (i : Nat) : zx_rf 0 i 4 = (17, 0) := rfl
abbrev zm_Loom_diagnosis : zx_M := (prog_1_method_10_code, 2, "BeanLoom", some .int, { frames := 0, cells := 0, slots := 0, locals := 0 })
abbrev zy_Loom_diagnosis : MethodName := ⟨"BeanLoom", "diagnosis", "(I)I"⟩
abbrev zm_Store_typeOf : zx_M := (prog_10_method_6_code, 2, "BeanLoom$Store", some .int, { frames := 0, cells := 0, slots := 0, locals := 0 })
abbrev zy_Store_typeOf : MethodName := ⟨"BeanLoom$Store", "typeOf", "(I)I"⟩
abbrev zm_Types_isBean : zx_M := (prog_11_method_8_code, 2, "BeanLoom$Types", some .boolean, { frames := 0, cells := 0, slots := 0, locals := 0 })
abbrev zy_Types_isBean : MethodName := ⟨"BeanLoom$Types", "isBean", "(I)Z"⟩
abbrev zm_Store_hasPlace : zx_M := (prog_10_method_8_code, 3, "BeanLoom$Store", some .boolean, { frames := 0, cells := 0, slots := 0, locals := 0 })
abbrev zy_Store_hasPlace : MethodName := ⟨"BeanLoom$Store", "hasPlace", "(II)Z"⟩
abbrev zm_Types_typeAt : zx_M := (prog_11_method_16_code, 4, "BeanLoom$Types", some .int, { frames := 0, cells := 0, slots := 0, locals := 0 })
abbrev zy_Types_typeAt : MethodName := ⟨"BeanLoom$Types", "typeAt", "(II)I"⟩
abbrev zm_Basics_isPrimitive : zx_M := (prog_2_method_2_code, 1, "BeanLoom$Basics", some .boolean, { frames := 0, cells := 0, slots := 0, locals := 0 })
abbrev zy_Basics_isPrimitive : MethodName := ⟨"BeanLoom$Basics", "isPrimitive", "(I)Z"⟩
abbrev zm_Basics_holds : zx_M := (prog_2_method_9_code, 3, "BeanLoom$Basics", some .boolean, { frames := 0, cells := 0, slots := 0, locals := 0 })
abbrev zy_Basics_holds : MethodName := ⟨"BeanLoom$Basics", "holds", "(IJ)Z"⟩
abbrev zm_Types_isEnum : zx_M := (prog_11_method_7_code, 2, "BeanLoom$Types", some .boolean, { frames := 0, cells := 0, slots := 0, locals := 0 })
abbrev zy_Types_isEnum : MethodName := ⟨"BeanLoom$Types", "isEnum", "(I)Z"⟩
abbrev zm_Types_memberCount : zx_M := (prog_11_method_14_code, 2, "BeanLoom$Types", some .int, { frames := 0, cells := 0, slots := 0, locals := 0 })
abbrev zy_Types_memberCount : MethodName := ⟨"BeanLoom$Types", "memberCount", "(I)I"⟩
abbrev zm_Store_has : zx_M := (prog_10_method_5_code, 3, "BeanLoom$Store", some .boolean, { frames := 0, cells := 0, slots := 0, locals := 0 })
abbrev zy_Store_has : MethodName := ⟨"BeanLoom$Store", "has", "(J)Z"⟩
abbrev zm_Store_isValue : zx_M := (prog_10_method_15_code, 4, "BeanLoom$Store", some .boolean, { frames := 1, cells := 0, slots := 0, locals := 22 })
abbrev zy_Store_isValue : MethodName := ⟨"BeanLoom$Store", "isValue", "(IJ)Z"⟩
abbrev zm_Store_set : zx_M := (prog_10_method_10_code, 6, "BeanLoom$Store", some .boolean, { frames := 0, cells := 0, slots := 0, locals := 0 })
abbrev zy_Store_set : MethodName := ⟨"BeanLoom$Store", "set", "(IIJ)Z"⟩
abbrev zm_Types_isList : zx_M := (prog_11_method_9_code, 2, "BeanLoom$Types", some .boolean, { frames := 0, cells := 0, slots := 0, locals := 0 })
abbrev zy_Types_isList : MethodName := ⟨"BeanLoom$Types", "isList", "(I)Z"⟩
abbrev zm_Store_length : zx_M := (prog_10_method_7_code, 2, "BeanLoom$Store", some .int, { frames := 0, cells := 0, slots := 0, locals := 0 })
abbrev zy_Store_length : MethodName := ⟨"BeanLoom$Store", "length", "(I)I"⟩
abbrev zm_Types_element : zx_M := (prog_11_method_13_code, 2, "BeanLoom$Types", some .int, { frames := 0, cells := 0, slots := 0, locals := 0 })
abbrev zy_Types_element : MethodName := ⟨"BeanLoom$Types", "element", "(I)I"⟩
abbrev zm_Store_append : zx_M := (prog_10_method_11_code, 4, "BeanLoom$Store", some .boolean, { frames := 0, cells := 0, slots := 0, locals := 0 })
abbrev zy_Store_append : MethodName := ⟨"BeanLoom$Store", "append", "(IJ)Z"⟩
abbrev zm_Loom_put : zx_M := (prog_1_method_12_code, 6, "BeanLoom", some .boolean, { frames := 2, cells := 0, slots := 0, locals := 45 })
abbrev zy_Loom_put : MethodName := ⟨"BeanLoom", "put", "(IIJ)Z"⟩
abbrev zm_Types_size : zx_M := (prog_11_method_4_code, 1, "BeanLoom$Types", some .int, { frames := 0, cells := 0, slots := 0, locals := 0 })
abbrev zy_Types_size : MethodName := ⟨"BeanLoom$Types", "size", "()I"⟩
abbrev zm_Store_size : zx_M := (prog_10_method_2_code, 1, "BeanLoom$Store", some .int, { frames := 0, cells := 0, slots := 0, locals := 0 })
abbrev zy_Store_size : MethodName := ⟨"BeanLoom$Store", "size", "()I"⟩
abbrev zm_Loom_count : zx_M := (prog_1_method_16_code, 2, "BeanLoom", some .int, { frames := 1, cells := 0, slots := 0, locals := 20 })
abbrev zy_Loom_count : MethodName := ⟨"BeanLoom", "count", "(I)I"⟩
abbrev zm_Ref_thrown : zx_M := (prog_14_method_2_code, 1, "BeanLoomModel", some .int, { frames := 0, cells := 0, slots := 0, locals := 0 })
abbrev zy_Ref_thrown : MethodName := ⟨"BeanLoomModel", "thrown", "()I"⟩
abbrev zm_Ref_fails : zx_M := (prog_14_method_3_code, 2, "BeanLoomModel", some .int, { frames := 0, cells := 0, slots := 0, locals := 0 })
abbrev zy_Ref_fails : MethodName := ⟨"BeanLoomModel", "fails", "(I)I"⟩
abbrev zm_Ref_isName : zx_M := (prog_14_method_4_code, 1, "BeanLoomModel", some .boolean, { frames := 0, cells := 0, slots := 0, locals := 0 })
abbrev zy_Ref_isName : MethodName := ⟨"BeanLoomModel", "isName", "(I)Z"⟩
abbrev zm_Ref_isType : zx_M := (prog_14_method_5_code, 2, "BeanLoomModel", some .boolean, { frames := 0, cells := 0, slots := 0, locals := 0 })
abbrev zy_Ref_isType : MethodName := ⟨"BeanLoomModel", "isType", "(I)Z"⟩
abbrev zm_Ref_isSort : zx_M := (prog_14_method_6_code, 3, "BeanLoomModel", some .boolean, { frames := 1, cells := 0, slots := 0, locals := 21 })
abbrev zy_Ref_isSort : MethodName := ⟨"BeanLoomModel", "isSort", "(II)Z"⟩
abbrev zm_Ref_newType : zx_M := (prog_14_method_7_code, 2, "BeanLoomModel", some .int, { frames := 0, cells := 0, slots := 0, locals := 0 })
abbrev zy_Ref_newType : MethodName := ⟨"BeanLoomModel", "newType", "(I)I"⟩
abbrev zm_Ref_enumeration : zx_M := (prog_14_method_8_code, 8, "BeanLoomModel", some .int, { frames := 1, cells := 0, slots := 0, locals := 21 })
abbrev zy_Ref_enumeration : MethodName := ⟨"BeanLoomModel", "enumeration", "(JI)I"⟩
abbrev zm_Ref_bean : zx_M := (prog_14_method_9_code, 1, "BeanLoomModel", some .int, { frames := 1, cells := 0, slots := 0, locals := 21 })
abbrev zy_Ref_bean : MethodName := ⟨"BeanLoomModel", "bean", "()I"⟩
abbrev zm_Ref_placeOf : zx_M := (prog_14_method_10_code, 5, "BeanLoomModel", some .int, { frames := 0, cells := 0, slots := 0, locals := 0 })
abbrev zy_Ref_placeOf : MethodName := ⟨"BeanLoomModel", "placeOf", "(II)I"⟩
abbrev zm_Ref_property : zx_M := (prog_14_method_11_code, 4, "BeanLoomModel", some .int, { frames := 2, cells := 0, slots := 0, locals := 43 })
abbrev zy_Ref_property : MethodName := ⟨"BeanLoomModel", "property", "(III)I"⟩
abbrev zm_Ref_list : zx_M := (prog_14_method_12_code, 3, "BeanLoomModel", some .int, { frames := 1, cells := 0, slots := 0, locals := 21 })
abbrev zy_Ref_list : MethodName := ⟨"BeanLoomModel", "list", "(I)I"⟩
abbrev zm_Ref_method : zx_M := (prog_14_method_13_code, 4, "BeanLoomModel", some .int, { frames := 2, cells := 0, slots := 0, locals := 43 })
abbrev zy_Ref_method : MethodName := ⟨"BeanLoomModel", "method", "(II)I"⟩
abbrev zm_Ref_kindOf : zx_M := (prog_14_method_14_code, 1, "BeanLoomModel", some .int, { frames := 0, cells := 0, slots := 0, locals := 0 })
abbrev zy_Ref_kindOf : MethodName := ⟨"BeanLoomModel", "kindOf", "(I)I"⟩
abbrev zm_Ref_isAmount : zx_M := (prog_14_method_15_code, 1, "BeanLoomModel", some .boolean, { frames := 0, cells := 0, slots := 0, locals := 0 })
abbrev zy_Ref_isAmount : MethodName := ⟨"BeanLoomModel", "isAmount", "(I)Z"⟩
abbrev zm_Ref_function : zx_M := (prog_14_method_16_code, 5, "BeanLoomModel", some .int, { frames := 1, cells := 0, slots := 0, locals := 21 })
abbrev zy_Ref_function : MethodName := ⟨"BeanLoomModel", "function", "(IIII)I"⟩
abbrev zm_Ref_rule : zx_M := (prog_14_method_17_code, 7, "BeanLoomModel", none, { frames := 0, cells := 0, slots := 0, locals := 0 })
abbrev zy_Ref_rule : MethodName := ⟨"BeanLoomModel", "rule", "(IIIJ)V"⟩
abbrev zm_Ref_firstRule : zx_M := (prog_14_method_18_code, 5, "BeanLoomModel", some .int, { frames := 0, cells := 0, slots := 0, locals := 0 })
abbrev zy_Ref_firstRule : MethodName := ⟨"BeanLoomModel", "firstRule", "(III)I"⟩
abbrev zm_Ref_latest : zx_M := (prog_14_method_19_code, 5, "BeanLoomModel", some .int, { frames := 0, cells := 0, slots := 0, locals := 0 })
abbrev zy_Ref_latest : MethodName := ⟨"BeanLoomModel", "latest", "(II)I"⟩
abbrev zm_Ref_isNamed : zx_M := (prog_14_method_20_code, 5, "BeanLoomModel", some .boolean, { frames := 0, cells := 0, slots := 0, locals := 0 })
abbrev zy_Ref_isNamed : MethodName := ⟨"BeanLoomModel", "isNamed", "(I)Z"⟩
abbrev zm_Ref_inverseOf : zx_M := (prog_14_method_21_code, 3, "BeanLoomModel", some .int, { frames := 1, cells := 0, slots := 0, locals := 24 })
abbrev zy_Ref_inverseOf : MethodName := ⟨"BeanLoomModel", "inverseOf", "(I)I"⟩
abbrev zm_Ref_nameOf : zx_M := (prog_14_method_22_code, 4, "BeanLoomModel", some .int, { frames := 0, cells := 0, slots := 0, locals := 0 })
abbrev zy_Ref_nameOf : MethodName := ⟨"BeanLoomModel", "nameOf", "(JI)I"⟩
abbrev zm_Ref_byName : zx_M := (prog_14_method_24_code, 3, "BeanLoomModel", some .long, { frames := 1, cells := 0, slots := 0, locals := 24 })
abbrev zy_Ref_byName : MethodName := ⟨"BeanLoomModel", "byName", "(II)J"⟩
abbrev zm_Ref_pathOf : zx_M := (prog_14_method_23_code, 7, "BeanLoomModel", some .long, { frames := 2, cells := 0, slots := 0, locals := 46 })
abbrev zy_Ref_pathOf : MethodName := ⟨"BeanLoomModel", "pathOf", "(II)J"⟩
abbrev zm_Ref_endOf : zx_M := (prog_14_method_25_code, 8, "BeanLoomModel", some .int, { frames := 1, cells := 0, slots := 0, locals := 24 })
abbrev zy_Ref_endOf : MethodName := ⟨"BeanLoomModel", "endOf", "(IJ)I"⟩
abbrev zm_Ref_constantOf : zx_M := (prog_14_method_26_code, 10, "BeanLoomModel", some .int, { frames := 2, cells := 0, slots := 0, locals := 46 })
abbrev zy_Ref_constantOf : MethodName := ⟨"BeanLoomModel", "constantOf", "(II)I"⟩
abbrev zm_Ref_converts : zx_M := (prog_14_method_27_code, 3, "BeanLoomModel", some .boolean, { frames := 2, cells := 0, slots := 0, locals := 43 })
abbrev zy_Ref_converts : MethodName := ⟨"BeanLoomModel", "converts", "(II)Z"⟩
abbrev zm_Ref_functionOf : zx_M := (prog_14_method_30_code, 7, "BeanLoomModel", some .int, { frames := 3, cells := 0, slots := 0, locals := 65 })
abbrev zy_Ref_functionOf : MethodName := ⟨"BeanLoomModel", "functionOf", "(IIZ)I"⟩
abbrev zm_Ref_one : zx_M := (prog_14_method_29_code, 7, "BeanLoomModel", some .int, { frames := 4, cells := 0, slots := 0, locals := 91 })
abbrev zy_Ref_one : MethodName := ⟨"BeanLoomModel", "one", "(II)I"⟩
abbrev zm_Ref_how : zx_M := (prog_14_method_28_code, 7, "BeanLoomModel", some .int, { frames := 5, cells := 0, slots := 0, locals := 117 })
abbrev zy_Ref_how : MethodName := ⟨"BeanLoomModel", "how", "(II)I"⟩
abbrev zm_Ref_faulty : zx_M := (prog_14_method_31_code, 4, "BeanLoomModel", some .boolean, { frames := 0, cells := 0, slots := 0, locals := 0 })
abbrev zy_Ref_faulty : MethodName := ⟨"BeanLoomModel", "faulty", "(III)Z"⟩
abbrev zm_Ref_isWrongInverse : zx_M := (prog_14_method_32_code, 6, "BeanLoomModel", some .boolean, { frames := 1, cells := 0, slots := 0, locals := 24 })
abbrev zy_Ref_isWrongInverse : MethodName := ⟨"BeanLoomModel", "isWrongInverse", "(I)Z"⟩
abbrev zm_Ref_wrong : zx_M := (prog_14_method_33_code, 7, "BeanLoomModel", some .int, { frames := 2, cells := 0, slots := 0, locals := 51 })
abbrev zy_Ref_wrong : MethodName := ⟨"BeanLoomModel", "wrong", "(II)I"⟩
abbrev zm_Ref_wrongWay : zx_M := (prog_14_method_34_code, 1, "BeanLoomModel", some .int, { frames := 0, cells := 0, slots := 0, locals := 0 })
abbrev zy_Ref_wrongWay : MethodName := ⟨"BeanLoomModel", "wrongWay", "(I)I"⟩
abbrev zm_Ref_wrongProperty : zx_M := (prog_14_method_35_code, 11, "BeanLoomModel", some .int, { frames := 6, cells := 0, slots := 0, locals := 143 })
abbrev zy_Ref_wrongProperty : MethodName := ⟨"BeanLoomModel", "wrongProperty", "(II)I"⟩
abbrev zm_Ref_isFaulty : zx_M := (prog_14_method_36_code, 6, "BeanLoomModel", some .boolean, { frames := 7, cells := 0, slots := 0, locals := 173 })
abbrev zy_Ref_isFaulty : MethodName := ⟨"BeanLoomModel", "isFaulty", "(I)Z"⟩
abbrev zm_Ref_build : zx_M := (prog_14_method_37_code, 3, "BeanLoomModel", some .int, { frames := 8, cells := 0, slots := 0, locals := 198 })
abbrev zy_Ref_build : MethodName := ⟨"BeanLoomModel", "build", "()I"⟩
abbrev zm_Ref_diagnosis : zx_M := (prog_14_method_38_code, 2, "BeanLoomModel", some .int, { frames := 0, cells := 0, slots := 0, locals := 0 })
abbrev zy_Ref_diagnosis : MethodName := ⟨"BeanLoomModel", "diagnosis", "(I)I"⟩
abbrev zm_Ref_cast : zx_M := (prog_14_method_39_code, 3, "BeanLoomModel", some .long, { frames := 0, cells := 0, slots := 0, locals := 0 })
abbrev zy_Ref_cast : MethodName := ⟨"BeanLoomModel", "cast", "(JI)J"⟩
abbrev zm_Ref_isValue : zx_M := (prog_14_method_40_code, 4, "BeanLoomModel", some .boolean, { frames := 1, cells := 0, slots := 0, locals := 22 })
abbrev zy_Ref_isValue : MethodName := ⟨"BeanLoomModel", "isValue", "(IJ)Z"⟩
abbrev zm_Ref_empty : zx_M := (prog_14_method_41_code, 2, "BeanLoomModel", some .long, { frames := 0, cells := 0, slots := 0, locals := 0 })
abbrev zy_Ref_empty : MethodName := ⟨"BeanLoomModel", "empty", "(I)J"⟩
abbrev zm_Ref_object : zx_M := (prog_14_method_42_code, 3, "BeanLoomModel", some .int, { frames := 1, cells := 0, slots := 0, locals := 21 })
abbrev zy_Ref_object : MethodName := ⟨"BeanLoomModel", "object", "(I)I"⟩
abbrev zm_Ref_make : zx_M := (prog_14_method_43_code, 7, "BeanLoomModel", some .int, { frames := 2, cells := 0, slots := 0, locals := 45 })
abbrev zy_Ref_make : MethodName := ⟨"BeanLoomModel", "make", "(IJ)I"⟩
abbrev zm_Ref_isObject : zx_M := (prog_14_method_44_code, 2, "BeanLoomModel", some .boolean, { frames := 0, cells := 0, slots := 0, locals := 0 })
abbrev zy_Ref_isObject : MethodName := ⟨"BeanLoomModel", "isObject", "(I)Z"⟩
abbrev zm_Ref_put : zx_M := (prog_14_method_45_code, 7, "BeanLoomModel", some .boolean, { frames := 2, cells := 0, slots := 0, locals := 45 })
abbrev zy_Ref_put : MethodName := ⟨"BeanLoomModel", "put", "(IIJ)Z"⟩
abbrev zm_Ref_doubled : zx_M := (prog_14_method_46_code, 12, "BeanLoomModel", some .long, { frames := 0, cells := 0, slots := 0, locals := 0 })
abbrev zy_Ref_doubled : MethodName := ⟨"BeanLoomModel", "doubled", "(J)J"⟩
abbrev zm_Ref_whole : zx_M := (prog_14_method_47_code, 12, "BeanLoomModel", some .long, { frames := 0, cells := 0, slots := 0, locals := 0 })
abbrev zy_Ref_whole : MethodName := ⟨"BeanLoomModel", "whole", "(JJJ)J"⟩
abbrev zm_Ref_castFrom : zx_M := (prog_14_method_48_code, 6, "BeanLoomModel", some .long, { frames := 1, cells := 0, slots := 0, locals := 31 })
abbrev zy_Ref_castFrom : MethodName := ⟨"BeanLoomModel", "castFrom", "(JII)J"⟩
abbrev zm_Ref_write : zx_M := (prog_14_method_49_code, 2, "BeanLoomModel", none, { frames := 0, cells := 0, slots := 0, locals := 0 })
abbrev zy_Ref_write : MethodName := ⟨"BeanLoomModel", "write", "(I)V"⟩
abbrev zm_Ref_writeNumber : zx_M := (prog_14_method_50_code, 7, "BeanLoomModel", none, { frames := 1, cells := 0, slots := 0, locals := 21 })
abbrev zy_Ref_writeNumber : MethodName := ⟨"BeanLoomModel", "writeNumber", "(J)V"⟩
abbrev zm_Ref_writeFour : zx_M := (prog_14_method_51_code, 5, "BeanLoomModel", none, { frames := 1, cells := 0, slots := 0, locals := 21 })
abbrev zy_Ref_writeFour : MethodName := ⟨"BeanLoomModel", "writeFour", "(IIII)V"⟩
abbrev zm_Ref_newText : zx_M := (prog_14_method_52_code, 3, "BeanLoomModel", some .long, { frames := 2, cells := 0, slots := 0, locals := 43 })
abbrev zy_Ref_newText : MethodName := ⟨"BeanLoomModel", "newText", "()J"⟩
abbrev zm_Ref_toText : zx_M := (prog_14_method_53_code, 5, "BeanLoomModel", some .long, { frames := 3, cells := 0, slots := 0, locals := 65 })
abbrev zy_Ref_toText : MethodName := ⟨"BeanLoomModel", "toText", "(IJ)J"⟩
abbrev zm_Ref_isTrue : zx_M := (prog_14_method_54_code, 2, "BeanLoomModel", some .boolean, { frames := 0, cells := 0, slots := 0, locals := 0 })
abbrev zy_Ref_isTrue : MethodName := ⟨"BeanLoomModel", "isTrue", "(I)Z"⟩
abbrev zm_Ref_numberOf : zx_M := (prog_14_method_55_code, 10, "BeanLoomModel", some .long, { frames := 1, cells := 0, slots := 0, locals := 22 })
abbrev zy_Ref_numberOf : MethodName := ⟨"BeanLoomModel", "numberOf", "(II)J"⟩
abbrev zm_Ref_fromText : zx_M := (prog_14_method_56_code, 3, "BeanLoomModel", some .long, { frames := 2, cells := 0, slots := 0, locals := 51 })
abbrev zy_Ref_fromText : MethodName := ⟨"BeanLoomModel", "fromText", "(II)J"⟩
abbrev zm_Ref_constant : zx_M := (prog_14_method_57_code, 8, "BeanLoomModel", some .long, { frames := 2, cells := 0, slots := 0, locals := 47 })
abbrev zy_Ref_constant : MethodName := ⟨"BeanLoomModel", "constant", "(II)J"⟩
abbrev zm_Ref_plain : zx_M := (prog_14_method_58_code, 4, "BeanLoomModel", some .long, { frames := 0, cells := 0, slots := 0, locals := 0 })
abbrev zy_Ref_plain : MethodName := ⟨"BeanLoomModel", "plain", "(IJ)J"⟩
abbrev zm_Ref_boxed : zx_M := (prog_14_method_59_code, 5, "BeanLoomModel", some .long, { frames := 2, cells := 0, slots := 0, locals := 43 })
abbrev zy_Ref_boxed : MethodName := ⟨"BeanLoomModel", "boxed", "(IJ)J"⟩
abbrev zm_Ref_converted : zx_M := (prog_14_method_60_code, 5, "BeanLoomModel", some .long, { frames := 4, cells := 0, slots := 0, locals := 89 })
abbrev zy_Ref_converted : MethodName := ⟨"BeanLoomModel", "converted", "(IIJ)J"⟩
abbrev zm_Ref_applied : zx_M := (prog_14_method_61_code, 4, "BeanLoomModel", some .long, { frames := 3, cells := 0, slots := 0, locals := 67 })
abbrev zy_Ref_applied : MethodName := ⟨"BeanLoomModel", "applied", "(IJ)J"⟩
abbrev zm_Ref_isNull : zx_M := (prog_14_method_62_code, 4, "BeanLoomModel", some .boolean, { frames := 0, cells := 0, slots := 0, locals := 0 })
abbrev zy_Ref_isNull : MethodName := ⟨"BeanLoomModel", "isNull", "(IJ)Z"⟩
abbrev zm_Ref_wait : zx_M := (prog_14_method_64_code, 4, "BeanLoomModel", none, { frames := 0, cells := 0, slots := 0, locals := 0 })
abbrev zy_Ref_wait : MethodName := ⟨"BeanLoomModel", "wait", "(III)V"⟩
abbrev zm_Ref_mapped : zx_M := (prog_14_method_65_code, 5, "BeanLoomModel", some .long, { frames := 3, cells := 0, slots := 0, locals := 75 })
abbrev zy_Ref_mapped : MethodName := ⟨"BeanLoomModel", "mapped", "(IJ)J"⟩
abbrev zm_Ref_become : zx_M := (prog_14_method_63_code, 9, "BeanLoomModel", some .long, { frames := 6, cells := 0, slots := 0, locals := 143 })
abbrev zy_Ref_become : MethodName := ⟨"BeanLoomModel", "become", "(IIJ)J"⟩
abbrev zm_Ref_fillList : zx_M := (prog_14_method_66_code, 5, "BeanLoomModel", none, { frames := 7, cells := 0, slots := 0, locals := 171 })
abbrev zy_Ref_fillList : MethodName := ⟨"BeanLoomModel", "fillList", "()V"⟩
abbrev zm_Ref_ends : zx_M := (prog_14_method_69_code, 9, "BeanLoomModel", some .long, { frames := 7, cells := 0, slots := 0, locals := 171 })
abbrev zy_Ref_ends : MethodName := ⟨"BeanLoomModel", "ends", "(IIIIJ)J"⟩
abbrev zm_Ref_valueOf : zx_M := (prog_14_method_68_code, 13, "BeanLoomModel", some .long, { frames := 8, cells := 0, slots := 0, locals := 199 })
abbrev zy_Ref_valueOf : MethodName := ⟨"BeanLoomModel", "valueOf", "(IIII)J"⟩
abbrev zm_Ref_fillBean : zx_M := (prog_14_method_67_code, 7, "BeanLoomModel", none, { frames := 9, cells := 0, slots := 0, locals := 231 })
abbrev zy_Ref_fillBean : MethodName := ⟨"BeanLoomModel", "fillBean", "()V"⟩
abbrev zm_Ref_map : zx_M := (prog_14_method_70_code, 6, "BeanLoomModel", some .int, { frames := 10, cells := 0, slots := 0, locals := 257 })
abbrev zy_Ref_map : MethodName := ⟨"BeanLoomModel", "map", "(II)I"⟩
abbrev zm_Ref_get : zx_M := (prog_14_method_71_code, 3, "BeanLoomModel", some .long, { frames := 1, cells := 0, slots := 0, locals := 21 })
abbrev zy_Ref_get : MethodName := ⟨"BeanLoomModel", "get", "(II)J"⟩
abbrev zm_Ref_about : zx_M := (prog_14_method_72_code, 3, "BeanLoomModel", some .int, { frames := 1, cells := 0, slots := 0, locals := 21 })
abbrev zy_Ref_about : MethodName := ⟨"BeanLoomModel", "about", "(II)I"⟩
abbrev zm_Ref_count : zx_M := (prog_14_method_73_code, 2, "BeanLoomModel", some .int, { frames := 0, cells := 0, slots := 0, locals := 0 })
abbrev zy_Ref_count : MethodName := ⟨"BeanLoomModel", "count", "(I)I"⟩
abbrev zm_Basics_isBox : zx_M := (prog_2_method_3_code, 1, "BeanLoom$Basics", some .boolean, { frames := 0, cells := 0, slots := 0, locals := 0 })
abbrev zy_Basics_isBox : MethodName := ⟨"BeanLoom$Basics", "isBox", "(I)Z"⟩
abbrev zm_Basics_isBasic : zx_M := (prog_2_method_4_code, 1, "BeanLoom$Basics", some .boolean, { frames := 0, cells := 0, slots := 0, locals := 0 })
abbrev zy_Basics_isBasic : MethodName := ⟨"BeanLoom$Basics", "isBasic", "(I)Z"⟩
abbrev zm_Basics_kindOf : zx_M := (prog_2_method_5_code, 1, "BeanLoom$Basics", some .int, { frames := 0, cells := 0, slots := 0, locals := 0 })
abbrev zy_Basics_kindOf : MethodName := ⟨"BeanLoom$Basics", "kindOf", "(I)I"⟩
abbrev zm_Basics_isWhole : zx_M := (prog_2_method_6_code, 1, "BeanLoom$Basics", some .boolean, { frames := 0, cells := 0, slots := 0, locals := 0 })
abbrev zy_Basics_isWhole : MethodName := ⟨"BeanLoom$Basics", "isWhole", "(I)Z"⟩
abbrev zm_Basics_isNull : zx_M := (prog_2_method_7_code, 3, "BeanLoom$Basics", some .boolean, { frames := 0, cells := 0, slots := 0, locals := 0 })
abbrev zy_Basics_isNull : MethodName := ⟨"BeanLoom$Basics", "isNull", "(IJ)Z"⟩
abbrev zm_Basics_emptyOf : zx_M := (prog_2_method_8_code, 1, "BeanLoom$Basics", some .long, { frames := 0, cells := 0, slots := 0, locals := 0 })
abbrev zy_Basics_emptyOf : MethodName := ⟨"BeanLoom$Basics", "emptyOf", "(I)J"⟩
abbrev zm_Basics_wholeOf : zx_M := (prog_2_method_11_code, 9, "BeanLoom$Basics", some .long, { frames := 0, cells := 0, slots := 0, locals := 0 })
abbrev zy_Basics_wholeOf : MethodName := ⟨"BeanLoom$Basics", "wholeOf", "(J)J"⟩
abbrev zm_Basics_nearestDouble : zx_M := (prog_2_method_12_code, 13, "BeanLoom$Basics", some .long, { frames := 0, cells := 0, slots := 0, locals := 0 })
abbrev zy_Basics_nearestDouble : MethodName := ⟨"BeanLoom$Basics", "nearestDouble", "(J)J"⟩
abbrev zm_Basics_cast : zx_M := (prog_2_method_10_code, 6, "BeanLoom$Basics", some .long, { frames := 1, cells := 0, slots := 0, locals := 32 })
abbrev zy_Basics_cast : MethodName := ⟨"BeanLoom$Basics", "cast", "(IIJ)J"⟩
abbrev zm_Store_create : zx_M := (prog_10_method_13_code, 3, "BeanLoom$Store", some .int, { frames := 0, cells := 0, slots := 0, locals := 0 })
abbrev zy_Store_create : MethodName := ⟨"BeanLoom$Store", "create", "(I)I"⟩
abbrev zm_Converter_created : zx_M := (prog_3_method_4_code, 3, "BeanLoom$Converter", some .int, { frames := 1, cells := 0, slots := 0, locals := 22 })
abbrev zy_Converter_created : MethodName := ⟨"BeanLoom$Converter", "created", "(I)I"⟩
abbrev zm_Types_nameAt : zx_M := (prog_11_method_15_code, 4, "BeanLoom$Types", some .int, { frames := 0, cells := 0, slots := 0, locals := 0 })
abbrev zy_Types_nameAt : MethodName := ⟨"BeanLoom$Types", "nameAt", "(II)I"⟩
abbrev zm_Converter_writeNumber : zx_M := (prog_3_method_12_code, 10, "BeanLoom$Converter", none, { frames := 1, cells := 0, slots := 0, locals := 25 })
abbrev zy_Converter_writeNumber : MethodName := ⟨"BeanLoom$Converter", "writeNumber", "(ICJ)V"⟩
abbrev zm_Store_cell : zx_M := (prog_10_method_9_code, 4, "BeanLoom$Store", some .long, { frames := 0, cells := 0, slots := 0, locals := 0 })
abbrev zy_Store_cell : MethodName := ⟨"BeanLoom$Store", "cell", "(II)J"⟩
abbrev zm_Converter_unboxed : zx_M := (prog_3_method_5_code, 4, "BeanLoom$Converter", some .long, { frames := 1, cells := 0, slots := 0, locals := 23 })
abbrev zy_Converter_unboxed : MethodName := ⟨"BeanLoom$Converter", "unboxed", "(IJ)J"⟩
abbrev zm_Converter_writeWord : zx_M := (prog_3_method_11_code, 4, "BeanLoom$Converter", none, { frames := 6, cells := 0, slots := 0, locals := 141 })
abbrev zy_Converter_writeWord : MethodName := ⟨"BeanLoom$Converter", "writeWord", "(ILjava/lang/String;)V"⟩
abbrev zm_Converter_writePlain : zx_M := (prog_3_method_10_code, 5, "BeanLoom$Converter", none, { frames := 7, cells := 0, slots := 0, locals := 164 })
abbrev zy_Converter_writePlain : MethodName := ⟨"BeanLoom$Converter", "writePlain", "(IIJ)V"⟩
abbrev zm_Converter_isNameText : zx_M := (prog_3_method_14_code, 3, "BeanLoom$Converter", some .boolean, { frames := 1, cells := 0, slots := 0, locals := 23 })
abbrev zy_Converter_isNameText : MethodName := ⟨"BeanLoom$Converter", "isNameText", "(II)Z"⟩
abbrev zm_Converter_constantOf : zx_M := (prog_3_method_13_code, 5, "BeanLoom$Converter", some .long, { frames := 2, cells := 0, slots := 0, locals := 45 })
abbrev zy_Converter_constantOf : MethodName := ⟨"BeanLoom$Converter", "constantOf", "(II)J"⟩
abbrev zm_Converter_isTrue : zx_M := (prog_3_method_8_code, 2, "BeanLoom$Converter", some .boolean, { frames := 1, cells := 0, slots := 0, locals := 23 })
abbrev zy_Converter_isTrue : MethodName := ⟨"BeanLoom$Converter", "isTrue", "(I)Z"⟩
abbrev zm_Converter_number : zx_M := (prog_3_method_9_code, 12, "BeanLoom$Converter", some .long, { frames := 1, cells := 0, slots := 0, locals := 23 })
abbrev zy_Converter_number : MethodName := ⟨"BeanLoom$Converter", "number", "(II)J"⟩
abbrev zm_Converter_plain : zx_M := (prog_3_method_7_code, 6, "BeanLoom$Converter", some .long, { frames := 2, cells := 0, slots := 0, locals := 57 })
abbrev zy_Converter_plain : MethodName := ⟨"BeanLoom$Converter", "plain", "(IJI)J"⟩
abbrev zm_Converter_boxed : zx_M := (prog_3_method_6_code, 5, "BeanLoom$Converter", some .long, { frames := 2, cells := 0, slots := 0, locals := 44 })
abbrev zy_Converter_boxed : MethodName := ⟨"BeanLoom$Converter", "boxed", "(IJ)J"⟩
abbrev zm_Converter_byTable : zx_M := (prog_3_method_2_code, 6, "BeanLoom$Converter", some .long, { frames := 8, cells := 0, slots := 0, locals := 188 })
abbrev zy_Converter_byTable : MethodName := ⟨"BeanLoom$Converter", "byTable", "(IIJ)J"⟩
abbrev zm_Converter_byFunction : zx_M := (prog_3_method_3_code, 7, "BeanLoom$Converter", some .long, { frames := 3, cells := 0, slots := 0, locals := 82 })
abbrev zy_Converter_byFunction : MethodName := ⟨"BeanLoom$Converter", "byFunction", "(LBeanLoom$Function;IJ)J"⟩
abbrev zm_Mapper_hasFailed : zx_M := (prog_5_method_2_code, 1, "BeanLoom$Mapper", some .boolean, { frames := 0, cells := 0, slots := 0, locals := 0 })
abbrev zy_Mapper_hasFailed : MethodName := ⟨"BeanLoom$Mapper", "hasFailed", "()Z"⟩
abbrev zm_Arrays_fill : zx_M := (prog_26_method_103_code, 4, "java/util/Arrays", none, { frames := 0, cells := 0, slots := 0, locals := 0 })
abbrev zy_Arrays_fill : MethodName := ⟨"java/util/Arrays", "fill", "([II)V"⟩
abbrev zm_Model_hasMethod : zx_M := (prog_7_method_2_code, 3, "BeanLoom$Model", some .boolean, { frames := 0, cells := 0, slots := 0, locals := 0 })
abbrev zy_Model_hasMethod : MethodName := ⟨"BeanLoom$Model", "hasMethod", "(J)Z"⟩
abbrev zm_Store_createBean : zx_M := (prog_10_method_14_code, 5, "BeanLoom$Store", some .int, { frames := 1, cells := 0, slots := 0, locals := 23 })
abbrev zy_Store_createBean : MethodName := ⟨"BeanLoom$Store", "createBean", "(I)I"⟩
abbrev zm_Mapper_begin : zx_M := (prog_5_method_4_code, 4, "BeanLoom$Mapper", none, { frames := 0, cells := 0, slots := 0, locals := 0 })
abbrev zy_Mapper_begin : MethodName := ⟨"BeanLoom$Mapper", "begin", "(III)V"⟩
abbrev zm_Mapper_beanOf : zx_M := (prog_5_method_11_code, 7, "BeanLoom$Mapper", some .long, { frames := 2, cells := 0, slots := 0, locals := 47 })
abbrev zy_Mapper_beanOf : MethodName := ⟨"BeanLoom$Mapper", "beanOf", "(ILBeanLoom$Method;J)J"⟩
abbrev zm_Mapper_constantOf : zx_M := (prog_5_method_10_code, 5, "BeanLoom$Mapper", some .long, { frames := 0, cells := 0, slots := 0, locals := 0 })
abbrev zy_Mapper_constantOf : MethodName := ⟨"BeanLoom$Mapper", "constantOf", "(LBeanLoom$Method;J)J"⟩
abbrev zm_Mapper_byMethod : zx_M := (prog_5_method_9_code, 5, "BeanLoom$Mapper", some .long, { frames := 3, cells := 0, slots := 0, locals := 73 })
abbrev zy_Mapper_byMethod : MethodName := ⟨"BeanLoom$Mapper", "byMethod", "(IJ)J"⟩
abbrev zm_Types_exists : zx_M := (prog_11_method_6_code, 2, "BeanLoom$Types", some .boolean, { frames := 0, cells := 0, slots := 0, locals := 0 })
abbrev zy_Types_exists : MethodName := ⟨"BeanLoom$Types", "exists", "(I)Z"⟩
abbrev zm_Ways_known : zx_M := (prog_12_method_2_code, 3, "BeanLoom$Ways", some .int, { frames := 1, cells := 0, slots := 0, locals := 21 })
abbrev zy_Ways_known : MethodName := ⟨"BeanLoom$Ways", "known", "(II)I"⟩
abbrev zm_Mapper_beginList : zx_M := (prog_5_method_8_code, 5, "BeanLoom$Mapper", some .long, { frames := 2, cells := 0, slots := 0, locals := 44 })
abbrev zy_Mapper_beginList : MethodName := ⟨"BeanLoom$Mapper", "beginList", "(IJ)J"⟩
abbrev zm_Mapper_become : zx_M := (prog_5_method_7_code, 7, "BeanLoom$Mapper", some .long, { frames := 9, cells := 0, slots := 0, locals := 213 })
abbrev zy_Mapper_become : MethodName := ⟨"BeanLoom$Mapper", "become", "(IIIJ)J"⟩
abbrev zm_Mapper_fillList : zx_M := (prog_5_method_5_code, 6, "BeanLoom$Mapper", none, { frames := 10, cells := 0, slots := 0, locals := 239 })
abbrev zy_Mapper_fillList : MethodName := ⟨"BeanLoom$Mapper", "fillList", "(III)V"⟩
abbrev zm_Mapper_fillProperty : zx_M := (prog_5_method_6_code, 13, "BeanLoom$Mapper", none, { frames := 10, cells := 0, slots := 0, locals := 239 })
abbrev zy_Mapper_fillProperty : MethodName := ⟨"BeanLoom$Mapper", "fillProperty", "(LBeanLoom$Method;III)V"⟩
abbrev zm_Mapper_run : zx_M := (prog_5_method_3_code, 9, "BeanLoom$Mapper", some .long, { frames := 11, cells := 0, slots := 0, locals := 271 })
abbrev zy_Mapper_run : MethodName := ⟨"BeanLoom$Mapper", "run", "(IJ)J"⟩
abbrev zm_Method_tell : zx_M := (prog_6_method_2_code, 5, "BeanLoom$Method", none, { frames := 0, cells := 0, slots := 0, locals := 0 })
abbrev zy_Method_tell : MethodName := ⟨"BeanLoom$Method", "tell", "(IIJ)V"⟩
abbrev zm_Method_latest : zx_M := (prog_6_method_3_code, 3, "BeanLoom$Method", some .int, { frames := 0, cells := 0, slots := 0, locals := 0 })
abbrev zy_Method_latest : MethodName := ⟨"BeanLoom$Method", "latest", "(I)I"⟩
abbrev zm_Method_first : zx_M := (prog_6_method_4_code, 4, "BeanLoom$Method", some .int, { frames := 0, cells := 0, slots := 0, locals := 0 })
abbrev zy_Method_first : MethodName := ⟨"BeanLoom$Method", "first", "(II)I"⟩
abbrev zm_Method_repeats : zx_M := (prog_6_method_5_code, 4, "BeanLoom$Method", some .boolean, { frames := 0, cells := 0, slots := 0, locals := 0 })
abbrev zy_Method_repeats : MethodName := ⟨"BeanLoom$Method", "repeats", "(I)Z"⟩
abbrev zm_Model_hasFunction : zx_M := (prog_7_method_3_code, 3, "BeanLoom$Model", some .boolean, { frames := 0, cells := 0, slots := 0, locals := 0 })
abbrev zy_Model_hasFunction : MethodName := ⟨"BeanLoom$Model", "hasFunction", "(J)Z"⟩
abbrev zm_Model_addMethod : zx_M := (prog_7_method_4_code, 4, "BeanLoom$Model", some .int, { frames := 0, cells := 0, slots := 0, locals := 0 })
abbrev zy_Model_addMethod : MethodName := ⟨"BeanLoom$Model", "addMethod", "(II)I"⟩
abbrev zm_Model_addFunction : zx_M := (prog_7_method_5_code, 7, "BeanLoom$Model", some .int, { frames := 0, cells := 0, slots := 0, locals := 0 })
abbrev zy_Model_addFunction : MethodName := ⟨"BeanLoom$Model", "addFunction", "(IIII)I"⟩
abbrev zm_Model_nameFunctions : zx_M := (prog_7_method_6_code, 4, "BeanLoom$Model", none, { frames := 1, cells := 0, slots := 0, locals := 22 })
abbrev zy_Model_nameFunctions : MethodName := ⟨"BeanLoom$Model", "nameFunctions", "()V"⟩
abbrev zm_Types_nameIn : zx_M := (prog_11_method_2_code, 3, "BeanLoom$Types", some .int, { frames := 0, cells := 0, slots := 0, locals := 0 })
abbrev zy_Types_nameIn : MethodName := ⟨"BeanLoom$Types", "nameIn", "(JI)I"⟩
abbrev zm_Types_placeOf : zx_M := (prog_11_method_17_code, 6, "BeanLoom$Types", some .int, { frames := 0, cells := 0, slots := 0, locals := 0 })
abbrev zy_Types_placeOf : MethodName := ⟨"BeanLoom$Types", "placeOf", "(IJ)I"⟩
abbrev zm_Plan_trace : zx_M := (prog_8_method_2_code, 9, "BeanLoom$Plan", some .boolean, { frames := 1, cells := 0, slots := 0, locals := 25 })
abbrev zy_Plan_trace : MethodName := ⟨"BeanLoom$Plan", "trace", "(LBeanLoom$Types;IJ)Z"⟩
abbrev zm_Planner_planInverse : zx_M := (prog_9_method_5_code, 6, "BeanLoom$Planner", some .boolean, { frames := 1, cells := 0, slots := 0, locals := 22 })
abbrev zy_Planner_planInverse : MethodName := ⟨"BeanLoom$Planner", "planInverse", "(LBeanLoom$Method;)Z"⟩
abbrev zm_Planner_ruleFault : zx_M := (prog_9_method_6_code, 10, "BeanLoom$Planner", some .int, { frames := 2, cells := 0, slots := 0, locals := 53 })
abbrev zy_Planner_ruleFault : MethodName := ⟨"BeanLoom$Planner", "ruleFault", "(LBeanLoom$Method;I)I"⟩
abbrev zm_Planner_note : zx_M := (prog_9_method_4_code, 3, "BeanLoom$Planner", none, { frames := 0, cells := 0, slots := 0, locals := 0 })
abbrev zy_Planner_note : MethodName := ⟨"BeanLoom$Planner", "note", "(II)V"⟩
abbrev zm_Ways_converts : zx_M := (prog_12_method_6_code, 5, "BeanLoom$Ways", some .boolean, { frames := 1, cells := 0, slots := 0, locals := 21 })
abbrev zy_Ways_converts : MethodName := ⟨"BeanLoom$Ways", "converts", "(II)Z"⟩
abbrev zm_Ways_functionWay : zx_M := (prog_12_method_4_code, 8, "BeanLoom$Ways", some .int, { frames := 2, cells := 0, slots := 0, locals := 45 })
abbrev zy_Ways_functionWay : MethodName := ⟨"BeanLoom$Ways", "functionWay", "(IIZ)I"⟩
abbrev zm_Ways_methodWay : zx_M := (prog_12_method_5_code, 5, "BeanLoom$Ways", some .int, { frames := 0, cells := 0, slots := 0, locals := 0 })
abbrev zy_Ways_methodWay : MethodName := ⟨"BeanLoom$Ways", "methodWay", "(II)I"⟩
abbrev zm_Ways_find : zx_M := (prog_12_method_3_code, 8, "BeanLoom$Ways", some .int, { frames := 3, cells := 0, slots := 0, locals := 72 })
abbrev zy_Ways_find : MethodName := ⟨"BeanLoom$Ways", "find", "(II)I"⟩
abbrev zm_Planner_faultOf : zx_M := (prog_9_method_10_code, 2, "BeanLoom$Planner", some .int, { frames := 0, cells := 0, slots := 0, locals := 0 })
abbrev zy_Planner_faultOf : MethodName := ⟨"BeanLoom$Planner", "faultOf", "(I)I"⟩
abbrev zm_Planner_pathTo : zx_M := (prog_9_method_11_code, 7, "BeanLoom$Planner", some .long, { frames := 1, cells := 0, slots := 0, locals := 25 })
abbrev zy_Planner_pathTo : MethodName := ⟨"BeanLoom$Planner", "pathTo", "(LBeanLoom$Method;I)J"⟩
abbrev zm_Planner_wayBy : zx_M := (prog_9_method_9_code, 6, "BeanLoom$Planner", some .int, { frames := 1, cells := 0, slots := 0, locals := 22 })
abbrev zy_Planner_wayBy : MethodName := ⟨"BeanLoom$Planner", "wayBy", "(JII)I"⟩
abbrev zm_Planner_planProperty : zx_M := (prog_9_method_7_code, 8, "BeanLoom$Planner", some .int, { frames := 4, cells := 0, slots := 0, locals := 99 })
abbrev zy_Planner_planProperty : MethodName := ⟨"BeanLoom$Planner", "planProperty", "(LBeanLoom$Method;I)I"⟩
abbrev zm_Planner_inverseConstant : zx_M := (prog_9_method_14_code, 6, "BeanLoom$Planner", some .int, { frames := 1, cells := 0, slots := 0, locals := 25 })
abbrev zy_Planner_inverseConstant : MethodName := ⟨"BeanLoom$Planner", "inverseConstant", "(LBeanLoom$Method;I)I"⟩
abbrev zm_Planner_becoming : zx_M := (prog_9_method_13_code, 6, "BeanLoom$Planner", some .long, { frames := 2, cells := 0, slots := 0, locals := 50 })
abbrev zy_Planner_becoming : MethodName := ⟨"BeanLoom$Planner", "becoming", "(LBeanLoom$Method;I)J"⟩
abbrev zm_Planner_planConstant : zx_M := (prog_9_method_12_code, 5, "BeanLoom$Planner", some .int, { frames := 3, cells := 0, slots := 0, locals := 75 })
abbrev zy_Planner_planConstant : MethodName := ⟨"BeanLoom$Planner", "planConstant", "(LBeanLoom$Method;I)I"⟩
abbrev zm_Planner_planDefault : zx_M := (prog_9_method_8_code, 5, "BeanLoom$Planner", some .int, { frames := 4, cells := 0, slots := 0, locals := 99 })
abbrev zy_Planner_planDefault : MethodName := ⟨"BeanLoom$Planner", "planDefault", "(LBeanLoom$Method;I)I"⟩
abbrev zm_Planner_planMethod : zx_M := (prog_9_method_3_code, 6, "BeanLoom$Planner", none, { frames := 5, cells := 0, slots := 0, locals := 126 })
abbrev zy_Planner_planMethod : MethodName := ⟨"BeanLoom$Planner", "planMethod", "(LBeanLoom$Method;)V"⟩
abbrev zm_Planner_planAll : zx_M := (prog_9_method_2_code, 2, "BeanLoom$Planner", none, { frames := 6, cells := 0, slots := 0, locals := 151 })
abbrev zy_Planner_planAll : MethodName := ⟨"BeanLoom$Planner", "planAll", "()V"⟩
abbrev zm_Store_isFull : zx_M := (prog_10_method_3_code, 1, "BeanLoom$Store", some .boolean, { frames := 0, cells := 0, slots := 0, locals := 0 })
abbrev zy_Store_isFull : MethodName := ⟨"BeanLoom$Store", "isFull", "()Z"⟩
abbrev zm_Store_forget : zx_M := (prog_10_method_4_code, 2, "BeanLoom$Store", none, { frames := 0, cells := 0, slots := 0, locals := 0 })
abbrev zy_Store_forget : MethodName := ⟨"BeanLoom$Store", "forget", "(I)V"⟩
abbrev zm_Store_appendBytes : zx_M := (prog_10_method_12_code, 7, "BeanLoom$Store", none, { frames := 1, cells := 0, slots := 0, locals := 23 })
abbrev zy_Store_appendBytes : MethodName := ⟨"BeanLoom$Store", "appendBytes", "(IJ)V"⟩
abbrev zm_Types_areNames : zx_M := (prog_11_method_3_code, 6, "BeanLoom$Types", some .boolean, { frames := 1, cells := 0, slots := 0, locals := 22 })
abbrev zy_Types_areNames : MethodName := ⟨"BeanLoom$Types", "areNames", "(JI)Z"⟩
abbrev zm_Types_isFull : zx_M := (prog_11_method_5_code, 1, "BeanLoom$Types", some .boolean, { frames := 0, cells := 0, slots := 0, locals := 0 })
abbrev zy_Types_isFull : MethodName := ⟨"BeanLoom$Types", "isFull", "()Z"⟩
abbrev zm_Types_add : zx_M := (prog_11_method_10_code, 4, "BeanLoom$Types", some .int, { frames := 0, cells := 0, slots := 0, locals := 0 })
abbrev zy_Types_add : MethodName := ⟨"BeanLoom$Types", "add", "(II)I"⟩
abbrev zm_Types_addMember : zx_M := (prog_11_method_11_code, 5, "BeanLoom$Types", some .int, { frames := 0, cells := 0, slots := 0, locals := 0 })
abbrev zy_Types_addMember : MethodName := ⟨"BeanLoom$Types", "addMember", "(III)I"⟩
abbrev zm_Types_listOf : zx_M := (prog_11_method_12_code, 3, "BeanLoom$Types", some .int, { frames := 0, cells := 0, slots := 0, locals := 0 })
abbrev zy_Types_listOf : MethodName := ⟨"BeanLoom$Types", "listOf", "(I)I"⟩
abbrev zm_Loom_enumeration : zx_M := (prog_1_method_2_code, 6, "BeanLoom", some .int, { frames := 6, cells := 1, slots := 6, locals := 90 })
abbrev zy_Loom_enumeration : MethodName := ⟨"BeanLoom", "enumeration", "(JI)I"⟩
abbrev zm_Loom_bean : zx_M := (prog_1_method_3_code, 1, "BeanLoom", some .int, { frames := 6, cells := 1, slots := 6, locals := 90 })
abbrev zy_Loom_bean : MethodName := ⟨"BeanLoom", "bean", "()I"⟩
abbrev zm_Loom_property : zx_M := (prog_1_method_4_code, 4, "BeanLoom", some .int, { frames := 6, cells := 1, slots := 6, locals := 90 })
abbrev zy_Loom_property : MethodName := ⟨"BeanLoom", "property", "(III)I"⟩
abbrev zm_Loom_list : zx_M := (prog_1_method_5_code, 3, "BeanLoom", some .int, { frames := 6, cells := 1, slots := 6, locals := 90 })
abbrev zy_Loom_list : MethodName := ⟨"BeanLoom", "list", "(I)I"⟩
abbrev zm_Loom_method : zx_M := (prog_1_method_6_code, 5, "BeanLoom", some .int, { frames := 6, cells := 1, slots := 6, locals := 90 })
abbrev zy_Loom_method : MethodName := ⟨"BeanLoom", "method", "(II)I"⟩
abbrev zm_Loom_function : zx_M := (prog_1_method_7_code, 5, "BeanLoom", some .int, { frames := 6, cells := 1, slots := 6, locals := 90 })
abbrev zy_Loom_function : MethodName := ⟨"BeanLoom", "function", "(IIII)I"⟩
abbrev zm_Loom_rule : zx_M := (prog_1_method_8_code, 6, "BeanLoom", none, { frames := 6, cells := 1, slots := 6, locals := 90 })
abbrev zy_Loom_rule : MethodName := ⟨"BeanLoom", "rule", "(IIIJ)V"⟩
abbrev zm_Loom_build : zx_M := (prog_1_method_9_code, 1, "BeanLoom", some .int, { frames := 7, cells := 1, slots := 6, locals := 172 })
abbrev zy_Loom_build : MethodName := ⟨"BeanLoom", "build", "()I"⟩
abbrev zm_Loom_make : zx_M := (prog_1_method_11_code, 6, "BeanLoom", some .int, { frames := 6, cells := 1, slots := 6, locals := 90 })
abbrev zy_Loom_make : MethodName := ⟨"BeanLoom", "make", "(IJ)I"⟩
abbrev zm_Loom_map : zx_M := (prog_1_method_13_code, 6, "BeanLoom", some .int, { frames := 12, cells := 1, slots := 6, locals := 299 })
abbrev zy_Loom_map : MethodName := ⟨"BeanLoom", "map", "(II)I"⟩
abbrev zm_Loom_get : zx_M := (prog_1_method_14_code, 3, "BeanLoom", some .long, { frames := 6, cells := 1, slots := 6, locals := 90 })
abbrev zy_Loom_get : MethodName := ⟨"BeanLoom", "get", "(II)J"⟩
abbrev zm_Loom_about : zx_M := (prog_1_method_15_code, 3, "BeanLoom", some .int, { frames := 6, cells := 1, slots := 6, locals := 90 })
abbrev zy_Loom_about : MethodName := ⟨"BeanLoom", "about", "(II)I"⟩
abbrev zm_Law_enumeration : zx_M := (method_3_code, 6, "BeanLoomLaw", some .int, { frames := 7, cells := 1, slots := 6, locals := 115 })
abbrev zy_Law_enumeration : MethodName := ⟨"BeanLoomLaw", "enumeration", "(LBeanLoom;JI[J)I"⟩
abbrev zm_Law_bean : zx_M := (method_4_code, 3, "BeanLoomLaw", some .int, { frames := 7, cells := 1, slots := 6, locals := 110 })
abbrev zy_Law_bean : MethodName := ⟨"BeanLoomLaw", "bean", "(LBeanLoom;[J)I"⟩
abbrev zm_Law_property : zx_M := (method_5_code, 6, "BeanLoomLaw", some .int, { frames := 7, cells := 1, slots := 6, locals := 113 })
abbrev zy_Law_property : MethodName := ⟨"BeanLoomLaw", "property", "(LBeanLoom;III[J)I"⟩
abbrev zm_Law_list : zx_M := (method_6_code, 4, "BeanLoomLaw", some .int, { frames := 7, cells := 1, slots := 6, locals := 112 })
abbrev zy_Law_list : MethodName := ⟨"BeanLoomLaw", "list", "(LBeanLoom;I[J)I"⟩
abbrev zm_Law_method : zx_M := (method_7_code, 5, "BeanLoomLaw", some .int, { frames := 7, cells := 1, slots := 6, locals := 114 })
abbrev zy_Law_method : MethodName := ⟨"BeanLoomLaw", "method", "(LBeanLoom;II[J)I"⟩
abbrev zm_Law_function : zx_M := (method_8_code, 7, "BeanLoomLaw", some .int, { frames := 7, cells := 1, slots := 6, locals := 114 })
abbrev zy_Law_function : MethodName := ⟨"BeanLoomLaw", "function", "(LBeanLoom;IIII[J)I"⟩
abbrev zm_Law_rule : zx_M := (method_9_code, 7, "BeanLoomLaw", some .int, { frames := 7, cells := 1, slots := 6, locals := 115 })
abbrev zy_Law_rule : MethodName := ⟨"BeanLoomLaw", "rule", "(LBeanLoom;IIIJ)I"⟩
abbrev zm_Law_build : zx_M := (method_10_code, 3, "BeanLoomLaw", some .int, { frames := 8, cells := 1, slots := 6, locals := 192 })
abbrev zy_Law_build : MethodName := ⟨"BeanLoomLaw", "build", "(LBeanLoom;[J)I"⟩
abbrev zm_Law_make : zx_M := (method_11_code, 6, "BeanLoomLaw", some .int, { frames := 7, cells := 1, slots := 6, locals := 115 })
abbrev zy_Law_make : MethodName := ⟨"BeanLoomLaw", "make", "(LBeanLoom;IJ[J)I"⟩
abbrev zm_Law_map : zx_M := (method_12_code, 5, "BeanLoomLaw", some .int, { frames := 13, cells := 1, slots := 6, locals := 324 })
abbrev zy_Law_map : MethodName := ⟨"BeanLoomLaw", "map", "(LBeanLoom;II[J)I"⟩
abbrev zm_Law_get : zx_M := (method_13_code, 5, "BeanLoomLaw", some .int, { frames := 7, cells := 1, slots := 6, locals := 112 })
abbrev zy_Law_get : MethodName := ⟨"BeanLoomLaw", "get", "(LBeanLoom;II[J)I"⟩
abbrev zm_Law_about : zx_M := (method_14_code, 5, "BeanLoomLaw", some .int, { frames := 7, cells := 1, slots := 6, locals := 112 })
abbrev zy_Law_about : MethodName := ⟨"BeanLoomLaw", "about", "(LBeanLoom;II[J)I"⟩
theorem zc_Store_55 : zx_Ws "BeanLoom$Store" 55 zy_Basics_isPrimitive zm_Basics_isPrimitive 1 := zx_WsOf (y := zy_Basics_isPrimitive) zw_402 zw_403 zw_18 zw_404 (by decide +kernel) rfl rfl
theorem zc_Store_59 : zx_Ws "BeanLoom$Store" 59 zy_Basics_holds zm_Basics_holds 2 := zx_WsOf (y := zy_Basics_holds) zw_405 zw_406 zw_18 zw_407 (by decide +kernel) rfl rfl
theorem zc_Store_64 : zx_Wv "BeanLoom$Store" 64 "BeanLoom$Types" zy_Types_isEnum zm_Types_isEnum 1 := zx_WvOf (y := zy_Types_isEnum) zw_415 zw_416 zw_417 zw_2 zw_418 (by decide +kernel) rfl rfl
theorem zc_Store_40 : zx_Wv "BeanLoom$Store" 40 "BeanLoom$Types" zy_Types_memberCount zm_Types_memberCount 1 := zx_WvOf (y := zy_Types_memberCount) zw_419 zw_420 zw_421 zw_2 zw_422 (by decide +kernel) rfl rfl
theorem zc_Store_67 : zx_Wv "BeanLoom$Store" 67 "BeanLoom$Store" zy_Store_has zm_Store_has 1 := zx_WvOf (y := zy_Store_has) zw_423 zw_424 zw_425 zw_7 zw_426 (by decide +kernel) rfl rfl
theorem zc_Loom_220 : zx_Wv "BeanLoom" 220 "BeanLoom$Store" zy_Store_typeOf zm_Store_typeOf 1 := zx_WvOf (y := zy_Store_typeOf) zw_382 zw_383 zw_384 zw_7 zw_385 (by decide +kernel) rfl rfl
theorem zc_Loom_91 : zx_Wv "BeanLoom" 91 "BeanLoom$Types" zy_Types_isBean zm_Types_isBean 1 := zx_WvOf (y := zy_Types_isBean) zw_386 zw_387 zw_388 zw_2 zw_389 (by decide +kernel) rfl rfl
theorem zc_Loom_223 : zx_Wv "BeanLoom" 223 "BeanLoom$Store" zy_Store_hasPlace zm_Store_hasPlace 2 := zx_WvOf (y := zy_Store_hasPlace) zw_390 zw_391 zw_392 zw_7 zw_393 (by decide +kernel) rfl rfl
theorem zc_Loom_227 : zx_Wv "BeanLoom" 227 "BeanLoom$Types" zy_Types_typeAt zm_Types_typeAt 2 := zx_WvOf (y := zy_Types_typeAt) zw_394 zw_395 zw_396 zw_2 zw_397 (by decide +kernel) rfl rfl
theorem zc_Loom_230 : zx_Wv "BeanLoom" 230 "BeanLoom$Store" zy_Store_isValue zm_Store_isValue 2 := zx_WvOf (y := zy_Store_isValue) zw_398 zw_399 zw_400 zw_7 zw_401 (by decide +kernel) rfl rfl
theorem zc_Loom_233 : zx_Wv "BeanLoom" 233 "BeanLoom$Store" zy_Store_set zm_Store_set 3 := zx_WvOf (y := zy_Store_set) zw_427 zw_428 zw_429 zw_7 zw_430 (by decide +kernel) rfl rfl
theorem zc_Loom_192 : zx_Wv "BeanLoom" 192 "BeanLoom$Types" zy_Types_isList zm_Types_isList 1 := zx_WvOf (y := zy_Types_isList) zw_431 zw_432 zw_433 zw_2 zw_434 (by decide +kernel) rfl rfl
theorem zc_Loom_237 : zx_Wv "BeanLoom" 237 "BeanLoom$Store" zy_Store_length zm_Store_length 1 := zx_WvOf (y := zy_Store_length) zw_435 zw_436 zw_437 zw_7 zw_438 (by decide +kernel) rfl rfl
theorem zc_Loom_240 : zx_Wv "BeanLoom" 240 "BeanLoom$Types" zy_Types_element zm_Types_element 1 := zx_WvOf (y := zy_Types_element) zw_439 zw_440 zw_441 zw_2 zw_442 (by decide +kernel) rfl rfl
theorem zc_Loom_213 : zx_Wv "BeanLoom" 213 "BeanLoom$Store" zy_Store_append zm_Store_append 2 := zx_WvOf (y := zy_Store_append) zw_443 zw_444 zw_445 zw_7 zw_446 (by decide +kernel) rfl rfl
theorem zc_Loom_280 : zx_Wv "BeanLoom" 280 "BeanLoom$Types" zy_Types_size zm_Types_size 0 := zx_WvOf (y := zy_Types_size) zw_451 zw_452 zw_453 zw_2 zw_454 (by decide +kernel) rfl rfl
theorem zc_Loom_108 : zx_Wv "BeanLoom" 108 "BeanLoom$Store" zy_Store_size zm_Store_size 0 := zx_WvOf (y := zy_Store_size) zw_455 zw_456 zw_457 zw_7 zw_458 (by decide +kernel) rfl rfl
theorem zc_Ref_105 : zx_Wv "BeanLoomModel" 105 "BeanLoomModel" zy_Ref_isType zm_Ref_isType 1 := zx_WvOf (y := zy_Ref_isType) zw_1260 zw_1262 (zx_Gsel 37 (n := 40) (by decide +kernel)) zw_12 zw_1263 (by decide +kernel) rfl rfl
theorem zc_Ref_115 : zx_Ws "BeanLoomModel" 115 zy_Ref_isName zm_Ref_isName 1 := zx_WsOf (y := zy_Ref_isName) zw_1241 zw_1242 zw_12 zw_1243 (by decide +kernel) rfl rfl
theorem zc_Ref_122 : zx_Wv "BeanLoomModel" 122 "BeanLoomModel" zy_Ref_newType zm_Ref_newType 1 := zx_WvOf (y := zy_Ref_newType) zw_1244 zw_1246 (zx_Gsel 35 (n := 40) (by decide +kernel)) zw_12 zw_1247 (by decide +kernel) rfl rfl
theorem zc_Ref_109 : zx_Wv "BeanLoomModel" 109 "BeanLoomModel" zy_Ref_fails zm_Ref_fails 1 := zx_WvOf (y := zy_Ref_fails) zw_1236 zw_1238 (zx_Gsel 34 (n := 40) (by decide +kernel)) zw_12 zw_1239 (by decide +kernel) rfl rfl
theorem zc_Ref_125 : zx_Wv "BeanLoomModel" 125 "BeanLoomModel" zy_Ref_isSort zm_Ref_isSort 2 := zx_WvOf (y := zy_Ref_isSort) zw_1256 zw_1258 (zx_Gsel 36 (n := 40) (by decide +kernel)) zw_12 zw_1259 (by decide +kernel) rfl rfl
theorem zc_Ref_129 : zx_Wv "BeanLoomModel" 129 "BeanLoomModel" zy_Ref_placeOf zm_Ref_placeOf 2 := zx_WvOf (y := zy_Ref_placeOf) zw_1264 zw_1266 (zx_Gsel 38 (n := 40) (by decide +kernel)) zw_12 zw_1267 (by decide +kernel) rfl rfl
theorem zc_Ref_139 : zx_Ws "BeanLoomModel" 139 zy_Ref_isAmount zm_Ref_isAmount 1 := zx_WsOf (y := zy_Ref_isAmount) zw_1280 zw_1281 zw_12 zw_1282 (by decide +kernel) rfl rfl
theorem zc_Ref_142 : zx_Ws "BeanLoomModel" 142 zy_Ref_kindOf zm_Ref_kindOf 1 := zx_WsOf (y := zy_Ref_kindOf) zw_1283 zw_1284 zw_12 zw_1285 (by decide +kernel) rfl rfl
theorem zc_Ref_148 : zx_Wv "BeanLoomModel" 148 "BeanLoomModel" zy_Ref_latest zm_Ref_latest 2 := zx_WvOf (y := zy_Ref_latest) zw_1306 zw_1308 (zx_Gsel 42 (n := 40) (by decide +kernel)) zw_12 zw_1309 (by decide +kernel) rfl rfl
theorem zc_Ref_151 : zx_Wv "BeanLoomModel" 151 "BeanLoomModel" zy_Ref_firstRule zm_Ref_firstRule 3 := zx_WvOf (y := zy_Ref_firstRule) zw_1328 zw_1330 (zx_Gsel 46 (n := 40) (by decide +kernel)) zw_12 zw_1331 (by decide +kernel) rfl rfl
theorem zc_Ref_155 : zx_Wv "BeanLoomModel" 155 "BeanLoomModel" zy_Ref_inverseOf zm_Ref_inverseOf 1 := zx_WvOf (y := zy_Ref_inverseOf) zw_1359 zw_1361 (zx_Gsel 53 (n := 40) (by decide +kernel)) zw_12 zw_1362 (by decide +kernel) rfl rfl
theorem zc_Ref_158 : zx_Ws "BeanLoomModel" 158 zy_Ref_nameOf zm_Ref_nameOf 2 := zx_WsOf (y := zy_Ref_nameOf) zw_1318 zw_1319 zw_12 zw_1320 (by decide +kernel) rfl rfl
theorem zc_Ref_162 : zx_Wv "BeanLoomModel" 162 "BeanLoomModel" zy_Ref_byName zm_Ref_byName 2 := zx_WvOf (y := zy_Ref_byName) zw_1363 zw_1365 (zx_Gsel 54 (n := 40) (by decide +kernel)) zw_12 zw_1366 (by decide +kernel) rfl rfl
theorem zc_Ref_180 : zx_Wv "BeanLoomModel" 180 "BeanLoomModel" zy_Ref_isNamed zm_Ref_isNamed 1 := zx_WvOf (y := zy_Ref_isNamed) zw_1344 zw_1346 (zx_Gsel 50 (n := 40) (by decide +kernel)) zw_12 zw_1347 (by decide +kernel) rfl rfl
theorem zc_Ref_177 : zx_Wv "BeanLoomModel" 177 "BeanLoomModel" zy_Ref_converts zm_Ref_converts 2 := zx_WvOf (y := zy_Ref_converts) zw_1348 zw_1350 (zx_Gsel 51 (n := 40) (by decide +kernel)) zw_12 zw_1351 (by decide +kernel) rfl rfl
theorem zc_Ref_173 : zx_Wv "BeanLoomModel" 173 "BeanLoomModel" zy_Ref_functionOf zm_Ref_functionOf 3 := zx_WvOf (y := zy_Ref_functionOf) zw_1340 zw_1342 (zx_Gsel 49 (n := 40) (by decide +kernel)) zw_12 zw_1343 (by decide +kernel) rfl rfl
theorem zc_Ref_170 : zx_Wv "BeanLoomModel" 170 "BeanLoomModel" zy_Ref_one zm_Ref_one 2 := zx_WvOf (y := zy_Ref_one) zw_1336 zw_1338 (zx_Gsel 48 (n := 40) (by decide +kernel)) zw_12 zw_1339 (by decide +kernel) rfl rfl
theorem zc_Ref_186 : zx_Wv "BeanLoomModel" 186 "BeanLoomModel" zy_Ref_endOf zm_Ref_endOf 2 := zx_WvOf (y := zy_Ref_endOf) zw_1314 zw_1316 (zx_Gsel 44 (n := 40) (by decide +kernel)) zw_12 zw_1317 (by decide +kernel) rfl rfl
theorem zc_Ref_192 : zx_Wv "BeanLoomModel" 192 "BeanLoomModel" zy_Ref_how zm_Ref_how 2 := zx_WvOf (y := zy_Ref_how) zw_1332 zw_1334 (zx_Gsel 47 (n := 40) (by decide +kernel)) zw_12 zw_1335 (by decide +kernel) rfl rfl
theorem zc_Ref_195 : zx_Ws "BeanLoomModel" 195 zy_Ref_wrongWay zm_Ref_wrongWay 1 := zx_WsOf (y := zy_Ref_wrongWay) zw_1352 zw_1353 zw_12 zw_1354 (by decide +kernel) rfl rfl
theorem zc_Ref_198 : zx_Wv "BeanLoomModel" 198 "BeanLoomModel" zy_Ref_pathOf zm_Ref_pathOf 2 := zx_WvOf (y := zy_Ref_pathOf) zw_1355 zw_1357 (zx_Gsel 52 (n := 40) (by decide +kernel)) zw_12 zw_1358 (by decide +kernel) rfl rfl
theorem zc_Ref_201 : zx_Wv "BeanLoomModel" 201 "BeanLoomModel" zy_Ref_isWrongInverse zm_Ref_isWrongInverse 1 := zx_WvOf (y := zy_Ref_isWrongInverse) zw_1302 zw_1304 (zx_Gsel 41 (n := 40) (by decide +kernel)) zw_12 zw_1305 (by decide +kernel) rfl rfl
theorem zc_Ref_204 : zx_Wv "BeanLoomModel" 204 "BeanLoomModel" zy_Ref_faulty zm_Ref_faulty 3 := zx_WvOf (y := zy_Ref_faulty) zw_1294 zw_1296 (zx_Gsel 39 (n := 40) (by decide +kernel)) zw_12 zw_1297 (by decide +kernel) rfl rfl
theorem zc_Ref_208 : zx_Wv "BeanLoomModel" 208 "BeanLoomModel" zy_Ref_wrong zm_Ref_wrong 2 := zx_WvOf (y := zy_Ref_wrong) zw_1310 zw_1312 (zx_Gsel 43 (n := 40) (by decide +kernel)) zw_12 zw_1313 (by decide +kernel) rfl rfl
theorem zc_Ref_211 : zx_Wv "BeanLoomModel" 211 "BeanLoomModel" zy_Ref_wrongProperty zm_Ref_wrongProperty 2 := zx_WvOf (y := zy_Ref_wrongProperty) zw_1324 zw_1326 (zx_Gsel 45 (n := 40) (by decide +kernel)) zw_12 zw_1327 (by decide +kernel) rfl rfl
theorem zc_Ref_214 : zx_Wv "BeanLoomModel" 214 "BeanLoomModel" zy_Ref_constantOf zm_Ref_constantOf 2 := zx_WvOf (y := zy_Ref_constantOf) zw_1367 zw_1369 (zx_Gsel 55 (n := 40) (by decide +kernel)) zw_12 zw_1370 (by decide +kernel) rfl rfl
theorem zc_Ref_217 : zx_Wv "BeanLoomModel" 217 "BeanLoomModel" zy_Ref_isFaulty zm_Ref_isFaulty 1 := zx_WvOf (y := zy_Ref_isFaulty) zw_1298 zw_1300 (zx_Gsel 40 (n := 40) (by decide +kernel)) zw_12 zw_1301 (by decide +kernel) rfl rfl
theorem zc_Ref_224 : zx_Ws "BeanLoomModel" 224 zy_Ref_cast zm_Ref_cast 2 := zx_WsOf (y := zy_Ref_cast) zw_1385 zw_1386 zw_12 zw_1387 (by decide +kernel) rfl rfl
theorem zc_Ref_231 : zx_Wv "BeanLoomModel" 231 "BeanLoomModel" zy_Ref_empty zm_Ref_empty 1 := zx_WvOf (y := zy_Ref_empty) zw_1392 zw_1394 (zx_Gsel 58 (n := 40) (by decide +kernel)) zw_12 zw_1395 (by decide +kernel) rfl rfl
theorem zc_Ref_235 : zx_Wv "BeanLoomModel" 235 "BeanLoomModel" zy_Ref_isValue zm_Ref_isValue 2 := zx_WvOf (y := zy_Ref_isValue) zw_1379 zw_1381 (zx_Gsel 56 (n := 40) (by decide +kernel)) zw_12 zw_1382 (by decide +kernel) rfl rfl
theorem zc_Ref_239 : zx_Wv "BeanLoomModel" 239 "BeanLoomModel" zy_Ref_object zm_Ref_object 1 := zx_WvOf (y := zy_Ref_object) zw_1388 zw_1390 (zx_Gsel 57 (n := 40) (by decide +kernel)) zw_12 zw_1391 (by decide +kernel) rfl rfl
theorem zc_Ref_242 : zx_Wv "BeanLoomModel" 242 "BeanLoomModel" zy_Ref_isObject zm_Ref_isObject 1 := zx_WvOf (y := zy_Ref_isObject) zw_1400 zw_1402 (zx_Gsel 59 (n := 40) (by decide +kernel)) zw_12 zw_1403 (by decide +kernel) rfl rfl
theorem zc_Ref_255 : zx_Ws "BeanLoomModel" 255 zy_Ref_doubled zm_Ref_doubled 1 := zx_WsOf (y := zy_Ref_doubled) zw_1439 zw_1440 zw_12 zw_1441 (by decide +kernel) rfl rfl
theorem zc_Ref_259 : zx_Ws "BeanLoomModel" 259 zy_Ref_whole zm_Ref_whole 3 := zx_WsOf (y := zy_Ref_whole) zw_1446 zw_1447 zw_12 zw_1448 (by decide +kernel) rfl rfl
theorem zc_Ref_270 : zx_Wv "BeanLoomModel" 270 "BeanLoomModel" zy_Ref_write zm_Ref_write 1 := zx_WvOf (y := zy_Ref_write) zw_1456 zw_1458 (zx_Gsel 68 (n := 40) (by decide +kernel)) zw_12 zw_1459 (by decide +kernel) rfl rfl
theorem zc_Ref_282 : zx_Wv "BeanLoomModel" 282 "BeanLoomModel" zy_Ref_writeNumber zm_Ref_writeNumber 1 := zx_WvOf (y := zy_Ref_writeNumber) zw_1460 zw_1462 (zx_Gsel 69 (n := 40) (by decide +kernel)) zw_12 zw_1463 (by decide +kernel) rfl rfl
theorem zc_Ref_290 : zx_Wv "BeanLoomModel" 290 "BeanLoomModel" zy_Ref_newText zm_Ref_newText 0 := zx_WvOf (y := zy_Ref_newText) zw_1472 zw_1474 (zx_Gsel 71 (n := 40) (by decide +kernel)) zw_12 zw_1475 (by decide +kernel) rfl rfl
theorem zc_Ref_286 : zx_Wv "BeanLoomModel" 286 "BeanLoomModel" zy_Ref_writeFour zm_Ref_writeFour 4 := zx_WvOf (y := zy_Ref_writeFour) zw_1468 zw_1470 (zx_Gsel 70 (n := 40) (by decide +kernel)) zw_12 zw_1471 (by decide +kernel) rfl rfl
theorem zc_Ref_294 : zx_Wv "BeanLoomModel" 294 "BeanLoomModel" zy_Ref_isTrue zm_Ref_isTrue 1 := zx_WvOf (y := zy_Ref_isTrue) zw_1480 zw_1482 (zx_Gsel 73 (n := 40) (by decide +kernel)) zw_12 zw_1483 (by decide +kernel) rfl rfl
theorem zc_Ref_297 : zx_Wv "BeanLoomModel" 297 "BeanLoomModel" zy_Ref_numberOf zm_Ref_numberOf 2 := zx_WvOf (y := zy_Ref_numberOf) zw_1484 zw_1486 (zx_Gsel 74 (n := 40) (by decide +kernel)) zw_12 zw_1487 (by decide +kernel) rfl rfl
theorem zc_Ref_300 : zx_Wv "BeanLoomModel" 300 "BeanLoomModel" zy_Ref_plain zm_Ref_plain 2 := zx_WvOf (y := zy_Ref_plain) zw_1432 zw_1434 (zx_Gsel 66 (n := 40) (by decide +kernel)) zw_12 zw_1435 (by decide +kernel) rfl rfl
theorem zc_Ref_304 : zx_Ws "BeanLoomModel" 304 zy_Ref_castFrom zm_Ref_castFrom 3 := zx_WsOf (y := zy_Ref_castFrom) zw_1436 zw_1437 zw_12 zw_1438 (by decide +kernel) rfl rfl
theorem zc_Ref_308 : zx_Wv "BeanLoomModel" 308 "BeanLoomModel" zy_Ref_toText zm_Ref_toText 2 := zx_WvOf (y := zy_Ref_toText) zw_1452 zw_1454 (zx_Gsel 67 (n := 40) (by decide +kernel)) zw_12 zw_1455 (by decide +kernel) rfl rfl
theorem zc_Ref_311 : zx_Wv "BeanLoomModel" 311 "BeanLoomModel" zy_Ref_fromText zm_Ref_fromText 2 := zx_WvOf (y := zy_Ref_fromText) zw_1476 zw_1478 (zx_Gsel 72 (n := 40) (by decide +kernel)) zw_12 zw_1479 (by decide +kernel) rfl rfl
theorem zc_Ref_314 : zx_Wv "BeanLoomModel" 314 "BeanLoomModel" zy_Ref_constant zm_Ref_constant 2 := zx_WvOf (y := zy_Ref_constant) zw_1488 zw_1490 (zx_Gsel 75 (n := 40) (by decide +kernel)) zw_12 zw_1491 (by decide +kernel) rfl rfl
theorem zc_Ref_317 : zx_Wv "BeanLoomModel" 317 "BeanLoomModel" zy_Ref_boxed zm_Ref_boxed 2 := zx_WvOf (y := zy_Ref_boxed) zw_1496 zw_1498 (zx_Gsel 77 (n := 40) (by decide +kernel)) zw_12 zw_1499 (by decide +kernel) rfl rfl
theorem zc_Ref_326 : zx_Wv "BeanLoomModel" 326 "BeanLoomModel" zy_Ref_wait zm_Ref_wait 3 := zx_WvOf (y := zy_Ref_wait) zw_1412 zw_1414 (zx_Gsel 61 (n := 40) (by decide +kernel)) zw_12 zw_1415 (by decide +kernel) rfl rfl
theorem zc_Ref_320 : zx_Wv "BeanLoomModel" 320 "BeanLoomModel" zy_Ref_mapped zm_Ref_mapped 2 := zx_WvOf (y := zy_Ref_mapped) zw_1408 zw_1410 (zx_Gsel 60 (n := 40) (by decide +kernel)) zw_12 zw_1411 (by decide +kernel) rfl rfl
theorem zc_Ref_323 : zx_Wv "BeanLoomModel" 323 "BeanLoomModel" zy_Ref_isNull zm_Ref_isNull 2 := zx_WvOf (y := zy_Ref_isNull) zw_1424 zw_1426 (zx_Gsel 64 (n := 40) (by decide +kernel)) zw_12 zw_1427 (by decide +kernel) rfl rfl
theorem zc_Ref_330 : zx_Wv "BeanLoomModel" 330 "BeanLoomModel" zy_Ref_converted zm_Ref_converted 3 := zx_WvOf (y := zy_Ref_converted) zw_1428 zw_1430 (zx_Gsel 65 (n := 40) (by decide +kernel)) zw_12 zw_1431 (by decide +kernel) rfl rfl
theorem zc_Ref_334 : zx_Wv "BeanLoomModel" 334 "BeanLoomModel" zy_Ref_applied zm_Ref_applied 2 := zx_WvOf (y := zy_Ref_applied) zw_1492 zw_1494 (zx_Gsel 76 (n := 40) (by decide +kernel)) zw_12 zw_1495 (by decide +kernel) rfl rfl
theorem zc_Ref_343 : zx_Wv "BeanLoomModel" 343 "BeanLoomModel" zy_Ref_become zm_Ref_become 3 := zx_WvOf (y := zy_Ref_become) zw_1420 zw_1422 (zx_Gsel 63 (n := 40) (by decide +kernel)) zw_12 zw_1423 (by decide +kernel) rfl rfl
theorem zc_Ref_350 : zx_Wv "BeanLoomModel" 350 "BeanLoomModel" zy_Ref_ends zm_Ref_ends 5 := zx_WvOf (y := zy_Ref_ends) zw_1508 zw_1510 (zx_Gsel 80 (n := 40) (by decide +kernel)) zw_12 zw_1511 (by decide +kernel) rfl rfl
theorem zc_Ref_346 : zx_Wv "BeanLoomModel" 346 "BeanLoomModel" zy_Ref_valueOf zm_Ref_valueOf 4 := zx_WvOf (y := zy_Ref_valueOf) zw_1504 zw_1506 (zx_Gsel 79 (n := 40) (by decide +kernel)) zw_12 zw_1507 (by decide +kernel) rfl rfl
theorem zc_Ref_354 : zx_Wv "BeanLoomModel" 354 "BeanLoomModel" zy_Ref_fillList zm_Ref_fillList 0 := zx_WvOf (y := zy_Ref_fillList) zw_1416 zw_1418 (zx_Gsel 62 (n := 40) (by decide +kernel)) zw_12 zw_1419 (by decide +kernel) rfl rfl
theorem zc_Ref_357 : zx_Wv "BeanLoomModel" 357 "BeanLoomModel" zy_Ref_fillBean zm_Ref_fillBean 0 := zx_WvOf (y := zy_Ref_fillBean) zw_1500 zw_1502 (zx_Gsel 78 (n := 40) (by decide +kernel)) zw_12 zw_1503 (by decide +kernel) rfl rfl
theorem zc_Basics_24 : zx_Ws "BeanLoom$Basics" 24 zy_Basics_wholeOf zm_Basics_wholeOf 1 := zx_WsOf (y := zy_Basics_wholeOf) zw_905 zw_906 zw_18 zw_907 (by decide +kernel) rfl rfl
theorem zc_Basics_39 : zx_Ws "BeanLoom$Basics" 39 zy_Basics_nearestDouble zm_Basics_nearestDouble 1 := zx_WsOf (y := zy_Basics_nearestDouble) zw_918 zw_919 zw_18 zw_920 (by decide +kernel) rfl rfl
theorem zc_Converter_88 : zx_Wv "BeanLoom$Converter" 88 "BeanLoom$Store" zy_Store_create zm_Store_create 1 := zx_WvOf (y := zy_Store_create) zw_948 zw_810 zw_811 zw_7 zw_812 (by decide +kernel) rfl rfl
theorem zc_Converter_103 : zx_Wv "BeanLoom$Converter" 103 "BeanLoom$Store" zy_Store_append zm_Store_append 2 := zx_WvOf (y := zy_Store_append) zw_949 zw_444 zw_445 zw_7 zw_446 (by decide +kernel) rfl rfl
theorem zc_Converter_109 : zx_Wv "BeanLoom$Converter" 109 "BeanLoom$Store" zy_Store_length zm_Store_length 1 := zx_WvOf (y := zy_Store_length) zw_925 zw_436 zw_437 zw_7 zw_438 (by decide +kernel) rfl rfl
theorem zc_Converter_153 : zx_Wv "BeanLoom$Converter" 153 "BeanLoom$Store" zy_Store_set zm_Store_set 3 := zx_WvOf (y := zy_Store_set) zw_960 zw_428 zw_429 zw_7 zw_430 (by decide +kernel) rfl rfl
theorem zc_Converter_97 : zx_Ws "BeanLoom$Converter" 97 zy_Basics_isPrimitive zm_Basics_isPrimitive 1 := zx_WsOf (y := zy_Basics_isPrimitive) zw_900 zw_403 zw_18 zw_404 (by decide +kernel) rfl rfl
theorem zc_Converter_100 : zx_Wv "BeanLoom$Converter" 100 "BeanLoom$Store" zy_Store_cell zm_Store_cell 2 := zx_WvOf (y := zy_Store_cell) zw_901 zw_876 zw_877 zw_7 zw_878 (by decide +kernel) rfl rfl
theorem zc_Converter_43 : zx_Wv "BeanLoom$Converter" 43 "BeanLoom$Converter" zy_Converter_writeNumber zm_Converter_writeNumber 3 := zx_WvOf (y := zy_Converter_writeNumber) zw_956 zw_958 (zx_Gsel 27 (n := 3) (by decide +kernel)) zw_11 zw_959 (by decide +kernel) rfl rfl
theorem zc_Converter_140 : zx_Wv "BeanLoom$Converter" 140 "BeanLoom$Converter" zy_Converter_writeWord zm_Converter_writeWord 2 := zx_WvOf (y := zy_Converter_writeWord) zw_967 zw_969 (zx_Gsel 29 (n := 3) (by decide +kernel)) zw_11 zw_970 (by decide +kernel) rfl rfl
theorem zc_Converter_157 : zx_Wv "BeanLoom$Converter" 157 "BeanLoom$Types" zy_Types_memberCount zm_Types_memberCount 1 := zx_WvOf (y := zy_Types_memberCount) zw_1023 zw_420 zw_421 zw_2 zw_422 (by decide +kernel) rfl rfl
theorem zc_Converter_39 : zx_Wv "BeanLoom$Converter" 39 "BeanLoom$Types" zy_Types_nameAt zm_Types_nameAt 2 := zx_WvOf (y := zy_Types_nameAt) zw_955 zw_721 zw_722 zw_2 zw_723 (by decide +kernel) rfl rfl
theorem zc_Converter_160 : zx_Wv "BeanLoom$Converter" 160 "BeanLoom$Converter" zy_Converter_isNameText zm_Converter_isNameText 2 := zx_WvOf (y := zy_Converter_isNameText) zw_1024 zw_1026 (zx_Gsel 31 (n := 3) (by decide +kernel)) zw_11 zw_1027 (by decide +kernel) rfl rfl
theorem zc_Converter_133 : zx_Ws "BeanLoom$Converter" 133 zy_Basics_holds zm_Basics_holds 2 := zx_WsOf (y := zy_Basics_holds) zw_939 zw_406 zw_18 zw_407 (by decide +kernel) rfl rfl
theorem zc_Converter_47 : zx_Ws "BeanLoom$Converter" 47 zy_Basics_kindOf zm_Basics_kindOf 1 := zx_WsOf (y := zy_Basics_kindOf) zw_891 zw_745 zw_18 zw_746 (by decide +kernel) rfl rfl
theorem zc_Converter_50 : zx_Wv "BeanLoom$Converter" 50 "BeanLoom$Converter" zy_Converter_unboxed zm_Converter_unboxed 2 := zx_WvOf (y := zy_Converter_unboxed) zw_896 zw_898 (zx_Gsel 23 (n := 3) (by decide +kernel)) zw_11 zw_899 (by decide +kernel) rfl rfl
theorem zc_Converter_84 : zx_Ws "BeanLoom$Converter" 84 zy_Basics_cast zm_Basics_cast 3 := zx_WsOf (y := zy_Basics_cast) zw_902 zw_903 zw_18 zw_904 (by decide +kernel) rfl rfl
theorem zc_Converter_106 : zx_Wv "BeanLoom$Converter" 106 "BeanLoom$Converter" zy_Converter_isTrue zm_Converter_isTrue 1 := zx_WvOf (y := zy_Converter_isTrue) zw_921 zw_923 (zx_Gsel 24 (n := 3) (by decide +kernel)) zw_11 zw_924 (by decide +kernel) rfl rfl
theorem zc_Converter_112 : zx_Wv "BeanLoom$Converter" 112 "BeanLoom$Converter" zy_Converter_number zm_Converter_number 2 := zx_WvOf (y := zy_Converter_number) zw_930 zw_932 (zx_Gsel 25 (n := 3) (by decide +kernel)) zw_11 zw_933 (by decide +kernel) rfl rfl
theorem zc_Converter_29 : zx_Wv "BeanLoom$Converter" 29 "BeanLoom$Converter" zy_Converter_created zm_Converter_created 1 := zx_WvOf (y := zy_Converter_created) zw_944 zw_945 zw_946 zw_11 zw_947 (by decide +kernel) rfl rfl
theorem zc_Converter_19 : zx_Ws "BeanLoom$Converter" 19 zy_Basics_isNull zm_Basics_isNull 2 := zx_WsOf (y := zy_Basics_isNull) zw_887 zw_888 zw_18 zw_889 (by decide +kernel) rfl rfl
theorem zc_Converter_25 : zx_Ws "BeanLoom$Converter" 25 zy_Basics_emptyOf zm_Basics_emptyOf 1 := zx_WsOf (y := zy_Basics_emptyOf) zw_890 zw_815 zw_18 zw_816 (by decide +kernel) rfl rfl
theorem zc_Converter_33 : zx_Wv "BeanLoom$Converter" 33 "BeanLoom$Types" zy_Types_isEnum zm_Types_isEnum 1 := zx_WvOf (y := zy_Types_isEnum) zw_954 zw_416 zw_417 zw_2 zw_418 (by decide +kernel) rfl rfl
theorem zc_Converter_54 : zx_Wv "BeanLoom$Converter" 54 "BeanLoom$Converter" zy_Converter_writePlain zm_Converter_writePlain 3 := zx_WvOf (y := zy_Converter_writePlain) zw_961 zw_963 (zx_Gsel 28 (n := 3) (by decide +kernel)) zw_11 zw_964 (by decide +kernel) rfl rfl
theorem zc_Converter_58 : zx_Wv "BeanLoom$Converter" 58 "BeanLoom$Converter" zy_Converter_constantOf zm_Converter_constantOf 2 := zx_WvOf (y := zy_Converter_constantOf) zw_1019 zw_1021 (zx_Gsel 30 (n := 3) (by decide +kernel)) zw_11 zw_1022 (by decide +kernel) rfl rfl
theorem zc_Converter_62 : zx_Wv "BeanLoom$Converter" 62 "BeanLoom$Converter" zy_Converter_plain zm_Converter_plain 3 := zx_WvOf (y := zy_Converter_plain) zw_892 zw_894 (zx_Gsel 22 (n := 3) (by decide +kernel)) zw_11 zw_895 (by decide +kernel) rfl rfl
theorem zc_Converter_66 : zx_Wv "BeanLoom$Converter" 66 "BeanLoom$Converter" zy_Converter_boxed zm_Converter_boxed 2 := zx_WvOf (y := zy_Converter_boxed) zw_940 zw_942 (zx_Gsel 26 (n := 3) (by decide +kernel)) zw_11 zw_943 (by decide +kernel) rfl rfl
theorem zc_Store_36 : zx_Wv "BeanLoom$Store" 36 "BeanLoom$Store" zy_Store_create zm_Store_create 1 := zx_WvOf (y := zy_Store_create) zw_809 zw_810 zw_811 zw_7 zw_812 (by decide +kernel) rfl rfl
theorem zc_Store_45 : zx_Wv "BeanLoom$Store" 45 "BeanLoom$Types" zy_Types_typeAt zm_Types_typeAt 2 := zx_WvOf (y := zy_Types_typeAt) zw_813 zw_395 zw_396 zw_2 zw_397 (by decide +kernel) rfl rfl
theorem zc_Store_49 : zx_Ws "BeanLoom$Store" 49 zy_Basics_emptyOf zm_Basics_emptyOf 1 := zx_WsOf (y := zy_Basics_emptyOf) zw_814 zw_815 zw_18 zw_816 (by decide +kernel) rfl rfl
theorem zc_Store_32 : zx_Wv "BeanLoom$Store" 32 "BeanLoom$Store" zy_Store_append zm_Store_append 2 := zx_WvOf (y := zy_Store_append) zw_818 zw_444 zw_445 zw_7 zw_446 (by decide +kernel) rfl rfl
theorem zc_Mapper_215 : zx_Wv "BeanLoom$Mapper" 215 "BeanLoom$Store" zy_Store_createBean zm_Store_createBean 1 := zx_WvOf (y := zy_Store_createBean) zw_854 zw_806 zw_807 zw_7 zw_808 (by decide +kernel) rfl rfl
theorem zc_Mapper_186 : zx_Wv "BeanLoom$Mapper" 186 "BeanLoom$Mapper" zy_Mapper_begin zm_Mapper_begin 3 := zx_WvOf (y := zy_Mapper_begin) zw_855 zw_857 (zx_Gsel 18 (n := 11) (by decide +kernel)) zw_10 zw_858 (by decide +kernel) rfl rfl
theorem zc_Mapper_189 : zx_Wv "BeanLoom$Mapper" 189 "BeanLoom$Model" zy_Model_hasMethod zm_Model_hasMethod 1 := zx_WvOf (y := zy_Model_hasMethod) zw_846 zw_648 zw_649 zw_3 zw_650 (by decide +kernel) rfl rfl
theorem zc_Mapper_193 : zx_Wv "BeanLoom$Mapper" 193 "BeanLoom$Types" zy_Types_isBean zm_Types_isBean 1 := zx_WvOf (y := zy_Types_isBean) zw_848 zw_387 zw_388 zw_2 zw_389 (by decide +kernel) rfl rfl
theorem zc_Mapper_197 : zx_Wv "BeanLoom$Mapper" 197 "BeanLoom$Mapper" zy_Mapper_beanOf zm_Mapper_beanOf 3 := zx_WvOf (y := zy_Mapper_beanOf) zw_849 zw_851 (zx_Gsel 17 (n := 11) (by decide +kernel)) zw_10 zw_852 (by decide +kernel) rfl rfl
theorem zc_Mapper_201 : zx_Wv "BeanLoom$Mapper" 201 "BeanLoom$Mapper" zy_Mapper_constantOf zm_Mapper_constantOf 2 := zx_WvOf (y := zy_Mapper_constantOf) zw_859 zw_861 (zx_Gsel 19 (n := 11) (by decide +kernel)) zw_10 zw_862 (by decide +kernel) rfl rfl
theorem zc_Ways_23 : zx_Wv "BeanLoom$Ways" 23 "BeanLoom$Types" zy_Types_exists zm_Types_exists 1 := zx_WvOf (y := zy_Types_exists) zw_754 zw_587 zw_588 zw_2 zw_589 (by decide +kernel) rfl rfl
theorem zc_Mapper_183 : zx_Wv "BeanLoom$Mapper" 183 "BeanLoom$Converter" zy_Converter_created zm_Converter_created 1 := zx_WvOf (y := zy_Converter_created) zw_1034 zw_945 zw_946 zw_11 zw_947 (by decide +kernel) rfl rfl
theorem zc_Mapper_172 : zx_Wv "BeanLoom$Mapper" 172 "BeanLoom$Converter" zy_Converter_byFunction zm_Converter_byFunction 3 := zx_WvOf (y := zy_Converter_byFunction) zw_883 zw_884 zw_885 zw_11 zw_886 (by decide +kernel) rfl rfl
theorem zc_Mapper_66 : zx_Wv "BeanLoom$Mapper" 66 "BeanLoom$Mapper" zy_Mapper_byMethod zm_Mapper_byMethod 2 := zx_WvOf (y := zy_Mapper_byMethod) zw_842 zw_844 (zx_Gsel 16 (n := 11) (by decide +kernel)) zw_10 zw_845 (by decide +kernel) rfl rfl
theorem zc_Mapper_176 : zx_Wv "BeanLoom$Mapper" 176 "BeanLoom$Converter" zy_Converter_byTable zm_Converter_byTable 3 := zx_WvOf (y := zy_Converter_byTable) zw_950 zw_951 zw_952 zw_11 zw_953 (by decide +kernel) rfl rfl
theorem zc_Mapper_180 : zx_Wv "BeanLoom$Mapper" 180 "BeanLoom$Mapper" zy_Mapper_beginList zm_Mapper_beginList 2 := zx_WvOf (y := zy_Mapper_beginList) zw_1030 zw_1032 (zx_Gsel 32 (n := 11) (by decide +kernel)) zw_10 zw_1033 (by decide +kernel) rfl rfl
theorem zc_Mapper_89 : zx_Wv "BeanLoom$Mapper" 89 "BeanLoom$Store" zy_Store_typeOf zm_Store_typeOf 1 := zx_WvOf (y := zy_Store_typeOf) zw_869 zw_383 zw_384 zw_7 zw_385 (by decide +kernel) rfl rfl
theorem zc_Mapper_92 : zx_Wv "BeanLoom$Mapper" 92 "BeanLoom$Types" zy_Types_element zm_Types_element 1 := zx_WvOf (y := zy_Types_element) zw_870 zw_440 zw_441 zw_2 zw_442 (by decide +kernel) rfl rfl
theorem zc_Mapper_97 : zx_Wv "BeanLoom$Mapper" 97 "BeanLoom$Ways" zy_Ways_known zm_Ways_known 2 := zx_WvOf (y := zy_Ways_known) zw_871 zw_872 zw_873 zw_8 zw_874 (by decide +kernel) rfl rfl
theorem zc_Mapper_103 : zx_Wv "BeanLoom$Mapper" 103 "BeanLoom$Store" zy_Store_cell zm_Store_cell 2 := zx_WvOf (y := zy_Store_cell) zw_875 zw_876 zw_877 zw_7 zw_878 (by decide +kernel) rfl rfl
theorem zc_Mapper_107 : zx_Wv "BeanLoom$Mapper" 107 "BeanLoom$Mapper" zy_Mapper_become zm_Mapper_become 4 := zx_WvOf (y := zy_Mapper_become) zw_879 zw_881 (zx_Gsel 21 (n := 11) (by decide +kernel)) zw_10 zw_882 (by decide +kernel) rfl rfl
theorem zc_Mapper_111 : zx_Wv "BeanLoom$Mapper" 111 "BeanLoom$Store" zy_Store_append zm_Store_append 2 := zx_WvOf (y := zy_Store_append) zw_1035 zw_444 zw_445 zw_7 zw_446 (by decide +kernel) rfl rfl
theorem zc_Mapper_124 : zx_Wv "BeanLoom$Mapper" 124 "BeanLoom$Types" zy_Types_typeAt zm_Types_typeAt 2 := zx_WvOf (y := zy_Types_typeAt) zw_1040 zw_395 zw_396 zw_2 zw_397 (by decide +kernel) rfl rfl
theorem zc_Mapper_139 : zx_Wv "BeanLoom$Mapper" 139 "BeanLoom$Store" zy_Store_set zm_Store_set 3 := zx_WvOf (y := zy_Store_set) zw_1041 zw_428 zw_429 zw_7 zw_430 (by decide +kernel) rfl rfl
theorem zc_Mapper_157 : zx_Ws "BeanLoom$Mapper" 157 zy_Basics_isNull zm_Basics_isNull 2 := zx_WsOf (y := zy_Basics_isNull) zw_1042 zw_888 zw_18 zw_889 (by decide +kernel) rfl rfl
theorem zc_Mapper_60 : zx_Ws "BeanLoom$Mapper" 60 zy_Arrays_fill zm_Arrays_fill 2 := zx_WsOf (y := zy_Arrays_fill) zw_839 zw_840 zw_19 zw_841 (by decide +kernel) rfl rfl
theorem zc_Mapper_70 : zx_Wv "BeanLoom$Mapper" 70 "BeanLoom$Store" zy_Store_length zm_Store_length 1 := zx_WvOf (y := zy_Store_length) zw_864 zw_436 zw_437 zw_7 zw_438 (by decide +kernel) rfl rfl
theorem zc_Mapper_76 : zx_Wv "BeanLoom$Mapper" 76 "BeanLoom$Mapper" zy_Mapper_fillList zm_Mapper_fillList 3 := zx_WvOf (y := zy_Mapper_fillList) zw_865 zw_867 (zx_Gsel 20 (n := 11) (by decide +kernel)) zw_10 zw_868 (by decide +kernel) rfl rfl
theorem zc_Mapper_85 : zx_Wv "BeanLoom$Mapper" 85 "BeanLoom$Mapper" zy_Mapper_fillProperty zm_Mapper_fillProperty 4 := zx_WvOf (y := zy_Mapper_fillProperty) zw_1036 zw_1038 (zx_Gsel 33 (n := 11) (by decide +kernel)) zw_10 zw_1039 (by decide +kernel) rfl rfl
theorem zc_Model_61 : zx_Wv "BeanLoom$Model" 61 "BeanLoom$Model" zy_Model_hasFunction zm_Model_hasFunction 1 := zx_WvOf (y := zy_Model_hasFunction) zw_673 zw_674 zw_675 zw_3 zw_676 (by decide +kernel) rfl rfl
theorem zc_Plan_19 : zx_Ws "BeanLoom$Plan" 19 zy_Types_nameIn zm_Types_nameIn 2 := zx_WsOf (y := zy_Types_nameIn) zw_704 zw_472 zw_2 zw_473 (by decide +kernel) rfl rfl
theorem zc_Plan_25 : zx_Wv "BeanLoom$Plan" 25 "BeanLoom$Types" zy_Types_isBean zm_Types_isBean 1 := zx_WvOf (y := zy_Types_isBean) zw_705 zw_387 zw_388 zw_2 zw_389 (by decide +kernel) rfl rfl
theorem zc_Plan_29 : zx_Wv "BeanLoom$Plan" 29 "BeanLoom$Types" zy_Types_placeOf zm_Types_placeOf 2 := zx_WvOf (y := zy_Types_placeOf) zw_706 zw_591 zw_592 zw_2 zw_593 (by decide +kernel) rfl rfl
theorem zc_Plan_33 : zx_Wv "BeanLoom$Plan" 33 "BeanLoom$Types" zy_Types_typeAt zm_Types_typeAt 2 := zx_WvOf (y := zy_Types_typeAt) zw_707 zw_395 zw_396 zw_2 zw_397 (by decide +kernel) rfl rfl
theorem zc_Planner_73 : zx_Wv "BeanLoom$Planner" 73 "BeanLoom$Method" zy_Method_latest zm_Method_latest 1 := zx_WvOf (y := zy_Method_latest) zw_685 zw_686 zw_687 zw_5 zw_688 (by decide +kernel) rfl rfl
theorem zc_Planner_112 : zx_Wv "BeanLoom$Planner" 112 "BeanLoom$Model" zy_Model_hasMethod zm_Model_hasMethod 1 := zx_WvOf (y := zy_Model_hasMethod) zw_689 zw_648 zw_649 zw_3 zw_650 (by decide +kernel) rfl rfl
theorem zc_Planner_88 : zx_Wv "BeanLoom$Planner" 88 "BeanLoom$Types" zy_Types_isBean zm_Types_isBean 1 := zx_WvOf (y := zy_Types_isBean) zw_694 zw_387 zw_388 zw_2 zw_389 (by decide +kernel) rfl rfl
theorem zc_Planner_123 : zx_Wv "BeanLoom$Planner" 123 "BeanLoom$Method" zy_Method_repeats zm_Method_repeats 1 := zx_WvOf (y := zy_Method_repeats) zw_695 zw_696 zw_697 zw_5 zw_698 (by decide +kernel) rfl rfl
theorem zc_Planner_130 : zx_Wv "BeanLoom$Planner" 130 "BeanLoom$Plan" zy_Plan_trace zm_Plan_trace 3 := zx_WvOf (y := zy_Plan_trace) zw_700 zw_701 zw_702 zw_6 zw_703 (by decide +kernel) rfl rfl
theorem zc_Planner_134 : zx_Wv "BeanLoom$Planner" 134 "BeanLoom$Model" zy_Model_hasFunction zm_Model_hasFunction 1 := zx_WvOf (y := zy_Model_hasFunction) zw_708 zw_674 zw_675 zw_3 zw_676 (by decide +kernel) rfl rfl
theorem zc_Planner_126 : zx_Wv "BeanLoom$Planner" 126 "BeanLoom$Types" zy_Types_placeOf zm_Types_placeOf 2 := zx_WvOf (y := zy_Types_placeOf) zw_699 zw_591 zw_592 zw_2 zw_593 (by decide +kernel) rfl rfl
theorem zc_Ways_81 : zx_Ws "BeanLoom$Ways" 81 zy_Basics_isBasic zm_Basics_isBasic 1 := zx_WsOf (y := zy_Basics_isBasic) zw_741 zw_742 zw_18 zw_743 (by decide +kernel) rfl rfl
theorem zc_Ways_86 : zx_Ws "BeanLoom$Ways" 86 zy_Basics_kindOf zm_Basics_kindOf 1 := zx_WsOf (y := zy_Basics_kindOf) zw_744 zw_745 zw_18 zw_746 (by decide +kernel) rfl rfl
theorem zc_Ways_89 : zx_Ws "BeanLoom$Ways" 89 zy_Basics_isWhole zm_Basics_isWhole 1 := zx_WsOf (y := zy_Basics_isWhole) zw_747 zw_632 zw_18 zw_633 (by decide +kernel) rfl rfl
theorem zc_Ways_92 : zx_Wv "BeanLoom$Ways" 92 "BeanLoom$Types" zy_Types_isEnum zm_Types_isEnum 1 := zx_WvOf (y := zy_Types_isEnum) zw_748 zw_416 zw_417 zw_2 zw_418 (by decide +kernel) rfl rfl
theorem zc_Ways_37 : zx_Wv "BeanLoom$Ways" 37 "BeanLoom$Ways" zy_Ways_converts zm_Ways_converts 2 := zx_WvOf (y := zy_Ways_converts) zw_737 zw_739 (zx_Gsel 7 (n := 3) (by decide +kernel)) zw_8 zw_740 (by decide +kernel) rfl rfl
theorem zc_Ways_29 : zx_Wv "BeanLoom$Ways" 29 "BeanLoom$Ways" zy_Ways_functionWay zm_Ways_functionWay 3 := zx_WvOf (y := zy_Ways_functionWay) zw_733 zw_735 (zx_Gsel 6 (n := 3) (by decide +kernel)) zw_8 zw_736 (by decide +kernel) rfl rfl
theorem zc_Ways_33 : zx_Wv "BeanLoom$Ways" 33 "BeanLoom$Ways" zy_Ways_methodWay zm_Ways_methodWay 2 := zx_WvOf (y := zy_Ways_methodWay) zw_749 zw_751 (zx_Gsel 8 (n := 3) (by decide +kernel)) zw_8 zw_752 (by decide +kernel) rfl rfl
theorem zc_Ways_41 : zx_Wv "BeanLoom$Ways" 41 "BeanLoom$Types" zy_Types_isList zm_Types_isList 1 := zx_WvOf (y := zy_Types_isList) zw_753 zw_432 zw_433 zw_2 zw_434 (by decide +kernel) rfl rfl
theorem zc_Ways_44 : zx_Wv "BeanLoom$Ways" 44 "BeanLoom$Types" zy_Types_element zm_Types_element 1 := zx_WvOf (y := zy_Types_element) zw_755 zw_440 zw_441 zw_2 zw_442 (by decide +kernel) rfl rfl
theorem zc_Planner_152 : zx_Wv "BeanLoom$Planner" 152 "BeanLoom$Method" zy_Method_first zm_Method_first 2 := zx_WvOf (y := zy_Method_first) zw_725 zw_726 zw_727 zw_5 zw_728 (by decide +kernel) rfl rfl
theorem zc_Planner_145 : zx_Wv "BeanLoom$Planner" 145 "BeanLoom$Types" zy_Types_nameAt zm_Types_nameAt 2 := zx_WvOf (y := zy_Types_nameAt) zw_720 zw_721 zw_722 zw_2 zw_723 (by decide +kernel) rfl rfl
theorem zc_Planner_149 : zx_Wv "BeanLoom$Planner" 149 "BeanLoom$Types" zy_Types_typeAt zm_Types_typeAt 2 := zx_WvOf (y := zy_Types_typeAt) zw_724 zw_395 zw_396 zw_2 zw_397 (by decide +kernel) rfl rfl
theorem zc_Planner_162 : zx_Wv "BeanLoom$Planner" 162 "BeanLoom$Ways" zy_Ways_find zm_Ways_find 2 := zx_WvOf (y := zy_Ways_find) zw_729 zw_730 zw_731 zw_8 zw_732 (by decide +kernel) rfl rfl
theorem zc_Planner_170 : zx_Wv "BeanLoom$Planner" 170 "BeanLoom$Planner" zy_Planner_faultOf zm_Planner_faultOf 1 := zx_WvOf (y := zy_Planner_faultOf) zw_756 zw_758 (zx_Gsel 9 (n := 7) (by decide +kernel)) zw_9 zw_759 (by decide +kernel) rfl rfl
theorem zc_Planner_173 : zx_Wv "BeanLoom$Planner" 173 "BeanLoom$Planner" zy_Planner_pathTo zm_Planner_pathTo 2 := zx_WvOf (y := zy_Planner_pathTo) zw_760 zw_762 (zx_Gsel 10 (n := 7) (by decide +kernel)) zw_9 zw_763 (by decide +kernel) rfl rfl
theorem zc_Planner_180 : zx_Wv "BeanLoom$Planner" 180 "BeanLoom$Planner" zy_Planner_wayBy zm_Planner_wayBy 3 := zx_WvOf (y := zy_Planner_wayBy) zw_765 zw_767 (zx_Gsel 11 (n := 7) (by decide +kernel)) zw_9 zw_768 (by decide +kernel) rfl rfl
theorem zc_Planner_211 : zx_Wv "BeanLoom$Planner" 211 "BeanLoom$Planner" zy_Planner_inverseConstant zm_Planner_inverseConstant 2 := zx_WvOf (y := zy_Planner_inverseConstant) zw_777 zw_779 (zx_Gsel 14 (n := 7) (by decide +kernel)) zw_9 zw_780 (by decide +kernel) rfl rfl
theorem zc_Planner_203 : zx_Wv "BeanLoom$Planner" 203 "BeanLoom$Planner" zy_Planner_becoming zm_Planner_becoming 2 := zx_WvOf (y := zy_Planner_becoming) zw_773 zw_775 (zx_Gsel 13 (n := 7) (by decide +kernel)) zw_9 zw_776 (by decide +kernel) rfl rfl
theorem zc_Planner_56 : zx_Wv "BeanLoom$Planner" 56 "BeanLoom$Planner" zy_Planner_planInverse zm_Planner_planInverse 1 := zx_WvOf (y := zy_Planner_planInverse) zw_681 zw_683 (zx_Gsel 2 (n := 7) (by decide +kernel)) zw_9 zw_684 (by decide +kernel) rfl rfl
theorem zc_Planner_65 : zx_Wv "BeanLoom$Planner" 65 "BeanLoom$Planner" zy_Planner_ruleFault zm_Planner_ruleFault 2 := zx_WvOf (y := zy_Planner_ruleFault) zw_690 zw_692 (zx_Gsel 3 (n := 7) (by decide +kernel)) zw_9 zw_693 (by decide +kernel) rfl rfl
theorem zc_Planner_69 : zx_Wv "BeanLoom$Planner" 69 "BeanLoom$Planner" zy_Planner_note zm_Planner_note 2 := zx_WvOf (y := zy_Planner_note) zw_711 zw_713 (zx_Gsel 4 (n := 7) (by decide +kernel)) zw_9 zw_714 (by decide +kernel) rfl rfl
theorem zc_Planner_97 : zx_Wv "BeanLoom$Planner" 97 "BeanLoom$Types" zy_Types_memberCount zm_Types_memberCount 1 := zx_WvOf (y := zy_Types_memberCount) zw_715 zw_420 zw_421 zw_2 zw_422 (by decide +kernel) rfl rfl
theorem zc_Planner_100 : zx_Wv "BeanLoom$Planner" 100 "BeanLoom$Planner" zy_Planner_planProperty zm_Planner_planProperty 2 := zx_WvOf (y := zy_Planner_planProperty) zw_716 zw_718 (zx_Gsel 5 (n := 7) (by decide +kernel)) zw_9 zw_719 (by decide +kernel) rfl rfl
theorem zc_Planner_103 : zx_Wv "BeanLoom$Planner" 103 "BeanLoom$Planner" zy_Planner_planConstant zm_Planner_planConstant 2 := zx_WvOf (y := zy_Planner_planConstant) zw_769 zw_771 (zx_Gsel 12 (n := 7) (by decide +kernel)) zw_9 zw_772 (by decide +kernel) rfl rfl
theorem zc_Planner_106 : zx_Wv "BeanLoom$Planner" 106 "BeanLoom$Planner" zy_Planner_planDefault zm_Planner_planDefault 2 := zx_WvOf (y := zy_Planner_planDefault) zw_782 zw_784 (zx_Gsel 15 (n := 7) (by decide +kernel)) zw_9 zw_785 (by decide +kernel) rfl rfl
theorem zc_Planner_37 : zx_Wv "BeanLoom$Planner" 37 "BeanLoom$Model" zy_Model_nameFunctions zm_Model_nameFunctions 0 := zx_WvOf (y := zy_Model_nameFunctions) zw_669 zw_670 zw_671 zw_3 zw_672 (by decide +kernel) rfl rfl
theorem zc_Planner_52 : zx_Wv "BeanLoom$Planner" 52 "BeanLoom$Planner" zy_Planner_planMethod zm_Planner_planMethod 1 := zx_WvOf (y := zy_Planner_planMethod) zw_677 zw_679 (zx_Gsel 1 (n := 7) (by decide +kernel)) zw_9 zw_680 (by decide +kernel) rfl rfl
theorem zc_Types_31 : zx_Ws "BeanLoom$Types" 31 zy_Types_nameIn zm_Types_nameIn 2 := zx_WsOf (y := zy_Types_nameIn) zw_471 zw_472 zw_2 zw_473 (by decide +kernel) rfl rfl
theorem zc_Loom_59 : zx_Ws "BeanLoom" 59 zy_Types_areNames zm_Types_areNames 2 := zx_WsOf (y := zy_Types_areNames) zw_468 zw_469 zw_2 zw_470 (by decide +kernel) rfl rfl
theorem zc_Loom_70 : zx_Wv "BeanLoom" 70 "BeanLoom$Types" zy_Types_isFull zm_Types_isFull 0 := zx_WvOf (y := zy_Types_isFull) zw_543 zw_544 zw_545 zw_2 zw_546 (by decide +kernel) rfl rfl
theorem zc_Loom_79 : zx_Wv "BeanLoom" 79 "BeanLoom$Types" zy_Types_add zm_Types_add 2 := zx_WvOf (y := zy_Types_add) zw_563 zw_564 zw_565 zw_2 zw_566 (by decide +kernel) rfl rfl
theorem zc_Loom_83 : zx_Ws "BeanLoom" 83 zy_Types_nameIn zm_Types_nameIn 2 := zx_WsOf (y := zy_Types_nameIn) zw_567 zw_472 zw_2 zw_473 (by decide +kernel) rfl rfl
theorem zc_Loom_87 : zx_Wv "BeanLoom" 87 "BeanLoom$Types" zy_Types_addMember zm_Types_addMember 3 := zx_WvOf (y := zy_Types_addMember) zw_568 zw_569 zw_570 zw_2 zw_571 (by decide +kernel) rfl rfl
theorem zc_Loom_95 : zx_Wv "BeanLoom" 95 "BeanLoom$Types" zy_Types_exists zm_Types_exists 1 := zx_WvOf (y := zy_Types_exists) zw_586 zw_587 zw_588 zw_2 zw_589 (by decide +kernel) rfl rfl
theorem zc_Loom_98 : zx_Wv "BeanLoom" 98 "BeanLoom$Types" zy_Types_placeOf zm_Types_placeOf 2 := zx_WvOf (y := zy_Types_placeOf) zw_590 zw_591 zw_592 zw_2 zw_593 (by decide +kernel) rfl rfl
theorem zc_Loom_104 : zx_Wv "BeanLoom" 104 "BeanLoom$Types" zy_Types_memberCount zm_Types_memberCount 1 := zx_WvOf (y := zy_Types_memberCount) zw_595 zw_420 zw_421 zw_2 zw_422 (by decide +kernel) rfl rfl
theorem zc_Loom_114 : zx_Ws "BeanLoom" 114 zy_Basics_isPrimitive zm_Basics_isPrimitive 1 := zx_WsOf (y := zy_Basics_isPrimitive) zw_604 zw_403 zw_18 zw_404 (by decide +kernel) rfl rfl
theorem zc_Loom_121 : zx_Wv "BeanLoom" 121 "BeanLoom$Types" zy_Types_listOf zm_Types_listOf 1 := zx_WvOf (y := zy_Types_listOf) zw_606 zw_607 zw_608 zw_2 zw_609 (by decide +kernel) rfl rfl
theorem zc_Loom_124 : zx_Wv "BeanLoom" 124 "BeanLoom$Types" zy_Types_isEnum zm_Types_isEnum 1 := zx_WvOf (y := zy_Types_isEnum) zw_617 zw_416 zw_417 zw_2 zw_418 (by decide +kernel) rfl rfl
theorem zc_Loom_135 : zx_Wv "BeanLoom" 135 "BeanLoom$Model" zy_Model_addMethod zm_Model_addMethod 2 := zx_WvOf (y := zy_Model_addMethod) zw_620 zw_621 zw_622 zw_3 zw_623 (by decide +kernel) rfl rfl
theorem zc_Loom_138 : zx_Ws "BeanLoom" 138 zy_Basics_isWhole zm_Basics_isWhole 1 := zx_WsOf (y := zy_Basics_isWhole) zw_631 zw_632 zw_18 zw_633 (by decide +kernel) rfl rfl
theorem zc_Loom_148 : zx_Wv "BeanLoom" 148 "BeanLoom$Model" zy_Model_addFunction zm_Model_addFunction 4 := zx_WvOf (y := zy_Model_addFunction) zw_636 zw_637 zw_638 zw_3 zw_639 (by decide +kernel) rfl rfl
theorem zc_Loom_152 : zx_Wv "BeanLoom" 152 "BeanLoom$Model" zy_Model_hasMethod zm_Model_hasMethod 1 := zx_WvOf (y := zy_Model_hasMethod) zw_647 zw_648 zw_649 zw_3 zw_650 (by decide +kernel) rfl rfl
theorem zc_Loom_169 : zx_Wv "BeanLoom" 169 "BeanLoom$Method" zy_Method_tell zm_Method_tell 3 := zx_WvOf (y := zy_Method_tell) zw_653 zw_654 zw_655 zw_5 zw_656 (by decide +kernel) rfl rfl
theorem zc_Loom_175 : zx_Wv "BeanLoom" 175 "BeanLoom$Planner" zy_Planner_planAll zm_Planner_planAll 0 := zx_WvOf (y := zy_Planner_planAll) zw_665 zw_666 zw_667 zw_9 zw_668 (by decide +kernel) rfl rfl
theorem zc_Loom_189 : zx_Ws "BeanLoom" 189 zy_Basics_isBox zm_Basics_isBox 1 := zx_WsOf (y := zy_Basics_isBox) zw_794 zw_795 zw_18 zw_796 (by decide +kernel) rfl rfl
theorem zc_Loom_195 : zx_Ws "BeanLoom" 195 zy_Basics_kindOf zm_Basics_kindOf 1 := zx_WsOf (y := zy_Basics_kindOf) zw_797 zw_745 zw_18 zw_746 (by decide +kernel) rfl rfl
theorem zc_Loom_198 : zx_Ws "BeanLoom" 198 zy_Basics_holds zm_Basics_holds 2 := zx_WsOf (y := zy_Basics_holds) zw_798 zw_406 zw_18 zw_407 (by decide +kernel) rfl rfl
theorem zc_Loom_204 : zx_Wv "BeanLoom" 204 "BeanLoom$Store" zy_Store_isFull zm_Store_isFull 0 := zx_WvOf (y := zy_Store_isFull) zw_800 zw_801 zw_802 zw_7 zw_803 (by decide +kernel) rfl rfl
theorem zc_Loom_207 : zx_Wv "BeanLoom" 207 "BeanLoom$Store" zy_Store_createBean zm_Store_createBean 1 := zx_WvOf (y := zy_Store_createBean) zw_805 zw_806 zw_807 zw_7 zw_808 (by decide +kernel) rfl rfl
theorem zc_Loom_210 : zx_Wv "BeanLoom" 210 "BeanLoom$Store" zy_Store_create zm_Store_create 1 := zx_WvOf (y := zy_Store_create) zw_819 zw_810 zw_811 zw_7 zw_812 (by decide +kernel) rfl rfl
theorem zc_Loom_216 : zx_Wv "BeanLoom" 216 "BeanLoom$Store" zy_Store_appendBytes zm_Store_appendBytes 2 := zx_WvOf (y := zy_Store_appendBytes) zw_820 zw_821 zw_822 zw_7 zw_823 (by decide +kernel) rfl rfl
theorem zc_Loom_250 : zx_Wv "BeanLoom" 250 "BeanLoom$Mapper" zy_Mapper_run zm_Mapper_run 2 := zx_WvOf (y := zy_Mapper_run) zw_835 zw_836 zw_837 zw_10 zw_838 (by decide +kernel) rfl rfl
theorem zc_Loom_254 : zx_Wv "BeanLoom" 254 "BeanLoom$Mapper" zy_Mapper_hasFailed zm_Mapper_hasFailed 0 := zx_WvOf (y := zy_Mapper_hasFailed) zw_1043 zw_1044 zw_1045 zw_10 zw_1046 (by decide +kernel) rfl rfl
theorem zc_Loom_257 : zx_Wv "BeanLoom" 257 "BeanLoom$Store" zy_Store_forget zm_Store_forget 1 := zx_WvOf (y := zy_Store_forget) zw_1047 zw_1048 zw_1049 zw_7 zw_1050 (by decide +kernel) rfl rfl
theorem zc_Loom_271 : zx_Wv "BeanLoom" 271 "BeanLoom$Store" zy_Store_cell zm_Store_cell 2 := zx_WvOf (y := zy_Store_cell) zw_1091 zw_876 zw_877 zw_7 zw_878 (by decide +kernel) rfl rfl
theorem zc_Loom_275 : zx_Wv "BeanLoom" 275 "BeanLoom$Store" zy_Store_has zm_Store_has 1 := zx_WvOf (y := zy_Store_has) zw_1099 zw_424 zw_425 zw_7 zw_426 (by decide +kernel) rfl rfl
