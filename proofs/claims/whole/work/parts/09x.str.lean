/-! constant texts (printed by strgen.py) -/
theorem zw_971 : (Jvm.Cond.methodLink "BeanLoom$Converter" (144 : Nat) ({ cls := "java/lang/String", name := "length", desc := "()I" } : Jvm.MethodName)) ∈ zx_G := zx_Gt 971 (by decide +kernel) rfl
theorem zw_974 : (Jvm.Cond.code ({ cls := "java/lang/String", name := "length", desc := "()I" } : Jvm.MethodName) prog_21_method_54_code (1 : Nat) (Option.some Jvm.ClassFile.FieldType.int)) ∈ zx_G := zx_Gt 974 (by decide +kernel) rfl
theorem zw_21 : (Jvm.Cond.initialized "java/lang/String") ∈ zx_G := zx_Gt 21 (by decide +kernel) rfl
theorem zw_972 : (Jvm.Cond.instanceMethod ({ cls := "java/lang/String", name := "length", desc := "()I" } : Jvm.MethodName)) ∈ zx_G := zx_Gt 972 (by decide +kernel) rfl
theorem zw_973 : (Jvm.Cond.selects "java/lang/String" ({ cls := "java/lang/String", name := "length", desc := "()I" } : Jvm.MethodName) ({ cls := "java/lang/String", name := "length", desc := "()I" } : Jvm.MethodName)) ∈ zx_G := zx_Gt 973 (by decide +kernel) rfl
theorem zw_981 : (Jvm.Cond.methodLink "BeanLoom$Converter" (149 : Nat) ({ cls := "java/lang/String", name := "charAt", desc := "(I)C" } : Jvm.MethodName)) ∈ zx_G := zx_Gt 981 (by decide +kernel) rfl
theorem zw_984 : (Jvm.Cond.code ({ cls := "java/lang/String", name := "charAt", desc := "(I)C" } : Jvm.MethodName) prog_21_method_56_code (2 : Nat) (Option.some Jvm.ClassFile.FieldType.char)) ∈ zx_G := zx_Gt 984 (by decide +kernel) rfl
theorem zw_982 : (Jvm.Cond.instanceMethod ({ cls := "java/lang/String", name := "charAt", desc := "(I)C" } : Jvm.MethodName)) ∈ zx_G := zx_Gt 982 (by decide +kernel) rfl
theorem zw_983 : (Jvm.Cond.selects "java/lang/String" ({ cls := "java/lang/String", name := "charAt", desc := "(I)C" } : Jvm.MethodName) ({ cls := "java/lang/String", name := "charAt", desc := "(I)C" } : Jvm.MethodName)) ∈ zx_G := zx_Gt 983 (by decide +kernel) rfl
theorem zw_975 : (Jvm.Cond.methodLink "java/lang/String" (335 : Nat) ({ cls := "java/lang/String", name := "coder", desc := "()B" } : Jvm.MethodName)) ∈ zx_G := zx_Gt 975 (by decide +kernel) rfl
theorem zw_978 : (Jvm.Cond.code ({ cls := "java/lang/String", name := "coder", desc := "()B" } : Jvm.MethodName) prog_21_method_152_code (1 : Nat) (Option.some Jvm.ClassFile.FieldType.byte)) ∈ zx_G := zx_Gt 978 (by decide +kernel) rfl
theorem zw_976 : (Jvm.Cond.instanceMethod ({ cls := "java/lang/String", name := "coder", desc := "()B" } : Jvm.MethodName)) ∈ zx_G := zx_Gt 976 (by decide +kernel) rfl
theorem zw_977 : (Jvm.Cond.selects "java/lang/String" ({ cls := "java/lang/String", name := "coder", desc := "()B" } : Jvm.MethodName) ({ cls := "java/lang/String", name := "coder", desc := "()B" } : Jvm.MethodName)) ∈ zx_G := zx_Gt 977 (by decide +kernel) rfl
theorem zw_985 : (Jvm.Cond.methodLink "java/lang/String" (492 : Nat) ({ cls := "java/lang/String", name := "isLatin1", desc := "()Z" } : Jvm.MethodName)) ∈ zx_G := zx_Gt 985 (by decide +kernel) rfl
theorem zw_988 : (Jvm.Cond.code ({ cls := "java/lang/String", name := "isLatin1", desc := "()Z" } : Jvm.MethodName) prog_21_method_154_code (1 : Nat) (Option.some Jvm.ClassFile.FieldType.boolean)) ∈ zx_G := zx_Gt 988 (by decide +kernel) rfl
theorem zw_986 : (Jvm.Cond.instanceMethod ({ cls := "java/lang/String", name := "isLatin1", desc := "()Z" } : Jvm.MethodName)) ∈ zx_G := zx_Gt 986 (by decide +kernel) rfl
theorem zw_987 : (Jvm.Cond.selects "java/lang/String" ({ cls := "java/lang/String", name := "isLatin1", desc := "()Z" } : Jvm.MethodName) ({ cls := "java/lang/String", name := "isLatin1", desc := "()Z" } : Jvm.MethodName)) ∈ zx_G := zx_Gt 987 (by decide +kernel) rfl
theorem zw_989 : (Jvm.Cond.methodLink "java/lang/String" (495 : Nat) ({ cls := "java/lang/StringLatin1", name := "charAt", desc := "([BI)C" } : Jvm.MethodName)) ∈ zx_G := zx_Gt 989 (by decide +kernel) rfl
theorem zw_991 : (Jvm.Cond.code ({ cls := "java/lang/StringLatin1", name := "charAt", desc := "([BI)C" } : Jvm.MethodName) prog_22_method_2_code (2 : Nat) (Option.some Jvm.ClassFile.FieldType.char)) ∈ zx_G := zx_Gt 991 (by decide +kernel) rfl
theorem zw_22 : (Jvm.Cond.initialized "java/lang/StringLatin1") ∈ zx_G := zx_Gt 22 (by decide +kernel) rfl
theorem zw_990 : (Jvm.Cond.static ({ cls := "java/lang/StringLatin1", name := "charAt", desc := "([BI)C" } : Jvm.MethodName)) ∈ zx_G := zx_Gt 990 (by decide +kernel) rfl
theorem zw_992 : (Jvm.Cond.methodLink "java/lang/StringLatin1" (9 : Nat) ({ cls := "java/lang/String", name := "checkIndex", desc := "(II)V" } : Jvm.MethodName)) ∈ zx_G := zx_Gt 992 (by decide +kernel) rfl
theorem zw_994 : (Jvm.Cond.code ({ cls := "java/lang/String", name := "checkIndex", desc := "(II)V" } : Jvm.MethodName) prog_21_method_155_code (2 : Nat) (Option.none : Option Jvm.ClassFile.FieldType)) ∈ zx_G := zx_Gt 994 (by decide +kernel) rfl
theorem zw_993 : (Jvm.Cond.static ({ cls := "java/lang/String", name := "checkIndex", desc := "(II)V" } : Jvm.MethodName)) ∈ zx_G := zx_Gt 993 (by decide +kernel) rfl
theorem zw_997 : (Jvm.Cond.methodLink "java/lang/String" (1059 : Nat) ({ cls := "jdk/internal/util/Preconditions", name := "checkIndex", desc := "(IILjava/util/function/BiFunction;)I" } : Jvm.MethodName)) ∈ zx_G := zx_Gt 997 (by decide +kernel) rfl
theorem zw_999 : (Jvm.Cond.code ({ cls := "jdk/internal/util/Preconditions", name := "checkIndex", desc := "(IILjava/util/function/BiFunction;)I" } : Jvm.MethodName) prog_27_method_11_code (3 : Nat) (Option.some Jvm.ClassFile.FieldType.int)) ∈ zx_G := zx_Gt 999 (by decide +kernel) rfl
theorem zw_23 : (Jvm.Cond.initialized "jdk/internal/util/Preconditions") ∈ zx_G := zx_Gt 23 (by decide +kernel) rfl
theorem zw_998 : (Jvm.Cond.static ({ cls := "jdk/internal/util/Preconditions", name := "checkIndex", desc := "(IILjava/util/function/BiFunction;)I" } : Jvm.MethodName)) ∈ zx_G := zx_Gt 998 (by decide +kernel) rfl
theorem zw_979 : (Jvm.Cond.fieldLink "java/lang/String" (38 : Nat) "java/lang/String" "COMPACT_STRINGS" "Z") ∈ zx_G := zx_Gt 979 (by decide +kernel) rfl
theorem zw_1527 : (Jvm.Cond.fieldLink "java/lang/String" (15 : Nat) "java/lang/String" "coder" "B") ∈ zx_G := zx_Gt 1527 (by decide +kernel) rfl
theorem zw_1526 : (Jvm.Cond.fieldLink "java/lang/String" (9 : Nat) "java/lang/String" "value" "[B") ∈ zx_G := zx_Gt 1526 (by decide +kernel) rfl
theorem zw_995 : (Jvm.Cond.fieldLink "java/lang/String" (1053 : Nat) "jdk/internal/util/Preconditions" "SIOOBE_FORMATTER" "Ljava/util/function/BiFunction;") ∈ zx_G := zx_Gt 995 (by decide +kernel) rfl
abbrev zm_Str_length : zx_M := (prog_21_method_54_code, 1, "java/lang/String", some .int, { frames := 1, cells := 0, slots := 0, locals := 20 })
abbrev zy_Str_length : MethodName := ⟨"java/lang/String", "length", "()I"⟩
abbrev zm_Str_coder : zx_M := (prog_21_method_152_code, 1, "java/lang/String", some .byte, { frames := 0, cells := 0, slots := 0, locals := 0 })
abbrev zy_Str_coder : MethodName := ⟨"java/lang/String", "coder", "()B"⟩
abbrev zm_Str_isLatin1 : zx_M := (prog_21_method_154_code, 1, "java/lang/String", some .boolean, { frames := 0, cells := 0, slots := 0, locals := 0 })
abbrev zy_Str_isLatin1 : MethodName := ⟨"java/lang/String", "isLatin1", "()Z"⟩
abbrev zm_Str_charAt : zx_M := (prog_21_method_56_code, 2, "java/lang/String", some .char, { frames := 3, cells := 0, slots := 0, locals := 64 })
abbrev zy_Str_charAt : MethodName := ⟨"java/lang/String", "charAt", "(I)C"⟩
abbrev zm_Str_checkIndex : zx_M := (prog_21_method_155_code, 2, "java/lang/String", none, { frames := 1, cells := 0, slots := 0, locals := 22 })
abbrev zy_Str_checkIndex : MethodName := ⟨"java/lang/String", "checkIndex", "(II)V"⟩
abbrev zm_Lat_charAt : zx_M := (prog_22_method_2_code, 2, "java/lang/StringLatin1", some .char, { frames := 2, cells := 0, slots := 0, locals := 43 })
abbrev zy_Lat_charAt : MethodName := ⟨"java/lang/StringLatin1", "charAt", "([BI)C"⟩
abbrev zm_Pre_checkIndex : zx_M := (prog_27_method_11_code, 3, "jdk/internal/util/Preconditions", some .int, { frames := 0, cells := 0, slots := 0, locals := 0 })
abbrev zy_Pre_checkIndex : MethodName := ⟨"jdk/internal/util/Preconditions", "checkIndex", "(IILjava/util/function/BiFunction;)I"⟩
theorem dd_Lat_charAt_0 : decode zm_Lat_charAt.1 0 = .ok (.iload_n 1, 1) := by decide +kernel
theorem dd_Lat_charAt_1 : decode zm_Lat_charAt.1 1 = .ok (.aload_n 0, 1) := by decide +kernel
theorem dd_Lat_charAt_2 : decode zm_Lat_charAt.1 2 = .ok (.arraylength, 1) := by decide +kernel
theorem dd_Lat_charAt_3 : decode zm_Lat_charAt.1 3 = .ok (.invokestatic 9, 3) := by decide +kernel
theorem dd_Lat_charAt_6 : decode zm_Lat_charAt.1 6 = .ok (.aload_n 0, 1) := by decide +kernel
theorem dd_Lat_charAt_7 : decode zm_Lat_charAt.1 7 = .ok (.iload_n 1, 1) := by decide +kernel
theorem dd_Lat_charAt_8 : decode zm_Lat_charAt.1 8 = .ok (.baload, 1) := by decide +kernel
theorem dd_Lat_charAt_9 : decode zm_Lat_charAt.1 9 = .ok (.sipush 255, 3) := by decide +kernel
theorem dd_Lat_charAt_12 : decode zm_Lat_charAt.1 12 = .ok (.iand, 1) := by decide +kernel
theorem dd_Lat_charAt_13 : decode zm_Lat_charAt.1 13 = .ok (.i2c, 1) := by decide +kernel
theorem dd_Lat_charAt_14 : decode zm_Lat_charAt.1 14 = .ok (.ireturn, 1) := by decide +kernel
theorem dd_Pre_checkIndex_0 : decode zm_Pre_checkIndex.1 0 = .ok (.iload_n 0, 1) := by decide +kernel
theorem dd_Pre_checkIndex_1 : decode zm_Pre_checkIndex.1 1 = .ok (.ifCond .lt 8, 3) := by decide +kernel
theorem dd_Pre_checkIndex_4 : decode zm_Pre_checkIndex.1 4 = .ok (.iload_n 0, 1) := by decide +kernel
theorem dd_Pre_checkIndex_5 : decode zm_Pre_checkIndex.1 5 = .ok (.iload_n 1, 1) := by decide +kernel
theorem dd_Pre_checkIndex_6 : decode zm_Pre_checkIndex.1 6 = .ok (.if_icmp .lt 10, 3) := by decide +kernel
theorem dd_Pre_checkIndex_9 : decode zm_Pre_checkIndex.1 9 = .ok (.aload_n 2, 1) := by decide +kernel
theorem dd_Pre_checkIndex_10 : decode zm_Pre_checkIndex.1 10 = .ok (.iload_n 0, 1) := by decide +kernel
theorem dd_Pre_checkIndex_11 : decode zm_Pre_checkIndex.1 11 = .ok (.iload_n 1, 1) := by decide +kernel
theorem dd_Pre_checkIndex_12 : decode zm_Pre_checkIndex.1 12 = .ok (.invokestatic 95, 3) := by decide +kernel
theorem dd_Pre_checkIndex_15 : decode zm_Pre_checkIndex.1 15 = .ok (.athrow, 1) := by decide +kernel
theorem dd_Pre_checkIndex_16 : decode zm_Pre_checkIndex.1 16 = .ok (.iload_n 0, 1) := by decide +kernel
theorem dd_Pre_checkIndex_17 : decode zm_Pre_checkIndex.1 17 = .ok (.ireturn, 1) := by decide +kernel
theorem zcs_length : zx_Wv "BeanLoom$Converter" 144 "java/lang/String" zy_Str_length zm_Str_length 0 := zx_WvOf (y := zy_Str_length) zw_971 zw_972 zw_973 zw_21 zw_974 (by decide +kernel) rfl rfl
theorem zcs_charAt : zx_Wv "BeanLoom$Converter" 149 "java/lang/String" zy_Str_charAt zm_Str_charAt 1 := zx_WvOf (y := zy_Str_charAt) zw_981 zw_982 zw_983 zw_21 zw_984 (by decide +kernel) rfl rfl
theorem zcs_coder : zx_Wv "java/lang/String" 335 "java/lang/String" zy_Str_coder zm_Str_coder 0 := zx_WvOf (y := zy_Str_coder) zw_975 zw_976 zw_977 zw_21 zw_978 (by decide +kernel) rfl rfl
theorem zcs_isLatin1 : zx_Wv "java/lang/String" 492 "java/lang/String" zy_Str_isLatin1 zm_Str_isLatin1 0 := zx_WvOf (y := zy_Str_isLatin1) zw_985 zw_986 zw_987 zw_21 zw_988 (by decide +kernel) rfl rfl
theorem zcs_l1 : zx_Ws "java/lang/String" 495 zy_Lat_charAt zm_Lat_charAt 2 := zx_WsOf (y := zy_Lat_charAt) zw_989 zw_990 zw_22 zw_991 (by decide +kernel) rfl rfl
theorem zcs_sCheck : zx_Ws "java/lang/StringLatin1" 9 zy_Str_checkIndex zm_Str_checkIndex 2 := zx_WsOf (y := zy_Str_checkIndex) zw_992 zw_993 zw_21 zw_994 (by decide +kernel) rfl rfl
theorem zcs_pCheck : zx_Ws "java/lang/String" 1059 zy_Pre_checkIndex zm_Pre_checkIndex 3 := zx_WsOf (y := zy_Pre_checkIndex) zw_997 zw_998 zw_23 zw_999 (by decide +kernel) rfl rfl
def zx_vi (b : Bool) : Nat := cond b 4 5
section ZXS
variable {B : zx_B} {M : zx_M} {α : Type} {Qf : α → State → Prop} {sem : Option α} {ck cn pc : Nat} {lv : List (Nat × Value)} {st st0 : List Value} {h : zx_H}
theorem zx_ldcST (E : zx_E B M) (ho : M.2.2.1 = "BeanLoom$Converter") (hd : decode M.1 pc = .ok (.ldc 136, 2)) (Kc : zx_X B M Qf sem ck cn (pc + 2) lv (.ref (zx_xa (zx_BK B) (zx_si true)) :: st) h) : zx_X B M Qf sem ck cn pc lv st h := by
  obtain ⟨p, l, e, s, m, args, below, meth, c, K⟩ := B
  obtain ⟨cc, nL, own, ret, R⟩ := M
  obtain ⟨hx, hb, hml, hown, hts, hr, hlk, hok, hn, hK, hS0⟩ := E
  intro a ha H locs ls hP hS hl0
  cases ho
  exact va_ldcS hx hb hown hS0.1.2.2.2.2.2.2.2.2.1.1 hd (Kc a ha H locs ls hP hS hl0)
theorem zx_ldcSF (E : zx_E B M) (ho : M.2.2.1 = "BeanLoom$Converter") (hd : decode M.1 pc = .ok (.ldc 138, 2)) (Kc : zx_X B M Qf sem ck cn (pc + 2) lv (.ref (zx_xa (zx_BK B) (zx_si false)) :: st) h) : zx_X B M Qf sem ck cn pc lv st h := by
  obtain ⟨p, l, e, s, m, args, below, meth, c, K⟩ := B
  obtain ⟨cc, nL, own, ret, R⟩ := M
  obtain ⟨hx, hb, hml, hown, hts, hr, hlk, hok, hn, hK, hS0⟩ := E
  intro a ha H locs ls hP hS hl0
  cases ho
  exact va_ldcS hx hb hown hS0.1.2.2.2.2.2.2.2.2.1.2 hd (Kc a ha H locs ls hP hS hl0)
theorem zx_sval (E : zx_E B M) (b : Bool) {idx : Nat} (hw : Cond.fieldLink M.2.2.1 idx "java/lang/String" "value" "[B" ∈ zx_G) (hd : decode M.1 pc = .ok (.getfield idx, 3)) (Kc : zx_X B M Qf sem ck cn (pc + 3) lv (.ref (zx_xa (zx_BK B) (zx_vi b)) :: st) h) : zx_X B M Qf sem ck cn pc lv (.ref (zx_xa (zx_BK B) (zx_si b)) :: st) h := by
  obtain ⟨p, l, e, s, m, args, below, meth, c, K⟩ := B
  obtain ⟨cc, nL, own, ret, R⟩ := M
  obtain ⟨hx, hb, hml, hown, hts, hr, hlk, hok, hn, hK, hS0⟩ := E
  intro a ha H locs ls hP hS hl0
  have h8 := hS0.1.2.2.2.2.2.2.2.1
  cases b
  · exact vk_getf hx hb (h8.1 1 (by decide)).2.2.1 hS hown (hts _ hw) (fun _ h9 => h9) hd (Kc a ha H locs ls hP hS hl0)
  · exact vk_getf hx hb (h8.1 0 (by decide)).2.2.1 hS hown (hts _ hw) (fun _ h9 => h9) hd (Kc a ha H locs ls hP hS hl0)
theorem zx_scod (E : zx_E B M) (b : Bool) {idx : Nat} (hw : Cond.fieldLink M.2.2.1 idx "java/lang/String" "coder" "B" ∈ zx_G) (hd : decode M.1 pc = .ok (.getfield idx, 3)) (Kc : zx_X B M Qf sem ck cn (pc + 3) lv (.int 0 :: st) h) : zx_X B M Qf sem ck cn pc lv (.ref (zx_xa (zx_BK B) (zx_si b)) :: st) h := by
  obtain ⟨p, l, e, s, m, args, below, meth, c, K⟩ := B
  obtain ⟨cc, nL, own, ret, R⟩ := M
  obtain ⟨hx, hb, hml, hown, hts, hr, hlk, hok, hn, hK, hS0⟩ := E
  intro a ha H locs ls hP hS hl0
  have h8 := hS0.1.2.2.2.2.2.2.2.1
  cases b
  · exact vk_getf hx hb (h8.1 1 (by decide)).2.1 hS hown (hts _ hw) (fun _ h9 => h9) hd (Kc a ha H locs ls hP hS hl0)
  · exact vk_getf hx hb (h8.1 0 (by decide)).2.1 hS hown (hts _ hw) (fun _ h9 => h9) hd (Kc a ha H locs ls hP hS hl0)
theorem zx_scs (E : zx_E B M) {idx : Nat} (hw : Cond.fieldLink M.2.2.1 idx "java/lang/String" "COMPACT_STRINGS" "Z" ∈ zx_G) (hd : decode M.1 pc = .ok (.getstatic idx, 3)) (Kc : zx_X B M Qf sem ck cn (pc + 3) lv (.int 1 :: st) h) : zx_X B M Qf sem ck cn pc lv st h := by
  obtain ⟨p, l, e, s, m, args, below, meth, c, K⟩ := B
  obtain ⟨cc, nL, own, ret, R⟩ := M
  obtain ⟨hx, hb, hml, hown, hts, hr, hlk, hok, hn, hK, hS0⟩ := E
  intro a ha H locs ls hP hS hl0
  exact va_gets hx hb hS0.1.2.2.2.2.2.2.1 hS hown (hts _ hw) (fun _ h9 => h9) hd (Kc a ha H locs ls hP hS hl0)
theorem zx_sxx (E : zx_E B M) {idx : Nat} (hw : Cond.fieldLink M.2.2.1 idx "jdk/internal/util/Preconditions" "SIOOBE_FORMATTER" "Ljava/util/function/BiFunction;" ∈ zx_G) (hd : decode M.1 pc = .ok (.getstatic idx, 3)) (Kc : ∀ v : Value, v.category = 1 → zx_X B M Qf sem ck cn (pc + 3) lv (v :: st) h) : zx_X B M Qf sem ck cn pc lv st h := by
  obtain ⟨p, l, e, s, m, args, below, meth, c, K⟩ := B
  obtain ⟨cc, nL, own, ret, R⟩ := M
  obtain ⟨hx, hb, hml, hown, hts, hr, hlk, hok, hn, hK, hS0⟩ := E
  intro a ha H locs ls hP hS hl0
  rcases hS0.2.2.2.2 with hz | ⟨t, hz⟩
  · exact va_gets hx hb hz hS hown (hts _ hw) (fun _ h9 => h9) hd (Kc _ rfl a ha H locs ls hP hS hl0)
  · exact va_gets hx hb hz hS hown (hts _ hw) (fun _ h9 => h9) hd (Kc _ rfl a ha H locs ls hP hS hl0)
theorem zx_sblen (E : zx_E B M) (b : Bool) (hd : decode M.1 pc = .ok (.arraylength, 1)) (Kc : zx_X B M Qf sem ck cn (pc + 1) lv (.int (zx_sl b) :: st) h) : zx_X B M Qf sem ck cn pc lv (.ref (zx_xa (zx_BK B) (zx_vi b)) :: st) h := by
  obtain ⟨p, l, e, s, m, args, below, meth, c, K⟩ := B
  obtain ⟨cc, nL, own, ret, R⟩ := M
  obtain ⟨hx, hb, hml, hown, hts, hr, hlk, hok, hn, hK, hS0⟩ := E
  intro a ha H locs ls hP hS hl0
  have h8 := hS0.1.2.2.2.2.2.2.2.1
  cases b
  · exact va_tlen hx hb (h8.1 1 (by decide)).2.2.2 hS rfl hd (Kc a ha H locs ls hP hS hl0)
  · exact va_tlen hx hb (h8.1 0 (by decide)).2.2.2 hS rfl hd (Kc a ha H locs ls hP hS hl0)
theorem zx_sbald (E : zx_E B M) (b : Bool) {x : Int32} (hin : vp_in x (zx_sn b)) (hd : decode M.1 pc = .ok (.baload, 1)) (Kc : zx_X B M Qf sem ck cn (pc + 1) lv (.int (zx_sc b x.toNatClampNeg) :: st) h) : zx_X B M Qf sem ck cn pc lv (.int x :: .ref (zx_xa (zx_BK B) (zx_vi b)) :: st) h := by
  obtain ⟨p, l, e, s, m, args, below, meth, c, K⟩ := B
  obtain ⟨cc, nL, own, ret, R⟩ := M
  obtain ⟨hx, hb, hml, hown, hts, hr, hlk, hok, hn, hK, hS0⟩ := E
  intro a ha H locs ls hP hS hl0
  have h8 := hS0.1.2.2.2.2.2.2.2.1
  cases b
  · exact va_tb hx hb (h8.1 1 (by decide)).2.2.2 hS hin rfl hd (Kc a ha H locs ls hP hS hl0)
  · exact va_tb hx hb (h8.1 0 (by decide)).2.2.2 hS hin rfl hd (Kc a ha H locs ls hP hS hl0)
theorem zx_ishr (E : zx_E B M) {x y : Int32} (hd : decode M.1 pc = .ok (.ishr, 1)) (Kc : zx_X B M Qf sem ck cn (pc + 1) lv (.int (x >>> (y &&& 31)) :: st) h) : zx_X B M Qf sem ck cn pc lv (.int y :: .int x :: st) h := by
  obtain ⟨p, l, e, s, m, args, below, meth, c, K⟩ := B
  obtain ⟨cc, nL, own, ret, R⟩ := M
  obtain ⟨hx, hb, hml, hown, hts, hr, hlk, hok, hn, hK, hS0⟩ := E
  intro a ha H locs ls hP hS hl0
  exact lv_ishr hx hb hd (Kc a ha H locs ls hP hS hl0)
theorem zx_aldv (E : zx_E B M) (k : Nat) {q : Fin 4} {i x : Nat} (hd : decode M.1 pc = .ok (.aload_n q, 1)) (hi : (q : Nat) = i) (hl : lv[k]? = some (i, .ref x)) (Kc : zx_X B M Qf sem ck cn (pc + 1) lv (.ref x :: st) h) : zx_X B M Qf sem ck cn pc lv st h := zx_aload_n E k hd hi hl Kc
theorem zx_nret (E : zx_E B M) {ρ : α → Option Value × zx_H} {a0 : α} {v : Int32} (ty : FieldType) (hn9 : narrow ty (.int v) = .int v) (hρ : ρ a0 = (some (.int v), h)) (hret : M.2.2.2.1 = some ty) (hd : decode M.1 pc = .ok (.ireturn, 1)) : zx_X B M (zx_QM B ρ) (some a0) 0 0 pc lv [.int v] h := by
  obtain ⟨p, l, e, s, m, args, below, meth, c, K⟩ := B
  obtain ⟨cc, nL, own, ret, R⟩ := M
  obtain ⟨hx, hb, hml, hown, hts, hr, hlk, hok, hn, hK, hS0⟩ := E
  intro a ha H locs ls hP hS hl0
  cases Option.some.inj ha
  show W p l e R s m args below meth c H locs 0 0 (MQ below (zx_Q K (ρ a0).1 (ρ a0).2) args s 0 0 (zx_A K)) (F0 m pc ls [.int v])
  rw [hρ]
  exact W.zret hx hb (hr.trans hret) hn9 (fun t ht hW => ⟨rfl, zx_end hok hn hK hS0 hP hS ht hW⟩) hS.2.2 hd hlk
/-- a call on a constant text -/
theorem zx_callT (E : zx_E B M) (b : Bool) {My : zx_M} {y : MethodName} {idx n : Nat} {β : Type} {g : Option β} {ks : β → Option α} (rv : β → Option Value × zx_H) (As : List Value) (hM : ∀ r, g = some r → zx_MR (zx_Bl B) My y (zx_BK B) (.ref (zx_xa (zx_BK B) (zx_si b)) :: As) h (rv r).1 (rv r).2) (hw : zx_Wv M.2.2.1 idx "java/lang/String" y My n) (hR : zx_rm M My)
    (hck : ck ≤ M.2.2.2.2.cells) (hcn : cn ≤ M.2.2.2.2.slots) (hn : As.length = n) (hst : st0 = As.reverse ++ .ref (zx_xa (zx_BK B) (zx_si b)) :: st) (hsum : (st.map fun v => v.category).sum ≤ 8) (hd : decode M.1 pc = .ok (.invokevirtual idx, 3))
    (Kc : ∀ r, zx_X B M Qf (ks r) ck cn (pc + 3) lv ((rv r).1.toList ++ st) (rv r).2) : zx_X B M Qf (g.bind ks) ck cn pc lv st0 h := by
  obtain ⟨p, l, e, s, m, args, below, meth, cd, K⟩ := B
  obtain ⟨cc, nL, own, ret, R⟩ := M
  obtain ⟨cy, nLy, owny, rety, Ry⟩ := My
  obtain ⟨hx, hb, hml, hown, hts, hr, hlk, hok, hn0, hK, hS0⟩ := E
  intro a ha H locs ls hP hS hl0
  cases hg : g with
  | none => rw [hg] at ha; cases ha
  | some r =>
    rw [hg] at ha
    subst hst
    obtain ⟨hw1, hw2, hw3, hw4⟩ := hw
    have hrec : ∃ cell : Cell, H[zx_xa K (zx_si b)]? = some cell ∧ cell.vm.isStatics = false ∧ s.vm.findClass "java/lang/String" = some cell.cls := by
      have h8 := hS0.1.2.2.2.2.2.2.2.1
      cases b
      · exact vk_recv h8 (i := 1) (by decide) hS
      · exact vk_recv h8 (i := 0) (by decide) hS
    refine zx_run (K := K) (va_runV (Ts := zx_G) (own := own) (C := "java/lang/String") (b := zx_xa K (zx_si b)) (As := As) (rest := st) ⟨hx, hb, hml, hown, hts⟩ (hM r hg) (cwV n hts hw1 rfl hw3 hw4 hw2 hR) ⟨zx_blind, hrec, fun U hU hW => ⟨rfl, zx_pre hok hn0 hK hS0 hP hS hU hW⟩⟩ rfl hn hl0.1 rfl (lv_room hsum) hd ⟨by omega, by omega⟩) hS (fun H1 locs1 hP1 hS1 => ?_)
    exact Kc r a ha H1 locs1 ls hP1 hS1 hl0
theorem zx_if_eqT (E : zx_E B M) {x : Int32} {off : Int} (tgt : Nat) (hx0 : x = 0) (hd : decode M.1 pc = .ok (.ifCond .eq off, 3)) (ht : (pc : Int) + off = (tgt : Int)) (kt : zx_X B M Qf sem ck cn tgt lv st h) : zx_X B M Qf sem ck cn pc lv (.int x :: st) h := by
  have := zx_if_eq (x := x) (semT := sem) (semF := none) E tgt hd ht zx_non kt
  rw [if_pos hx0] at this
  exact this
theorem zx_if_eqF (E : zx_E B M) {x : Int32} {off : Int} (tgt : Nat) (hx0 : ¬ x = 0) (hd : decode M.1 pc = .ok (.ifCond .eq off, 3)) (ht : (pc : Int) + off = (tgt : Int)) (kf : zx_X B M Qf sem ck cn (pc + 3) lv st h) : zx_X B M Qf sem ck cn pc lv (.int x :: st) h := by
  have := zx_if_eq (x := x) (semT := none) (semF := sem) E tgt hd ht kf zx_non
  rw [if_neg hx0] at this
  exact this
theorem zx_if_neF (E : zx_E B M) {x : Int32} {off : Int} (tgt : Nat) (hx0 : x = 0) (hd : decode M.1 pc = .ok (.ifCond .ne off, 3)) (ht : (pc : Int) + off = (tgt : Int)) (kf : zx_X B M Qf sem ck cn (pc + 3) lv st h) : zx_X B M Qf sem ck cn pc lv (.int x :: st) h := by
  have := zx_if_ne (x := x) (semT := none) (semF := sem) E tgt hd ht kf zx_non
  rw [if_pos hx0] at this
  exact this
theorem zx_if_ltF (E : zx_E B M) {x : Int32} {off : Int} (tgt : Nat) (hx0 : ¬ x < 0) (hd : decode M.1 pc = .ok (.ifCond .lt off, 3)) (ht : (pc : Int) + off = (tgt : Int)) (kf : zx_X B M Qf sem ck cn (pc + 3) lv st h) : zx_X B M Qf sem ck cn pc lv (.int x :: st) h := by
  have := zx_if_lt (x := x) (semT := none) (semF := sem) E tgt hd ht kf zx_non
  rw [if_neg hx0] at this
  exact this
theorem zx_icmp_ltT (E : zx_E B M) {x y : Int32} {off : Int} (tgt : Nat) (hx0 : x < y) (hd : decode M.1 pc = .ok (.if_icmp .lt off, 3)) (ht : (pc : Int) + off = (tgt : Int)) (kt : zx_X B M Qf sem ck cn tgt lv st h) : zx_X B M Qf sem ck cn pc lv (.int y :: .int x :: st) h := by
  have := zx_icmp_lt (x := x) (y := y) (semT := sem) (semF := none) E tgt hd ht zx_non kt
  rw [if_pos hx0] at this
  exact this
end ZXS
theorem zx_in_lo {x : Int32} {n : Nat} (h : vp_in x n) : ¬ x < 0 := fun q => h (Or.inl q)
theorem zx_in_hi {x : Int32} {b : Bool} (h : vp_in x (zx_sn b)) : x < zx_sl b := by
  have h0 : ¬ x < 0 := zx_in_lo h
  have h1 : x.toNatClampNeg < zx_sn b := Nat.not_le.mp fun q => h (Or.inr q)
  rw [Int32.lt_iff_toInt_lt] at h0 ⊢
  have e : x.toInt = (x.toNatClampNeg : Int) := by
    show x.toInt = ((x.toInt.toNat : Nat) : Int)
    have : (0 : Int32).toInt = 0 := rfl
    omega
  cases b
  · show x.toInt < (5 : Int32).toInt
    have : (5 : Int32).toInt = 5 := rfl
    have h1 : x.toNatClampNeg < 5 := h1
    omega
  · show x.toInt < (4 : Int32).toInt
    have : (4 : Int32).toInt = 4 := rfl
    have h1 : x.toNatClampNeg < 4 := h1
    omega
theorem zx_sc255 (b : Bool) (k : Nat) : zx_sc b k &&& 255 = zx_sc b k := by
  unfold zx_sc
  cases b
  · match k with
    | 0 => decide
    | 1 => decide
    | 2 => decide
    | 3 => decide
    | 4 => decide
    | k + 5 => first | (show (0 : Int32) &&& 255 = 0; decide) | simp
  · match k with
    | 0 => decide
    | 1 => decide
    | 2 => decide
    | 3 => decide
    | k + 4 => first | (show (0 : Int32) &&& 255 = 0; decide) | simp
theorem zt_Str_coder (l : Launch) (K : zx_K) (b : Bool) (h : zx_H) : zx_MR l zm_Str_coder zy_Str_coder K [.ref (zx_xa K (zx_si b))] h (some (.int 0)) h := by
  refine zx_ofM (M := zm_Str_coder) (y := zy_Str_coder) (r := (0 : Int32)) (as := [.ref (zx_xa K (zx_si b))]) (ρ := fun r => ((some (Value.int r) : Option Value), h)) (sem := some 0) (by decide) rfl rfl (Nat.le_of_ble_eq_true rfl) ?_
  intro B hl hK E
  subst hK; subst hl
  show zx_X B zm_Str_coder _ _ 0 0 0 [(0, .ref (zx_xa (zx_BK B) (zx_si b)))] [] h
  refine zx_scs E zw_979 dd_Str_coder_0 ?_
  refine zx_if_eqF E 13 (by decide) dd_Str_coder_3 rfl ?_
  refine zx_aload_n E 0 dd_Str_coder_6 rfl rfl ?_
  refine zx_scod E b zw_1527 dd_Str_coder_7 ?_
  refine zx_goto E 14 dd_Str_coder_10 rfl ?_
  exact zx_nret E .byte rfl rfl rfl dd_Str_coder_14
theorem zt_Str_length (l : Launch) (K : zx_K) (b : Bool) (h : zx_H) : zx_MR l zm_Str_length zy_Str_length K [.ref (zx_xa K (zx_si b))] h (some (.int (zx_sl b))) h := by
  refine zx_ofM (M := zm_Str_length) (y := zy_Str_length) (r := zx_sl b) (as := [.ref (zx_xa K (zx_si b))]) (ρ := fun r => ((some (Value.int r) : Option Value), h)) (sem := (some (0 : Int32)).bind (fun _ => some (zx_sl b))) (by decide) rfl rfl (Nat.le_of_ble_eq_true rfl) ?_
  intro B hl hK E
  subst hK; subst hl
  show zx_X B zm_Str_length _ _ 0 0 0 [(0, .ref (zx_xa (zx_BK B) (zx_si b)))] [] h
  refine zx_aload_n E 0 dd_Str_length_0 rfl rfl ?_
  refine zx_sval E b zw_1526 dd_Str_length_1 ?_
  refine zx_sblen E b dd_Str_length_4 ?_
  refine zx_aload_n E 0 dd_Str_length_5 rfl rfl ?_
  refine zx_callT (g := some (0 : Int32)) (ks := fun _ => some (zx_sl b)) E b (fun _ => ((some (Value.int 0) : Option Value), h)) [] (fun _ _ => zt_Str_coder _ _ b h) zcs_coder ⟨by decide, by decide⟩ (Nat.zero_le _) (Nat.zero_le _) rfl rfl (Nat.le_of_ble_eq_true rfl) dd_Str_length_6 (fun r => ?_)
  show zx_X B zm_Str_length _ (some (zx_sl b)) 0 0 9 _ [.int 0, .int (zx_sl b)] h
  refine zx_ishr E dd_Str_length_9 ?_
  rw [show zx_sl b >>> ((0 : Int32) &&& 31) = zx_sl b by cases b <;> decide]
  exact zx_iret E rfl rfl dd_Str_length_10
theorem zt_Str_isLatin1 (l : Launch) (K : zx_K) (b : Bool) (h : zx_H) : zx_MR l zm_Str_isLatin1 zy_Str_isLatin1 K [.ref (zx_xa K (zx_si b))] h (some (.int 1)) h := by
  refine zx_ofM (M := zm_Str_isLatin1) (y := zy_Str_isLatin1) (r := (1 : Int32)) (as := [.ref (zx_xa K (zx_si b))]) (ρ := fun r => ((some (Value.int r) : Option Value), h)) (sem := some 1) (by decide) rfl rfl (Nat.le_of_ble_eq_true rfl) ?_
  intro B hl hK E
  subst hK; subst hl
  show zx_X B zm_Str_isLatin1 _ _ 0 0 0 [(0, .ref (zx_xa (zx_BK B) (zx_si b)))] [] h
  refine zx_scs E zw_979 dd_Str_isLatin1_0 ?_
  refine zx_if_eqF E 17 (by decide) dd_Str_isLatin1_3 rfl ?_
  refine zx_aload_n E 0 dd_Str_isLatin1_6 rfl rfl ?_
  refine zx_scod E b zw_1527 dd_Str_isLatin1_7 ?_
  refine zx_if_neF E 17 rfl dd_Str_isLatin1_10 rfl ?_
  refine zx_iconst E (1 : Int32) dd_Str_isLatin1_13 (by decide) ?_
  refine zx_goto E 18 dd_Str_isLatin1_14 rfl ?_
  exact zx_zret E true rfl rfl rfl dd_Str_isLatin1_18
theorem zt_Pre_checkIndex (l : Launch) (K : zx_K) (x n : Int32) (v : Value) (hv : v.category = 1) (h1 : ¬ x < 0) (h2 : x < n) (h : zx_H) : zx_MR l zm_Pre_checkIndex zy_Pre_checkIndex K [.int x, .int n, v] h (some (.int x)) h := by
  refine zx_ofM (M := zm_Pre_checkIndex) (y := zy_Pre_checkIndex) (r := x) (as := [.int x, .int n, v]) (ρ := fun r => ((some (Value.int r) : Option Value), h)) (sem := some x) (by decide) rfl rfl (by cases v <;> first | exact Nat.le_of_ble_eq_true rfl | cases hv) ?_
  intro B hl hK E
  subst hK; subst hl
  have key : ∀ lv, lv = [(0, .int x), (1, .int n), (2, v)] → zx_X B zm_Pre_checkIndex (zx_QM B (fun r => ((some (Value.int r) : Option Value), h))) (some x) 0 0 0 lv [] h := by
    intro lv hlv
    subst hlv
    refine zx_iload_n E 0 dd_Pre_checkIndex_0 rfl rfl ?_
    refine zx_if_ltF E 9 h1 dd_Pre_checkIndex_1 rfl ?_
    refine zx_iload_n E 0 dd_Pre_checkIndex_4 rfl rfl ?_
    refine zx_iload_n E 1 dd_Pre_checkIndex_5 rfl rfl ?_
    refine zx_icmp_ltT E 16 h2 dd_Pre_checkIndex_6 rfl ?_
    refine zx_iload_n E 0 dd_Pre_checkIndex_16 rfl rfl ?_
    exact zx_iret E rfl rfl dd_Pre_checkIndex_17
  exact key _ (by cases v <;> first | rfl | cases hv)
theorem zt_Str_checkIndex (l : Launch) (K : zx_K) (x n : Int32) (h1 : ¬ x < 0) (h2 : x < n) (h : zx_H) : zx_MR l zm_Str_checkIndex zy_Str_checkIndex K [.int x, .int n] h none h := by
  refine zx_ofM (M := zm_Str_checkIndex) (y := zy_Str_checkIndex) (r := ()) (as := [.int x, .int n]) (ρ := fun _ => ((none : Option Value), h)) (sem := (some x).bind (fun _ => some ())) (by decide) rfl rfl (Nat.le_of_ble_eq_true rfl) ?_
  intro B hl hK E
  subst hK; subst hl
  show zx_X B zm_Str_checkIndex _ _ 0 0 0 [(0, .int x), (1, .int n)] [] h
  refine zx_iload_n E 0 dd_Str_checkIndex_0 rfl rfl ?_
  refine zx_iload_n E 1 dd_Str_checkIndex_1 rfl rfl ?_
  refine zx_sxx E zw_995 dd_Str_checkIndex_2 (fun v hv => ?_)
  refine zx_callS_i E [.int x, .int n, v] (fun r e9 => by cases e9; exact zt_Pre_checkIndex _ _ x n v hv h1 h2 h) zcs_pCheck ⟨by decide, by decide⟩ (Nat.zero_le _) (Nat.zero_le _) rfl rfl (Nat.le_of_ble_eq_true rfl) dd_Str_checkIndex_5 (fun r => ?_)
  refine zx_pop E dd_Str_checkIndex_8 rfl ?_
  exact zx_vret E rfl rfl dd_Str_checkIndex_9
theorem zt_Lat_charAt (l : Launch) (K : zx_K) (b : Bool) (x : Int32) (hin : vp_in x (zx_sn b)) (h : zx_H) : zx_MR l zm_Lat_charAt zy_Lat_charAt K [.ref (zx_xa K (zx_vi b)), .int x] h (some (.int (zx_sc b x.toNatClampNeg))) h := by
  refine zx_ofM (M := zm_Lat_charAt) (y := zy_Lat_charAt) (r := zx_sc b x.toNatClampNeg) (as := [.ref (zx_xa K (zx_vi b)), .int x]) (ρ := fun r => ((some (Value.int r) : Option Value), h)) (sem := (some ()).bind (fun _ => some (zx_sc b x.toNatClampNeg))) (by decide) rfl rfl (Nat.le_of_ble_eq_true rfl) ?_
  intro B hl hK E
  subst hK; subst hl
  show zx_X B zm_Lat_charAt _ _ 0 0 0 [(0, .ref (zx_xa (zx_BK B) (zx_vi b))), (1, .int x)] [] h
  refine zx_iload_n E 1 dd_Lat_charAt_0 rfl rfl ?_
  refine zx_aload_n E 0 dd_Lat_charAt_1 rfl rfl ?_
  refine zx_sblen E b dd_Lat_charAt_2 ?_
  refine zx_callS (g := some ()) (ks := fun _ => some (zx_sc b x.toNatClampNeg)) E (fun _ => ((none : Option Value), h)) [.int x, .int (zx_sl b)] (fun _ _ => zt_Str_checkIndex _ _ x (zx_sl b) (zx_in_lo hin) (zx_in_hi hin) h) zcs_sCheck ⟨by decide, by decide⟩ (Nat.zero_le _) (Nat.zero_le _) rfl rfl (Nat.le_of_ble_eq_true rfl) dd_Lat_charAt_3 (fun r => ?_)
  refine zx_aload_n E 0 dd_Lat_charAt_6 rfl rfl ?_
  refine zx_iload_n E 1 dd_Lat_charAt_7 rfl rfl ?_
  refine zx_sbald E b hin dd_Lat_charAt_8 ?_
  refine zx_sipush E (255 : Int32) dd_Lat_charAt_9 (by decide) ?_
  refine zx_iand E dd_Lat_charAt_12 ?_
  refine zx_i2c E dd_Lat_charAt_13 ?_
  rw [show zx_ci2c (zx_sc b x.toNatClampNeg &&& 255) = zx_sc b x.toNatClampNeg from (sc_c2 _).trans (zx_sc255 b _)]
  exact zx_nret E .char (by have h9 := sc_nar (zx_sc b x.toNatClampNeg); rw [zx_sc255] at h9; exact h9) rfl rfl dd_Lat_charAt_14
theorem zt_Str_charAt (l : Launch) (K : zx_K) (b : Bool) (x : Int32) (hin : vp_in x (zx_sn b)) (h : zx_H) : zx_MR l zm_Str_charAt zy_Str_charAt K [.ref (zx_xa K (zx_si b)), .int x] h (some (.int (zx_sc b x.toNatClampNeg))) h := by
  refine zx_ofM (M := zm_Str_charAt) (y := zy_Str_charAt) (r := zx_sc b x.toNatClampNeg) (as := [.ref (zx_xa K (zx_si b)), .int x]) (ρ := fun r => ((some (Value.int r) : Option Value), h)) (sem := (some ()).bind (fun _ => (some ()).bind (fun _ => some (zx_sc b x.toNatClampNeg)))) (by decide) rfl rfl (Nat.le_of_ble_eq_true rfl) ?_
  intro B hl hK E
  subst hK; subst hl
  show zx_X B zm_Str_charAt _ _ 0 0 0 [(0, .ref (zx_xa (zx_BK B) (zx_si b))), (1, .int x)] [] h
  refine zx_aload_n E 0 dd_Str_charAt_0 rfl rfl ?_
  refine zx_callT (g := some ()) (ks := fun _ => (some ()).bind (fun _ => some (zx_sc b x.toNatClampNeg))) E b (fun _ => ((some (Value.int 1) : Option Value), h)) [] (fun _ _ => zt_Str_isLatin1 _ _ b h) zcs_isLatin1 ⟨by decide, by decide⟩ (Nat.zero_le _) (Nat.zero_le _) rfl rfl (Nat.le_of_ble_eq_true rfl) dd_Str_charAt_1 (fun r => ?_)
  show zx_X B zm_Str_charAt _ ((some ()).bind (fun _ => some (zx_sc b x.toNatClampNeg))) 0 0 4 _ [.int 1] h
  refine zx_if_eqF E 16 (by decide) dd_Str_charAt_4 rfl ?_
  refine zx_aload_n E 0 dd_Str_charAt_7 rfl rfl ?_
  refine zx_sval E b zw_1526 dd_Str_charAt_8 ?_
  refine zx_iload_n E 1 dd_Str_charAt_11 rfl rfl ?_
  refine zx_callS (g := some ()) (ks := fun _ => some (zx_sc b x.toNatClampNeg)) E (fun _ => ((some (Value.int (zx_sc b x.toNatClampNeg)) : Option Value), h)) [.ref (zx_xa (zx_BK B) (zx_vi b)), .int x] (fun _ _ => zt_Lat_charAt _ _ b x hin h) zcs_l1 ⟨by decide, by decide⟩ (Nat.zero_le _) (Nat.zero_le _) rfl rfl (Nat.le_of_ble_eq_true rfl) dd_Str_charAt_12 (fun r => ?_)
  exact zx_nret E .char (by have h9 := sc_nar (zx_sc b x.toNatClampNeg); rw [zx_sc255] at h9; exact h9) rfl rfl dd_Str_charAt_15
section ZXS2
variable {B : zx_B} {M : zx_M} {α : Type} {Qf : α → State → Prop} {sem : Option α} {ck cn pc : Nat} {lv : List (Nat × Value)} {st : List Value} {h : zx_H}
theorem zx_strlen (E : zx_E B M) {b : Bool} (hown : M.2.2.1 = "BeanLoom$Converter") (hR : zx_rm M zm_Str_length) (hck : ck ≤ M.2.2.2.2.cells) (hcn : cn ≤ M.2.2.2.2.slots) (hsum : (st.map fun v => v.category).sum ≤ 8) (hd : decode M.1 pc = .ok (.invokevirtual 144, 3)) (Kc : zx_X B M Qf sem ck cn (pc + 3) lv (.int (zx_sl b) :: st) h) : zx_X B M Qf sem ck cn pc lv (.ref (zx_xa (zx_BK B) (zx_si b)) :: st) h :=
  zx_callT (g := some ()) (ks := fun _ => sem) (n := 0) (My := zm_Str_length) (y := zy_Str_length) E b (fun _ => ((some (Value.int (zx_sl b)) : Option Value), h)) [] (fun _ _ => zt_Str_length _ _ b h) (by rw [hown]; exact zcs_length) hR hck hcn rfl rfl hsum hd (fun _ => Kc)
theorem zx_strchr (E : zx_E B M) {b : Bool} {x : Int32} (hown : M.2.2.1 = "BeanLoom$Converter") (hR : zx_rm M zm_Str_charAt) (hck : ck ≤ M.2.2.2.2.cells) (hcn : cn ≤ M.2.2.2.2.slots) (hsum : (st.map fun v => v.category).sum ≤ 8) (hd : decode M.1 pc = .ok (.invokevirtual 149, 3)) (Kc : zx_X B M Qf sem ck cn (pc + 3) lv (.int (zx_sc b x.toNatClampNeg) :: st) h) : zx_X B M Qf (if zx_in x (zx_sn b) = true then sem else none) ck cn pc lv (.int x :: .ref (zx_xa (zx_BK B) (zx_si b)) :: st) h := by
  by_cases hin : zx_in x (zx_sn b) = true
  · rw [if_pos hin]
    exact zx_callT (g := some ()) (ks := fun _ => sem) (n := 1) (My := zm_Str_charAt) (y := zy_Str_charAt) E b (fun _ => ((some (Value.int (zx_sc b x.toNatClampNeg)) : Option Value), h)) [.int x] (fun _ _ => zt_Str_charAt _ _ b x (zx_in_vp hin) h) (by rw [hown]; exact zcs_charAt) hR hck hcn rfl rfl hsum hd (fun _ => Kc)
  · rw [if_neg hin]; exact zx_non
end ZXS2

