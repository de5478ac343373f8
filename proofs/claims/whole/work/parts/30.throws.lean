/-! methods that throw, helpers (printed by gen.py) -/
set_option maxRecDepth 100000 in
theorem ztc_Loom_67 : zx_Tc "BeanLoom" 67 "java/lang/IllegalArgumentException" := ⟨by decide +kernel, by decide +kernel, zw_16, by decide +kernel⟩
set_option maxRecDepth 100000 in
theorem ztc_Loom_78 : zx_Tc "BeanLoom" 78 "java/lang/IllegalStateException" := ⟨by decide +kernel, by decide +kernel, zw_17, by decide +kernel⟩
set_option maxRecDepth 100000 in
theorem ztc_Loom_265 : zx_Tc "BeanLoom" 265 "java/lang/UnsupportedOperationException" := ⟨by decide +kernel, by decide +kernel, zw_25, by decide +kernel⟩
set_option maxRecDepth 100000 in
theorem ztc_Loom_270 : zx_Tc "BeanLoom" 270 "java/lang/IndexOutOfBoundsException" := ⟨by decide +kernel, by decide +kernel, zw_26, by decide +kernel⟩
theorem zct_Law_enumeration_1 : zx_ct "BeanLoomLaw" [(0, 11, 14, 13), (0, 11, 18, 15)] 6 1 14 := zx_ct0 rfl (by decide) (by decide) zw_462 (zx_Nt 476 (by decide +kernel) rfl) rfl
theorem zct_Law_enumeration_2 : zx_ct "BeanLoomLaw" [(0, 11, 14, 13), (0, 11, 18, 15)] 6 2 18 := zx_ct1 rfl ⟨by decide, _, zw_462, by decide +kernel, by decide +kernel, by decide +kernel⟩ (by decide) (by decide) zw_463 (zx_Nt 549 (by decide +kernel) rfl) rfl
theorem zct_Law_bean_2 : zx_ct "BeanLoomLaw" [(0, 8, 11, 15)] 3 2 11 := zx_ct0 rfl (by decide) (by decide) zw_463 (zx_Nt 549 (by decide +kernel) rfl) rfl
theorem zct_Law_property_1 : zx_ct "BeanLoomLaw" [(0, 12, 15, 13), (0, 12, 19, 15)] 7 1 15 := zx_ct0 rfl (by decide) (by decide) zw_462 (zx_Nt 476 (by decide +kernel) rfl) rfl
theorem zct_Law_property_2 : zx_ct "BeanLoomLaw" [(0, 12, 15, 13), (0, 12, 19, 15)] 7 2 19 := zx_ct1 rfl ⟨by decide, _, zw_462, by decide +kernel, by decide +kernel, by decide +kernel⟩ (by decide) (by decide) zw_463 (zx_Nt 549 (by decide +kernel) rfl) rfl
theorem zct_Law_list_1 : zx_ct "BeanLoomLaw" [(0, 9, 12, 13), (0, 9, 15, 15)] 4 1 12 := zx_ct0 rfl (by decide) (by decide) zw_462 (zx_Nt 476 (by decide +kernel) rfl) rfl
theorem zct_Law_list_2 : zx_ct "BeanLoomLaw" [(0, 9, 12, 13), (0, 9, 15, 15)] 4 2 15 := zx_ct1 rfl ⟨by decide, _, zw_462, by decide +kernel, by decide +kernel, by decide +kernel⟩ (by decide) (by decide) zw_463 (zx_Nt 549 (by decide +kernel) rfl) rfl
theorem zct_Law_method_1 : zx_ct "BeanLoomLaw" [(0, 10, 13, 13), (0, 10, 17, 15)] 5 1 13 := zx_ct0 rfl (by decide) (by decide) zw_462 (zx_Nt 476 (by decide +kernel) rfl) rfl
theorem zct_Law_method_2 : zx_ct "BeanLoomLaw" [(0, 10, 13, 13), (0, 10, 17, 15)] 5 2 17 := zx_ct1 rfl ⟨by decide, _, zw_462, by decide +kernel, by decide +kernel, by decide +kernel⟩ (by decide) (by decide) zw_463 (zx_Nt 549 (by decide +kernel) rfl) rfl
theorem zct_Law_function_1 : zx_ct "BeanLoomLaw" [(0, 14, 17, 13), (0, 14, 21, 15)] 9 1 17 := zx_ct0 rfl (by decide) (by decide) zw_462 (zx_Nt 476 (by decide +kernel) rfl) rfl
theorem zct_Law_function_2 : zx_ct "BeanLoomLaw" [(0, 14, 17, 13), (0, 14, 21, 15)] 9 2 21 := zx_ct1 rfl ⟨by decide, _, zw_462, by decide +kernel, by decide +kernel, by decide +kernel⟩ (by decide) (by decide) zw_463 (zx_Nt 549 (by decide +kernel) rfl) rfl
theorem zct_Law_rule_1 : zx_ct "BeanLoomLaw" [(0, 9, 12, 13), (0, 9, 16, 15)] 6 1 12 := zx_ct0 rfl (by decide) (by decide) zw_462 (zx_Nt 476 (by decide +kernel) rfl) rfl
theorem zct_Law_rule_2 : zx_ct "BeanLoomLaw" [(0, 9, 12, 13), (0, 9, 16, 15)] 6 2 16 := zx_ct1 rfl ⟨by decide, _, zw_462, by decide +kernel, by decide +kernel, by decide +kernel⟩ (by decide) (by decide) zw_463 (zx_Nt 549 (by decide +kernel) rfl) rfl
theorem zct_Law_build_1 : zx_ct "BeanLoomLaw" [(0, 8, 11, 13), (0, 8, 14, 15)] 3 1 11 := zx_ct0 rfl (by decide) (by decide) zw_462 (zx_Nt 476 (by decide +kernel) rfl) rfl
theorem zct_Law_build_2 : zx_ct "BeanLoomLaw" [(0, 8, 11, 13), (0, 8, 14, 15)] 3 2 14 := zx_ct1 rfl ⟨by decide, _, zw_462, by decide +kernel, by decide +kernel, by decide +kernel⟩ (by decide) (by decide) zw_463 (zx_Nt 549 (by decide +kernel) rfl) rfl
theorem zct_Law_make_1 : zx_ct "BeanLoomLaw" [(0, 11, 14, 13), (0, 11, 18, 15)] 6 1 14 := zx_ct0 rfl (by decide) (by decide) zw_462 (zx_Nt 476 (by decide +kernel) rfl) rfl
theorem zct_Law_make_2 : zx_ct "BeanLoomLaw" [(0, 11, 14, 13), (0, 11, 18, 15)] 6 2 18 := zx_ct1 rfl ⟨by decide, _, zw_462, by decide +kernel, by decide +kernel, by decide +kernel⟩ (by decide) (by decide) zw_463 (zx_Nt 549 (by decide +kernel) rfl) rfl
theorem zct_Law_map_1 : zx_ct "BeanLoomLaw" [(0, 10, 13, 13), (0, 10, 17, 15), (0, 10, 21, 51)] 5 1 13 := zx_ct0 rfl (by decide) (by decide) zw_462 (zx_Nt 476 (by decide +kernel) rfl) rfl
theorem zct_Law_map_2 : zx_ct "BeanLoomLaw" [(0, 10, 13, 13), (0, 10, 17, 15), (0, 10, 21, 51)] 5 2 17 := zx_ct1 rfl ⟨by decide, _, zw_462, by decide +kernel, by decide +kernel, by decide +kernel⟩ (by decide) (by decide) zw_463 (zx_Nt 549 (by decide +kernel) rfl) rfl
theorem zct_Law_map_4 : zx_ct "BeanLoomLaw" [(0, 10, 13, 13), (0, 10, 17, 15), (0, 10, 21, 51)] 5 4 21 := zx_ct2 rfl ⟨by decide, _, zw_462, by decide +kernel, by decide +kernel, by decide +kernel⟩ ⟨by decide, _, zw_463, by decide +kernel, by decide +kernel, by decide +kernel⟩ (by decide) (by decide) zw_828 (zx_Nt 1053 (by decide +kernel) rfl) rfl
theorem zct_Law_get_3 : zx_ct "BeanLoomLaw" [(0, 9, 12, 57)] 5 3 12 := zx_ct0 rfl (by decide) (by decide) zw_1070 (zx_Nt 1077 (by decide +kernel) rfl) rfl
theorem zct_Law_about_3 : zx_ct "BeanLoomLaw" [(0, 10, 13, 57)] 5 3 13 := zx_ct0 rfl (by decide) (by decide) zw_1070 (zx_Nt 1077 (by decide +kernel) rfl) rfl
theorem zcx_Law_7 : zx_Wx "BeanLoomLaw" 7 "BeanLoom" zy_Loom_enumeration zm_Loom_enumeration 2 := zx_WxOf (y := zy_Loom_enumeration) zw_464 zw_465 zw_466 zw_1 zw_467 (by decide +kernel) rfl rfl
theorem zcx_Law_17 : zx_Wx "BeanLoomLaw" 17 "BeanLoom" zy_Loom_bean zm_Loom_bean 0 := zx_WxOf (y := zy_Loom_bean) zw_575 zw_576 zw_577 zw_1 zw_578 (by decide +kernel) rfl rfl
theorem zcx_Law_21 : zx_Wx "BeanLoomLaw" 21 "BeanLoom" zy_Loom_property zm_Loom_property 3 := zx_WxOf (y := zy_Loom_property) zw_582 zw_583 zw_584 zw_1 zw_585 (by decide +kernel) rfl rfl
theorem zcx_Law_25 : zx_Wx "BeanLoomLaw" 25 "BeanLoom" zy_Loom_list zm_Loom_list 1 := zx_WxOf (y := zy_Loom_list) zw_600 zw_601 zw_602 zw_1 zw_603 (by decide +kernel) rfl rfl
theorem zcx_Law_29 : zx_Wx "BeanLoomLaw" 29 "BeanLoom" zy_Loom_method zm_Loom_method 2 := zx_WxOf (y := zy_Loom_method) zw_613 zw_614 zw_615 zw_1 zw_616 (by decide +kernel) rfl rfl
theorem zcx_Law_33 : zx_Wx "BeanLoomLaw" 33 "BeanLoom" zy_Loom_function zm_Loom_function 4 := zx_WxOf (y := zy_Loom_function) zw_627 zw_628 zw_629 zw_1 zw_630 (by decide +kernel) rfl rfl
theorem zcx_Law_37 : zx_Wx "BeanLoomLaw" 37 "BeanLoom" zy_Loom_rule zm_Loom_rule 4 := zx_WxOf (y := zy_Loom_rule) zw_643 zw_644 zw_645 zw_1 zw_646 (by decide +kernel) rfl rfl
theorem zcx_Law_41 : zx_Wx "BeanLoomLaw" 41 "BeanLoom" zy_Loom_build zm_Loom_build 0 := zx_WxOf (y := zy_Loom_build) zw_660 zw_661 zw_662 zw_1 zw_663 (by decide +kernel) rfl rfl
theorem zcx_Law_44 : zx_Wx "BeanLoomLaw" 44 "BeanLoom" zy_Loom_make zm_Loom_make 2 := zx_WxOf (y := zy_Loom_make) zw_790 zw_791 zw_792 zw_1 zw_793 (by decide +kernel) rfl rfl
theorem zcx_Law_48 : zx_Wx "BeanLoomLaw" 48 "BeanLoom" zy_Loom_map zm_Loom_map 2 := zx_WxOf (y := zy_Loom_map) zw_829 zw_830 zw_831 zw_1 zw_832 (by decide +kernel) rfl rfl
theorem zcx_Law_53 : zx_Wx "BeanLoomLaw" 53 "BeanLoom" zy_Loom_get zm_Loom_get 2 := zx_WxOf (y := zy_Loom_get) zw_1071 zw_1072 zw_1073 zw_1 zw_1074 (by decide +kernel) rfl rfl
theorem zcx_Law_59 : zx_Wx "BeanLoomLaw" 59 "BeanLoom" zy_Loom_about zm_Loom_about 2 := zx_WxOf (y := zy_Loom_about) zw_1095 zw_1096 zw_1097 zw_1 zw_1098 (by decide +kernel) rfl rfl
set_option maxHeartbeats 4000000 in
set_option maxRecDepth 20000 in
theorem zj_Loom_enumeration_19 {B : zx_B} (E : zx_E B zm_Loom_enumeration) (T : zx_T B) (hst : (zx_Bl B).stackTraces = false)   (h : zx_H) : zx_X B zm_Loom_enumeration (zx_QX B (fun r => (r.1, (some (Value.int r.2.1) : Option Value), r.2.2))) (zs_Loom_enumeration_J19  h) 0 0 19 [] [] h := by
  unfold zs_Loom_enumeration_J19
  exact zx_throw E T (cd := 1) (text := "not 1 to 8 different names") rfl (by decide) rfl ztc_Loom_67 zw_474 ⟨rfl, rfl⟩ (by decide +kernel) ⟨by decide, Nat.le_of_ble_eq_true rfl, by decide, by decide⟩ dd_Loom_enumeration_19 dd_Loom_enumeration_22 dd_Loom_enumeration_23 dd_Loom_enumeration_25 dd_Loom_enumeration_28
set_option maxHeartbeats 4000000 in
set_option maxRecDepth 20000 in
theorem zj_Loom_enumeration_46 {B : zx_B} (E : zx_E B zm_Loom_enumeration) (T : zx_T B) (hst : (zx_Bl B).stackTraces = false)   (h : zx_H) : zx_X B zm_Loom_enumeration (zx_QX B (fun r => (r.1, (some (Value.int r.2.1) : Option Value), r.2.2))) (zs_Loom_enumeration_J46  h) 0 0 46 [] [] h := by
  unfold zs_Loom_enumeration_J46
  exact zx_throw E T (cd := 2) (text := "built, or no room for a type") rfl (by decide) rfl ztc_Loom_78 zw_547 ⟨rfl, rfl⟩ (by decide +kernel) ⟨by decide, Nat.le_of_ble_eq_true rfl, by decide, by decide⟩ dd_Loom_enumeration_46 dd_Loom_enumeration_49 dd_Loom_enumeration_50 dd_Loom_enumeration_52 dd_Loom_enumeration_55
set_option maxHeartbeats 4000000 in
set_option maxRecDepth 20000 in
theorem zb_Loom_enumeration_70 {B : zx_B} (E : zx_E B zm_Loom_enumeration) (T : zx_T B) (hst : (zx_Bl B).stackTraces = false)  (k70 : (Int64 → Int32 → Int32 → Int32 → zx_H → Option (Nat × Int32 × zx_H))) (hk70 : ∀ (x1 : Int64) (x3 : Int32) (x4 : Int32) (x5 : Int32) (h : zx_H), zx_X B zm_Loom_enumeration (zx_QX B (fun r => (r.1, (some (Value.int r.2.1) : Option Value), r.2.2))) (k70 x1 x3 x4 x5 h) 0 0 70 [(0, zx_rV (zx_BK B) 0 0), (1, .long x1), (3, .int x3), (4, .int x4), (5, .int x5)] [] h) (x1 : Int64) (x3 : Int32) (x4 : Int32) (x5 : Int32) (h : zx_H) : zx_X B zm_Loom_enumeration (zx_QX B (fun r => (r.1, (some (Value.int r.2.1) : Option Value), r.2.2))) (zs_Loom_enumeration_L70_body  k70 x1 x3 x4 x5 h) 0 0 70 [(0, zx_rV (zx_BK B) 0 0), (1, .long x1), (3, .int x3), (4, .int x4), (5, .int x5)] [] h := by
  unfold zs_Loom_enumeration_L70_body
  refine zx_iload E 4 dd_Loom_enumeration_70 rfl ?_
  refine zx_iload_n E 2 dd_Loom_enumeration_72 rfl rfl ?_
  refine zx_icmp_ge E 99 dd_Loom_enumeration_73 rfl ?_ ?_
  rotate_left
  · refine zx_iload E 3 dd_Loom_enumeration_99 rfl ?_
    exact zx_xiret E rfl rfl dd_Loom_enumeration_101
  refine zx_aload_n E 0 dd_Loom_enumeration_76 rfl rfl ?_
  refine zx_getR E 1 0 zd_Loom_types zg_0 Nat.zero_lt_one (zr_Loom_types _) zw_355 dd_Loom_enumeration_77 ?_
  refine zx_iload E 3 dd_Loom_enumeration_80 rfl ?_
  refine zx_lload_n E 1 dd_Loom_enumeration_82 rfl rfl ?_
  refine zx_iload E 4 dd_Loom_enumeration_83 rfl ?_
  refine zx_callS_i E [.long x1, .int x5] (fun rZ eZ => zt_Types_nameIn _ _ x1 x5 h _ eZ) zc_Loom_83 ⟨by decide, by decide⟩ (Nat.zero_le _) (Nat.zero_le _) rfl rfl (Nat.le_of_ble_eq_true rfl) dd_Loom_enumeration_85 (fun r1 => ?_)
  refine zx_iconst E (-1 : Int32) dd_Loom_enumeration_88 (by decide) ?_
  refine zx_callV_iw (T := zx_TTypes) E [.int x4, .int r1, .int (-1 : Int32)] (fun rZ eZ => zt_Types_addMember _ _ x4 r1 (-1 : Int32) h _ eZ) zg_1 Nat.zero_lt_one rfl zc_Loom_87 ⟨by decide, by decide⟩ (Nat.zero_le _) (Nat.zero_le _) rfl rfl (Nat.le_of_ble_eq_true rfl) dd_Loom_enumeration_89 (fun r2 => ?_)
  refine zx_pop E dd_Loom_enumeration_92 rfl ?_
  refine zx_iinc E 4 (x5 + (1 : Int32)) (lv1 := [(5, .int (x5 + (1 : Int32))), (0, zx_rV (zx_BK B) 0 0), (1, .long x1), (3, .int x3), (4, .int x4)]) dd_Loom_enumeration_93 rfl rfl (by decide) rfl ?_
  refine zx_goto E 70 dd_Loom_enumeration_96 rfl ?_
  refine zx_sub [1, 2, 3, 4, 0] rfl ?_
  exact hk70 x1 x3 x4 (x5 + (1 : Int32)) r2.2
theorem zj_Loom_enumeration_70 {B : zx_B} (E : zx_E B zm_Loom_enumeration) (T : zx_T B) (hst : (zx_Bl B).stackTraces = false)  : ∀ (x1 : Int64) (x3 : Int32) (x4 : Int32) (x5 : Int32) (h : zx_H), zx_X B zm_Loom_enumeration (zx_QX B (fun r => (r.1, (some (Value.int r.2.1) : Option Value), r.2.2))) (zs_Loom_enumeration_L70  x1 x3 x4 x5 h) 0 0 70 [(0, zx_rV (zx_BK B) 0 0), (1, .long x1), (3, .int x3), (4, .int x4), (5, .int x5)] [] h := by
  unfold zs_Loom_enumeration_L70
  generalize zx_fuel = n
  induction n with
  | zero => intros; exact zx_non
  | succ n ih => intro x1 x3 x4 x5 h; exact zb_Loom_enumeration_70 E T hst  _ ih x1 x3 x4 x5 h
set_option maxHeartbeats 4000000 in
set_option maxRecDepth 20000 in
theorem zt_Loom_enumeration (l : Launch) (hst : l.stackTraces = false) (K : zx_K) (a1 : Int64) (a3 : Int32) (h : zx_H) (r : (Nat × Int32 × zx_H)) (hf : zs_Loom_enumeration a1 a3 h = some r) : zx_MX l zm_Loom_enumeration zy_Loom_enumeration K [zx_rV K 0 0, .long a1, .int a3] h r.1 (some (.int r.2.1)) r.2.2 := by
  refine zx_ofX (M := zm_Loom_enumeration) (y := zy_Loom_enumeration) (r := r) (as := [zx_rV K 0 0, .long a1, .int a3]) (ρ := (fun r => (r.1, (some (Value.int r.2.1) : Option Value), r.2.2))) hst (by decide) rfl hf (Nat.le_of_ble_eq_true rfl) ?_
  intro B hl hK E T
  subst hK
  subst hl
  show zx_X B zm_Loom_enumeration _ _ 0 0 0 [(0, zx_rV (zx_BK B) 0 0), (1, .long a1), (3, .int a3)] [] h
  unfold zs_Loom_enumeration
  refine zx_iload_n E 2 dd_Loom_enumeration_0 rfl rfl ?_
  refine zx_iconst E (1 : Int32) dd_Loom_enumeration_1 (by decide) ?_
  refine zx_icmp_lt E 19 dd_Loom_enumeration_2 rfl ?_ ?_
  rotate_left
  · refine zx_sub [] rfl ?_
    exact zj_Loom_enumeration_19 E T hst h
  refine zx_iload_n E 2 dd_Loom_enumeration_5 rfl rfl ?_
  refine zx_bipush E (8 : Int32) dd_Loom_enumeration_6 (by decide) ?_
  refine zx_icmp_gt E 19 dd_Loom_enumeration_8 rfl ?_ ?_
  rotate_left
  · refine zx_sub [] rfl ?_
    exact zj_Loom_enumeration_19 E T hst h
  refine zx_lload_n E 1 dd_Loom_enumeration_11 rfl rfl ?_
  refine zx_iload_n E 2 dd_Loom_enumeration_12 rfl rfl ?_
  refine zx_callS_z E [.long a1, .int a3] (fun rZ eZ => zt_Types_areNames _ _ a1 a3 h _ eZ) zc_Loom_59 ⟨by decide, by decide⟩ (Nat.zero_le _) (Nat.zero_le _) rfl rfl (Nat.le_of_ble_eq_true rfl) dd_Loom_enumeration_13 (fun r1 => ?_)
  refine zx_ifb_ne E (x := r1) 29 dd_Loom_enumeration_16 rfl ?_ ?_
  · refine zx_sub [] rfl ?_
    exact zj_Loom_enumeration_19 E T hst h
  refine zx_aload_n E 0 dd_Loom_enumeration_29 rfl rfl ?_
  refine zx_getI E zd_Loom_built zg_0 Nat.zero_lt_one zw_360 dd_Loom_enumeration_30 ?_
  refine zx_if_ne E 46 dd_Loom_enumeration_33 rfl ?_ ?_
  rotate_left
  · refine zx_sub [] rfl ?_
    exact zj_Loom_enumeration_46 E T hst h
  refine zx_aload_n E 0 dd_Loom_enumeration_36 rfl rfl ?_
  refine zx_getR E 1 0 zd_Loom_types zg_0 Nat.zero_lt_one (zr_Loom_types _) zw_355 dd_Loom_enumeration_37 ?_
  refine zx_callV_z (T := zx_TTypes) E [] (fun rZ eZ => zt_Types_isFull _ _ h _ eZ) zg_1 Nat.zero_lt_one rfl zc_Loom_70 ⟨by decide, by decide⟩ (Nat.zero_le _) (Nat.zero_le _) rfl rfl (Nat.le_of_ble_eq_true rfl) dd_Loom_enumeration_40 (fun r2 => ?_)
  refine zx_ifb_eq E (x := r2) 56 dd_Loom_enumeration_43 rfl ?_ ?_
  · refine zx_sub [] rfl ?_
    exact zj_Loom_enumeration_46 E T hst h
  refine zx_aload_n E 0 dd_Loom_enumeration_56 rfl rfl ?_
  refine zx_getR E 1 0 zd_Loom_types zg_0 Nat.zero_lt_one (zr_Loom_types _) zw_355 dd_Loom_enumeration_57 ?_
  refine zx_iconst E (1 : Int32) dd_Loom_enumeration_60 (by decide) ?_
  refine zx_iconst E (-1 : Int32) dd_Loom_enumeration_61 (by decide) ?_
  refine zx_callV_iw (T := zx_TTypes) E [.int (1 : Int32), .int (-1 : Int32)] (fun rZ eZ => zt_Types_add _ _ (1 : Int32) (-1 : Int32) h _ eZ) zg_1 Nat.zero_lt_one rfl zc_Loom_79 ⟨by decide, by decide⟩ (Nat.zero_le _) (Nat.zero_le _) rfl rfl (Nat.le_of_ble_eq_true rfl) dd_Loom_enumeration_62 (fun r3 => ?_)
  refine zx_istore E (lv1 := [(4, .int r3.1), (0, zx_rV (zx_BK B) 0 0), (1, .long a1), (3, .int a3)]) dd_Loom_enumeration_65 (by decide) rfl ?_
  refine zx_iconst E (0 : Int32) dd_Loom_enumeration_67 (by decide) ?_
  refine zx_istore E (lv1 := [(5, .int (0 : Int32)), (4, .int r3.1), (0, zx_rV (zx_BK B) 0 0), (1, .long a1), (3, .int a3)]) dd_Loom_enumeration_68 (by decide) rfl ?_
  refine zx_sub [2, 3, 4, 1, 0] rfl ?_
  exact zj_Loom_enumeration_70 E T hst a1 a3 r3.1 (0 : Int32) r3.2
set_option maxHeartbeats 4000000 in
set_option maxRecDepth 20000 in
theorem zj_Loom_bean_17 {B : zx_B} (E : zx_E B zm_Loom_bean) (T : zx_T B) (hst : (zx_Bl B).stackTraces = false)   (h : zx_H) : zx_X B zm_Loom_bean (zx_QX B (fun r => (r.1, (some (Value.int r.2.1) : Option Value), r.2.2))) (zs_Loom_bean_J17  h) 0 0 17 [] [] h := by
  unfold zs_Loom_bean_J17
  exact zx_throw E T (cd := 2) (text := "built, or no room for a type") rfl (by decide) rfl ztc_Loom_78 zw_547 ⟨rfl, rfl⟩ (by decide +kernel) ⟨by decide, Nat.le_of_ble_eq_true rfl, by decide, by decide⟩ dd_Loom_bean_17 dd_Loom_bean_20 dd_Loom_bean_21 dd_Loom_bean_23 dd_Loom_bean_26
set_option maxHeartbeats 4000000 in
set_option maxRecDepth 20000 in
theorem zt_Loom_bean (l : Launch) (hst : l.stackTraces = false) (K : zx_K)  (h : zx_H) (r : (Nat × Int32 × zx_H)) (hf : zs_Loom_bean  h = some r) : zx_MX l zm_Loom_bean zy_Loom_bean K [zx_rV K 0 0] h r.1 (some (.int r.2.1)) r.2.2 := by
  refine zx_ofX (M := zm_Loom_bean) (y := zy_Loom_bean) (r := r) (as := [zx_rV K 0 0]) (ρ := (fun r => (r.1, (some (Value.int r.2.1) : Option Value), r.2.2))) hst (by decide) rfl hf (Nat.le_of_ble_eq_true rfl) ?_
  intro B hl hK E T
  subst hK
  subst hl
  show zx_X B zm_Loom_bean _ _ 0 0 0 [(0, zx_rV (zx_BK B) 0 0)] [] h
  unfold zs_Loom_bean
  refine zx_aload_n E 0 dd_Loom_bean_0 rfl rfl ?_
  refine zx_getI E zd_Loom_built zg_0 Nat.zero_lt_one zw_360 dd_Loom_bean_1 ?_
  refine zx_if_ne E 17 dd_Loom_bean_4 rfl ?_ ?_
  rotate_left
  · refine zx_sub [] rfl ?_
    exact zj_Loom_bean_17 E T hst h
  refine zx_aload_n E 0 dd_Loom_bean_7 rfl rfl ?_
  refine zx_getR E 1 0 zd_Loom_types zg_0 Nat.zero_lt_one (zr_Loom_types _) zw_355 dd_Loom_bean_8 ?_
  refine zx_callV_z (T := zx_TTypes) E [] (fun rZ eZ => zt_Types_isFull _ _ h _ eZ) zg_1 Nat.zero_lt_one rfl zc_Loom_70 ⟨by decide, by decide⟩ (Nat.zero_le _) (Nat.zero_le _) rfl rfl (Nat.le_of_ble_eq_true rfl) dd_Loom_bean_11 (fun r1 => ?_)
  refine zx_ifb_eq E (x := r1) 27 dd_Loom_bean_14 rfl ?_ ?_
  · refine zx_sub [] rfl ?_
    exact zj_Loom_bean_17 E T hst h
  refine zx_aload_n E 0 dd_Loom_bean_27 rfl rfl ?_
  refine zx_getR E 1 0 zd_Loom_types zg_0 Nat.zero_lt_one (zr_Loom_types _) zw_355 dd_Loom_bean_28 ?_
  refine zx_iconst E (2 : Int32) dd_Loom_bean_31 (by decide) ?_
  refine zx_iconst E (-1 : Int32) dd_Loom_bean_32 (by decide) ?_
  refine zx_callV_iw (T := zx_TTypes) E [.int (2 : Int32), .int (-1 : Int32)] (fun rZ eZ => zt_Types_add _ _ (2 : Int32) (-1 : Int32) h _ eZ) zg_1 Nat.zero_lt_one rfl zc_Loom_79 ⟨by decide, by decide⟩ (Nat.zero_le _) (Nat.zero_le _) rfl rfl (Nat.le_of_ble_eq_true rfl) dd_Loom_bean_33 (fun r2 => ?_)
  exact zx_xiret E rfl rfl dd_Loom_bean_36
set_option maxHeartbeats 4000000 in
set_option maxRecDepth 20000 in
theorem zj_Loom_property_46 {B : zx_B} (E : zx_E B zm_Loom_property) (T : zx_T B) (hst : (zx_Bl B).stackTraces = false)   (h : zx_H) : zx_X B zm_Loom_property (zx_QX B (fun r => (r.1, (some (Value.int r.2.1) : Option Value), r.2.2))) (zs_Loom_property_J46  h) 0 0 46 [] [] h := by
  unfold zs_Loom_property_J46
  exact zx_throw E T (cd := 1) (text := "no such bean, name or type, or the name is taken") rfl (by decide) rfl ztc_Loom_67 zw_474 ⟨rfl, rfl⟩ (by decide +kernel) ⟨by decide, Nat.le_of_ble_eq_true rfl, by decide, by decide⟩ dd_Loom_property_46 dd_Loom_property_49 dd_Loom_property_50 dd_Loom_property_52 dd_Loom_property_55
set_option maxHeartbeats 4000000 in
set_option maxRecDepth 20000 in
theorem zj_Loom_property_86 {B : zx_B} (E : zx_E B zm_Loom_property) (T : zx_T B) (hst : (zx_Bl B).stackTraces = false)   (h : zx_H) : zx_X B zm_Loom_property (zx_QX B (fun r => (r.1, (some (Value.int r.2.1) : Option Value), r.2.2))) (zs_Loom_property_J86  h) 0 0 86 [] [] h := by
  unfold zs_Loom_property_J86
  exact zx_throw E T (cd := 2) (text := "built, no room for a property, or there are objects") rfl (by decide) rfl ztc_Loom_78 zw_547 ⟨rfl, rfl⟩ (by decide +kernel) ⟨by decide, Nat.le_of_ble_eq_true rfl, by decide, by decide⟩ dd_Loom_property_86 dd_Loom_property_89 dd_Loom_property_90 dd_Loom_property_92 dd_Loom_property_95
set_option maxHeartbeats 4000000 in
set_option maxRecDepth 20000 in
theorem zt_Loom_property (l : Launch) (hst : l.stackTraces = false) (K : zx_K) (a1 : Int32) (a2 : Int32) (a3 : Int32) (h : zx_H) (r : (Nat × Int32 × zx_H)) (hf : zs_Loom_property a1 a2 a3 h = some r) : zx_MX l zm_Loom_property zy_Loom_property K [zx_rV K 0 0, .int a1, .int a2, .int a3] h r.1 (some (.int r.2.1)) r.2.2 := by
  refine zx_ofX (M := zm_Loom_property) (y := zy_Loom_property) (r := r) (as := [zx_rV K 0 0, .int a1, .int a2, .int a3]) (ρ := (fun r => (r.1, (some (Value.int r.2.1) : Option Value), r.2.2))) hst (by decide) rfl hf (Nat.le_of_ble_eq_true rfl) ?_
  intro B hl hK E T
  subst hK
  subst hl
  show zx_X B zm_Loom_property _ _ 0 0 0 [(0, zx_rV (zx_BK B) 0 0), (1, .int a1), (2, .int a2), (3, .int a3)] [] h
  unfold zs_Loom_property
  refine zx_aload_n E 0 dd_Loom_property_0 rfl rfl ?_
  refine zx_getR E 1 0 zd_Loom_types zg_0 Nat.zero_lt_one (zr_Loom_types _) zw_355 dd_Loom_property_1 ?_
  refine zx_iload_n E 1 dd_Loom_property_4 rfl rfl ?_
  refine zx_callV_z (T := zx_TTypes) E [.int a1] (fun rZ eZ => zt_Types_isBean _ _ a1 h _ eZ) zg_1 Nat.zero_lt_one rfl zc_Loom_91 ⟨by decide, by decide⟩ (Nat.zero_le _) (Nat.zero_le _) rfl rfl (Nat.le_of_ble_eq_true rfl) dd_Loom_property_5 (fun r1 => ?_)
  refine zx_ifb_eq E (x := r1) 46 dd_Loom_property_8 rfl ?_ ?_
  rotate_left
  · refine zx_sub [] rfl ?_
    exact zj_Loom_property_46 E T hst h
  refine zx_iload_n E 2 dd_Loom_property_11 rfl rfl ?_
  refine zx_if_lt E 46 dd_Loom_property_12 rfl ?_ ?_
  rotate_left
  · refine zx_sub [] rfl ?_
    exact zj_Loom_property_46 E T hst h
  refine zx_iload_n E 2 dd_Loom_property_15 rfl rfl ?_
  refine zx_bipush E (63 : Int32) dd_Loom_property_16 (by decide) ?_
  refine zx_icmp_gt E 46 dd_Loom_property_18 rfl ?_ ?_
  rotate_left
  · refine zx_sub [] rfl ?_
    exact zj_Loom_property_46 E T hst h
  refine zx_aload_n E 0 dd_Loom_property_21 rfl rfl ?_
  refine zx_getR E 1 0 zd_Loom_types zg_0 Nat.zero_lt_one (zr_Loom_types _) zw_355 dd_Loom_property_22 ?_
  refine zx_iload_n E 3 dd_Loom_property_25 rfl rfl ?_
  refine zx_callV_z (T := zx_TTypes) E [.int a3] (fun rZ eZ => zt_Types_exists _ _ a3 h _ eZ) zg_1 Nat.zero_lt_one rfl zc_Loom_95 ⟨by decide, by decide⟩ (Nat.zero_le _) (Nat.zero_le _) rfl rfl (Nat.le_of_ble_eq_true rfl) dd_Loom_property_26 (fun r2 => ?_)
  refine zx_ifb_eq E (x := r2) 46 dd_Loom_property_29 rfl ?_ ?_
  rotate_left
  · refine zx_sub [] rfl ?_
    exact zj_Loom_property_46 E T hst h
  refine zx_aload_n E 0 dd_Loom_property_32 rfl rfl ?_
  refine zx_getR E 1 0 zd_Loom_types zg_0 Nat.zero_lt_one (zr_Loom_types _) zw_355 dd_Loom_property_33 ?_
  refine zx_iload_n E 1 dd_Loom_property_36 rfl rfl ?_
  refine zx_iload_n E 2 dd_Loom_property_37 rfl rfl ?_
  refine zx_i2l E dd_Loom_property_38 ?_
  refine zx_callV_i (T := zx_TTypes) E [.int a1, .long (a2.toInt64)] (fun rZ eZ => zt_Types_placeOf _ _ a1 (a2.toInt64) h _ eZ) zg_1 Nat.zero_lt_one rfl zc_Loom_98 ⟨by decide, by decide⟩ (Nat.zero_le _) (Nat.zero_le _) rfl rfl (Nat.le_of_ble_eq_true rfl) dd_Loom_property_39 (fun r3 => ?_)
  refine zx_iconst E (-1 : Int32) dd_Loom_property_42 (by decide) ?_
  refine zx_icmp_eq E 56 dd_Loom_property_43 rfl ?_ ?_
  · refine zx_sub [] rfl ?_
    exact zj_Loom_property_46 E T hst h
  refine zx_aload_n E 0 dd_Loom_property_56 rfl rfl ?_
  refine zx_getI E zd_Loom_built zg_0 Nat.zero_lt_one zw_360 dd_Loom_property_57 ?_
  refine zx_if_ne E 86 dd_Loom_property_60 rfl ?_ ?_
  rotate_left
  · refine zx_sub [] rfl ?_
    exact zj_Loom_property_86 E T hst h
  refine zx_aload_n E 0 dd_Loom_property_63 rfl rfl ?_
  refine zx_getR E 1 0 zd_Loom_types zg_0 Nat.zero_lt_one (zr_Loom_types _) zw_355 dd_Loom_property_64 ?_
  refine zx_iload_n E 1 dd_Loom_property_67 rfl rfl ?_
  refine zx_callV_i (T := zx_TTypes) E [.int a1] (fun rZ eZ => zt_Types_memberCount _ _ a1 h _ eZ) zg_1 Nat.zero_lt_one rfl zc_Loom_104 ⟨by decide, by decide⟩ (Nat.zero_le _) (Nat.zero_le _) rfl rfl (Nat.le_of_ble_eq_true rfl) dd_Loom_property_68 (fun r4 => ?_)
  refine zx_bipush E (8 : Int32) dd_Loom_property_71 (by decide) ?_
  refine zx_icmp_ge E 86 dd_Loom_property_73 rfl ?_ ?_
  rotate_left
  · refine zx_sub [] rfl ?_
    exact zj_Loom_property_86 E T hst h
  refine zx_aload_n E 0 dd_Loom_property_76 rfl rfl ?_
  refine zx_getR E 7 0 zd_Loom_store zg_0 Nat.zero_lt_one (zr_Loom_store _) zw_357 dd_Loom_property_77 ?_
  refine zx_callV_i (T := zx_TStore) E [] (fun rZ eZ => zt_Store_size _ _ h _ eZ) zg_7 Nat.zero_lt_one rfl zc_Loom_108 ⟨by decide, by decide⟩ (Nat.zero_le _) (Nat.zero_le _) rfl rfl (Nat.le_of_ble_eq_true rfl) dd_Loom_property_80 (fun r5 => ?_)
  refine zx_if_le E 96 dd_Loom_property_83 rfl ?_ ?_
  · refine zx_sub [] rfl ?_
    exact zj_Loom_property_86 E T hst h
  refine zx_aload_n E 0 dd_Loom_property_96 rfl rfl ?_
  refine zx_getR E 1 0 zd_Loom_types zg_0 Nat.zero_lt_one (zr_Loom_types _) zw_355 dd_Loom_property_97 ?_
  refine zx_iload_n E 1 dd_Loom_property_100 rfl rfl ?_
  refine zx_iload_n E 2 dd_Loom_property_101 rfl rfl ?_
  refine zx_iload_n E 3 dd_Loom_property_102 rfl rfl ?_
  refine zx_callV_iw (T := zx_TTypes) E [.int a1, .int a2, .int a3] (fun rZ eZ => zt_Types_addMember _ _ a1 a2 a3 h _ eZ) zg_1 Nat.zero_lt_one rfl zc_Loom_87 ⟨by decide, by decide⟩ (Nat.zero_le _) (Nat.zero_le _) rfl rfl (Nat.le_of_ble_eq_true rfl) dd_Loom_property_103 (fun r6 => ?_)
  exact zx_xiret E rfl rfl dd_Loom_property_106
set_option maxHeartbeats 4000000 in
set_option maxRecDepth 20000 in
theorem zj_Loom_list_18 {B : zx_B} (E : zx_E B zm_Loom_list) (T : zx_T B) (hst : (zx_Bl B).stackTraces = false)   (h : zx_H) : zx_X B zm_Loom_list (zx_QX B (fun r => (r.1, (some (Value.int r.2.1) : Option Value), r.2.2))) (zs_Loom_list_J18  h) 0 0 18 [] [] h := by
  unfold zs_Loom_list_J18
  exact zx_throw E T (cd := 1) (text := "no such type, or a primitive one") rfl (by decide) rfl ztc_Loom_67 zw_474 ⟨rfl, rfl⟩ (by decide +kernel) ⟨by decide, Nat.le_of_ble_eq_true rfl, by decide, by decide⟩ dd_Loom_list_18 dd_Loom_list_21 dd_Loom_list_22 dd_Loom_list_24 dd_Loom_list_27
set_option maxHeartbeats 4000000 in
set_option maxRecDepth 20000 in
theorem zj_Loom_list_61 {B : zx_B} (E : zx_E B zm_Loom_list) (T : zx_T B) (hst : (zx_Bl B).stackTraces = false)   (h : zx_H) : zx_X B zm_Loom_list (zx_QX B (fun r => (r.1, (some (Value.int r.2.1) : Option Value), r.2.2))) (zs_Loom_list_J61  h) 0 0 61 [] [] h := by
  unfold zs_Loom_list_J61
  exact zx_throw E T (cd := 2) (text := "built, or no room for a type") rfl (by decide) rfl ztc_Loom_78 zw_547 ⟨rfl, rfl⟩ (by decide +kernel) ⟨by decide, Nat.le_of_ble_eq_true rfl, by decide, by decide⟩ dd_Loom_list_61 dd_Loom_list_64 dd_Loom_list_65 dd_Loom_list_67 dd_Loom_list_70
set_option maxHeartbeats 4000000 in
set_option maxRecDepth 20000 in
theorem zt_Loom_list (l : Launch) (hst : l.stackTraces = false) (K : zx_K) (a1 : Int32) (h : zx_H) (r : (Nat × Int32 × zx_H)) (hf : zs_Loom_list a1 h = some r) : zx_MX l zm_Loom_list zy_Loom_list K [zx_rV K 0 0, .int a1] h r.1 (some (.int r.2.1)) r.2.2 := by
  refine zx_ofX (M := zm_Loom_list) (y := zy_Loom_list) (r := r) (as := [zx_rV K 0 0, .int a1]) (ρ := (fun r => (r.1, (some (Value.int r.2.1) : Option Value), r.2.2))) hst (by decide) rfl hf (Nat.le_of_ble_eq_true rfl) ?_
  intro B hl hK E T
  subst hK
  subst hl
  show zx_X B zm_Loom_list _ _ 0 0 0 [(0, zx_rV (zx_BK B) 0 0), (1, .int a1)] [] h
  unfold zs_Loom_list
  refine zx_aload_n E 0 dd_Loom_list_0 rfl rfl ?_
  refine zx_getR E 1 0 zd_Loom_types zg_0 Nat.zero_lt_one (zr_Loom_types _) zw_355 dd_Loom_list_1 ?_
  refine zx_iload_n E 1 dd_Loom_list_4 rfl rfl ?_
  refine zx_callV_z (T := zx_TTypes) E [.int a1] (fun rZ eZ => zt_Types_exists _ _ a1 h _ eZ) zg_1 Nat.zero_lt_one rfl zc_Loom_95 ⟨by decide, by decide⟩ (Nat.zero_le _) (Nat.zero_le _) rfl rfl (Nat.le_of_ble_eq_true rfl) dd_Loom_list_5 (fun r1 => ?_)
  refine zx_ifb_eq E (x := r1) 18 dd_Loom_list_8 rfl ?_ ?_
  rotate_left
  · refine zx_sub [] rfl ?_
    exact zj_Loom_list_18 E T hst h
  refine zx_iload_n E 1 dd_Loom_list_11 rfl rfl ?_
  refine zx_callS_z E [.int a1] (fun rZ eZ => zt_Basics_isPrimitive _ _ a1 h _ eZ) zc_Loom_114 ⟨by decide, by decide⟩ (Nat.zero_le _) (Nat.zero_le _) rfl rfl (Nat.le_of_ble_eq_true rfl) dd_Loom_list_12 (fun r2 => ?_)
  refine zx_ifb_eq E (x := r2) 28 dd_Loom_list_15 rfl ?_ ?_
  · refine zx_sub [] rfl ?_
    exact zj_Loom_list_18 E T hst h
  refine zx_aload_n E 0 dd_Loom_list_28 rfl rfl ?_
  refine zx_getR E 1 0 zd_Loom_types zg_0 Nat.zero_lt_one (zr_Loom_types _) zw_355 dd_Loom_list_29 ?_
  refine zx_iload_n E 1 dd_Loom_list_32 rfl rfl ?_
  refine zx_callV_i (T := zx_TTypes) E [.int a1] (fun rZ eZ => zt_Types_listOf _ _ a1 h _ eZ) zg_1 Nat.zero_lt_one rfl zc_Loom_121 ⟨by decide, by decide⟩ (Nat.zero_le _) (Nat.zero_le _) rfl rfl (Nat.le_of_ble_eq_true rfl) dd_Loom_list_33 (fun r3 => ?_)
  refine zx_istore_n E (lv1 := [(2, .int r3), (0, zx_rV (zx_BK B) 0 0), (1, .int a1)]) dd_Loom_list_36 rfl (by decide) rfl ?_
  refine zx_iload_n E 0 dd_Loom_list_37 rfl rfl ?_
  refine zx_iconst E (-1 : Int32) dd_Loom_list_38 (by decide) ?_
  refine zx_icmp_eq E 44 dd_Loom_list_39 rfl ?_ ?_
  · refine zx_iload_n E 0 dd_Loom_list_42 rfl rfl ?_
    exact zx_xiret E rfl rfl dd_Loom_list_43
  refine zx_aload_n E 1 dd_Loom_list_44 rfl rfl ?_
  refine zx_getI E zd_Loom_built zg_0 Nat.zero_lt_one zw_360 dd_Loom_list_45 ?_
  refine zx_if_ne E 61 dd_Loom_list_48 rfl ?_ ?_
  rotate_left
  · refine zx_sub [] rfl ?_
    exact zj_Loom_list_61 E T hst h
  refine zx_aload_n E 1 dd_Loom_list_51 rfl rfl ?_
  refine zx_getR E 1 0 zd_Loom_types zg_0 Nat.zero_lt_one (zr_Loom_types _) zw_355 dd_Loom_list_52 ?_
  refine zx_callV_z (T := zx_TTypes) E [] (fun rZ eZ => zt_Types_isFull _ _ h _ eZ) zg_1 Nat.zero_lt_one rfl zc_Loom_70 ⟨by decide, by decide⟩ (Nat.zero_le _) (Nat.zero_le _) rfl rfl (Nat.le_of_ble_eq_true rfl) dd_Loom_list_55 (fun r4 => ?_)
  refine zx_ifb_eq E (x := r4) 71 dd_Loom_list_58 rfl ?_ ?_
  · refine zx_sub [] rfl ?_
    exact zj_Loom_list_61 E T hst h
  refine zx_aload_n E 1 dd_Loom_list_71 rfl rfl ?_
  refine zx_getR E 1 0 zd_Loom_types zg_0 Nat.zero_lt_one (zr_Loom_types _) zw_355 dd_Loom_list_72 ?_
  refine zx_iconst E (3 : Int32) dd_Loom_list_75 (by decide) ?_
  refine zx_iload_n E 2 dd_Loom_list_76 rfl rfl ?_
  refine zx_callV_iw (T := zx_TTypes) E [.int (3 : Int32), .int a1] (fun rZ eZ => zt_Types_add _ _ (3 : Int32) a1 h _ eZ) zg_1 Nat.zero_lt_one rfl zc_Loom_79 ⟨by decide, by decide⟩ (Nat.zero_le _) (Nat.zero_le _) rfl rfl (Nat.le_of_ble_eq_true rfl) dd_Loom_list_77 (fun r5 => ?_)
  exact zx_xiret E rfl rfl dd_Loom_list_80
set_option maxHeartbeats 4000000 in
set_option maxRecDepth 20000 in
theorem zj_Loom_method_95 {B : zx_B} (E : zx_E B zm_Loom_method) (T : zx_T B) (hst : (zx_Bl B).stackTraces = false)   (h : zx_H) : zx_X B zm_Loom_method (zx_QX B (fun r => (r.1, (some (Value.int r.2.1) : Option Value), r.2.2))) (zs_Loom_method_J95  h) 0 0 95 [] [] h := by
  unfold zs_Loom_method_J95
  exact zx_throw E T (cd := 2) (text := "built, or no room for a method") rfl (by decide) rfl ztc_Loom_78 zw_547 ⟨rfl, rfl⟩ (by decide +kernel) ⟨by decide, Nat.le_of_ble_eq_true rfl, by decide, by decide⟩ dd_Loom_method_95 dd_Loom_method_98 dd_Loom_method_99 dd_Loom_method_101 dd_Loom_method_104
set_option maxHeartbeats 4000000 in
set_option maxRecDepth 20000 in
theorem zj_Loom_method_76 {B : zx_B} (E : zx_E B zm_Loom_method) (T : zx_T B) (hst : (zx_Bl B).stackTraces = false)  (x1 : Int32) (x2 : Int32) (h : zx_H) : zx_X B zm_Loom_method (zx_QX B (fun r => (r.1, (some (Value.int r.2.1) : Option Value), r.2.2))) (zs_Loom_method_J76  x1 x2 h) 0 0 76 [(0, zx_rV (zx_BK B) 0 0), (1, .int x1), (2, .int x2)] [] h := by
  unfold zs_Loom_method_J76
  refine zx_aload_n E 0 dd_Loom_method_76 rfl rfl ?_
  refine zx_getI E zd_Loom_built zg_0 Nat.zero_lt_one zw_360 dd_Loom_method_77 ?_
  refine zx_if_ne E 95 dd_Loom_method_80 rfl ?_ ?_
  rotate_left
  · refine zx_sub [] rfl ?_
    exact zj_Loom_method_95 E T hst h
  refine zx_aload_n E 0 dd_Loom_method_83 rfl rfl ?_
  refine zx_getR E 11 0 zd_Loom_model zg_0 Nat.zero_lt_one (zr_Loom_model _) zw_356 dd_Loom_method_84 ?_
  refine zx_getI E zd_Model_methodCount zg_11 Nat.zero_lt_one zw_217 dd_Loom_method_87 ?_
  refine zx_bipush E (16 : Int32) dd_Loom_method_90 (by decide) ?_
  refine zx_icmp_lt E 105 dd_Loom_method_92 rfl ?_ ?_
  · refine zx_sub [] rfl ?_
    exact zj_Loom_method_95 E T hst h
  refine zx_aload_n E 0 dd_Loom_method_105 rfl rfl ?_
  refine zx_getR E 11 0 zd_Loom_model zg_0 Nat.zero_lt_one (zr_Loom_model _) zw_356 dd_Loom_method_106 ?_
  refine zx_iload_n E 1 dd_Loom_method_109 rfl rfl ?_
  refine zx_iload_n E 2 dd_Loom_method_110 rfl rfl ?_
  refine zx_callV_iw (T := zx_TModel) E [.int x1, .int x2] (fun rZ eZ => zt_Model_addMethod _ _ x1 x2 h _ eZ) zg_11 Nat.zero_lt_one rfl zc_Loom_135 ⟨by decide, by decide⟩ (Nat.zero_le _) (Nat.zero_le _) rfl rfl (Nat.le_of_ble_eq_true rfl) dd_Loom_method_111 (fun r1 => ?_)
  exact zx_xiret E rfl rfl dd_Loom_method_114
set_option maxHeartbeats 4000000 in
set_option maxRecDepth 20000 in
theorem zj_Loom_method_55 {B : zx_B} (E : zx_E B zm_Loom_method) (T : zx_T B) (hst : (zx_Bl B).stackTraces = false)  (x1 : Int32) (x2 : Int32) (x3 : Bool) (s0 : Bool) (h : zx_H) : zx_X B zm_Loom_method (zx_QX B (fun r => (r.1, (some (Value.int r.2.1) : Option Value), r.2.2))) (zs_Loom_method_J55  x1 x2 x3 s0 h) 0 0 55 [(0, zx_rV (zx_BK B) 0 0), (1, .int x1), (2, .int x2), (3, .int (zx_b x3))] [.int (zx_b s0)] h := by
  unfold zs_Loom_method_J55
  refine zx_istore E (lv1 := [(4, .int (zx_b s0)), (0, zx_rV (zx_BK B) 0 0), (1, .int x1), (2, .int x2), (3, .int (zx_b x3))]) dd_Loom_method_55 (by decide) rfl ?_
  refine zx_iload_n E 4 dd_Loom_method_57 rfl rfl ?_
  refine zx_ifb_ne E (x := x3) 76 dd_Loom_method_58 rfl ?_ ?_
  rotate_left
  · refine zx_sub [1, 2, 3] rfl ?_
    exact zj_Loom_method_76 E T hst x1 x2 h
  refine zx_iload E 0 dd_Loom_method_61 rfl ?_
  refine zx_ifb_ne E (x := s0) 76 dd_Loom_method_63 rfl ?_ ?_
  · exact zx_throw E T (cd := 1) (text := "neither two beans nor two enums") rfl (by decide) rfl ztc_Loom_67 zw_474 ⟨rfl, rfl⟩ (by decide +kernel) ⟨by decide, Nat.le_of_ble_eq_true rfl, by decide, by decide⟩ dd_Loom_method_66 dd_Loom_method_69 dd_Loom_method_70 dd_Loom_method_72 dd_Loom_method_75
  refine zx_sub [1, 2, 3] rfl ?_
  exact zj_Loom_method_76 E T hst x1 x2 h
set_option maxHeartbeats 4000000 in
set_option maxRecDepth 20000 in
theorem zj_Loom_method_54 {B : zx_B} (E : zx_E B zm_Loom_method) (T : zx_T B) (hst : (zx_Bl B).stackTraces = false)  (x1 : Int32) (x2 : Int32) (x3 : Bool) (h : zx_H) : zx_X B zm_Loom_method (zx_QX B (fun r => (r.1, (some (Value.int r.2.1) : Option Value), r.2.2))) (zs_Loom_method_J54  x1 x2 x3 h) 0 0 54 [(0, zx_rV (zx_BK B) 0 0), (1, .int x1), (2, .int x2), (3, .int (zx_b x3))] [] h := by
  unfold zs_Loom_method_J54
  refine zx_iconst E (0 : Int32) dd_Loom_method_54 (by decide) ?_
  exact zj_Loom_method_55 E T hst x1 x2 x3 false h
set_option maxHeartbeats 4000000 in
set_option maxRecDepth 20000 in
theorem zj_Loom_method_27 {B : zx_B} (E : zx_E B zm_Loom_method) (T : zx_T B) (hst : (zx_Bl B).stackTraces = false)  (x1 : Int32) (x2 : Int32) (s0 : Bool) (h : zx_H) : zx_X B zm_Loom_method (zx_QX B (fun r => (r.1, (some (Value.int r.2.1) : Option Value), r.2.2))) (zs_Loom_method_J27  x1 x2 s0 h) 0 0 27 [(0, zx_rV (zx_BK B) 0 0), (1, .int x1), (2, .int x2)] [.int (zx_b s0)] h := by
  unfold zs_Loom_method_J27
  refine zx_istore_n E (lv1 := [(3, .int (zx_b s0)), (0, zx_rV (zx_BK B) 0 0), (1, .int x1), (2, .int x2)]) dd_Loom_method_27 rfl (by decide) rfl ?_
  refine zx_aload_n E 1 dd_Loom_method_28 rfl rfl ?_
  refine zx_getR E 1 0 zd_Loom_types zg_0 Nat.zero_lt_one (zr_Loom_types _) zw_355 dd_Loom_method_29 ?_
  refine zx_iload_n E 2 dd_Loom_method_32 rfl rfl ?_
  refine zx_callV_z (T := zx_TTypes) E [.int x1] (fun rZ eZ => zt_Types_isEnum _ _ x1 h _ eZ) zg_1 Nat.zero_lt_one rfl zc_Loom_124 ⟨by decide, by decide⟩ (Nat.zero_le _) (Nat.zero_le _) rfl rfl (Nat.le_of_ble_eq_true rfl) dd_Loom_method_33 (fun r1 => ?_)
  refine zx_ifb_eq E (x := r1) 54 dd_Loom_method_36 rfl ?_ ?_
  rotate_left
  · refine zx_sub [1, 2, 3, 0] rfl ?_
    exact zj_Loom_method_54 E T hst x1 x2 s0 h
  refine zx_aload_n E 1 dd_Loom_method_39 rfl rfl ?_
  refine zx_getR E 1 0 zd_Loom_types zg_0 Nat.zero_lt_one (zr_Loom_types _) zw_355 dd_Loom_method_40 ?_
  refine zx_iload_n E 3 dd_Loom_method_43 rfl rfl ?_
  refine zx_callV_z (T := zx_TTypes) E [.int x2] (fun rZ eZ => zt_Types_isEnum _ _ x2 h _ eZ) zg_1 Nat.zero_lt_one rfl zc_Loom_124 ⟨by decide, by decide⟩ (Nat.zero_le _) (Nat.zero_le _) rfl rfl (Nat.le_of_ble_eq_true rfl) dd_Loom_method_44 (fun r2 => ?_)
  refine zx_ifb_eq E (x := r2) 54 dd_Loom_method_47 rfl ?_ ?_
  rotate_left
  · refine zx_sub [1, 2, 3, 0] rfl ?_
    exact zj_Loom_method_54 E T hst x1 x2 s0 h
  refine zx_iconst E (1 : Int32) dd_Loom_method_50 (by decide) ?_
  refine zx_goto E 55 dd_Loom_method_51 rfl ?_
  refine zx_sub [1, 2, 3, 0] rfl ?_
  exact zj_Loom_method_55 E T hst x1 x2 s0 true h
set_option maxHeartbeats 4000000 in
set_option maxRecDepth 20000 in
theorem zj_Loom_method_26 {B : zx_B} (E : zx_E B zm_Loom_method) (T : zx_T B) (hst : (zx_Bl B).stackTraces = false)  (x1 : Int32) (x2 : Int32) (h : zx_H) : zx_X B zm_Loom_method (zx_QX B (fun r => (r.1, (some (Value.int r.2.1) : Option Value), r.2.2))) (zs_Loom_method_J26  x1 x2 h) 0 0 26 [(0, zx_rV (zx_BK B) 0 0), (1, .int x1), (2, .int x2)] [] h := by
  unfold zs_Loom_method_J26
  refine zx_iconst E (0 : Int32) dd_Loom_method_26 (by decide) ?_
  exact zj_Loom_method_27 E T hst x1 x2 false h
set_option maxHeartbeats 4000000 in
set_option maxRecDepth 20000 in
theorem zt_Loom_method (l : Launch) (hst : l.stackTraces = false) (K : zx_K) (a1 : Int32) (a2 : Int32) (h : zx_H) (r : (Nat × Int32 × zx_H)) (hf : zs_Loom_method a1 a2 h = some r) : zx_MX l zm_Loom_method zy_Loom_method K [zx_rV K 0 0, .int a1, .int a2] h r.1 (some (.int r.2.1)) r.2.2 := by
  refine zx_ofX (M := zm_Loom_method) (y := zy_Loom_method) (r := r) (as := [zx_rV K 0 0, .int a1, .int a2]) (ρ := (fun r => (r.1, (some (Value.int r.2.1) : Option Value), r.2.2))) hst (by decide) rfl hf (Nat.le_of_ble_eq_true rfl) ?_
  intro B hl hK E T
  subst hK
  subst hl
  show zx_X B zm_Loom_method _ _ 0 0 0 [(0, zx_rV (zx_BK B) 0 0), (1, .int a1), (2, .int a2)] [] h
  unfold zs_Loom_method
  refine zx_aload_n E 0 dd_Loom_method_0 rfl rfl ?_
  refine zx_getR E 1 0 zd_Loom_types zg_0 Nat.zero_lt_one (zr_Loom_types _) zw_355 dd_Loom_method_1 ?_
  refine zx_iload_n E 1 dd_Loom_method_4 rfl rfl ?_
  refine zx_callV_z (T := zx_TTypes) E [.int a1] (fun rZ eZ => zt_Types_isBean _ _ a1 h _ eZ) zg_1 Nat.zero_lt_one rfl zc_Loom_91 ⟨by decide, by decide⟩ (Nat.zero_le _) (Nat.zero_le _) rfl rfl (Nat.le_of_ble_eq_true rfl) dd_Loom_method_5 (fun r1 => ?_)
  refine zx_ifb_eq E (x := r1) 26 dd_Loom_method_8 rfl ?_ ?_
  rotate_left
  · exact zj_Loom_method_26 E T hst a1 a2 h
  refine zx_aload_n E 0 dd_Loom_method_11 rfl rfl ?_
  refine zx_getR E 1 0 zd_Loom_types zg_0 Nat.zero_lt_one (zr_Loom_types _) zw_355 dd_Loom_method_12 ?_
  refine zx_iload_n E 2 dd_Loom_method_15 rfl rfl ?_
  refine zx_callV_z (T := zx_TTypes) E [.int a2] (fun rZ eZ => zt_Types_isBean _ _ a2 h _ eZ) zg_1 Nat.zero_lt_one rfl zc_Loom_91 ⟨by decide, by decide⟩ (Nat.zero_le _) (Nat.zero_le _) rfl rfl (Nat.le_of_ble_eq_true rfl) dd_Loom_method_16 (fun r2 => ?_)
  refine zx_ifb_eq E (x := r2) 26 dd_Loom_method_19 rfl ?_ ?_
  rotate_left
  · exact zj_Loom_method_26 E T hst a1 a2 h
  refine zx_iconst E (1 : Int32) dd_Loom_method_22 (by decide) ?_
  refine zx_goto E 27 dd_Loom_method_23 rfl ?_
  exact zj_Loom_method_27 E T hst a1 a2 true h
set_option maxHeartbeats 4000000 in
set_option maxRecDepth 20000 in
theorem zj_Loom_function_14 {B : zx_B} (E : zx_E B zm_Loom_function) (T : zx_T B) (hst : (zx_Bl B).stackTraces = false)   (h : zx_H) : zx_X B zm_Loom_function (zx_QX B (fun r => (r.1, (some (Value.int r.2.1) : Option Value), r.2.2))) (zs_Loom_function_J14  h) 0 0 14 [] [] h := by
  unfold zs_Loom_function_J14
  exact zx_throw E T (cd := 1) (text := "not from whole numbers to whole numbers") rfl (by decide) rfl ztc_Loom_67 zw_474 ⟨rfl, rfl⟩ (by decide +kernel) ⟨by decide, Nat.le_of_ble_eq_true rfl, by decide, by decide⟩ dd_Loom_function_14 dd_Loom_function_17 dd_Loom_function_18 dd_Loom_function_20 dd_Loom_function_23
set_option maxHeartbeats 4000000 in
set_option maxRecDepth 20000 in
theorem zj_Loom_function_43 {B : zx_B} (E : zx_E B zm_Loom_function) (T : zx_T B) (hst : (zx_Bl B).stackTraces = false)   (h : zx_H) : zx_X B zm_Loom_function (zx_QX B (fun r => (r.1, (some (Value.int r.2.1) : Option Value), r.2.2))) (zs_Loom_function_J43  h) 0 0 43 [] [] h := by
  unfold zs_Loom_function_J43
  exact zx_throw E T (cd := 2) (text := "built, or no room for a function") rfl (by decide) rfl ztc_Loom_78 zw_547 ⟨rfl, rfl⟩ (by decide +kernel) ⟨by decide, Nat.le_of_ble_eq_true rfl, by decide, by decide⟩ dd_Loom_function_43 dd_Loom_function_46 dd_Loom_function_47 dd_Loom_function_49 dd_Loom_function_52
set_option maxHeartbeats 4000000 in
set_option maxRecDepth 20000 in
theorem zt_Loom_function (l : Launch) (hst : l.stackTraces = false) (K : zx_K) (a1 : Int32) (a2 : Int32) (a3 : Int32) (a4 : Int32) (h : zx_H) (r : (Nat × Int32 × zx_H)) (hf : zs_Loom_function a1 a2 a3 a4 h = some r) : zx_MX l zm_Loom_function zy_Loom_function K [zx_rV K 0 0, .int a1, .int a2, .int a3, .int a4] h r.1 (some (.int r.2.1)) r.2.2 := by
  refine zx_ofX (M := zm_Loom_function) (y := zy_Loom_function) (r := r) (as := [zx_rV K 0 0, .int a1, .int a2, .int a3, .int a4]) (ρ := (fun r => (r.1, (some (Value.int r.2.1) : Option Value), r.2.2))) hst (by decide) rfl hf (Nat.le_of_ble_eq_true rfl) ?_
  intro B hl hK E T
  subst hK
  subst hl
  show zx_X B zm_Loom_function _ _ 0 0 0 [(0, zx_rV (zx_BK B) 0 0), (1, .int a1), (2, .int a2), (3, .int a3), (4, .int a4)] [] h
  unfold zs_Loom_function
  refine zx_iload_n E 1 dd_Loom_function_0 rfl rfl ?_
  refine zx_callS_z E [.int a1] (fun rZ eZ => zt_Basics_isWhole _ _ a1 h _ eZ) zc_Loom_138 ⟨by decide, by decide⟩ (Nat.zero_le _) (Nat.zero_le _) rfl rfl (Nat.le_of_ble_eq_true rfl) dd_Loom_function_1 (fun r1 => ?_)
  refine zx_ifb_eq E (x := r1) 14 dd_Loom_function_4 rfl ?_ ?_
  rotate_left
  · refine zx_sub [] rfl ?_
    exact zj_Loom_function_14 E T hst h
  refine zx_iload_n E 2 dd_Loom_function_7 rfl rfl ?_
  refine zx_callS_z E [.int a2] (fun rZ eZ => zt_Basics_isWhole _ _ a2 h _ eZ) zc_Loom_138 ⟨by decide, by decide⟩ (Nat.zero_le _) (Nat.zero_le _) rfl rfl (Nat.le_of_ble_eq_true rfl) dd_Loom_function_8 (fun r2 => ?_)
  refine zx_ifb_ne E (x := r2) 24 dd_Loom_function_11 rfl ?_ ?_
  · refine zx_sub [] rfl ?_
    exact zj_Loom_function_14 E T hst h
  refine zx_aload_n E 0 dd_Loom_function_24 rfl rfl ?_
  refine zx_getI E zd_Loom_built zg_0 Nat.zero_lt_one zw_360 dd_Loom_function_25 ?_
  refine zx_if_ne E 43 dd_Loom_function_28 rfl ?_ ?_
  rotate_left
  · refine zx_sub [] rfl ?_
    exact zj_Loom_function_43 E T hst h
  refine zx_aload_n E 0 dd_Loom_function_31 rfl rfl ?_
  refine zx_getR E 11 0 zd_Loom_model zg_0 Nat.zero_lt_one (zr_Loom_model _) zw_356 dd_Loom_function_32 ?_
  refine zx_getI E zd_Model_functionCount zg_11 Nat.zero_lt_one zw_213 dd_Loom_function_35 ?_
  refine zx_bipush E (8 : Int32) dd_Loom_function_38 (by decide) ?_
  refine zx_icmp_lt E 53 dd_Loom_function_40 rfl ?_ ?_
  · refine zx_sub [] rfl ?_
    exact zj_Loom_function_43 E T hst h
  refine zx_aload_n E 0 dd_Loom_function_53 rfl rfl ?_
  refine zx_getR E 11 0 zd_Loom_model zg_0 Nat.zero_lt_one (zr_Loom_model _) zw_356 dd_Loom_function_54 ?_
  refine zx_iload_n E 1 dd_Loom_function_57 rfl rfl ?_
  refine zx_iload_n E 2 dd_Loom_function_58 rfl rfl ?_
  refine zx_iload_n E 3 dd_Loom_function_59 rfl rfl ?_
  refine zx_iload E 4 dd_Loom_function_60 rfl ?_
  refine zx_callV_iw (T := zx_TModel) E [.int a1, .int a2, .int a3, .int a4] (fun rZ eZ => zt_Model_addFunction _ _ a1 a2 a3 a4 h _ eZ) zg_11 Nat.zero_lt_one rfl zc_Loom_148 ⟨by decide, by decide⟩ (Nat.zero_le _) (Nat.zero_le _) rfl rfl (Nat.le_of_ble_eq_true rfl) dd_Loom_function_62 (fun r3 => ?_)
  exact zx_xiret E rfl rfl dd_Loom_function_65
set_option maxHeartbeats 4000000 in
set_option maxRecDepth 20000 in
theorem zj_Loom_rule_22 {B : zx_B} (E : zx_E B zm_Loom_rule) (T : zx_T B) (hst : (zx_Bl B).stackTraces = false)   (h : zx_H) : zx_X B zm_Loom_rule (zx_QX B (fun r => (r.1, (none : Option Value), r.2.2))) (zs_Loom_rule_J22  h) 0 0 22 [] [] h := by
  unfold zs_Loom_rule_J22
  exact zx_throw E T (cd := 1) (text := "no such method or kind") rfl (by decide) rfl ztc_Loom_67 zw_474 ⟨rfl, rfl⟩ (by decide +kernel) ⟨by decide, Nat.le_of_ble_eq_true rfl, by decide, by decide⟩ dd_Loom_rule_22 dd_Loom_rule_25 dd_Loom_rule_26 dd_Loom_rule_28 dd_Loom_rule_31
set_option maxHeartbeats 4000000 in
set_option maxRecDepth 20000 in
theorem zj_Loom_rule_56 {B : zx_B} (E : zx_E B zm_Loom_rule) (T : zx_T B) (hst : (zx_Bl B).stackTraces = false)   (h : zx_H) : zx_X B zm_Loom_rule (zx_QX B (fun r => (r.1, (none : Option Value), r.2.2))) (zs_Loom_rule_J56  h) 0 0 56 [] [] h := by
  unfold zs_Loom_rule_J56
  exact zx_throw E T (cd := 2) (text := "built, or no room for a rule") rfl (by decide) rfl ztc_Loom_78 zw_547 ⟨rfl, rfl⟩ (by decide +kernel) ⟨by decide, Nat.le_of_ble_eq_true rfl, by decide, by decide⟩ dd_Loom_rule_56 dd_Loom_rule_59 dd_Loom_rule_60 dd_Loom_rule_62 dd_Loom_rule_65
set_option maxHeartbeats 4000000 in
set_option maxRecDepth 20000 in
theorem zt_Loom_rule (l : Launch) (hst : l.stackTraces = false) (K : zx_K) (a1 : Int32) (a2 : Int32) (a3 : Int32) (a4 : Int64) (h : zx_H) (r : (Nat × Unit × zx_H)) (hf : zs_Loom_rule a1 a2 a3 a4 h = some r) : zx_MX l zm_Loom_rule zy_Loom_rule K [zx_rV K 0 0, .int a1, .int a2, .int a3, .long a4] h r.1 none r.2.2 := by
  refine zx_ofX (M := zm_Loom_rule) (y := zy_Loom_rule) (r := r) (as := [zx_rV K 0 0, .int a1, .int a2, .int a3, .long a4]) (ρ := (fun r => (r.1, (none : Option Value), r.2.2))) hst (by decide) rfl hf (Nat.le_of_ble_eq_true rfl) ?_
  intro B hl hK E T
  subst hK
  subst hl
  show zx_X B zm_Loom_rule _ _ 0 0 0 [(0, zx_rV (zx_BK B) 0 0), (1, .int a1), (2, .int a2), (3, .int a3), (4, .long a4)] [] h
  unfold zs_Loom_rule
  refine zx_aload_n E 0 dd_Loom_rule_0 rfl rfl ?_
  refine zx_getR E 11 0 zd_Loom_model zg_0 Nat.zero_lt_one (zr_Loom_model _) zw_356 dd_Loom_rule_1 ?_
  refine zx_iload_n E 1 dd_Loom_rule_4 rfl rfl ?_
  refine zx_i2l E dd_Loom_rule_5 ?_
  refine zx_callV_z (T := zx_TModel) E [.long (a1.toInt64)] (fun rZ eZ => zt_Model_hasMethod _ _ (a1.toInt64) h _ eZ) zg_11 Nat.zero_lt_one rfl zc_Loom_152 ⟨by decide, by decide⟩ (Nat.zero_le _) (Nat.zero_le _) rfl rfl (Nat.le_of_ble_eq_true rfl) dd_Loom_rule_6 (fun r1 => ?_)
  refine zx_ifb_eq E (x := r1) 22 dd_Loom_rule_9 rfl ?_ ?_
  rotate_left
  · refine zx_sub [] rfl ?_
    exact zj_Loom_rule_22 E T hst h
  refine zx_iload_n E 2 dd_Loom_rule_12 rfl rfl ?_
  refine zx_if_lt E 22 dd_Loom_rule_13 rfl ?_ ?_
  rotate_left
  · refine zx_sub [] rfl ?_
    exact zj_Loom_rule_22 E T hst h
  refine zx_iload_n E 2 dd_Loom_rule_16 rfl rfl ?_
  refine zx_bipush E (8 : Int32) dd_Loom_rule_17 (by decide) ?_
  refine zx_icmp_le E 32 dd_Loom_rule_19 rfl ?_ ?_
  · refine zx_sub [] rfl ?_
    exact zj_Loom_rule_22 E T hst h
  refine zx_aload_n E 0 dd_Loom_rule_32 rfl rfl ?_
  refine zx_getI E zd_Loom_built zg_0 Nat.zero_lt_one zw_360 dd_Loom_rule_33 ?_
  refine zx_if_ne E 56 dd_Loom_rule_36 rfl ?_ ?_
  rotate_left
  · refine zx_sub [] rfl ?_
    exact zj_Loom_rule_56 E T hst h
  refine zx_aload_n E 0 dd_Loom_rule_39 rfl rfl ?_
  refine zx_getR E 11 0 zd_Loom_model zg_0 Nat.zero_lt_one (zr_Loom_model _) zw_356 dd_Loom_rule_40 ?_
  refine zx_getR E 13 0 zd_Model_methods zg_11 Nat.zero_lt_one (zr_Model_methods _) zw_210 dd_Loom_rule_43 ?_
  refine zx_iload_n E 1 dd_Loom_rule_46 rfl rfl ?_
  refine zx_aaldM E dd_Loom_rule_47 (fun j2 => ?_)
  refine zx_getI E zd_Method_ruleCount zg_54 j2.isLt zw_163 dd_Loom_rule_48 ?_
  refine zx_bipush E (24 : Int32) dd_Loom_rule_51 (by decide) ?_
  refine zx_icmp_lt E 66 dd_Loom_rule_53 rfl ?_ ?_
  · refine zx_sub [] rfl ?_
    exact zj_Loom_rule_56 E T hst h
  refine zx_aload_n E 0 dd_Loom_rule_66 rfl rfl ?_
  refine zx_getR E 11 0 zd_Loom_model zg_0 Nat.zero_lt_one (zr_Loom_model _) zw_356 dd_Loom_rule_67 ?_
  refine zx_getR E 13 0 zd_Model_methods zg_11 Nat.zero_lt_one (zr_Model_methods _) zw_210 dd_Loom_rule_70 ?_
  refine zx_iload_n E 1 dd_Loom_rule_73 rfl rfl ?_
  refine zx_aaldM E dd_Loom_rule_74 (fun j3 => ?_)
  refine zx_iload_n E 2 dd_Loom_rule_75 rfl rfl ?_
  refine zx_iload_n E 3 dd_Loom_rule_76 rfl rfl ?_
  refine zx_lload E 4 dd_Loom_rule_77 rfl ?_
  refine zx_callV_v (T := zx_TMethod) E [.int a2, .int a3, .long a4] (fun rZ eZ => zt_Method_tell _ _ j3 a2 a3 a4 h _ eZ) zg_54 j3.isLt rfl zc_Loom_169 ⟨by decide, by decide⟩ (Nat.zero_le _) (Nat.zero_le _) rfl rfl (Nat.le_of_ble_eq_true rfl) dd_Loom_rule_79 (fun r4 => ?_)
  exact zx_xvret E rfl rfl dd_Loom_rule_82
set_option maxHeartbeats 4000000 in
set_option maxRecDepth 20000 in
theorem zt_Loom_build (l : Launch) (hst : l.stackTraces = false) (K : zx_K)  (h : zx_H) (r : (Nat × Int32 × zx_H)) (hf : zs_Loom_build  h = some r) : zx_MX l zm_Loom_build zy_Loom_build K [zx_rV K 0 0] h r.1 (some (.int r.2.1)) r.2.2 := by
  refine zx_ofX (M := zm_Loom_build) (y := zy_Loom_build) (r := r) (as := [zx_rV K 0 0]) (ρ := (fun r => (r.1, (some (Value.int r.2.1) : Option Value), r.2.2))) hst (by decide) rfl hf (Nat.le_of_ble_eq_true rfl) ?_
  intro B hl hK E T
  subst hK
  subst hl
  show zx_X B zm_Loom_build _ _ 0 0 0 [(0, zx_rV (zx_BK B) 0 0)] [] h
  unfold zs_Loom_build
  refine zx_aload_n E 0 dd_Loom_build_0 rfl rfl ?_
  refine zx_getI E zd_Loom_built zg_0 Nat.zero_lt_one zw_360 dd_Loom_build_1 ?_
  refine zx_if_eq E 17 dd_Loom_build_4 rfl ?_ ?_
  · exact zx_throw E T (cd := 2) (text := "built already") rfl (by decide) rfl ztc_Loom_78 zw_547 ⟨rfl, rfl⟩ (by decide +kernel) ⟨by decide, Nat.le_of_ble_eq_true rfl, by decide, by decide⟩ dd_Loom_build_7 dd_Loom_build_10 dd_Loom_build_11 dd_Loom_build_13 dd_Loom_build_16
  refine zx_aload_n E 0 dd_Loom_build_17 rfl rfl ?_
  refine zx_getR E 16 0 zd_Loom_planner zg_0 Nat.zero_lt_one (zr_Loom_planner _) zw_358 dd_Loom_build_18 ?_
  refine zx_callV_v (T := zx_TPlanner) E [] (fun rZ eZ => zt_Planner_planAll _ _ h _ eZ) zg_16 Nat.zero_lt_one rfl zc_Loom_175 ⟨by decide, by decide⟩ (Nat.zero_le _) (Nat.zero_le _) rfl rfl (Nat.le_of_ble_eq_true rfl) dd_Loom_build_21 (fun r1 => ?_)
  refine zx_aload_n E 0 dd_Loom_build_24 rfl rfl ?_
  refine zx_getR E 16 0 zd_Loom_planner zg_0 Nat.zero_lt_one (zr_Loom_planner _) zw_358 dd_Loom_build_25 ?_
  refine zx_getI E zd_Planner_fault zg_16 Nat.zero_lt_one zw_278 dd_Loom_build_28 ?_
  refine zx_if_eq E 44 dd_Loom_build_31 rfl ?_ ?_
  · exact zx_throw E T (cd := 1) (text := "there is a diagnosis") rfl (by decide) rfl ztc_Loom_67 zw_474 ⟨rfl, rfl⟩ (by decide +kernel) ⟨by decide, Nat.le_of_ble_eq_true rfl, by decide, by decide⟩ dd_Loom_build_34 dd_Loom_build_37 dd_Loom_build_38 dd_Loom_build_40 dd_Loom_build_43
  refine zx_aload_n E 0 dd_Loom_build_44 rfl rfl ?_
  refine zx_iconst E (1 : Int32) dd_Loom_build_45 (by decide) ?_
  refine zx_putI E zd_Loom_built zp_Loom_built zg_0 Nat.zero_lt_one rfl rfl zw_360 dd_Loom_build_46 ?_
  refine zx_letH (fun h2 => ?_)
  refine zx_aload_n E 0 dd_Loom_build_49 rfl rfl ?_
  refine zx_getR E 11 0 zd_Loom_model zg_0 Nat.zero_lt_one (zr_Loom_model _) zw_356 dd_Loom_build_50 ?_
  refine zx_getI E zd_Model_methodCount zg_11 Nat.zero_lt_one zw_217 dd_Loom_build_53 ?_
  exact zx_xiret E rfl rfl dd_Loom_build_56
set_option maxHeartbeats 4000000 in
set_option maxRecDepth 20000 in
theorem zj_Loom_make_55 {B : zx_B} (E : zx_E B zm_Loom_make) (T : zx_T B) (hst : (zx_Bl B).stackTraces = false)   (h : zx_H) : zx_X B zm_Loom_make (zx_QX B (fun r => (r.1, (some (Value.int r.2.1) : Option Value), r.2.2))) (zs_Loom_make_J55  h) 0 0 55 [] [] h := by
  unfold zs_Loom_make_J55
  exact zx_throw E T (cd := 1) (text := "a type without objects, or no value of the box") rfl (by decide) rfl ztc_Loom_67 zw_474 ⟨rfl, rfl⟩ (by decide +kernel) ⟨by decide, Nat.le_of_ble_eq_true rfl, by decide, by decide⟩ dd_Loom_make_55 dd_Loom_make_58 dd_Loom_make_59 dd_Loom_make_61 dd_Loom_make_64
set_option maxHeartbeats 4000000 in
set_option maxRecDepth 20000 in
theorem zj_Loom_make_133 {B : zx_B} (E : zx_E B zm_Loom_make) (T : zx_T B) (hst : (zx_Bl B).stackTraces = false)  (x1 : Int32) (x2 : Int64) (x5 : Int32) (h : zx_H) : zx_X B zm_Loom_make (zx_QX B (fun r => (r.1, (some (Value.int r.2.1) : Option Value), r.2.2))) (zs_Loom_make_J133  x1 x2 x5 h) 0 0 133 [(0, zx_rV (zx_BK B) 0 0), (1, .int x1), (2, .long x2), (5, .int x5)] [] h := by
  unfold zs_Loom_make_J133
  refine zx_iload_n E 1 dd_Loom_make_133 rfl rfl ?_
  refine zx_bipush E (14 : Int32) dd_Loom_make_134 (by decide) ?_
  refine zx_icmp_ne E 149 dd_Loom_make_136 rfl ?_ ?_
  rotate_left
  · refine zx_iload E 3 dd_Loom_make_149 rfl ?_
    exact zx_xiret E rfl rfl dd_Loom_make_151
  refine zx_aload_n E 0 dd_Loom_make_139 rfl rfl ?_
  refine zx_getR E 7 0 zd_Loom_store zg_0 Nat.zero_lt_one (zr_Loom_store _) zw_357 dd_Loom_make_140 ?_
  refine zx_iload E 3 dd_Loom_make_143 rfl ?_
  refine zx_lload_n E 2 dd_Loom_make_145 rfl rfl ?_
  refine zx_callV_v (T := zx_TStore) E [.int x5, .long x2] (fun rZ eZ => zt_Store_appendBytes _ _ x5 x2 h _ eZ) zg_7 Nat.zero_lt_one rfl zc_Loom_216 ⟨by decide, by decide⟩ (Nat.zero_le _) (Nat.zero_le _) rfl rfl (Nat.le_of_ble_eq_true rfl) dd_Loom_make_146 (fun r1 => ?_)
  refine zx_iload E 3 dd_Loom_make_149 rfl ?_
  exact zx_xiret E rfl rfl dd_Loom_make_151
set_option maxHeartbeats 4000000 in
set_option maxRecDepth 20000 in
theorem zj_Loom_make_115 {B : zx_B} (E : zx_E B zm_Loom_make) (T : zx_T B) (hst : (zx_Bl B).stackTraces = false)  (x1 : Int32) (x2 : Int64) (x4 : Bool) (s0 : Int32) (h : zx_H) : zx_X B zm_Loom_make (zx_QX B (fun r => (r.1, (some (Value.int r.2.1) : Option Value), r.2.2))) (zs_Loom_make_J115  x1 x2 x4 s0 h) 0 0 115 [(0, zx_rV (zx_BK B) 0 0), (1, .int x1), (2, .long x2), (4, .int (zx_b x4))] [.int s0] h := by
  unfold zs_Loom_make_J115
  refine zx_istore E (lv1 := [(5, .int s0), (0, zx_rV (zx_BK B) 0 0), (1, .int x1), (2, .long x2), (4, .int (zx_b x4))]) dd_Loom_make_115 (by decide) rfl ?_
  refine zx_iload E 4 dd_Loom_make_117 rfl ?_
  refine zx_ifb_eq E (x := x4) 133 dd_Loom_make_119 rfl ?_ ?_
  rotate_left
  · refine zx_sub [1, 2, 3, 0] rfl ?_
    exact zj_Loom_make_133 E T hst x1 x2 s0 h
  refine zx_aload_n E 1 dd_Loom_make_122 rfl rfl ?_
  refine zx_getR E 7 0 zd_Loom_store zg_0 Nat.zero_lt_one (zr_Loom_store _) zw_357 dd_Loom_make_123 ?_
  refine zx_iload E 0 dd_Loom_make_126 rfl ?_
  refine zx_lload_n E 3 dd_Loom_make_128 rfl rfl ?_
  refine zx_callV_zw (T := zx_TStore) E [.int s0, .long x2] (fun rZ eZ => zt_Store_append _ _ s0 x2 h _ eZ) zg_7 Nat.zero_lt_one rfl zc_Loom_213 ⟨by decide, by decide⟩ (Nat.zero_le _) (Nat.zero_le _) rfl rfl (Nat.le_of_ble_eq_true rfl) dd_Loom_make_129 (fun r1 => ?_)
  refine zx_pop E dd_Loom_make_132 rfl ?_
  refine zx_sub [1, 2, 3, 0] rfl ?_
  exact zj_Loom_make_133 E T hst x1 x2 s0 r1.2
set_option maxHeartbeats 4000000 in
set_option maxRecDepth 20000 in
theorem zj_Loom_make_65 {B : zx_B} (E : zx_E B zm_Loom_make) (T : zx_T B) (hst : (zx_Bl B).stackTraces = false)  (x1 : Int32) (x2 : Int64) (x4 : Bool) (h : zx_H) : zx_X B zm_Loom_make (zx_QX B (fun r => (r.1, (some (Value.int r.2.1) : Option Value), r.2.2))) (zs_Loom_make_J65  x1 x2 x4 h) 0 0 65 [(0, zx_rV (zx_BK B) 0 0), (1, .int x1), (2, .long x2), (4, .int (zx_b x4))] [] h := by
  unfold zs_Loom_make_J65
  refine zx_aload_n E 0 dd_Loom_make_65 rfl rfl ?_
  refine zx_getR E 7 0 zd_Loom_store zg_0 Nat.zero_lt_one (zr_Loom_store _) zw_357 dd_Loom_make_66 ?_
  refine zx_callV_z (T := zx_TStore) E [] (fun rZ eZ => zt_Store_isFull _ _ h _ eZ) zg_7 Nat.zero_lt_one rfl zc_Loom_204 ⟨by decide, by decide⟩ (Nat.zero_le _) (Nat.zero_le _) rfl rfl (Nat.le_of_ble_eq_true rfl) dd_Loom_make_69 (fun r1 => ?_)
  refine zx_ifb_eq E (x := r1) 85 dd_Loom_make_72 rfl ?_ ?_
  · exact zx_throw E T (cd := 2) (text := "no room for an object") rfl (by decide) rfl ztc_Loom_78 zw_547 ⟨rfl, rfl⟩ (by decide +kernel) ⟨by decide, Nat.le_of_ble_eq_true rfl, by decide, by decide⟩ dd_Loom_make_75 dd_Loom_make_78 dd_Loom_make_79 dd_Loom_make_81 dd_Loom_make_84
  refine zx_aload_n E 0 dd_Loom_make_85 rfl rfl ?_
  refine zx_getR E 1 0 zd_Loom_types zg_0 Nat.zero_lt_one (zr_Loom_types _) zw_355 dd_Loom_make_86 ?_
  refine zx_iload_n E 1 dd_Loom_make_89 rfl rfl ?_
  refine zx_callV_z (T := zx_TTypes) E [.int x1] (fun rZ eZ => zt_Types_isBean _ _ x1 h _ eZ) zg_1 Nat.zero_lt_one rfl zc_Loom_91 ⟨by decide, by decide⟩ (Nat.zero_le _) (Nat.zero_le _) rfl rfl (Nat.le_of_ble_eq_true rfl) dd_Loom_make_90 (fun r2 => ?_)
  refine zx_ifb_eq E (x := r2) 107 dd_Loom_make_93 rfl ?_ ?_
  rotate_left
  · refine zx_aload_n E 0 dd_Loom_make_107 rfl rfl ?_
    refine zx_getR E 7 0 zd_Loom_store zg_0 Nat.zero_lt_one (zr_Loom_store _) zw_357 dd_Loom_make_108 ?_
    refine zx_iload_n E 1 dd_Loom_make_111 rfl rfl ?_
    refine zx_callV_iw (T := zx_TStore) E [.int x1] (fun rZ eZ => zt_Store_create _ _ x1 h _ eZ) zg_7 Nat.zero_lt_one rfl zc_Loom_210 ⟨by decide, by decide⟩ (Nat.zero_le _) (Nat.zero_le _) rfl rfl (Nat.le_of_ble_eq_true rfl) dd_Loom_make_112 (fun r4 => ?_)
    exact zj_Loom_make_115 E T hst x1 x2 x4 r4.1 r4.2
  refine zx_aload_n E 0 dd_Loom_make_96 rfl rfl ?_
  refine zx_getR E 7 0 zd_Loom_store zg_0 Nat.zero_lt_one (zr_Loom_store _) zw_357 dd_Loom_make_97 ?_
  refine zx_iload_n E 1 dd_Loom_make_100 rfl rfl ?_
  refine zx_callV_iw (T := zx_TStore) E [.int x1] (fun rZ eZ => zt_Store_createBean _ _ x1 h _ eZ) zg_7 Nat.zero_lt_one rfl zc_Loom_207 ⟨by decide, by decide⟩ (Nat.zero_le _) (Nat.zero_le _) rfl rfl (Nat.le_of_ble_eq_true rfl) dd_Loom_make_101 (fun r3 => ?_)
  refine zx_goto E 115 dd_Loom_make_104 rfl ?_
  exact zj_Loom_make_115 E T hst x1 x2 x4 r3.1 r3.2
set_option maxHeartbeats 4000000 in
set_option maxRecDepth 20000 in
theorem zj_Loom_make_39 {B : zx_B} (E : zx_E B zm_Loom_make) (T : zx_T B) (hst : (zx_Bl B).stackTraces = false)  (x1 : Int32) (x2 : Int64) (x4 : Bool) (h : zx_H) : zx_X B zm_Loom_make (zx_QX B (fun r => (r.1, (some (Value.int r.2.1) : Option Value), r.2.2))) (zs_Loom_make_J39  x1 x2 x4 h) 0 0 39 [(0, zx_rV (zx_BK B) 0 0), (1, .int x1), (2, .long x2), (4, .int (zx_b x4))] [] h := by
  unfold zs_Loom_make_J39
  refine zx_iload E 3 dd_Loom_make_39 rfl ?_
  refine zx_ifb_eq E (x := x4) 65 dd_Loom_make_41 rfl ?_ ?_
  rotate_left
  · exact zj_Loom_make_65 E T hst x1 x2 x4 h
  refine zx_iload_n E 1 dd_Loom_make_44 rfl rfl ?_
  refine zx_callS_i E [.int x1] (fun rZ eZ => zt_Basics_kindOf _ _ x1 h _ eZ) zc_Loom_195 ⟨by decide, by decide⟩ (Nat.zero_le _) (Nat.zero_le _) rfl rfl (Nat.le_of_ble_eq_true rfl) dd_Loom_make_45 (fun r1 => ?_)
  refine zx_lload_n E 2 dd_Loom_make_48 rfl rfl ?_
  refine zx_callS_z E [.int r1, .long x2] (fun rZ eZ => zt_Basics_holds _ _ r1 x2 h _ eZ) zc_Loom_198 ⟨by decide, by decide⟩ (Nat.zero_le _) (Nat.zero_le _) rfl rfl (Nat.le_of_ble_eq_true rfl) dd_Loom_make_49 (fun r2 => ?_)
  refine zx_ifb_ne E (x := r2) 65 dd_Loom_make_52 rfl ?_ ?_
  rotate_left
  · exact zj_Loom_make_65 E T hst x1 x2 x4 h
  refine zx_sub [] rfl ?_
  exact zj_Loom_make_55 E T hst h
set_option maxHeartbeats 4000000 in
set_option maxRecDepth 20000 in
theorem zt_Loom_make (l : Launch) (hst : l.stackTraces = false) (K : zx_K) (a1 : Int32) (a2 : Int64) (h : zx_H) (r : (Nat × Int32 × zx_H)) (hf : zs_Loom_make a1 a2 h = some r) : zx_MX l zm_Loom_make zy_Loom_make K [zx_rV K 0 0, .int a1, .long a2] h r.1 (some (.int r.2.1)) r.2.2 := by
  refine zx_ofX (M := zm_Loom_make) (y := zy_Loom_make) (r := r) (as := [zx_rV K 0 0, .int a1, .long a2]) (ρ := (fun r => (r.1, (some (Value.int r.2.1) : Option Value), r.2.2))) hst (by decide) rfl hf (Nat.le_of_ble_eq_true rfl) ?_
  intro B hl hK E T
  subst hK
  subst hl
  show zx_X B zm_Loom_make _ _ 0 0 0 [(0, zx_rV (zx_BK B) 0 0), (1, .int a1), (2, .long a2)] [] h
  unfold zs_Loom_make
  refine zx_iload_n E 1 dd_Loom_make_0 rfl rfl ?_
  refine zx_callS_z E [.int a1] (fun rZ eZ => zt_Basics_isBox _ _ a1 h _ eZ) zc_Loom_189 ⟨by decide, by decide⟩ (Nat.zero_le _) (Nat.zero_le _) rfl rfl (Nat.le_of_ble_eq_true rfl) dd_Loom_make_1 (fun r1 => ?_)
  refine zx_istore E (lv1 := [(4, .int (zx_b r1)), (0, zx_rV (zx_BK B) 0 0), (1, .int a1), (2, .long a2)]) dd_Loom_make_4 (by decide) rfl ?_
  refine zx_iload E 0 dd_Loom_make_6 rfl ?_
  refine zx_ifb_ne E (x := r1) 39 dd_Loom_make_8 rfl ?_ ?_
  rotate_left
  · refine zx_sub [1, 2, 3, 0] rfl ?_
    exact zj_Loom_make_39 E T hst a1 a2 r1 h
  refine zx_iload_n E 2 dd_Loom_make_11 rfl rfl ?_
  refine zx_bipush E (14 : Int32) dd_Loom_make_12 (by decide) ?_
  refine zx_icmp_eq E 39 dd_Loom_make_14 rfl ?_ ?_
  rotate_left
  · refine zx_sub [1, 2, 3, 0] rfl ?_
    exact zj_Loom_make_39 E T hst a1 a2 r1 h
  refine zx_aload_n E 1 dd_Loom_make_17 rfl rfl ?_
  refine zx_getR E 1 0 zd_Loom_types zg_0 Nat.zero_lt_one (zr_Loom_types _) zw_355 dd_Loom_make_18 ?_
  refine zx_iload_n E 2 dd_Loom_make_21 rfl rfl ?_
  refine zx_callV_z (T := zx_TTypes) E [.int a1] (fun rZ eZ => zt_Types_isBean _ _ a1 h _ eZ) zg_1 Nat.zero_lt_one rfl zc_Loom_91 ⟨by decide, by decide⟩ (Nat.zero_le _) (Nat.zero_le _) rfl rfl (Nat.le_of_ble_eq_true rfl) dd_Loom_make_22 (fun r2 => ?_)
  refine zx_ifb_ne E (x := r2) 39 dd_Loom_make_25 rfl ?_ ?_
  rotate_left
  · refine zx_sub [1, 2, 3, 0] rfl ?_
    exact zj_Loom_make_39 E T hst a1 a2 r1 h
  refine zx_aload_n E 1 dd_Loom_make_28 rfl rfl ?_
  refine zx_getR E 1 0 zd_Loom_types zg_0 Nat.zero_lt_one (zr_Loom_types _) zw_355 dd_Loom_make_29 ?_
  refine zx_iload_n E 2 dd_Loom_make_32 rfl rfl ?_
  refine zx_callV_z (T := zx_TTypes) E [.int a1] (fun rZ eZ => zt_Types_isList _ _ a1 h _ eZ) zg_1 Nat.zero_lt_one rfl zc_Loom_192 ⟨by decide, by decide⟩ (Nat.zero_le _) (Nat.zero_le _) rfl rfl (Nat.le_of_ble_eq_true rfl) dd_Loom_make_33 (fun r3 => ?_)
  refine zx_ifb_eq E (x := r3) 55 dd_Loom_make_36 rfl ?_ ?_
  · refine zx_sub [1, 2, 3, 0] rfl ?_
    exact zj_Loom_make_39 E T hst a1 a2 r1 h
  refine zx_sub [] rfl ?_
  exact zj_Loom_make_55 E T hst h
set_option maxHeartbeats 4000000 in
set_option maxRecDepth 20000 in
theorem zj_Loom_map_36 {B : zx_B} (E : zx_E B zm_Loom_map) (T : zx_T B) (hst : (zx_Bl B).stackTraces = false)   (h : zx_H) : zx_X B zm_Loom_map (zx_QX B (fun r => (r.1, (some (Value.int r.2.1) : Option Value), r.2.2))) (zs_Loom_map_J36  h) 0 0 36 [] [] h := by
  unfold zs_Loom_map_J36
  exact zx_throw E T (cd := 1) (text := "no such method, or no value of its first type") rfl (by decide) rfl ztc_Loom_67 zw_474 ⟨rfl, rfl⟩ (by decide +kernel) ⟨by decide, Nat.le_of_ble_eq_true rfl, by decide, by decide⟩ dd_Loom_map_36 dd_Loom_map_39 dd_Loom_map_40 dd_Loom_map_42 dd_Loom_map_45
set_option maxHeartbeats 4000000 in
set_option maxRecDepth 20000 in
theorem zt_Loom_map (l : Launch) (hst : l.stackTraces = false) (K : zx_K) (a1 : Int32) (a2 : Int32) (h : zx_H) (r : (Nat × Int32 × zx_H)) (hf : zs_Loom_map a1 a2 h = some r) : zx_MX l zm_Loom_map zy_Loom_map K [zx_rV K 0 0, .int a1, .int a2] h r.1 (some (.int r.2.1)) r.2.2 := by
  refine zx_ofX (M := zm_Loom_map) (y := zy_Loom_map) (r := r) (as := [zx_rV K 0 0, .int a1, .int a2]) (ρ := (fun r => (r.1, (some (Value.int r.2.1) : Option Value), r.2.2))) hst (by decide) rfl hf (Nat.le_of_ble_eq_true rfl) ?_
  intro B hl hK E T
  subst hK
  subst hl
  show zx_X B zm_Loom_map _ _ 0 0 0 [(0, zx_rV (zx_BK B) 0 0), (1, .int a1), (2, .int a2)] [] h
  unfold zs_Loom_map
  refine zx_aload_n E 0 dd_Loom_map_0 rfl rfl ?_
  refine zx_getR E 11 0 zd_Loom_model zg_0 Nat.zero_lt_one (zr_Loom_model _) zw_356 dd_Loom_map_1 ?_
  refine zx_iload_n E 1 dd_Loom_map_4 rfl rfl ?_
  refine zx_i2l E dd_Loom_map_5 ?_
  refine zx_callV_z (T := zx_TModel) E [.long (a1.toInt64)] (fun rZ eZ => zt_Model_hasMethod _ _ (a1.toInt64) h _ eZ) zg_11 Nat.zero_lt_one rfl zc_Loom_152 ⟨by decide, by decide⟩ (Nat.zero_le _) (Nat.zero_le _) rfl rfl (Nat.le_of_ble_eq_true rfl) dd_Loom_map_6 (fun r1 => ?_)
  refine zx_ifb_eq E (x := r1) 36 dd_Loom_map_9 rfl ?_ ?_
  rotate_left
  · refine zx_sub [] rfl ?_
    exact zj_Loom_map_36 E T hst h
  refine zx_aload_n E 0 dd_Loom_map_12 rfl rfl ?_
  refine zx_getR E 7 0 zd_Loom_store zg_0 Nat.zero_lt_one (zr_Loom_store _) zw_357 dd_Loom_map_13 ?_
  refine zx_aload_n E 0 dd_Loom_map_16 rfl rfl ?_
  refine zx_getR E 11 0 zd_Loom_model zg_0 Nat.zero_lt_one (zr_Loom_model _) zw_356 dd_Loom_map_17 ?_
  refine zx_getR E 13 0 zd_Model_methods zg_11 Nat.zero_lt_one (zr_Model_methods _) zw_210 dd_Loom_map_20 ?_
  refine zx_iload_n E 1 dd_Loom_map_23 rfl rfl ?_
  refine zx_aaldM E dd_Loom_map_24 (fun j2 => ?_)
  refine zx_getI E zd_Method_from zg_54 j2.isLt zw_155 dd_Loom_map_25 ?_
  refine zx_iload_n E 2 dd_Loom_map_28 rfl rfl ?_
  refine zx_i2l E dd_Loom_map_29 ?_
  refine zx_callV_z (T := zx_TStore) E [.int (h.1 54 j2.val 0), .long (a2.toInt64)] (fun rZ eZ => zt_Store_isValue _ _ (h.1 54 j2.val 0) (a2.toInt64) h _ eZ) zg_7 Nat.zero_lt_one rfl zc_Loom_230 ⟨by decide, by decide⟩ (Nat.zero_le _) (Nat.zero_le _) rfl rfl (Nat.le_of_ble_eq_true rfl) dd_Loom_map_30 (fun r3 => ?_)
  refine zx_ifb_ne E (x := r3) 46 dd_Loom_map_33 rfl ?_ ?_
  · refine zx_sub [] rfl ?_
    exact zj_Loom_map_36 E T hst h
  refine zx_aload_n E 0 dd_Loom_map_46 rfl rfl ?_
  refine zx_getI E zd_Loom_built zg_0 Nat.zero_lt_one zw_360 dd_Loom_map_47 ?_
  refine zx_if_ne E 63 dd_Loom_map_50 rfl ?_ ?_
  · exact zx_throw E T (cd := 2) (text := "not built") rfl (by decide) rfl ztc_Loom_78 zw_547 ⟨rfl, rfl⟩ (by decide +kernel) ⟨by decide, Nat.le_of_ble_eq_true rfl, by decide, by decide⟩ dd_Loom_map_53 dd_Loom_map_56 dd_Loom_map_57 dd_Loom_map_59 dd_Loom_map_62
  refine zx_aload_n E 0 dd_Loom_map_63 rfl rfl ?_
  refine zx_getR E 7 0 zd_Loom_store zg_0 Nat.zero_lt_one (zr_Loom_store _) zw_357 dd_Loom_map_64 ?_
  refine zx_callV_i (T := zx_TStore) E [] (fun rZ eZ => zt_Store_size _ _ h _ eZ) zg_7 Nat.zero_lt_one rfl zc_Loom_108 ⟨by decide, by decide⟩ (Nat.zero_le _) (Nat.zero_le _) rfl rfl (Nat.le_of_ble_eq_true rfl) dd_Loom_map_67 (fun r4 => ?_)
  refine zx_istore_n E (lv1 := [(3, .int r4), (0, zx_rV (zx_BK B) 0 0), (1, .int a1), (2, .int a2)]) dd_Loom_map_70 rfl (by decide) rfl ?_
  refine zx_aload_n E 1 dd_Loom_map_71 rfl rfl ?_
  refine zx_getR E 17 0 zd_Loom_mapper zg_0 Nat.zero_lt_one (zr_Loom_mapper _) zw_359 dd_Loom_map_72 ?_
  refine zx_iload_n E 2 dd_Loom_map_75 rfl rfl ?_
  refine zx_iload_n E 3 dd_Loom_map_76 rfl rfl ?_
  refine zx_i2l E dd_Loom_map_77 ?_
  refine zx_callV_lw (T := zx_TMapper) E [.int a1, .long (a2.toInt64)] (fun rZ eZ => zt_Mapper_run _ _ a1 (a2.toInt64) h _ eZ) zg_17 Nat.zero_lt_one rfl zc_Loom_250 ⟨by decide, by decide⟩ (Nat.zero_le _) (Nat.zero_le _) rfl rfl (Nat.le_of_ble_eq_true rfl) dd_Loom_map_78 (fun r5 => ?_)
  refine zx_lstore E (lv1 := [(4, .long r5.1), (3, .int r4), (0, zx_rV (zx_BK B) 0 0), (1, .int a1), (2, .int a2)]) dd_Loom_map_81 (by decide) rfl ?_
  refine zx_aload_n E 2 dd_Loom_map_83 rfl rfl ?_
  refine zx_getR E 17 0 zd_Loom_mapper zg_0 Nat.zero_lt_one (zr_Loom_mapper _) zw_359 dd_Loom_map_84 ?_
  refine zx_callV_z (T := zx_TMapper) E [] (fun rZ eZ => zt_Mapper_hasFailed _ _ r5.2 _ eZ) zg_17 Nat.zero_lt_one rfl zc_Loom_254 ⟨by decide, by decide⟩ (Nat.zero_le _) (Nat.zero_le _) rfl rfl (Nat.le_of_ble_eq_true rfl) dd_Loom_map_87 (fun r6 => ?_)
  refine zx_ifb_eq E (x := r6) 112 dd_Loom_map_90 rfl ?_ ?_
  rotate_left
  · refine zx_lload E 0 dd_Loom_map_112 rfl ?_
    refine zx_l2i E dd_Loom_map_114 ?_
    exact zx_xiret E rfl rfl dd_Loom_map_115
  refine zx_aload_n E 2 dd_Loom_map_93 rfl rfl ?_
  refine zx_getR E 7 0 zd_Loom_store zg_0 Nat.zero_lt_one (zr_Loom_store _) zw_357 dd_Loom_map_94 ?_
  refine zx_iload_n E 1 dd_Loom_map_97 rfl rfl ?_
  refine zx_callV_v (T := zx_TStore) E [.int r4] (fun rZ eZ => zt_Store_forget _ _ r4 r5.2 _ eZ) zg_7 Nat.zero_lt_one rfl zc_Loom_257 ⟨by decide, by decide⟩ (Nat.zero_le _) (Nat.zero_le _) rfl rfl (Nat.le_of_ble_eq_true rfl) dd_Loom_map_98 (fun r7 => ?_)
  exact zx_throwW E T (cd := 4) (text := "something fails, or too many objects") rfl (by decide) rfl ztc_Loom_265 zw_1051 ⟨rfl, rfl⟩ (by decide +kernel) ⟨by decide, Nat.le_of_ble_eq_true rfl, by decide, by decide⟩ dd_Loom_map_101 dd_Loom_map_104 dd_Loom_map_105 dd_Loom_map_108 dd_Loom_map_111
set_option maxHeartbeats 4000000 in
set_option maxRecDepth 20000 in
theorem zt_Loom_get (l : Launch) (hst : l.stackTraces = false) (K : zx_K) (a1 : Int32) (a2 : Int32) (h : zx_H) (r : (Nat × Int64 × zx_H)) (hf : zs_Loom_get a1 a2 h = some r) : zx_MX l zm_Loom_get zy_Loom_get K [zx_rV K 0 0, .int a1, .int a2] h r.1 (some (.long r.2.1)) r.2.2 := by
  refine zx_ofX (M := zm_Loom_get) (y := zy_Loom_get) (r := r) (as := [zx_rV K 0 0, .int a1, .int a2]) (ρ := (fun r => (r.1, (some (Value.long r.2.1) : Option Value), r.2.2))) hst (by decide) rfl hf (Nat.le_of_ble_eq_true rfl) ?_
  intro B hl hK E T
  subst hK
  subst hl
  show zx_X B zm_Loom_get _ _ 0 0 0 [(0, zx_rV (zx_BK B) 0 0), (1, .int a1), (2, .int a2)] [] h
  unfold zs_Loom_get
  refine zx_aload_n E 0 dd_Loom_get_0 rfl rfl ?_
  refine zx_getR E 7 0 zd_Loom_store zg_0 Nat.zero_lt_one (zr_Loom_store _) zw_357 dd_Loom_get_1 ?_
  refine zx_iload_n E 1 dd_Loom_get_4 rfl rfl ?_
  refine zx_iload_n E 2 dd_Loom_get_5 rfl rfl ?_
  refine zx_callV_z (T := zx_TStore) E [.int a1, .int a2] (fun rZ eZ => zt_Store_hasPlace _ _ a1 a2 h _ eZ) zg_7 Nat.zero_lt_one rfl zc_Loom_223 ⟨by decide, by decide⟩ (Nat.zero_le _) (Nat.zero_le _) rfl rfl (Nat.le_of_ble_eq_true rfl) dd_Loom_get_6 (fun r1 => ?_)
  refine zx_ifb_ne E (x := r1) 23 dd_Loom_get_9 rfl ?_ ?_
  · exact zx_throwW E T (cd := 3) (text := "no such object or place") rfl (by decide) rfl ztc_Loom_270 zw_1075 ⟨rfl, rfl⟩ (by decide +kernel) ⟨by decide, Nat.le_of_ble_eq_true rfl, by decide, by decide⟩ dd_Loom_get_12 dd_Loom_get_15 dd_Loom_get_16 dd_Loom_get_19 dd_Loom_get_22
  refine zx_aload_n E 0 dd_Loom_get_23 rfl rfl ?_
  refine zx_getR E 7 0 zd_Loom_store zg_0 Nat.zero_lt_one (zr_Loom_store _) zw_357 dd_Loom_get_24 ?_
  refine zx_iload_n E 1 dd_Loom_get_27 rfl rfl ?_
  refine zx_iload_n E 2 dd_Loom_get_28 rfl rfl ?_
  refine zx_callV_l (T := zx_TStore) E [.int a1, .int a2] (fun rZ eZ => zt_Store_cell _ _ a1 a2 h _ eZ) zg_7 Nat.zero_lt_one rfl zc_Loom_271 ⟨by decide, by decide⟩ (Nat.zero_le _) (Nat.zero_le _) rfl rfl (Nat.le_of_ble_eq_true rfl) dd_Loom_get_29 (fun r2 => ?_)
  exact zx_xlret E rfl rfl dd_Loom_get_32
set_option maxHeartbeats 4000000 in
set_option maxRecDepth 20000 in
theorem zj_Loom_about_21 {B : zx_B} (E : zx_E B zm_Loom_about) (T : zx_T B) (hst : (zx_Bl B).stackTraces = false)   (h : zx_H) : zx_X B zm_Loom_about (zx_QX B (fun r => (r.1, (some (Value.int r.2.1) : Option Value), r.2.2))) (zs_Loom_about_J21  h) 0 0 21 [] [] h := by
  unfold zs_Loom_about_J21
  exact zx_throwW E T (cd := 3) (text := "no such object or what") rfl (by decide) rfl ztc_Loom_270 zw_1075 ⟨rfl, rfl⟩ (by decide +kernel) ⟨by decide, Nat.le_of_ble_eq_true rfl, by decide, by decide⟩ dd_Loom_about_21 dd_Loom_about_24 dd_Loom_about_25 dd_Loom_about_28 dd_Loom_about_31
set_option maxHeartbeats 4000000 in
set_option maxRecDepth 20000 in
theorem zt_Loom_about (l : Launch) (hst : l.stackTraces = false) (K : zx_K) (a1 : Int32) (a2 : Int32) (h : zx_H) (r : (Nat × Int32 × zx_H)) (hf : zs_Loom_about a1 a2 h = some r) : zx_MX l zm_Loom_about zy_Loom_about K [zx_rV K 0 0, .int a1, .int a2] h r.1 (some (.int r.2.1)) r.2.2 := by
  refine zx_ofX (M := zm_Loom_about) (y := zy_Loom_about) (r := r) (as := [zx_rV K 0 0, .int a1, .int a2]) (ρ := (fun r => (r.1, (some (Value.int r.2.1) : Option Value), r.2.2))) hst (by decide) rfl hf (Nat.le_of_ble_eq_true rfl) ?_
  intro B hl hK E T
  subst hK
  subst hl
  show zx_X B zm_Loom_about _ _ 0 0 0 [(0, zx_rV (zx_BK B) 0 0), (1, .int a1), (2, .int a2)] [] h
  unfold zs_Loom_about
  refine zx_aload_n E 0 dd_Loom_about_0 rfl rfl ?_
  refine zx_getR E 7 0 zd_Loom_store zg_0 Nat.zero_lt_one (zr_Loom_store _) zw_357 dd_Loom_about_1 ?_
  refine zx_iload_n E 1 dd_Loom_about_4 rfl rfl ?_
  refine zx_i2l E dd_Loom_about_5 ?_
  refine zx_callV_z (T := zx_TStore) E [.long (a1.toInt64)] (fun rZ eZ => zt_Store_has _ _ (a1.toInt64) h _ eZ) zg_7 Nat.zero_lt_one rfl zc_Loom_275 ⟨by decide, by decide⟩ (Nat.zero_le _) (Nat.zero_le _) rfl rfl (Nat.le_of_ble_eq_true rfl) dd_Loom_about_6 (fun r1 => ?_)
  refine zx_ifb_eq E (x := r1) 21 dd_Loom_about_9 rfl ?_ ?_
  rotate_left
  · refine zx_sub [] rfl ?_
    exact zj_Loom_about_21 E T hst h
  refine zx_iload_n E 2 dd_Loom_about_12 rfl rfl ?_
  refine zx_if_lt E 21 dd_Loom_about_13 rfl ?_ ?_
  rotate_left
  · refine zx_sub [] rfl ?_
    exact zj_Loom_about_21 E T hst h
  refine zx_iload_n E 2 dd_Loom_about_16 rfl rfl ?_
  refine zx_iconst E (1 : Int32) dd_Loom_about_17 (by decide) ?_
  refine zx_icmp_le E 32 dd_Loom_about_18 rfl ?_ ?_
  · refine zx_sub [] rfl ?_
    exact zj_Loom_about_21 E T hst h
  refine zx_iload_n E 2 dd_Loom_about_32 rfl rfl ?_
  refine zx_if_ne E 47 dd_Loom_about_33 rfl ?_ ?_
  rotate_left
  · refine zx_aload_n E 0 dd_Loom_about_47 rfl rfl ?_
    refine zx_getR E 7 0 zd_Loom_store zg_0 Nat.zero_lt_one (zr_Loom_store _) zw_357 dd_Loom_about_48 ?_
    refine zx_iload_n E 1 dd_Loom_about_51 rfl rfl ?_
    refine zx_callV_i (T := zx_TStore) E [.int a1] (fun rZ eZ => zt_Store_length _ _ a1 h _ eZ) zg_7 Nat.zero_lt_one rfl zc_Loom_237 ⟨by decide, by decide⟩ (Nat.zero_le _) (Nat.zero_le _) rfl rfl (Nat.le_of_ble_eq_true rfl) dd_Loom_about_52 (fun r3 => ?_)
    exact zx_xiret E rfl rfl dd_Loom_about_55
  refine zx_aload_n E 0 dd_Loom_about_36 rfl rfl ?_
  refine zx_getR E 7 0 zd_Loom_store zg_0 Nat.zero_lt_one (zr_Loom_store _) zw_357 dd_Loom_about_37 ?_
  refine zx_iload_n E 1 dd_Loom_about_40 rfl rfl ?_
  refine zx_callV_i (T := zx_TStore) E [.int a1] (fun rZ eZ => zt_Store_typeOf _ _ a1 h _ eZ) zg_7 Nat.zero_lt_one rfl zc_Loom_220 ⟨by decide, by decide⟩ (Nat.zero_le _) (Nat.zero_le _) rfl rfl (Nat.le_of_ble_eq_true rfl) dd_Loom_about_41 (fun r2 => ?_)
  refine zx_goto E 55 dd_Loom_about_44 rfl ?_
  exact zx_xiret E rfl rfl dd_Loom_about_55
set_option maxHeartbeats 4000000 in
set_option maxRecDepth 20000 in
theorem zt_Law_enumeration (l : Launch) (hst : l.stackTraces = false) (K : zx_K) (a1 : Int64) (a3 : Int32) (h : zx_H) (r : (Int32 × zx_H)) (hf : zs_Law_enumeration a1 a3 h = some r) : zx_MH l zm_Law_enumeration zy_Law_enumeration [(0, 11, 14, 13), (0, 11, 18, 15)] K [zx_rV K 0 0, .long a1, .int a3, zx_rV K 52 0] h (some (.int r.1)) r.2 := by
  refine zx_ofH (M := zm_Law_enumeration) (y := zy_Law_enumeration) (r := r) (as := [zx_rV K 0 0, .long a1, .int a3, zx_rV K 52 0]) (ρ := (fun r => ((some (Value.int r.1) : Option Value), r.2))) (by decide) rfl hf (Nat.le_of_ble_eq_true rfl) ?_
  intro B hl hK E Tb
  subst hK
  subst hl
  show zx_X B zm_Law_enumeration _ _ 0 0 0 [(0, zx_rV (zx_BK B) 0 0), (1, .long a1), (3, .int a3), (4, zx_rV (zx_BK B) 52 0)] [] h
  unfold zs_Law_enumeration
  refine zx_aload E 3 dd_Law_enumeration_0 rfl ?_
  refine zx_iconst E (0 : Int32) dd_Law_enumeration_2 (by decide) ?_
  refine zx_aload_n E 0 dd_Law_enumeration_3 rfl rfl ?_
  refine zx_lload_n E 1 dd_Law_enumeration_4 rfl rfl ?_
  refine zx_iload_n E 2 dd_Law_enumeration_5 rfl rfl ?_
  refine zx_callX (T := zx_TLoom) E Tb (fun x => some (Value.int x)) [.long a1, .int a3] (fun rZ eZ => zt_Loom_enumeration _ hst _ a1 a3 h _ eZ) zg_0 Nat.zero_lt_one rfl zcx_Law_7 ⟨by decide, by decide⟩ (by decide) (by decide) rfl rfl (Nat.le_of_ble_eq_true rfl) dd_Law_enumeration_6 (fun r1 hr => ?_) (fun r1 hr => ?_)
  · rw [if_pos hr]
    refine zx_i2l E dd_Law_enumeration_9 ?_
    refine zx_last E zg_52 Nat.zero_lt_one dd_Law_enumeration_10 ?_
    refine zx_letH (fun h2 => ?_)
    refine zx_goto E 22 dd_Law_enumeration_11 rfl ?_
    refine zx_iconst E (0 : Int32) dd_Law_enumeration_22 (by decide) ?_
    exact zx_hret E rfl (by decide) (by decide) rfl dd_Law_enumeration_23
  · rw [if_neg hr]
    by_cases h1 : r1.1 = 1
    · rw [if_pos h1]
      refine Or.inr ⟨14, by rw [h1]; exact zct_Law_enumeration_1, fun q3 => ?_⟩
      refine zx_astore E (lv1 := [(5, .ref q3), (0, zx_rV (zx_BK B) 0 0), (1, .long a1), (3, .int a3), (4, zx_rV (zx_BK B) 52 0)]) dd_Law_enumeration_14 (by decide) rfl ?_
      refine zx_iconst E (1 : Int32) dd_Law_enumeration_16 (by decide) ?_
      exact zx_hret E rfl (by decide) (by decide) rfl dd_Law_enumeration_17
    rw [if_neg h1]
    by_cases h2 : r1.1 = 2
    · rw [if_pos h2]
      refine Or.inr ⟨18, by rw [h2]; exact zct_Law_enumeration_2, fun q4 => ?_⟩
      refine zx_astore E (lv1 := [(5, .ref q4), (0, zx_rV (zx_BK B) 0 0), (1, .long a1), (3, .int a3), (4, zx_rV (zx_BK B) 52 0)]) dd_Law_enumeration_18 (by decide) rfl ?_
      refine zx_iconst E (2 : Int32) dd_Law_enumeration_20 (by decide) ?_
      exact zx_hret E rfl (by decide) (by decide) rfl dd_Law_enumeration_21
    rw [if_neg h2]
    exact Or.inl rfl
set_option maxHeartbeats 4000000 in
set_option maxRecDepth 20000 in
theorem zt_Law_bean (l : Launch) (hst : l.stackTraces = false) (K : zx_K)  (h : zx_H) (r : (Int32 × zx_H)) (hf : zs_Law_bean  h = some r) : zx_MH l zm_Law_bean zy_Law_bean [(0, 8, 11, 15)] K [zx_rV K 0 0, zx_rV K 52 0] h (some (.int r.1)) r.2 := by
  refine zx_ofH (M := zm_Law_bean) (y := zy_Law_bean) (r := r) (as := [zx_rV K 0 0, zx_rV K 52 0]) (ρ := (fun r => ((some (Value.int r.1) : Option Value), r.2))) (by decide) rfl hf (Nat.le_of_ble_eq_true rfl) ?_
  intro B hl hK E Tb
  subst hK
  subst hl
  show zx_X B zm_Law_bean _ _ 0 0 0 [(0, zx_rV (zx_BK B) 0 0), (1, zx_rV (zx_BK B) 52 0)] [] h
  unfold zs_Law_bean
  refine zx_aload_n E 1 dd_Law_bean_0 rfl rfl ?_
  refine zx_iconst E (0 : Int32) dd_Law_bean_1 (by decide) ?_
  refine zx_aload_n E 0 dd_Law_bean_2 rfl rfl ?_
  refine zx_callX (T := zx_TLoom) E Tb (fun x => some (Value.int x)) [] (fun rZ eZ => zt_Loom_bean _ hst _ h _ eZ) zg_0 Nat.zero_lt_one rfl zcx_Law_17 ⟨by decide, by decide⟩ (by decide) (by decide) rfl rfl (Nat.le_of_ble_eq_true rfl) dd_Law_bean_3 (fun r1 hr => ?_) (fun r1 hr => ?_)
  · rw [if_pos hr]
    refine zx_i2l E dd_Law_bean_6 ?_
    refine zx_last E zg_52 Nat.zero_lt_one dd_Law_bean_7 ?_
    refine zx_letH (fun h2 => ?_)
    refine zx_goto E 14 dd_Law_bean_8 rfl ?_
    refine zx_iconst E (0 : Int32) dd_Law_bean_14 (by decide) ?_
    exact zx_hret E rfl (by decide) (by decide) rfl dd_Law_bean_15
  · rw [if_neg hr]
    by_cases h2 : r1.1 = 2
    · rw [if_pos h2]
      refine Or.inr ⟨11, by rw [h2]; exact zct_Law_bean_2, fun q3 => ?_⟩
      refine zx_astore_n E (lv1 := [(2, .ref q3), (0, zx_rV (zx_BK B) 0 0), (1, zx_rV (zx_BK B) 52 0)]) dd_Law_bean_11 rfl (by decide) rfl ?_
      refine zx_iconst E (1 : Int32) dd_Law_bean_12 (by decide) ?_
      exact zx_hret E rfl (by decide) (by decide) rfl dd_Law_bean_13
    rw [if_neg h2]
    exact Or.inl rfl
set_option maxHeartbeats 4000000 in
set_option maxRecDepth 20000 in
theorem zt_Law_property (l : Launch) (hst : l.stackTraces = false) (K : zx_K) (a1 : Int32) (a2 : Int32) (a3 : Int32) (h : zx_H) (r : (Int32 × zx_H)) (hf : zs_Law_property a1 a2 a3 h = some r) : zx_MH l zm_Law_property zy_Law_property [(0, 12, 15, 13), (0, 12, 19, 15)] K [zx_rV K 0 0, .int a1, .int a2, .int a3, zx_rV K 52 0] h (some (.int r.1)) r.2 := by
  refine zx_ofH (M := zm_Law_property) (y := zy_Law_property) (r := r) (as := [zx_rV K 0 0, .int a1, .int a2, .int a3, zx_rV K 52 0]) (ρ := (fun r => ((some (Value.int r.1) : Option Value), r.2))) (by decide) rfl hf (Nat.le_of_ble_eq_true rfl) ?_
  intro B hl hK E Tb
  subst hK
  subst hl
  show zx_X B zm_Law_property _ _ 0 0 0 [(0, zx_rV (zx_BK B) 0 0), (1, .int a1), (2, .int a2), (3, .int a3), (4, zx_rV (zx_BK B) 52 0)] [] h
  unfold zs_Law_property
  refine zx_aload E 4 dd_Law_property_0 rfl ?_
  refine zx_iconst E (0 : Int32) dd_Law_property_2 (by decide) ?_
  refine zx_aload_n E 0 dd_Law_property_3 rfl rfl ?_
  refine zx_iload_n E 1 dd_Law_property_4 rfl rfl ?_
  refine zx_iload_n E 2 dd_Law_property_5 rfl rfl ?_
  refine zx_iload_n E 3 dd_Law_property_6 rfl rfl ?_
  refine zx_callX (T := zx_TLoom) E Tb (fun x => some (Value.int x)) [.int a1, .int a2, .int a3] (fun rZ eZ => zt_Loom_property _ hst _ a1 a2 a3 h _ eZ) zg_0 Nat.zero_lt_one rfl zcx_Law_21 ⟨by decide, by decide⟩ (by decide) (by decide) rfl rfl (Nat.le_of_ble_eq_true rfl) dd_Law_property_7 (fun r1 hr => ?_) (fun r1 hr => ?_)
  · rw [if_pos hr]
    refine zx_i2l E dd_Law_property_10 ?_
    refine zx_last E zg_52 Nat.zero_lt_one dd_Law_property_11 ?_
    refine zx_letH (fun h2 => ?_)
    refine zx_goto E 23 dd_Law_property_12 rfl ?_
    refine zx_iconst E (0 : Int32) dd_Law_property_23 (by decide) ?_
    exact zx_hret E rfl (by decide) (by decide) rfl dd_Law_property_24
  · rw [if_neg hr]
    by_cases h1 : r1.1 = 1
    · rw [if_pos h1]
      refine Or.inr ⟨15, by rw [h1]; exact zct_Law_property_1, fun q3 => ?_⟩
      refine zx_astore E (lv1 := [(5, .ref q3), (0, zx_rV (zx_BK B) 0 0), (1, .int a1), (2, .int a2), (3, .int a3), (4, zx_rV (zx_BK B) 52 0)]) dd_Law_property_15 (by decide) rfl ?_
      refine zx_iconst E (1 : Int32) dd_Law_property_17 (by decide) ?_
      exact zx_hret E rfl (by decide) (by decide) rfl dd_Law_property_18
    rw [if_neg h1]
    by_cases h2 : r1.1 = 2
    · rw [if_pos h2]
      refine Or.inr ⟨19, by rw [h2]; exact zct_Law_property_2, fun q4 => ?_⟩
      refine zx_astore E (lv1 := [(5, .ref q4), (0, zx_rV (zx_BK B) 0 0), (1, .int a1), (2, .int a2), (3, .int a3), (4, zx_rV (zx_BK B) 52 0)]) dd_Law_property_19 (by decide) rfl ?_
      refine zx_iconst E (2 : Int32) dd_Law_property_21 (by decide) ?_
      exact zx_hret E rfl (by decide) (by decide) rfl dd_Law_property_22
    rw [if_neg h2]
    exact Or.inl rfl
set_option maxHeartbeats 4000000 in
set_option maxRecDepth 20000 in
theorem zt_Law_list (l : Launch) (hst : l.stackTraces = false) (K : zx_K) (a1 : Int32) (h : zx_H) (r : (Int32 × zx_H)) (hf : zs_Law_list a1 h = some r) : zx_MH l zm_Law_list zy_Law_list [(0, 9, 12, 13), (0, 9, 15, 15)] K [zx_rV K 0 0, .int a1, zx_rV K 52 0] h (some (.int r.1)) r.2 := by
  refine zx_ofH (M := zm_Law_list) (y := zy_Law_list) (r := r) (as := [zx_rV K 0 0, .int a1, zx_rV K 52 0]) (ρ := (fun r => ((some (Value.int r.1) : Option Value), r.2))) (by decide) rfl hf (Nat.le_of_ble_eq_true rfl) ?_
  intro B hl hK E Tb
  subst hK
  subst hl
  show zx_X B zm_Law_list _ _ 0 0 0 [(0, zx_rV (zx_BK B) 0 0), (1, .int a1), (2, zx_rV (zx_BK B) 52 0)] [] h
  unfold zs_Law_list
  refine zx_aload_n E 2 dd_Law_list_0 rfl rfl ?_
  refine zx_iconst E (0 : Int32) dd_Law_list_1 (by decide) ?_
  refine zx_aload_n E 0 dd_Law_list_2 rfl rfl ?_
  refine zx_iload_n E 1 dd_Law_list_3 rfl rfl ?_
  refine zx_callX (T := zx_TLoom) E Tb (fun x => some (Value.int x)) [.int a1] (fun rZ eZ => zt_Loom_list _ hst _ a1 h _ eZ) zg_0 Nat.zero_lt_one rfl zcx_Law_25 ⟨by decide, by decide⟩ (by decide) (by decide) rfl rfl (Nat.le_of_ble_eq_true rfl) dd_Law_list_4 (fun r1 hr => ?_) (fun r1 hr => ?_)
  · rw [if_pos hr]
    refine zx_i2l E dd_Law_list_7 ?_
    refine zx_last E zg_52 Nat.zero_lt_one dd_Law_list_8 ?_
    refine zx_letH (fun h2 => ?_)
    refine zx_goto E 18 dd_Law_list_9 rfl ?_
    refine zx_iconst E (0 : Int32) dd_Law_list_18 (by decide) ?_
    exact zx_hret E rfl (by decide) (by decide) rfl dd_Law_list_19
  · rw [if_neg hr]
    by_cases h1 : r1.1 = 1
    · rw [if_pos h1]
      refine Or.inr ⟨12, by rw [h1]; exact zct_Law_list_1, fun q3 => ?_⟩
      refine zx_astore_n E (lv1 := [(3, .ref q3), (0, zx_rV (zx_BK B) 0 0), (1, .int a1), (2, zx_rV (zx_BK B) 52 0)]) dd_Law_list_12 rfl (by decide) rfl ?_
      refine zx_iconst E (1 : Int32) dd_Law_list_13 (by decide) ?_
      exact zx_hret E rfl (by decide) (by decide) rfl dd_Law_list_14
    rw [if_neg h1]
    by_cases h2 : r1.1 = 2
    · rw [if_pos h2]
      refine Or.inr ⟨15, by rw [h2]; exact zct_Law_list_2, fun q4 => ?_⟩
      refine zx_astore_n E (lv1 := [(3, .ref q4), (0, zx_rV (zx_BK B) 0 0), (1, .int a1), (2, zx_rV (zx_BK B) 52 0)]) dd_Law_list_15 rfl (by decide) rfl ?_
      refine zx_iconst E (2 : Int32) dd_Law_list_16 (by decide) ?_
      exact zx_hret E rfl (by decide) (by decide) rfl dd_Law_list_17
    rw [if_neg h2]
    exact Or.inl rfl
set_option maxHeartbeats 4000000 in
set_option maxRecDepth 20000 in
theorem zt_Law_method (l : Launch) (hst : l.stackTraces = false) (K : zx_K) (a1 : Int32) (a2 : Int32) (h : zx_H) (r : (Int32 × zx_H)) (hf : zs_Law_method a1 a2 h = some r) : zx_MH l zm_Law_method zy_Law_method [(0, 10, 13, 13), (0, 10, 17, 15)] K [zx_rV K 0 0, .int a1, .int a2, zx_rV K 52 0] h (some (.int r.1)) r.2 := by
  refine zx_ofH (M := zm_Law_method) (y := zy_Law_method) (r := r) (as := [zx_rV K 0 0, .int a1, .int a2, zx_rV K 52 0]) (ρ := (fun r => ((some (Value.int r.1) : Option Value), r.2))) (by decide) rfl hf (Nat.le_of_ble_eq_true rfl) ?_
  intro B hl hK E Tb
  subst hK
  subst hl
  show zx_X B zm_Law_method _ _ 0 0 0 [(0, zx_rV (zx_BK B) 0 0), (1, .int a1), (2, .int a2), (3, zx_rV (zx_BK B) 52 0)] [] h
  unfold zs_Law_method
  refine zx_aload_n E 3 dd_Law_method_0 rfl rfl ?_
  refine zx_iconst E (0 : Int32) dd_Law_method_1 (by decide) ?_
  refine zx_aload_n E 0 dd_Law_method_2 rfl rfl ?_
  refine zx_iload_n E 1 dd_Law_method_3 rfl rfl ?_
  refine zx_iload_n E 2 dd_Law_method_4 rfl rfl ?_
  refine zx_callX (T := zx_TLoom) E Tb (fun x => some (Value.int x)) [.int a1, .int a2] (fun rZ eZ => zt_Loom_method _ hst _ a1 a2 h _ eZ) zg_0 Nat.zero_lt_one rfl zcx_Law_29 ⟨by decide, by decide⟩ (by decide) (by decide) rfl rfl (Nat.le_of_ble_eq_true rfl) dd_Law_method_5 (fun r1 hr => ?_) (fun r1 hr => ?_)
  · rw [if_pos hr]
    refine zx_i2l E dd_Law_method_8 ?_
    refine zx_last E zg_52 Nat.zero_lt_one dd_Law_method_9 ?_
    refine zx_letH (fun h2 => ?_)
    refine zx_goto E 21 dd_Law_method_10 rfl ?_
    refine zx_iconst E (0 : Int32) dd_Law_method_21 (by decide) ?_
    exact zx_hret E rfl (by decide) (by decide) rfl dd_Law_method_22
  · rw [if_neg hr]
    by_cases h1 : r1.1 = 1
    · rw [if_pos h1]
      refine Or.inr ⟨13, by rw [h1]; exact zct_Law_method_1, fun q3 => ?_⟩
      refine zx_astore E (lv1 := [(4, .ref q3), (0, zx_rV (zx_BK B) 0 0), (1, .int a1), (2, .int a2), (3, zx_rV (zx_BK B) 52 0)]) dd_Law_method_13 (by decide) rfl ?_
      refine zx_iconst E (1 : Int32) dd_Law_method_15 (by decide) ?_
      exact zx_hret E rfl (by decide) (by decide) rfl dd_Law_method_16
    rw [if_neg h1]
    by_cases h2 : r1.1 = 2
    · rw [if_pos h2]
      refine Or.inr ⟨17, by rw [h2]; exact zct_Law_method_2, fun q4 => ?_⟩
      refine zx_astore E (lv1 := [(4, .ref q4), (0, zx_rV (zx_BK B) 0 0), (1, .int a1), (2, .int a2), (3, zx_rV (zx_BK B) 52 0)]) dd_Law_method_17 (by decide) rfl ?_
      refine zx_iconst E (2 : Int32) dd_Law_method_19 (by decide) ?_
      exact zx_hret E rfl (by decide) (by decide) rfl dd_Law_method_20
    rw [if_neg h2]
    exact Or.inl rfl
set_option maxHeartbeats 4000000 in
set_option maxRecDepth 20000 in
theorem zt_Law_function (l : Launch) (hst : l.stackTraces = false) (K : zx_K) (a1 : Int32) (a2 : Int32) (a3 : Int32) (a4 : Int32) (h : zx_H) (r : (Int32 × zx_H)) (hf : zs_Law_function a1 a2 a3 a4 h = some r) : zx_MH l zm_Law_function zy_Law_function [(0, 14, 17, 13), (0, 14, 21, 15)] K [zx_rV K 0 0, .int a1, .int a2, .int a3, .int a4, zx_rV K 52 0] h (some (.int r.1)) r.2 := by
  refine zx_ofH (M := zm_Law_function) (y := zy_Law_function) (r := r) (as := [zx_rV K 0 0, .int a1, .int a2, .int a3, .int a4, zx_rV K 52 0]) (ρ := (fun r => ((some (Value.int r.1) : Option Value), r.2))) (by decide) rfl hf (Nat.le_of_ble_eq_true rfl) ?_
  intro B hl hK E Tb
  subst hK
  subst hl
  show zx_X B zm_Law_function _ _ 0 0 0 [(0, zx_rV (zx_BK B) 0 0), (1, .int a1), (2, .int a2), (3, .int a3), (4, .int a4), (5, zx_rV (zx_BK B) 52 0)] [] h
  unfold zs_Law_function
  refine zx_aload E 5 dd_Law_function_0 rfl ?_
  refine zx_iconst E (0 : Int32) dd_Law_function_2 (by decide) ?_
  refine zx_aload_n E 0 dd_Law_function_3 rfl rfl ?_
  refine zx_iload_n E 1 dd_Law_function_4 rfl rfl ?_
  refine zx_iload_n E 2 dd_Law_function_5 rfl rfl ?_
  refine zx_iload_n E 3 dd_Law_function_6 rfl rfl ?_
  refine zx_iload E 4 dd_Law_function_7 rfl ?_
  refine zx_callX (T := zx_TLoom) E Tb (fun x => some (Value.int x)) [.int a1, .int a2, .int a3, .int a4] (fun rZ eZ => zt_Loom_function _ hst _ a1 a2 a3 a4 h _ eZ) zg_0 Nat.zero_lt_one rfl zcx_Law_33 ⟨by decide, by decide⟩ (by decide) (by decide) rfl rfl (Nat.le_of_ble_eq_true rfl) dd_Law_function_9 (fun r1 hr => ?_) (fun r1 hr => ?_)
  · rw [if_pos hr]
    refine zx_i2l E dd_Law_function_12 ?_
    refine zx_last E zg_52 Nat.zero_lt_one dd_Law_function_13 ?_
    refine zx_letH (fun h2 => ?_)
    refine zx_goto E 25 dd_Law_function_14 rfl ?_
    refine zx_iconst E (0 : Int32) dd_Law_function_25 (by decide) ?_
    exact zx_hret E rfl (by decide) (by decide) rfl dd_Law_function_26
  · rw [if_neg hr]
    by_cases h1 : r1.1 = 1
    · rw [if_pos h1]
      refine Or.inr ⟨17, by rw [h1]; exact zct_Law_function_1, fun q3 => ?_⟩
      refine zx_astore E (lv1 := [(6, .ref q3), (0, zx_rV (zx_BK B) 0 0), (1, .int a1), (2, .int a2), (3, .int a3), (4, .int a4), (5, zx_rV (zx_BK B) 52 0)]) dd_Law_function_17 (by decide) rfl ?_
      refine zx_iconst E (1 : Int32) dd_Law_function_19 (by decide) ?_
      exact zx_hret E rfl (by decide) (by decide) rfl dd_Law_function_20
    rw [if_neg h1]
    by_cases h2 : r1.1 = 2
    · rw [if_pos h2]
      refine Or.inr ⟨21, by rw [h2]; exact zct_Law_function_2, fun q4 => ?_⟩
      refine zx_astore E (lv1 := [(6, .ref q4), (0, zx_rV (zx_BK B) 0 0), (1, .int a1), (2, .int a2), (3, .int a3), (4, .int a4), (5, zx_rV (zx_BK B) 52 0)]) dd_Law_function_21 (by decide) rfl ?_
      refine zx_iconst E (2 : Int32) dd_Law_function_23 (by decide) ?_
      exact zx_hret E rfl (by decide) (by decide) rfl dd_Law_function_24
    rw [if_neg h2]
    exact Or.inl rfl
set_option maxHeartbeats 4000000 in
set_option maxRecDepth 20000 in
theorem zt_Law_rule (l : Launch) (hst : l.stackTraces = false) (K : zx_K) (a1 : Int32) (a2 : Int32) (a3 : Int32) (a4 : Int64) (h : zx_H) (r : (Int32 × zx_H)) (hf : zs_Law_rule a1 a2 a3 a4 h = some r) : zx_MH l zm_Law_rule zy_Law_rule [(0, 9, 12, 13), (0, 9, 16, 15)] K [zx_rV K 0 0, .int a1, .int a2, .int a3, .long a4] h (some (.int r.1)) r.2 := by
  refine zx_ofH (M := zm_Law_rule) (y := zy_Law_rule) (r := r) (as := [zx_rV K 0 0, .int a1, .int a2, .int a3, .long a4]) (ρ := (fun r => ((some (Value.int r.1) : Option Value), r.2))) (by decide) rfl hf (Nat.le_of_ble_eq_true rfl) ?_
  intro B hl hK E Tb
  subst hK
  subst hl
  show zx_X B zm_Law_rule _ _ 0 0 0 [(0, zx_rV (zx_BK B) 0 0), (1, .int a1), (2, .int a2), (3, .int a3), (4, .long a4)] [] h
  unfold zs_Law_rule
  refine zx_aload_n E 0 dd_Law_rule_0 rfl rfl ?_
  refine zx_iload_n E 1 dd_Law_rule_1 rfl rfl ?_
  refine zx_iload_n E 2 dd_Law_rule_2 rfl rfl ?_
  refine zx_iload_n E 3 dd_Law_rule_3 rfl rfl ?_
  refine zx_lload E 4 dd_Law_rule_4 rfl ?_
  refine zx_callX (T := zx_TLoom) E Tb (fun _ => none) [.int a1, .int a2, .int a3, .long a4] (fun rZ eZ => zt_Loom_rule _ hst _ a1 a2 a3 a4 h _ eZ) zg_0 Nat.zero_lt_one rfl zcx_Law_37 ⟨by decide, by decide⟩ (by decide) (by decide) rfl rfl (Nat.le_of_ble_eq_true rfl) dd_Law_rule_6 (fun r1 hr => ?_) (fun r1 hr => ?_)
  · rw [if_pos hr]
    refine zx_goto E 20 dd_Law_rule_9 rfl ?_
    refine zx_iconst E (0 : Int32) dd_Law_rule_20 (by decide) ?_
    exact zx_hret E rfl (by decide) (by decide) rfl dd_Law_rule_21
  · rw [if_neg hr]
    by_cases h1 : r1.1 = 1
    · rw [if_pos h1]
      refine Or.inr ⟨12, by rw [h1]; exact zct_Law_rule_1, fun q2 => ?_⟩
      refine zx_astore E (lv1 := [(6, .ref q2), (0, zx_rV (zx_BK B) 0 0), (1, .int a1), (2, .int a2), (3, .int a3), (4, .long a4)]) dd_Law_rule_12 (by decide) rfl ?_
      refine zx_iconst E (1 : Int32) dd_Law_rule_14 (by decide) ?_
      exact zx_hret E rfl (by decide) (by decide) rfl dd_Law_rule_15
    rw [if_neg h1]
    by_cases h2 : r1.1 = 2
    · rw [if_pos h2]
      refine Or.inr ⟨16, by rw [h2]; exact zct_Law_rule_2, fun q3 => ?_⟩
      refine zx_astore E (lv1 := [(6, .ref q3), (0, zx_rV (zx_BK B) 0 0), (1, .int a1), (2, .int a2), (3, .int a3), (4, .long a4)]) dd_Law_rule_16 (by decide) rfl ?_
      refine zx_iconst E (2 : Int32) dd_Law_rule_18 (by decide) ?_
      exact zx_hret E rfl (by decide) (by decide) rfl dd_Law_rule_19
    rw [if_neg h2]
    exact Or.inl rfl
set_option maxHeartbeats 4000000 in
set_option maxRecDepth 20000 in
theorem zt_Law_build (l : Launch) (hst : l.stackTraces = false) (K : zx_K)  (h : zx_H) (r : (Int32 × zx_H)) (hf : zs_Law_build  h = some r) : zx_MH l zm_Law_build zy_Law_build [(0, 8, 11, 13), (0, 8, 14, 15)] K [zx_rV K 0 0, zx_rV K 52 0] h (some (.int r.1)) r.2 := by
  refine zx_ofH (M := zm_Law_build) (y := zy_Law_build) (r := r) (as := [zx_rV K 0 0, zx_rV K 52 0]) (ρ := (fun r => ((some (Value.int r.1) : Option Value), r.2))) (by decide) rfl hf (Nat.le_of_ble_eq_true rfl) ?_
  intro B hl hK E Tb
  subst hK
  subst hl
  show zx_X B zm_Law_build _ _ 0 0 0 [(0, zx_rV (zx_BK B) 0 0), (1, zx_rV (zx_BK B) 52 0)] [] h
  unfold zs_Law_build
  refine zx_aload_n E 1 dd_Law_build_0 rfl rfl ?_
  refine zx_iconst E (0 : Int32) dd_Law_build_1 (by decide) ?_
  refine zx_aload_n E 0 dd_Law_build_2 rfl rfl ?_
  refine zx_callX (T := zx_TLoom) E Tb (fun x => some (Value.int x)) [] (fun rZ eZ => zt_Loom_build _ hst _ h _ eZ) zg_0 Nat.zero_lt_one rfl zcx_Law_41 ⟨by decide, by decide⟩ (by decide) (by decide) rfl rfl (Nat.le_of_ble_eq_true rfl) dd_Law_build_3 (fun r1 hr => ?_) (fun r1 hr => ?_)
  · rw [if_pos hr]
    refine zx_i2l E dd_Law_build_6 ?_
    refine zx_last E zg_52 Nat.zero_lt_one dd_Law_build_7 ?_
    refine zx_letH (fun h2 => ?_)
    refine zx_goto E 17 dd_Law_build_8 rfl ?_
    refine zx_iconst E (0 : Int32) dd_Law_build_17 (by decide) ?_
    exact zx_hret E rfl (by decide) (by decide) rfl dd_Law_build_18
  · rw [if_neg hr]
    by_cases h1 : r1.1 = 1
    · rw [if_pos h1]
      refine Or.inr ⟨11, by rw [h1]; exact zct_Law_build_1, fun q3 => ?_⟩
      refine zx_astore_n E (lv1 := [(2, .ref q3), (0, zx_rV (zx_BK B) 0 0), (1, zx_rV (zx_BK B) 52 0)]) dd_Law_build_11 rfl (by decide) rfl ?_
      refine zx_iconst E (1 : Int32) dd_Law_build_12 (by decide) ?_
      exact zx_hret E rfl (by decide) (by decide) rfl dd_Law_build_13
    rw [if_neg h1]
    by_cases h2 : r1.1 = 2
    · rw [if_pos h2]
      refine Or.inr ⟨14, by rw [h2]; exact zct_Law_build_2, fun q4 => ?_⟩
      refine zx_astore_n E (lv1 := [(2, .ref q4), (0, zx_rV (zx_BK B) 0 0), (1, zx_rV (zx_BK B) 52 0)]) dd_Law_build_14 rfl (by decide) rfl ?_
      refine zx_iconst E (2 : Int32) dd_Law_build_15 (by decide) ?_
      exact zx_hret E rfl (by decide) (by decide) rfl dd_Law_build_16
    rw [if_neg h2]
    exact Or.inl rfl
set_option maxHeartbeats 4000000 in
set_option maxRecDepth 20000 in
theorem zt_Law_make (l : Launch) (hst : l.stackTraces = false) (K : zx_K) (a1 : Int32) (a2 : Int64) (h : zx_H) (r : (Int32 × zx_H)) (hf : zs_Law_make a1 a2 h = some r) : zx_MH l zm_Law_make zy_Law_make [(0, 11, 14, 13), (0, 11, 18, 15)] K [zx_rV K 0 0, .int a1, .long a2, zx_rV K 52 0] h (some (.int r.1)) r.2 := by
  refine zx_ofH (M := zm_Law_make) (y := zy_Law_make) (r := r) (as := [zx_rV K 0 0, .int a1, .long a2, zx_rV K 52 0]) (ρ := (fun r => ((some (Value.int r.1) : Option Value), r.2))) (by decide) rfl hf (Nat.le_of_ble_eq_true rfl) ?_
  intro B hl hK E Tb
  subst hK
  subst hl
  show zx_X B zm_Law_make _ _ 0 0 0 [(0, zx_rV (zx_BK B) 0 0), (1, .int a1), (2, .long a2), (4, zx_rV (zx_BK B) 52 0)] [] h
  unfold zs_Law_make
  refine zx_aload E 3 dd_Law_make_0 rfl ?_
  refine zx_iconst E (0 : Int32) dd_Law_make_2 (by decide) ?_
  refine zx_aload_n E 0 dd_Law_make_3 rfl rfl ?_
  refine zx_iload_n E 1 dd_Law_make_4 rfl rfl ?_
  refine zx_lload_n E 2 dd_Law_make_5 rfl rfl ?_
  refine zx_callX (T := zx_TLoom) E Tb (fun x => some (Value.int x)) [.int a1, .long a2] (fun rZ eZ => zt_Loom_make _ hst _ a1 a2 h _ eZ) zg_0 Nat.zero_lt_one rfl zcx_Law_44 ⟨by decide, by decide⟩ (by decide) (by decide) rfl rfl (Nat.le_of_ble_eq_true rfl) dd_Law_make_6 (fun r1 hr => ?_) (fun r1 hr => ?_)
  · rw [if_pos hr]
    refine zx_i2l E dd_Law_make_9 ?_
    refine zx_last E zg_52 Nat.zero_lt_one dd_Law_make_10 ?_
    refine zx_letH (fun h2 => ?_)
    refine zx_goto E 22 dd_Law_make_11 rfl ?_
    refine zx_iconst E (0 : Int32) dd_Law_make_22 (by decide) ?_
    exact zx_hret E rfl (by decide) (by decide) rfl dd_Law_make_23
  · rw [if_neg hr]
    by_cases h1 : r1.1 = 1
    · rw [if_pos h1]
      refine Or.inr ⟨14, by rw [h1]; exact zct_Law_make_1, fun q3 => ?_⟩
      refine zx_astore E (lv1 := [(5, .ref q3), (0, zx_rV (zx_BK B) 0 0), (1, .int a1), (2, .long a2), (4, zx_rV (zx_BK B) 52 0)]) dd_Law_make_14 (by decide) rfl ?_
      refine zx_iconst E (1 : Int32) dd_Law_make_16 (by decide) ?_
      exact zx_hret E rfl (by decide) (by decide) rfl dd_Law_make_17
    rw [if_neg h1]
    by_cases h2 : r1.1 = 2
    · rw [if_pos h2]
      refine Or.inr ⟨18, by rw [h2]; exact zct_Law_make_2, fun q4 => ?_⟩
      refine zx_astore E (lv1 := [(5, .ref q4), (0, zx_rV (zx_BK B) 0 0), (1, .int a1), (2, .long a2), (4, zx_rV (zx_BK B) 52 0)]) dd_Law_make_18 (by decide) rfl ?_
      refine zx_iconst E (2 : Int32) dd_Law_make_20 (by decide) ?_
      exact zx_hret E rfl (by decide) (by decide) rfl dd_Law_make_21
    rw [if_neg h2]
    exact Or.inl rfl
set_option maxHeartbeats 4000000 in
set_option maxRecDepth 20000 in
theorem zt_Law_map (l : Launch) (hst : l.stackTraces = false) (K : zx_K) (a1 : Int32) (a2 : Int32) (h : zx_H) (r : (Int32 × zx_H)) (hf : zs_Law_map a1 a2 h = some r) : zx_MH l zm_Law_map zy_Law_map [(0, 10, 13, 13), (0, 10, 17, 15), (0, 10, 21, 51)] K [zx_rV K 0 0, .int a1, .int a2, zx_rV K 52 0] h (some (.int r.1)) r.2 := by
  refine zx_ofH (M := zm_Law_map) (y := zy_Law_map) (r := r) (as := [zx_rV K 0 0, .int a1, .int a2, zx_rV K 52 0]) (ρ := (fun r => ((some (Value.int r.1) : Option Value), r.2))) (by decide) rfl hf (Nat.le_of_ble_eq_true rfl) ?_
  intro B hl hK E Tb
  subst hK
  subst hl
  show zx_X B zm_Law_map _ _ 0 0 0 [(0, zx_rV (zx_BK B) 0 0), (1, .int a1), (2, .int a2), (3, zx_rV (zx_BK B) 52 0)] [] h
  unfold zs_Law_map
  refine zx_aload_n E 3 dd_Law_map_0 rfl rfl ?_
  refine zx_iconst E (0 : Int32) dd_Law_map_1 (by decide) ?_
  refine zx_aload_n E 0 dd_Law_map_2 rfl rfl ?_
  refine zx_iload_n E 1 dd_Law_map_3 rfl rfl ?_
  refine zx_iload_n E 2 dd_Law_map_4 rfl rfl ?_
  refine zx_callX (T := zx_TLoom) E Tb (fun x => some (Value.int x)) [.int a1, .int a2] (fun rZ eZ => zt_Loom_map _ hst _ a1 a2 h _ eZ) zg_0 Nat.zero_lt_one rfl zcx_Law_48 ⟨by decide, by decide⟩ (by decide) (by decide) rfl rfl (Nat.le_of_ble_eq_true rfl) dd_Law_map_5 (fun r1 hr => ?_) (fun r1 hr => ?_)
  · rw [if_pos hr]
    refine zx_i2l E dd_Law_map_8 ?_
    refine zx_last E zg_52 Nat.zero_lt_one dd_Law_map_9 ?_
    refine zx_letH (fun h2 => ?_)
    refine zx_goto E 25 dd_Law_map_10 rfl ?_
    refine zx_iconst E (0 : Int32) dd_Law_map_25 (by decide) ?_
    exact zx_hret E rfl (by decide) (by decide) rfl dd_Law_map_26
  · rw [if_neg hr]
    by_cases h1 : r1.1 = 1
    · rw [if_pos h1]
      refine Or.inr ⟨13, by rw [h1]; exact zct_Law_map_1, fun q3 => ?_⟩
      refine zx_astore E (lv1 := [(4, .ref q3), (0, zx_rV (zx_BK B) 0 0), (1, .int a1), (2, .int a2), (3, zx_rV (zx_BK B) 52 0)]) dd_Law_map_13 (by decide) rfl ?_
      refine zx_iconst E (1 : Int32) dd_Law_map_15 (by decide) ?_
      exact zx_hret E rfl (by decide) (by decide) rfl dd_Law_map_16
    rw [if_neg h1]
    by_cases h2 : r1.1 = 2
    · rw [if_pos h2]
      refine Or.inr ⟨17, by rw [h2]; exact zct_Law_map_2, fun q4 => ?_⟩
      refine zx_astore E (lv1 := [(4, .ref q4), (0, zx_rV (zx_BK B) 0 0), (1, .int a1), (2, .int a2), (3, zx_rV (zx_BK B) 52 0)]) dd_Law_map_17 (by decide) rfl ?_
      refine zx_iconst E (2 : Int32) dd_Law_map_19 (by decide) ?_
      exact zx_hret E rfl (by decide) (by decide) rfl dd_Law_map_20
    rw [if_neg h2]
    by_cases h4 : r1.1 = 4
    · rw [if_pos h4]
      refine Or.inr ⟨21, by rw [h4]; exact zct_Law_map_4, fun q5 => ?_⟩
      refine zx_astore E (lv1 := [(4, .ref q5), (0, zx_rV (zx_BK B) 0 0), (1, .int a1), (2, .int a2), (3, zx_rV (zx_BK B) 52 0)]) dd_Law_map_21 (by decide) rfl ?_
      refine zx_iconst E (3 : Int32) dd_Law_map_23 (by decide) ?_
      exact zx_hret E rfl (by decide) (by decide) rfl dd_Law_map_24
    rw [if_neg h4]
    exact Or.inl rfl
set_option maxHeartbeats 4000000 in
set_option maxRecDepth 20000 in
theorem zt_Law_get (l : Launch) (hst : l.stackTraces = false) (K : zx_K) (a1 : Int32) (a2 : Int32) (h : zx_H) (r : (Int32 × zx_H)) (hf : zs_Law_get a1 a2 h = some r) : zx_MH l zm_Law_get zy_Law_get [(0, 9, 12, 57)] K [zx_rV K 0 0, .int a1, .int a2, zx_rV K 52 0] h (some (.int r.1)) r.2 := by
  refine zx_ofH (M := zm_Law_get) (y := zy_Law_get) (r := r) (as := [zx_rV K 0 0, .int a1, .int a2, zx_rV K 52 0]) (ρ := (fun r => ((some (Value.int r.1) : Option Value), r.2))) (by decide) rfl hf (Nat.le_of_ble_eq_true rfl) ?_
  intro B hl hK E Tb
  subst hK
  subst hl
  show zx_X B zm_Law_get _ _ 0 0 0 [(0, zx_rV (zx_BK B) 0 0), (1, .int a1), (2, .int a2), (3, zx_rV (zx_BK B) 52 0)] [] h
  unfold zs_Law_get
  refine zx_aload_n E 3 dd_Law_get_0 rfl rfl ?_
  refine zx_iconst E (0 : Int32) dd_Law_get_1 (by decide) ?_
  refine zx_aload_n E 0 dd_Law_get_2 rfl rfl ?_
  refine zx_iload_n E 1 dd_Law_get_3 rfl rfl ?_
  refine zx_iload_n E 2 dd_Law_get_4 rfl rfl ?_
  refine zx_callX (T := zx_TLoom) E Tb (fun x => some (Value.long x)) [.int a1, .int a2] (fun rZ eZ => zt_Loom_get _ hst _ a1 a2 h _ eZ) zg_0 Nat.zero_lt_one rfl zcx_Law_53 ⟨by decide, by decide⟩ (by decide) (by decide) rfl rfl (Nat.le_of_ble_eq_true rfl) dd_Law_get_5 (fun r1 hr => ?_) (fun r1 hr => ?_)
  · rw [if_pos hr]
    refine zx_last E zg_52 Nat.zero_lt_one dd_Law_get_8 ?_
    refine zx_letH (fun h2 => ?_)
    refine zx_goto E 16 dd_Law_get_9 rfl ?_
    refine zx_iconst E (0 : Int32) dd_Law_get_16 (by decide) ?_
    exact zx_hret E rfl (by decide) (by decide) rfl dd_Law_get_17
  · rw [if_neg hr]
    by_cases h3 : r1.1 = 3
    · rw [if_pos h3]
      refine Or.inr ⟨12, by rw [h3]; exact zct_Law_get_3, fun q3 => ?_⟩
      refine zx_astore E (lv1 := [(4, .ref q3), (0, zx_rV (zx_BK B) 0 0), (1, .int a1), (2, .int a2), (3, zx_rV (zx_BK B) 52 0)]) dd_Law_get_12 (by decide) rfl ?_
      refine zx_iconst E (1 : Int32) dd_Law_get_14 (by decide) ?_
      exact zx_hret E rfl (by decide) (by decide) rfl dd_Law_get_15
    rw [if_neg h3]
    exact Or.inl rfl
set_option maxHeartbeats 4000000 in
set_option maxRecDepth 20000 in
theorem zt_Law_about (l : Launch) (hst : l.stackTraces = false) (K : zx_K) (a1 : Int32) (a2 : Int32) (h : zx_H) (r : (Int32 × zx_H)) (hf : zs_Law_about a1 a2 h = some r) : zx_MH l zm_Law_about zy_Law_about [(0, 10, 13, 57)] K [zx_rV K 0 0, .int a1, .int a2, zx_rV K 52 0] h (some (.int r.1)) r.2 := by
  refine zx_ofH (M := zm_Law_about) (y := zy_Law_about) (r := r) (as := [zx_rV K 0 0, .int a1, .int a2, zx_rV K 52 0]) (ρ := (fun r => ((some (Value.int r.1) : Option Value), r.2))) (by decide) rfl hf (Nat.le_of_ble_eq_true rfl) ?_
  intro B hl hK E Tb
  subst hK
  subst hl
  show zx_X B zm_Law_about _ _ 0 0 0 [(0, zx_rV (zx_BK B) 0 0), (1, .int a1), (2, .int a2), (3, zx_rV (zx_BK B) 52 0)] [] h
  unfold zs_Law_about
  refine zx_aload_n E 3 dd_Law_about_0 rfl rfl ?_
  refine zx_iconst E (0 : Int32) dd_Law_about_1 (by decide) ?_
  refine zx_aload_n E 0 dd_Law_about_2 rfl rfl ?_
  refine zx_iload_n E 1 dd_Law_about_3 rfl rfl ?_
  refine zx_iload_n E 2 dd_Law_about_4 rfl rfl ?_
  refine zx_callX (T := zx_TLoom) E Tb (fun x => some (Value.int x)) [.int a1, .int a2] (fun rZ eZ => zt_Loom_about _ hst _ a1 a2 h _ eZ) zg_0 Nat.zero_lt_one rfl zcx_Law_59 ⟨by decide, by decide⟩ (by decide) (by decide) rfl rfl (Nat.le_of_ble_eq_true rfl) dd_Law_about_5 (fun r1 hr => ?_) (fun r1 hr => ?_)
  · rw [if_pos hr]
    refine zx_i2l E dd_Law_about_8 ?_
    refine zx_last E zg_52 Nat.zero_lt_one dd_Law_about_9 ?_
    refine zx_letH (fun h2 => ?_)
    refine zx_goto E 17 dd_Law_about_10 rfl ?_
    refine zx_iconst E (0 : Int32) dd_Law_about_17 (by decide) ?_
    exact zx_hret E rfl (by decide) (by decide) rfl dd_Law_about_18
  · rw [if_neg hr]
    by_cases h3 : r1.1 = 3
    · rw [if_pos h3]
      refine Or.inr ⟨13, by rw [h3]; exact zct_Law_about_3, fun q3 => ?_⟩
      refine zx_astore E (lv1 := [(4, .ref q3), (0, zx_rV (zx_BK B) 0 0), (1, .int a1), (2, .int a2), (3, zx_rV (zx_BK B) 52 0)]) dd_Law_about_13 (by decide) rfl ?_
      refine zx_iconst E (1 : Int32) dd_Law_about_15 (by decide) ?_
      exact zx_hret E rfl (by decide) (by decide) rfl dd_Law_about_16
    rw [if_neg h3]
    exact Or.inl rfl
