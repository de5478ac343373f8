/-! walks (printed by gen.py) -/
set_option maxHeartbeats 4000000 in
set_option maxRecDepth 20000 in
theorem zj_Ref_list_17 {B : zx_B} (E : zx_E B zm_Ref_list)   (h : zx_H) : zx_X B zm_Ref_list (zx_QM B (fun r => ((some (Value.int r.1) : Option Value), r.2))) (zs_Ref_list_J17  h) 0 0 17 [(0, zx_rV (zx_BK B) 24 0)] [] h := by
  unfold zs_Ref_list_J17
  refine zx_aload_n E 0 dd_Ref_list_17 rfl rfl ?_
  refine zx_iconst E (1 : Int32) dd_Ref_list_18 (by decide) ?_
  refine zx_callV_iw (T := zx_TRef) E [.int (1 : Int32)] (fun rZ eZ => zt_Ref_fails _ _ (1 : Int32) h _ eZ) zg_24 Nat.zero_lt_one rfl zc_Ref_109 ⟨by decide, by decide⟩ (Nat.zero_le _) (Nat.zero_le _) rfl rfl (Nat.le_of_ble_eq_true rfl) dd_Ref_list_19 (fun r1 => ?_)
  exact zx_iret E rfl rfl dd_Ref_list_22
set_option maxHeartbeats 4000000 in
set_option maxRecDepth 20000 in
theorem zj_Ref_list_61 {B : zx_B} (E : zx_E B zm_Ref_list) (k31 : (Int32 → Int32 → zx_H → Option (Int32 × zx_H))) (hk31 : ∀ (x1 : Int32) (x2 : Int32) (h : zx_H), zx_X B zm_Ref_list (zx_QM B (fun r => ((some (Value.int r.1) : Option Value), r.2))) (k31 x1 x2 h) 0 0 31 [(0, zx_rV (zx_BK B) 24 0), (1, .int x1), (2, .int x2)] [] h) (x1 : Int32) (x2 : Int32) (h : zx_H) : zx_X B zm_Ref_list (zx_QM B (fun r => ((some (Value.int r.1) : Option Value), r.2))) (zs_Ref_list_J61 k31 x1 x2 h) 0 0 61 [(0, zx_rV (zx_BK B) 24 0), (1, .int x1), (2, .int x2)] [] h := by
  unfold zs_Ref_list_J61
  refine zx_iinc E 2 (x2 + (1 : Int32)) (lv1 := [(2, .int (x2 + (1 : Int32))), (0, zx_rV (zx_BK B) 24 0), (1, .int x1)]) dd_Ref_list_61 rfl rfl (by decide) rfl ?_
  refine zx_goto E 31 dd_Ref_list_64 rfl ?_
  refine zx_sub [1, 2, 0] rfl ?_
  exact hk31 x1 (x2 + (1 : Int32)) h
set_option maxHeartbeats 4000000 in
set_option maxRecDepth 20000 in
theorem zj_Ref_list_83 {B : zx_B} (E : zx_E B zm_Ref_list)   (h : zx_H) : zx_X B zm_Ref_list (zx_QM B (fun r => ((some (Value.int r.1) : Option Value), r.2))) (zs_Ref_list_J83  h) 0 0 83 [(0, zx_rV (zx_BK B) 24 0)] [] h := by
  unfold zs_Ref_list_J83
  refine zx_aload_n E 0 dd_Ref_list_83 rfl rfl ?_
  refine zx_iconst E (2 : Int32) dd_Ref_list_84 (by decide) ?_
  refine zx_callV_iw (T := zx_TRef) E [.int (2 : Int32)] (fun rZ eZ => zt_Ref_fails _ _ (2 : Int32) h _ eZ) zg_24 Nat.zero_lt_one rfl zc_Ref_109 ⟨by decide, by decide⟩ (Nat.zero_le _) (Nat.zero_le _) rfl rfl (Nat.le_of_ble_eq_true rfl) dd_Ref_list_85 (fun r1 => ?_)
  exact zx_iret E rfl rfl dd_Ref_list_88
set_option maxHeartbeats 4000000 in
set_option maxRecDepth 20000 in
theorem zb_Ref_list_31 {B : zx_B} (E : zx_E B zm_Ref_list)  (k31 : (Int32 → Int32 → zx_H → Option (Int32 × zx_H))) (hk31 : ∀ (x1 : Int32) (x2 : Int32) (h : zx_H), zx_X B zm_Ref_list (zx_QM B (fun r => ((some (Value.int r.1) : Option Value), r.2))) (k31 x1 x2 h) 0 0 31 [(0, zx_rV (zx_BK B) 24 0), (1, .int x1), (2, .int x2)] [] h) (x1 : Int32) (x2 : Int32) (h : zx_H) : zx_X B zm_Ref_list (zx_QM B (fun r => ((some (Value.int r.1) : Option Value), r.2))) (zs_Ref_list_L31_body  k31 x1 x2 h) 0 0 31 [(0, zx_rV (zx_BK B) 24 0), (1, .int x1), (2, .int x2)] [] h := by
  unfold zs_Ref_list_L31_body
  refine zx_iload_n E 2 dd_Ref_list_31 rfl rfl ?_
  refine zx_aload_n E 0 dd_Ref_list_32 rfl rfl ?_
  refine zx_getI E zd_Ref_types zg_24 Nat.zero_lt_one zw_1109 dd_Ref_list_33 ?_
  refine zx_icmp_ge E 67 dd_Ref_list_36 rfl ?_ ?_
  · refine zx_aload_n E 0 dd_Ref_list_39 rfl rfl ?_
    refine zx_getR E 25 0 zd_Ref_sort zg_24 Nat.zero_lt_one (zr_Ref_sort _) zw_1110 dd_Ref_list_40 ?_
    refine zx_iload_n E 2 dd_Ref_list_43 rfl rfl ?_
    refine zx_iald E zg_25 Nat.zero_lt_one dd_Ref_list_44 ?_
    refine zx_iconst E (5 : Int32) dd_Ref_list_45 (by decide) ?_
    refine zx_icmp_ne E 61 dd_Ref_list_46 rfl ?_ ?_
    rotate_left
    · exact zj_Ref_list_61 E k31 hk31 x1 x2 h
    refine zx_aload_n E 0 dd_Ref_list_49 rfl rfl ?_
    refine zx_getR E 29 0 zd_Ref_of zg_24 Nat.zero_lt_one (zr_Ref_of _) zw_1114 dd_Ref_list_50 ?_
    refine zx_iload_n E 2 dd_Ref_list_53 rfl rfl ?_
    refine zx_iald E zg_29 Nat.zero_lt_one dd_Ref_list_54 ?_
    refine zx_iload_n E 1 dd_Ref_list_55 rfl rfl ?_
    refine zx_icmp_ne E 61 dd_Ref_list_56 rfl ?_ ?_
    rotate_left
    · exact zj_Ref_list_61 E k31 hk31 x1 x2 h
    refine zx_iload_n E 2 dd_Ref_list_59 rfl rfl ?_
    exact zx_iret E rfl rfl dd_Ref_list_60
  refine zx_aload_n E 0 dd_Ref_list_67 rfl rfl ?_
  refine zx_getI E zd_Ref_built zg_24 Nat.zero_lt_one zw_1108 dd_Ref_list_68 ?_
  refine zx_if_ne E 83 dd_Ref_list_71 rfl ?_ ?_
  rotate_left
  · refine zx_sub [0] rfl ?_
    exact zj_Ref_list_83 E h
  refine zx_aload_n E 0 dd_Ref_list_74 rfl rfl ?_
  refine zx_getI E zd_Ref_types zg_24 Nat.zero_lt_one zw_1109 dd_Ref_list_75 ?_
  refine zx_bipush E (40 : Int32) dd_Ref_list_78 (by decide) ?_
  refine zx_icmp_ne E 89 dd_Ref_list_80 rfl ?_ ?_
  · refine zx_sub [0] rfl ?_
    exact zj_Ref_list_83 E h
  refine zx_aload_n E 0 dd_Ref_list_89 rfl rfl ?_
  refine zx_iconst E (5 : Int32) dd_Ref_list_90 (by decide) ?_
  refine zx_callV_iw (T := zx_TRef) E [.int (5 : Int32)] (fun rZ eZ => zt_Ref_newType _ _ (5 : Int32) h _ eZ) zg_24 Nat.zero_lt_one rfl zc_Ref_122 ⟨by decide, by decide⟩ (Nat.zero_le _) (Nat.zero_le _) rfl rfl (Nat.le_of_ble_eq_true rfl) dd_Ref_list_91 (fun r1 => ?_)
  refine zx_istore_n E (lv1 := [(2, .int r1.1), (0, zx_rV (zx_BK B) 24 0), (1, .int x1)]) dd_Ref_list_94 rfl (by decide) rfl ?_
  refine zx_aload_n E 1 dd_Ref_list_95 rfl rfl ?_
  refine zx_getR E 29 0 zd_Ref_of zg_24 Nat.zero_lt_one (zr_Ref_of _) zw_1114 dd_Ref_list_96 ?_
  refine zx_iload_n E 0 dd_Ref_list_99 rfl rfl ?_
  refine zx_iload_n E 2 dd_Ref_list_100 rfl rfl ?_
  refine zx_iast E zg_29 Nat.zero_lt_one dd_Ref_list_101 ?_
  refine zx_letH (fun h2 => ?_)
  refine zx_iload_n E 0 dd_Ref_list_102 rfl rfl ?_
  exact zx_iret E rfl rfl dd_Ref_list_103
theorem zj_Ref_list_31 {B : zx_B} (E : zx_E B zm_Ref_list)  : ∀ (x1 : Int32) (x2 : Int32) (h : zx_H), zx_X B zm_Ref_list (zx_QM B (fun r => ((some (Value.int r.1) : Option Value), r.2))) (zs_Ref_list_L31  x1 x2 h) 0 0 31 [(0, zx_rV (zx_BK B) 24 0), (1, .int x1), (2, .int x2)] [] h := by
  unfold zs_Ref_list_L31
  generalize zx_fuel = n
  induction n with
  | zero => intros; exact zx_non
  | succ n ih => intro x1 x2 h; exact zb_Ref_list_31 E  _ ih x1 x2 h
set_option maxHeartbeats 4000000 in
set_option maxRecDepth 20000 in
theorem zt_Ref_list (l : Launch) (K : zx_K) (a1 : Int32) (h : zx_H) (r : (Int32 × zx_H)) (hf : zs_Ref_list a1 h = some r) : zx_MR l zm_Ref_list zy_Ref_list K [zx_rV K 24 0, .int a1] h (some (.int r.1)) r.2 := by
  refine zx_ofM (M := zm_Ref_list) (y := zy_Ref_list) (r := r) (as := [zx_rV K 24 0, .int a1]) (ρ := (fun r => ((some (Value.int r.1) : Option Value), r.2))) (by decide) rfl hf (Nat.le_of_ble_eq_true rfl) ?_
  intro B hl hK E
  subst hK
  subst hl
  show zx_X B zm_Ref_list _ _ 0 0 0 [(0, zx_rV (zx_BK B) 24 0), (1, .int a1)] [] h
  unfold zs_Ref_list
  refine zx_aload_n E 0 dd_Ref_list_0 rfl rfl ?_
  refine zx_iload_n E 1 dd_Ref_list_1 rfl rfl ?_
  refine zx_callV_z (T := zx_TRef) E [.int a1] (fun rZ eZ => zt_Ref_isType _ _ a1 h _ eZ) zg_24 Nat.zero_lt_one rfl zc_Ref_105 ⟨by decide, by decide⟩ (Nat.zero_le _) (Nat.zero_le _) rfl rfl (Nat.le_of_ble_eq_true rfl) dd_Ref_list_2 (fun r1 => ?_)
  refine zx_ifb_eq E (x := r1) 17 dd_Ref_list_5 rfl ?_ ?_
  rotate_left
  · refine zx_sub [0] rfl ?_
    exact zj_Ref_list_17 E h
  refine zx_aload_n E 0 dd_Ref_list_8 rfl rfl ?_
  refine zx_getR E 25 0 zd_Ref_sort zg_24 Nat.zero_lt_one (zr_Ref_sort _) zw_1110 dd_Ref_list_9 ?_
  refine zx_iload_n E 1 dd_Ref_list_12 rfl rfl ?_
  refine zx_iald E zg_25 Nat.zero_lt_one dd_Ref_list_13 ?_
  refine zx_if_ne E 23 dd_Ref_list_14 rfl ?_ ?_
  · refine zx_sub [0] rfl ?_
    exact zj_Ref_list_17 E h
  refine zx_aload_n E 0 dd_Ref_list_23 rfl rfl ?_
  refine zx_iconst E (0 : Int32) dd_Ref_list_24 (by decide) ?_
  refine zx_putI E zd_Ref_thrown zp_Ref_thrown zg_24 Nat.zero_lt_one rfl rfl zw_1107 dd_Ref_list_25 ?_
  refine zx_letH (fun h2 => ?_)
  refine zx_bipush E (15 : Int32) dd_Ref_list_28 (by decide) ?_
  refine zx_istore_n E (lv1 := [(2, .int (15 : Int32)), (0, zx_rV (zx_BK B) 24 0), (1, .int a1)]) dd_Ref_list_30 rfl (by decide) rfl ?_
  refine zx_sub [1, 2, 0] rfl ?_
  exact zj_Ref_list_31 E a1 (15 : Int32) h2
set_option maxHeartbeats 4000000 in
set_option maxRecDepth 20000 in
theorem zj_Ref_method_68 {B : zx_B} (E : zx_E B zm_Ref_method)   (h : zx_H) : zx_X B zm_Ref_method (zx_QM B (fun r => ((some (Value.int r.1) : Option Value), r.2))) (zs_Ref_method_J68  h) 0 0 68 [(0, zx_rV (zx_BK B) 24 0)] [] h := by
  unfold zs_Ref_method_J68
  refine zx_aload_n E 0 dd_Ref_method_68 rfl rfl ?_
  refine zx_iconst E (2 : Int32) dd_Ref_method_69 (by decide) ?_
  refine zx_callV_iw (T := zx_TRef) E [.int (2 : Int32)] (fun rZ eZ => zt_Ref_fails _ _ (2 : Int32) h _ eZ) zg_24 Nat.zero_lt_one rfl zc_Ref_109 ⟨by decide, by decide⟩ (Nat.zero_le _) (Nat.zero_le _) rfl rfl (Nat.le_of_ble_eq_true rfl) dd_Ref_method_70 (fun r1 => ?_)
  exact zx_iret E rfl rfl dd_Ref_method_73
set_option maxHeartbeats 4000000 in
set_option maxRecDepth 20000 in
theorem zj_Ref_method_41 {B : zx_B} (E : zx_E B zm_Ref_method)  (x1 : Int32) (x2 : Int32) (s0 : Bool) (h : zx_H) : zx_X B zm_Ref_method (zx_QM B (fun r => ((some (Value.int r.1) : Option Value), r.2))) (zs_Ref_method_J41  x1 x2 s0 h) 0 0 41 [(0, zx_rV (zx_BK B) 24 0), (1, .int x1), (2, .int x2)] [.int (zx_b s0)] h := by
  unfold zs_Ref_method_J41
  refine zx_istore_n E (lv1 := [(3, .int (zx_b s0)), (0, zx_rV (zx_BK B) 24 0), (1, .int x1), (2, .int x2)]) dd_Ref_method_41 rfl (by decide) rfl ?_
  refine zx_iload_n E 0 dd_Ref_method_42 rfl rfl ?_
  refine zx_ifb_ne E (x := s0) 52 dd_Ref_method_43 rfl ?_ ?_
  · refine zx_aload_n E 1 dd_Ref_method_46 rfl rfl ?_
    refine zx_iconst E (1 : Int32) dd_Ref_method_47 (by decide) ?_
    refine zx_callV_iw (T := zx_TRef) E [.int (1 : Int32)] (fun rZ eZ => zt_Ref_fails _ _ (1 : Int32) h _ eZ) zg_24 Nat.zero_lt_one rfl zc_Ref_109 ⟨by decide, by decide⟩ (Nat.zero_le _) (Nat.zero_le _) rfl rfl (Nat.le_of_ble_eq_true rfl) dd_Ref_method_48 (fun r1 => ?_)
    exact zx_iret E rfl rfl dd_Ref_method_51
  refine zx_aload_n E 1 dd_Ref_method_52 rfl rfl ?_
  refine zx_getI E zd_Ref_built zg_24 Nat.zero_lt_one zw_1108 dd_Ref_method_53 ?_
  refine zx_if_ne E 68 dd_Ref_method_56 rfl ?_ ?_
  rotate_left
  · refine zx_sub [1] rfl ?_
    exact zj_Ref_method_68 E h
  refine zx_aload_n E 1 dd_Ref_method_59 rfl rfl ?_
  refine zx_getI E zd_Ref_methods zg_24 Nat.zero_lt_one zw_1115 dd_Ref_method_60 ?_
  refine zx_bipush E (16 : Int32) dd_Ref_method_63 (by decide) ?_
  refine zx_icmp_ne E 74 dd_Ref_method_65 rfl ?_ ?_
  · refine zx_sub [1] rfl ?_
    exact zj_Ref_method_68 E h
  refine zx_aload_n E 1 dd_Ref_method_74 rfl rfl ?_
  refine zx_iconst E (0 : Int32) dd_Ref_method_75 (by decide) ?_
  refine zx_putI E zd_Ref_thrown zp_Ref_thrown zg_24 Nat.zero_lt_one rfl rfl zw_1107 dd_Ref_method_76 ?_
  refine zx_letH (fun h2 => ?_)
  refine zx_aload_n E 1 dd_Ref_method_79 rfl rfl ?_
  refine zx_getR E 30 0 zd_Ref_methodFrom zg_24 Nat.zero_lt_one (zr_Ref_methodFrom _) zw_1116 dd_Ref_method_80 ?_
  refine zx_aload_n E 1 dd_Ref_method_83 rfl rfl ?_
  refine zx_getI E zd_Ref_methods zg_24 Nat.zero_lt_one zw_1115 dd_Ref_method_84 ?_
  refine zx_iload_n E 2 dd_Ref_method_87 rfl rfl ?_
  refine zx_iast E zg_30 Nat.zero_lt_one dd_Ref_method_88 ?_
  refine zx_letH (fun h3 => ?_)
  refine zx_aload_n E 1 dd_Ref_method_89 rfl rfl ?_
  refine zx_getR E 31 0 zd_Ref_methodTo zg_24 Nat.zero_lt_one (zr_Ref_methodTo _) zw_1117 dd_Ref_method_90 ?_
  refine zx_aload_n E 1 dd_Ref_method_93 rfl rfl ?_
  refine zx_getI E zd_Ref_methods zg_24 Nat.zero_lt_one zw_1115 dd_Ref_method_94 ?_
  refine zx_iload_n E 3 dd_Ref_method_97 rfl rfl ?_
  refine zx_iast E zg_31 Nat.zero_lt_one dd_Ref_method_98 ?_
  refine zx_letH (fun h4 => ?_)
  refine zx_aload_n E 1 dd_Ref_method_99 rfl rfl ?_
  refine zx_dup E dd_Ref_method_100 rfl ?_
  refine zx_getI E zd_Ref_methods zg_24 Nat.zero_lt_one zw_1115 dd_Ref_method_101 ?_
  refine zx_iconst E (1 : Int32) dd_Ref_method_104 (by decide) ?_
  refine zx_iadd E dd_Ref_method_105 ?_
  refine zx_putI E zd_Ref_methods zp_Ref_methods zg_24 Nat.zero_lt_one rfl rfl zw_1115 dd_Ref_method_106 ?_
  refine zx_letH (fun h5 => ?_)
  refine zx_aload_n E 1 dd_Ref_method_109 rfl rfl ?_
  refine zx_getI E zd_Ref_methods zg_24 Nat.zero_lt_one zw_1115 dd_Ref_method_110 ?_
  refine zx_iconst E (1 : Int32) dd_Ref_method_113 (by decide) ?_
  refine zx_isub E dd_Ref_method_114 ?_
  exact zx_iret E rfl rfl dd_Ref_method_115
set_option maxHeartbeats 4000000 in
set_option maxRecDepth 20000 in
theorem zj_Ref_method_36 {B : zx_B} (E : zx_E B zm_Ref_method)  (x1 : Int32) (x2 : Int32) (h : zx_H) : zx_X B zm_Ref_method (zx_QM B (fun r => ((some (Value.int r.1) : Option Value), r.2))) (zs_Ref_method_J36  x1 x2 h) 0 0 36 [(0, zx_rV (zx_BK B) 24 0), (1, .int x1), (2, .int x2)] [] h := by
  unfold zs_Ref_method_J36
  refine zx_iconst E (1 : Int32) dd_Ref_method_36 (by decide) ?_
  refine zx_goto E 41 dd_Ref_method_37 rfl ?_
  exact zj_Ref_method_41 E x1 x2 true h
set_option maxHeartbeats 4000000 in
set_option maxRecDepth 20000 in
theorem zj_Ref_method_40 {B : zx_B} (E : zx_E B zm_Ref_method)  (x1 : Int32) (x2 : Int32) (h : zx_H) : zx_X B zm_Ref_method (zx_QM B (fun r => ((some (Value.int r.1) : Option Value), r.2))) (zs_Ref_method_J40  x1 x2 h) 0 0 40 [(0, zx_rV (zx_BK B) 24 0), (1, .int x1), (2, .int x2)] [] h := by
  unfold zs_Ref_method_J40
  refine zx_iconst E (0 : Int32) dd_Ref_method_40 (by decide) ?_
  exact zj_Ref_method_41 E x1 x2 false h
set_option maxHeartbeats 4000000 in
set_option maxRecDepth 20000 in
theorem zj_Ref_method_18 {B : zx_B} (E : zx_E B zm_Ref_method)  (x1 : Int32) (x2 : Int32) (h : zx_H) : zx_X B zm_Ref_method (zx_QM B (fun r => ((some (Value.int r.1) : Option Value), r.2))) (zs_Ref_method_J18  x1 x2 h) 0 0 18 [(0, zx_rV (zx_BK B) 24 0), (1, .int x1), (2, .int x2)] [] h := by
  unfold zs_Ref_method_J18
  refine zx_aload_n E 0 dd_Ref_method_18 rfl rfl ?_
  refine zx_iload_n E 1 dd_Ref_method_19 rfl rfl ?_
  refine zx_iconst E (3 : Int32) dd_Ref_method_20 (by decide) ?_
  refine zx_callV_z (T := zx_TRef) E [.int x1, .int (3 : Int32)] (fun rZ eZ => zt_Ref_isSort _ _ x1 (3 : Int32) h _ eZ) zg_24 Nat.zero_lt_one rfl zc_Ref_125 ⟨by decide, by decide⟩ (Nat.zero_le _) (Nat.zero_le _) rfl rfl (Nat.le_of_ble_eq_true rfl) dd_Ref_method_21 (fun r1 => ?_)
  refine zx_ifb_eq E (x := r1) 40 dd_Ref_method_24 rfl ?_ ?_
  rotate_left
  · exact zj_Ref_method_40 E x1 x2 h
  refine zx_aload_n E 0 dd_Ref_method_27 rfl rfl ?_
  refine zx_iload_n E 2 dd_Ref_method_28 rfl rfl ?_
  refine zx_iconst E (3 : Int32) dd_Ref_method_29 (by decide) ?_
  refine zx_callV_z (T := zx_TRef) E [.int x2, .int (3 : Int32)] (fun rZ eZ => zt_Ref_isSort _ _ x2 (3 : Int32) h _ eZ) zg_24 Nat.zero_lt_one rfl zc_Ref_125 ⟨by decide, by decide⟩ (Nat.zero_le _) (Nat.zero_le _) rfl rfl (Nat.le_of_ble_eq_true rfl) dd_Ref_method_30 (fun r2 => ?_)
  refine zx_ifb_eq E (x := r2) 40 dd_Ref_method_33 rfl ?_ ?_
  · exact zj_Ref_method_36 E x1 x2 h
  exact zj_Ref_method_40 E x1 x2 h
set_option maxHeartbeats 4000000 in
set_option maxRecDepth 20000 in
theorem zt_Ref_method (l : Launch) (K : zx_K) (a1 : Int32) (a2 : Int32) (h : zx_H) (r : (Int32 × zx_H)) (hf : zs_Ref_method a1 a2 h = some r) : zx_MR l zm_Ref_method zy_Ref_method K [zx_rV K 24 0, .int a1, .int a2] h (some (.int r.1)) r.2 := by
  refine zx_ofM (M := zm_Ref_method) (y := zy_Ref_method) (r := r) (as := [zx_rV K 24 0, .int a1, .int a2]) (ρ := (fun r => ((some (Value.int r.1) : Option Value), r.2))) (by decide) rfl hf (Nat.le_of_ble_eq_true rfl) ?_
  intro B hl hK E
  subst hK
  subst hl
  show zx_X B zm_Ref_method _ _ 0 0 0 [(0, zx_rV (zx_BK B) 24 0), (1, .int a1), (2, .int a2)] [] h
  unfold zs_Ref_method
  refine zx_aload_n E 0 dd_Ref_method_0 rfl rfl ?_
  refine zx_iload_n E 1 dd_Ref_method_1 rfl rfl ?_
  refine zx_iconst E (4 : Int32) dd_Ref_method_2 (by decide) ?_
  refine zx_callV_z (T := zx_TRef) E [.int a1, .int (4 : Int32)] (fun rZ eZ => zt_Ref_isSort _ _ a1 (4 : Int32) h _ eZ) zg_24 Nat.zero_lt_one rfl zc_Ref_125 ⟨by decide, by decide⟩ (Nat.zero_le _) (Nat.zero_le _) rfl rfl (Nat.le_of_ble_eq_true rfl) dd_Ref_method_3 (fun r1 => ?_)
  refine zx_ifb_eq E (x := r1) 18 dd_Ref_method_6 rfl ?_ ?_
  rotate_left
  · exact zj_Ref_method_18 E a1 a2 h
  refine zx_aload_n E 0 dd_Ref_method_9 rfl rfl ?_
  refine zx_iload_n E 2 dd_Ref_method_10 rfl rfl ?_
  refine zx_iconst E (4 : Int32) dd_Ref_method_11 (by decide) ?_
  refine zx_callV_z (T := zx_TRef) E [.int a2, .int (4 : Int32)] (fun rZ eZ => zt_Ref_isSort _ _ a2 (4 : Int32) h _ eZ) zg_24 Nat.zero_lt_one rfl zc_Ref_125 ⟨by decide, by decide⟩ (Nat.zero_le _) (Nat.zero_le _) rfl rfl (Nat.le_of_ble_eq_true rfl) dd_Ref_method_12 (fun r2 => ?_)
  refine zx_ifb_ne E (x := r2) 36 dd_Ref_method_15 rfl ?_ ?_
  · exact zj_Ref_method_18 E a1 a2 h
  exact zj_Ref_method_36 E a1 a2 h
set_option maxHeartbeats 4000000 in
set_option maxRecDepth 20000 in
theorem zt_Ref_kindOf (l : Launch) (K : zx_K) (a0 : Int32) (h : zx_H) (r : Int32) (hf : zs_Ref_kindOf a0 h = some r) : zx_MR l zm_Ref_kindOf zy_Ref_kindOf K [.int a0] h (some (.int r)) h := by
  refine zx_ofM (M := zm_Ref_kindOf) (y := zy_Ref_kindOf) (r := r) (as := [.int a0]) (ρ := (fun r => ((some (Value.int r) : Option Value), h))) (by decide) rfl hf (Nat.le_of_ble_eq_true rfl) ?_
  intro B hl hK E
  subst hK
  subst hl
  show zx_X B zm_Ref_kindOf _ _ 0 0 0 [(0, .int a0)] [] h
  unfold zs_Ref_kindOf
  refine zx_iload_n E 0 dd_Ref_kindOf_0 rfl rfl ?_
  refine zx_bipush E (7 : Int32) dd_Ref_kindOf_1 (by decide) ?_
  refine zx_icmp_ge E 10 dd_Ref_kindOf_3 rfl ?_ ?_
  · refine zx_iload_n E 0 dd_Ref_kindOf_6 rfl rfl ?_
    refine zx_goto E 14 dd_Ref_kindOf_7 rfl ?_
    exact zx_iret E rfl rfl dd_Ref_kindOf_14
  refine zx_iload_n E 0 dd_Ref_kindOf_10 rfl rfl ?_
  refine zx_bipush E (7 : Int32) dd_Ref_kindOf_11 (by decide) ?_
  refine zx_isub E dd_Ref_kindOf_13 ?_
  exact zx_iret E rfl rfl dd_Ref_kindOf_14
set_option maxHeartbeats 4000000 in
set_option maxRecDepth 20000 in
theorem zj_Ref_isAmount_14 {B : zx_B} (E : zx_E B zm_Ref_isAmount) (h : zx_H)   : zx_X B zm_Ref_isAmount (zx_QM B (fun r => ((some (Value.int (zx_b r)) : Option Value), h))) (zs_Ref_isAmount_J14 h  ) 0 0 14 [] [] h := by
  unfold zs_Ref_isAmount_J14
  refine zx_iconst E (0 : Int32) dd_Ref_isAmount_14 (by decide) ?_
  exact zx_zret E false rfl rfl rfl dd_Ref_isAmount_15
set_option maxHeartbeats 4000000 in
set_option maxRecDepth 20000 in
theorem zt_Ref_isAmount (l : Launch) (K : zx_K) (a0 : Int32) (h : zx_H) (r : Bool) (hf : zs_Ref_isAmount a0 h = some r) : zx_MR l zm_Ref_isAmount zy_Ref_isAmount K [.int a0] h (some (.int (zx_b r))) h := by
  refine zx_ofM (M := zm_Ref_isAmount) (y := zy_Ref_isAmount) (r := r) (as := [.int a0]) (ρ := (fun r => ((some (Value.int (zx_b r)) : Option Value), h))) (by decide) rfl hf (Nat.le_of_ble_eq_true rfl) ?_
  intro B hl hK E
  subst hK
  subst hl
  show zx_X B zm_Ref_isAmount _ _ 0 0 0 [(0, .int a0)] [] h
  unfold zs_Ref_isAmount
  refine zx_iload_n E 0 dd_Ref_isAmount_0 rfl rfl ?_
  refine zx_if_lt E 14 dd_Ref_isAmount_1 rfl ?_ ?_
  rotate_left
  · refine zx_sub [] rfl ?_
    exact zj_Ref_isAmount_14 E h
  refine zx_iload_n E 0 dd_Ref_isAmount_4 rfl rfl ?_
  refine zx_bipush E (14 : Int32) dd_Ref_isAmount_5 (by decide) ?_
  refine zx_icmp_ge E 14 dd_Ref_isAmount_7 rfl ?_ ?_
  rotate_left
  · refine zx_sub [] rfl ?_
    exact zj_Ref_isAmount_14 E h
  refine zx_iconst E (1 : Int32) dd_Ref_isAmount_10 (by decide) ?_
  refine zx_goto E 15 dd_Ref_isAmount_11 rfl ?_
  exact zx_zret E true rfl rfl rfl dd_Ref_isAmount_15
set_option maxHeartbeats 4000000 in
set_option maxRecDepth 20000 in
theorem zj_Ref_function_32 {B : zx_B} (E : zx_E B zm_Ref_function)   (h : zx_H) : zx_X B zm_Ref_function (zx_QM B (fun r => ((some (Value.int r.1) : Option Value), r.2))) (zs_Ref_function_J32  h) 0 0 32 [(0, zx_rV (zx_BK B) 24 0)] [] h := by
  unfold zs_Ref_function_J32
  refine zx_aload_n E 0 dd_Ref_function_32 rfl rfl ?_
  refine zx_iconst E (1 : Int32) dd_Ref_function_33 (by decide) ?_
  refine zx_callV_iw (T := zx_TRef) E [.int (1 : Int32)] (fun rZ eZ => zt_Ref_fails _ _ (1 : Int32) h _ eZ) zg_24 Nat.zero_lt_one rfl zc_Ref_109 ⟨by decide, by decide⟩ (Nat.zero_le _) (Nat.zero_le _) rfl rfl (Nat.le_of_ble_eq_true rfl) dd_Ref_function_34 (fun r1 => ?_)
  exact zx_iret E rfl rfl dd_Ref_function_37
set_option maxHeartbeats 4000000 in
set_option maxRecDepth 20000 in
theorem zj_Ref_function_54 {B : zx_B} (E : zx_E B zm_Ref_function)   (h : zx_H) : zx_X B zm_Ref_function (zx_QM B (fun r => ((some (Value.int r.1) : Option Value), r.2))) (zs_Ref_function_J54  h) 0 0 54 [(0, zx_rV (zx_BK B) 24 0)] [] h := by
  unfold zs_Ref_function_J54
  refine zx_aload_n E 0 dd_Ref_function_54 rfl rfl ?_
  refine zx_iconst E (2 : Int32) dd_Ref_function_55 (by decide) ?_
  refine zx_callV_iw (T := zx_TRef) E [.int (2 : Int32)] (fun rZ eZ => zt_Ref_fails _ _ (2 : Int32) h _ eZ) zg_24 Nat.zero_lt_one rfl zc_Ref_109 ⟨by decide, by decide⟩ (Nat.zero_le _) (Nat.zero_le _) rfl rfl (Nat.le_of_ble_eq_true rfl) dd_Ref_function_56 (fun r1 => ?_)
  exact zx_iret E rfl rfl dd_Ref_function_59
set_option maxHeartbeats 4000000 in
set_option maxRecDepth 20000 in
theorem zt_Ref_function (l : Launch) (K : zx_K) (a1 : Int32) (a2 : Int32) (a3 : Int32) (a4 : Int32) (h : zx_H) (r : (Int32 × zx_H)) (hf : zs_Ref_function a1 a2 a3 a4 h = some r) : zx_MR l zm_Ref_function zy_Ref_function K [zx_rV K 24 0, .int a1, .int a2, .int a3, .int a4] h (some (.int r.1)) r.2 := by
  refine zx_ofM (M := zm_Ref_function) (y := zy_Ref_function) (r := r) (as := [zx_rV K 24 0, .int a1, .int a2, .int a3, .int a4]) (ρ := (fun r => ((some (Value.int r.1) : Option Value), r.2))) (by decide) rfl hf (Nat.le_of_ble_eq_true rfl) ?_
  intro B hl hK E
  subst hK
  subst hl
  show zx_X B zm_Ref_function _ _ 0 0 0 [(0, zx_rV (zx_BK B) 24 0), (1, .int a1), (2, .int a2), (3, .int a3), (4, .int a4)] [] h
  unfold zs_Ref_function
  refine zx_iload_n E 1 dd_Ref_function_0 rfl rfl ?_
  refine zx_callS_z E [.int a1] (fun rZ eZ => zt_Ref_isAmount _ _ a1 h _ eZ) zc_Ref_139 ⟨by decide, by decide⟩ (Nat.zero_le _) (Nat.zero_le _) rfl rfl (Nat.le_of_ble_eq_true rfl) dd_Ref_function_1 (fun r1 => ?_)
  refine zx_ifb_eq E (x := r1) 32 dd_Ref_function_4 rfl ?_ ?_
  rotate_left
  · refine zx_sub [0] rfl ?_
    exact zj_Ref_function_32 E h
  refine zx_iload_n E 2 dd_Ref_function_7 rfl rfl ?_
  refine zx_callS_z E [.int a2] (fun rZ eZ => zt_Ref_isAmount _ _ a2 h _ eZ) zc_Ref_139 ⟨by decide, by decide⟩ (Nat.zero_le _) (Nat.zero_le _) rfl rfl (Nat.le_of_ble_eq_true rfl) dd_Ref_function_8 (fun r2 => ?_)
  refine zx_ifb_eq E (x := r2) 32 dd_Ref_function_11 rfl ?_ ?_
  rotate_left
  · refine zx_sub [0] rfl ?_
    exact zj_Ref_function_32 E h
  refine zx_iload_n E 1 dd_Ref_function_14 rfl rfl ?_
  refine zx_callS_i E [.int a1] (fun rZ eZ => zt_Ref_kindOf _ _ a1 h _ eZ) zc_Ref_142 ⟨by decide, by decide⟩ (Nat.zero_le _) (Nat.zero_le _) rfl rfl (Nat.le_of_ble_eq_true rfl) dd_Ref_function_15 (fun r3 => ?_)
  refine zx_bipush E (6 : Int32) dd_Ref_function_18 (by decide) ?_
  refine zx_icmp_eq E 32 dd_Ref_function_20 rfl ?_ ?_
  rotate_left
  · refine zx_sub [0] rfl ?_
    exact zj_Ref_function_32 E h
  refine zx_iload_n E 2 dd_Ref_function_23 rfl rfl ?_
  refine zx_callS_i E [.int a2] (fun rZ eZ => zt_Ref_kindOf _ _ a2 h _ eZ) zc_Ref_142 ⟨by decide, by decide⟩ (Nat.zero_le _) (Nat.zero_le _) rfl rfl (Nat.le_of_ble_eq_true rfl) dd_Ref_function_24 (fun r4 => ?_)
  refine zx_bipush E (6 : Int32) dd_Ref_function_27 (by decide) ?_
  refine zx_icmp_ne E 38 dd_Ref_function_29 rfl ?_ ?_
  · refine zx_sub [0] rfl ?_
    exact zj_Ref_function_32 E h
  refine zx_aload_n E 0 dd_Ref_function_38 rfl rfl ?_
  refine zx_getI E zd_Ref_built zg_24 Nat.zero_lt_one zw_1108 dd_Ref_function_39 ?_
  refine zx_if_ne E 54 dd_Ref_function_42 rfl ?_ ?_
  rotate_left
  · refine zx_sub [0] rfl ?_
    exact zj_Ref_function_54 E h
  refine zx_aload_n E 0 dd_Ref_function_45 rfl rfl ?_
  refine zx_getI E zd_Ref_functions zg_24 Nat.zero_lt_one zw_1122 dd_Ref_function_46 ?_
  refine zx_bipush E (8 : Int32) dd_Ref_function_49 (by decide) ?_
  refine zx_icmp_ne E 60 dd_Ref_function_51 rfl ?_ ?_
  · refine zx_sub [0] rfl ?_
    exact zj_Ref_function_54 E h
  refine zx_aload_n E 0 dd_Ref_function_60 rfl rfl ?_
  refine zx_iconst E (0 : Int32) dd_Ref_function_61 (by decide) ?_
  refine zx_putI E zd_Ref_thrown zp_Ref_thrown zg_24 Nat.zero_lt_one rfl rfl zw_1107 dd_Ref_function_62 ?_
  refine zx_letH (fun h5 => ?_)
  refine zx_aload_n E 0 dd_Ref_function_65 rfl rfl ?_
  refine zx_getR E 36 0 zd_Ref_functionFrom zg_24 Nat.zero_lt_one (zr_Ref_functionFrom _) zw_1123 dd_Ref_function_66 ?_
  refine zx_aload_n E 0 dd_Ref_function_69 rfl rfl ?_
  refine zx_getI E zd_Ref_functions zg_24 Nat.zero_lt_one zw_1122 dd_Ref_function_70 ?_
  refine zx_iload_n E 1 dd_Ref_function_73 rfl rfl ?_
  refine zx_iast E zg_36 Nat.zero_lt_one dd_Ref_function_74 ?_
  refine zx_letH (fun h6 => ?_)
  refine zx_aload_n E 0 dd_Ref_function_75 rfl rfl ?_
  refine zx_getR E 37 0 zd_Ref_functionTo zg_24 Nat.zero_lt_one (zr_Ref_functionTo _) zw_1124 dd_Ref_function_76 ?_
  refine zx_aload_n E 0 dd_Ref_function_79 rfl rfl ?_
  refine zx_getI E zd_Ref_functions zg_24 Nat.zero_lt_one zw_1122 dd_Ref_function_80 ?_
  refine zx_iload_n E 2 dd_Ref_function_83 rfl rfl ?_
  refine zx_iast E zg_37 Nat.zero_lt_one dd_Ref_function_84 ?_
  refine zx_letH (fun h7 => ?_)
  refine zx_aload_n E 0 dd_Ref_function_85 rfl rfl ?_
  refine zx_getR E 38 0 zd_Ref_factor zg_24 Nat.zero_lt_one (zr_Ref_factor _) zw_1125 dd_Ref_function_86 ?_
  refine zx_aload_n E 0 dd_Ref_function_89 rfl rfl ?_
  refine zx_getI E zd_Ref_functions zg_24 Nat.zero_lt_one zw_1122 dd_Ref_function_90 ?_
  refine zx_iload_n E 3 dd_Ref_function_93 rfl rfl ?_
  refine zx_iast E zg_38 Nat.zero_lt_one dd_Ref_function_94 ?_
  refine zx_letH (fun h8 => ?_)
  refine zx_aload_n E 0 dd_Ref_function_95 rfl rfl ?_
  refine zx_getR E 39 0 zd_Ref_addend zg_24 Nat.zero_lt_one (zr_Ref_addend _) zw_1126 dd_Ref_function_96 ?_
  refine zx_aload_n E 0 dd_Ref_function_99 rfl rfl ?_
  refine zx_getI E zd_Ref_functions zg_24 Nat.zero_lt_one zw_1122 dd_Ref_function_100 ?_
  refine zx_iload E 4 dd_Ref_function_103 rfl ?_
  refine zx_iast E zg_39 Nat.zero_lt_one dd_Ref_function_105 ?_
  refine zx_letH (fun h9 => ?_)
  refine zx_aload_n E 0 dd_Ref_function_106 rfl rfl ?_
  refine zx_dup E dd_Ref_function_107 rfl ?_
  refine zx_getI E zd_Ref_functions zg_24 Nat.zero_lt_one zw_1122 dd_Ref_function_108 ?_
  refine zx_iconst E (1 : Int32) dd_Ref_function_111 (by decide) ?_
  refine zx_iadd E dd_Ref_function_112 ?_
  refine zx_putI E zd_Ref_functions zp_Ref_functions zg_24 Nat.zero_lt_one rfl rfl zw_1122 dd_Ref_function_113 ?_
  refine zx_letH (fun h10 => ?_)
  refine zx_aload_n E 0 dd_Ref_function_116 rfl rfl ?_
  refine zx_getI E zd_Ref_functions zg_24 Nat.zero_lt_one zw_1122 dd_Ref_function_117 ?_
  refine zx_iconst E (1 : Int32) dd_Ref_function_120 (by decide) ?_
  refine zx_isub E dd_Ref_function_121 ?_
  exact zx_iret E rfl rfl dd_Ref_function_122
set_option maxHeartbeats 4000000 in
set_option maxRecDepth 20000 in
theorem zj_Ref_rule_22 {B : zx_B} (E : zx_E B zm_Ref_rule)   (h : zx_H) : zx_X B zm_Ref_rule (zx_QM B (fun r => ((none : Option Value), r))) (zs_Ref_rule_J22  h) 0 0 22 [(0, zx_rV (zx_BK B) 24 0)] [] h := by
  unfold zs_Ref_rule_J22
  refine zx_aload_n E 0 dd_Ref_rule_22 rfl rfl ?_
  refine zx_iconst E (1 : Int32) dd_Ref_rule_23 (by decide) ?_
  refine zx_putI E zd_Ref_thrown zp_Ref_thrown zg_24 Nat.zero_lt_one rfl rfl zw_1107 dd_Ref_rule_24 ?_
  refine zx_letH (fun h1 => ?_)
  exact zx_vret E rfl rfl dd_Ref_rule_27
set_option maxHeartbeats 4000000 in
set_option maxRecDepth 20000 in
theorem zj_Ref_rule_46 {B : zx_B} (E : zx_E B zm_Ref_rule)   (h : zx_H) : zx_X B zm_Ref_rule (zx_QM B (fun r => ((none : Option Value), r))) (zs_Ref_rule_J46  h) 0 0 46 [(0, zx_rV (zx_BK B) 24 0)] [] h := by
  unfold zs_Ref_rule_J46
  refine zx_aload_n E 0 dd_Ref_rule_46 rfl rfl ?_
  refine zx_iconst E (2 : Int32) dd_Ref_rule_47 (by decide) ?_
  refine zx_putI E zd_Ref_thrown zp_Ref_thrown zg_24 Nat.zero_lt_one rfl rfl zw_1107 dd_Ref_rule_48 ?_
  refine zx_letH (fun h1 => ?_)
  exact zx_vret E rfl rfl dd_Ref_rule_51
set_option maxHeartbeats 4000000 in
set_option maxRecDepth 20000 in
theorem zt_Ref_rule (l : Launch) (K : zx_K) (a1 : Int32) (a2 : Int32) (a3 : Int32) (a4 : Int64) (h : zx_H) (r : zx_H) (hf : zs_Ref_rule a1 a2 a3 a4 h = some r) : zx_MR l zm_Ref_rule zy_Ref_rule K [zx_rV K 24 0, .int a1, .int a2, .int a3, .long a4] h none r := by
  refine zx_ofM (M := zm_Ref_rule) (y := zy_Ref_rule) (r := r) (as := [zx_rV K 24 0, .int a1, .int a2, .int a3, .long a4]) (ρ := (fun r => ((none : Option Value), r))) (by decide) rfl hf (Nat.le_of_ble_eq_true rfl) ?_
  intro B hl hK E
  subst hK
  subst hl
  show zx_X B zm_Ref_rule _ _ 0 0 0 [(0, zx_rV (zx_BK B) 24 0), (1, .int a1), (2, .int a2), (3, .int a3), (4, .long a4)] [] h
  unfold zs_Ref_rule
  refine zx_iload_n E 1 dd_Ref_rule_0 rfl rfl ?_
  refine zx_if_lt E 22 dd_Ref_rule_1 rfl ?_ ?_
  rotate_left
  · refine zx_sub [0] rfl ?_
    exact zj_Ref_rule_22 E h
  refine zx_iload_n E 1 dd_Ref_rule_4 rfl rfl ?_
  refine zx_aload_n E 0 dd_Ref_rule_5 rfl rfl ?_
  refine zx_getI E zd_Ref_methods zg_24 Nat.zero_lt_one zw_1115 dd_Ref_rule_6 ?_
  refine zx_icmp_ge E 22 dd_Ref_rule_9 rfl ?_ ?_
  rotate_left
  · refine zx_sub [0] rfl ?_
    exact zj_Ref_rule_22 E h
  refine zx_iload_n E 2 dd_Ref_rule_12 rfl rfl ?_
  refine zx_if_lt E 22 dd_Ref_rule_13 rfl ?_ ?_
  rotate_left
  · refine zx_sub [0] rfl ?_
    exact zj_Ref_rule_22 E h
  refine zx_iload_n E 2 dd_Ref_rule_16 rfl rfl ?_
  refine zx_bipush E (8 : Int32) dd_Ref_rule_17 (by decide) ?_
  refine zx_icmp_le E 28 dd_Ref_rule_19 rfl ?_ ?_
  · refine zx_sub [0] rfl ?_
    exact zj_Ref_rule_22 E h
  refine zx_aload_n E 0 dd_Ref_rule_28 rfl rfl ?_
  refine zx_getI E zd_Ref_built zg_24 Nat.zero_lt_one zw_1108 dd_Ref_rule_29 ?_
  refine zx_if_ne E 46 dd_Ref_rule_32 rfl ?_ ?_
  rotate_left
  · refine zx_sub [0] rfl ?_
    exact zj_Ref_rule_46 E h
  refine zx_aload_n E 0 dd_Ref_rule_35 rfl rfl ?_
  refine zx_getR E 32 0 zd_Ref_ruleCount zg_24 Nat.zero_lt_one (zr_Ref_ruleCount _) zw_1118 dd_Ref_rule_36 ?_
  refine zx_iload_n E 1 dd_Ref_rule_39 rfl rfl ?_
  refine zx_iald E zg_32 Nat.zero_lt_one dd_Ref_rule_40 ?_
  refine zx_bipush E (24 : Int32) dd_Ref_rule_41 (by decide) ?_
  refine zx_icmp_ne E 52 dd_Ref_rule_43 rfl ?_ ?_
  · refine zx_sub [0] rfl ?_
    exact zj_Ref_rule_46 E h
  refine zx_aload_n E 0 dd_Ref_rule_52 rfl rfl ?_
  refine zx_iconst E (0 : Int32) dd_Ref_rule_53 (by decide) ?_
  refine zx_putI E zd_Ref_thrown zp_Ref_thrown zg_24 Nat.zero_lt_one rfl rfl zw_1107 dd_Ref_rule_54 ?_
  refine zx_letH (fun h1 => ?_)
  refine zx_bipush E (24 : Int32) dd_Ref_rule_57 (by decide) ?_
  refine zx_iload_n E 1 dd_Ref_rule_59 rfl rfl ?_
  refine zx_imul E dd_Ref_rule_60 ?_
  refine zx_aload_n E 0 dd_Ref_rule_61 rfl rfl ?_
  refine zx_getR E 32 0 zd_Ref_ruleCount zg_24 Nat.zero_lt_one (zr_Ref_ruleCount _) zw_1118 dd_Ref_rule_62 ?_
  refine zx_iload_n E 1 dd_Ref_rule_65 rfl rfl ?_
  refine zx_iald E zg_32 Nat.zero_lt_one dd_Ref_rule_66 ?_
  refine zx_iadd E dd_Ref_rule_67 ?_
  refine zx_leti (fun y2 => ?_)
  refine zx_istore E (lv1 := [(6, .int y2), (0, zx_rV (zx_BK B) 24 0), (1, .int a1), (2, .int a2), (3, .int a3), (4, .long a4)]) dd_Ref_rule_68 (by decide) rfl ?_
  refine zx_aload_n E 1 dd_Ref_rule_70 rfl rfl ?_
  refine zx_getR E 33 0 zd_Ref_kinds zg_24 Nat.zero_lt_one (zr_Ref_kinds _) zw_1119 dd_Ref_rule_71 ?_
  refine zx_iload E 0 dd_Ref_rule_74 rfl ?_
  refine zx_iload_n E 3 dd_Ref_rule_76 rfl rfl ?_
  refine zx_iast E zg_33 Nat.zero_lt_one dd_Ref_rule_77 ?_
  refine zx_letH (fun h3 => ?_)
  refine zx_aload_n E 1 dd_Ref_rule_78 rfl rfl ?_
  refine zx_getR E 34 0 zd_Ref_targets zg_24 Nat.zero_lt_one (zr_Ref_targets _) zw_1120 dd_Ref_rule_79 ?_
  refine zx_iload E 0 dd_Ref_rule_82 rfl ?_
  refine zx_iload_n E 4 dd_Ref_rule_84 rfl rfl ?_
  refine zx_iast E zg_34 Nat.zero_lt_one dd_Ref_rule_85 ?_
  refine zx_letH (fun h4 => ?_)
  refine zx_aload_n E 1 dd_Ref_rule_86 rfl rfl ?_
  refine zx_getR E 35 0 zd_Ref_whats zg_24 Nat.zero_lt_one (zr_Ref_whats _) zw_1121 dd_Ref_rule_87 ?_
  refine zx_iload E 0 dd_Ref_rule_90 rfl ?_
  refine zx_lload E 5 dd_Ref_rule_92 rfl ?_
  refine zx_last E zg_35 Nat.zero_lt_one dd_Ref_rule_94 ?_
  refine zx_letH (fun h5 => ?_)
  refine zx_aload_n E 1 dd_Ref_rule_95 rfl rfl ?_
  refine zx_getR E 32 0 zd_Ref_ruleCount zg_24 Nat.zero_lt_one (zr_Ref_ruleCount _) zw_1118 dd_Ref_rule_96 ?_
  refine zx_iload_n E 2 dd_Ref_rule_99 rfl rfl ?_
  refine zx_dup2 E dd_Ref_rule_100 rfl rfl ?_
  refine zx_iald E zg_32 Nat.zero_lt_one dd_Ref_rule_101 ?_
  refine zx_iconst E (1 : Int32) dd_Ref_rule_102 (by decide) ?_
  refine zx_iadd E dd_Ref_rule_103 ?_
  refine zx_iast E zg_32 Nat.zero_lt_one dd_Ref_rule_104 ?_
  refine zx_letH (fun h6 => ?_)
  exact zx_vret E rfl rfl dd_Ref_rule_105
set_option maxHeartbeats 4000000 in
set_option maxRecDepth 20000 in
theorem zj_Ref_firstRule_47 {B : zx_B} (E : zx_E B zm_Ref_firstRule) (h : zx_H) (k6 : (Int32 → Int32 → Int32 → Int32 → Option Int32)) (hk6 : ∀ (x1 : Int32) (x2 : Int32) (x3 : Int32) (x4 : Int32), zx_X B zm_Ref_firstRule (zx_QM B (fun r => ((some (Value.int r) : Option Value), h))) (k6 x1 x2 x3 x4) 0 0 6 [(0, zx_rV (zx_BK B) 24 0), (1, .int x1), (2, .int x2), (3, .int x3), (4, .int x4)] [] h) (x1 : Int32) (x2 : Int32) (x3 : Int32) (x4 : Int32) : zx_X B zm_Ref_firstRule (zx_QM B (fun r => ((some (Value.int r) : Option Value), h))) (zs_Ref_firstRule_J47 h k6 x1 x2 x3 x4) 0 0 47 [(0, zx_rV (zx_BK B) 24 0), (1, .int x1), (2, .int x2), (3, .int x3), (4, .int x4)] [] h := by
  unfold zs_Ref_firstRule_J47
  refine zx_iinc E 4 (x4 + (1 : Int32)) (lv1 := [(4, .int (x4 + (1 : Int32))), (0, zx_rV (zx_BK B) 24 0), (1, .int x1), (2, .int x2), (3, .int x3)]) dd_Ref_firstRule_47 rfl rfl (by decide) rfl ?_
  refine zx_goto E 6 dd_Ref_firstRule_50 rfl ?_
  refine zx_sub [1, 2, 3, 4, 0] rfl ?_
  exact hk6 x1 x2 x3 (x4 + (1 : Int32))
set_option maxHeartbeats 4000000 in
set_option maxRecDepth 20000 in
theorem zb_Ref_firstRule_6 {B : zx_B} (E : zx_E B zm_Ref_firstRule) (h : zx_H)  (k6 : (Int32 → Int32 → Int32 → Int32 → Option Int32)) (hk6 : ∀ (x1 : Int32) (x2 : Int32) (x3 : Int32) (x4 : Int32), zx_X B zm_Ref_firstRule (zx_QM B (fun r => ((some (Value.int r) : Option Value), h))) (k6 x1 x2 x3 x4) 0 0 6 [(0, zx_rV (zx_BK B) 24 0), (1, .int x1), (2, .int x2), (3, .int x3), (4, .int x4)] [] h) (x1 : Int32) (x2 : Int32) (x3 : Int32) (x4 : Int32) : zx_X B zm_Ref_firstRule (zx_QM B (fun r => ((some (Value.int r) : Option Value), h))) (zs_Ref_firstRule_L6_body h  k6 x1 x2 x3 x4) 0 0 6 [(0, zx_rV (zx_BK B) 24 0), (1, .int x1), (2, .int x2), (3, .int x3), (4, .int x4)] [] h := by
  unfold zs_Ref_firstRule_L6_body
  refine zx_iload E 4 dd_Ref_firstRule_6 rfl ?_
  refine zx_bipush E (24 : Int32) dd_Ref_firstRule_8 (by decide) ?_
  refine zx_iload_n E 1 dd_Ref_firstRule_10 rfl rfl ?_
  refine zx_imul E dd_Ref_firstRule_11 ?_
  refine zx_aload_n E 0 dd_Ref_firstRule_12 rfl rfl ?_
  refine zx_getR E 32 0 zd_Ref_ruleCount zg_24 Nat.zero_lt_one (zr_Ref_ruleCount _) zw_1118 dd_Ref_firstRule_13 ?_
  refine zx_iload_n E 1 dd_Ref_firstRule_16 rfl rfl ?_
  refine zx_iald E zg_32 Nat.zero_lt_one dd_Ref_firstRule_17 ?_
  refine zx_iadd E dd_Ref_firstRule_18 ?_
  refine zx_icmp_ge E 53 dd_Ref_firstRule_19 rfl ?_ ?_
  rotate_left
  · refine zx_iconst E (-1 : Int32) dd_Ref_firstRule_53 (by decide) ?_
    exact zx_iret E rfl rfl dd_Ref_firstRule_54
  refine zx_aload_n E 0 dd_Ref_firstRule_22 rfl rfl ?_
  refine zx_getR E 33 0 zd_Ref_kinds zg_24 Nat.zero_lt_one (zr_Ref_kinds _) zw_1119 dd_Ref_firstRule_23 ?_
  refine zx_iload E 4 dd_Ref_firstRule_26 rfl ?_
  refine zx_iald E zg_33 Nat.zero_lt_one dd_Ref_firstRule_28 ?_
  refine zx_iload_n E 2 dd_Ref_firstRule_29 rfl rfl ?_
  refine zx_icmp_ne E 47 dd_Ref_firstRule_30 rfl ?_ ?_
  rotate_left
  · exact zj_Ref_firstRule_47 E h k6 hk6 x1 x2 x3 x4
  refine zx_aload_n E 0 dd_Ref_firstRule_33 rfl rfl ?_
  refine zx_getR E 34 0 zd_Ref_targets zg_24 Nat.zero_lt_one (zr_Ref_targets _) zw_1120 dd_Ref_firstRule_34 ?_
  refine zx_iload E 4 dd_Ref_firstRule_37 rfl ?_
  refine zx_iald E zg_34 Nat.zero_lt_one dd_Ref_firstRule_39 ?_
  refine zx_iload_n E 3 dd_Ref_firstRule_40 rfl rfl ?_
  refine zx_icmp_ne E 47 dd_Ref_firstRule_41 rfl ?_ ?_
  rotate_left
  · exact zj_Ref_firstRule_47 E h k6 hk6 x1 x2 x3 x4
  refine zx_iload E 4 dd_Ref_firstRule_44 rfl ?_
  exact zx_iret E rfl rfl dd_Ref_firstRule_46
theorem zj_Ref_firstRule_6 {B : zx_B} (E : zx_E B zm_Ref_firstRule) (h : zx_H)  : ∀ (x1 : Int32) (x2 : Int32) (x3 : Int32) (x4 : Int32), zx_X B zm_Ref_firstRule (zx_QM B (fun r => ((some (Value.int r) : Option Value), h))) (zs_Ref_firstRule_L6 h  x1 x2 x3 x4) 0 0 6 [(0, zx_rV (zx_BK B) 24 0), (1, .int x1), (2, .int x2), (3, .int x3), (4, .int x4)] [] h := by
  unfold zs_Ref_firstRule_L6
  generalize zx_fuel = n
  induction n with
  | zero => intros; exact zx_non
  | succ n ih => intro x1 x2 x3 x4; exact zb_Ref_firstRule_6 E h  _ ih x1 x2 x3 x4
set_option maxHeartbeats 4000000 in
set_option maxRecDepth 20000 in
theorem zt_Ref_firstRule (l : Launch) (K : zx_K) (a1 : Int32) (a2 : Int32) (a3 : Int32) (h : zx_H) (r : Int32) (hf : zs_Ref_firstRule a1 a2 a3 h = some r) : zx_MR l zm_Ref_firstRule zy_Ref_firstRule K [zx_rV K 24 0, .int a1, .int a2, .int a3] h (some (.int r)) h := by
  refine zx_ofM (M := zm_Ref_firstRule) (y := zy_Ref_firstRule) (r := r) (as := [zx_rV K 24 0, .int a1, .int a2, .int a3]) (ρ := (fun r => ((some (Value.int r) : Option Value), h))) (by decide) rfl hf (Nat.le_of_ble_eq_true rfl) ?_
  intro B hl hK E
  subst hK
  subst hl
  show zx_X B zm_Ref_firstRule _ _ 0 0 0 [(0, zx_rV (zx_BK B) 24 0), (1, .int a1), (2, .int a2), (3, .int a3)] [] h
  unfold zs_Ref_firstRule
  refine zx_bipush E (24 : Int32) dd_Ref_firstRule_0 (by decide) ?_
  refine zx_iload_n E 1 dd_Ref_firstRule_2 rfl rfl ?_
  refine zx_imul E dd_Ref_firstRule_3 ?_
  refine zx_leti (fun y1 => ?_)
  refine zx_istore E (lv1 := [(4, .int y1), (0, zx_rV (zx_BK B) 24 0), (1, .int a1), (2, .int a2), (3, .int a3)]) dd_Ref_firstRule_4 (by decide) rfl ?_
  refine zx_sub [1, 2, 3, 4, 0] rfl ?_
  exact zj_Ref_firstRule_6 E h a1 a2 a3 y1
set_option maxHeartbeats 4000000 in
set_option maxRecDepth 20000 in
theorem zj_Ref_latest_41 {B : zx_B} (E : zx_E B zm_Ref_latest) (h : zx_H) (k8 : (Int32 → Int32 → Int32 → Int32 → Option Int32)) (hk8 : ∀ (x1 : Int32) (x2 : Int32) (x3 : Int32) (x4 : Int32), zx_X B zm_Ref_latest (zx_QM B (fun r => ((some (Value.int r) : Option Value), h))) (k8 x1 x2 x3 x4) 0 0 8 [(0, zx_rV (zx_BK B) 24 0), (1, .int x1), (2, .int x2), (3, .int x3), (4, .int x4)] [] h) (x1 : Int32) (x2 : Int32) (x4 : Int32) (s0 : Int32) : zx_X B zm_Ref_latest (zx_QM B (fun r => ((some (Value.int r) : Option Value), h))) (zs_Ref_latest_J41 h k8 x1 x2 x4 s0) 0 0 41 [(0, zx_rV (zx_BK B) 24 0), (1, .int x1), (2, .int x2), (4, .int x4)] [.int s0] h := by
  unfold zs_Ref_latest_J41
  refine zx_istore_n E (lv1 := [(3, .int s0), (0, zx_rV (zx_BK B) 24 0), (1, .int x1), (2, .int x2), (4, .int x4)]) dd_Ref_latest_41 rfl (by decide) rfl ?_
  refine zx_iinc E 4 (x4 + (1 : Int32)) (lv1 := [(4, .int (x4 + (1 : Int32))), (3, .int s0), (0, zx_rV (zx_BK B) 24 0), (1, .int x1), (2, .int x2)]) dd_Ref_latest_42 rfl rfl (by decide) rfl ?_
  refine zx_goto E 8 dd_Ref_latest_45 rfl ?_
  refine zx_sub [2, 3, 4, 1, 0] rfl ?_
  exact hk8 x1 x2 s0 (x4 + (1 : Int32))
set_option maxHeartbeats 4000000 in
set_option maxRecDepth 20000 in
theorem zb_Ref_latest_8 {B : zx_B} (E : zx_E B zm_Ref_latest) (h : zx_H)  (k8 : (Int32 → Int32 → Int32 → Int32 → Option Int32)) (hk8 : ∀ (x1 : Int32) (x2 : Int32) (x3 : Int32) (x4 : Int32), zx_X B zm_Ref_latest (zx_QM B (fun r => ((some (Value.int r) : Option Value), h))) (k8 x1 x2 x3 x4) 0 0 8 [(0, zx_rV (zx_BK B) 24 0), (1, .int x1), (2, .int x2), (3, .int x3), (4, .int x4)] [] h) (x1 : Int32) (x2 : Int32) (x3 : Int32) (x4 : Int32) : zx_X B zm_Ref_latest (zx_QM B (fun r => ((some (Value.int r) : Option Value), h))) (zs_Ref_latest_L8_body h  k8 x1 x2 x3 x4) 0 0 8 [(0, zx_rV (zx_BK B) 24 0), (1, .int x1), (2, .int x2), (3, .int x3), (4, .int x4)] [] h := by
  unfold zs_Ref_latest_L8_body
  refine zx_iload E 4 dd_Ref_latest_8 rfl ?_
  refine zx_bipush E (24 : Int32) dd_Ref_latest_10 (by decide) ?_
  refine zx_iload_n E 1 dd_Ref_latest_12 rfl rfl ?_
  refine zx_imul E dd_Ref_latest_13 ?_
  refine zx_aload_n E 0 dd_Ref_latest_14 rfl rfl ?_
  refine zx_getR E 32 0 zd_Ref_ruleCount zg_24 Nat.zero_lt_one (zr_Ref_ruleCount _) zw_1118 dd_Ref_latest_15 ?_
  refine zx_iload_n E 1 dd_Ref_latest_18 rfl rfl ?_
  refine zx_iald E zg_32 Nat.zero_lt_one dd_Ref_latest_19 ?_
  refine zx_iadd E dd_Ref_latest_20 ?_
  refine zx_icmp_ge E 48 dd_Ref_latest_21 rfl ?_ ?_
  rotate_left
  · refine zx_iload_n E 3 dd_Ref_latest_48 rfl rfl ?_
    exact zx_iret E rfl rfl dd_Ref_latest_49
  refine zx_aload_n E 0 dd_Ref_latest_24 rfl rfl ?_
  refine zx_getR E 33 0 zd_Ref_kinds zg_24 Nat.zero_lt_one (zr_Ref_kinds _) zw_1119 dd_Ref_latest_25 ?_
  refine zx_iload E 4 dd_Ref_latest_28 rfl ?_
  refine zx_iald E zg_33 Nat.zero_lt_one dd_Ref_latest_30 ?_
  refine zx_iload_n E 2 dd_Ref_latest_31 rfl rfl ?_
  refine zx_icmp_ne E 40 dd_Ref_latest_32 rfl ?_ ?_
  rotate_left
  · refine zx_iload_n E 3 dd_Ref_latest_40 rfl rfl ?_
    refine zx_sub [0, 1, 2, 4] rfl ?_
    exact zj_Ref_latest_41 E h k8 hk8 x1 x2 x4 x3
  refine zx_iload E 4 dd_Ref_latest_35 rfl ?_
  refine zx_goto E 41 dd_Ref_latest_37 rfl ?_
  refine zx_sub [0, 1, 2, 4] rfl ?_
  exact zj_Ref_latest_41 E h k8 hk8 x1 x2 x4 x4
theorem zj_Ref_latest_8 {B : zx_B} (E : zx_E B zm_Ref_latest) (h : zx_H)  : ∀ (x1 : Int32) (x2 : Int32) (x3 : Int32) (x4 : Int32), zx_X B zm_Ref_latest (zx_QM B (fun r => ((some (Value.int r) : Option Value), h))) (zs_Ref_latest_L8 h  x1 x2 x3 x4) 0 0 8 [(0, zx_rV (zx_BK B) 24 0), (1, .int x1), (2, .int x2), (3, .int x3), (4, .int x4)] [] h := by
  unfold zs_Ref_latest_L8
  generalize zx_fuel = n
  induction n with
  | zero => intros; exact zx_non
  | succ n ih => intro x1 x2 x3 x4; exact zb_Ref_latest_8 E h  _ ih x1 x2 x3 x4
set_option maxHeartbeats 4000000 in
set_option maxRecDepth 20000 in
theorem zt_Ref_latest (l : Launch) (K : zx_K) (a1 : Int32) (a2 : Int32) (h : zx_H) (r : Int32) (hf : zs_Ref_latest a1 a2 h = some r) : zx_MR l zm_Ref_latest zy_Ref_latest K [zx_rV K 24 0, .int a1, .int a2] h (some (.int r)) h := by
  refine zx_ofM (M := zm_Ref_latest) (y := zy_Ref_latest) (r := r) (as := [zx_rV K 24 0, .int a1, .int a2]) (ρ := (fun r => ((some (Value.int r) : Option Value), h))) (by decide) rfl hf (Nat.le_of_ble_eq_true rfl) ?_
  intro B hl hK E
  subst hK
  subst hl
  show zx_X B zm_Ref_latest _ _ 0 0 0 [(0, zx_rV (zx_BK B) 24 0), (1, .int a1), (2, .int a2)] [] h
  unfold zs_Ref_latest
  refine zx_iconst E (-1 : Int32) dd_Ref_latest_0 (by decide) ?_
  refine zx_istore_n E (lv1 := [(3, .int (-1 : Int32)), (0, zx_rV (zx_BK B) 24 0), (1, .int a1), (2, .int a2)]) dd_Ref_latest_1 rfl (by decide) rfl ?_
  refine zx_bipush E (24 : Int32) dd_Ref_latest_2 (by decide) ?_
  refine zx_iload_n E 2 dd_Ref_latest_4 rfl rfl ?_
  refine zx_imul E dd_Ref_latest_5 ?_
  refine zx_leti (fun y1 => ?_)
  refine zx_istore E (lv1 := [(4, .int y1), (3, .int (-1 : Int32)), (0, zx_rV (zx_BK B) 24 0), (1, .int a1), (2, .int a2)]) dd_Ref_latest_6 (by decide) rfl ?_
  refine zx_sub [2, 3, 4, 1, 0] rfl ?_
  exact zj_Ref_latest_8 E h a1 a2 (-1 : Int32) y1
set_option maxHeartbeats 4000000 in
set_option maxRecDepth 20000 in
theorem zj_Ref_isNamed_67 {B : zx_B} (E : zx_E B zm_Ref_isNamed) (h : zx_H) (k4 : (Int32 → Bool → Int32 → Option Bool)) (hk4 : ∀ (x1 : Int32) (x2 : Bool) (x3 : Int32), zx_X B zm_Ref_isNamed (zx_QM B (fun r => ((some (Value.int (zx_b r)) : Option Value), h))) (k4 x1 x2 x3) 0 0 4 [(0, zx_rV (zx_BK B) 24 0), (1, .int x1), (2, .int (zx_b x2)), (3, .int x3)] [] h) (k18 : (Int32 → Bool → Int32 → Int32 → Option Bool)) (hk18 : ∀ (x1 : Int32) (x2 : Bool) (x3 : Int32) (x4 : Int32), zx_X B zm_Ref_isNamed (zx_QM B (fun r => ((some (Value.int (zx_b r)) : Option Value), h))) (k18 x1 x2 x3 x4) 0 0 18 [(0, zx_rV (zx_BK B) 24 0), (1, .int x1), (2, .int (zx_b x2)), (3, .int x3), (4, .int x4)] [] h) (x1 : Int32) (x3 : Int32) (x4 : Int32) (s0 : Bool) : zx_X B zm_Ref_isNamed (zx_QM B (fun r => ((some (Value.int (zx_b r)) : Option Value), h))) (zs_Ref_isNamed_J67 h k4 k18 x1 x3 x4 s0) 0 0 67 [(0, zx_rV (zx_BK B) 24 0), (1, .int x1), (3, .int x3), (4, .int x4)] [.int (zx_b s0)] h := by
  unfold zs_Ref_isNamed_J67
  refine zx_istore_n E (lv1 := [(2, .int (zx_b s0)), (0, zx_rV (zx_BK B) 24 0), (1, .int x1), (3, .int x3), (4, .int x4)]) dd_Ref_isNamed_67 rfl (by decide) rfl ?_
  refine zx_iinc E 4 (x4 + (1 : Int32)) (lv1 := [(4, .int (x4 + (1 : Int32))), (2, .int (zx_b s0)), (0, zx_rV (zx_BK B) 24 0), (1, .int x1), (3, .int x3)]) dd_Ref_isNamed_68 rfl rfl (by decide) rfl ?_
  refine zx_goto E 18 dd_Ref_isNamed_71 rfl ?_
  refine zx_sub [2, 3, 1, 4, 0] rfl ?_
  exact hk18 x1 s0 x3 (x4 + (1 : Int32))
set_option maxHeartbeats 4000000 in
set_option maxRecDepth 20000 in
theorem zj_Ref_isNamed_62 {B : zx_B} (E : zx_E B zm_Ref_isNamed) (h : zx_H) (k4 : (Int32 → Bool → Int32 → Option Bool)) (hk4 : ∀ (x1 : Int32) (x2 : Bool) (x3 : Int32), zx_X B zm_Ref_isNamed (zx_QM B (fun r => ((some (Value.int (zx_b r)) : Option Value), h))) (k4 x1 x2 x3) 0 0 4 [(0, zx_rV (zx_BK B) 24 0), (1, .int x1), (2, .int (zx_b x2)), (3, .int x3)] [] h) (k18 : (Int32 → Bool → Int32 → Int32 → Option Bool)) (hk18 : ∀ (x1 : Int32) (x2 : Bool) (x3 : Int32) (x4 : Int32), zx_X B zm_Ref_isNamed (zx_QM B (fun r => ((some (Value.int (zx_b r)) : Option Value), h))) (k18 x1 x2 x3 x4) 0 0 18 [(0, zx_rV (zx_BK B) 24 0), (1, .int x1), (2, .int (zx_b x2)), (3, .int x3), (4, .int x4)] [] h) (x1 : Int32) (x3 : Int32) (x4 : Int32) : zx_X B zm_Ref_isNamed (zx_QM B (fun r => ((some (Value.int (zx_b r)) : Option Value), h))) (zs_Ref_isNamed_J62 h k4 k18 x1 x3 x4) 0 0 62 [(0, zx_rV (zx_BK B) 24 0), (1, .int x1), (3, .int x3), (4, .int x4)] [] h := by
  unfold zs_Ref_isNamed_J62
  refine zx_iconst E (1 : Int32) dd_Ref_isNamed_62 (by decide) ?_
  refine zx_goto E 67 dd_Ref_isNamed_63 rfl ?_
  exact zj_Ref_isNamed_67 E h k4 hk4 k18 hk18 x1 x3 x4 true
set_option maxHeartbeats 4000000 in
set_option maxRecDepth 20000 in
theorem zj_Ref_isNamed_66 {B : zx_B} (E : zx_E B zm_Ref_isNamed) (h : zx_H) (k4 : (Int32 → Bool → Int32 → Option Bool)) (hk4 : ∀ (x1 : Int32) (x2 : Bool) (x3 : Int32), zx_X B zm_Ref_isNamed (zx_QM B (fun r => ((some (Value.int (zx_b r)) : Option Value), h))) (k4 x1 x2 x3) 0 0 4 [(0, zx_rV (zx_BK B) 24 0), (1, .int x1), (2, .int (zx_b x2)), (3, .int x3)] [] h) (k18 : (Int32 → Bool → Int32 → Int32 → Option Bool)) (hk18 : ∀ (x1 : Int32) (x2 : Bool) (x3 : Int32) (x4 : Int32), zx_X B zm_Ref_isNamed (zx_QM B (fun r => ((some (Value.int (zx_b r)) : Option Value), h))) (k18 x1 x2 x3 x4) 0 0 18 [(0, zx_rV (zx_BK B) 24 0), (1, .int x1), (2, .int (zx_b x2)), (3, .int x3), (4, .int x4)] [] h) (x1 : Int32) (x3 : Int32) (x4 : Int32) : zx_X B zm_Ref_isNamed (zx_QM B (fun r => ((some (Value.int (zx_b r)) : Option Value), h))) (zs_Ref_isNamed_J66 h k4 k18 x1 x3 x4) 0 0 66 [(0, zx_rV (zx_BK B) 24 0), (1, .int x1), (3, .int x3), (4, .int x4)] [] h := by
  unfold zs_Ref_isNamed_J66
  refine zx_iconst E (0 : Int32) dd_Ref_isNamed_66 (by decide) ?_
  exact zj_Ref_isNamed_67 E h k4 hk4 k18 hk18 x1 x3 x4 false
set_option maxHeartbeats 4000000 in
set_option maxRecDepth 20000 in
theorem zb_Ref_isNamed_18 {B : zx_B} (E : zx_E B zm_Ref_isNamed) (h : zx_H) (k4 : (Int32 → Bool → Int32 → Option Bool)) (hk4 : ∀ (x1 : Int32) (x2 : Bool) (x3 : Int32), zx_X B zm_Ref_isNamed (zx_QM B (fun r => ((some (Value.int (zx_b r)) : Option Value), h))) (k4 x1 x2 x3) 0 0 4 [(0, zx_rV (zx_BK B) 24 0), (1, .int x1), (2, .int (zx_b x2)), (3, .int x3)] [] h) (k18 : (Int32 → Bool → Int32 → Int32 → Option Bool)) (hk18 : ∀ (x1 : Int32) (x2 : Bool) (x3 : Int32) (x4 : Int32), zx_X B zm_Ref_isNamed (zx_QM B (fun r => ((some (Value.int (zx_b r)) : Option Value), h))) (k18 x1 x2 x3 x4) 0 0 18 [(0, zx_rV (zx_BK B) 24 0), (1, .int x1), (2, .int (zx_b x2)), (3, .int x3), (4, .int x4)] [] h) (x1 : Int32) (x2 : Bool) (x3 : Int32) (x4 : Int32) : zx_X B zm_Ref_isNamed (zx_QM B (fun r => ((some (Value.int (zx_b r)) : Option Value), h))) (zs_Ref_isNamed_L18_body h k4 k18 x1 x2 x3 x4) 0 0 18 [(0, zx_rV (zx_BK B) 24 0), (1, .int x1), (2, .int (zx_b x2)), (3, .int x3), (4, .int x4)] [] h := by
  unfold zs_Ref_isNamed_L18_body
  refine zx_iload E 4 dd_Ref_isNamed_18 rfl ?_
  refine zx_bipush E (24 : Int32) dd_Ref_isNamed_20 (by decide) ?_
  refine zx_iload_n E 3 dd_Ref_isNamed_22 rfl rfl ?_
  refine zx_imul E dd_Ref_isNamed_23 ?_
  refine zx_aload_n E 0 dd_Ref_isNamed_24 rfl rfl ?_
  refine zx_getR E 32 0 zd_Ref_ruleCount zg_24 Nat.zero_lt_one (zr_Ref_ruleCount _) zw_1118 dd_Ref_isNamed_25 ?_
  refine zx_iload_n E 3 dd_Ref_isNamed_28 rfl rfl ?_
  refine zx_iald E zg_32 Nat.zero_lt_one dd_Ref_isNamed_29 ?_
  refine zx_iadd E dd_Ref_isNamed_30 ?_
  refine zx_icmp_ge E 74 dd_Ref_isNamed_31 rfl ?_ ?_
  rotate_left
  · refine zx_iinc E 3 (x3 + (1 : Int32)) (lv1 := [(3, .int (x3 + (1 : Int32))), (0, zx_rV (zx_BK B) 24 0), (1, .int x1), (2, .int (zx_b x2)), (4, .int x4)]) dd_Ref_isNamed_74 rfl rfl (by decide) rfl ?_
    refine zx_goto E 4 dd_Ref_isNamed_77 rfl ?_
    refine zx_sub [1, 2, 3, 0] rfl ?_
    exact hk4 x1 x2 (x3 + (1 : Int32))
  refine zx_iload_n E 2 dd_Ref_isNamed_34 rfl rfl ?_
  refine zx_ifb_ne E (x := x2) 62 dd_Ref_isNamed_35 rfl ?_ ?_
  rotate_left
  · refine zx_sub [0, 1, 3, 4] rfl ?_
    exact zj_Ref_isNamed_62 E h k4 hk4 k18 hk18 x1 x3 x4
  refine zx_aload_n E 0 dd_Ref_isNamed_38 rfl rfl ?_
  refine zx_getR E 33 0 zd_Ref_kinds zg_24 Nat.zero_lt_one (zr_Ref_kinds _) zw_1119 dd_Ref_isNamed_39 ?_
  refine zx_iload E 4 dd_Ref_isNamed_42 rfl ?_
  refine zx_iald E zg_33 Nat.zero_lt_one dd_Ref_isNamed_44 ?_
  refine zx_iconst E (4 : Int32) dd_Ref_isNamed_45 (by decide) ?_
  refine zx_icmp_ne E 66 dd_Ref_isNamed_46 rfl ?_ ?_
  rotate_left
  · refine zx_sub [0, 1, 3, 4] rfl ?_
    exact zj_Ref_isNamed_66 E h k4 hk4 k18 hk18 x1 x3 x4
  refine zx_aload_n E 0 dd_Ref_isNamed_49 rfl rfl ?_
  refine zx_getR E 35 0 zd_Ref_whats zg_24 Nat.zero_lt_one (zr_Ref_whats _) zw_1121 dd_Ref_isNamed_50 ?_
  refine zx_iload E 4 dd_Ref_isNamed_53 rfl ?_
  refine zx_lald E zg_35 Nat.zero_lt_one dd_Ref_isNamed_55 ?_
  refine zx_iload_n E 1 dd_Ref_isNamed_56 rfl rfl ?_
  refine zx_i2l E dd_Ref_isNamed_57 ?_
  refine zx_lcmp_ne E 66 dd_Ref_isNamed_58 dd_Ref_isNamed_59 rfl ?_ ?_
  · refine zx_sub [0, 1, 3, 4] rfl ?_
    exact zj_Ref_isNamed_62 E h k4 hk4 k18 hk18 x1 x3 x4
  refine zx_sub [0, 1, 3, 4] rfl ?_
  exact zj_Ref_isNamed_66 E h k4 hk4 k18 hk18 x1 x3 x4
theorem zj_Ref_isNamed_18 {B : zx_B} (E : zx_E B zm_Ref_isNamed) (h : zx_H) (k4 : (Int32 → Bool → Int32 → Option Bool)) (hk4 : ∀ (x1 : Int32) (x2 : Bool) (x3 : Int32), zx_X B zm_Ref_isNamed (zx_QM B (fun r => ((some (Value.int (zx_b r)) : Option Value), h))) (k4 x1 x2 x3) 0 0 4 [(0, zx_rV (zx_BK B) 24 0), (1, .int x1), (2, .int (zx_b x2)), (3, .int x3)] [] h) : ∀ (x1 : Int32) (x2 : Bool) (x3 : Int32) (x4 : Int32), zx_X B zm_Ref_isNamed (zx_QM B (fun r => ((some (Value.int (zx_b r)) : Option Value), h))) (zs_Ref_isNamed_L18 h k4 x1 x2 x3 x4) 0 0 18 [(0, zx_rV (zx_BK B) 24 0), (1, .int x1), (2, .int (zx_b x2)), (3, .int x3), (4, .int x4)] [] h := by
  unfold zs_Ref_isNamed_L18
  generalize zx_fuel = n
  induction n with
  | zero => intros; exact zx_non
  | succ n ih => intro x1 x2 x3 x4; exact zb_Ref_isNamed_18 E h k4 hk4 _ ih x1 x2 x3 x4
set_option maxHeartbeats 4000000 in
set_option maxRecDepth 20000 in
theorem zb_Ref_isNamed_4 {B : zx_B} (E : zx_E B zm_Ref_isNamed) (h : zx_H)  (k4 : (Int32 → Bool → Int32 → Option Bool)) (hk4 : ∀ (x1 : Int32) (x2 : Bool) (x3 : Int32), zx_X B zm_Ref_isNamed (zx_QM B (fun r => ((some (Value.int (zx_b r)) : Option Value), h))) (k4 x1 x2 x3) 0 0 4 [(0, zx_rV (zx_BK B) 24 0), (1, .int x1), (2, .int (zx_b x2)), (3, .int x3)] [] h) (x1 : Int32) (x2 : Bool) (x3 : Int32) : zx_X B zm_Ref_isNamed (zx_QM B (fun r => ((some (Value.int (zx_b r)) : Option Value), h))) (zs_Ref_isNamed_L4_body h  k4 x1 x2 x3) 0 0 4 [(0, zx_rV (zx_BK B) 24 0), (1, .int x1), (2, .int (zx_b x2)), (3, .int x3)] [] h := by
  unfold zs_Ref_isNamed_L4_body
  refine zx_iload_n E 3 dd_Ref_isNamed_4 rfl rfl ?_
  refine zx_aload_n E 0 dd_Ref_isNamed_5 rfl rfl ?_
  refine zx_getI E zd_Ref_methods zg_24 Nat.zero_lt_one zw_1115 dd_Ref_isNamed_6 ?_
  refine zx_icmp_ge E 80 dd_Ref_isNamed_9 rfl ?_ ?_
  rotate_left
  · refine zx_iload_n E 2 dd_Ref_isNamed_80 rfl rfl ?_
    exact zx_zret E x2 rfl rfl rfl dd_Ref_isNamed_81
  refine zx_bipush E (24 : Int32) dd_Ref_isNamed_12 (by decide) ?_
  refine zx_iload_n E 3 dd_Ref_isNamed_14 rfl rfl ?_
  refine zx_imul E dd_Ref_isNamed_15 ?_
  refine zx_leti (fun y1 => ?_)
  refine zx_istore E (lv1 := [(4, .int y1), (0, zx_rV (zx_BK B) 24 0), (1, .int x1), (2, .int (zx_b x2)), (3, .int x3)]) dd_Ref_isNamed_16 (by decide) rfl ?_
  refine zx_sub [1, 2, 3, 4, 0] rfl ?_
  exact zj_Ref_isNamed_18 E h k4 hk4 x1 x2 x3 y1
theorem zj_Ref_isNamed_4 {B : zx_B} (E : zx_E B zm_Ref_isNamed) (h : zx_H)  : ∀ (x1 : Int32) (x2 : Bool) (x3 : Int32), zx_X B zm_Ref_isNamed (zx_QM B (fun r => ((some (Value.int (zx_b r)) : Option Value), h))) (zs_Ref_isNamed_L4 h  x1 x2 x3) 0 0 4 [(0, zx_rV (zx_BK B) 24 0), (1, .int x1), (2, .int (zx_b x2)), (3, .int x3)] [] h := by
  unfold zs_Ref_isNamed_L4
  generalize zx_fuel = n
  induction n with
  | zero => intros; exact zx_non
  | succ n ih => intro x1 x2 x3; exact zb_Ref_isNamed_4 E h  _ ih x1 x2 x3
set_option maxHeartbeats 4000000 in
set_option maxRecDepth 20000 in
theorem zt_Ref_isNamed (l : Launch) (K : zx_K) (a1 : Int32) (h : zx_H) (r : Bool) (hf : zs_Ref_isNamed a1 h = some r) : zx_MR l zm_Ref_isNamed zy_Ref_isNamed K [zx_rV K 24 0, .int a1] h (some (.int (zx_b r))) h := by
  refine zx_ofM (M := zm_Ref_isNamed) (y := zy_Ref_isNamed) (r := r) (as := [zx_rV K 24 0, .int a1]) (ρ := (fun r => ((some (Value.int (zx_b r)) : Option Value), h))) (by decide) rfl hf (Nat.le_of_ble_eq_true rfl) ?_
  intro B hl hK E
  subst hK
  subst hl
  show zx_X B zm_Ref_isNamed _ _ 0 0 0 [(0, zx_rV (zx_BK B) 24 0), (1, .int a1)] [] h
  unfold zs_Ref_isNamed
  refine zx_iconst E (0 : Int32) dd_Ref_isNamed_0 (by decide) ?_
  refine zx_istore_n E (lv1 := [(2, .int (0 : Int32)), (0, zx_rV (zx_BK B) 24 0), (1, .int a1)]) dd_Ref_isNamed_1 rfl (by decide) rfl ?_
  refine zx_iconst E (0 : Int32) dd_Ref_isNamed_2 (by decide) ?_
  refine zx_istore_n E (lv1 := [(3, .int (0 : Int32)), (2, .int (0 : Int32)), (0, zx_rV (zx_BK B) 24 0), (1, .int a1)]) dd_Ref_isNamed_3 rfl (by decide) rfl ?_
  refine zx_sub [2, 3, 1, 0] rfl ?_
  exact zj_Ref_isNamed_4 E h a1 false (0 : Int32)
set_option maxHeartbeats 4000000 in
set_option maxRecDepth 20000 in
theorem zt_Ref_inverseOf (l : Launch) (K : zx_K) (a1 : Int32) (h : zx_H) (r : Int32) (hf : zs_Ref_inverseOf a1 h = some r) : zx_MR l zm_Ref_inverseOf zy_Ref_inverseOf K [zx_rV K 24 0, .int a1] h (some (.int r)) h := by
  refine zx_ofM (M := zm_Ref_inverseOf) (y := zy_Ref_inverseOf) (r := r) (as := [zx_rV K 24 0, .int a1]) (ρ := (fun r => ((some (Value.int r) : Option Value), h))) (by decide) rfl hf (Nat.le_of_ble_eq_true rfl) ?_
  intro B hl hK E
  subst hK
  subst hl
  show zx_X B zm_Ref_inverseOf _ _ 0 0 0 [(0, zx_rV (zx_BK B) 24 0), (1, .int a1)] [] h
  unfold zs_Ref_inverseOf
  refine zx_aload_n E 0 dd_Ref_inverseOf_0 rfl rfl ?_
  refine zx_iload_n E 1 dd_Ref_inverseOf_1 rfl rfl ?_
  refine zx_bipush E (7 : Int32) dd_Ref_inverseOf_2 (by decide) ?_
  refine zx_callV_i (T := zx_TRef) E [.int a1, .int (7 : Int32)] (fun rZ eZ => zt_Ref_latest _ _ a1 (7 : Int32) h _ eZ) zg_24 Nat.zero_lt_one rfl zc_Ref_148 ⟨by decide, by decide⟩ (Nat.zero_le _) (Nat.zero_le _) rfl rfl (Nat.le_of_ble_eq_true rfl) dd_Ref_inverseOf_4 (fun r1 => ?_)
  refine zx_istore_n E (lv1 := [(2, .int r1), (0, zx_rV (zx_BK B) 24 0), (1, .int a1)]) dd_Ref_inverseOf_7 rfl (by decide) rfl ?_
  refine zx_iload_n E 0 dd_Ref_inverseOf_8 rfl rfl ?_
  refine zx_if_ge E 16 dd_Ref_inverseOf_9 rfl ?_ ?_
  · refine zx_iconst E (-1 : Int32) dd_Ref_inverseOf_12 (by decide) ?_
    refine zx_goto E 23 dd_Ref_inverseOf_13 rfl ?_
    exact zx_iret E rfl rfl dd_Ref_inverseOf_23
  refine zx_aload_n E 1 dd_Ref_inverseOf_16 rfl rfl ?_
  refine zx_getR E 35 0 zd_Ref_whats zg_24 Nat.zero_lt_one (zr_Ref_whats _) zw_1121 dd_Ref_inverseOf_17 ?_
  refine zx_iload_n E 0 dd_Ref_inverseOf_20 rfl rfl ?_
  refine zx_lald E zg_35 Nat.zero_lt_one dd_Ref_inverseOf_21 ?_
  refine zx_l2i E dd_Ref_inverseOf_22 ?_
  exact zx_iret E rfl rfl dd_Ref_inverseOf_23
set_option maxHeartbeats 4000000 in
set_option maxRecDepth 20000 in
theorem zb_Ref_nameOf_2 {B : zx_B} (E : zx_E B zm_Ref_nameOf) (h : zx_H)  (k2 : (Int64 → Int32 → Int32 → Option Int32)) (hk2 : ∀ (x0 : Int64) (x2 : Int32) (x3 : Int32), zx_X B zm_Ref_nameOf (zx_QM B (fun r => ((some (Value.int r) : Option Value), h))) (k2 x0 x2 x3) 0 0 2 [(0, .long x0), (2, .int x2), (3, .int x3)] [] h) (x0 : Int64) (x2 : Int32) (x3 : Int32) : zx_X B zm_Ref_nameOf (zx_QM B (fun r => ((some (Value.int r) : Option Value), h))) (zs_Ref_nameOf_L2_body h  k2 x0 x2 x3) 0 0 2 [(0, .long x0), (2, .int x2), (3, .int x3)] [] h := by
  unfold zs_Ref_nameOf_L2_body
  refine zx_iload_n E 2 dd_Ref_nameOf_2 rfl rfl ?_
  refine zx_iload_n E 1 dd_Ref_nameOf_3 rfl rfl ?_
  refine zx_icmp_ge E 30 dd_Ref_nameOf_4 rfl ?_ ?_
  · refine zx_lload_n E 0 dd_Ref_nameOf_7 rfl rfl ?_
    refine zx_bipush E (8 : Int32) dd_Ref_nameOf_8 (by decide) ?_
    refine zx_iload_n E 2 dd_Ref_nameOf_10 rfl rfl ?_
    refine zx_imul E dd_Ref_nameOf_11 ?_
    refine zx_lshr E dd_Ref_nameOf_12 ?_
    refine zx_ldc2 E (255 : Int64) zw_1240 dd_Ref_nameOf_13 ?_
    refine zx_land E dd_Ref_nameOf_16 ?_
    refine zx_lconst E (0 : Int64) dd_Ref_nameOf_17 rfl ?_
    refine zx_lcmp_ne E 24 dd_Ref_nameOf_18 dd_Ref_nameOf_19 rfl ?_ ?_
    · refine zx_iconst E (-1 : Int32) dd_Ref_nameOf_22 (by decide) ?_
      exact zx_iret E rfl rfl dd_Ref_nameOf_23
    refine zx_iinc E 2 (x3 + (1 : Int32)) (lv1 := [(3, .int (x3 + (1 : Int32))), (0, .long x0), (2, .int x2)]) dd_Ref_nameOf_24 rfl rfl (by decide) rfl ?_
    refine zx_goto E 2 dd_Ref_nameOf_27 rfl ?_
    refine zx_sub [1, 2, 0] rfl ?_
    exact hk2 x0 x2 (x3 + (1 : Int32))
  refine zx_iload_n E 1 dd_Ref_nameOf_30 rfl rfl ?_
  refine zx_iconst E (2 : Int32) dd_Ref_nameOf_31 (by decide) ?_
  refine zx_icmp_le E 39 dd_Ref_nameOf_32 rfl ?_ ?_
  · refine zx_iconst E (-1 : Int32) dd_Ref_nameOf_35 (by decide) ?_
    refine zx_goto E 52 dd_Ref_nameOf_36 rfl ?_
    exact zx_iret E rfl rfl dd_Ref_nameOf_52
  refine zx_lload_n E 0 dd_Ref_nameOf_39 rfl rfl ?_
  refine zx_bipush E (8 : Int32) dd_Ref_nameOf_40 (by decide) ?_
  refine zx_iload_n E 1 dd_Ref_nameOf_42 rfl rfl ?_
  refine zx_imul E dd_Ref_nameOf_43 ?_
  refine zx_lshr E dd_Ref_nameOf_44 ?_
  refine zx_ldc2 E (255 : Int64) zw_1240 dd_Ref_nameOf_45 ?_
  refine zx_land E dd_Ref_nameOf_48 ?_
  refine zx_l2i E dd_Ref_nameOf_49 ?_
  refine zx_iconst E (1 : Int32) dd_Ref_nameOf_50 (by decide) ?_
  refine zx_isub E dd_Ref_nameOf_51 ?_
  exact zx_iret E rfl rfl dd_Ref_nameOf_52
theorem zj_Ref_nameOf_2 {B : zx_B} (E : zx_E B zm_Ref_nameOf) (h : zx_H)  : ∀ (x0 : Int64) (x2 : Int32) (x3 : Int32), zx_X B zm_Ref_nameOf (zx_QM B (fun r => ((some (Value.int r) : Option Value), h))) (zs_Ref_nameOf_L2 h  x0 x2 x3) 0 0 2 [(0, .long x0), (2, .int x2), (3, .int x3)] [] h := by
  unfold zs_Ref_nameOf_L2
  generalize zx_fuel = n
  induction n with
  | zero => intros; exact zx_non
  | succ n ih => intro x0 x2 x3; exact zb_Ref_nameOf_2 E h  _ ih x0 x2 x3
set_option maxHeartbeats 4000000 in
set_option maxRecDepth 20000 in
theorem zt_Ref_nameOf (l : Launch) (K : zx_K) (a0 : Int64) (a2 : Int32) (h : zx_H) (r : Int32) (hf : zs_Ref_nameOf a0 a2 h = some r) : zx_MR l zm_Ref_nameOf zy_Ref_nameOf K [.long a0, .int a2] h (some (.int r)) h := by
  refine zx_ofM (M := zm_Ref_nameOf) (y := zy_Ref_nameOf) (r := r) (as := [.long a0, .int a2]) (ρ := (fun r => ((some (Value.int r) : Option Value), h))) (by decide) rfl hf (Nat.le_of_ble_eq_true rfl) ?_
  intro B hl hK E
  subst hK
  subst hl
  show zx_X B zm_Ref_nameOf _ _ 0 0 0 [(0, .long a0), (2, .int a2)] [] h
  unfold zs_Ref_nameOf
  refine zx_iconst E (0 : Int32) dd_Ref_nameOf_0 (by decide) ?_
  refine zx_istore_n E (lv1 := [(3, .int (0 : Int32)), (0, .long a0), (2, .int a2)]) dd_Ref_nameOf_1 rfl (by decide) rfl ?_
  refine zx_sub [1, 2, 0] rfl ?_
  exact zj_Ref_nameOf_2 E h a0 a2 (0 : Int32)
set_option maxHeartbeats 4000000 in
set_option maxRecDepth 20000 in
theorem zt_Ref_byName (l : Launch) (K : zx_K) (a1 : Int32) (a2 : Int32) (h : zx_H) (r : Int64) (hf : zs_Ref_byName a1 a2 h = some r) : zx_MR l zm_Ref_byName zy_Ref_byName K [zx_rV K 24 0, .int a1, .int a2] h (some (.long r)) h := by
  refine zx_ofM (M := zm_Ref_byName) (y := zy_Ref_byName) (r := r) (as := [zx_rV K 24 0, .int a1, .int a2]) (ρ := (fun r => ((some (Value.long r) : Option Value), h))) (by decide) rfl hf (Nat.le_of_ble_eq_true rfl) ?_
  intro B hl hK E
  subst hK
  subst hl
  show zx_X B zm_Ref_byName _ _ 0 0 0 [(0, zx_rV (zx_BK B) 24 0), (1, .int a1), (2, .int a2)] [] h
  unfold zs_Ref_byName
  refine zx_aload_n E 0 dd_Ref_byName_0 rfl rfl ?_
  refine zx_aload_n E 0 dd_Ref_byName_1 rfl rfl ?_
  refine zx_getR E 30 0 zd_Ref_methodFrom zg_24 Nat.zero_lt_one (zr_Ref_methodFrom _) zw_1116 dd_Ref_byName_2 ?_
  refine zx_iload_n E 1 dd_Ref_byName_5 rfl rfl ?_
  refine zx_iald E zg_30 Nat.zero_lt_one dd_Ref_byName_6 ?_
  refine zx_iload_n E 2 dd_Ref_byName_7 rfl rfl ?_
  refine zx_callV_i (T := zx_TRef) E [.int (h.1 30 0 a1.toNatClampNeg), .int a2] (fun rZ eZ => zt_Ref_placeOf _ _ (h.1 30 0 a1.toNatClampNeg) a2 h _ eZ) zg_24 Nat.zero_lt_one rfl zc_Ref_129 ⟨by decide, by decide⟩ (Nat.zero_le _) (Nat.zero_le _) rfl rfl (Nat.le_of_ble_eq_true rfl) dd_Ref_byName_8 (fun r1 => ?_)
  refine zx_if_lt E 21 dd_Ref_byName_11 rfl ?_ ?_
  rotate_left
  · refine zx_lconst E (0 : Int64) dd_Ref_byName_21 rfl ?_
    exact zx_lret E rfl rfl dd_Ref_byName_22
  refine zx_iload_n E 2 dd_Ref_byName_14 rfl rfl ?_
  refine zx_i2l E dd_Ref_byName_15 ?_
  refine zx_lconst E (1 : Int64) dd_Ref_byName_16 rfl ?_
  refine zx_ladd E dd_Ref_byName_17 ?_
  refine zx_goto E 22 dd_Ref_byName_18 rfl ?_
  exact zx_lret E rfl rfl dd_Ref_byName_22
set_option maxHeartbeats 4000000 in
set_option maxRecDepth 20000 in
theorem zj_Ref_pathOf_109 {B : zx_B} (E : zx_E B zm_Ref_pathOf) (h : zx_H) (k42 : (Int32 → Int32 → Int32 → Int32 → Option Int64)) (hk42 : ∀ (x1 : Int32) (x2 : Int32) (x4 : Int32) (x5 : Int32), zx_X B zm_Ref_pathOf (zx_QM B (fun r => ((some (Value.long r) : Option Value), h))) (k42 x1 x2 x4 x5) 0 0 42 [(0, zx_rV (zx_BK B) 24 0), (1, .int x1), (2, .int x2), (4, .int x4), (5, .int x5)] [] h) (x1 : Int32) (x2 : Int32) (x4 : Int32) (x5 : Int32) (s0 : Bool) : zx_X B zm_Ref_pathOf (zx_QM B (fun r => ((some (Value.long r) : Option Value), h))) (zs_Ref_pathOf_J109 h k42 x1 x2 x4 x5 s0) 0 0 109 [(0, zx_rV (zx_BK B) 24 0), (1, .int x1), (2, .int x2), (4, .int x4), (5, .int x5)] [.int (zx_b s0)] h := by
  unfold zs_Ref_pathOf_J109
  refine zx_istore E (lv1 := [(6, .int (zx_b s0)), (0, zx_rV (zx_BK B) 24 0), (1, .int x1), (2, .int x2), (4, .int x4), (5, .int x5)]) dd_Ref_pathOf_109 (by decide) rfl ?_
  refine zx_iload E 0 dd_Ref_pathOf_111 rfl ?_
  refine zx_ifb_eq E (x := s0) 156 dd_Ref_pathOf_113 rfl ?_ ?_
  rotate_left
  · refine zx_iinc E 5 (x5 + (1 : Int32)) (lv1 := [(5, .int (x5 + (1 : Int32))), (6, .int (zx_b s0)), (0, zx_rV (zx_BK B) 24 0), (1, .int x1), (2, .int x2), (4, .int x4)]) dd_Ref_pathOf_156 rfl rfl (by decide) rfl ?_
    refine zx_goto E 42 dd_Ref_pathOf_159 rfl ?_
    refine zx_sub [2, 3, 4, 5, 0] rfl ?_
    exact hk42 x1 x2 x4 (x5 + (1 : Int32))
  refine zx_aload_n E 1 dd_Ref_pathOf_116 rfl rfl ?_
  refine zx_aload_n E 1 dd_Ref_pathOf_117 rfl rfl ?_
  refine zx_getR E 30 0 zd_Ref_methodFrom zg_24 Nat.zero_lt_one (zr_Ref_methodFrom _) zw_1116 dd_Ref_pathOf_118 ?_
  refine zx_iload_n E 2 dd_Ref_pathOf_121 rfl rfl ?_
  refine zx_iald E zg_30 Nat.zero_lt_one dd_Ref_pathOf_122 ?_
  refine zx_aload_n E 1 dd_Ref_pathOf_123 rfl rfl ?_
  refine zx_getR E 34 0 zd_Ref_targets zg_24 Nat.zero_lt_one (zr_Ref_targets _) zw_1120 dd_Ref_pathOf_124 ?_
  refine zx_iload E 5 dd_Ref_pathOf_127 rfl ?_
  refine zx_iald E zg_34 Nat.zero_lt_one dd_Ref_pathOf_129 ?_
  refine zx_callV_i (T := zx_TRef) E [.int (h.1 30 0 x1.toNatClampNeg), .int (h.1 34 0 x5.toNatClampNeg)] (fun rZ eZ => zt_Ref_placeOf _ _ (h.1 30 0 x1.toNatClampNeg) (h.1 34 0 x5.toNatClampNeg) h _ eZ) zg_24 Nat.zero_lt_one rfl zc_Ref_129 ⟨by decide, by decide⟩ (Nat.zero_le _) (Nat.zero_le _) rfl rfl (Nat.le_of_ble_eq_true rfl) dd_Ref_pathOf_130 (fun r1 => ?_)
  refine zx_if_lt E 149 dd_Ref_pathOf_133 rfl ?_ ?_
  rotate_left
  · refine zx_aload_n E 1 dd_Ref_pathOf_149 rfl rfl ?_
    refine zx_iload_n E 2 dd_Ref_pathOf_150 rfl rfl ?_
    refine zx_iload_n E 3 dd_Ref_pathOf_151 rfl rfl ?_
    refine zx_callV_l (T := zx_TRef) E [.int x1, .int x2] (fun rZ eZ => zt_Ref_byName _ _ x1 x2 h _ eZ) zg_24 Nat.zero_lt_one rfl zc_Ref_162 ⟨by decide, by decide⟩ (Nat.zero_le _) (Nat.zero_le _) rfl rfl (Nat.le_of_ble_eq_true rfl) dd_Ref_pathOf_152 (fun r2 => ?_)
    exact zx_lret E rfl rfl dd_Ref_pathOf_155
  refine zx_aload_n E 1 dd_Ref_pathOf_136 rfl rfl ?_
  refine zx_getR E 34 0 zd_Ref_targets zg_24 Nat.zero_lt_one (zr_Ref_targets _) zw_1120 dd_Ref_pathOf_137 ?_
  refine zx_iload E 5 dd_Ref_pathOf_140 rfl ?_
  refine zx_iald E zg_34 Nat.zero_lt_one dd_Ref_pathOf_142 ?_
  refine zx_i2l E dd_Ref_pathOf_143 ?_
  refine zx_lconst E (1 : Int64) dd_Ref_pathOf_144 rfl ?_
  refine zx_ladd E dd_Ref_pathOf_145 ?_
  refine zx_goto E 155 dd_Ref_pathOf_146 rfl ?_
  exact zx_lret E rfl rfl dd_Ref_pathOf_155
set_option maxHeartbeats 4000000 in
set_option maxRecDepth 20000 in
theorem zj_Ref_pathOf_108 {B : zx_B} (E : zx_E B zm_Ref_pathOf) (h : zx_H) (k42 : (Int32 → Int32 → Int32 → Int32 → Option Int64)) (hk42 : ∀ (x1 : Int32) (x2 : Int32) (x4 : Int32) (x5 : Int32), zx_X B zm_Ref_pathOf (zx_QM B (fun r => ((some (Value.long r) : Option Value), h))) (k42 x1 x2 x4 x5) 0 0 42 [(0, zx_rV (zx_BK B) 24 0), (1, .int x1), (2, .int x2), (4, .int x4), (5, .int x5)] [] h) (x1 : Int32) (x2 : Int32) (x4 : Int32) (x5 : Int32) : zx_X B zm_Ref_pathOf (zx_QM B (fun r => ((some (Value.long r) : Option Value), h))) (zs_Ref_pathOf_J108 h k42 x1 x2 x4 x5) 0 0 108 [(0, zx_rV (zx_BK B) 24 0), (1, .int x1), (2, .int x2), (4, .int x4), (5, .int x5)] [] h := by
  unfold zs_Ref_pathOf_J108
  refine zx_iconst E (0 : Int32) dd_Ref_pathOf_108 (by decide) ?_
  exact zj_Ref_pathOf_109 E h k42 hk42 x1 x2 x4 x5 false
set_option maxHeartbeats 4000000 in
set_option maxRecDepth 20000 in
theorem zj_Ref_pathOf_162 {B : zx_B} (E : zx_E B zm_Ref_pathOf) (h : zx_H)  (x1 : Int32) (x2 : Int32) : zx_X B zm_Ref_pathOf (zx_QM B (fun r => ((some (Value.long r) : Option Value), h))) (zs_Ref_pathOf_J162 h  x1 x2) 0 0 162 [(0, zx_rV (zx_BK B) 24 0), (1, .int x1), (2, .int x2)] [] h := by
  unfold zs_Ref_pathOf_J162
  refine zx_aload_n E 0 dd_Ref_pathOf_162 rfl rfl ?_
  refine zx_iload_n E 1 dd_Ref_pathOf_163 rfl rfl ?_
  refine zx_iload_n E 2 dd_Ref_pathOf_164 rfl rfl ?_
  refine zx_callV_l (T := zx_TRef) E [.int x1, .int x2] (fun rZ eZ => zt_Ref_byName _ _ x1 x2 h _ eZ) zg_24 Nat.zero_lt_one rfl zc_Ref_162 ⟨by decide, by decide⟩ (Nat.zero_le _) (Nat.zero_le _) rfl rfl (Nat.le_of_ble_eq_true rfl) dd_Ref_pathOf_165 (fun r1 => ?_)
  exact zx_lret E rfl rfl dd_Ref_pathOf_168
set_option maxHeartbeats 4000000 in
set_option maxRecDepth 20000 in
theorem zb_Ref_pathOf_42 {B : zx_B} (E : zx_E B zm_Ref_pathOf) (h : zx_H)  (k42 : (Int32 → Int32 → Int32 → Int32 → Option Int64)) (hk42 : ∀ (x1 : Int32) (x2 : Int32) (x4 : Int32) (x5 : Int32), zx_X B zm_Ref_pathOf (zx_QM B (fun r => ((some (Value.long r) : Option Value), h))) (k42 x1 x2 x4 x5) 0 0 42 [(0, zx_rV (zx_BK B) 24 0), (1, .int x1), (2, .int x2), (4, .int x4), (5, .int x5)] [] h) (x1 : Int32) (x2 : Int32) (x4 : Int32) (x5 : Int32) : zx_X B zm_Ref_pathOf (zx_QM B (fun r => ((some (Value.long r) : Option Value), h))) (zs_Ref_pathOf_L42_body h  k42 x1 x2 x4 x5) 0 0 42 [(0, zx_rV (zx_BK B) 24 0), (1, .int x1), (2, .int x2), (4, .int x4), (5, .int x5)] [] h := by
  unfold zs_Ref_pathOf_L42_body
  refine zx_iload E 3 dd_Ref_pathOf_42 rfl ?_
  refine zx_if_lt E 162 dd_Ref_pathOf_44 rfl ?_ ?_
  rotate_left
  · refine zx_sub [0, 1, 2] rfl ?_
    exact zj_Ref_pathOf_162 E h x1 x2
  refine zx_iload E 4 dd_Ref_pathOf_47 rfl ?_
  refine zx_bipush E (24 : Int32) dd_Ref_pathOf_49 (by decide) ?_
  refine zx_iload E 3 dd_Ref_pathOf_51 rfl ?_
  refine zx_imul E dd_Ref_pathOf_53 ?_
  refine zx_aload_n E 0 dd_Ref_pathOf_54 rfl rfl ?_
  refine zx_getR E 32 0 zd_Ref_ruleCount zg_24 Nat.zero_lt_one (zr_Ref_ruleCount _) zw_1118 dd_Ref_pathOf_55 ?_
  refine zx_iload E 3 dd_Ref_pathOf_58 rfl ?_
  refine zx_iald E zg_32 Nat.zero_lt_one dd_Ref_pathOf_60 ?_
  refine zx_iadd E dd_Ref_pathOf_61 ?_
  refine zx_icmp_ge E 162 dd_Ref_pathOf_62 rfl ?_ ?_
  rotate_left
  · refine zx_sub [0, 1, 2] rfl ?_
    exact zj_Ref_pathOf_162 E h x1 x2
  refine zx_aload_n E 0 dd_Ref_pathOf_65 rfl rfl ?_
  refine zx_getR E 33 0 zd_Ref_kinds zg_24 Nat.zero_lt_one (zr_Ref_kinds _) zw_1119 dd_Ref_pathOf_66 ?_
  refine zx_iload E 4 dd_Ref_pathOf_69 rfl ?_
  refine zx_iald E zg_33 Nat.zero_lt_one dd_Ref_pathOf_71 ?_
  refine zx_if_ne E 108 dd_Ref_pathOf_72 rfl ?_ ?_
  rotate_left
  · exact zj_Ref_pathOf_108 E h k42 hk42 x1 x2 x4 x5
  refine zx_aload_n E 0 dd_Ref_pathOf_75 rfl rfl ?_
  refine zx_getR E 35 0 zd_Ref_whats zg_24 Nat.zero_lt_one (zr_Ref_whats _) zw_1121 dd_Ref_pathOf_76 ?_
  refine zx_iload E 4 dd_Ref_pathOf_79 rfl ?_
  refine zx_lald E zg_35 Nat.zero_lt_one dd_Ref_pathOf_81 ?_
  refine zx_iconst E (0 : Int32) dd_Ref_pathOf_82 (by decide) ?_
  refine zx_callS_i E [.long (h.2 35 0 x5.toNatClampNeg), .int (0 : Int32)] (fun rZ eZ => zt_Ref_nameOf _ _ (h.2 35 0 x5.toNatClampNeg) (0 : Int32) h _ eZ) zc_Ref_158 ⟨by decide, by decide⟩ (Nat.zero_le _) (Nat.zero_le _) rfl rfl (Nat.le_of_ble_eq_true rfl) dd_Ref_pathOf_83 (fun r1 => ?_)
  refine zx_iload_n E 2 dd_Ref_pathOf_86 rfl rfl ?_
  refine zx_icmp_ne E 108 dd_Ref_pathOf_87 rfl ?_ ?_
  rotate_left
  · exact zj_Ref_pathOf_108 E h k42 hk42 x1 x2 x4 x5
  refine zx_aload_n E 0 dd_Ref_pathOf_90 rfl rfl ?_
  refine zx_getR E 35 0 zd_Ref_whats zg_24 Nat.zero_lt_one (zr_Ref_whats _) zw_1121 dd_Ref_pathOf_91 ?_
  refine zx_iload E 4 dd_Ref_pathOf_94 rfl ?_
  refine zx_lald E zg_35 Nat.zero_lt_one dd_Ref_pathOf_96 ?_
  refine zx_iconst E (1 : Int32) dd_Ref_pathOf_97 (by decide) ?_
  refine zx_callS_i E [.long (h.2 35 0 x5.toNatClampNeg), .int (1 : Int32)] (fun rZ eZ => zt_Ref_nameOf _ _ (h.2 35 0 x5.toNatClampNeg) (1 : Int32) h _ eZ) zc_Ref_158 ⟨by decide, by decide⟩ (Nat.zero_le _) (Nat.zero_le _) rfl rfl (Nat.le_of_ble_eq_true rfl) dd_Ref_pathOf_98 (fun r2 => ?_)
  refine zx_if_ge E 108 dd_Ref_pathOf_101 rfl ?_ ?_
  rotate_left
  · exact zj_Ref_pathOf_108 E h k42 hk42 x1 x2 x4 x5
  refine zx_iconst E (1 : Int32) dd_Ref_pathOf_104 (by decide) ?_
  refine zx_goto E 109 dd_Ref_pathOf_105 rfl ?_
  exact zj_Ref_pathOf_109 E h k42 hk42 x1 x2 x4 x5 true
theorem zj_Ref_pathOf_42 {B : zx_B} (E : zx_E B zm_Ref_pathOf) (h : zx_H)  : ∀ (x1 : Int32) (x2 : Int32) (x4 : Int32) (x5 : Int32), zx_X B zm_Ref_pathOf (zx_QM B (fun r => ((some (Value.long r) : Option Value), h))) (zs_Ref_pathOf_L42 h  x1 x2 x4 x5) 0 0 42 [(0, zx_rV (zx_BK B) 24 0), (1, .int x1), (2, .int x2), (4, .int x4), (5, .int x5)] [] h := by
  unfold zs_Ref_pathOf_L42
  generalize zx_fuel = n
  induction n with
  | zero => intros; exact zx_non
  | succ n ih => intro x1 x2 x4 x5; exact zb_Ref_pathOf_42 E h  _ ih x1 x2 x4 x5
set_option maxHeartbeats 4000000 in
set_option maxRecDepth 20000 in
theorem zj_Ref_pathOf_39 {B : zx_B} (E : zx_E B zm_Ref_pathOf) (h : zx_H)  (x1 : Int32) (x2 : Int32) (x4 : Int32) (s0 : Int32) (s1 : Int32) : zx_X B zm_Ref_pathOf (zx_QM B (fun r => ((some (Value.long r) : Option Value), h))) (zs_Ref_pathOf_J39 h  x1 x2 x4 s0 s1) 0 0 39 [(0, zx_rV (zx_BK B) 24 0), (1, .int x1), (2, .int x2), (4, .int x4)] [.int s1, .int s0] h := by
  unfold zs_Ref_pathOf_J39
  refine zx_imul E dd_Ref_pathOf_39 ?_
  refine zx_leti (fun y1 => ?_)
  refine zx_istore E (lv1 := [(5, .int y1), (0, zx_rV (zx_BK B) 24 0), (1, .int x1), (2, .int x2), (4, .int x4)]) dd_Ref_pathOf_40 (by decide) rfl ?_
  refine zx_sub [1, 2, 3, 4, 0] rfl ?_
  exact zj_Ref_pathOf_42 E h x1 x2 x4 y1
set_option maxHeartbeats 4000000 in
set_option maxRecDepth 20000 in
theorem zt_Ref_pathOf (l : Launch) (K : zx_K) (a1 : Int32) (a2 : Int32) (h : zx_H) (r : Int64) (hf : zs_Ref_pathOf a1 a2 h = some r) : zx_MR l zm_Ref_pathOf zy_Ref_pathOf K [zx_rV K 24 0, .int a1, .int a2] h (some (.long r)) h := by
  refine zx_ofM (M := zm_Ref_pathOf) (y := zy_Ref_pathOf) (r := r) (as := [zx_rV K 24 0, .int a1, .int a2]) (ρ := (fun r => ((some (Value.long r) : Option Value), h))) (by decide) rfl hf (Nat.le_of_ble_eq_true rfl) ?_
  intro B hl hK E
  subst hK
  subst hl
  show zx_X B zm_Ref_pathOf _ _ 0 0 0 [(0, zx_rV (zx_BK B) 24 0), (1, .int a1), (2, .int a2)] [] h
  unfold zs_Ref_pathOf
  refine zx_aload_n E 0 dd_Ref_pathOf_0 rfl rfl ?_
  refine zx_iload_n E 1 dd_Ref_pathOf_1 rfl rfl ?_
  refine zx_iconst E (0 : Int32) dd_Ref_pathOf_2 (by decide) ?_
  refine zx_iload_n E 2 dd_Ref_pathOf_3 rfl rfl ?_
  refine zx_callV_i (T := zx_TRef) E [.int a1, .int (0 : Int32), .int a2] (fun rZ eZ => zt_Ref_firstRule _ _ a1 (0 : Int32) a2 h _ eZ) zg_24 Nat.zero_lt_one rfl zc_Ref_151 ⟨by decide, by decide⟩ (Nat.zero_le _) (Nat.zero_le _) rfl rfl (Nat.le_of_ble_eq_true rfl) dd_Ref_pathOf_4 (fun r1 => ?_)
  refine zx_istore_n E (lv1 := [(3, .int r1), (0, zx_rV (zx_BK B) 24 0), (1, .int a1), (2, .int a2)]) dd_Ref_pathOf_7 rfl (by decide) rfl ?_
  refine zx_iload_n E 0 dd_Ref_pathOf_8 rfl rfl ?_
  refine zx_if_lt E 19 dd_Ref_pathOf_9 rfl ?_ ?_
  · refine zx_aload_n E 1 dd_Ref_pathOf_12 rfl rfl ?_
    refine zx_getR E 35 0 zd_Ref_whats zg_24 Nat.zero_lt_one (zr_Ref_whats _) zw_1121 dd_Ref_pathOf_13 ?_
    refine zx_iload_n E 0 dd_Ref_pathOf_16 rfl rfl ?_
    refine zx_lald E zg_35 Nat.zero_lt_one dd_Ref_pathOf_17 ?_
    exact zx_lret E rfl rfl dd_Ref_pathOf_18
  refine zx_aload_n E 1 dd_Ref_pathOf_19 rfl rfl ?_
  refine zx_iload_n E 2 dd_Ref_pathOf_20 rfl rfl ?_
  refine zx_callV_i (T := zx_TRef) E [.int a1] (fun rZ eZ => zt_Ref_inverseOf _ _ a1 h _ eZ) zg_24 Nat.zero_lt_one rfl zc_Ref_155 ⟨by decide, by decide⟩ (Nat.zero_le _) (Nat.zero_le _) rfl rfl (Nat.le_of_ble_eq_true rfl) dd_Ref_pathOf_21 (fun r2 => ?_)
  refine zx_istore E (lv1 := [(4, .int r2), (3, .int r1), (0, zx_rV (zx_BK B) 24 0), (1, .int a1), (2, .int a2)]) dd_Ref_pathOf_24 (by decide) rfl ?_
  refine zx_bipush E (24 : Int32) dd_Ref_pathOf_26 (by decide) ?_
  refine zx_iload E 0 dd_Ref_pathOf_28 rfl ?_
  refine zx_if_ge E 37 dd_Ref_pathOf_30 rfl ?_ ?_
  rotate_left
  · refine zx_iload E 0 dd_Ref_pathOf_37 rfl ?_
    refine zx_sub [2, 3, 4, 0] rfl ?_
    exact zj_Ref_pathOf_39 E h a1 a2 r2 (24 : Int32) r2
  refine zx_iconst E (0 : Int32) dd_Ref_pathOf_33 (by decide) ?_
  refine zx_goto E 39 dd_Ref_pathOf_34 rfl ?_
  refine zx_sub [2, 3, 4, 0] rfl ?_
  exact zj_Ref_pathOf_39 E h a1 a2 r2 (24 : Int32) (0 : Int32)
set_option maxHeartbeats 4000000 in
set_option maxRecDepth 20000 in
theorem zj_Ref_endOf_53 {B : zx_B} (E : zx_E B zm_Ref_endOf) (h : zx_H) (k25 : (Int64 → Int32 → Int32 → Int32 → Option Int32)) (hk25 : ∀ (x2 : Int64) (x4 : Int32) (x5 : Int32) (x6 : Int32), zx_X B zm_Ref_endOf (zx_QM B (fun r => ((some (Value.int r) : Option Value), h))) (k25 x2 x4 x5 x6) 0 0 25 [(0, zx_rV (zx_BK B) 24 0), (2, .long x2), (4, .int x4), (5, .int x5), (6, .int x6)] [] h) (x2 : Int64) (x4 : Int32) (x5 : Int32) (s0 : Int32) : zx_X B zm_Ref_endOf (zx_QM B (fun r => ((some (Value.int r) : Option Value), h))) (zs_Ref_endOf_J53 h k25 x2 x4 x5 s0) 0 0 53 [(0, zx_rV (zx_BK B) 24 0), (2, .long x2), (4, .int x4), (5, .int x5)] [.int s0] h := by
  unfold zs_Ref_endOf_J53
  refine zx_istore E (lv1 := [(7, .int s0), (0, zx_rV (zx_BK B) 24 0), (2, .long x2), (4, .int x4), (5, .int x5)]) dd_Ref_endOf_53 (by decide) rfl ?_
  refine zx_iload E 0 dd_Ref_endOf_55 rfl ?_
  refine zx_if_ge E 62 dd_Ref_endOf_57 rfl ?_ ?_
  · refine zx_iconst E (-1 : Int32) dd_Ref_endOf_60 (by decide) ?_
    exact zx_iret E rfl rfl dd_Ref_endOf_61
  refine zx_aload_n E 1 dd_Ref_endOf_62 rfl rfl ?_
  refine zx_getR E 28 0 zd_Ref_propertyTypes zg_24 Nat.zero_lt_one (zr_Ref_propertyTypes _) zw_1113 dd_Ref_endOf_63 ?_
  refine zx_bipush E (8 : Int32) dd_Ref_endOf_66 (by decide) ?_
  refine zx_iload E 3 dd_Ref_endOf_68 rfl ?_
  refine zx_imul E dd_Ref_endOf_70 ?_
  refine zx_iload E 0 dd_Ref_endOf_71 rfl ?_
  refine zx_iadd E dd_Ref_endOf_73 ?_
  refine zx_iald E zg_28 Nat.zero_lt_one dd_Ref_endOf_74 ?_
  refine zx_leti (fun y1 => ?_)
  refine zx_istore E (lv1 := [(4, .int y1), (7, .int s0), (0, zx_rV (zx_BK B) 24 0), (2, .long x2), (5, .int x5)]) dd_Ref_endOf_75 (by decide) rfl ?_
  refine zx_iinc E 4 (x5 + (1 : Int32)) (lv1 := [(5, .int (x5 + (1 : Int32))), (4, .int y1), (7, .int s0), (0, zx_rV (zx_BK B) 24 0), (2, .long x2)]) dd_Ref_endOf_77 rfl rfl (by decide) rfl ?_
  refine zx_lload_n E 4 dd_Ref_endOf_80 rfl rfl ?_
  refine zx_iload E 0 dd_Ref_endOf_81 rfl ?_
  refine zx_callS_i E [.long x2, .int (x5 + (1 : Int32))] (fun rZ eZ => zt_Ref_nameOf _ _ x2 (x5 + (1 : Int32)) h _ eZ) zc_Ref_158 ⟨by decide, by decide⟩ (Nat.zero_le _) (Nat.zero_le _) rfl rfl (Nat.le_of_ble_eq_true rfl) dd_Ref_endOf_83 (fun r3 => ?_)
  refine zx_istore E (lv1 := [(6, .int r3), (5, .int (x5 + (1 : Int32))), (4, .int y1), (7, .int s0), (0, zx_rV (zx_BK B) 24 0), (2, .long x2)]) dd_Ref_endOf_86 (by decide) rfl ?_
  refine zx_goto E 25 dd_Ref_endOf_88 rfl ?_
  refine zx_sub [4, 5, 2, 1, 0] rfl ?_
  exact hk25 x2 y1 (x5 + (1 : Int32)) r3
set_option maxHeartbeats 4000000 in
set_option maxRecDepth 20000 in
theorem zb_Ref_endOf_25 {B : zx_B} (E : zx_E B zm_Ref_endOf) (h : zx_H)  (k25 : (Int64 → Int32 → Int32 → Int32 → Option Int32)) (hk25 : ∀ (x2 : Int64) (x4 : Int32) (x5 : Int32) (x6 : Int32), zx_X B zm_Ref_endOf (zx_QM B (fun r => ((some (Value.int r) : Option Value), h))) (k25 x2 x4 x5 x6) 0 0 25 [(0, zx_rV (zx_BK B) 24 0), (2, .long x2), (4, .int x4), (5, .int x5), (6, .int x6)] [] h) (x2 : Int64) (x4 : Int32) (x5 : Int32) (x6 : Int32) : zx_X B zm_Ref_endOf (zx_QM B (fun r => ((some (Value.int r) : Option Value), h))) (zs_Ref_endOf_L25_body h  k25 x2 x4 x5 x6) 0 0 25 [(0, zx_rV (zx_BK B) 24 0), (2, .long x2), (4, .int x4), (5, .int x5), (6, .int x6)] [] h := by
  unfold zs_Ref_endOf_L25_body
  refine zx_iload E 4 dd_Ref_endOf_25 rfl ?_
  refine zx_if_lt E 91 dd_Ref_endOf_27 rfl ?_ ?_
  rotate_left
  · refine zx_iload E 2 dd_Ref_endOf_91 rfl ?_
    exact zx_iret E rfl rfl dd_Ref_endOf_93
  refine zx_aload_n E 0 dd_Ref_endOf_30 rfl rfl ?_
  refine zx_getR E 25 0 zd_Ref_sort zg_24 Nat.zero_lt_one (zr_Ref_sort _) zw_1110 dd_Ref_endOf_31 ?_
  refine zx_iload E 2 dd_Ref_endOf_34 rfl ?_
  refine zx_iald E zg_25 Nat.zero_lt_one dd_Ref_endOf_36 ?_
  refine zx_iconst E (4 : Int32) dd_Ref_endOf_37 (by decide) ?_
  refine zx_icmp_ne E 52 dd_Ref_endOf_38 rfl ?_ ?_
  rotate_left
  · refine zx_iconst E (-1 : Int32) dd_Ref_endOf_52 (by decide) ?_
    refine zx_sub [0, 1, 2, 3] rfl ?_
    exact zj_Ref_endOf_53 E h k25 hk25 x2 x4 x5 (-1 : Int32)
  refine zx_aload_n E 0 dd_Ref_endOf_41 rfl rfl ?_
  refine zx_iload E 2 dd_Ref_endOf_42 rfl ?_
  refine zx_iload E 4 dd_Ref_endOf_44 rfl ?_
  refine zx_callV_i (T := zx_TRef) E [.int x4, .int x6] (fun rZ eZ => zt_Ref_placeOf _ _ x4 x6 h _ eZ) zg_24 Nat.zero_lt_one rfl zc_Ref_129 ⟨by decide, by decide⟩ (Nat.zero_le _) (Nat.zero_le _) rfl rfl (Nat.le_of_ble_eq_true rfl) dd_Ref_endOf_46 (fun r1 => ?_)
  refine zx_goto E 53 dd_Ref_endOf_49 rfl ?_
  refine zx_sub [0, 1, 2, 3] rfl ?_
  exact zj_Ref_endOf_53 E h k25 hk25 x2 x4 x5 r1
theorem zj_Ref_endOf_25 {B : zx_B} (E : zx_E B zm_Ref_endOf) (h : zx_H)  : ∀ (x2 : Int64) (x4 : Int32) (x5 : Int32) (x6 : Int32), zx_X B zm_Ref_endOf (zx_QM B (fun r => ((some (Value.int r) : Option Value), h))) (zs_Ref_endOf_L25 h  x2 x4 x5 x6) 0 0 25 [(0, zx_rV (zx_BK B) 24 0), (2, .long x2), (4, .int x4), (5, .int x5), (6, .int x6)] [] h := by
  unfold zs_Ref_endOf_L25
  generalize zx_fuel = n
  induction n with
  | zero => intros; exact zx_non
  | succ n ih => intro x2 x4 x5 x6; exact zb_Ref_endOf_25 E h  _ ih x2 x4 x5 x6
set_option maxHeartbeats 4000000 in
set_option maxRecDepth 20000 in
theorem zt_Ref_endOf (l : Launch) (K : zx_K) (a1 : Int32) (a2 : Int64) (h : zx_H) (r : Int32) (hf : zs_Ref_endOf a1 a2 h = some r) : zx_MR l zm_Ref_endOf zy_Ref_endOf K [zx_rV K 24 0, .int a1, .long a2] h (some (.int r)) h := by
  refine zx_ofM (M := zm_Ref_endOf) (y := zy_Ref_endOf) (r := r) (as := [zx_rV K 24 0, .int a1, .long a2]) (ρ := (fun r => ((some (Value.int r) : Option Value), h))) (by decide) rfl hf (Nat.le_of_ble_eq_true rfl) ?_
  intro B hl hK E
  subst hK
  subst hl
  show zx_X B zm_Ref_endOf _ _ 0 0 0 [(0, zx_rV (zx_BK B) 24 0), (1, .int a1), (2, .long a2)] [] h
  unfold zs_Ref_endOf
  refine zx_aload_n E 0 dd_Ref_endOf_0 rfl rfl ?_
  refine zx_getR E 30 0 zd_Ref_methodFrom zg_24 Nat.zero_lt_one (zr_Ref_methodFrom _) zw_1116 dd_Ref_endOf_1 ?_
  refine zx_iload_n E 1 dd_Ref_endOf_4 rfl rfl ?_
  refine zx_iald E zg_30 Nat.zero_lt_one dd_Ref_endOf_5 ?_
  refine zx_leti (fun y1 => ?_)
  refine zx_istore E (lv1 := [(4, .int y1), (0, zx_rV (zx_BK B) 24 0), (1, .int a1), (2, .long a2)]) dd_Ref_endOf_6 (by decide) rfl ?_
  refine zx_iconst E (0 : Int32) dd_Ref_endOf_8 (by decide) ?_
  refine zx_istore E (lv1 := [(5, .int (0 : Int32)), (4, .int y1), (0, zx_rV (zx_BK B) 24 0), (1, .int a1), (2, .long a2)]) dd_Ref_endOf_9 (by decide) rfl ?_
  refine zx_lload_n E 4 dd_Ref_endOf_11 rfl rfl ?_
  refine zx_iconst E (0 : Int32) dd_Ref_endOf_12 (by decide) ?_
  refine zx_callS_i E [.long a2, .int (0 : Int32)] (fun rZ eZ => zt_Ref_nameOf _ _ a2 (0 : Int32) h _ eZ) zc_Ref_158 ⟨by decide, by decide⟩ (Nat.zero_le _) (Nat.zero_le _) rfl rfl (Nat.le_of_ble_eq_true rfl) dd_Ref_endOf_13 (fun r2 => ?_)
  refine zx_istore E (lv1 := [(6, .int r2), (5, .int (0 : Int32)), (4, .int y1), (0, zx_rV (zx_BK B) 24 0), (1, .int a1), (2, .long a2)]) dd_Ref_endOf_16 (by decide) rfl ?_
  refine zx_iload E 0 dd_Ref_endOf_18 rfl ?_
  refine zx_if_ge E 25 dd_Ref_endOf_20 rfl ?_ ?_
  · refine zx_iconst E (-1 : Int32) dd_Ref_endOf_23 (by decide) ?_
    exact zx_iret E rfl rfl dd_Ref_endOf_24
  refine zx_sub [3, 5, 2, 1, 0] rfl ?_
  exact zj_Ref_endOf_25 E h a2 y1 (0 : Int32) r2
set_option maxHeartbeats 4000000 in
set_option maxRecDepth 20000 in
theorem zj_Ref_constantOf_197 {B : zx_B} (E : zx_E B zm_Ref_constantOf) (h : zx_H) (k102 : (Int32 → Int32 → Int32 → Int32 → Bool → Int32 → Option Int32)) (hk102 : ∀ (x1 : Int32) (x4 : Int32) (x5 : Int32) (x7 : Int32) (x8 : Bool) (x9 : Int32), zx_X B zm_Ref_constantOf (zx_QM B (fun r => ((some (Value.int r) : Option Value), h))) (k102 x1 x4 x5 x7 x8 x9) 0 0 102 [(0, zx_rV (zx_BK B) 24 0), (1, .int x1), (4, .int x4), (5, .int x5), (7, .int x7), (8, .int (zx_b x8)), (9, .int x9)] [] h) (x1 : Int32) (x4 : Int32) (x5 : Int32) (x7 : Int32) (x8 : Bool) (x9 : Int32) : zx_X B zm_Ref_constantOf (zx_QM B (fun r => ((some (Value.int r) : Option Value), h))) (zs_Ref_constantOf_J197 h k102 x1 x4 x5 x7 x8 x9) 0 0 197 [(0, zx_rV (zx_BK B) 24 0), (1, .int x1), (4, .int x4), (5, .int x5), (7, .int x7), (8, .int (zx_b x8)), (9, .int x9)] [] h := by
  unfold zs_Ref_constantOf_J197
  refine zx_iinc E 6 (x9 + (1 : Int32)) (lv1 := [(9, .int (x9 + (1 : Int32))), (0, zx_rV (zx_BK B) 24 0), (1, .int x1), (4, .int x4), (5, .int x5), (7, .int x7), (8, .int (zx_b x8))]) dd_Ref_constantOf_197 rfl rfl (by decide) rfl ?_
  refine zx_goto E 102 dd_Ref_constantOf_200 rfl ?_
  refine zx_sub [1, 2, 3, 4, 5, 6, 0] rfl ?_
  exact hk102 x1 x4 x5 x7 x8 (x9 + (1 : Int32))
set_option maxHeartbeats 4000000 in
set_option maxRecDepth 20000 in
theorem zj_Ref_constantOf_160 {B : zx_B} (E : zx_E B zm_Ref_constantOf) (h : zx_H) (k102 : (Int32 → Int32 → Int32 → Int32 → Bool → Int32 → Option Int32)) (hk102 : ∀ (x1 : Int32) (x4 : Int32) (x5 : Int32) (x7 : Int32) (x8 : Bool) (x9 : Int32), zx_X B zm_Ref_constantOf (zx_QM B (fun r => ((some (Value.int r) : Option Value), h))) (k102 x1 x4 x5 x7 x8 x9) 0 0 102 [(0, zx_rV (zx_BK B) 24 0), (1, .int x1), (4, .int x4), (5, .int x5), (7, .int x7), (8, .int (zx_b x8)), (9, .int x9)] [] h) (x1 : Int32) (x4 : Int32) (x5 : Int32) (x7 : Int32) (x9 : Int32) (s0 : Bool) : zx_X B zm_Ref_constantOf (zx_QM B (fun r => ((some (Value.int r) : Option Value), h))) (zs_Ref_constantOf_J160 h k102 x1 x4 x5 x7 x9 s0) 0 0 160 [(0, zx_rV (zx_BK B) 24 0), (1, .int x1), (4, .int x4), (5, .int x5), (7, .int x7), (9, .int x9)] [.int (zx_b s0)] h := by
  unfold zs_Ref_constantOf_J160
  refine zx_istore E (lv1 := [(8, .int (zx_b s0)), (0, zx_rV (zx_BK B) 24 0), (1, .int x1), (4, .int x4), (5, .int x5), (7, .int x7), (9, .int x9)]) dd_Ref_constantOf_160 (by decide) rfl ?_
  refine zx_iload E 0 dd_Ref_constantOf_162 rfl ?_
  refine zx_ifb_eq E (x := s0) 197 dd_Ref_constantOf_164 rfl ?_ ?_
  rotate_left
  · refine zx_sub [1, 2, 3, 4, 5, 0, 6] rfl ?_
    exact zj_Ref_constantOf_197 E h k102 hk102 x1 x4 x5 x7 s0 x9
  refine zx_aload_n E 1 dd_Ref_constantOf_167 rfl rfl ?_
  refine zx_iload E 3 dd_Ref_constantOf_168 rfl ?_
  refine zx_aload_n E 1 dd_Ref_constantOf_170 rfl rfl ?_
  refine zx_getR E 34 0 zd_Ref_targets zg_24 Nat.zero_lt_one (zr_Ref_targets _) zw_1120 dd_Ref_constantOf_171 ?_
  refine zx_iload E 6 dd_Ref_constantOf_174 rfl ?_
  refine zx_iald E zg_34 Nat.zero_lt_one dd_Ref_constantOf_176 ?_
  refine zx_callV_i (T := zx_TRef) E [.int x4, .int (h.1 34 0 x9.toNatClampNeg)] (fun rZ eZ => zt_Ref_placeOf _ _ x4 (h.1 34 0 x9.toNatClampNeg) h _ eZ) zg_24 Nat.zero_lt_one rfl zc_Ref_129 ⟨by decide, by decide⟩ (Nat.zero_le _) (Nat.zero_le _) rfl rfl (Nat.le_of_ble_eq_true rfl) dd_Ref_constantOf_177 (fun r1 => ?_)
  refine zx_if_lt E 197 dd_Ref_constantOf_180 rfl ?_ ?_
  rotate_left
  · refine zx_sub [1, 2, 3, 4, 5, 0, 6] rfl ?_
    exact zj_Ref_constantOf_197 E h k102 hk102 x1 x4 x5 x7 s0 x9
  refine zx_aload_n E 1 dd_Ref_constantOf_183 rfl rfl ?_
  refine zx_iload E 3 dd_Ref_constantOf_184 rfl ?_
  refine zx_aload_n E 1 dd_Ref_constantOf_186 rfl rfl ?_
  refine zx_getR E 34 0 zd_Ref_targets zg_24 Nat.zero_lt_one (zr_Ref_targets _) zw_1120 dd_Ref_constantOf_187 ?_
  refine zx_iload E 6 dd_Ref_constantOf_190 rfl ?_
  refine zx_iald E zg_34 Nat.zero_lt_one dd_Ref_constantOf_192 ?_
  refine zx_callV_i (T := zx_TRef) E [.int x4, .int (h.1 34 0 x9.toNatClampNeg)] (fun rZ eZ => zt_Ref_placeOf _ _ x4 (h.1 34 0 x9.toNatClampNeg) h _ eZ) zg_24 Nat.zero_lt_one rfl zc_Ref_129 ⟨by decide, by decide⟩ (Nat.zero_le _) (Nat.zero_le _) rfl rfl (Nat.le_of_ble_eq_true rfl) dd_Ref_constantOf_193 (fun r2 => ?_)
  exact zx_iret E rfl rfl dd_Ref_constantOf_196
set_option maxHeartbeats 4000000 in
set_option maxRecDepth 20000 in
theorem zj_Ref_constantOf_159 {B : zx_B} (E : zx_E B zm_Ref_constantOf) (h : zx_H) (k102 : (Int32 → Int32 → Int32 → Int32 → Bool → Int32 → Option Int32)) (hk102 : ∀ (x1 : Int32) (x4 : Int32) (x5 : Int32) (x7 : Int32) (x8 : Bool) (x9 : Int32), zx_X B zm_Ref_constantOf (zx_QM B (fun r => ((some (Value.int r) : Option Value), h))) (k102 x1 x4 x5 x7 x8 x9) 0 0 102 [(0, zx_rV (zx_BK B) 24 0), (1, .int x1), (4, .int x4), (5, .int x5), (7, .int x7), (8, .int (zx_b x8)), (9, .int x9)] [] h) (x1 : Int32) (x4 : Int32) (x5 : Int32) (x7 : Int32) (x9 : Int32) : zx_X B zm_Ref_constantOf (zx_QM B (fun r => ((some (Value.int r) : Option Value), h))) (zs_Ref_constantOf_J159 h k102 x1 x4 x5 x7 x9) 0 0 159 [(0, zx_rV (zx_BK B) 24 0), (1, .int x1), (4, .int x4), (5, .int x5), (7, .int x7), (9, .int x9)] [] h := by
  unfold zs_Ref_constantOf_J159
  refine zx_iconst E (0 : Int32) dd_Ref_constantOf_159 (by decide) ?_
  exact zj_Ref_constantOf_160 E h k102 hk102 x1 x4 x5 x7 x9 false
set_option maxHeartbeats 4000000 in
set_option maxRecDepth 20000 in
theorem zj_Ref_constantOf_203 {B : zx_B} (E : zx_E B zm_Ref_constantOf) (h : zx_H)  (x1 : Int32) (x4 : Int32) (x5 : Int32) : zx_X B zm_Ref_constantOf (zx_QM B (fun r => ((some (Value.int r) : Option Value), h))) (zs_Ref_constantOf_J203 h  x1 x4 x5) 0 0 203 [(0, zx_rV (zx_BK B) 24 0), (1, .int x1), (4, .int x4), (5, .int x5)] [] h := by
  unfold zs_Ref_constantOf_J203
  refine zx_aload_n E 0 dd_Ref_constantOf_203 rfl rfl ?_
  refine zx_iload E 2 dd_Ref_constantOf_204 rfl ?_
  refine zx_iload E 3 dd_Ref_constantOf_206 rfl ?_
  refine zx_callV_i (T := zx_TRef) E [.int x4, .int x5] (fun rZ eZ => zt_Ref_placeOf _ _ x4 x5 h _ eZ) zg_24 Nat.zero_lt_one rfl zc_Ref_129 ⟨by decide, by decide⟩ (Nat.zero_le _) (Nat.zero_le _) rfl rfl (Nat.le_of_ble_eq_true rfl) dd_Ref_constantOf_208 (fun r1 => ?_)
  refine zx_if_lt E 223 dd_Ref_constantOf_211 rfl ?_ ?_
  · refine zx_aload_n E 0 dd_Ref_constantOf_214 rfl rfl ?_
    refine zx_iload E 2 dd_Ref_constantOf_215 rfl ?_
    refine zx_iload E 3 dd_Ref_constantOf_217 rfl ?_
    refine zx_callV_i (T := zx_TRef) E [.int x4, .int x5] (fun rZ eZ => zt_Ref_placeOf _ _ x4 x5 h _ eZ) zg_24 Nat.zero_lt_one rfl zc_Ref_129 ⟨by decide, by decide⟩ (Nat.zero_le _) (Nat.zero_le _) rfl rfl (Nat.le_of_ble_eq_true rfl) dd_Ref_constantOf_219 (fun r2 => ?_)
    exact zx_iret E rfl rfl dd_Ref_constantOf_222
  refine zx_aload_n E 0 dd_Ref_constantOf_223 rfl rfl ?_
  refine zx_iload_n E 1 dd_Ref_constantOf_224 rfl rfl ?_
  refine zx_bipush E (6 : Int32) dd_Ref_constantOf_225 (by decide) ?_
  refine zx_callV_i (T := zx_TRef) E [.int x1, .int (6 : Int32)] (fun rZ eZ => zt_Ref_latest _ _ x1 (6 : Int32) h _ eZ) zg_24 Nat.zero_lt_one rfl zc_Ref_148 ⟨by decide, by decide⟩ (Nat.zero_le _) (Nat.zero_le _) rfl rfl (Nat.le_of_ble_eq_true rfl) dd_Ref_constantOf_227 (fun r3 => ?_)
  refine zx_istore E (lv1 := [(9, .int r3), (0, zx_rV (zx_BK B) 24 0), (1, .int x1), (4, .int x4), (5, .int x5)]) dd_Ref_constantOf_230 (by decide) rfl ?_
  refine zx_iload E 0 dd_Ref_constantOf_232 rfl ?_
  refine zx_if_ge E 242 dd_Ref_constantOf_234 rfl ?_ ?_
  · refine zx_bipush E (-3 : Int32) dd_Ref_constantOf_237 (by decide) ?_
    refine zx_goto E 293 dd_Ref_constantOf_239 rfl ?_
    exact zx_iret E rfl rfl dd_Ref_constantOf_293
  refine zx_aload_n E 1 dd_Ref_constantOf_242 rfl rfl ?_
  refine zx_getR E 35 0 zd_Ref_whats zg_24 Nat.zero_lt_one (zr_Ref_whats _) zw_1121 dd_Ref_constantOf_243 ?_
  refine zx_iload E 0 dd_Ref_constantOf_246 rfl ?_
  refine zx_lald E zg_35 Nat.zero_lt_one dd_Ref_constantOf_248 ?_
  refine zx_ldc2 E (-1 : Int64) zw_1322 dd_Ref_constantOf_249 ?_
  refine zx_lcmp_ne E 260 dd_Ref_constantOf_252 dd_Ref_constantOf_253 rfl ?_ ?_
  · refine zx_iconst E (-1 : Int32) dd_Ref_constantOf_256 (by decide) ?_
    refine zx_goto E 293 dd_Ref_constantOf_257 rfl ?_
    exact zx_iret E rfl rfl dd_Ref_constantOf_293
  refine zx_aload_n E 1 dd_Ref_constantOf_260 rfl rfl ?_
  refine zx_getR E 35 0 zd_Ref_whats zg_24 Nat.zero_lt_one (zr_Ref_whats _) zw_1121 dd_Ref_constantOf_261 ?_
  refine zx_iload E 0 dd_Ref_constantOf_264 rfl ?_
  refine zx_lald E zg_35 Nat.zero_lt_one dd_Ref_constantOf_266 ?_
  refine zx_ldc2 E (-2 : Int64) zw_1323 dd_Ref_constantOf_267 ?_
  refine zx_lcmp_ne E 279 dd_Ref_constantOf_270 dd_Ref_constantOf_271 rfl ?_ ?_
  · refine zx_bipush E (-2 : Int32) dd_Ref_constantOf_274 (by decide) ?_
    refine zx_goto E 293 dd_Ref_constantOf_276 rfl ?_
    exact zx_iret E rfl rfl dd_Ref_constantOf_293
  refine zx_aload_n E 1 dd_Ref_constantOf_279 rfl rfl ?_
  refine zx_iload E 3 dd_Ref_constantOf_280 rfl ?_
  refine zx_aload_n E 1 dd_Ref_constantOf_282 rfl rfl ?_
  refine zx_getR E 35 0 zd_Ref_whats zg_24 Nat.zero_lt_one (zr_Ref_whats _) zw_1121 dd_Ref_constantOf_283 ?_
  refine zx_iload E 0 dd_Ref_constantOf_286 rfl ?_
  refine zx_lald E zg_35 Nat.zero_lt_one dd_Ref_constantOf_288 ?_
  refine zx_l2i E dd_Ref_constantOf_289 ?_
  refine zx_callV_i (T := zx_TRef) E [.int x4, .int ((h.2 35 0 r3.toNatClampNeg).toInt32)] (fun rZ eZ => zt_Ref_placeOf _ _ x4 ((h.2 35 0 r3.toNatClampNeg).toInt32) h _ eZ) zg_24 Nat.zero_lt_one rfl zc_Ref_129 ⟨by decide, by decide⟩ (Nat.zero_le _) (Nat.zero_le _) rfl rfl (Nat.le_of_ble_eq_true rfl) dd_Ref_constantOf_290 (fun r4 => ?_)
  exact zx_iret E rfl rfl dd_Ref_constantOf_293
set_option maxHeartbeats 4000000 in
set_option maxRecDepth 20000 in
theorem zb_Ref_constantOf_102 {B : zx_B} (E : zx_E B zm_Ref_constantOf) (h : zx_H)  (k102 : (Int32 → Int32 → Int32 → Int32 → Bool → Int32 → Option Int32)) (hk102 : ∀ (x1 : Int32) (x4 : Int32) (x5 : Int32) (x7 : Int32) (x8 : Bool) (x9 : Int32), zx_X B zm_Ref_constantOf (zx_QM B (fun r => ((some (Value.int r) : Option Value), h))) (k102 x1 x4 x5 x7 x8 x9) 0 0 102 [(0, zx_rV (zx_BK B) 24 0), (1, .int x1), (4, .int x4), (5, .int x5), (7, .int x7), (8, .int (zx_b x8)), (9, .int x9)] [] h) (x1 : Int32) (x4 : Int32) (x5 : Int32) (x7 : Int32) (x8 : Bool) (x9 : Int32) : zx_X B zm_Ref_constantOf (zx_QM B (fun r => ((some (Value.int r) : Option Value), h))) (zs_Ref_constantOf_L102_body h  k102 x1 x4 x5 x7 x8 x9) 0 0 102 [(0, zx_rV (zx_BK B) 24 0), (1, .int x1), (4, .int x4), (5, .int x5), (7, .int x7), (8, .int (zx_b x8)), (9, .int x9)] [] h := by
  unfold zs_Ref_constantOf_L102_body
  refine zx_iload E 4 dd_Ref_constantOf_102 rfl ?_
  refine zx_if_lt E 203 dd_Ref_constantOf_104 rfl ?_ ?_
  rotate_left
  · refine zx_sub [0, 1, 2, 3] rfl ?_
    exact zj_Ref_constantOf_203 E h x1 x4 x5
  refine zx_iload E 6 dd_Ref_constantOf_107 rfl ?_
  refine zx_bipush E (24 : Int32) dd_Ref_constantOf_109 (by decide) ?_
  refine zx_iload E 4 dd_Ref_constantOf_111 rfl ?_
  refine zx_imul E dd_Ref_constantOf_113 ?_
  refine zx_aload_n E 0 dd_Ref_constantOf_114 rfl rfl ?_
  refine zx_getR E 32 0 zd_Ref_ruleCount zg_24 Nat.zero_lt_one (zr_Ref_ruleCount _) zw_1118 dd_Ref_constantOf_115 ?_
  refine zx_iload E 4 dd_Ref_constantOf_118 rfl ?_
  refine zx_iald E zg_32 Nat.zero_lt_one dd_Ref_constantOf_120 ?_
  refine zx_iadd E dd_Ref_constantOf_121 ?_
  refine zx_icmp_ge E 203 dd_Ref_constantOf_122 rfl ?_ ?_
  rotate_left
  · refine zx_sub [0, 1, 2, 3] rfl ?_
    exact zj_Ref_constantOf_203 E h x1 x4 x5
  refine zx_iload E 5 dd_Ref_constantOf_125 rfl ?_
  refine zx_ifb_ne E (x := x8) 203 dd_Ref_constantOf_127 rfl ?_ ?_
  rotate_left
  · refine zx_sub [0, 1, 2, 3] rfl ?_
    exact zj_Ref_constantOf_203 E h x1 x4 x5
  refine zx_aload_n E 0 dd_Ref_constantOf_130 rfl rfl ?_
  refine zx_getR E 33 0 zd_Ref_kinds zg_24 Nat.zero_lt_one (zr_Ref_kinds _) zw_1119 dd_Ref_constantOf_131 ?_
  refine zx_iload E 6 dd_Ref_constantOf_134 rfl ?_
  refine zx_iald E zg_33 Nat.zero_lt_one dd_Ref_constantOf_136 ?_
  refine zx_iconst E (5 : Int32) dd_Ref_constantOf_137 (by decide) ?_
  refine zx_icmp_ne E 159 dd_Ref_constantOf_138 rfl ?_ ?_
  rotate_left
  · refine zx_sub [0, 1, 2, 3, 4, 6] rfl ?_
    exact zj_Ref_constantOf_159 E h k102 hk102 x1 x4 x5 x7 x9
  refine zx_aload_n E 0 dd_Ref_constantOf_141 rfl rfl ?_
  refine zx_getR E 35 0 zd_Ref_whats zg_24 Nat.zero_lt_one (zr_Ref_whats _) zw_1121 dd_Ref_constantOf_142 ?_
  refine zx_iload E 6 dd_Ref_constantOf_145 rfl ?_
  refine zx_lald E zg_35 Nat.zero_lt_one dd_Ref_constantOf_147 ?_
  refine zx_iload E 3 dd_Ref_constantOf_148 rfl ?_
  refine zx_i2l E dd_Ref_constantOf_150 ?_
  refine zx_lcmp_ne E 159 dd_Ref_constantOf_151 dd_Ref_constantOf_152 rfl ?_ ?_
  rotate_left
  · refine zx_sub [0, 1, 2, 3, 4, 6] rfl ?_
    exact zj_Ref_constantOf_159 E h k102 hk102 x1 x4 x5 x7 x9
  refine zx_iconst E (1 : Int32) dd_Ref_constantOf_155 (by decide) ?_
  refine zx_goto E 160 dd_Ref_constantOf_156 rfl ?_
  refine zx_sub [0, 1, 2, 3, 4, 6] rfl ?_
  exact zj_Ref_constantOf_160 E h k102 hk102 x1 x4 x5 x7 x9 true
theorem zj_Ref_constantOf_102 {B : zx_B} (E : zx_E B zm_Ref_constantOf) (h : zx_H)  : ∀ (x1 : Int32) (x4 : Int32) (x5 : Int32) (x7 : Int32) (x8 : Bool) (x9 : Int32), zx_X B zm_Ref_constantOf (zx_QM B (fun r => ((some (Value.int r) : Option Value), h))) (zs_Ref_constantOf_L102 h  x1 x4 x5 x7 x8 x9) 0 0 102 [(0, zx_rV (zx_BK B) 24 0), (1, .int x1), (4, .int x4), (5, .int x5), (7, .int x7), (8, .int (zx_b x8)), (9, .int x9)] [] h := by
  unfold zs_Ref_constantOf_L102
  generalize zx_fuel = n
  induction n with
  | zero => intros; exact zx_non
  | succ n ih => intro x1 x4 x5 x7 x8 x9; exact zb_Ref_constantOf_102 E h  _ ih x1 x4 x5 x7 x8 x9
set_option maxHeartbeats 4000000 in
set_option maxRecDepth 20000 in
theorem zj_Ref_constantOf_99 {B : zx_B} (E : zx_E B zm_Ref_constantOf) (h : zx_H)  (x1 : Int32) (x4 : Int32) (x5 : Int32) (x7 : Int32) (x8 : Bool) (s0 : Int32) (s1 : Int32) : zx_X B zm_Ref_constantOf (zx_QM B (fun r => ((some (Value.int r) : Option Value), h))) (zs_Ref_constantOf_J99 h  x1 x4 x5 x7 x8 s0 s1) 0 0 99 [(0, zx_rV (zx_BK B) 24 0), (1, .int x1), (4, .int x4), (5, .int x5), (7, .int x7), (8, .int (zx_b x8))] [.int s1, .int s0] h := by
  unfold zs_Ref_constantOf_J99
  refine zx_imul E dd_Ref_constantOf_99 ?_
  refine zx_leti (fun y1 => ?_)
  refine zx_istore E (lv1 := [(9, .int y1), (0, zx_rV (zx_BK B) 24 0), (1, .int x1), (4, .int x4), (5, .int x5), (7, .int x7), (8, .int (zx_b x8))]) dd_Ref_constantOf_100 (by decide) rfl ?_
  refine zx_sub [1, 2, 3, 4, 5, 6, 0] rfl ?_
  exact zj_Ref_constantOf_102 E h x1 x4 x5 x7 x8 y1
set_option maxHeartbeats 4000000 in
set_option maxRecDepth 20000 in
theorem zt_Ref_constantOf (l : Launch) (K : zx_K) (a1 : Int32) (a2 : Int32) (h : zx_H) (r : Int32) (hf : zs_Ref_constantOf a1 a2 h = some r) : zx_MR l zm_Ref_constantOf zy_Ref_constantOf K [zx_rV K 24 0, .int a1, .int a2] h (some (.int r)) h := by
  refine zx_ofM (M := zm_Ref_constantOf) (y := zy_Ref_constantOf) (r := r) (as := [zx_rV K 24 0, .int a1, .int a2]) (ρ := (fun r => ((some (Value.int r) : Option Value), h))) (by decide) rfl hf (Nat.le_of_ble_eq_true rfl) ?_
  intro B hl hK E
  subst hK
  subst hl
  show zx_X B zm_Ref_constantOf _ _ 0 0 0 [(0, zx_rV (zx_BK B) 24 0), (1, .int a1), (2, .int a2)] [] h
  unfold zs_Ref_constantOf
  refine zx_aload_n E 0 dd_Ref_constantOf_0 rfl rfl ?_
  refine zx_getR E 30 0 zd_Ref_methodFrom zg_24 Nat.zero_lt_one (zr_Ref_methodFrom _) zw_1116 dd_Ref_constantOf_1 ?_
  refine zx_iload_n E 1 dd_Ref_constantOf_4 rfl rfl ?_
  refine zx_iald E zg_30 Nat.zero_lt_one dd_Ref_constantOf_5 ?_
  refine zx_leti (fun y1 => ?_)
  refine zx_istore_n E (lv1 := [(3, .int y1), (0, zx_rV (zx_BK B) 24 0), (1, .int a1), (2, .int a2)]) dd_Ref_constantOf_6 rfl (by decide) rfl ?_
  refine zx_aload_n E 1 dd_Ref_constantOf_7 rfl rfl ?_
  refine zx_getR E 31 0 zd_Ref_methodTo zg_24 Nat.zero_lt_one (zr_Ref_methodTo _) zw_1117 dd_Ref_constantOf_8 ?_
  refine zx_iload_n E 2 dd_Ref_constantOf_11 rfl rfl ?_
  refine zx_iald E zg_31 Nat.zero_lt_one dd_Ref_constantOf_12 ?_
  refine zx_leti (fun y2 => ?_)
  refine zx_istore E (lv1 := [(4, .int y2), (3, .int y1), (0, zx_rV (zx_BK B) 24 0), (1, .int a1), (2, .int a2)]) dd_Ref_constantOf_13 (by decide) rfl ?_
  refine zx_aload_n E 2 dd_Ref_constantOf_15 rfl rfl ?_
  refine zx_getR E 27 0 zd_Ref_names zg_24 Nat.zero_lt_one (zr_Ref_names _) zw_1112 dd_Ref_constantOf_16 ?_
  refine zx_bipush E (8 : Int32) dd_Ref_constantOf_19 (by decide) ?_
  refine zx_iload_n E 1 dd_Ref_constantOf_21 rfl rfl ?_
  refine zx_imul E dd_Ref_constantOf_22 ?_
  refine zx_iload_n E 4 dd_Ref_constantOf_23 rfl rfl ?_
  refine zx_iadd E dd_Ref_constantOf_24 ?_
  refine zx_iald E zg_27 Nat.zero_lt_one dd_Ref_constantOf_25 ?_
  refine zx_leti (fun y3 => ?_)
  refine zx_istore E (lv1 := [(5, .int y3), (4, .int y2), (3, .int y1), (0, zx_rV (zx_BK B) 24 0), (1, .int a1), (2, .int a2)]) dd_Ref_constantOf_26 (by decide) rfl ?_
  refine zx_aload_n E 3 dd_Ref_constantOf_28 rfl rfl ?_
  refine zx_iload_n E 4 dd_Ref_constantOf_29 rfl rfl ?_
  refine zx_iconst E (5 : Int32) dd_Ref_constantOf_30 (by decide) ?_
  refine zx_iload E 0 dd_Ref_constantOf_31 rfl ?_
  refine zx_callV_i (T := zx_TRef) E [.int a1, .int (5 : Int32), .int y3] (fun rZ eZ => zt_Ref_firstRule _ _ a1 (5 : Int32) y3 h _ eZ) zg_24 Nat.zero_lt_one rfl zc_Ref_151 ⟨by decide, by decide⟩ (Nat.zero_le _) (Nat.zero_le _) rfl rfl (Nat.le_of_ble_eq_true rfl) dd_Ref_constantOf_33 (fun r4 => ?_)
  refine zx_istore E (lv1 := [(6, .int r4), (5, .int y3), (4, .int y2), (3, .int y1), (0, zx_rV (zx_BK B) 24 0), (1, .int a1), (2, .int a2)]) dd_Ref_constantOf_36 (by decide) rfl ?_
  refine zx_iload E 0 dd_Ref_constantOf_38 rfl ?_
  refine zx_if_lt E 76 dd_Ref_constantOf_40 rfl ?_ ?_
  rotate_left
  · refine zx_aload_n E 4 dd_Ref_constantOf_76 rfl rfl ?_
    refine zx_iload_n E 5 dd_Ref_constantOf_77 rfl rfl ?_
    refine zx_callV_i (T := zx_TRef) E [.int a1] (fun rZ eZ => zt_Ref_inverseOf _ _ a1 h _ eZ) zg_24 Nat.zero_lt_one rfl zc_Ref_155 ⟨by decide, by decide⟩ (Nat.zero_le _) (Nat.zero_le _) rfl rfl (Nat.le_of_ble_eq_true rfl) dd_Ref_constantOf_78 (fun r6 => ?_)
    refine zx_istore E (lv1 := [(7, .int r6), (6, .int r4), (5, .int y3), (4, .int y2), (3, .int y1), (0, zx_rV (zx_BK B) 24 0), (1, .int a1), (2, .int a2)]) dd_Ref_constantOf_81 (by decide) rfl ?_
    refine zx_iconst E (0 : Int32) dd_Ref_constantOf_83 (by decide) ?_
    refine zx_istore E (lv1 := [(8, .int (0 : Int32)), (7, .int r6), (6, .int r4), (5, .int y3), (4, .int y2), (3, .int y1), (0, zx_rV (zx_BK B) 24 0), (1, .int a1), (2, .int a2)]) dd_Ref_constantOf_84 (by decide) rfl ?_
    refine zx_bipush E (24 : Int32) dd_Ref_constantOf_86 (by decide) ?_
    refine zx_iload E 1 dd_Ref_constantOf_88 rfl ?_
    refine zx_if_ge E 97 dd_Ref_constantOf_90 rfl ?_ ?_
    rotate_left
    · refine zx_iload E 1 dd_Ref_constantOf_97 rfl ?_
      refine zx_sub [6, 7, 4, 3, 1, 0] rfl ?_
      exact zj_Ref_constantOf_99 E h a1 y2 y3 r6 false (24 : Int32) r6
    refine zx_iconst E (0 : Int32) dd_Ref_constantOf_93 (by decide) ?_
    refine zx_goto E 99 dd_Ref_constantOf_94 rfl ?_
    refine zx_sub [6, 7, 4, 3, 1, 0] rfl ?_
    exact zj_Ref_constantOf_99 E h a1 y2 y3 r6 false (24 : Int32) (0 : Int32)
  refine zx_aload_n E 4 dd_Ref_constantOf_43 rfl rfl ?_
  refine zx_getR E 35 0 zd_Ref_whats zg_24 Nat.zero_lt_one (zr_Ref_whats _) zw_1121 dd_Ref_constantOf_44 ?_
  refine zx_iload E 0 dd_Ref_constantOf_47 rfl ?_
  refine zx_lald E zg_35 Nat.zero_lt_one dd_Ref_constantOf_49 ?_
  refine zx_ldc2 E (-1 : Int64) zw_1322 dd_Ref_constantOf_50 ?_
  refine zx_lcmp_ne E 61 dd_Ref_constantOf_53 dd_Ref_constantOf_54 rfl ?_ ?_
  · refine zx_iconst E (-1 : Int32) dd_Ref_constantOf_57 (by decide) ?_
    refine zx_goto E 75 dd_Ref_constantOf_58 rfl ?_
    exact zx_iret E rfl rfl dd_Ref_constantOf_75
  refine zx_aload_n E 4 dd_Ref_constantOf_61 rfl rfl ?_
  refine zx_iload E 2 dd_Ref_constantOf_62 rfl ?_
  refine zx_aload_n E 4 dd_Ref_constantOf_64 rfl rfl ?_
  refine zx_getR E 35 0 zd_Ref_whats zg_24 Nat.zero_lt_one (zr_Ref_whats _) zw_1121 dd_Ref_constantOf_65 ?_
  refine zx_iload E 0 dd_Ref_constantOf_68 rfl ?_
  refine zx_lald E zg_35 Nat.zero_lt_one dd_Ref_constantOf_70 ?_
  refine zx_l2i E dd_Ref_constantOf_71 ?_
  refine zx_callV_i (T := zx_TRef) E [.int y2, .int ((h.2 35 0 r4.toNatClampNeg).toInt32)] (fun rZ eZ => zt_Ref_placeOf _ _ y2 ((h.2 35 0 r4.toNatClampNeg).toInt32) h _ eZ) zg_24 Nat.zero_lt_one rfl zc_Ref_129 ⟨by decide, by decide⟩ (Nat.zero_le _) (Nat.zero_le _) rfl rfl (Nat.le_of_ble_eq_true rfl) dd_Ref_constantOf_72 (fun r5 => ?_)
  exact zx_iret E rfl rfl dd_Ref_constantOf_75
