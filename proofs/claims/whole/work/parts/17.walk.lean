/-! walks (printed by gen.py) -/
set_option maxHeartbeats 4000000 in
set_option maxRecDepth 20000 in
theorem zj_Types_exists_16 {B : zx_B} (E : zx_E B zm_Types_exists) (h : zx_H)   : zx_X B zm_Types_exists (zx_QM B (fun r => ((some (Value.int (zx_b r)) : Option Value), h))) (zs_Types_exists_J16 h  ) 0 0 16 [] [] h := by
  unfold zs_Types_exists_J16
  refine zx_iconst E (0 : Int32) dd_Types_exists_16 (by decide) ?_
  exact zx_zret E false rfl rfl rfl dd_Types_exists_17
set_option maxHeartbeats 4000000 in
set_option maxRecDepth 20000 in
theorem zt_Types_exists (l : Launch) (K : zx_K) (a1 : Int32) (h : zx_H) (r : Bool) (hf : zs_Types_exists a1 h = some r) : zx_MR l zm_Types_exists zy_Types_exists K [zx_rV K 1 0, .int a1] h (some (.int (zx_b r))) h := by
  refine zx_ofM (M := zm_Types_exists) (y := zy_Types_exists) (r := r) (as := [zx_rV K 1 0, .int a1]) (ρ := (fun r => ((some (Value.int (zx_b r)) : Option Value), h))) (by decide) rfl hf (Nat.le_of_ble_eq_true rfl) ?_
  intro B hl hK E
  subst hK
  subst hl
  show zx_X B zm_Types_exists _ _ 0 0 0 [(0, zx_rV (zx_BK B) 1 0), (1, .int a1)] [] h
  unfold zs_Types_exists
  refine zx_iload_n E 1 dd_Types_exists_0 rfl rfl ?_
  refine zx_if_lt E 16 dd_Types_exists_1 rfl ?_ ?_
  rotate_left
  · refine zx_sub [] rfl ?_
    exact zj_Types_exists_16 E h
  refine zx_iload_n E 1 dd_Types_exists_4 rfl rfl ?_
  refine zx_aload_n E 0 dd_Types_exists_5 rfl rfl ?_
  refine zx_getI E zd_Types_size zg_1 Nat.zero_lt_one zw_46 dd_Types_exists_6 ?_
  refine zx_icmp_ge E 16 dd_Types_exists_9 rfl ?_ ?_
  rotate_left
  · refine zx_sub [] rfl ?_
    exact zj_Types_exists_16 E h
  refine zx_iconst E (1 : Int32) dd_Types_exists_12 (by decide) ?_
  refine zx_goto E 17 dd_Types_exists_13 rfl ?_
  exact zx_zret E true rfl rfl rfl dd_Types_exists_17
set_option maxHeartbeats 4000000 in
set_option maxRecDepth 20000 in
theorem zj_Ways_known_36 {B : zx_B} (E : zx_E B zm_Ways_known) (h : zx_H)   : zx_X B zm_Ways_known (zx_QM B (fun r => ((some (Value.int r) : Option Value), h))) (zs_Ways_known_J36 h  ) 0 0 36 [] [] h := by
  unfold zs_Ways_known_J36
  refine zx_iconst E (-1 : Int32) dd_Ways_known_36 (by decide) ?_
  exact zx_iret E rfl rfl dd_Ways_known_37
set_option maxHeartbeats 4000000 in
set_option maxRecDepth 20000 in
theorem zt_Ways_known (l : Launch) (K : zx_K) (a1 : Int32) (a2 : Int32) (h : zx_H) (r : Int32) (hf : zs_Ways_known a1 a2 h = some r) : zx_MR l zm_Ways_known zy_Ways_known K [zx_rV K 14 0, .int a1, .int a2] h (some (.int r)) h := by
  refine zx_ofM (M := zm_Ways_known) (y := zy_Ways_known) (r := r) (as := [zx_rV K 14 0, .int a1, .int a2]) (ρ := (fun r => ((some (Value.int r) : Option Value), h))) (by decide) rfl hf (Nat.le_of_ble_eq_true rfl) ?_
  intro B hl hK E
  subst hK
  subst hl
  show zx_X B zm_Ways_known _ _ 0 0 0 [(0, zx_rV (zx_BK B) 14 0), (1, .int a1), (2, .int a2)] [] h
  unfold zs_Ways_known
  refine zx_aload_n E 0 dd_Ways_known_0 rfl rfl ?_
  refine zx_getR E 1 0 zd_Ways_types zg_14 Nat.zero_lt_one (zr_Ways_types _) zw_255 dd_Ways_known_1 ?_
  refine zx_iload_n E 1 dd_Ways_known_4 rfl rfl ?_
  refine zx_callV_z (T := zx_TTypes) E [.int a1] (fun rZ eZ => zt_Types_exists _ _ a1 h _ eZ) zg_1 Nat.zero_lt_one rfl zc_Ways_23 ⟨by decide, by decide⟩ (Nat.zero_le _) (Nat.zero_le _) rfl rfl (Nat.le_of_ble_eq_true rfl) dd_Ways_known_5 (fun r1 => ?_)
  refine zx_ifb_eq E (x := r1) 36 dd_Ways_known_8 rfl ?_ ?_
  rotate_left
  · refine zx_sub [] rfl ?_
    exact zj_Ways_known_36 E h
  refine zx_aload_n E 0 dd_Ways_known_11 rfl rfl ?_
  refine zx_getR E 1 0 zd_Ways_types zg_14 Nat.zero_lt_one (zr_Ways_types _) zw_255 dd_Ways_known_12 ?_
  refine zx_iload_n E 2 dd_Ways_known_15 rfl rfl ?_
  refine zx_callV_z (T := zx_TTypes) E [.int a2] (fun rZ eZ => zt_Types_exists _ _ a2 h _ eZ) zg_1 Nat.zero_lt_one rfl zc_Ways_23 ⟨by decide, by decide⟩ (Nat.zero_le _) (Nat.zero_le _) rfl rfl (Nat.le_of_ble_eq_true rfl) dd_Ways_known_16 (fun r2 => ?_)
  refine zx_ifb_eq E (x := r2) 36 dd_Ways_known_19 rfl ?_ ?_
  rotate_left
  · refine zx_sub [] rfl ?_
    exact zj_Ways_known_36 E h
  refine zx_aload_n E 0 dd_Ways_known_22 rfl rfl ?_
  refine zx_getR E 15 0 zd_Ways_found zg_14 Nat.zero_lt_one (zr_Ways_found _) zw_257 dd_Ways_known_23 ?_
  refine zx_iload_n E 1 dd_Ways_known_26 rfl rfl ?_
  refine zx_bipush E (40 : Int32) dd_Ways_known_27 (by decide) ?_
  refine zx_imul E dd_Ways_known_29 ?_
  refine zx_iload_n E 2 dd_Ways_known_30 rfl rfl ?_
  refine zx_iadd E dd_Ways_known_31 ?_
  refine zx_iald E zg_15 Nat.zero_lt_one dd_Ways_known_32 ?_
  refine zx_goto E 37 dd_Ways_known_33 rfl ?_
  exact zx_iret E rfl rfl dd_Ways_known_37
set_option maxHeartbeats 4000000 in
set_option maxRecDepth 20000 in
theorem zt_Mapper_beginList (l : Launch) (K : zx_K) (a1 : Int32) (a2 : Int64) (h : zx_H) (r : (Int64 × zx_H)) (hf : zs_Mapper_beginList a1 a2 h = some r) : zx_MR l zm_Mapper_beginList zy_Mapper_beginList K [zx_rV K 17 0, .int a1, .long a2] h (some (.long r.1)) r.2 := by
  refine zx_ofM (M := zm_Mapper_beginList) (y := zy_Mapper_beginList) (r := r) (as := [zx_rV K 17 0, .int a1, .long a2]) (ρ := (fun r => ((some (Value.long r.1) : Option Value), r.2))) (by decide) rfl hf (Nat.le_of_ble_eq_true rfl) ?_
  intro B hl hK E
  subst hK
  subst hl
  show zx_X B zm_Mapper_beginList _ _ 0 0 0 [(0, zx_rV (zx_BK B) 17 0), (1, .int a1), (2, .long a2)] [] h
  unfold zs_Mapper_beginList
  refine zx_lload_n E 2 dd_Mapper_beginList_0 rfl rfl ?_
  refine zx_ldc2 E (-1 : Int64) zw_847 dd_Mapper_beginList_1 ?_
  refine zx_lcmp_ne E 12 dd_Mapper_beginList_4 dd_Mapper_beginList_5 rfl ?_ ?_
  · refine zx_ldc2 E (-1 : Int64) zw_847 dd_Mapper_beginList_8 ?_
    exact zx_lret E rfl rfl dd_Mapper_beginList_11
  refine zx_aload_n E 0 dd_Mapper_beginList_12 rfl rfl ?_
  refine zx_getR E 23 0 zd_Mapper_converter zg_17 Nat.zero_lt_one (zr_Mapper_converter _) zw_325 dd_Mapper_beginList_13 ?_
  refine zx_iload_n E 1 dd_Mapper_beginList_16 rfl rfl ?_
  refine zx_callV_iw (T := zx_TConverter) E [.int a1] (fun rZ eZ => zt_Converter_created _ _ a1 h _ eZ) zg_23 Nat.zero_lt_one rfl zc_Mapper_183 ⟨by decide, by decide⟩ (Nat.zero_le _) (Nat.zero_le _) rfl rfl (Nat.le_of_ble_eq_true rfl) dd_Mapper_beginList_17 (fun r1 => ?_)
  refine zx_istore E (lv1 := [(4, .int r1.1), (0, zx_rV (zx_BK B) 17 0), (1, .int a1), (2, .long a2)]) dd_Mapper_beginList_20 (by decide) rfl ?_
  refine zx_iload E 0 dd_Mapper_beginList_22 rfl ?_
  refine zx_iconst E (-1 : Int32) dd_Mapper_beginList_24 (by decide) ?_
  refine zx_icmp_eq E 37 dd_Mapper_beginList_25 rfl ?_ ?_
  rotate_left
  · refine zx_iload E 0 dd_Mapper_beginList_37 rfl ?_
    refine zx_i2l E dd_Mapper_beginList_39 ?_
    exact zx_lret E rfl rfl dd_Mapper_beginList_40
  refine zx_aload_n E 1 dd_Mapper_beginList_28 rfl rfl ?_
  refine zx_iconst E (-1 : Int32) dd_Mapper_beginList_29 (by decide) ?_
  refine zx_lload_n E 3 dd_Mapper_beginList_30 rfl rfl ?_
  refine zx_l2i E dd_Mapper_beginList_31 ?_
  refine zx_iload E 0 dd_Mapper_beginList_32 rfl ?_
  refine zx_callV_v (T := zx_TMapper) E [.int (-1 : Int32), .int (a2.toInt32), .int r1.1] (fun rZ eZ => zt_Mapper_begin _ _ (-1 : Int32) (a2.toInt32) r1.1 r1.2 _ eZ) zg_17 Nat.zero_lt_one rfl zc_Mapper_186 ⟨by decide, by decide⟩ (Nat.zero_le _) (Nat.zero_le _) rfl rfl (Nat.le_of_ble_eq_true rfl) dd_Mapper_beginList_34 (fun r2 => ?_)
  refine zx_iload E 0 dd_Mapper_beginList_37 rfl ?_
  refine zx_i2l E dd_Mapper_beginList_39 ?_
  exact zx_lret E rfl rfl dd_Mapper_beginList_40
set_option maxHeartbeats 4000000 in
set_option maxRecDepth 20000 in
theorem zt_Mapper_become (l : Launch) (K : zx_K) (a1 : Int32) (a2 : Int32) (a3 : Int32) (a4 : Int64) (h : zx_H) (r : (Int64 × zx_H)) (hf : zs_Mapper_become a1 a2 a3 a4 h = some r) : zx_MR l zm_Mapper_become zy_Mapper_become K [zx_rV K 17 0, .int a1, .int a2, .int a3, .long a4] h (some (.long r.1)) r.2 := by
  refine zx_ofM (M := zm_Mapper_become) (y := zy_Mapper_become) (r := r) (as := [zx_rV K 17 0, .int a1, .int a2, .int a3, .long a4]) (ρ := (fun r => ((some (Value.long r.1) : Option Value), r.2))) (by decide) rfl hf (Nat.le_of_ble_eq_true rfl) ?_
  intro B hl hK E
  subst hK
  subst hl
  show zx_X B zm_Mapper_become _ _ 0 0 0 [(0, zx_rV (zx_BK B) 17 0), (1, .int a1), (2, .int a2), (3, .int a3), (4, .long a4)] [] h
  unfold zs_Mapper_become
  refine zx_iload_n E 1 dd_Mapper_become_0 rfl rfl ?_
  refine zx_if_ge E 16 dd_Mapper_become_1 rfl ?_ ?_
  · refine zx_aload_n E 0 dd_Mapper_become_4 rfl rfl ?_
    refine zx_getR E 23 0 zd_Mapper_converter zg_17 Nat.zero_lt_one (zr_Mapper_converter _) zw_325 dd_Mapper_become_5 ?_
    refine zx_iconst E (1 : Int32) dd_Mapper_become_8 (by decide) ?_
    refine zx_putI E zd_Converter_failed zp_Converter_failed zg_23 Nat.zero_lt_one rfl rfl zw_312 dd_Mapper_become_9 ?_
    refine zx_letH (fun h1 => ?_)
    refine zx_ldc2 E (-1 : Int64) zw_847 dd_Mapper_become_12 ?_
    exact zx_lret E rfl rfl dd_Mapper_become_15
  refine zx_iload_n E 1 dd_Mapper_become_16 rfl rfl ?_
  refine zx_bipush E (16 : Int32) dd_Mapper_become_17 (by decide) ?_
  refine zx_iremN E dd_Mapper_become_19 (by decide) ?_
  refine zx_leti (fun y2 => ?_)
  refine zx_istore E (lv1 := [(6, .int y2), (0, zx_rV (zx_BK B) 17 0), (1, .int a1), (2, .int a2), (3, .int a3), (4, .long a4)]) dd_Mapper_become_20 (by decide) rfl ?_
  refine zx_iload_n E 2 dd_Mapper_become_22 rfl rfl ?_
  refine zx_bipush E (16 : Int32) dd_Mapper_become_23 (by decide) ?_
  refine zx_idivN E dd_Mapper_become_25 (by decide) ?_
  refine zx_tsw E [56, 90, 99, 111] 119 dd_Mapper_become_26 (by decide) rfl (zx_keys _ _ [1, 2, 3, 4] rfl (by decide)) rfl (by decide) (by decide) ?_ ⟨?_, ?_, ?_, ?_, trivial⟩
  · refine zx_lload E 5 dd_Mapper_become_119 rfl ?_
    exact zx_lret E rfl rfl dd_Mapper_become_121
  · refine zx_iload E 0 dd_Mapper_become_56 rfl ?_
    refine zx_bipush E (8 : Int32) dd_Mapper_become_58 (by decide) ?_
    refine zx_icmp_ge E 86 dd_Mapper_become_60 rfl ?_ ?_
    rotate_left
    · refine zx_ldc2 E (-1 : Int64) zw_847 dd_Mapper_become_86 ?_
      exact zx_lret E rfl rfl dd_Mapper_become_89
    refine zx_aload_n E 1 dd_Mapper_become_63 rfl rfl ?_
    refine zx_getR E 23 0 zd_Mapper_converter zg_17 Nat.zero_lt_one (zr_Mapper_converter _) zw_325 dd_Mapper_become_64 ?_
    refine zx_aload_n E 1 dd_Mapper_become_67 rfl rfl ?_
    refine zx_getR E 11 0 zd_Mapper_model zg_17 Nat.zero_lt_one (zr_Mapper_model _) zw_322 dd_Mapper_become_68 ?_
    refine zx_getR E 12 0 zd_Model_functions zg_11 Nat.zero_lt_one (zr_Model_functions _) zw_204 dd_Mapper_become_71 ?_
    refine zx_iload E 0 dd_Mapper_become_74 rfl ?_
    refine zx_aaldF E dd_Mapper_become_76 (fun j3 => ?_)
    refine zx_iload_n E 3 dd_Mapper_become_77 rfl rfl ?_
    refine zx_lload E 5 dd_Mapper_become_78 rfl ?_
    refine zx_callV_lw (T := zx_TConverter) E [zx_rV (zx_BK B) 53 j3.val, .int a2, .long a4] (fun rZ eZ => zt_Converter_byFunction _ _ j3 a2 a4 h _ eZ) zg_23 Nat.zero_lt_one rfl zc_Mapper_172 ⟨by decide, by decide⟩ (Nat.zero_le _) (Nat.zero_le _) rfl rfl (Nat.le_of_ble_eq_true rfl) dd_Mapper_become_80 (fun r4 => ?_)
    refine zx_goto E 89 dd_Mapper_become_83 rfl ?_
    exact zx_lret E rfl rfl dd_Mapper_become_89
  · refine zx_aload_n E 1 dd_Mapper_become_90 rfl rfl ?_
    refine zx_iload E 0 dd_Mapper_become_91 rfl ?_
    refine zx_lload E 5 dd_Mapper_become_93 rfl ?_
    refine zx_callV_lw (T := zx_TMapper) E [.int y2, .long a4] (fun rZ eZ => zt_Mapper_byMethod _ _ y2 a4 h _ eZ) zg_17 Nat.zero_lt_one rfl zc_Mapper_66 ⟨by decide, by decide⟩ (Nat.zero_le _) (Nat.zero_le _) rfl rfl (Nat.le_of_ble_eq_true rfl) dd_Mapper_become_95 (fun r5 => ?_)
    exact zx_lret E rfl rfl dd_Mapper_become_98
  · refine zx_aload_n E 1 dd_Mapper_become_99 rfl rfl ?_
    refine zx_getR E 23 0 zd_Mapper_converter zg_17 Nat.zero_lt_one (zr_Mapper_converter _) zw_325 dd_Mapper_become_100 ?_
    refine zx_iload_n E 3 dd_Mapper_become_103 rfl rfl ?_
    refine zx_iload_n E 4 dd_Mapper_become_104 rfl rfl ?_
    refine zx_lload E 5 dd_Mapper_become_105 rfl ?_
    refine zx_callV_lw (T := zx_TConverter) E [.int a2, .int a3, .long a4] (fun rZ eZ => zt_Converter_byTable _ _ a2 a3 a4 h _ eZ) zg_23 Nat.zero_lt_one rfl zc_Mapper_176 ⟨by decide, by decide⟩ (Nat.zero_le _) (Nat.zero_le _) rfl rfl (Nat.le_of_ble_eq_true rfl) dd_Mapper_become_107 (fun r6 => ?_)
    exact zx_lret E rfl rfl dd_Mapper_become_110
  · refine zx_aload_n E 1 dd_Mapper_become_111 rfl rfl ?_
    refine zx_iload_n E 4 dd_Mapper_become_112 rfl rfl ?_
    refine zx_lload E 5 dd_Mapper_become_113 rfl ?_
    refine zx_callV_lw (T := zx_TMapper) E [.int a3, .long a4] (fun rZ eZ => zt_Mapper_beginList _ _ a3 a4 h _ eZ) zg_17 Nat.zero_lt_one rfl zc_Mapper_180 ⟨by decide, by decide⟩ (Nat.zero_le _) (Nat.zero_le _) rfl rfl (Nat.le_of_ble_eq_true rfl) dd_Mapper_become_115 (fun r7 => ?_)
    exact zx_lret E rfl rfl dd_Mapper_become_118
set_option maxHeartbeats 4000000 in
set_option maxRecDepth 20000 in
theorem zt_Mapper_fillList (l : Launch) (K : zx_K) (a1 : Int32) (a2 : Int32) (a3 : Int32) (h : zx_H) (r : zx_H) (hf : zs_Mapper_fillList a1 a2 a3 h = some r) : zx_MR l zm_Mapper_fillList zy_Mapper_fillList K [zx_rV K 17 0, .int a1, .int a2, .int a3] h none r := by
  refine zx_ofM (M := zm_Mapper_fillList) (y := zy_Mapper_fillList) (r := r) (as := [zx_rV K 17 0, .int a1, .int a2, .int a3]) (ρ := (fun r => ((none : Option Value), r))) (by decide) rfl hf (Nat.le_of_ble_eq_true rfl) ?_
  intro B hl hK E
  subst hK
  subst hl
  show zx_X B zm_Mapper_fillList _ _ 0 0 0 [(0, zx_rV (zx_BK B) 17 0), (1, .int a1), (2, .int a2), (3, .int a3)] [] h
  unfold zs_Mapper_fillList
  refine zx_aload_n E 0 dd_Mapper_fillList_0 rfl rfl ?_
  refine zx_getR E 1 0 zd_Mapper_types zg_17 Nat.zero_lt_one (zr_Mapper_types _) zw_321 dd_Mapper_fillList_1 ?_
  refine zx_aload_n E 0 dd_Mapper_fillList_4 rfl rfl ?_
  refine zx_getR E 7 0 zd_Mapper_store zg_17 Nat.zero_lt_one (zr_Mapper_store _) zw_323 dd_Mapper_fillList_5 ?_
  refine zx_iload_n E 1 dd_Mapper_fillList_8 rfl rfl ?_
  refine zx_callV_i (T := zx_TStore) E [.int a1] (fun rZ eZ => zt_Store_typeOf _ _ a1 h _ eZ) zg_7 Nat.zero_lt_one rfl zc_Mapper_89 ⟨by decide, by decide⟩ (Nat.zero_le _) (Nat.zero_le _) rfl rfl (Nat.le_of_ble_eq_true rfl) dd_Mapper_fillList_9 (fun r1 => ?_)
  refine zx_callV_i (T := zx_TTypes) E [.int r1] (fun rZ eZ => zt_Types_element _ _ r1 h _ eZ) zg_1 Nat.zero_lt_one rfl zc_Mapper_92 ⟨by decide, by decide⟩ (Nat.zero_le _) (Nat.zero_le _) rfl rfl (Nat.le_of_ble_eq_true rfl) dd_Mapper_fillList_12 (fun r2 => ?_)
  refine zx_istore E (lv1 := [(4, .int r2), (0, zx_rV (zx_BK B) 17 0), (1, .int a1), (2, .int a2), (3, .int a3)]) dd_Mapper_fillList_15 (by decide) rfl ?_
  refine zx_aload_n E 1 dd_Mapper_fillList_17 rfl rfl ?_
  refine zx_getR E 1 0 zd_Mapper_types zg_17 Nat.zero_lt_one (zr_Mapper_types _) zw_321 dd_Mapper_fillList_18 ?_
  refine zx_aload_n E 1 dd_Mapper_fillList_21 rfl rfl ?_
  refine zx_getR E 7 0 zd_Mapper_store zg_17 Nat.zero_lt_one (zr_Mapper_store _) zw_323 dd_Mapper_fillList_22 ?_
  refine zx_iload_n E 3 dd_Mapper_fillList_25 rfl rfl ?_
  refine zx_callV_i (T := zx_TStore) E [.int a2] (fun rZ eZ => zt_Store_typeOf _ _ a2 h _ eZ) zg_7 Nat.zero_lt_one rfl zc_Mapper_89 ⟨by decide, by decide⟩ (Nat.zero_le _) (Nat.zero_le _) rfl rfl (Nat.le_of_ble_eq_true rfl) dd_Mapper_fillList_26 (fun r3 => ?_)
  refine zx_callV_i (T := zx_TTypes) E [.int r3] (fun rZ eZ => zt_Types_element _ _ r3 h _ eZ) zg_1 Nat.zero_lt_one rfl zc_Mapper_92 ⟨by decide, by decide⟩ (Nat.zero_le _) (Nat.zero_le _) rfl rfl (Nat.le_of_ble_eq_true rfl) dd_Mapper_fillList_29 (fun r4 => ?_)
  refine zx_istore E (lv1 := [(5, .int r4), (4, .int r2), (0, zx_rV (zx_BK B) 17 0), (1, .int a1), (2, .int a2), (3, .int a3)]) dd_Mapper_fillList_32 (by decide) rfl ?_
  refine zx_aload_n E 2 dd_Mapper_fillList_34 rfl rfl ?_
  refine zx_getR E 7 0 zd_Mapper_store zg_17 Nat.zero_lt_one (zr_Mapper_store _) zw_323 dd_Mapper_fillList_35 ?_
  refine zx_iload_n E 4 dd_Mapper_fillList_38 rfl rfl ?_
  refine zx_aload_n E 2 dd_Mapper_fillList_39 rfl rfl ?_
  refine zx_aload_n E 2 dd_Mapper_fillList_40 rfl rfl ?_
  refine zx_getR E 14 0 zd_Mapper_ways zg_17 Nat.zero_lt_one (zr_Mapper_ways _) zw_324 dd_Mapper_fillList_41 ?_
  refine zx_iload E 1 dd_Mapper_fillList_44 rfl ?_
  refine zx_iload E 0 dd_Mapper_fillList_46 rfl ?_
  refine zx_callV_i (T := zx_TWays) E [.int r2, .int r4] (fun rZ eZ => zt_Ways_known _ _ r2 r4 h _ eZ) zg_14 Nat.zero_lt_one rfl zc_Mapper_97 ⟨by decide, by decide⟩ (Nat.zero_le _) (Nat.zero_le _) rfl rfl (Nat.le_of_ble_eq_true rfl) dd_Mapper_fillList_48 (fun r5 => ?_)
  refine zx_iload E 1 dd_Mapper_fillList_51 rfl ?_
  refine zx_iload E 0 dd_Mapper_fillList_53 rfl ?_
  refine zx_aload_n E 2 dd_Mapper_fillList_55 rfl rfl ?_
  refine zx_getR E 7 0 zd_Mapper_store zg_17 Nat.zero_lt_one (zr_Mapper_store _) zw_323 dd_Mapper_fillList_56 ?_
  refine zx_iload_n E 3 dd_Mapper_fillList_59 rfl rfl ?_
  refine zx_iload_n E 5 dd_Mapper_fillList_60 rfl rfl ?_
  refine zx_callV_l (T := zx_TStore) E [.int a1, .int a3] (fun rZ eZ => zt_Store_cell _ _ a1 a3 h _ eZ) zg_7 Nat.zero_lt_one rfl zc_Mapper_103 ⟨by decide, by decide⟩ (Nat.zero_le _) (Nat.zero_le _) rfl rfl (Nat.le_of_ble_eq_true rfl) dd_Mapper_fillList_61 (fun r6 => ?_)
  refine zx_callV_lw (T := zx_TMapper) E [.int r5, .int r2, .int r4, .long r6] (fun rZ eZ => zt_Mapper_become _ _ r5 r2 r4 r6 h _ eZ) zg_17 Nat.zero_lt_one rfl zc_Mapper_107 ⟨by decide, by decide⟩ (Nat.zero_le _) (Nat.zero_le _) rfl rfl (Nat.le_of_ble_eq_true rfl) dd_Mapper_fillList_64 (fun r7 => ?_)
  refine zx_callV_zw (T := zx_TStore) E [.int a2, .long r7.1] (fun rZ eZ => zt_Store_append _ _ a2 r7.1 r7.2 _ eZ) zg_7 Nat.zero_lt_one rfl zc_Mapper_111 ⟨by decide, by decide⟩ (Nat.zero_le _) (Nat.zero_le _) rfl rfl (Nat.le_of_ble_eq_true rfl) dd_Mapper_fillList_67 (fun r8 => ?_)
  refine zx_pop E dd_Mapper_fillList_70 rfl ?_
  exact zx_vret E rfl rfl dd_Mapper_fillList_71
set_option maxHeartbeats 4000000 in
set_option maxRecDepth 20000 in
theorem zj_Mapper_fillProperty_231 {B : zx_B} (E : zx_E B zm_Mapper_fillProperty)  (x3 : Int32) (x4 : Int32) (x5 : Fin 129) (x6 : Int32) (h : zx_H) : zx_X B zm_Mapper_fillProperty (zx_QM B (fun r => ((none : Option Value), r))) (zs_Mapper_fillProperty_J231  x3 x4 x5 x6 h) 0 0 231 [(0, zx_rV (zx_BK B) 17 0), (3, .int x3), (4, .int x4), (5, zx_rV (zx_BK B) 60 x5.val), (6, .int x6)] [] h := by
  unfold zs_Mapper_fillProperty_J231
  refine zx_aload_n E 0 dd_Mapper_fillProperty_231 rfl rfl ?_
  refine zx_getR E 7 0 zd_Mapper_store zg_17 Nat.zero_lt_one (zr_Mapper_store _) zw_323 dd_Mapper_fillProperty_232 ?_
  refine zx_iload_n E 1 dd_Mapper_fillProperty_235 rfl rfl ?_
  refine zx_iload E 2 dd_Mapper_fillProperty_236 rfl ?_
  refine zx_aload_n E 0 dd_Mapper_fillProperty_238 rfl rfl ?_
  refine zx_aload E 3 dd_Mapper_fillProperty_239 rfl ?_
  refine zx_getI E zd_Plan_fallbackWay zg_60 x5.isLt zw_130 dd_Mapper_fillProperty_241 ?_
  refine zx_iconst E (4 : Int32) dd_Mapper_fillProperty_244 (by decide) ?_
  refine zx_iload E 4 dd_Mapper_fillProperty_245 rfl ?_
  refine zx_aload E 3 dd_Mapper_fillProperty_247 rfl ?_
  refine zx_getJ E zd_Plan_fallback zg_60 x5.isLt zw_128 dd_Mapper_fillProperty_249 ?_
  refine zx_callV_lw (T := zx_TMapper) E [.int (h.1 60 x5.val 8), .int (4 : Int32), .int x6, .long (h.2 60 x5.val 7)] (fun rZ eZ => zt_Mapper_become _ _ (h.1 60 x5.val 8) (4 : Int32) x6 (h.2 60 x5.val 7) h _ eZ) zg_17 Nat.zero_lt_one rfl zc_Mapper_107 ⟨by decide, by decide⟩ (Nat.zero_le _) (Nat.zero_le _) rfl rfl (Nat.le_of_ble_eq_true rfl) dd_Mapper_fillProperty_252 (fun r1 => ?_)
  refine zx_callV_zw (T := zx_TStore) E [.int x3, .int x4, .long r1.1] (fun rZ eZ => zt_Store_set _ _ x3 x4 r1.1 r1.2 _ eZ) zg_7 Nat.zero_lt_one rfl zc_Mapper_139 ⟨by decide, by decide⟩ (Nat.zero_le _) (Nat.zero_le _) rfl rfl (Nat.le_of_ble_eq_true rfl) dd_Mapper_fillProperty_255 (fun r2 => ?_)
  refine zx_pop E dd_Mapper_fillProperty_258 rfl ?_
  refine zx_goto E 296 dd_Mapper_fillProperty_259 rfl ?_
  exact zx_vret E rfl rfl dd_Mapper_fillProperty_296
set_option maxHeartbeats 4000000 in
set_option maxRecDepth 20000 in
theorem zj_Mapper_fillProperty_262 {B : zx_B} (E : zx_E B zm_Mapper_fillProperty)  (x3 : Int32) (x4 : Int32) (x5 : Fin 129) (x6 : Int32) (x10 : Bool) (x11 : Int64) (h : zx_H) : zx_X B zm_Mapper_fillProperty (zx_QM B (fun r => ((none : Option Value), r))) (zs_Mapper_fillProperty_J262  x3 x4 x5 x6 x10 x11 h) 0 0 262 [(0, zx_rV (zx_BK B) 17 0), (3, .int x3), (4, .int x4), (5, zx_rV (zx_BK B) 60 x5.val), (6, .int x6), (10, .int (zx_b x10)), (11, .long x11)] [] h := by
  unfold zs_Mapper_fillProperty_J262
  refine zx_iload E 5 dd_Mapper_fillProperty_262 rfl ?_
  refine zx_ifb_ne E (x := x10) 296 dd_Mapper_fillProperty_264 rfl ?_ ?_
  rotate_left
  · exact zx_vret E rfl rfl dd_Mapper_fillProperty_296
  refine zx_aload_n E 0 dd_Mapper_fillProperty_267 rfl rfl ?_
  refine zx_getR E 7 0 zd_Mapper_store zg_17 Nat.zero_lt_one (zr_Mapper_store _) zw_323 dd_Mapper_fillProperty_268 ?_
  refine zx_iload_n E 1 dd_Mapper_fillProperty_271 rfl rfl ?_
  refine zx_iload E 2 dd_Mapper_fillProperty_272 rfl ?_
  refine zx_aload_n E 0 dd_Mapper_fillProperty_274 rfl rfl ?_
  refine zx_aload E 3 dd_Mapper_fillProperty_275 rfl ?_
  refine zx_getI E zd_Plan_way zg_60 x5.isLt zw_124 dd_Mapper_fillProperty_277 ?_
  refine zx_aload E 3 dd_Mapper_fillProperty_280 rfl ?_
  refine zx_getI E zd_Plan_sourceType zg_60 x5.isLt zw_122 dd_Mapper_fillProperty_282 ?_
  refine zx_iload E 4 dd_Mapper_fillProperty_285 rfl ?_
  refine zx_lload E 6 dd_Mapper_fillProperty_287 rfl ?_
  refine zx_callV_lw (T := zx_TMapper) E [.int (h.1 60 x5.val 5), .int (h.1 60 x5.val 4), .int x6, .long x11] (fun rZ eZ => zt_Mapper_become _ _ (h.1 60 x5.val 5) (h.1 60 x5.val 4) x6 x11 h _ eZ) zg_17 Nat.zero_lt_one rfl zc_Mapper_107 ⟨by decide, by decide⟩ (Nat.zero_le _) (Nat.zero_le _) rfl rfl (Nat.le_of_ble_eq_true rfl) dd_Mapper_fillProperty_289 (fun r1 => ?_)
  refine zx_callV_zw (T := zx_TStore) E [.int x3, .int x4, .long r1.1] (fun rZ eZ => zt_Store_set _ _ x3 x4 r1.1 r1.2 _ eZ) zg_7 Nat.zero_lt_one rfl zc_Mapper_139 ⟨by decide, by decide⟩ (Nat.zero_le _) (Nat.zero_le _) rfl rfl (Nat.le_of_ble_eq_true rfl) dd_Mapper_fillProperty_292 (fun r2 => ?_)
  refine zx_pop E dd_Mapper_fillProperty_295 rfl ?_
  exact zx_vret E rfl rfl dd_Mapper_fillProperty_296
set_option maxHeartbeats 4000000 in
set_option maxRecDepth 20000 in
theorem zj_Mapper_fillProperty_203 {B : zx_B} (E : zx_E B zm_Mapper_fillProperty)  (x3 : Int32) (x4 : Int32) (x5 : Fin 129) (x6 : Int32) (x10 : Bool) (s0 : Int64) (h : zx_H) : zx_X B zm_Mapper_fillProperty (zx_QM B (fun r => ((none : Option Value), r))) (zs_Mapper_fillProperty_J203  x3 x4 x5 x6 x10 s0 h) 0 0 203 [(0, zx_rV (zx_BK B) 17 0), (3, .int x3), (4, .int x4), (5, zx_rV (zx_BK B) 60 x5.val), (6, .int x6), (10, .int (zx_b x10))] [.long s0] h := by
  unfold zs_Mapper_fillProperty_J203
  refine zx_lstore E (lv1 := [(11, .long s0), (0, zx_rV (zx_BK B) 17 0), (3, .int x3), (4, .int x4), (5, zx_rV (zx_BK B) 60 x5.val), (6, .int x6), (10, .int (zx_b x10))]) dd_Mapper_fillProperty_203 (by decide) rfl ?_
  refine zx_aload E 4 dd_Mapper_fillProperty_205 rfl ?_
  refine zx_getI E zd_Plan_hasDefault zg_60 x5.isLt zw_126 dd_Mapper_fillProperty_207 ?_
  refine zx_if_eq E 262 dd_Mapper_fillProperty_210 rfl ?_ ?_
  rotate_left
  · refine zx_sub [1, 2, 3, 4, 5, 6, 0] rfl ?_
    exact zj_Mapper_fillProperty_262 E x3 x4 x5 x6 x10 s0 h
  refine zx_iload E 6 dd_Mapper_fillProperty_213 rfl ?_
  refine zx_ifb_ne E (x := x10) 231 dd_Mapper_fillProperty_215 rfl ?_ ?_
  rotate_left
  · refine zx_sub [1, 2, 3, 4, 5] rfl ?_
    exact zj_Mapper_fillProperty_231 E x3 x4 x5 x6 h
  refine zx_aload E 4 dd_Mapper_fillProperty_218 rfl ?_
  refine zx_getI E zd_Plan_sourceType zg_60 x5.isLt zw_122 dd_Mapper_fillProperty_220 ?_
  refine zx_lload E 0 dd_Mapper_fillProperty_223 rfl ?_
  refine zx_callS_z E [.int (h.1 60 x5.val 4), .long s0] (fun rZ eZ => zt_Basics_isNull _ _ (h.1 60 x5.val 4) s0 h _ eZ) zc_Mapper_157 ⟨by decide, by decide⟩ (Nat.zero_le _) (Nat.zero_le _) rfl rfl (Nat.le_of_ble_eq_true rfl) dd_Mapper_fillProperty_225 (fun r1 => ?_)
  refine zx_ifb_eq E (x := r1) 262 dd_Mapper_fillProperty_228 rfl ?_ ?_
  · refine zx_sub [1, 2, 3, 4, 5] rfl ?_
    exact zj_Mapper_fillProperty_231 E x3 x4 x5 x6 h
  refine zx_sub [1, 2, 3, 4, 5, 6, 0] rfl ?_
  exact zj_Mapper_fillProperty_262 E x3 x4 x5 x6 x10 s0 h
set_option maxHeartbeats 4000000 in
set_option maxRecDepth 20000 in
theorem zj_Mapper_fillProperty_172 {B : zx_B} (E : zx_E B zm_Mapper_fillProperty)  (x3 : Int32) (x4 : Int32) (x5 : Fin 129) (x6 : Int32) (x7 : Int64) (x9 : Int32) (s0 : Bool) (h : zx_H) : zx_X B zm_Mapper_fillProperty (zx_QM B (fun r => ((none : Option Value), r))) (zs_Mapper_fillProperty_J172  x3 x4 x5 x6 x7 x9 s0 h) 0 0 172 [(0, zx_rV (zx_BK B) 17 0), (3, .int x3), (4, .int x4), (5, zx_rV (zx_BK B) 60 x5.val), (6, .int x6), (7, .long x7), (9, .int x9)] [.int (zx_b s0)] h := by
  unfold zs_Mapper_fillProperty_J172
  refine zx_istore E (lv1 := [(10, .int (zx_b s0)), (0, zx_rV (zx_BK B) 17 0), (3, .int x3), (4, .int x4), (5, zx_rV (zx_BK B) 60 x5.val), (6, .int x6), (7, .long x7), (9, .int x9)]) dd_Mapper_fillProperty_172 (by decide) rfl ?_
  refine zx_iload E 0 dd_Mapper_fillProperty_174 rfl ?_
  refine zx_ifb_eq E (x := s0) 185 dd_Mapper_fillProperty_176 rfl ?_ ?_
  · refine zx_ldc2 E (-1 : Int64) zw_847 dd_Mapper_fillProperty_179 ?_
    refine zx_goto E 203 dd_Mapper_fillProperty_182 rfl ?_
    refine zx_sub [1, 2, 3, 4, 5, 0] rfl ?_
    exact zj_Mapper_fillProperty_203 E x3 x4 x5 x6 s0 (-1 : Int64) h
  refine zx_aload_n E 1 dd_Mapper_fillProperty_185 rfl rfl ?_
  refine zx_getR E 7 0 zd_Mapper_store zg_17 Nat.zero_lt_one (zr_Mapper_store _) zw_323 dd_Mapper_fillProperty_186 ?_
  refine zx_lload E 6 dd_Mapper_fillProperty_189 rfl ?_
  refine zx_l2i E dd_Mapper_fillProperty_191 ?_
  refine zx_aload E 4 dd_Mapper_fillProperty_192 rfl ?_
  refine zx_getR E 61 x5.val zd_Plan_places zg_60 x5.isLt (zr_Plan_places _) zw_120 dd_Mapper_fillProperty_194 ?_
  refine zx_iload E 7 dd_Mapper_fillProperty_197 rfl ?_
  refine zx_iald E zg_61 x5.isLt dd_Mapper_fillProperty_199 ?_
  refine zx_callV_l (T := zx_TStore) E [.int (x7.toInt32), .int (h.1 61 x5.val x9.toNatClampNeg)] (fun rZ eZ => zt_Store_cell _ _ (x7.toInt32) (h.1 61 x5.val x9.toNatClampNeg) h _ eZ) zg_7 Nat.zero_lt_one rfl zc_Mapper_103 ⟨by decide, by decide⟩ (Nat.zero_le _) (Nat.zero_le _) rfl rfl (Nat.le_of_ble_eq_true rfl) dd_Mapper_fillProperty_200 (fun r1 => ?_)
  refine zx_sub [1, 2, 3, 4, 5, 0] rfl ?_
  exact zj_Mapper_fillProperty_203 E x3 x4 x5 x6 s0 r1 h
set_option maxHeartbeats 4000000 in
set_option maxRecDepth 20000 in
theorem zj_Mapper_fillProperty_167 {B : zx_B} (E : zx_E B zm_Mapper_fillProperty)  (x3 : Int32) (x4 : Int32) (x5 : Fin 129) (x6 : Int32) (x7 : Int64) (x9 : Int32) (h : zx_H) : zx_X B zm_Mapper_fillProperty (zx_QM B (fun r => ((none : Option Value), r))) (zs_Mapper_fillProperty_J167  x3 x4 x5 x6 x7 x9 h) 0 0 167 [(0, zx_rV (zx_BK B) 17 0), (3, .int x3), (4, .int x4), (5, zx_rV (zx_BK B) 60 x5.val), (6, .int x6), (7, .long x7), (9, .int x9)] [] h := by
  unfold zs_Mapper_fillProperty_J167
  refine zx_iconst E (1 : Int32) dd_Mapper_fillProperty_167 (by decide) ?_
  refine zx_goto E 172 dd_Mapper_fillProperty_168 rfl ?_
  exact zj_Mapper_fillProperty_172 E x3 x4 x5 x6 x7 x9 true h
set_option maxHeartbeats 4000000 in
set_option maxRecDepth 20000 in
theorem zj_Mapper_fillProperty_147 {B : zx_B} (E : zx_E B zm_Mapper_fillProperty)  (x3 : Int32) (x4 : Int32) (x5 : Fin 129) (x6 : Int32) (x7 : Int64) (x9 : Int32) (h : zx_H) : zx_X B zm_Mapper_fillProperty (zx_QM B (fun r => ((none : Option Value), r))) (zs_Mapper_fillProperty_J147  x3 x4 x5 x6 x7 x9 h) 0 0 147 [(0, zx_rV (zx_BK B) 17 0), (3, .int x3), (4, .int x4), (5, zx_rV (zx_BK B) 60 x5.val), (6, .int x6), (7, .long x7), (9, .int x9)] [] h := by
  unfold zs_Mapper_fillProperty_J147
  refine zx_lload E 5 dd_Mapper_fillProperty_147 rfl ?_
  refine zx_ldc2 E (-1 : Int64) zw_847 dd_Mapper_fillProperty_149 ?_
  refine zx_lcmp_eq E 167 dd_Mapper_fillProperty_152 dd_Mapper_fillProperty_153 rfl ?_ ?_
  rotate_left
  · exact zj_Mapper_fillProperty_167 E x3 x4 x5 x6 x7 x9 h
  refine zx_iload E 6 dd_Mapper_fillProperty_156 rfl ?_
  refine zx_if_lt E 167 dd_Mapper_fillProperty_158 rfl ?_ ?_
  rotate_left
  · exact zj_Mapper_fillProperty_167 E x3 x4 x5 x6 x7 x9 h
  refine zx_iload E 6 dd_Mapper_fillProperty_161 rfl ?_
  refine zx_iconst E (3 : Int32) dd_Mapper_fillProperty_163 (by decide) ?_
  refine zx_icmp_lt E 171 dd_Mapper_fillProperty_164 rfl ?_ ?_
  · exact zj_Mapper_fillProperty_167 E x3 x4 x5 x6 x7 x9 h
  refine zx_iconst E (0 : Int32) dd_Mapper_fillProperty_171 (by decide) ?_
  exact zj_Mapper_fillProperty_172 E x3 x4 x5 x6 x7 x9 false h
set_option maxHeartbeats 4000000 in
set_option maxRecDepth 20000 in
theorem zb_Mapper_fillProperty_99 {B : zx_B} (E : zx_E B zm_Mapper_fillProperty)  (k99 : (Int32 → Int32 → Fin 129 → Int32 → Int64 → Int32 → Int32 → zx_H → Option zx_H)) (hk99 : ∀ (x3 : Int32) (x4 : Int32) (x5 : Fin 129) (x6 : Int32) (x7 : Int64) (x9 : Int32) (x10 : Int32) (h : zx_H), zx_X B zm_Mapper_fillProperty (zx_QM B (fun r => ((none : Option Value), r))) (k99 x3 x4 x5 x6 x7 x9 x10 h) 0 0 99 [(0, zx_rV (zx_BK B) 17 0), (3, .int x3), (4, .int x4), (5, zx_rV (zx_BK B) 60 x5.val), (6, .int x6), (7, .long x7), (9, .int x9), (10, .int x10)] [] h) (x3 : Int32) (x4 : Int32) (x5 : Fin 129) (x6 : Int32) (x7 : Int64) (x9 : Int32) (x10 : Int32) (h : zx_H) : zx_X B zm_Mapper_fillProperty (zx_QM B (fun r => ((none : Option Value), r))) (zs_Mapper_fillProperty_L99_body  k99 x3 x4 x5 x6 x7 x9 x10 h) 0 0 99 [(0, zx_rV (zx_BK B) 17 0), (3, .int x3), (4, .int x4), (5, zx_rV (zx_BK B) 60 x5.val), (6, .int x6), (7, .long x7), (9, .int x9), (10, .int x10)] [] h := by
  unfold zs_Mapper_fillProperty_L99_body
  refine zx_iload E 7 dd_Mapper_fillProperty_99 rfl ?_
  refine zx_iload E 6 dd_Mapper_fillProperty_101 rfl ?_
  refine zx_icmp_ge E 147 dd_Mapper_fillProperty_103 rfl ?_ ?_
  rotate_left
  · refine zx_sub [0, 1, 2, 3, 4, 5, 6] rfl ?_
    exact zj_Mapper_fillProperty_147 E x3 x4 x5 x6 x7 x9 h
  refine zx_iload E 7 dd_Mapper_fillProperty_106 rfl ?_
  refine zx_iconst E (3 : Int32) dd_Mapper_fillProperty_108 (by decide) ?_
  refine zx_icmp_ge E 147 dd_Mapper_fillProperty_109 rfl ?_ ?_
  rotate_left
  · refine zx_sub [0, 1, 2, 3, 4, 5, 6] rfl ?_
    exact zj_Mapper_fillProperty_147 E x3 x4 x5 x6 x7 x9 h
  refine zx_lload E 5 dd_Mapper_fillProperty_112 rfl ?_
  refine zx_ldc2 E (-1 : Int64) zw_847 dd_Mapper_fillProperty_114 ?_
  refine zx_lcmp_eq E 147 dd_Mapper_fillProperty_117 dd_Mapper_fillProperty_118 rfl ?_ ?_
  rotate_left
  · refine zx_sub [0, 1, 2, 3, 4, 5, 6] rfl ?_
    exact zj_Mapper_fillProperty_147 E x3 x4 x5 x6 x7 x9 h
  refine zx_aload_n E 0 dd_Mapper_fillProperty_121 rfl rfl ?_
  refine zx_getR E 7 0 zd_Mapper_store zg_17 Nat.zero_lt_one (zr_Mapper_store _) zw_323 dd_Mapper_fillProperty_122 ?_
  refine zx_lload E 5 dd_Mapper_fillProperty_125 rfl ?_
  refine zx_l2i E dd_Mapper_fillProperty_127 ?_
  refine zx_aload E 3 dd_Mapper_fillProperty_128 rfl ?_
  refine zx_getR E 61 x5.val zd_Plan_places zg_60 x5.isLt (zr_Plan_places _) zw_120 dd_Mapper_fillProperty_130 ?_
  refine zx_iload E 7 dd_Mapper_fillProperty_133 rfl ?_
  refine zx_iald E zg_61 x5.isLt dd_Mapper_fillProperty_135 ?_
  refine zx_callV_l (T := zx_TStore) E [.int (x7.toInt32), .int (h.1 61 x5.val x10.toNatClampNeg)] (fun rZ eZ => zt_Store_cell _ _ (x7.toInt32) (h.1 61 x5.val x10.toNatClampNeg) h _ eZ) zg_7 Nat.zero_lt_one rfl zc_Mapper_103 ⟨by decide, by decide⟩ (Nat.zero_le _) (Nat.zero_le _) rfl rfl (Nat.le_of_ble_eq_true rfl) dd_Mapper_fillProperty_136 (fun r1 => ?_)
  refine zx_lstore E (lv1 := [(7, .long r1), (0, zx_rV (zx_BK B) 17 0), (3, .int x3), (4, .int x4), (5, zx_rV (zx_BK B) 60 x5.val), (6, .int x6), (9, .int x9), (10, .int x10)]) dd_Mapper_fillProperty_139 (by decide) rfl ?_
  refine zx_iinc E 7 (x10 + (1 : Int32)) (lv1 := [(10, .int (x10 + (1 : Int32))), (7, .long r1), (0, zx_rV (zx_BK B) 17 0), (3, .int x3), (4, .int x4), (5, zx_rV (zx_BK B) 60 x5.val), (6, .int x6), (9, .int x9)]) dd_Mapper_fillProperty_141 rfl rfl (by decide) rfl ?_
  refine zx_goto E 99 dd_Mapper_fillProperty_144 rfl ?_
  refine zx_sub [2, 3, 4, 5, 6, 1, 7, 0] rfl ?_
  exact hk99 x3 x4 x5 x6 r1 x9 (x10 + (1 : Int32)) h
theorem zj_Mapper_fillProperty_99 {B : zx_B} (E : zx_E B zm_Mapper_fillProperty)  : ∀ (x3 : Int32) (x4 : Int32) (x5 : Fin 129) (x6 : Int32) (x7 : Int64) (x9 : Int32) (x10 : Int32) (h : zx_H), zx_X B zm_Mapper_fillProperty (zx_QM B (fun r => ((none : Option Value), r))) (zs_Mapper_fillProperty_L99  x3 x4 x5 x6 x7 x9 x10 h) 0 0 99 [(0, zx_rV (zx_BK B) 17 0), (3, .int x3), (4, .int x4), (5, zx_rV (zx_BK B) 60 x5.val), (6, .int x6), (7, .long x7), (9, .int x9), (10, .int x10)] [] h := by
  unfold zs_Mapper_fillProperty_L99
  generalize zx_fuel = n
  induction n with
  | zero => intros; exact zx_non
  | succ n ih => intro x3 x4 x5 x6 x7 x9 x10 h; exact zb_Mapper_fillProperty_99 E  _ ih x3 x4 x5 x6 x7 x9 x10 h
set_option maxHeartbeats 4000000 in
set_option maxRecDepth 20000 in
theorem zj_Mapper_fillProperty_74 {B : zx_B} (E : zx_E B zm_Mapper_fillProperty)  (x2 : Int32) (x3 : Int32) (x4 : Int32) (x5 : Fin 129) (x6 : Int32) (h : zx_H) : zx_X B zm_Mapper_fillProperty (zx_QM B (fun r => ((none : Option Value), r))) (zs_Mapper_fillProperty_J74  x2 x3 x4 x5 x6 h) 0 0 74 [(0, zx_rV (zx_BK B) 17 0), (2, .int x2), (3, .int x3), (4, .int x4), (5, zx_rV (zx_BK B) 60 x5.val), (6, .int x6)] [] h := by
  unfold zs_Mapper_fillProperty_J74
  refine zx_aload E 4 dd_Mapper_fillProperty_74 rfl ?_
  refine zx_getI E zd_Plan_origin zg_60 x5.isLt zw_113 dd_Mapper_fillProperty_76 ?_
  refine zx_if_eq E 83 dd_Mapper_fillProperty_79 rfl ?_ ?_
  · exact zx_vret E rfl rfl dd_Mapper_fillProperty_82
  refine zx_iload_n E 1 dd_Mapper_fillProperty_83 rfl rfl ?_
  refine zx_i2l E dd_Mapper_fillProperty_84 ?_
  refine zx_letl (fun y1 => ?_)
  refine zx_lstore E (lv1 := [(7, .long y1), (0, zx_rV (zx_BK B) 17 0), (2, .int x2), (3, .int x3), (4, .int x4), (5, zx_rV (zx_BK B) 60 x5.val), (6, .int x6)]) dd_Mapper_fillProperty_85 (by decide) rfl ?_
  refine zx_aload E 5 dd_Mapper_fillProperty_87 rfl ?_
  refine zx_getI E zd_Plan_steps zg_60 x5.isLt zw_118 dd_Mapper_fillProperty_89 ?_
  refine zx_iconst E (1 : Int32) dd_Mapper_fillProperty_92 (by decide) ?_
  refine zx_isub E dd_Mapper_fillProperty_93 ?_
  refine zx_leti (fun y2 => ?_)
  refine zx_istore E (lv1 := [(9, .int y2), (7, .long y1), (0, zx_rV (zx_BK B) 17 0), (2, .int x2), (3, .int x3), (4, .int x4), (5, zx_rV (zx_BK B) 60 x5.val), (6, .int x6)]) dd_Mapper_fillProperty_94 (by decide) rfl ?_
  refine zx_iconst E (0 : Int32) dd_Mapper_fillProperty_96 (by decide) ?_
  refine zx_istore E (lv1 := [(10, .int (0 : Int32)), (9, .int y2), (7, .long y1), (0, zx_rV (zx_BK B) 17 0), (2, .int x2), (3, .int x3), (4, .int x4), (5, zx_rV (zx_BK B) 60 x5.val), (6, .int x6)]) dd_Mapper_fillProperty_97 (by decide) rfl ?_
  refine zx_sub [3, 5, 6, 7, 8, 2, 1, 0] rfl ?_
  exact zj_Mapper_fillProperty_99 E x3 x4 x5 x6 y1 y2 (0 : Int32) h
set_option maxHeartbeats 4000000 in
set_option maxRecDepth 20000 in
theorem zt_Mapper_fillProperty (l : Launch) (K : zx_K) (a1 : Fin 16) (a2 : Int32) (a3 : Int32) (a4 : Int32) (h : zx_H) (r : zx_H) (hf : zs_Mapper_fillProperty a1 a2 a3 a4 h = some r) : zx_MR l zm_Mapper_fillProperty zy_Mapper_fillProperty K [zx_rV K 17 0, zx_rV K 54 a1.val, .int a2, .int a3, .int a4] h none r := by
  refine zx_ofM (M := zm_Mapper_fillProperty) (y := zy_Mapper_fillProperty) (r := r) (as := [zx_rV K 17 0, zx_rV K 54 a1.val, .int a2, .int a3, .int a4]) (ρ := (fun r => ((none : Option Value), r))) (by decide) rfl hf (Nat.le_of_ble_eq_true rfl) ?_
  intro B hl hK E
  subst hK
  subst hl
  show zx_X B zm_Mapper_fillProperty _ _ 0 0 0 [(0, zx_rV (zx_BK B) 17 0), (1, zx_rV (zx_BK B) 54 a1.val), (2, .int a2), (3, .int a3), (4, .int a4)] [] h
  unfold zs_Mapper_fillProperty
  refine zx_iload E 4 dd_Mapper_fillProperty_0 rfl ?_
  refine zx_if_lt E 12 dd_Mapper_fillProperty_2 rfl ?_ ?_
  rotate_left
  · exact zx_vret E rfl rfl dd_Mapper_fillProperty_12
  refine zx_iload E 4 dd_Mapper_fillProperty_5 rfl ?_
  refine zx_bipush E (8 : Int32) dd_Mapper_fillProperty_7 (by decide) ?_
  refine zx_icmp_lt E 13 dd_Mapper_fillProperty_9 rfl ?_ ?_
  · exact zx_vret E rfl rfl dd_Mapper_fillProperty_12
  refine zx_aload_n E 1 dd_Mapper_fillProperty_13 rfl rfl ?_
  refine zx_getR E 58 a1.val zd_Method_plans zg_54 a1.isLt (zr_Method_plans _) zw_176 dd_Mapper_fillProperty_14 ?_
  refine zx_iload E 4 dd_Mapper_fillProperty_17 rfl ?_
  refine zx_aaldP E dd_Mapper_fillProperty_19 (fun j1 => ?_)
  refine zx_astore E (lv1 := [(5, zx_rV (zx_BK B) 60 (zx_pp a1 j1).val), (0, zx_rV (zx_BK B) 17 0), (1, zx_rV (zx_BK B) 54 a1.val), (2, .int a2), (3, .int a3), (4, .int a4)]) dd_Mapper_fillProperty_20 (by decide) rfl ?_
  refine zx_aload_n E 1 dd_Mapper_fillProperty_22 rfl rfl ?_
  refine zx_getR E 1 0 zd_Mapper_types zg_17 Nat.zero_lt_one (zr_Mapper_types _) zw_321 dd_Mapper_fillProperty_23 ?_
  refine zx_aload_n E 2 dd_Mapper_fillProperty_26 rfl rfl ?_
  refine zx_getI E zd_Method_to zg_54 a1.isLt zw_159 dd_Mapper_fillProperty_27 ?_
  refine zx_iload E 5 dd_Mapper_fillProperty_30 rfl ?_
  refine zx_callV_i (T := zx_TTypes) E [.int (h.1 54 a1.val 1), .int a4] (fun rZ eZ => zt_Types_typeAt _ _ (h.1 54 a1.val 1) a4 h _ eZ) zg_1 Nat.zero_lt_one rfl zc_Mapper_124 ⟨by decide, by decide⟩ (Nat.zero_le _) (Nat.zero_le _) rfl rfl (Nat.le_of_ble_eq_true rfl) dd_Mapper_fillProperty_32 (fun r2 => ?_)
  refine zx_istore E (lv1 := [(6, .int r2), (5, zx_rV (zx_BK B) 60 (zx_pp a1 j1).val), (0, zx_rV (zx_BK B) 17 0), (1, zx_rV (zx_BK B) 54 a1.val), (2, .int a2), (3, .int a3), (4, .int a4)]) dd_Mapper_fillProperty_35 (by decide) rfl ?_
  refine zx_aload E 1 dd_Mapper_fillProperty_37 rfl ?_
  refine zx_getI E zd_Plan_origin zg_60 (zx_pp a1 j1).isLt zw_113 dd_Mapper_fillProperty_39 ?_
  refine zx_iconst E (1 : Int32) dd_Mapper_fillProperty_42 (by decide) ?_
  refine zx_icmp_ne E 74 dd_Mapper_fillProperty_43 rfl ?_ ?_
  rotate_left
  · refine zx_sub [2, 4, 5, 6, 1, 0] rfl ?_
    exact zj_Mapper_fillProperty_74 E a2 a3 a4 (zx_pp a1 j1) r2 h
  refine zx_aload_n E 2 dd_Mapper_fillProperty_46 rfl rfl ?_
  refine zx_getR E 7 0 zd_Mapper_store zg_17 Nat.zero_lt_one (zr_Mapper_store _) zw_323 dd_Mapper_fillProperty_47 ?_
  refine zx_iload_n E 5 dd_Mapper_fillProperty_50 rfl rfl ?_
  refine zx_iload E 6 dd_Mapper_fillProperty_51 rfl ?_
  refine zx_aload_n E 2 dd_Mapper_fillProperty_53 rfl rfl ?_
  refine zx_aload E 1 dd_Mapper_fillProperty_54 rfl ?_
  refine zx_getI E zd_Plan_way zg_60 (zx_pp a1 j1).isLt zw_124 dd_Mapper_fillProperty_56 ?_
  refine zx_iconst E (4 : Int32) dd_Mapper_fillProperty_59 (by decide) ?_
  refine zx_iload E 0 dd_Mapper_fillProperty_60 rfl ?_
  refine zx_aload E 1 dd_Mapper_fillProperty_62 rfl ?_
  refine zx_getJ E zd_Plan_constant zg_60 (zx_pp a1 j1).isLt zw_115 dd_Mapper_fillProperty_64 ?_
  refine zx_callV_lw (T := zx_TMapper) E [.int (h.1 60 (zx_pp a1 j1).val 5), .int (4 : Int32), .int r2, .long (h.2 60 (zx_pp a1 j1).val 1)] (fun rZ eZ => zt_Mapper_become _ _ (h.1 60 (zx_pp a1 j1).val 5) (4 : Int32) r2 (h.2 60 (zx_pp a1 j1).val 1) h _ eZ) zg_17 Nat.zero_lt_one rfl zc_Mapper_107 ⟨by decide, by decide⟩ (Nat.zero_le _) (Nat.zero_le _) rfl rfl (Nat.le_of_ble_eq_true rfl) dd_Mapper_fillProperty_67 (fun r3 => ?_)
  refine zx_callV_zw (T := zx_TStore) E [.int a3, .int a4, .long r3.1] (fun rZ eZ => zt_Store_set _ _ a3 a4 r3.1 r3.2 _ eZ) zg_7 Nat.zero_lt_one rfl zc_Mapper_139 ⟨by decide, by decide⟩ (Nat.zero_le _) (Nat.zero_le _) rfl rfl (Nat.le_of_ble_eq_true rfl) dd_Mapper_fillProperty_70 (fun r4 => ?_)
  refine zx_pop E dd_Mapper_fillProperty_73 rfl ?_
  refine zx_sub [2, 4, 5, 6, 1, 0] rfl ?_
  exact zj_Mapper_fillProperty_74 E a2 a3 a4 (zx_pp a1 j1) r2 r4.2
set_option maxHeartbeats 4000000 in
set_option maxRecDepth 20000 in
theorem zj_Mapper_run_227 {B : zx_B} (E : zx_E B zm_Mapper_run) (k32 : (Int64 → Int32 → zx_H → Option (Int64 × zx_H))) (hk32 : ∀ (x4 : Int64) (x6 : Int32) (h : zx_H), zx_X B zm_Mapper_run (zx_QM B (fun r => ((some (Value.long r.1) : Option Value), r.2))) (k32 x4 x6 h) 0 0 32 [(0, zx_rV (zx_BK B) 17 0), (4, .long x4), (6, .int x6)] [] h) (x4 : Int64) (x6 : Int32) (h : zx_H) : zx_X B zm_Mapper_run (zx_QM B (fun r => ((some (Value.long r.1) : Option Value), r.2))) (zs_Mapper_run_J227 k32 x4 x6 h) 0 0 227 [(0, zx_rV (zx_BK B) 17 0), (4, .long x4), (6, .int x6)] [] h := by
  unfold zs_Mapper_run_J227
  refine zx_iinc E 2 (x6 + (1 : Int32)) (lv1 := [(6, .int (x6 + (1 : Int32))), (0, zx_rV (zx_BK B) 17 0), (4, .long x4)]) dd_Mapper_run_227 rfl rfl (by decide) rfl ?_
  refine zx_goto E 32 dd_Mapper_run_230 rfl ?_
  refine zx_sub [1, 2, 0] rfl ?_
  exact hk32 x4 (x6 + (1 : Int32)) h
set_option maxHeartbeats 4000000 in
set_option maxRecDepth 20000 in
theorem zj_Mapper_run_145 {B : zx_B} (E : zx_E B zm_Mapper_run) (k32 : (Int64 → Int32 → zx_H → Option (Int64 × zx_H))) (hk32 : ∀ (x4 : Int64) (x6 : Int32) (h : zx_H), zx_X B zm_Mapper_run (zx_QM B (fun r => ((some (Value.long r.1) : Option Value), r.2))) (k32 x4 x6 h) 0 0 32 [(0, zx_rV (zx_BK B) 17 0), (4, .long x4), (6, .int x6)] [] h) (x4 : Int64) (x6 : Int32) (h : zx_H) : zx_X B zm_Mapper_run (zx_QM B (fun r => ((some (Value.long r.1) : Option Value), r.2))) (zs_Mapper_run_J145 k32 x4 x6 h) 0 0 145 [(0, zx_rV (zx_BK B) 17 0), (4, .long x4), (6, .int x6)] [] h := by
  unfold zs_Mapper_run_J145
  refine zx_aload_n E 0 dd_Mapper_run_145 rfl rfl ?_
  refine zx_dup E dd_Mapper_run_146 rfl ?_
  refine zx_getI E zd_Mapper_height zg_17 Nat.zero_lt_one zw_331 dd_Mapper_run_147 ?_
  refine zx_iconst E (1 : Int32) dd_Mapper_run_150 (by decide) ?_
  refine zx_isub E dd_Mapper_run_151 ?_
  refine zx_putI E zd_Mapper_height zp_Mapper_height zg_17 Nat.zero_lt_one rfl rfl zw_331 dd_Mapper_run_152 ?_
  refine zx_letH (fun h1 => ?_)
  refine zx_goto E 227 dd_Mapper_run_155 rfl ?_
  exact zj_Mapper_run_227 E k32 hk32 x4 x6 h1
set_option maxHeartbeats 4000000 in
set_option maxRecDepth 20000 in
theorem zj_Mapper_run_158 {B : zx_B} (E : zx_E B zm_Mapper_run) (k32 : (Int64 → Int32 → zx_H → Option (Int64 × zx_H))) (hk32 : ∀ (x4 : Int64) (x6 : Int32) (h : zx_H), zx_X B zm_Mapper_run (zx_QM B (fun r => ((some (Value.long r.1) : Option Value), r.2))) (k32 x4 x6 h) 0 0 32 [(0, zx_rV (zx_BK B) 17 0), (4, .long x4), (6, .int x6)] [] h) (x4 : Int64) (x6 : Int32) (x7 : Int32) (x8 : Int32) (h : zx_H) : zx_X B zm_Mapper_run (zx_QM B (fun r => ((some (Value.long r.1) : Option Value), r.2))) (zs_Mapper_run_J158 k32 x4 x6 x7 x8 h) 0 0 158 [(0, zx_rV (zx_BK B) 17 0), (4, .long x4), (6, .int x6), (7, .int x7), (8, .int x8)] [] h := by
  unfold zs_Mapper_run_J158
  refine zx_aload_n E 0 dd_Mapper_run_158 rfl rfl ?_
  refine zx_getR E 22 0 zd_Mapper_methods zg_17 Nat.zero_lt_one (zr_Mapper_methods _) zw_330 dd_Mapper_run_159 ?_
  refine zx_iload E 3 dd_Mapper_run_162 rfl ?_
  refine zx_iald E zg_22 Nat.zero_lt_one dd_Mapper_run_164 ?_
  refine zx_iconst E (-1 : Int32) dd_Mapper_run_165 (by decide) ?_
  refine zx_icmp_ne E 192 dd_Mapper_run_166 rfl ?_ ?_
  · refine zx_aload_n E 0 dd_Mapper_run_169 rfl rfl ?_
    refine zx_aload_n E 0 dd_Mapper_run_170 rfl rfl ?_
    refine zx_getR E 19 0 zd_Mapper_sources zg_17 Nat.zero_lt_one (zr_Mapper_sources _) zw_327 dd_Mapper_run_171 ?_
    refine zx_iload E 3 dd_Mapper_run_174 rfl ?_
    refine zx_iald E zg_19 Nat.zero_lt_one dd_Mapper_run_176 ?_
    refine zx_aload_n E 0 dd_Mapper_run_177 rfl rfl ?_
    refine zx_getR E 20 0 zd_Mapper_targets zg_17 Nat.zero_lt_one (zr_Mapper_targets _) zw_328 dd_Mapper_run_178 ?_
    refine zx_iload E 3 dd_Mapper_run_181 rfl ?_
    refine zx_iald E zg_20 Nat.zero_lt_one dd_Mapper_run_183 ?_
    refine zx_iload E 4 dd_Mapper_run_184 rfl ?_
    refine zx_callV_v (T := zx_TMapper) E [.int (h.1 19 0 x7.toNatClampNeg), .int (h.1 20 0 x7.toNatClampNeg), .int x8] (fun rZ eZ => zt_Mapper_fillList _ _ (h.1 19 0 x7.toNatClampNeg) (h.1 20 0 x7.toNatClampNeg) x8 h _ eZ) zg_17 Nat.zero_lt_one rfl zc_Mapper_76 ⟨by decide, by decide⟩ (Nat.zero_le _) (Nat.zero_le _) rfl rfl (Nat.le_of_ble_eq_true rfl) dd_Mapper_run_186 (fun r1 => ?_)
    refine zx_goto E 227 dd_Mapper_run_189 rfl ?_
    refine zx_sub [0, 1, 2] rfl ?_
    exact zj_Mapper_run_227 E k32 hk32 x4 x6 r1
  refine zx_aload_n E 0 dd_Mapper_run_192 rfl rfl ?_
  refine zx_aload_n E 0 dd_Mapper_run_193 rfl rfl ?_
  refine zx_getR E 11 0 zd_Mapper_model zg_17 Nat.zero_lt_one (zr_Mapper_model _) zw_322 dd_Mapper_run_194 ?_
  refine zx_getR E 13 0 zd_Model_methods zg_11 Nat.zero_lt_one (zr_Model_methods _) zw_208 dd_Mapper_run_197 ?_
  refine zx_aload_n E 0 dd_Mapper_run_200 rfl rfl ?_
  refine zx_getR E 22 0 zd_Mapper_methods zg_17 Nat.zero_lt_one (zr_Mapper_methods _) zw_330 dd_Mapper_run_201 ?_
  refine zx_iload E 3 dd_Mapper_run_204 rfl ?_
  refine zx_iald E zg_22 Nat.zero_lt_one dd_Mapper_run_206 ?_
  refine zx_aaldM E dd_Mapper_run_207 (fun j2 => ?_)
  refine zx_aload_n E 0 dd_Mapper_run_208 rfl rfl ?_
  refine zx_getR E 19 0 zd_Mapper_sources zg_17 Nat.zero_lt_one (zr_Mapper_sources _) zw_327 dd_Mapper_run_209 ?_
  refine zx_iload E 3 dd_Mapper_run_212 rfl ?_
  refine zx_iald E zg_19 Nat.zero_lt_one dd_Mapper_run_214 ?_
  refine zx_aload_n E 0 dd_Mapper_run_215 rfl rfl ?_
  refine zx_getR E 20 0 zd_Mapper_targets zg_17 Nat.zero_lt_one (zr_Mapper_targets _) zw_328 dd_Mapper_run_216 ?_
  refine zx_iload E 3 dd_Mapper_run_219 rfl ?_
  refine zx_iald E zg_20 Nat.zero_lt_one dd_Mapper_run_221 ?_
  refine zx_iload E 4 dd_Mapper_run_222 rfl ?_
  refine zx_callV_v (T := zx_TMapper) E [zx_rV (zx_BK B) 54 j2.val, .int (h.1 19 0 x7.toNatClampNeg), .int (h.1 20 0 x7.toNatClampNeg), .int x8] (fun rZ eZ => zt_Mapper_fillProperty _ _ j2 (h.1 19 0 x7.toNatClampNeg) (h.1 20 0 x7.toNatClampNeg) x8 h _ eZ) zg_17 Nat.zero_lt_one rfl zc_Mapper_85 ⟨by decide, by decide⟩ (Nat.zero_le _) (Nat.zero_le _) rfl rfl (Nat.le_of_ble_eq_true rfl) dd_Mapper_run_224 (fun r3 => ?_)
  refine zx_sub [0, 1, 2] rfl ?_
  exact zj_Mapper_run_227 E k32 hk32 x4 x6 r3
set_option maxHeartbeats 4000000 in
set_option maxRecDepth 20000 in
theorem zj_Mapper_run_115 {B : zx_B} (E : zx_E B zm_Mapper_run) (k32 : (Int64 → Int32 → zx_H → Option (Int64 × zx_H))) (hk32 : ∀ (x4 : Int64) (x6 : Int32) (h : zx_H), zx_X B zm_Mapper_run (zx_QM B (fun r => ((some (Value.long r.1) : Option Value), r.2))) (k32 x4 x6 h) 0 0 32 [(0, zx_rV (zx_BK B) 17 0), (4, .long x4), (6, .int x6)] [] h) (x4 : Int64) (x6 : Int32) (x7 : Int32) (x8 : Int32) (h : zx_H) : zx_X B zm_Mapper_run (zx_QM B (fun r => ((some (Value.long r.1) : Option Value), r.2))) (zs_Mapper_run_J115 k32 x4 x6 x7 x8 h) 0 0 115 [(0, zx_rV (zx_BK B) 17 0), (4, .long x4), (6, .int x6), (7, .int x7), (8, .int x8)] [] h := by
  unfold zs_Mapper_run_J115
  refine zx_iload E 4 dd_Mapper_run_115 rfl ?_
  refine zx_aload_n E 0 dd_Mapper_run_117 rfl rfl ?_
  refine zx_getR E 7 0 zd_Mapper_store zg_17 Nat.zero_lt_one (zr_Mapper_store _) zw_323 dd_Mapper_run_118 ?_
  refine zx_aload_n E 0 dd_Mapper_run_121 rfl rfl ?_
  refine zx_getR E 19 0 zd_Mapper_sources zg_17 Nat.zero_lt_one (zr_Mapper_sources _) zw_327 dd_Mapper_run_122 ?_
  refine zx_iload E 3 dd_Mapper_run_125 rfl ?_
  refine zx_iald E zg_19 Nat.zero_lt_one dd_Mapper_run_127 ?_
  refine zx_callV_i (T := zx_TStore) E [.int (h.1 19 0 x7.toNatClampNeg)] (fun rZ eZ => zt_Store_length _ _ (h.1 19 0 x7.toNatClampNeg) h _ eZ) zg_7 Nat.zero_lt_one rfl zc_Mapper_70 ⟨by decide, by decide⟩ (Nat.zero_le _) (Nat.zero_le _) rfl rfl (Nat.le_of_ble_eq_true rfl) dd_Mapper_run_128 (fun r1 => ?_)
  refine zx_icmp_lt E 158 dd_Mapper_run_131 rfl ?_ ?_
  rotate_left
  · exact zj_Mapper_run_158 E k32 hk32 x4 x6 x7 x8 h
  refine zx_aload_n E 0 dd_Mapper_run_134 rfl rfl ?_
  refine zx_getR E 22 0 zd_Mapper_methods zg_17 Nat.zero_lt_one (zr_Mapper_methods _) zw_330 dd_Mapper_run_135 ?_
  refine zx_iload E 3 dd_Mapper_run_138 rfl ?_
  refine zx_iald E zg_22 Nat.zero_lt_one dd_Mapper_run_140 ?_
  refine zx_iconst E (-1 : Int32) dd_Mapper_run_141 (by decide) ?_
  refine zx_icmp_ne E 158 dd_Mapper_run_142 rfl ?_ ?_
  rotate_left
  · exact zj_Mapper_run_158 E k32 hk32 x4 x6 x7 x8 h
  refine zx_sub [0, 1, 2] rfl ?_
  exact zj_Mapper_run_145 E k32 hk32 x4 x6 h
set_option maxHeartbeats 4000000 in
set_option maxRecDepth 20000 in
theorem zb_Mapper_run_32 {B : zx_B} (E : zx_E B zm_Mapper_run)  (k32 : (Int64 → Int32 → zx_H → Option (Int64 × zx_H))) (hk32 : ∀ (x4 : Int64) (x6 : Int32) (h : zx_H), zx_X B zm_Mapper_run (zx_QM B (fun r => ((some (Value.long r.1) : Option Value), r.2))) (k32 x4 x6 h) 0 0 32 [(0, zx_rV (zx_BK B) 17 0), (4, .long x4), (6, .int x6)] [] h) (x4 : Int64) (x6 : Int32) (h : zx_H) : zx_X B zm_Mapper_run (zx_QM B (fun r => ((some (Value.long r.1) : Option Value), r.2))) (zs_Mapper_run_L32_body  k32 x4 x6 h) 0 0 32 [(0, zx_rV (zx_BK B) 17 0), (4, .long x4), (6, .int x6)] [] h := by
  unfold zs_Mapper_run_L32_body
  refine zx_iload E 2 dd_Mapper_run_32 rfl ?_
  refine zx_sipush E (6800 : Int32) dd_Mapper_run_34 (by decide) ?_
  refine zx_icmp_ge E 233 dd_Mapper_run_37 rfl ?_ ?_
  rotate_left
  · refine zx_lload E 1 dd_Mapper_run_233 rfl ?_
    exact zx_lret E rfl rfl dd_Mapper_run_235
  refine zx_aload_n E 0 dd_Mapper_run_40 rfl rfl ?_
  refine zx_getI E zd_Mapper_height zg_17 Nat.zero_lt_one zw_331 dd_Mapper_run_41 ?_
  refine zx_if_le E 233 dd_Mapper_run_44 rfl ?_ ?_
  rotate_left
  · refine zx_lload E 1 dd_Mapper_run_233 rfl ?_
    exact zx_lret E rfl rfl dd_Mapper_run_235
  refine zx_aload_n E 0 dd_Mapper_run_47 rfl rfl ?_
  refine zx_getR E 23 0 zd_Mapper_converter zg_17 Nat.zero_lt_one (zr_Mapper_converter _) zw_325 dd_Mapper_run_48 ?_
  refine zx_getI E zd_Converter_failed zg_23 Nat.zero_lt_one zw_312 dd_Mapper_run_51 ?_
  refine zx_if_ne E 233 dd_Mapper_run_54 rfl ?_ ?_
  rotate_left
  · refine zx_lload E 1 dd_Mapper_run_233 rfl ?_
    exact zx_lret E rfl rfl dd_Mapper_run_235
  refine zx_aload_n E 0 dd_Mapper_run_57 rfl rfl ?_
  refine zx_getI E zd_Mapper_height zg_17 Nat.zero_lt_one zw_331 dd_Mapper_run_58 ?_
  refine zx_iconst E (1 : Int32) dd_Mapper_run_61 (by decide) ?_
  refine zx_isub E dd_Mapper_run_62 ?_
  refine zx_leti (fun y1 => ?_)
  refine zx_istore E (lv1 := [(7, .int y1), (0, zx_rV (zx_BK B) 17 0), (4, .long x4), (6, .int x6)]) dd_Mapper_run_63 (by decide) rfl ?_
  refine zx_aload_n E 1 dd_Mapper_run_65 rfl rfl ?_
  refine zx_getR E 21 0 zd_Mapper_nexts zg_17 Nat.zero_lt_one (zr_Mapper_nexts _) zw_329 dd_Mapper_run_66 ?_
  refine zx_iload E 0 dd_Mapper_run_69 rfl ?_
  refine zx_iald E zg_21 Nat.zero_lt_one dd_Mapper_run_71 ?_
  refine zx_leti (fun y2 => ?_)
  refine zx_istore E (lv1 := [(8, .int y2), (7, .int y1), (0, zx_rV (zx_BK B) 17 0), (4, .long x4), (6, .int x6)]) dd_Mapper_run_72 (by decide) rfl ?_
  refine zx_aload_n E 2 dd_Mapper_run_74 rfl rfl ?_
  refine zx_getR E 21 0 zd_Mapper_nexts zg_17 Nat.zero_lt_one (zr_Mapper_nexts _) zw_329 dd_Mapper_run_75 ?_
  refine zx_iload E 1 dd_Mapper_run_78 rfl ?_
  refine zx_dup2 E dd_Mapper_run_80 rfl rfl ?_
  refine zx_iald E zg_21 Nat.zero_lt_one dd_Mapper_run_81 ?_
  refine zx_iconst E (1 : Int32) dd_Mapper_run_82 (by decide) ?_
  refine zx_iadd E dd_Mapper_run_83 ?_
  refine zx_iast E zg_21 Nat.zero_lt_one dd_Mapper_run_84 ?_
  refine zx_letH (fun h3 => ?_)
  refine zx_iload E 0 dd_Mapper_run_85 rfl ?_
  refine zx_aload_n E 2 dd_Mapper_run_87 rfl rfl ?_
  refine zx_getR E 7 0 zd_Mapper_store zg_17 Nat.zero_lt_one (zr_Mapper_store _) zw_323 dd_Mapper_run_88 ?_
  refine zx_aload_n E 2 dd_Mapper_run_91 rfl rfl ?_
  refine zx_getR E 20 0 zd_Mapper_targets zg_17 Nat.zero_lt_one (zr_Mapper_targets _) zw_328 dd_Mapper_run_92 ?_
  refine zx_iload E 1 dd_Mapper_run_95 rfl ?_
  refine zx_iald E zg_20 Nat.zero_lt_one dd_Mapper_run_97 ?_
  refine zx_callV_i (T := zx_TStore) E [.int (h3.1 20 0 y1.toNatClampNeg)] (fun rZ eZ => zt_Store_length _ _ (h3.1 20 0 y1.toNatClampNeg) h3 _ eZ) zg_7 Nat.zero_lt_one rfl zc_Mapper_70 ⟨by decide, by decide⟩ (Nat.zero_le _) (Nat.zero_le _) rfl rfl (Nat.le_of_ble_eq_true rfl) dd_Mapper_run_98 (fun r4 => ?_)
  refine zx_icmp_lt E 115 dd_Mapper_run_101 rfl ?_ ?_
  rotate_left
  · refine zx_sub [2, 3, 4, 1, 0] rfl ?_
    exact zj_Mapper_run_115 E k32 hk32 x4 x6 y1 y2 h3
  refine zx_aload_n E 2 dd_Mapper_run_104 rfl rfl ?_
  refine zx_getR E 22 0 zd_Mapper_methods zg_17 Nat.zero_lt_one (zr_Mapper_methods _) zw_330 dd_Mapper_run_105 ?_
  refine zx_iload E 1 dd_Mapper_run_108 rfl ?_
  refine zx_iald E zg_22 Nat.zero_lt_one dd_Mapper_run_110 ?_
  refine zx_iconst E (-1 : Int32) dd_Mapper_run_111 (by decide) ?_
  refine zx_icmp_ne E 145 dd_Mapper_run_112 rfl ?_ ?_
  · refine zx_sub [2, 3, 4, 1, 0] rfl ?_
    exact zj_Mapper_run_115 E k32 hk32 x4 x6 y1 y2 h3
  refine zx_sub [2, 3, 4] rfl ?_
  exact zj_Mapper_run_145 E k32 hk32 x4 x6 h3
theorem zj_Mapper_run_32 {B : zx_B} (E : zx_E B zm_Mapper_run)  : ∀ (x4 : Int64) (x6 : Int32) (h : zx_H), zx_X B zm_Mapper_run (zx_QM B (fun r => ((some (Value.long r.1) : Option Value), r.2))) (zs_Mapper_run_L32  x4 x6 h) 0 0 32 [(0, zx_rV (zx_BK B) 17 0), (4, .long x4), (6, .int x6)] [] h := by
  unfold zs_Mapper_run_L32
  generalize zx_fuel = n
  induction n with
  | zero => intros; exact zx_non
  | succ n ih => intro x4 x6 h; exact zb_Mapper_run_32 E  _ ih x4 x6 h
set_option maxHeartbeats 4000000 in
set_option maxRecDepth 20000 in
theorem zt_Mapper_run (l : Launch) (K : zx_K) (a1 : Int32) (a2 : Int64) (h : zx_H) (r : (Int64 × zx_H)) (hf : zs_Mapper_run a1 a2 h = some r) : zx_MR l zm_Mapper_run zy_Mapper_run K [zx_rV K 17 0, .int a1, .long a2] h (some (.long r.1)) r.2 := by
  refine zx_ofM (M := zm_Mapper_run) (y := zy_Mapper_run) (r := r) (as := [zx_rV K 17 0, .int a1, .long a2]) (ρ := (fun r => ((some (Value.long r.1) : Option Value), r.2))) (by decide) rfl hf (Nat.le_of_ble_eq_true rfl) ?_
  intro B hl hK E
  subst hK
  subst hl
  show zx_X B zm_Mapper_run _ _ 0 0 0 [(0, zx_rV (zx_BK B) 17 0), (1, .int a1), (2, .long a2)] [] h
  unfold zs_Mapper_run
  refine zx_aload_n E 0 dd_Mapper_run_0 rfl rfl ?_
  refine zx_getR E 23 0 zd_Mapper_converter zg_17 Nat.zero_lt_one (zr_Mapper_converter _) zw_325 dd_Mapper_run_1 ?_
  refine zx_iconst E (0 : Int32) dd_Mapper_run_4 (by decide) ?_
  refine zx_putI E zd_Converter_failed zp_Converter_failed zg_23 Nat.zero_lt_one rfl rfl zw_312 dd_Mapper_run_5 ?_
  refine zx_letH (fun h1 => ?_)
  refine zx_aload_n E 0 dd_Mapper_run_8 rfl rfl ?_
  refine zx_iconst E (0 : Int32) dd_Mapper_run_9 (by decide) ?_
  refine zx_putI E zd_Mapper_height zp_Mapper_height zg_17 Nat.zero_lt_one rfl rfl zw_331 dd_Mapper_run_10 ?_
  refine zx_letH (fun h2 => ?_)
  refine zx_aload_n E 0 dd_Mapper_run_13 rfl rfl ?_
  refine zx_getR E 18 0 zd_Mapper_taken zg_17 Nat.zero_lt_one (zr_Mapper_taken _) zw_326 dd_Mapper_run_14 ?_
  refine zx_iconst E (-1 : Int32) dd_Mapper_run_17 (by decide) ?_
  refine zx_callS_v E [zx_rV (zx_BK B) 18 0, .int (-1 : Int32)] (fun rZ eZ => zt_Arrays_fill _ _ (-1 : Int32) h2 _ eZ) zc_Mapper_60 ⟨by decide, by decide⟩ (Nat.zero_le _) (Nat.zero_le _) rfl rfl (Nat.le_of_ble_eq_true rfl) dd_Mapper_run_18 (fun r3 => ?_)
  refine zx_aload_n E 0 dd_Mapper_run_21 rfl rfl ?_
  refine zx_iload_n E 1 dd_Mapper_run_22 rfl rfl ?_
  refine zx_lload_n E 2 dd_Mapper_run_23 rfl rfl ?_
  refine zx_callV_lw (T := zx_TMapper) E [.int a1, .long a2] (fun rZ eZ => zt_Mapper_byMethod _ _ a1 a2 r3 _ eZ) zg_17 Nat.zero_lt_one rfl zc_Mapper_66 ⟨by decide, by decide⟩ (Nat.zero_le _) (Nat.zero_le _) rfl rfl (Nat.le_of_ble_eq_true rfl) dd_Mapper_run_24 (fun r4 => ?_)
  refine zx_lstore E (lv1 := [(4, .long r4.1), (0, zx_rV (zx_BK B) 17 0), (1, .int a1), (2, .long a2)]) dd_Mapper_run_27 (by decide) rfl ?_
  refine zx_iconst E (0 : Int32) dd_Mapper_run_29 (by decide) ?_
  refine zx_istore E (lv1 := [(6, .int (0 : Int32)), (4, .long r4.1), (0, zx_rV (zx_BK B) 17 0), (1, .int a1), (2, .long a2)]) dd_Mapper_run_30 (by decide) rfl ?_
  refine zx_sub [2, 1, 0] rfl ?_
  exact zj_Mapper_run_32 E r4.1 (0 : Int32) r4.2
set_option maxHeartbeats 4000000 in
set_option maxRecDepth 20000 in
theorem zt_Method_tell (l : Launch) (K : zx_K) (th : Fin 16) (a1 : Int32) (a2 : Int32) (a3 : Int64) (h : zx_H) (r : zx_H) (hf : zs_Method_tell th a1 a2 a3 h = some r) : zx_MR l zm_Method_tell zy_Method_tell K [zx_rV K 54 th.val, .int a1, .int a2, .long a3] h none r := by
  refine zx_ofM (M := zm_Method_tell) (y := zy_Method_tell) (r := r) (as := [zx_rV K 54 th.val, .int a1, .int a2, .long a3]) (ρ := (fun r => ((none : Option Value), r))) (by decide) rfl hf (Nat.le_of_ble_eq_true rfl) ?_
  intro B hl hK E
  subst hK
  subst hl
  show zx_X B zm_Method_tell _ _ 0 0 0 [(0, zx_rV (zx_BK B) 54 th.val), (1, .int a1), (2, .int a2), (3, .long a3)] [] h
  unfold zs_Method_tell
  refine zx_aload_n E 0 dd_Method_tell_0 rfl rfl ?_
  refine zx_getI E zd_Method_ruleCount zg_54 th.isLt zw_160 dd_Method_tell_1 ?_
  refine zx_bipush E (24 : Int32) dd_Method_tell_4 (by decide) ?_
  refine zx_icmp_lt E 10 dd_Method_tell_6 rfl ?_ ?_
  · exact zx_vret E rfl rfl dd_Method_tell_9
  refine zx_aload_n E 0 dd_Method_tell_10 rfl rfl ?_
  refine zx_getR E 55 th.val zd_Method_kinds zg_54 th.isLt (zr_Method_kinds _) zw_164 dd_Method_tell_11 ?_
  refine zx_aload_n E 0 dd_Method_tell_14 rfl rfl ?_
  refine zx_getI E zd_Method_ruleCount zg_54 th.isLt zw_160 dd_Method_tell_15 ?_
  refine zx_iload_n E 1 dd_Method_tell_18 rfl rfl ?_
  refine zx_iast E zg_55 th.isLt dd_Method_tell_19 ?_
  refine zx_letH (fun h1 => ?_)
  refine zx_aload_n E 0 dd_Method_tell_20 rfl rfl ?_
  refine zx_getR E 56 th.val zd_Method_targets zg_54 th.isLt (zr_Method_targets _) zw_167 dd_Method_tell_21 ?_
  refine zx_aload_n E 0 dd_Method_tell_24 rfl rfl ?_
  refine zx_getI E zd_Method_ruleCount zg_54 th.isLt zw_160 dd_Method_tell_25 ?_
  refine zx_iload_n E 2 dd_Method_tell_28 rfl rfl ?_
  refine zx_iast E zg_56 th.isLt dd_Method_tell_29 ?_
  refine zx_letH (fun h2 => ?_)
  refine zx_aload_n E 0 dd_Method_tell_30 rfl rfl ?_
  refine zx_getR E 57 th.val zd_Method_whats zg_54 th.isLt (zr_Method_whats _) zw_169 dd_Method_tell_31 ?_
  refine zx_aload_n E 0 dd_Method_tell_34 rfl rfl ?_
  refine zx_getI E zd_Method_ruleCount zg_54 th.isLt zw_160 dd_Method_tell_35 ?_
  refine zx_lload_n E 3 dd_Method_tell_38 rfl rfl ?_
  refine zx_last E zg_57 th.isLt dd_Method_tell_39 ?_
  refine zx_letH (fun h3 => ?_)
  refine zx_aload_n E 0 dd_Method_tell_40 rfl rfl ?_
  refine zx_dup E dd_Method_tell_41 rfl ?_
  refine zx_getI E zd_Method_ruleCount zg_54 th.isLt zw_160 dd_Method_tell_42 ?_
  refine zx_iconst E (1 : Int32) dd_Method_tell_45 (by decide) ?_
  refine zx_iadd E dd_Method_tell_46 ?_
  refine zx_putI E zd_Method_ruleCount zp_Method_ruleCount zg_54 th.isLt rfl rfl zw_160 dd_Method_tell_47 ?_
  refine zx_letH (fun h4 => ?_)
  exact zx_vret E rfl rfl dd_Method_tell_50
set_option maxHeartbeats 4000000 in
set_option maxRecDepth 20000 in
theorem zb_Method_latest_7 {B : zx_B} (E : zx_E B zm_Method_latest) (h : zx_H)  (k7 : (Fin 16 → Int32 → Int32 → Option Int32)) (hk7 : ∀ (x0 : Fin 16) (x1 : Int32) (x2 : Int32), zx_X B zm_Method_latest (zx_QM B (fun r => ((some (Value.int r) : Option Value), h))) (k7 x0 x1 x2) 0 0 7 [(0, zx_rV (zx_BK B) 54 x0.val), (1, .int x1), (2, .int x2)] [] h) (x0 : Fin 16) (x1 : Int32) (x2 : Int32) : zx_X B zm_Method_latest (zx_QM B (fun r => ((some (Value.int r) : Option Value), h))) (zs_Method_latest_L7_body h  k7 x0 x1 x2) 0 0 7 [(0, zx_rV (zx_BK B) 54 x0.val), (1, .int x1), (2, .int x2)] [] h := by
  unfold zs_Method_latest_L7_body
  refine zx_iload_n E 2 dd_Method_latest_7 rfl rfl ?_
  refine zx_if_lt E 29 dd_Method_latest_8 rfl ?_ ?_
  rotate_left
  · refine zx_iconst E (-1 : Int32) dd_Method_latest_29 (by decide) ?_
    exact zx_iret E rfl rfl dd_Method_latest_30
  refine zx_aload_n E 0 dd_Method_latest_11 rfl rfl ?_
  refine zx_getR E 55 x0.val zd_Method_kinds zg_54 x0.isLt (zr_Method_kinds _) zw_164 dd_Method_latest_12 ?_
  refine zx_iload_n E 2 dd_Method_latest_15 rfl rfl ?_
  refine zx_iald E zg_55 x0.isLt dd_Method_latest_16 ?_
  refine zx_iload_n E 1 dd_Method_latest_17 rfl rfl ?_
  refine zx_icmp_ne E 23 dd_Method_latest_18 rfl ?_ ?_
  · refine zx_iload_n E 2 dd_Method_latest_21 rfl rfl ?_
    exact zx_iret E rfl rfl dd_Method_latest_22
  refine zx_iinc E 2 (x2 + (-1 : Int32)) (lv1 := [(2, .int (x2 + (-1 : Int32))), (0, zx_rV (zx_BK B) 54 x0.val), (1, .int x1)]) dd_Method_latest_23 rfl rfl (by decide) rfl ?_
  refine zx_goto E 7 dd_Method_latest_26 rfl ?_
  refine zx_sub [1, 2, 0] rfl ?_
  exact hk7 x0 x1 (x2 + (-1 : Int32))
theorem zj_Method_latest_7 {B : zx_B} (E : zx_E B zm_Method_latest) (h : zx_H)  : ∀ (x0 : Fin 16) (x1 : Int32) (x2 : Int32), zx_X B zm_Method_latest (zx_QM B (fun r => ((some (Value.int r) : Option Value), h))) (zs_Method_latest_L7 h  x0 x1 x2) 0 0 7 [(0, zx_rV (zx_BK B) 54 x0.val), (1, .int x1), (2, .int x2)] [] h := by
  unfold zs_Method_latest_L7
  generalize zx_fuel = n
  induction n with
  | zero => intros; exact zx_non
  | succ n ih => intro x0 x1 x2; exact zb_Method_latest_7 E h  _ ih x0 x1 x2
set_option maxHeartbeats 4000000 in
set_option maxRecDepth 20000 in
theorem zt_Method_latest (l : Launch) (K : zx_K) (th : Fin 16) (a1 : Int32) (h : zx_H) (r : Int32) (hf : zs_Method_latest th a1 h = some r) : zx_MR l zm_Method_latest zy_Method_latest K [zx_rV K 54 th.val, .int a1] h (some (.int r)) h := by
  refine zx_ofM (M := zm_Method_latest) (y := zy_Method_latest) (r := r) (as := [zx_rV K 54 th.val, .int a1]) (ρ := (fun r => ((some (Value.int r) : Option Value), h))) (by decide) rfl hf (Nat.le_of_ble_eq_true rfl) ?_
  intro B hl hK E
  subst hK
  subst hl
  show zx_X B zm_Method_latest _ _ 0 0 0 [(0, zx_rV (zx_BK B) 54 th.val), (1, .int a1)] [] h
  unfold zs_Method_latest
  refine zx_aload_n E 0 dd_Method_latest_0 rfl rfl ?_
  refine zx_getI E zd_Method_ruleCount zg_54 th.isLt zw_160 dd_Method_latest_1 ?_
  refine zx_iconst E (1 : Int32) dd_Method_latest_4 (by decide) ?_
  refine zx_isub E dd_Method_latest_5 ?_
  refine zx_leti (fun y1 => ?_)
  refine zx_istore_n E (lv1 := [(2, .int y1), (0, zx_rV (zx_BK B) 54 th.val), (1, .int a1)]) dd_Method_latest_6 rfl (by decide) rfl ?_
  refine zx_sub [1, 2, 0] rfl ?_
  exact zj_Method_latest_7 E h th a1 y1
set_option maxHeartbeats 4000000 in
set_option maxRecDepth 20000 in
theorem zj_Method_first_32 {B : zx_B} (E : zx_E B zm_Method_first) (h : zx_H) (k2 : (Fin 16 → Int32 → Int32 → Int32 → Option Int32)) (hk2 : ∀ (x0 : Fin 16) (x1 : Int32) (x2 : Int32) (x3 : Int32), zx_X B zm_Method_first (zx_QM B (fun r => ((some (Value.int r) : Option Value), h))) (k2 x0 x1 x2 x3) 0 0 2 [(0, zx_rV (zx_BK B) 54 x0.val), (1, .int x1), (2, .int x2), (3, .int x3)] [] h) (x0 : Fin 16) (x1 : Int32) (x2 : Int32) (x3 : Int32) : zx_X B zm_Method_first (zx_QM B (fun r => ((some (Value.int r) : Option Value), h))) (zs_Method_first_J32 h k2 x0 x1 x2 x3) 0 0 32 [(0, zx_rV (zx_BK B) 54 x0.val), (1, .int x1), (2, .int x2), (3, .int x3)] [] h := by
  unfold zs_Method_first_J32
  refine zx_iinc E 3 (x3 + (1 : Int32)) (lv1 := [(3, .int (x3 + (1 : Int32))), (0, zx_rV (zx_BK B) 54 x0.val), (1, .int x1), (2, .int x2)]) dd_Method_first_32 rfl rfl (by decide) rfl ?_
  refine zx_goto E 2 dd_Method_first_35 rfl ?_
  refine zx_sub [1, 2, 3, 0] rfl ?_
  exact hk2 x0 x1 x2 (x3 + (1 : Int32))
set_option maxHeartbeats 4000000 in
set_option maxRecDepth 20000 in
theorem zb_Method_first_2 {B : zx_B} (E : zx_E B zm_Method_first) (h : zx_H)  (k2 : (Fin 16 → Int32 → Int32 → Int32 → Option Int32)) (hk2 : ∀ (x0 : Fin 16) (x1 : Int32) (x2 : Int32) (x3 : Int32), zx_X B zm_Method_first (zx_QM B (fun r => ((some (Value.int r) : Option Value), h))) (k2 x0 x1 x2 x3) 0 0 2 [(0, zx_rV (zx_BK B) 54 x0.val), (1, .int x1), (2, .int x2), (3, .int x3)] [] h) (x0 : Fin 16) (x1 : Int32) (x2 : Int32) (x3 : Int32) : zx_X B zm_Method_first (zx_QM B (fun r => ((some (Value.int r) : Option Value), h))) (zs_Method_first_L2_body h  k2 x0 x1 x2 x3) 0 0 2 [(0, zx_rV (zx_BK B) 54 x0.val), (1, .int x1), (2, .int x2), (3, .int x3)] [] h := by
  unfold zs_Method_first_L2_body
  refine zx_iload_n E 3 dd_Method_first_2 rfl rfl ?_
  refine zx_aload_n E 0 dd_Method_first_3 rfl rfl ?_
  refine zx_getI E zd_Method_ruleCount zg_54 x0.isLt zw_160 dd_Method_first_4 ?_
  refine zx_icmp_ge E 38 dd_Method_first_7 rfl ?_ ?_
  rotate_left
  · refine zx_iconst E (-1 : Int32) dd_Method_first_38 (by decide) ?_
    exact zx_iret E rfl rfl dd_Method_first_39
  refine zx_aload_n E 0 dd_Method_first_10 rfl rfl ?_
  refine zx_getR E 55 x0.val zd_Method_kinds zg_54 x0.isLt (zr_Method_kinds _) zw_164 dd_Method_first_11 ?_
  refine zx_iload_n E 3 dd_Method_first_14 rfl rfl ?_
  refine zx_iald E zg_55 x0.isLt dd_Method_first_15 ?_
  refine zx_iload_n E 1 dd_Method_first_16 rfl rfl ?_
  refine zx_icmp_ne E 32 dd_Method_first_17 rfl ?_ ?_
  rotate_left
  · exact zj_Method_first_32 E h k2 hk2 x0 x1 x2 x3
  refine zx_aload_n E 0 dd_Method_first_20 rfl rfl ?_
  refine zx_getR E 56 x0.val zd_Method_targets zg_54 x0.isLt (zr_Method_targets _) zw_167 dd_Method_first_21 ?_
  refine zx_iload_n E 3 dd_Method_first_24 rfl rfl ?_
  refine zx_iald E zg_56 x0.isLt dd_Method_first_25 ?_
  refine zx_iload_n E 2 dd_Method_first_26 rfl rfl ?_
  refine zx_icmp_ne E 32 dd_Method_first_27 rfl ?_ ?_
  rotate_left
  · exact zj_Method_first_32 E h k2 hk2 x0 x1 x2 x3
  refine zx_iload_n E 3 dd_Method_first_30 rfl rfl ?_
  exact zx_iret E rfl rfl dd_Method_first_31
theorem zj_Method_first_2 {B : zx_B} (E : zx_E B zm_Method_first) (h : zx_H)  : ∀ (x0 : Fin 16) (x1 : Int32) (x2 : Int32) (x3 : Int32), zx_X B zm_Method_first (zx_QM B (fun r => ((some (Value.int r) : Option Value), h))) (zs_Method_first_L2 h  x0 x1 x2 x3) 0 0 2 [(0, zx_rV (zx_BK B) 54 x0.val), (1, .int x1), (2, .int x2), (3, .int x3)] [] h := by
  unfold zs_Method_first_L2
  generalize zx_fuel = n
  induction n with
  | zero => intros; exact zx_non
  | succ n ih => intro x0 x1 x2 x3; exact zb_Method_first_2 E h  _ ih x0 x1 x2 x3
set_option maxHeartbeats 4000000 in
set_option maxRecDepth 20000 in
theorem zt_Method_first (l : Launch) (K : zx_K) (th : Fin 16) (a1 : Int32) (a2 : Int32) (h : zx_H) (r : Int32) (hf : zs_Method_first th a1 a2 h = some r) : zx_MR l zm_Method_first zy_Method_first K [zx_rV K 54 th.val, .int a1, .int a2] h (some (.int r)) h := by
  refine zx_ofM (M := zm_Method_first) (y := zy_Method_first) (r := r) (as := [zx_rV K 54 th.val, .int a1, .int a2]) (ρ := (fun r => ((some (Value.int r) : Option Value), h))) (by decide) rfl hf (Nat.le_of_ble_eq_true rfl) ?_
  intro B hl hK E
  subst hK
  subst hl
  show zx_X B zm_Method_first _ _ 0 0 0 [(0, zx_rV (zx_BK B) 54 th.val), (1, .int a1), (2, .int a2)] [] h
  unfold zs_Method_first
  refine zx_iconst E (0 : Int32) dd_Method_first_0 (by decide) ?_
  refine zx_istore_n E (lv1 := [(3, .int (0 : Int32)), (0, zx_rV (zx_BK B) 54 th.val), (1, .int a1), (2, .int a2)]) dd_Method_first_1 rfl (by decide) rfl ?_
  refine zx_sub [1, 2, 3, 0] rfl ?_
  exact zj_Method_first_2 E h th a1 a2 (0 : Int32)
set_option maxHeartbeats 4000000 in
set_option maxRecDepth 20000 in
theorem zj_Method_repeats_69 {B : zx_B} (E : zx_E B zm_Method_repeats) (h : zx_H) (k2 : (Fin 16 → Int32 → Int32 → Option Bool)) (hk2 : ∀ (x0 : Fin 16) (x1 : Int32) (x2 : Int32), zx_X B zm_Method_repeats (zx_QM B (fun r => ((some (Value.int (zx_b r)) : Option Value), h))) (k2 x0 x1 x2) 0 0 2 [(0, zx_rV (zx_BK B) 54 x0.val), (1, .int x1), (2, .int x2)] [] h) (x0 : Fin 16) (x1 : Int32) (x2 : Int32) : zx_X B zm_Method_repeats (zx_QM B (fun r => ((some (Value.int (zx_b r)) : Option Value), h))) (zs_Method_repeats_J69 h k2 x0 x1 x2) 0 0 69 [(0, zx_rV (zx_BK B) 54 x0.val), (1, .int x1), (2, .int x2)] [] h := by
  unfold zs_Method_repeats_J69
  refine zx_iinc E 2 (x2 + (1 : Int32)) (lv1 := [(2, .int (x2 + (1 : Int32))), (0, zx_rV (zx_BK B) 54 x0.val), (1, .int x1)]) dd_Method_repeats_69 rfl rfl (by decide) rfl ?_
  refine zx_goto E 2 dd_Method_repeats_72 rfl ?_
  refine zx_sub [1, 2, 0] rfl ?_
  exact hk2 x0 x1 (x2 + (1 : Int32))
set_option maxHeartbeats 4000000 in
set_option maxRecDepth 20000 in
theorem zj_Method_repeats_47 {B : zx_B} (E : zx_E B zm_Method_repeats) (h : zx_H) (k2 : (Fin 16 → Int32 → Int32 → Option Bool)) (hk2 : ∀ (x0 : Fin 16) (x1 : Int32) (x2 : Int32), zx_X B zm_Method_repeats (zx_QM B (fun r => ((some (Value.int (zx_b r)) : Option Value), h))) (k2 x0 x1 x2) 0 0 2 [(0, zx_rV (zx_BK B) 54 x0.val), (1, .int x1), (2, .int x2)] [] h) (x0 : Fin 16) (x1 : Int32) (x2 : Int32) (s0 : Bool) : zx_X B zm_Method_repeats (zx_QM B (fun r => ((some (Value.int (zx_b r)) : Option Value), h))) (zs_Method_repeats_J47 h k2 x0 x1 x2 s0) 0 0 47 [(0, zx_rV (zx_BK B) 54 x0.val), (1, .int x1), (2, .int x2)] [.int (zx_b s0)] h := by
  unfold zs_Method_repeats_J47
  refine zx_istore_n E (lv1 := [(3, .int (zx_b s0)), (0, zx_rV (zx_BK B) 54 x0.val), (1, .int x1), (2, .int x2)]) dd_Method_repeats_47 rfl (by decide) rfl ?_
  refine zx_iload_n E 0 dd_Method_repeats_48 rfl rfl ?_
  refine zx_ifb_eq E (x := s0) 69 dd_Method_repeats_49 rfl ?_ ?_
  rotate_left
  · refine zx_sub [1, 2, 3] rfl ?_
    exact zj_Method_repeats_69 E h k2 hk2 x0 x1 x2
  refine zx_aload_n E 1 dd_Method_repeats_52 rfl rfl ?_
  refine zx_getR E 56 x0.val zd_Method_targets zg_54 x0.isLt (zr_Method_targets _) zw_167 dd_Method_repeats_53 ?_
  refine zx_iload_n E 3 dd_Method_repeats_56 rfl rfl ?_
  refine zx_iald E zg_56 x0.isLt dd_Method_repeats_57 ?_
  refine zx_aload_n E 1 dd_Method_repeats_58 rfl rfl ?_
  refine zx_getR E 56 x0.val zd_Method_targets zg_54 x0.isLt (zr_Method_targets _) zw_167 dd_Method_repeats_59 ?_
  refine zx_iload_n E 2 dd_Method_repeats_62 rfl rfl ?_
  refine zx_iald E zg_56 x0.isLt dd_Method_repeats_63 ?_
  refine zx_icmp_ne E 69 dd_Method_repeats_64 rfl ?_ ?_
  · refine zx_iconst E (1 : Int32) dd_Method_repeats_67 (by decide) ?_
    exact zx_zret E true rfl rfl rfl dd_Method_repeats_68
  refine zx_sub [1, 2, 3] rfl ?_
  exact zj_Method_repeats_69 E h k2 hk2 x0 x1 x2
set_option maxHeartbeats 4000000 in
set_option maxRecDepth 20000 in
theorem zj_Method_repeats_42 {B : zx_B} (E : zx_E B zm_Method_repeats) (h : zx_H) (k2 : (Fin 16 → Int32 → Int32 → Option Bool)) (hk2 : ∀ (x0 : Fin 16) (x1 : Int32) (x2 : Int32), zx_X B zm_Method_repeats (zx_QM B (fun r => ((some (Value.int (zx_b r)) : Option Value), h))) (k2 x0 x1 x2) 0 0 2 [(0, zx_rV (zx_BK B) 54 x0.val), (1, .int x1), (2, .int x2)] [] h) (x0 : Fin 16) (x1 : Int32) (x2 : Int32) : zx_X B zm_Method_repeats (zx_QM B (fun r => ((some (Value.int (zx_b r)) : Option Value), h))) (zs_Method_repeats_J42 h k2 x0 x1 x2) 0 0 42 [(0, zx_rV (zx_BK B) 54 x0.val), (1, .int x1), (2, .int x2)] [] h := by
  unfold zs_Method_repeats_J42
  refine zx_iconst E (1 : Int32) dd_Method_repeats_42 (by decide) ?_
  refine zx_goto E 47 dd_Method_repeats_43 rfl ?_
  exact zj_Method_repeats_47 E h k2 hk2 x0 x1 x2 true
set_option maxHeartbeats 4000000 in
set_option maxRecDepth 20000 in
theorem zj_Method_repeats_46 {B : zx_B} (E : zx_E B zm_Method_repeats) (h : zx_H) (k2 : (Fin 16 → Int32 → Int32 → Option Bool)) (hk2 : ∀ (x0 : Fin 16) (x1 : Int32) (x2 : Int32), zx_X B zm_Method_repeats (zx_QM B (fun r => ((some (Value.int (zx_b r)) : Option Value), h))) (k2 x0 x1 x2) 0 0 2 [(0, zx_rV (zx_BK B) 54 x0.val), (1, .int x1), (2, .int x2)] [] h) (x0 : Fin 16) (x1 : Int32) (x2 : Int32) : zx_X B zm_Method_repeats (zx_QM B (fun r => ((some (Value.int (zx_b r)) : Option Value), h))) (zs_Method_repeats_J46 h k2 x0 x1 x2) 0 0 46 [(0, zx_rV (zx_BK B) 54 x0.val), (1, .int x1), (2, .int x2)] [] h := by
  unfold zs_Method_repeats_J46
  refine zx_iconst E (0 : Int32) dd_Method_repeats_46 (by decide) ?_
  exact zj_Method_repeats_47 E h k2 hk2 x0 x1 x2 false
set_option maxHeartbeats 4000000 in
set_option maxRecDepth 20000 in
theorem zb_Method_repeats_2 {B : zx_B} (E : zx_E B zm_Method_repeats) (h : zx_H)  (k2 : (Fin 16 → Int32 → Int32 → Option Bool)) (hk2 : ∀ (x0 : Fin 16) (x1 : Int32) (x2 : Int32), zx_X B zm_Method_repeats (zx_QM B (fun r => ((some (Value.int (zx_b r)) : Option Value), h))) (k2 x0 x1 x2) 0 0 2 [(0, zx_rV (zx_BK B) 54 x0.val), (1, .int x1), (2, .int x2)] [] h) (x0 : Fin 16) (x1 : Int32) (x2 : Int32) : zx_X B zm_Method_repeats (zx_QM B (fun r => ((some (Value.int (zx_b r)) : Option Value), h))) (zs_Method_repeats_L2_body h  k2 x0 x1 x2) 0 0 2 [(0, zx_rV (zx_BK B) 54 x0.val), (1, .int x1), (2, .int x2)] [] h := by
  unfold zs_Method_repeats_L2_body
  refine zx_iload_n E 2 dd_Method_repeats_2 rfl rfl ?_
  refine zx_iload_n E 1 dd_Method_repeats_3 rfl rfl ?_
  refine zx_icmp_ge E 75 dd_Method_repeats_4 rfl ?_ ?_
  rotate_left
  · refine zx_iconst E (0 : Int32) dd_Method_repeats_75 (by decide) ?_
    exact zx_zret E false rfl rfl rfl dd_Method_repeats_76
  refine zx_aload_n E 0 dd_Method_repeats_7 rfl rfl ?_
  refine zx_getR E 55 x0.val zd_Method_kinds zg_54 x0.isLt (zr_Method_kinds _) zw_164 dd_Method_repeats_8 ?_
  refine zx_iload_n E 2 dd_Method_repeats_11 rfl rfl ?_
  refine zx_iald E zg_55 x0.isLt dd_Method_repeats_12 ?_
  refine zx_aload_n E 0 dd_Method_repeats_13 rfl rfl ?_
  refine zx_getR E 55 x0.val zd_Method_kinds zg_54 x0.isLt (zr_Method_kinds _) zw_164 dd_Method_repeats_14 ?_
  refine zx_iload_n E 1 dd_Method_repeats_17 rfl rfl ?_
  refine zx_iald E zg_55 x0.isLt dd_Method_repeats_18 ?_
  refine zx_icmp_eq E 42 dd_Method_repeats_19 rfl ?_ ?_
  rotate_left
  · exact zj_Method_repeats_42 E h k2 hk2 x0 x1 x2
  refine zx_aload_n E 0 dd_Method_repeats_22 rfl rfl ?_
  refine zx_getR E 55 x0.val zd_Method_kinds zg_54 x0.isLt (zr_Method_kinds _) zw_164 dd_Method_repeats_23 ?_
  refine zx_iload_n E 2 dd_Method_repeats_26 rfl rfl ?_
  refine zx_iald E zg_55 x0.isLt dd_Method_repeats_27 ?_
  refine zx_iconst E (2 : Int32) dd_Method_repeats_28 (by decide) ?_
  refine zx_icmp_gt E 46 dd_Method_repeats_29 rfl ?_ ?_
  rotate_left
  · exact zj_Method_repeats_46 E h k2 hk2 x0 x1 x2
  refine zx_aload_n E 0 dd_Method_repeats_32 rfl rfl ?_
  refine zx_getR E 55 x0.val zd_Method_kinds zg_54 x0.isLt (zr_Method_kinds _) zw_164 dd_Method_repeats_33 ?_
  refine zx_iload_n E 1 dd_Method_repeats_36 rfl rfl ?_
  refine zx_iald E zg_55 x0.isLt dd_Method_repeats_37 ?_
  refine zx_iconst E (2 : Int32) dd_Method_repeats_38 (by decide) ?_
  refine zx_icmp_gt E 46 dd_Method_repeats_39 rfl ?_ ?_
  · exact zj_Method_repeats_42 E h k2 hk2 x0 x1 x2
  exact zj_Method_repeats_46 E h k2 hk2 x0 x1 x2
theorem zj_Method_repeats_2 {B : zx_B} (E : zx_E B zm_Method_repeats) (h : zx_H)  : ∀ (x0 : Fin 16) (x1 : Int32) (x2 : Int32), zx_X B zm_Method_repeats (zx_QM B (fun r => ((some (Value.int (zx_b r)) : Option Value), h))) (zs_Method_repeats_L2 h  x0 x1 x2) 0 0 2 [(0, zx_rV (zx_BK B) 54 x0.val), (1, .int x1), (2, .int x2)] [] h := by
  unfold zs_Method_repeats_L2
  generalize zx_fuel = n
  induction n with
  | zero => intros; exact zx_non
  | succ n ih => intro x0 x1 x2; exact zb_Method_repeats_2 E h  _ ih x0 x1 x2
set_option maxHeartbeats 4000000 in
set_option maxRecDepth 20000 in
theorem zt_Method_repeats (l : Launch) (K : zx_K) (th : Fin 16) (a1 : Int32) (h : zx_H) (r : Bool) (hf : zs_Method_repeats th a1 h = some r) : zx_MR l zm_Method_repeats zy_Method_repeats K [zx_rV K 54 th.val, .int a1] h (some (.int (zx_b r))) h := by
  refine zx_ofM (M := zm_Method_repeats) (y := zy_Method_repeats) (r := r) (as := [zx_rV K 54 th.val, .int a1]) (ρ := (fun r => ((some (Value.int (zx_b r)) : Option Value), h))) (by decide) rfl hf (Nat.le_of_ble_eq_true rfl) ?_
  intro B hl hK E
  subst hK
  subst hl
  show zx_X B zm_Method_repeats _ _ 0 0 0 [(0, zx_rV (zx_BK B) 54 th.val), (1, .int a1)] [] h
  unfold zs_Method_repeats
  refine zx_iconst E (0 : Int32) dd_Method_repeats_0 (by decide) ?_
  refine zx_istore_n E (lv1 := [(2, .int (0 : Int32)), (0, zx_rV (zx_BK B) 54 th.val), (1, .int a1)]) dd_Method_repeats_1 rfl (by decide) rfl ?_
  refine zx_sub [1, 2, 0] rfl ?_
  exact zj_Method_repeats_2 E h th a1 (0 : Int32)
set_option maxHeartbeats 4000000 in
set_option maxRecDepth 20000 in
theorem zj_Model_hasFunction_20 {B : zx_B} (E : zx_E B zm_Model_hasFunction) (h : zx_H)   : zx_X B zm_Model_hasFunction (zx_QM B (fun r => ((some (Value.int (zx_b r)) : Option Value), h))) (zs_Model_hasFunction_J20 h  ) 0 0 20 [] [] h := by
  unfold zs_Model_hasFunction_J20
  refine zx_iconst E (0 : Int32) dd_Model_hasFunction_20 (by decide) ?_
  exact zx_zret E false rfl rfl rfl dd_Model_hasFunction_21
set_option maxHeartbeats 4000000 in
set_option maxRecDepth 20000 in
theorem zt_Model_hasFunction (l : Launch) (K : zx_K) (a1 : Int64) (h : zx_H) (r : Bool) (hf : zs_Model_hasFunction a1 h = some r) : zx_MR l zm_Model_hasFunction zy_Model_hasFunction K [zx_rV K 11 0, .long a1] h (some (.int (zx_b r))) h := by
  refine zx_ofM (M := zm_Model_hasFunction) (y := zy_Model_hasFunction) (r := r) (as := [zx_rV K 11 0, .long a1]) (ρ := (fun r => ((some (Value.int (zx_b r)) : Option Value), h))) (by decide) rfl hf (Nat.le_of_ble_eq_true rfl) ?_
  intro B hl hK E
  subst hK
  subst hl
  show zx_X B zm_Model_hasFunction _ _ 0 0 0 [(0, zx_rV (zx_BK B) 11 0), (1, .long a1)] [] h
  unfold zs_Model_hasFunction
  refine zx_lload_n E 1 dd_Model_hasFunction_0 rfl rfl ?_
  refine zx_lconst E (0 : Int64) dd_Model_hasFunction_1 rfl ?_
  refine zx_lcmp_lt E 20 dd_Model_hasFunction_2 dd_Model_hasFunction_3 rfl ?_ ?_
  rotate_left
  · refine zx_sub [] rfl ?_
    exact zj_Model_hasFunction_20 E h
  refine zx_lload_n E 1 dd_Model_hasFunction_6 rfl rfl ?_
  refine zx_aload_n E 0 dd_Model_hasFunction_7 rfl rfl ?_
  refine zx_getI E zd_Model_functionCount zg_11 Nat.zero_lt_one zw_211 dd_Model_hasFunction_8 ?_
  refine zx_i2l E dd_Model_hasFunction_11 ?_
  refine zx_lcmp_ge E 20 dd_Model_hasFunction_12 dd_Model_hasFunction_13 rfl ?_ ?_
  rotate_left
  · refine zx_sub [] rfl ?_
    exact zj_Model_hasFunction_20 E h
  refine zx_iconst E (1 : Int32) dd_Model_hasFunction_16 (by decide) ?_
  refine zx_goto E 21 dd_Model_hasFunction_17 rfl ?_
  exact zx_zret E true rfl rfl rfl dd_Model_hasFunction_21
set_option maxHeartbeats 4000000 in
set_option maxRecDepth 20000 in
theorem zt_Model_addMethod (l : Launch) (K : zx_K) (a1 : Int32) (a2 : Int32) (h : zx_H) (r : (Int32 × zx_H)) (hf : zs_Model_addMethod a1 a2 h = some r) : zx_MR l zm_Model_addMethod zy_Model_addMethod K [zx_rV K 11 0, .int a1, .int a2] h (some (.int r.1)) r.2 := by
  refine zx_ofM (M := zm_Model_addMethod) (y := zy_Model_addMethod) (r := r) (as := [zx_rV K 11 0, .int a1, .int a2]) (ρ := (fun r => ((some (Value.int r.1) : Option Value), r.2))) (by decide) rfl hf (Nat.le_of_ble_eq_true rfl) ?_
  intro B hl hK E
  subst hK
  subst hl
  show zx_X B zm_Model_addMethod _ _ 0 0 0 [(0, zx_rV (zx_BK B) 11 0), (1, .int a1), (2, .int a2)] [] h
  unfold zs_Model_addMethod
  refine zx_aload_n E 0 dd_Model_addMethod_0 rfl rfl ?_
  refine zx_getI E zd_Model_methodCount zg_11 Nat.zero_lt_one zw_214 dd_Model_addMethod_1 ?_
  refine zx_bipush E (16 : Int32) dd_Model_addMethod_4 (by decide) ?_
  refine zx_icmp_lt E 11 dd_Model_addMethod_6 rfl ?_ ?_
  · refine zx_iconst E (-1 : Int32) dd_Model_addMethod_9 (by decide) ?_
    exact zx_iret E rfl rfl dd_Model_addMethod_10
  refine zx_aload_n E 0 dd_Model_addMethod_11 rfl rfl ?_
  refine zx_getI E zd_Model_methodCount zg_11 Nat.zero_lt_one zw_214 dd_Model_addMethod_12 ?_
  refine zx_leti (fun y1 => ?_)
  refine zx_istore_n E (lv1 := [(3, .int y1), (0, zx_rV (zx_BK B) 11 0), (1, .int a1), (2, .int a2)]) dd_Model_addMethod_15 rfl (by decide) rfl ?_
  refine zx_aload_n E 1 dd_Model_addMethod_16 rfl rfl ?_
  refine zx_dup E dd_Model_addMethod_17 rfl ?_
  refine zx_getI E zd_Model_methodCount zg_11 Nat.zero_lt_one zw_214 dd_Model_addMethod_18 ?_
  refine zx_iconst E (1 : Int32) dd_Model_addMethod_21 (by decide) ?_
  refine zx_iadd E dd_Model_addMethod_22 ?_
  refine zx_putI E zd_Model_methodCount zp_Model_methodCount zg_11 Nat.zero_lt_one rfl rfl zw_214 dd_Model_addMethod_23 ?_
  refine zx_letH (fun h2 => ?_)
  refine zx_aload_n E 1 dd_Model_addMethod_26 rfl rfl ?_
  refine zx_getR E 13 0 zd_Model_methods zg_11 Nat.zero_lt_one (zr_Model_methods _) zw_206 dd_Model_addMethod_27 ?_
  refine zx_iload_n E 0 dd_Model_addMethod_30 rfl rfl ?_
  refine zx_aaldM E dd_Model_addMethod_31 (fun j3 => ?_)
  refine zx_iload_n E 2 dd_Model_addMethod_32 rfl rfl ?_
  refine zx_putI E zd_Method_from zp_Method_from zg_54 j3.isLt rfl rfl zw_153 dd_Model_addMethod_33 ?_
  refine zx_letH (fun h4 => ?_)
  refine zx_aload_n E 1 dd_Model_addMethod_36 rfl rfl ?_
  refine zx_getR E 13 0 zd_Model_methods zg_11 Nat.zero_lt_one (zr_Model_methods _) zw_206 dd_Model_addMethod_37 ?_
  refine zx_iload_n E 0 dd_Model_addMethod_40 rfl rfl ?_
  refine zx_aaldM E dd_Model_addMethod_41 (fun j5 => ?_)
  refine zx_iload_n E 3 dd_Model_addMethod_42 rfl rfl ?_
  refine zx_putI E zd_Method_to zp_Method_to zg_54 j5.isLt rfl rfl zw_157 dd_Model_addMethod_43 ?_
  refine zx_letH (fun h6 => ?_)
  refine zx_iload_n E 0 dd_Model_addMethod_46 rfl rfl ?_
  exact zx_iret E rfl rfl dd_Model_addMethod_47
set_option maxHeartbeats 4000000 in
set_option maxRecDepth 20000 in
theorem zt_Model_addFunction (l : Launch) (K : zx_K) (a1 : Int32) (a2 : Int32) (a3 : Int32) (a4 : Int32) (h : zx_H) (r : (Int32 × zx_H)) (hf : zs_Model_addFunction a1 a2 a3 a4 h = some r) : zx_MR l zm_Model_addFunction zy_Model_addFunction K [zx_rV K 11 0, .int a1, .int a2, .int a3, .int a4] h (some (.int r.1)) r.2 := by
  refine zx_ofM (M := zm_Model_addFunction) (y := zy_Model_addFunction) (r := r) (as := [zx_rV K 11 0, .int a1, .int a2, .int a3, .int a4]) (ρ := (fun r => ((some (Value.int r.1) : Option Value), r.2))) (by decide) rfl hf (Nat.le_of_ble_eq_true rfl) ?_
  intro B hl hK E
  subst hK
  subst hl
  show zx_X B zm_Model_addFunction _ _ 0 0 0 [(0, zx_rV (zx_BK B) 11 0), (1, .int a1), (2, .int a2), (3, .int a3), (4, .int a4)] [] h
  unfold zs_Model_addFunction
  refine zx_aload_n E 0 dd_Model_addFunction_0 rfl rfl ?_
  refine zx_getI E zd_Model_functionCount zg_11 Nat.zero_lt_one zw_211 dd_Model_addFunction_1 ?_
  refine zx_bipush E (8 : Int32) dd_Model_addFunction_4 (by decide) ?_
  refine zx_icmp_lt E 11 dd_Model_addFunction_6 rfl ?_ ?_
  · refine zx_iconst E (-1 : Int32) dd_Model_addFunction_9 (by decide) ?_
    exact zx_iret E rfl rfl dd_Model_addFunction_10
  refine zx_aload_n E 0 dd_Model_addFunction_11 rfl rfl ?_
  refine zx_getI E zd_Model_functionCount zg_11 Nat.zero_lt_one zw_211 dd_Model_addFunction_12 ?_
  refine zx_leti (fun y1 => ?_)
  refine zx_istore E (lv1 := [(5, .int y1), (0, zx_rV (zx_BK B) 11 0), (1, .int a1), (2, .int a2), (3, .int a3), (4, .int a4)]) dd_Model_addFunction_15 (by decide) rfl ?_
  refine zx_aload_n E 1 dd_Model_addFunction_17 rfl rfl ?_
  refine zx_dup E dd_Model_addFunction_18 rfl ?_
  refine zx_getI E zd_Model_functionCount zg_11 Nat.zero_lt_one zw_211 dd_Model_addFunction_19 ?_
  refine zx_iconst E (1 : Int32) dd_Model_addFunction_22 (by decide) ?_
  refine zx_iadd E dd_Model_addFunction_23 ?_
  refine zx_putI E zd_Model_functionCount zp_Model_functionCount zg_11 Nat.zero_lt_one rfl rfl zw_211 dd_Model_addFunction_24 ?_
  refine zx_letH (fun h2 => ?_)
  refine zx_aload_n E 1 dd_Model_addFunction_27 rfl rfl ?_
  refine zx_getR E 12 0 zd_Model_functions zg_11 Nat.zero_lt_one (zr_Model_functions _) zw_202 dd_Model_addFunction_28 ?_
  refine zx_iload E 0 dd_Model_addFunction_31 rfl ?_
  refine zx_aaldF E dd_Model_addFunction_33 (fun j3 => ?_)
  refine zx_astore E (lv1 := [(6, zx_rV (zx_BK B) 53 j3.val), (5, .int y1), (0, zx_rV (zx_BK B) 11 0), (1, .int a1), (2, .int a2), (3, .int a3), (4, .int a4)]) dd_Model_addFunction_34 (by decide) rfl ?_
  refine zx_aload E 0 dd_Model_addFunction_36 rfl ?_
  refine zx_iload_n E 3 dd_Model_addFunction_38 rfl rfl ?_
  refine zx_putI E zd_Function_from zp_Function_from zg_53 j3.isLt rfl rfl zw_78 dd_Model_addFunction_39 ?_
  refine zx_letH (fun h4 => ?_)
  refine zx_aload E 0 dd_Model_addFunction_42 rfl ?_
  refine zx_iload_n E 4 dd_Model_addFunction_44 rfl rfl ?_
  refine zx_putI E zd_Function_to zp_Function_to zg_53 j3.isLt rfl rfl zw_82 dd_Model_addFunction_45 ?_
  refine zx_letH (fun h5 => ?_)
  refine zx_aload E 0 dd_Model_addFunction_48 rfl ?_
  refine zx_iload_n E 5 dd_Model_addFunction_50 rfl rfl ?_
  refine zx_putI E zd_Function_a zp_Function_a zg_53 j3.isLt rfl rfl zw_85 dd_Model_addFunction_51 ?_
  refine zx_letH (fun h6 => ?_)
  refine zx_aload E 0 dd_Model_addFunction_54 rfl ?_
  refine zx_iload E 6 dd_Model_addFunction_56 rfl ?_
  refine zx_putI E zd_Function_b zp_Function_b zg_53 j3.isLt rfl rfl zw_87 dd_Model_addFunction_58 ?_
  refine zx_letH (fun h7 => ?_)
  refine zx_iload E 1 dd_Model_addFunction_61 rfl ?_
  exact zx_iret E rfl rfl dd_Model_addFunction_63
set_option maxHeartbeats 4000000 in
set_option maxRecDepth 20000 in
theorem zj_Model_nameFunctions_92 {B : zx_B} (E : zx_E B zm_Model_nameFunctions) (k28 : (Int32 → zx_H → Option zx_H)) (hk28 : ∀ (x1 : Int32) (h : zx_H), zx_X B zm_Model_nameFunctions (zx_QM B (fun r => ((none : Option Value), r))) (k28 x1 h) 0 0 28 [(0, zx_rV (zx_BK B) 11 0), (1, .int x1)] [] h) (k45 : (Int32 → Fin 16 → Int32 → zx_H → Option zx_H)) (hk45 : ∀ (x1 : Int32) (x2 : Fin 16) (x3 : Int32) (h : zx_H), zx_X B zm_Model_nameFunctions (zx_QM B (fun r => ((none : Option Value), r))) (k45 x1 x2 x3 h) 0 0 45 [(0, zx_rV (zx_BK B) 11 0), (1, .int x1), (2, zx_rV (zx_BK B) 54 x2.val), (3, .int x3)] [] h) (x1 : Int32) (x2 : Fin 16) (x3 : Int32) (h : zx_H) : zx_X B zm_Model_nameFunctions (zx_QM B (fun r => ((none : Option Value), r))) (zs_Model_nameFunctions_J92 k28 k45 x1 x2 x3 h) 0 0 92 [(0, zx_rV (zx_BK B) 11 0), (1, .int x1), (2, zx_rV (zx_BK B) 54 x2.val), (3, .int x3)] [] h := by
  unfold zs_Model_nameFunctions_J92
  refine zx_iinc E 3 (x3 + (1 : Int32)) (lv1 := [(3, .int (x3 + (1 : Int32))), (0, zx_rV (zx_BK B) 11 0), (1, .int x1), (2, zx_rV (zx_BK B) 54 x2.val)]) dd_Model_nameFunctions_92 rfl rfl (by decide) rfl ?_
  refine zx_goto E 45 dd_Model_nameFunctions_95 rfl ?_
  refine zx_sub [1, 2, 3, 0] rfl ?_
  exact hk45 x1 x2 (x3 + (1 : Int32)) h
set_option maxHeartbeats 4000000 in
set_option maxRecDepth 20000 in
theorem zb_Model_nameFunctions_45 {B : zx_B} (E : zx_E B zm_Model_nameFunctions) (k28 : (Int32 → zx_H → Option zx_H)) (hk28 : ∀ (x1 : Int32) (h : zx_H), zx_X B zm_Model_nameFunctions (zx_QM B (fun r => ((none : Option Value), r))) (k28 x1 h) 0 0 28 [(0, zx_rV (zx_BK B) 11 0), (1, .int x1)] [] h) (k45 : (Int32 → Fin 16 → Int32 → zx_H → Option zx_H)) (hk45 : ∀ (x1 : Int32) (x2 : Fin 16) (x3 : Int32) (h : zx_H), zx_X B zm_Model_nameFunctions (zx_QM B (fun r => ((none : Option Value), r))) (k45 x1 x2 x3 h) 0 0 45 [(0, zx_rV (zx_BK B) 11 0), (1, .int x1), (2, zx_rV (zx_BK B) 54 x2.val), (3, .int x3)] [] h) (x1 : Int32) (x2 : Fin 16) (x3 : Int32) (h : zx_H) : zx_X B zm_Model_nameFunctions (zx_QM B (fun r => ((none : Option Value), r))) (zs_Model_nameFunctions_L45_body k28 k45 x1 x2 x3 h) 0 0 45 [(0, zx_rV (zx_BK B) 11 0), (1, .int x1), (2, zx_rV (zx_BK B) 54 x2.val), (3, .int x3)] [] h := by
  unfold zs_Model_nameFunctions_L45_body
  refine zx_iload_n E 3 dd_Model_nameFunctions_45 rfl rfl ?_
  refine zx_aload_n E 2 dd_Model_nameFunctions_46 rfl rfl ?_
  refine zx_getI E zd_Method_ruleCount zg_54 x2.isLt zw_162 dd_Model_nameFunctions_47 ?_
  refine zx_icmp_ge E 98 dd_Model_nameFunctions_50 rfl ?_ ?_
  rotate_left
  · refine zx_iinc E 1 (x1 + (1 : Int32)) (lv1 := [(1, .int (x1 + (1 : Int32))), (0, zx_rV (zx_BK B) 11 0), (2, zx_rV (zx_BK B) 54 x2.val), (3, .int x3)]) dd_Model_nameFunctions_98 rfl rfl (by decide) rfl ?_
    refine zx_goto E 28 dd_Model_nameFunctions_101 rfl ?_
    refine zx_sub [1, 0] rfl ?_
    exact hk28 (x1 + (1 : Int32)) h
  refine zx_aload_n E 2 dd_Model_nameFunctions_53 rfl rfl ?_
  refine zx_getR E 55 x2.val zd_Method_kinds zg_54 x2.isLt (zr_Method_kinds _) zw_166 dd_Model_nameFunctions_54 ?_
  refine zx_iload_n E 3 dd_Model_nameFunctions_57 rfl rfl ?_
  refine zx_iald E zg_55 x2.isLt dd_Model_nameFunctions_58 ?_
  refine zx_iconst E (4 : Int32) dd_Model_nameFunctions_59 (by decide) ?_
  refine zx_icmp_ne E 92 dd_Model_nameFunctions_60 rfl ?_ ?_
  rotate_left
  · exact zj_Model_nameFunctions_92 E k28 hk28 k45 hk45 x1 x2 x3 h
  refine zx_aload_n E 0 dd_Model_nameFunctions_63 rfl rfl ?_
  refine zx_aload_n E 2 dd_Model_nameFunctions_64 rfl rfl ?_
  refine zx_getR E 57 x2.val zd_Method_whats zg_54 x2.isLt (zr_Method_whats _) zw_171 dd_Model_nameFunctions_65 ?_
  refine zx_iload_n E 3 dd_Model_nameFunctions_68 rfl rfl ?_
  refine zx_lald E zg_57 x2.isLt dd_Model_nameFunctions_69 ?_
  refine zx_callV_z (T := zx_TModel) E [.long (h.2 57 x2.val x3.toNatClampNeg)] (fun rZ eZ => zt_Model_hasFunction _ _ (h.2 57 x2.val x3.toNatClampNeg) h _ eZ) zg_11 Nat.zero_lt_one rfl zc_Model_61 ⟨by decide, by decide⟩ (Nat.zero_le _) (Nat.zero_le _) rfl rfl (Nat.le_of_ble_eq_true rfl) dd_Model_nameFunctions_70 (fun r1 => ?_)
  refine zx_ifb_eq E (x := r1) 92 dd_Model_nameFunctions_73 rfl ?_ ?_
  rotate_left
  · exact zj_Model_nameFunctions_92 E k28 hk28 k45 hk45 x1 x2 x3 h
  refine zx_aload_n E 0 dd_Model_nameFunctions_76 rfl rfl ?_
  refine zx_getR E 12 0 zd_Model_functions zg_11 Nat.zero_lt_one (zr_Model_functions _) zw_202 dd_Model_nameFunctions_77 ?_
  refine zx_aload_n E 2 dd_Model_nameFunctions_80 rfl rfl ?_
  refine zx_getR E 57 x2.val zd_Method_whats zg_54 x2.isLt (zr_Method_whats _) zw_171 dd_Model_nameFunctions_81 ?_
  refine zx_iload_n E 3 dd_Model_nameFunctions_84 rfl rfl ?_
  refine zx_lald E zg_57 x2.isLt dd_Model_nameFunctions_85 ?_
  refine zx_l2i E dd_Model_nameFunctions_86 ?_
  refine zx_aaldF E dd_Model_nameFunctions_87 (fun j2 => ?_)
  refine zx_iconst E (1 : Int32) dd_Model_nameFunctions_88 (by decide) ?_
  refine zx_putI E zd_Function_named zp_Function_named zg_53 j2.isLt rfl rfl zw_89 dd_Model_nameFunctions_89 ?_
  refine zx_letH (fun h3 => ?_)
  exact zj_Model_nameFunctions_92 E k28 hk28 k45 hk45 x1 x2 x3 h3
theorem zj_Model_nameFunctions_45 {B : zx_B} (E : zx_E B zm_Model_nameFunctions) (k28 : (Int32 → zx_H → Option zx_H)) (hk28 : ∀ (x1 : Int32) (h : zx_H), zx_X B zm_Model_nameFunctions (zx_QM B (fun r => ((none : Option Value), r))) (k28 x1 h) 0 0 28 [(0, zx_rV (zx_BK B) 11 0), (1, .int x1)] [] h) : ∀ (x1 : Int32) (x2 : Fin 16) (x3 : Int32) (h : zx_H), zx_X B zm_Model_nameFunctions (zx_QM B (fun r => ((none : Option Value), r))) (zs_Model_nameFunctions_L45 k28 x1 x2 x3 h) 0 0 45 [(0, zx_rV (zx_BK B) 11 0), (1, .int x1), (2, zx_rV (zx_BK B) 54 x2.val), (3, .int x3)] [] h := by
  unfold zs_Model_nameFunctions_L45
  generalize zx_fuel = n
  induction n with
  | zero => intros; exact zx_non
  | succ n ih => intro x1 x2 x3 h; exact zb_Model_nameFunctions_45 E k28 hk28 _ ih x1 x2 x3 h
set_option maxHeartbeats 4000000 in
set_option maxRecDepth 20000 in
theorem zb_Model_nameFunctions_28 {B : zx_B} (E : zx_E B zm_Model_nameFunctions)  (k28 : (Int32 → zx_H → Option zx_H)) (hk28 : ∀ (x1 : Int32) (h : zx_H), zx_X B zm_Model_nameFunctions (zx_QM B (fun r => ((none : Option Value), r))) (k28 x1 h) 0 0 28 [(0, zx_rV (zx_BK B) 11 0), (1, .int x1)] [] h) (x1 : Int32) (h : zx_H) : zx_X B zm_Model_nameFunctions (zx_QM B (fun r => ((none : Option Value), r))) (zs_Model_nameFunctions_L28_body  k28 x1 h) 0 0 28 [(0, zx_rV (zx_BK B) 11 0), (1, .int x1)] [] h := by
  unfold zs_Model_nameFunctions_L28_body
  refine zx_iload_n E 1 dd_Model_nameFunctions_28 rfl rfl ?_
  refine zx_aload_n E 0 dd_Model_nameFunctions_29 rfl rfl ?_
  refine zx_getI E zd_Model_methodCount zg_11 Nat.zero_lt_one zw_214 dd_Model_nameFunctions_30 ?_
  refine zx_icmp_ge E 104 dd_Model_nameFunctions_33 rfl ?_ ?_
  rotate_left
  · exact zx_vret E rfl rfl dd_Model_nameFunctions_104
  refine zx_aload_n E 0 dd_Model_nameFunctions_36 rfl rfl ?_
  refine zx_getR E 13 0 zd_Model_methods zg_11 Nat.zero_lt_one (zr_Model_methods _) zw_206 dd_Model_nameFunctions_37 ?_
  refine zx_iload_n E 1 dd_Model_nameFunctions_40 rfl rfl ?_
  refine zx_aaldM E dd_Model_nameFunctions_41 (fun j1 => ?_)
  refine zx_astore_n E (lv1 := [(2, zx_rV (zx_BK B) 54 j1.val), (0, zx_rV (zx_BK B) 11 0), (1, .int x1)]) dd_Model_nameFunctions_42 rfl (by decide) rfl ?_
  refine zx_iconst E (0 : Int32) dd_Model_nameFunctions_43 (by decide) ?_
  refine zx_istore_n E (lv1 := [(3, .int (0 : Int32)), (2, zx_rV (zx_BK B) 54 j1.val), (0, zx_rV (zx_BK B) 11 0), (1, .int x1)]) dd_Model_nameFunctions_44 rfl (by decide) rfl ?_
  refine zx_sub [2, 3, 1, 0] rfl ?_
  exact zj_Model_nameFunctions_45 E k28 hk28 x1 j1 (0 : Int32) h
theorem zj_Model_nameFunctions_28 {B : zx_B} (E : zx_E B zm_Model_nameFunctions)  : ∀ (x1 : Int32) (h : zx_H), zx_X B zm_Model_nameFunctions (zx_QM B (fun r => ((none : Option Value), r))) (zs_Model_nameFunctions_L28  x1 h) 0 0 28 [(0, zx_rV (zx_BK B) 11 0), (1, .int x1)] [] h := by
  unfold zs_Model_nameFunctions_L28
  generalize zx_fuel = n
  induction n with
  | zero => intros; exact zx_non
  | succ n ih => intro x1 h; exact zb_Model_nameFunctions_28 E  _ ih x1 h
set_option maxHeartbeats 4000000 in
set_option maxRecDepth 20000 in
theorem zb_Model_nameFunctions_2 {B : zx_B} (E : zx_E B zm_Model_nameFunctions)  (k2 : (Int32 → zx_H → Option zx_H)) (hk2 : ∀ (x1 : Int32) (h : zx_H), zx_X B zm_Model_nameFunctions (zx_QM B (fun r => ((none : Option Value), r))) (k2 x1 h) 0 0 2 [(0, zx_rV (zx_BK B) 11 0), (1, .int x1)] [] h) (x1 : Int32) (h : zx_H) : zx_X B zm_Model_nameFunctions (zx_QM B (fun r => ((none : Option Value), r))) (zs_Model_nameFunctions_L2_body  k2 x1 h) 0 0 2 [(0, zx_rV (zx_BK B) 11 0), (1, .int x1)] [] h := by
  unfold zs_Model_nameFunctions_L2_body
  refine zx_iload_n E 1 dd_Model_nameFunctions_2 rfl rfl ?_
  refine zx_aload_n E 0 dd_Model_nameFunctions_3 rfl rfl ?_
  refine zx_getI E zd_Model_functionCount zg_11 Nat.zero_lt_one zw_211 dd_Model_nameFunctions_4 ?_
  refine zx_icmp_ge E 26 dd_Model_nameFunctions_7 rfl ?_ ?_
  rotate_left
  · refine zx_iconst E (0 : Int32) dd_Model_nameFunctions_26 (by decide) ?_
    refine zx_istore_n E (lv1 := [(1, .int (0 : Int32)), (0, zx_rV (zx_BK B) 11 0)]) dd_Model_nameFunctions_27 rfl (by decide) rfl ?_
    refine zx_sub [1, 0] rfl ?_
    exact zj_Model_nameFunctions_28 E (0 : Int32) h
  refine zx_aload_n E 0 dd_Model_nameFunctions_10 rfl rfl ?_
  refine zx_getR E 12 0 zd_Model_functions zg_11 Nat.zero_lt_one (zr_Model_functions _) zw_202 dd_Model_nameFunctions_11 ?_
  refine zx_iload_n E 1 dd_Model_nameFunctions_14 rfl rfl ?_
  refine zx_aaldF E dd_Model_nameFunctions_15 (fun j1 => ?_)
  refine zx_iconst E (0 : Int32) dd_Model_nameFunctions_16 (by decide) ?_
  refine zx_putI E zd_Function_named zp_Function_named zg_53 j1.isLt rfl rfl zw_89 dd_Model_nameFunctions_17 ?_
  refine zx_letH (fun h2 => ?_)
  refine zx_iinc E 1 (x1 + (1 : Int32)) (lv1 := [(1, .int (x1 + (1 : Int32))), (0, zx_rV (zx_BK B) 11 0)]) dd_Model_nameFunctions_20 rfl rfl (by decide) rfl ?_
  refine zx_goto E 2 dd_Model_nameFunctions_23 rfl ?_
  refine zx_sub [1, 0] rfl ?_
  exact hk2 (x1 + (1 : Int32)) h2
theorem zj_Model_nameFunctions_2 {B : zx_B} (E : zx_E B zm_Model_nameFunctions)  : ∀ (x1 : Int32) (h : zx_H), zx_X B zm_Model_nameFunctions (zx_QM B (fun r => ((none : Option Value), r))) (zs_Model_nameFunctions_L2  x1 h) 0 0 2 [(0, zx_rV (zx_BK B) 11 0), (1, .int x1)] [] h := by
  unfold zs_Model_nameFunctions_L2
  generalize zx_fuel = n
  induction n with
  | zero => intros; exact zx_non
  | succ n ih => intro x1 h; exact zb_Model_nameFunctions_2 E  _ ih x1 h
set_option maxHeartbeats 4000000 in
set_option maxRecDepth 20000 in
theorem zt_Model_nameFunctions (l : Launch) (K : zx_K)  (h : zx_H) (r : zx_H) (hf : zs_Model_nameFunctions  h = some r) : zx_MR l zm_Model_nameFunctions zy_Model_nameFunctions K [zx_rV K 11 0] h none r := by
  refine zx_ofM (M := zm_Model_nameFunctions) (y := zy_Model_nameFunctions) (r := r) (as := [zx_rV K 11 0]) (ρ := (fun r => ((none : Option Value), r))) (by decide) rfl hf (Nat.le_of_ble_eq_true rfl) ?_
  intro B hl hK E
  subst hK
  subst hl
  show zx_X B zm_Model_nameFunctions _ _ 0 0 0 [(0, zx_rV (zx_BK B) 11 0)] [] h
  unfold zs_Model_nameFunctions
  refine zx_iconst E (0 : Int32) dd_Model_nameFunctions_0 (by decide) ?_
  refine zx_istore_n E (lv1 := [(1, .int (0 : Int32)), (0, zx_rV (zx_BK B) 11 0)]) dd_Model_nameFunctions_1 rfl (by decide) rfl ?_
  refine zx_sub [1, 0] rfl ?_
  exact zj_Model_nameFunctions_2 E (0 : Int32) h
set_option maxHeartbeats 4000000 in
set_option maxRecDepth 20000 in
theorem zt_Types_nameIn (l : Launch) (K : zx_K) (a0 : Int64) (a2 : Int32) (h : zx_H) (r : Int32) (hf : zs_Types_nameIn a0 a2 h = some r) : zx_MR l zm_Types_nameIn zy_Types_nameIn K [.long a0, .int a2] h (some (.int r)) h := by
  refine zx_ofM (M := zm_Types_nameIn) (y := zy_Types_nameIn) (r := r) (as := [.long a0, .int a2]) (ρ := (fun r => ((some (Value.int r) : Option Value), h))) (by decide) rfl hf (Nat.le_of_ble_eq_true rfl) ?_
  intro B hl hK E
  subst hK
  subst hl
  show zx_X B zm_Types_nameIn _ _ 0 0 0 [(0, .long a0), (2, .int a2)] [] h
  unfold zs_Types_nameIn
  refine zx_lload_n E 0 dd_Types_nameIn_0 rfl rfl ?_
  refine zx_bipush E (8 : Int32) dd_Types_nameIn_1 (by decide) ?_
  refine zx_iload_n E 1 dd_Types_nameIn_3 rfl rfl ?_
  refine zx_imul E dd_Types_nameIn_4 ?_
  refine zx_lushr E dd_Types_nameIn_5 ?_
  refine zx_l2i E dd_Types_nameIn_6 ?_
  refine zx_sipush E (255 : Int32) dd_Types_nameIn_7 (by decide) ?_
  refine zx_iand E dd_Types_nameIn_10 ?_
  exact zx_iret E rfl rfl dd_Types_nameIn_11
set_option maxHeartbeats 4000000 in
set_option maxRecDepth 20000 in
theorem zb_Types_placeOf_27 {B : zx_B} (E : zx_E B zm_Types_placeOf) (h : zx_H)  (k27 : (Int32 → Int64 → Int32 → Int32 → Option Int32)) (hk27 : ∀ (x1 : Int32) (x2 : Int64) (x4 : Int32) (x5 : Int32), zx_X B zm_Types_placeOf (zx_QM B (fun r => ((some (Value.int r) : Option Value), h))) (k27 x1 x2 x4 x5) 0 0 27 [(0, zx_rV (zx_BK B) 1 0), (1, .int x1), (2, .long x2), (4, .int x4), (5, .int x5)] [] h) (x1 : Int32) (x2 : Int64) (x4 : Int32) (x5 : Int32) : zx_X B zm_Types_placeOf (zx_QM B (fun r => ((some (Value.int r) : Option Value), h))) (zs_Types_placeOf_L27_body h  k27 x1 x2 x4 x5) 0 0 27 [(0, zx_rV (zx_BK B) 1 0), (1, .int x1), (2, .long x2), (4, .int x4), (5, .int x5)] [] h := by
  unfold zs_Types_placeOf_L27_body
  refine zx_iload E 4 dd_Types_placeOf_27 rfl ?_
  refine zx_iload E 3 dd_Types_placeOf_29 rfl ?_
  refine zx_icmp_ge E 61 dd_Types_placeOf_31 rfl ?_ ?_
  rotate_left
  · refine zx_iconst E (-1 : Int32) dd_Types_placeOf_61 (by decide) ?_
    exact zx_iret E rfl rfl dd_Types_placeOf_62
  refine zx_aload_n E 0 dd_Types_placeOf_34 rfl rfl ?_
  refine zx_getR E 5 0 zd_Types_names zg_1 Nat.zero_lt_one (zr_Types_names _) zw_44 dd_Types_placeOf_35 ?_
  refine zx_iload_n E 1 dd_Types_placeOf_38 rfl rfl ?_
  refine zx_bipush E (8 : Int32) dd_Types_placeOf_39 (by decide) ?_
  refine zx_imul E dd_Types_placeOf_41 ?_
  refine zx_iload E 4 dd_Types_placeOf_42 rfl ?_
  refine zx_iadd E dd_Types_placeOf_44 ?_
  refine zx_iald E zg_5 Nat.zero_lt_one dd_Types_placeOf_45 ?_
  refine zx_i2l E dd_Types_placeOf_46 ?_
  refine zx_lload_n E 2 dd_Types_placeOf_47 rfl rfl ?_
  refine zx_lcmp_ne E 55 dd_Types_placeOf_48 dd_Types_placeOf_49 rfl ?_ ?_
  · refine zx_iload E 4 dd_Types_placeOf_52 rfl ?_
    exact zx_iret E rfl rfl dd_Types_placeOf_54
  refine zx_iinc E 4 (x5 + (1 : Int32)) (lv1 := [(5, .int (x5 + (1 : Int32))), (0, zx_rV (zx_BK B) 1 0), (1, .int x1), (2, .long x2), (4, .int x4)]) dd_Types_placeOf_55 rfl rfl (by decide) rfl ?_
  refine zx_goto E 27 dd_Types_placeOf_58 rfl ?_
  refine zx_sub [1, 2, 3, 4, 0] rfl ?_
  exact hk27 x1 x2 x4 (x5 + (1 : Int32))
theorem zj_Types_placeOf_27 {B : zx_B} (E : zx_E B zm_Types_placeOf) (h : zx_H)  : ∀ (x1 : Int32) (x2 : Int64) (x4 : Int32) (x5 : Int32), zx_X B zm_Types_placeOf (zx_QM B (fun r => ((some (Value.int r) : Option Value), h))) (zs_Types_placeOf_L27 h  x1 x2 x4 x5) 0 0 27 [(0, zx_rV (zx_BK B) 1 0), (1, .int x1), (2, .long x2), (4, .int x4), (5, .int x5)] [] h := by
  unfold zs_Types_placeOf_L27
  generalize zx_fuel = n
  induction n with
  | zero => intros; exact zx_non
  | succ n ih => intro x1 x2 x4 x5; exact zb_Types_placeOf_27 E h  _ ih x1 x2 x4 x5
set_option maxHeartbeats 4000000 in
set_option maxRecDepth 20000 in
theorem zj_Types_placeOf_22 {B : zx_B} (E : zx_E B zm_Types_placeOf) (h : zx_H)  (x1 : Int32) (x2 : Int64) (s0 : Int32) : zx_X B zm_Types_placeOf (zx_QM B (fun r => ((some (Value.int r) : Option Value), h))) (zs_Types_placeOf_J22 h  x1 x2 s0) 0 0 22 [(0, zx_rV (zx_BK B) 1 0), (1, .int x1), (2, .long x2)] [.int s0] h := by
  unfold zs_Types_placeOf_J22
  refine zx_istore E (lv1 := [(4, .int s0), (0, zx_rV (zx_BK B) 1 0), (1, .int x1), (2, .long x2)]) dd_Types_placeOf_22 (by decide) rfl ?_
  refine zx_iconst E (0 : Int32) dd_Types_placeOf_24 (by decide) ?_
  refine zx_istore E (lv1 := [(5, .int (0 : Int32)), (4, .int s0), (0, zx_rV (zx_BK B) 1 0), (1, .int x1), (2, .long x2)]) dd_Types_placeOf_25 (by decide) rfl ?_
  refine zx_sub [2, 3, 4, 1, 0] rfl ?_
  exact zj_Types_placeOf_27 E h x1 x2 s0 (0 : Int32)
set_option maxHeartbeats 4000000 in
set_option maxRecDepth 20000 in
theorem zj_Types_placeOf_21 {B : zx_B} (E : zx_E B zm_Types_placeOf) (h : zx_H)  (x1 : Int32) (x2 : Int64) : zx_X B zm_Types_placeOf (zx_QM B (fun r => ((some (Value.int r) : Option Value), h))) (zs_Types_placeOf_J21 h  x1 x2) 0 0 21 [(0, zx_rV (zx_BK B) 1 0), (1, .int x1), (2, .long x2)] [] h := by
  unfold zs_Types_placeOf_J21
  refine zx_iconst E (0 : Int32) dd_Types_placeOf_21 (by decide) ?_
  exact zj_Types_placeOf_22 E h x1 x2 (0 : Int32)
set_option maxHeartbeats 4000000 in
set_option maxRecDepth 20000 in
theorem zt_Types_placeOf (l : Launch) (K : zx_K) (a1 : Int32) (a2 : Int64) (h : zx_H) (r : Int32) (hf : zs_Types_placeOf a1 a2 h = some r) : zx_MR l zm_Types_placeOf zy_Types_placeOf K [zx_rV K 1 0, .int a1, .long a2] h (some (.int r)) h := by
  refine zx_ofM (M := zm_Types_placeOf) (y := zy_Types_placeOf) (r := r) (as := [zx_rV K 1 0, .int a1, .long a2]) (ρ := (fun r => ((some (Value.int r) : Option Value), h))) (by decide) rfl hf (Nat.le_of_ble_eq_true rfl) ?_
  intro B hl hK E
  subst hK
  subst hl
  show zx_X B zm_Types_placeOf _ _ 0 0 0 [(0, zx_rV (zx_BK B) 1 0), (1, .int a1), (2, .long a2)] [] h
  unfold zs_Types_placeOf
  refine zx_iload_n E 1 dd_Types_placeOf_0 rfl rfl ?_
  refine zx_if_lt E 21 dd_Types_placeOf_1 rfl ?_ ?_
  rotate_left
  · exact zj_Types_placeOf_21 E h a1 a2
  refine zx_iload_n E 1 dd_Types_placeOf_4 rfl rfl ?_
  refine zx_aload_n E 0 dd_Types_placeOf_5 rfl rfl ?_
  refine zx_getI E zd_Types_size zg_1 Nat.zero_lt_one zw_46 dd_Types_placeOf_6 ?_
  refine zx_icmp_ge E 21 dd_Types_placeOf_9 rfl ?_ ?_
  rotate_left
  · exact zj_Types_placeOf_21 E h a1 a2
  refine zx_aload_n E 0 dd_Types_placeOf_12 rfl rfl ?_
  refine zx_getR E 4 0 zd_Types_memberCounts zg_1 Nat.zero_lt_one (zr_Types_memberCounts _) zw_43 dd_Types_placeOf_13 ?_
  refine zx_iload_n E 1 dd_Types_placeOf_16 rfl rfl ?_
  refine zx_iald E zg_4 Nat.zero_lt_one dd_Types_placeOf_17 ?_
  refine zx_goto E 22 dd_Types_placeOf_18 rfl ?_
  exact zj_Types_placeOf_22 E h a1 a2 (h.1 4 0 a1.toNatClampNeg)
