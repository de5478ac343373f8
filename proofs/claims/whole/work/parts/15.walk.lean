/-! walks (printed by gen.py) -/
set_option maxHeartbeats 4000000 in
set_option maxRecDepth 20000 in
theorem zj_Ref_ends_39 {B : zx_B} (E : zx_E B zm_Ref_ends)  (x1 : Int32) (x2 : Int32) (x3 : Int32) (x4 : Int32) (x5 : Int64) (h : zx_H) : zx_X B zm_Ref_ends (zx_QM B (fun r => ((some (Value.long r.1) : Option Value), r.2))) (zs_Ref_ends_J39  x1 x2 x3 x4 x5 h) 0 0 39 [(0, zx_rV (zx_BK B) 24 0), (1, .int x1), (2, .int x2), (3, .int x3), (4, .int x4), (5, .long x5)] [] h := by
  unfold zs_Ref_ends_J39
  refine zx_aload_n E 0 dd_Ref_ends_39 rfl rfl ?_
  refine zx_iload_n E 1 dd_Ref_ends_40 rfl rfl ?_
  refine zx_iconst E (4 : Int32) dd_Ref_ends_41 (by decide) ?_
  refine zx_iload_n E 2 dd_Ref_ends_42 rfl rfl ?_
  refine zx_callV_i (T := zx_TRef) E [.int x1, .int (4 : Int32), .int x2] (fun rZ eZ => zt_Ref_firstRule _ _ x1 (4 : Int32) x2 h _ eZ) zg_24 Nat.zero_lt_one rfl zc_Ref_151 ⟨by decide, by decide⟩ (Nat.zero_le _) (Nat.zero_le _) rfl rfl (Nat.le_of_ble_eq_true rfl) dd_Ref_ends_43 (fun r1 => ?_)
  refine zx_istore E (lv1 := [(8, .int r1), (0, zx_rV (zx_BK B) 24 0), (1, .int x1), (2, .int x2), (3, .int x3), (4, .int x4), (5, .long x5)]) dd_Ref_ends_46 (by decide) rfl ?_
  refine zx_iload E 0 dd_Ref_ends_48 rfl ?_
  refine zx_if_ge E 63 dd_Ref_ends_50 rfl ?_ ?_
  · refine zx_aload_n E 1 dd_Ref_ends_53 rfl rfl ?_
    refine zx_iload_n E 4 dd_Ref_ends_54 rfl rfl ?_
    refine zx_iload E 5 dd_Ref_ends_55 rfl ?_
    refine zx_lload E 6 dd_Ref_ends_57 rfl ?_
    refine zx_callV_lw (T := zx_TRef) E [.int x3, .int x4, .long x5] (fun rZ eZ => zt_Ref_become _ _ x3 x4 x5 h _ eZ) zg_24 Nat.zero_lt_one rfl zc_Ref_343 ⟨by decide, by decide⟩ (Nat.zero_le _) (Nat.zero_le _) rfl rfl (Nat.le_of_ble_eq_true rfl) dd_Ref_ends_59 (fun r2 => ?_)
    exact zx_lret E rfl rfl dd_Ref_ends_62
  refine zx_aload_n E 1 dd_Ref_ends_63 rfl rfl ?_
  refine zx_iload_n E 4 dd_Ref_ends_64 rfl rfl ?_
  refine zx_lload E 6 dd_Ref_ends_65 rfl ?_
  refine zx_callV_z (T := zx_TRef) E [.int x3, .long x5] (fun rZ eZ => zt_Ref_isNull _ _ x3 x5 h _ eZ) zg_24 Nat.zero_lt_one rfl zc_Ref_323 ⟨by decide, by decide⟩ (Nat.zero_le _) (Nat.zero_le _) rfl rfl (Nat.le_of_ble_eq_true rfl) dd_Ref_ends_67 (fun r3 => ?_)
  refine zx_ifb_eq E (x := r3) 82 dd_Ref_ends_70 rfl ?_ ?_
  · refine zx_aload_n E 1 dd_Ref_ends_73 rfl rfl ?_
    refine zx_iload E 5 dd_Ref_ends_74 rfl ?_
    refine zx_callV_l (T := zx_TRef) E [.int x4] (fun rZ eZ => zt_Ref_empty _ _ x4 h _ eZ) zg_24 Nat.zero_lt_one rfl zc_Ref_231 ⟨by decide, by decide⟩ (Nat.zero_le _) (Nat.zero_le _) rfl rfl (Nat.le_of_ble_eq_true rfl) dd_Ref_ends_76 (fun r4 => ?_)
    refine zx_goto E 101 dd_Ref_ends_79 rfl ?_
    exact zx_lret E rfl rfl dd_Ref_ends_101
  refine zx_aload_n E 1 dd_Ref_ends_82 rfl rfl ?_
  refine zx_aload_n E 1 dd_Ref_ends_83 rfl rfl ?_
  refine zx_getR E 35 0 zd_Ref_whats zg_24 Nat.zero_lt_one (zr_Ref_whats _) zw_1121 dd_Ref_ends_84 ?_
  refine zx_iload E 0 dd_Ref_ends_87 rfl ?_
  refine zx_lald E zg_35 Nat.zero_lt_one dd_Ref_ends_89 ?_
  refine zx_l2i E dd_Ref_ends_90 ?_
  refine zx_aload_n E 1 dd_Ref_ends_91 rfl rfl ?_
  refine zx_iload_n E 4 dd_Ref_ends_92 rfl rfl ?_
  refine zx_lload E 6 dd_Ref_ends_93 rfl ?_
  refine zx_callV_l (T := zx_TRef) E [.int x3, .long x5] (fun rZ eZ => zt_Ref_plain _ _ x3 x5 h _ eZ) zg_24 Nat.zero_lt_one rfl zc_Ref_300 ⟨by decide, by decide⟩ (Nat.zero_le _) (Nat.zero_le _) rfl rfl (Nat.le_of_ble_eq_true rfl) dd_Ref_ends_95 (fun r5 => ?_)
  refine zx_callV_lw (T := zx_TRef) E [.int ((h.2 35 0 r1.toNatClampNeg).toInt32), .long r5] (fun rZ eZ => zt_Ref_applied _ _ ((h.2 35 0 r1.toNatClampNeg).toInt32) r5 h _ eZ) zg_24 Nat.zero_lt_one rfl zc_Ref_334 ⟨by decide, by decide⟩ (Nat.zero_le _) (Nat.zero_le _) rfl rfl (Nat.le_of_ble_eq_true rfl) dd_Ref_ends_98 (fun r6 => ?_)
  exact zx_lret E rfl rfl dd_Ref_ends_101
set_option maxHeartbeats 4000000 in
set_option maxRecDepth 20000 in
theorem zt_Ref_ends (l : Launch) (K : zx_K) (a1 : Int32) (a2 : Int32) (a3 : Int32) (a4 : Int32) (a5 : Int64) (h : zx_H) (r : (Int64 × zx_H)) (hf : zs_Ref_ends a1 a2 a3 a4 a5 h = some r) : zx_MR l zm_Ref_ends zy_Ref_ends K [zx_rV K 24 0, .int a1, .int a2, .int a3, .int a4, .long a5] h (some (.long r.1)) r.2 := by
  refine zx_ofM (M := zm_Ref_ends) (y := zy_Ref_ends) (r := r) (as := [zx_rV K 24 0, .int a1, .int a2, .int a3, .int a4, .long a5]) (ρ := (fun r => ((some (Value.long r.1) : Option Value), r.2))) (by decide) rfl hf (Nat.le_of_ble_eq_true rfl) ?_
  intro B hl hK E
  subst hK
  subst hl
  show zx_X B zm_Ref_ends _ _ 0 0 0 [(0, zx_rV (zx_BK B) 24 0), (1, .int a1), (2, .int a2), (3, .int a3), (4, .int a4), (5, .long a5)] [] h
  unfold zs_Ref_ends
  refine zx_aload_n E 0 dd_Ref_ends_0 rfl rfl ?_
  refine zx_iload_n E 1 dd_Ref_ends_1 rfl rfl ?_
  refine zx_iconst E (3 : Int32) dd_Ref_ends_2 (by decide) ?_
  refine zx_iload_n E 2 dd_Ref_ends_3 rfl rfl ?_
  refine zx_callV_i (T := zx_TRef) E [.int a1, .int (3 : Int32), .int a2] (fun rZ eZ => zt_Ref_firstRule _ _ a1 (3 : Int32) a2 h _ eZ) zg_24 Nat.zero_lt_one rfl zc_Ref_151 ⟨by decide, by decide⟩ (Nat.zero_le _) (Nat.zero_le _) rfl rfl (Nat.le_of_ble_eq_true rfl) dd_Ref_ends_4 (fun r1 => ?_)
  refine zx_istore E (lv1 := [(7, .int r1), (0, zx_rV (zx_BK B) 24 0), (1, .int a1), (2, .int a2), (3, .int a3), (4, .int a4), (5, .long a5)]) dd_Ref_ends_7 (by decide) rfl ?_
  refine zx_aload_n E 1 dd_Ref_ends_9 rfl rfl ?_
  refine zx_iload_n E 4 dd_Ref_ends_10 rfl rfl ?_
  refine zx_lload E 6 dd_Ref_ends_11 rfl ?_
  refine zx_callV_z (T := zx_TRef) E [.int a3, .long a5] (fun rZ eZ => zt_Ref_isNull _ _ a3 a5 h _ eZ) zg_24 Nat.zero_lt_one rfl zc_Ref_323 ⟨by decide, by decide⟩ (Nat.zero_le _) (Nat.zero_le _) rfl rfl (Nat.le_of_ble_eq_true rfl) dd_Ref_ends_13 (fun r2 => ?_)
  refine zx_ifb_eq E (x := r2) 39 dd_Ref_ends_16 rfl ?_ ?_
  rotate_left
  · refine zx_sub [1, 2, 3, 4, 5, 6] rfl ?_
    exact zj_Ref_ends_39 E a1 a2 a3 a4 a5 h
  refine zx_iload E 0 dd_Ref_ends_19 rfl ?_
  refine zx_if_lt E 39 dd_Ref_ends_21 rfl ?_ ?_
  rotate_left
  · refine zx_sub [1, 2, 3, 4, 5, 6] rfl ?_
    exact zj_Ref_ends_39 E a1 a2 a3 a4 a5 h
  refine zx_aload_n E 1 dd_Ref_ends_24 rfl rfl ?_
  refine zx_iconst E (4 : Int32) dd_Ref_ends_25 (by decide) ?_
  refine zx_iload E 5 dd_Ref_ends_26 rfl ?_
  refine zx_aload_n E 1 dd_Ref_ends_28 rfl rfl ?_
  refine zx_getR E 35 0 zd_Ref_whats zg_24 Nat.zero_lt_one (zr_Ref_whats _) zw_1121 dd_Ref_ends_29 ?_
  refine zx_iload E 0 dd_Ref_ends_32 rfl ?_
  refine zx_lald E zg_35 Nat.zero_lt_one dd_Ref_ends_34 ?_
  refine zx_callV_lw (T := zx_TRef) E [.int (4 : Int32), .int a4, .long (h.2 35 0 r1.toNatClampNeg)] (fun rZ eZ => zt_Ref_become _ _ (4 : Int32) a4 (h.2 35 0 r1.toNatClampNeg) h _ eZ) zg_24 Nat.zero_lt_one rfl zc_Ref_343 ⟨by decide, by decide⟩ (Nat.zero_le _) (Nat.zero_le _) rfl rfl (Nat.le_of_ble_eq_true rfl) dd_Ref_ends_35 (fun r3 => ?_)
  exact zx_lret E rfl rfl dd_Ref_ends_38
set_option maxHeartbeats 4000000 in
set_option maxRecDepth 20000 in
theorem zj_Ref_valueOf_145 {B : zx_B} (E : zx_E B zm_Ref_valueOf)  (x1 : Int32) (x2 : Int32) (x3 : Int32) (h : zx_H) : zx_X B zm_Ref_valueOf (zx_QM B (fun r => ((some (Value.long r.1) : Option Value), r.2))) (zs_Ref_valueOf_J145  x1 x2 x3 h) 0 0 145 [(0, zx_rV (zx_BK B) 24 0), (1, .int x1), (2, .int x2), (3, .int x3)] [] h := by
  unfold zs_Ref_valueOf_J145
  refine zx_aload_n E 0 dd_Ref_valueOf_145 rfl rfl ?_
  refine zx_iload_n E 1 dd_Ref_valueOf_146 rfl rfl ?_
  refine zx_iconst E (3 : Int32) dd_Ref_valueOf_147 (by decide) ?_
  refine zx_iload_n E 2 dd_Ref_valueOf_148 rfl rfl ?_
  refine zx_callV_i (T := zx_TRef) E [.int x1, .int (3 : Int32), .int x2] (fun rZ eZ => zt_Ref_firstRule _ _ x1 (3 : Int32) x2 h _ eZ) zg_24 Nat.zero_lt_one rfl zc_Ref_151 ⟨by decide, by decide⟩ (Nat.zero_le _) (Nat.zero_le _) rfl rfl (Nat.le_of_ble_eq_true rfl) dd_Ref_valueOf_149 (fun r1 => ?_)
  refine zx_istore E (lv1 := [(12, .int r1), (0, zx_rV (zx_BK B) 24 0), (1, .int x1), (2, .int x2), (3, .int x3)]) dd_Ref_valueOf_152 (by decide) rfl ?_
  refine zx_iload E 0 dd_Ref_valueOf_154 rfl ?_
  refine zx_if_lt E 175 dd_Ref_valueOf_156 rfl ?_ ?_
  rotate_left
  · refine zx_aload_n E 1 dd_Ref_valueOf_175 rfl rfl ?_
    refine zx_iload_n E 4 dd_Ref_valueOf_176 rfl rfl ?_
    refine zx_callV_l (T := zx_TRef) E [.int x3] (fun rZ eZ => zt_Ref_empty _ _ x3 h _ eZ) zg_24 Nat.zero_lt_one rfl zc_Ref_231 ⟨by decide, by decide⟩ (Nat.zero_le _) (Nat.zero_le _) rfl rfl (Nat.le_of_ble_eq_true rfl) dd_Ref_valueOf_177 (fun r3 => ?_)
    exact zx_lret E rfl rfl dd_Ref_valueOf_180
  refine zx_aload_n E 1 dd_Ref_valueOf_159 rfl rfl ?_
  refine zx_iconst E (4 : Int32) dd_Ref_valueOf_160 (by decide) ?_
  refine zx_iload_n E 4 dd_Ref_valueOf_161 rfl rfl ?_
  refine zx_aload_n E 1 dd_Ref_valueOf_162 rfl rfl ?_
  refine zx_getR E 35 0 zd_Ref_whats zg_24 Nat.zero_lt_one (zr_Ref_whats _) zw_1121 dd_Ref_valueOf_163 ?_
  refine zx_iload E 0 dd_Ref_valueOf_166 rfl ?_
  refine zx_lald E zg_35 Nat.zero_lt_one dd_Ref_valueOf_168 ?_
  refine zx_callV_lw (T := zx_TRef) E [.int (4 : Int32), .int x3, .long (h.2 35 0 r1.toNatClampNeg)] (fun rZ eZ => zt_Ref_become _ _ (4 : Int32) x3 (h.2 35 0 r1.toNatClampNeg) h _ eZ) zg_24 Nat.zero_lt_one rfl zc_Ref_343 ⟨by decide, by decide⟩ (Nat.zero_le _) (Nat.zero_le _) rfl rfl (Nat.le_of_ble_eq_true rfl) dd_Ref_valueOf_169 (fun r2 => ?_)
  refine zx_goto E 180 dd_Ref_valueOf_172 rfl ?_
  exact zx_lret E rfl rfl dd_Ref_valueOf_180
set_option maxHeartbeats 4000000 in
set_option maxRecDepth 20000 in
theorem zb_Ref_valueOf_52 {B : zx_B} (E : zx_E B zm_Ref_valueOf)  (k52 : (Int32 → Int32 → Int32 → Int64 → Int32 → Int64 → Int32 → zx_H → Option (Int64 × zx_H))) (hk52 : ∀ (x1 : Int32) (x2 : Int32) (x3 : Int32) (x6 : Int64) (x8 : Int32) (x9 : Int64) (x11 : Int32) (h : zx_H), zx_X B zm_Ref_valueOf (zx_QM B (fun r => ((some (Value.long r.1) : Option Value), r.2))) (k52 x1 x2 x3 x6 x8 x9 x11 h) 0 0 52 [(0, zx_rV (zx_BK B) 24 0), (1, .int x1), (2, .int x2), (3, .int x3), (6, .long x6), (8, .int x8), (9, .long x9), (11, .int x11)] [] h) (x1 : Int32) (x2 : Int32) (x3 : Int32) (x6 : Int64) (x8 : Int32) (x9 : Int64) (x11 : Int32) (h : zx_H) : zx_X B zm_Ref_valueOf (zx_QM B (fun r => ((some (Value.long r.1) : Option Value), r.2))) (zs_Ref_valueOf_L52_body  k52 x1 x2 x3 x6 x8 x9 x11 h) 0 0 52 [(0, zx_rV (zx_BK B) 24 0), (1, .int x1), (2, .int x2), (3, .int x3), (6, .long x6), (8, .int x8), (9, .long x9), (11, .int x11)] [] h := by
  unfold zs_Ref_valueOf_L52_body
  refine zx_lload E 4 dd_Ref_valueOf_52 rfl ?_
  refine zx_iload E 7 dd_Ref_valueOf_54 rfl ?_
  refine zx_callS_i E [.long x6, .int x11] (fun rZ eZ => zt_Ref_nameOf _ _ x6 x11 h _ eZ) zc_Ref_158 ⟨by decide, by decide⟩ (Nat.zero_le _) (Nat.zero_le _) rfl rfl (Nat.le_of_ble_eq_true rfl) dd_Ref_valueOf_56 (fun r1 => ?_)
  refine zx_if_lt E 145 dd_Ref_valueOf_59 rfl ?_ ?_
  rotate_left
  · refine zx_sub [0, 1, 2, 3] rfl ?_
    exact zj_Ref_valueOf_145 E x1 x2 x3 h
  refine zx_lload E 6 dd_Ref_valueOf_62 rfl ?_
  refine zx_ldc2 E (-1 : Int64) zw_1322 dd_Ref_valueOf_64 ?_
  refine zx_lcmp_eq E 145 dd_Ref_valueOf_67 dd_Ref_valueOf_68 rfl ?_ ?_
  rotate_left
  · refine zx_sub [0, 1, 2, 3] rfl ?_
    exact zj_Ref_valueOf_145 E x1 x2 x3 h
  refine zx_aload_n E 0 dd_Ref_valueOf_71 rfl rfl ?_
  refine zx_iload E 5 dd_Ref_valueOf_72 rfl ?_
  refine zx_lload E 4 dd_Ref_valueOf_74 rfl ?_
  refine zx_iload E 7 dd_Ref_valueOf_76 rfl ?_
  refine zx_callS_i E [.long x6, .int x11] (fun rZ eZ => zt_Ref_nameOf _ _ x6 x11 h _ eZ) zc_Ref_158 ⟨by decide, by decide⟩ (Nat.zero_le _) (Nat.zero_le _) rfl rfl (Nat.le_of_ble_eq_true rfl) dd_Ref_valueOf_78 (fun r2 => ?_)
  refine zx_callV_i (T := zx_TRef) E [.int x8, .int r2] (fun rZ eZ => zt_Ref_placeOf _ _ x8 r2 h _ eZ) zg_24 Nat.zero_lt_one rfl zc_Ref_129 ⟨by decide, by decide⟩ (Nat.zero_le _) (Nat.zero_le _) rfl rfl (Nat.le_of_ble_eq_true rfl) dd_Ref_valueOf_81 (fun r3 => ?_)
  refine zx_istore E (lv1 := [(12, .int r3), (0, zx_rV (zx_BK B) 24 0), (1, .int x1), (2, .int x2), (3, .int x3), (6, .long x6), (8, .int x8), (9, .long x9), (11, .int x11)]) dd_Ref_valueOf_84 (by decide) rfl ?_
  refine zx_aload_n E 1 dd_Ref_valueOf_86 rfl rfl ?_
  refine zx_getR E 42 0 zd_Ref_values zg_24 Nat.zero_lt_one (zr_Ref_values _) zw_1133 dd_Ref_valueOf_87 ?_
  refine zx_bipush E (16 : Int32) dd_Ref_valueOf_90 (by decide) ?_
  refine zx_lload E 7 dd_Ref_valueOf_92 rfl ?_
  refine zx_l2i E dd_Ref_valueOf_94 ?_
  refine zx_imul E dd_Ref_valueOf_95 ?_
  refine zx_iload E 0 dd_Ref_valueOf_96 rfl ?_
  refine zx_iadd E dd_Ref_valueOf_98 ?_
  refine zx_lald E zg_42 Nat.zero_lt_one dd_Ref_valueOf_99 ?_
  refine zx_letl (fun y4 => ?_)
  refine zx_lstore E (lv1 := [(9, .long y4), (12, .int r3), (0, zx_rV (zx_BK B) 24 0), (1, .int x1), (2, .int x2), (3, .int x3), (6, .long x6), (8, .int x8), (11, .int x11)]) dd_Ref_valueOf_100 (by decide) rfl ?_
  refine zx_aload_n E 2 dd_Ref_valueOf_102 rfl rfl ?_
  refine zx_getR E 28 0 zd_Ref_propertyTypes zg_24 Nat.zero_lt_one (zr_Ref_propertyTypes _) zw_1113 dd_Ref_valueOf_103 ?_
  refine zx_bipush E (8 : Int32) dd_Ref_valueOf_106 (by decide) ?_
  refine zx_iload E 7 dd_Ref_valueOf_108 rfl ?_
  refine zx_imul E dd_Ref_valueOf_110 ?_
  refine zx_iload E 1 dd_Ref_valueOf_111 rfl ?_
  refine zx_iadd E dd_Ref_valueOf_113 ?_
  refine zx_iald E zg_28 Nat.zero_lt_one dd_Ref_valueOf_114 ?_
  refine zx_leti (fun y5 => ?_)
  refine zx_istore E (lv1 := [(8, .int y5), (9, .long y4), (12, .int r3), (0, zx_rV (zx_BK B) 24 0), (1, .int x1), (2, .int x2), (3, .int x3), (6, .long x6), (11, .int x11)]) dd_Ref_valueOf_115 (by decide) rfl ?_
  refine zx_iinc E 8 (x11 + (1 : Int32)) (lv1 := [(11, .int (x11 + (1 : Int32))), (8, .int y5), (9, .long y4), (12, .int r3), (0, zx_rV (zx_BK B) 24 0), (1, .int x1), (2, .int x2), (3, .int x3), (6, .long x6)]) dd_Ref_valueOf_117 rfl rfl (by decide) rfl ?_
  refine zx_lload E 8 dd_Ref_valueOf_120 rfl ?_
  refine zx_iload E 0 dd_Ref_valueOf_122 rfl ?_
  refine zx_callS_i E [.long x6, .int (x11 + (1 : Int32))] (fun rZ eZ => zt_Ref_nameOf _ _ x6 (x11 + (1 : Int32)) h _ eZ) zc_Ref_158 ⟨by decide, by decide⟩ (Nat.zero_le _) (Nat.zero_le _) rfl rfl (Nat.le_of_ble_eq_true rfl) dd_Ref_valueOf_124 (fun r7 => ?_)
  refine zx_if_ge E 142 dd_Ref_valueOf_127 rfl ?_ ?_
  rotate_left
  · refine zx_goto E 52 dd_Ref_valueOf_142 rfl ?_
    refine zx_sub [4, 5, 6, 7, 8, 1, 2, 0] rfl ?_
    exact hk52 x1 x2 x3 x6 y5 y4 (x11 + (1 : Int32)) h
  refine zx_aload_n E 4 dd_Ref_valueOf_130 rfl rfl ?_
  refine zx_iload_n E 5 dd_Ref_valueOf_131 rfl rfl ?_
  refine zx_iload_n E 6 dd_Ref_valueOf_132 rfl rfl ?_
  refine zx_iload E 1 dd_Ref_valueOf_133 rfl ?_
  refine zx_iload_n E 7 dd_Ref_valueOf_135 rfl rfl ?_
  refine zx_lload E 2 dd_Ref_valueOf_136 rfl ?_
  refine zx_callV_lw (T := zx_TRef) E [.int x1, .int x2, .int y5, .int x3, .long y4] (fun rZ eZ => zt_Ref_ends _ _ x1 x2 y5 x3 y4 h _ eZ) zg_24 Nat.zero_lt_one rfl zc_Ref_350 ⟨by decide, by decide⟩ (Nat.zero_le _) (Nat.zero_le _) rfl rfl (Nat.le_of_ble_eq_true rfl) dd_Ref_valueOf_138 (fun r8 => ?_)
  exact zx_lret E rfl rfl dd_Ref_valueOf_141
theorem zj_Ref_valueOf_52 {B : zx_B} (E : zx_E B zm_Ref_valueOf)  : ∀ (x1 : Int32) (x2 : Int32) (x3 : Int32) (x6 : Int64) (x8 : Int32) (x9 : Int64) (x11 : Int32) (h : zx_H), zx_X B zm_Ref_valueOf (zx_QM B (fun r => ((some (Value.long r.1) : Option Value), r.2))) (zs_Ref_valueOf_L52  x1 x2 x3 x6 x8 x9 x11 h) 0 0 52 [(0, zx_rV (zx_BK B) 24 0), (1, .int x1), (2, .int x2), (3, .int x3), (6, .long x6), (8, .int x8), (9, .long x9), (11, .int x11)] [] h := by
  unfold zs_Ref_valueOf_L52
  generalize zx_fuel = n
  induction n with
  | zero => intros; exact zx_non
  | succ n ih => intro x1 x2 x3 x6 x8 x9 x11 h; exact zb_Ref_valueOf_52 E  _ ih x1 x2 x3 x6 x8 x9 x11 h
set_option maxHeartbeats 4000000 in
set_option maxRecDepth 20000 in
theorem zt_Ref_valueOf (l : Launch) (K : zx_K) (a1 : Int32) (a2 : Int32) (a3 : Int32) (a4 : Int32) (h : zx_H) (r : (Int64 × zx_H)) (hf : zs_Ref_valueOf a1 a2 a3 a4 h = some r) : zx_MR l zm_Ref_valueOf zy_Ref_valueOf K [zx_rV K 24 0, .int a1, .int a2, .int a3, .int a4] h (some (.long r.1)) r.2 := by
  refine zx_ofM (M := zm_Ref_valueOf) (y := zy_Ref_valueOf) (r := r) (as := [zx_rV K 24 0, .int a1, .int a2, .int a3, .int a4]) (ρ := (fun r => ((some (Value.long r.1) : Option Value), r.2))) (by decide) rfl hf (Nat.le_of_ble_eq_true rfl) ?_
  intro B hl hK E
  subst hK
  subst hl
  show zx_X B zm_Ref_valueOf _ _ 0 0 0 [(0, zx_rV (zx_BK B) 24 0), (1, .int a1), (2, .int a2), (3, .int a3), (4, .int a4)] [] h
  unfold zs_Ref_valueOf
  refine zx_aload_n E 0 dd_Ref_valueOf_0 rfl rfl ?_
  refine zx_iload_n E 1 dd_Ref_valueOf_1 rfl rfl ?_
  refine zx_iconst E (1 : Int32) dd_Ref_valueOf_2 (by decide) ?_
  refine zx_iload_n E 2 dd_Ref_valueOf_3 rfl rfl ?_
  refine zx_callV_i (T := zx_TRef) E [.int a1, .int (1 : Int32), .int a2] (fun rZ eZ => zt_Ref_firstRule _ _ a1 (1 : Int32) a2 h _ eZ) zg_24 Nat.zero_lt_one rfl zc_Ref_151 ⟨by decide, by decide⟩ (Nat.zero_le _) (Nat.zero_le _) rfl rfl (Nat.le_of_ble_eq_true rfl) dd_Ref_valueOf_4 (fun r1 => ?_)
  refine zx_istore E (lv1 := [(5, .int r1), (0, zx_rV (zx_BK B) 24 0), (1, .int a1), (2, .int a2), (3, .int a3), (4, .int a4)]) dd_Ref_valueOf_7 (by decide) rfl ?_
  refine zx_iload E 0 dd_Ref_valueOf_9 rfl ?_
  refine zx_if_lt E 28 dd_Ref_valueOf_11 rfl ?_ ?_
  · refine zx_aload_n E 1 dd_Ref_valueOf_14 rfl rfl ?_
    refine zx_iconst E (4 : Int32) dd_Ref_valueOf_15 (by decide) ?_
    refine zx_iload_n E 4 dd_Ref_valueOf_16 rfl rfl ?_
    refine zx_aload_n E 1 dd_Ref_valueOf_17 rfl rfl ?_
    refine zx_getR E 35 0 zd_Ref_whats zg_24 Nat.zero_lt_one (zr_Ref_whats _) zw_1121 dd_Ref_valueOf_18 ?_
    refine zx_iload E 0 dd_Ref_valueOf_21 rfl ?_
    refine zx_lald E zg_35 Nat.zero_lt_one dd_Ref_valueOf_23 ?_
    refine zx_callV_lw (T := zx_TRef) E [.int (4 : Int32), .int a3, .long (h.2 35 0 r1.toNatClampNeg)] (fun rZ eZ => zt_Ref_become _ _ (4 : Int32) a3 (h.2 35 0 r1.toNatClampNeg) h _ eZ) zg_24 Nat.zero_lt_one rfl zc_Ref_343 ⟨by decide, by decide⟩ (Nat.zero_le _) (Nat.zero_le _) rfl rfl (Nat.le_of_ble_eq_true rfl) dd_Ref_valueOf_24 (fun r2 => ?_)
    exact zx_lret E rfl rfl dd_Ref_valueOf_27
  refine zx_aload_n E 1 dd_Ref_valueOf_28 rfl rfl ?_
  refine zx_iload_n E 2 dd_Ref_valueOf_29 rfl rfl ?_
  refine zx_iload_n E 3 dd_Ref_valueOf_30 rfl rfl ?_
  refine zx_callV_l (T := zx_TRef) E [.int a1, .int a2] (fun rZ eZ => zt_Ref_pathOf _ _ a1 a2 h _ eZ) zg_24 Nat.zero_lt_one rfl zc_Ref_198 ⟨by decide, by decide⟩ (Nat.zero_le _) (Nat.zero_le _) rfl rfl (Nat.le_of_ble_eq_true rfl) dd_Ref_valueOf_31 (fun r3 => ?_)
  refine zx_lstore E (lv1 := [(6, .long r3), (5, .int r1), (0, zx_rV (zx_BK B) 24 0), (1, .int a1), (2, .int a2), (3, .int a3), (4, .int a4)]) dd_Ref_valueOf_34 (by decide) rfl ?_
  refine zx_aload_n E 2 dd_Ref_valueOf_36 rfl rfl ?_
  refine zx_getR E 30 0 zd_Ref_methodFrom zg_24 Nat.zero_lt_one (zr_Ref_methodFrom _) zw_1116 dd_Ref_valueOf_37 ?_
  refine zx_iload_n E 3 dd_Ref_valueOf_40 rfl rfl ?_
  refine zx_iald E zg_30 Nat.zero_lt_one dd_Ref_valueOf_41 ?_
  refine zx_leti (fun y4 => ?_)
  refine zx_istore E (lv1 := [(8, .int y4), (6, .long r3), (5, .int r1), (0, zx_rV (zx_BK B) 24 0), (1, .int a1), (2, .int a2), (3, .int a3), (4, .int a4)]) dd_Ref_valueOf_42 (by decide) rfl ?_
  refine zx_iload E 7 dd_Ref_valueOf_44 rfl ?_
  refine zx_i2l E dd_Ref_valueOf_46 ?_
  refine zx_letl (fun y5 => ?_)
  refine zx_lstore E (lv1 := [(9, .long y5), (8, .int y4), (6, .long r3), (5, .int r1), (0, zx_rV (zx_BK B) 24 0), (1, .int a1), (2, .int a2), (3, .int a3), (4, .int a4)]) dd_Ref_valueOf_47 (by decide) rfl ?_
  refine zx_iconst E (0 : Int32) dd_Ref_valueOf_49 (by decide) ?_
  refine zx_istore E (lv1 := [(11, .int (0 : Int32)), (9, .long y5), (8, .int y4), (6, .long r3), (5, .int r1), (0, zx_rV (zx_BK B) 24 0), (1, .int a1), (2, .int a2), (3, .int a3), (4, .int a4)]) dd_Ref_valueOf_50 (by decide) rfl ?_
  refine zx_sub [5, 6, 7, 8, 3, 2, 1, 0] rfl ?_
  exact zj_Ref_valueOf_52 E a1 a2 a3 r3 y4 y5 (0 : Int32) h
set_option maxHeartbeats 4000000 in
set_option maxRecDepth 20000 in
theorem zt_Ref_fillBean (l : Launch) (K : zx_K)  (h : zx_H) (r : zx_H) (hf : zs_Ref_fillBean  h = some r) : zx_MR l zm_Ref_fillBean zy_Ref_fillBean K [zx_rV K 24 0] h none r := by
  refine zx_ofM (M := zm_Ref_fillBean) (y := zy_Ref_fillBean) (r := r) (as := [zx_rV K 24 0]) (ρ := (fun r => ((none : Option Value), r))) (by decide) rfl hf (Nat.le_of_ble_eq_true rfl) ?_
  intro B hl hK E
  subst hK
  subst hl
  show zx_X B zm_Ref_fillBean _ _ 0 0 0 [(0, zx_rV (zx_BK B) 24 0)] [] h
  unfold zs_Ref_fillBean
  refine zx_aload_n E 0 dd_Ref_fillBean_0 rfl rfl ?_
  refine zx_getI E zd_Ref_deep zg_24 Nat.zero_lt_one zw_1139 dd_Ref_fillBean_1 ?_
  refine zx_iconst E (1 : Int32) dd_Ref_fillBean_4 (by decide) ?_
  refine zx_isub E dd_Ref_fillBean_5 ?_
  refine zx_leti (fun y1 => ?_)
  refine zx_istore_n E (lv1 := [(1, .int y1), (0, zx_rV (zx_BK B) 24 0)]) dd_Ref_fillBean_6 rfl (by decide) rfl ?_
  refine zx_aload_n E 1 dd_Ref_fillBean_7 rfl rfl ?_
  refine zx_getR E 47 0 zd_Ref_by zg_24 Nat.zero_lt_one (zr_Ref_by _) zw_1140 dd_Ref_fillBean_8 ?_
  refine zx_iload_n E 0 dd_Ref_fillBean_11 rfl rfl ?_
  refine zx_iald E zg_47 Nat.zero_lt_one dd_Ref_fillBean_12 ?_
  refine zx_leti (fun y2 => ?_)
  refine zx_istore_n E (lv1 := [(2, .int y2), (1, .int y1), (0, zx_rV (zx_BK B) 24 0)]) dd_Ref_fillBean_13 rfl (by decide) rfl ?_
  refine zx_aload_n E 2 dd_Ref_fillBean_14 rfl rfl ?_
  refine zx_getR E 31 0 zd_Ref_methodTo zg_24 Nat.zero_lt_one (zr_Ref_methodTo _) zw_1117 dd_Ref_fillBean_15 ?_
  refine zx_iload_n E 0 dd_Ref_fillBean_18 rfl rfl ?_
  refine zx_iald E zg_31 Nat.zero_lt_one dd_Ref_fillBean_19 ?_
  refine zx_leti (fun y3 => ?_)
  refine zx_istore_n E (lv1 := [(3, .int y3), (2, .int y2), (1, .int y1), (0, zx_rV (zx_BK B) 24 0)]) dd_Ref_fillBean_20 rfl (by decide) rfl ?_
  refine zx_aload_n E 3 dd_Ref_fillBean_21 rfl rfl ?_
  refine zx_getR E 50 0 zd_Ref_place zg_24 Nat.zero_lt_one (zr_Ref_place _) zw_1143 dd_Ref_fillBean_22 ?_
  refine zx_iload_n E 2 dd_Ref_fillBean_25 rfl rfl ?_
  refine zx_iald E zg_50 Nat.zero_lt_one dd_Ref_fillBean_26 ?_
  refine zx_leti (fun y4 => ?_)
  refine zx_istore E (lv1 := [(4, .int y4), (3, .int y3), (2, .int y2), (1, .int y1), (0, zx_rV (zx_BK B) 24 0)]) dd_Ref_fillBean_27 (by decide) rfl ?_
  refine zx_aload_n E 4 dd_Ref_fillBean_29 rfl rfl ?_
  refine zx_getR E 49 0 zd_Ref_target zg_24 Nat.zero_lt_one (zr_Ref_target _) zw_1142 dd_Ref_fillBean_30 ?_
  refine zx_iload_n E 3 dd_Ref_fillBean_33 rfl rfl ?_
  refine zx_iald E zg_49 Nat.zero_lt_one dd_Ref_fillBean_34 ?_
  refine zx_leti (fun y5 => ?_)
  refine zx_istore E (lv1 := [(5, .int y5), (4, .int y4), (3, .int y3), (2, .int y2), (1, .int y1), (0, zx_rV (zx_BK B) 24 0)]) dd_Ref_fillBean_35 (by decide) rfl ?_
  refine zx_iload E 1 dd_Ref_fillBean_37 rfl ?_
  refine zx_aload_n E 5 dd_Ref_fillBean_39 rfl rfl ?_
  refine zx_getR E 26 0 zd_Ref_size zg_24 Nat.zero_lt_one (zr_Ref_size _) zw_1111 dd_Ref_fillBean_40 ?_
  refine zx_iload_n E 2 dd_Ref_fillBean_43 rfl rfl ?_
  refine zx_iald E zg_26 Nat.zero_lt_one dd_Ref_fillBean_44 ?_
  refine zx_icmp_ne E 59 dd_Ref_fillBean_45 rfl ?_ ?_
  · refine zx_aload_n E 5 dd_Ref_fillBean_48 rfl rfl ?_
    refine zx_dup E dd_Ref_fillBean_49 rfl ?_
    refine zx_getI E zd_Ref_deep zg_24 Nat.zero_lt_one zw_1139 dd_Ref_fillBean_50 ?_
    refine zx_iconst E (1 : Int32) dd_Ref_fillBean_53 (by decide) ?_
    refine zx_isub E dd_Ref_fillBean_54 ?_
    refine zx_putI E zd_Ref_deep zp_Ref_deep zg_24 Nat.zero_lt_one rfl rfl zw_1139 dd_Ref_fillBean_55 ?_
    refine zx_letH (fun h6 => ?_)
    exact zx_vret E rfl rfl dd_Ref_fillBean_58
  refine zx_aload_n E 5 dd_Ref_fillBean_59 rfl rfl ?_
  refine zx_getR E 50 0 zd_Ref_place zg_24 Nat.zero_lt_one (zr_Ref_place _) zw_1143 dd_Ref_fillBean_60 ?_
  refine zx_iload_n E 4 dd_Ref_fillBean_63 rfl rfl ?_
  refine zx_dup2 E dd_Ref_fillBean_64 rfl rfl ?_
  refine zx_iald E zg_50 Nat.zero_lt_one dd_Ref_fillBean_65 ?_
  refine zx_iconst E (1 : Int32) dd_Ref_fillBean_66 (by decide) ?_
  refine zx_iadd E dd_Ref_fillBean_67 ?_
  refine zx_iast E zg_50 Nat.zero_lt_one dd_Ref_fillBean_68 ?_
  refine zx_letH (fun h7 => ?_)
  refine zx_aload_n E 5 dd_Ref_fillBean_69 rfl rfl ?_
  refine zx_getR E 27 0 zd_Ref_names zg_24 Nat.zero_lt_one (zr_Ref_names _) zw_1112 dd_Ref_fillBean_70 ?_
  refine zx_bipush E (8 : Int32) dd_Ref_fillBean_73 (by decide) ?_
  refine zx_iload_n E 2 dd_Ref_fillBean_75 rfl rfl ?_
  refine zx_imul E dd_Ref_fillBean_76 ?_
  refine zx_iload E 1 dd_Ref_fillBean_77 rfl ?_
  refine zx_iadd E dd_Ref_fillBean_79 ?_
  refine zx_iald E zg_27 Nat.zero_lt_one dd_Ref_fillBean_80 ?_
  refine zx_leti (fun y8 => ?_)
  refine zx_istore E (lv1 := [(6, .int y8), (5, .int y5), (4, .int y4), (3, .int y3), (2, .int y2), (1, .int y1), (0, zx_rV (zx_BK B) 24 0)]) dd_Ref_fillBean_81 (by decide) rfl ?_
  refine zx_aload_n E 6 dd_Ref_fillBean_83 rfl rfl ?_
  refine zx_iload_n E 4 dd_Ref_fillBean_84 rfl rfl ?_
  refine zx_iconst E (2 : Int32) dd_Ref_fillBean_85 (by decide) ?_
  refine zx_iload E 0 dd_Ref_fillBean_86 rfl ?_
  refine zx_callV_i (T := zx_TRef) E [.int y2, .int (2 : Int32), .int y8] (fun rZ eZ => zt_Ref_firstRule _ _ y2 (2 : Int32) y8 h7 _ eZ) zg_24 Nat.zero_lt_one rfl zc_Ref_151 ⟨by decide, by decide⟩ (Nat.zero_le _) (Nat.zero_le _) rfl rfl (Nat.le_of_ble_eq_true rfl) dd_Ref_fillBean_88 (fun r9 => ?_)
  refine zx_if_ge E 132 dd_Ref_fillBean_91 rfl ?_ ?_
  rotate_left
  · exact zx_vret E rfl rfl dd_Ref_fillBean_132
  refine zx_aload_n E 6 dd_Ref_fillBean_94 rfl rfl ?_
  refine zx_getR E 42 0 zd_Ref_values zg_24 Nat.zero_lt_one (zr_Ref_values _) zw_1133 dd_Ref_fillBean_95 ?_
  refine zx_bipush E (16 : Int32) dd_Ref_fillBean_98 (by decide) ?_
  refine zx_iload E 1 dd_Ref_fillBean_100 rfl ?_
  refine zx_imul E dd_Ref_fillBean_102 ?_
  refine zx_iload E 2 dd_Ref_fillBean_103 rfl ?_
  refine zx_iadd E dd_Ref_fillBean_105 ?_
  refine zx_aload_n E 6 dd_Ref_fillBean_106 rfl rfl ?_
  refine zx_iload_n E 4 dd_Ref_fillBean_107 rfl rfl ?_
  refine zx_iload E 0 dd_Ref_fillBean_108 rfl ?_
  refine zx_aload_n E 6 dd_Ref_fillBean_110 rfl rfl ?_
  refine zx_getR E 28 0 zd_Ref_propertyTypes zg_24 Nat.zero_lt_one (zr_Ref_propertyTypes _) zw_1113 dd_Ref_fillBean_111 ?_
  refine zx_bipush E (8 : Int32) dd_Ref_fillBean_114 (by decide) ?_
  refine zx_iload_n E 3 dd_Ref_fillBean_116 rfl rfl ?_
  refine zx_imul E dd_Ref_fillBean_117 ?_
  refine zx_iload E 2 dd_Ref_fillBean_118 rfl ?_
  refine zx_iadd E dd_Ref_fillBean_120 ?_
  refine zx_iald E zg_28 Nat.zero_lt_one dd_Ref_fillBean_121 ?_
  refine zx_aload_n E 6 dd_Ref_fillBean_122 rfl rfl ?_
  refine zx_getR E 48 0 zd_Ref_source zg_24 Nat.zero_lt_one (zr_Ref_source _) zw_1141 dd_Ref_fillBean_123 ?_
  refine zx_iload_n E 5 dd_Ref_fillBean_126 rfl rfl ?_
  refine zx_iald E zg_48 Nat.zero_lt_one dd_Ref_fillBean_127 ?_
  refine zx_callV_lw (T := zx_TRef) E [.int y2, .int y8, .int (h7.1 28 0 (((8 : Int32) * y3) + y4).toNatClampNeg), .int (h7.1 48 0 y1.toNatClampNeg)] (fun rZ eZ => zt_Ref_valueOf _ _ y2 y8 (h7.1 28 0 (((8 : Int32) * y3) + y4).toNatClampNeg) (h7.1 48 0 y1.toNatClampNeg) h7 _ eZ) zg_24 Nat.zero_lt_one rfl zc_Ref_346 ⟨by decide, by decide⟩ (Nat.zero_le _) (Nat.zero_le _) rfl rfl (Nat.le_of_ble_eq_true rfl) dd_Ref_fillBean_128 (fun r10 => ?_)
  refine zx_last E zg_42 Nat.zero_lt_one dd_Ref_fillBean_131 ?_
  refine zx_letH (fun h11 => ?_)
  exact zx_vret E rfl rfl dd_Ref_fillBean_132
set_option maxHeartbeats 4000000 in
set_option maxRecDepth 20000 in
theorem zj_Ref_map_43 {B : zx_B} (E : zx_E B zm_Ref_map)   (h : zx_H) : zx_X B zm_Ref_map (zx_QM B (fun r => ((some (Value.int r.1) : Option Value), r.2))) (zs_Ref_map_J43  h) 0 0 43 [(0, zx_rV (zx_BK B) 24 0)] [] h := by
  unfold zs_Ref_map_J43
  refine zx_aload_n E 0 dd_Ref_map_43 rfl rfl ?_
  refine zx_iconst E (1 : Int32) dd_Ref_map_44 (by decide) ?_
  refine zx_callV_iw (T := zx_TRef) E [.int (1 : Int32)] (fun rZ eZ => zt_Ref_fails _ _ (1 : Int32) h _ eZ) zg_24 Nat.zero_lt_one rfl zc_Ref_109 ⟨by decide, by decide⟩ (Nat.zero_le _) (Nat.zero_le _) rfl rfl (Nat.le_of_ble_eq_true rfl) dd_Ref_map_45 (fun r1 => ?_)
  exact zx_iret E rfl rfl dd_Ref_map_48
set_option maxHeartbeats 4000000 in
set_option maxRecDepth 20000 in
theorem zj_Ref_map_138 {B : zx_B} (E : zx_E B zm_Ref_map)  (x3 : Int32) (x4 : Int64) (h : zx_H) : zx_X B zm_Ref_map (zx_QM B (fun r => ((some (Value.int r.1) : Option Value), r.2))) (zs_Ref_map_J138  x3 x4 h) 0 0 138 [(0, zx_rV (zx_BK B) 24 0), (3, .int x3), (4, .long x4)] [] h := by
  unfold zs_Ref_map_J138
  refine zx_aload_n E 0 dd_Ref_map_138 rfl rfl ?_
  refine zx_getI E zd_Ref_failed zg_24 Nat.zero_lt_one zw_1144 dd_Ref_map_139 ?_
  refine zx_if_eq E 156 dd_Ref_map_142 rfl ?_ ?_
  rotate_left
  · refine zx_lload E 2 dd_Ref_map_156 rfl ?_
    refine zx_l2i E dd_Ref_map_158 ?_
    exact zx_iret E rfl rfl dd_Ref_map_159
  refine zx_aload_n E 0 dd_Ref_map_145 rfl rfl ?_
  refine zx_iload_n E 1 dd_Ref_map_146 rfl rfl ?_
  refine zx_putI E zd_Ref_objects zp_Ref_objects zg_24 Nat.zero_lt_one rfl rfl zw_1130 dd_Ref_map_147 ?_
  refine zx_letH (fun h1 => ?_)
  refine zx_aload_n E 0 dd_Ref_map_150 rfl rfl ?_
  refine zx_iconst E (3 : Int32) dd_Ref_map_151 (by decide) ?_
  refine zx_callV_iw (T := zx_TRef) E [.int (3 : Int32)] (fun rZ eZ => zt_Ref_fails _ _ (3 : Int32) h1 _ eZ) zg_24 Nat.zero_lt_one rfl zc_Ref_109 ⟨by decide, by decide⟩ (Nat.zero_le _) (Nat.zero_le _) rfl rfl (Nat.le_of_ble_eq_true rfl) dd_Ref_map_152 (fun r2 => ?_)
  exact zx_iret E rfl rfl dd_Ref_map_155
set_option maxHeartbeats 4000000 in
set_option maxRecDepth 20000 in
theorem zb_Ref_map_96 {B : zx_B} (E : zx_E B zm_Ref_map)  (k96 : (Int32 → Int64 → zx_H → Option (Int32 × zx_H))) (hk96 : ∀ (x3 : Int32) (x4 : Int64) (h : zx_H), zx_X B zm_Ref_map (zx_QM B (fun r => ((some (Value.int r.1) : Option Value), r.2))) (k96 x3 x4 h) 0 0 96 [(0, zx_rV (zx_BK B) 24 0), (3, .int x3), (4, .long x4)] [] h) (x3 : Int32) (x4 : Int64) (h : zx_H) : zx_X B zm_Ref_map (zx_QM B (fun r => ((some (Value.int r.1) : Option Value), r.2))) (zs_Ref_map_L96_body  k96 x3 x4 h) 0 0 96 [(0, zx_rV (zx_BK B) 24 0), (3, .int x3), (4, .long x4)] [] h := by
  unfold zs_Ref_map_L96_body
  refine zx_aload_n E 0 dd_Ref_map_96 rfl rfl ?_
  refine zx_getI E zd_Ref_deep zg_24 Nat.zero_lt_one zw_1139 dd_Ref_map_97 ?_
  refine zx_if_le E 138 dd_Ref_map_100 rfl ?_ ?_
  rotate_left
  · exact zj_Ref_map_138 E x3 x4 h
  refine zx_aload_n E 0 dd_Ref_map_103 rfl rfl ?_
  refine zx_getI E zd_Ref_failed zg_24 Nat.zero_lt_one zw_1144 dd_Ref_map_104 ?_
  refine zx_if_ne E 138 dd_Ref_map_107 rfl ?_ ?_
  rotate_left
  · exact zj_Ref_map_138 E x3 x4 h
  refine zx_aload_n E 0 dd_Ref_map_110 rfl rfl ?_
  refine zx_getR E 47 0 zd_Ref_by zg_24 Nat.zero_lt_one (zr_Ref_by _) zw_1140 dd_Ref_map_111 ?_
  refine zx_aload_n E 0 dd_Ref_map_114 rfl rfl ?_
  refine zx_getI E zd_Ref_deep zg_24 Nat.zero_lt_one zw_1139 dd_Ref_map_115 ?_
  refine zx_iconst E (1 : Int32) dd_Ref_map_118 (by decide) ?_
  refine zx_isub E dd_Ref_map_119 ?_
  refine zx_iald E zg_47 Nat.zero_lt_one dd_Ref_map_120 ?_
  refine zx_if_ge E 131 dd_Ref_map_121 rfl ?_ ?_
  · refine zx_aload_n E 0 dd_Ref_map_124 rfl rfl ?_
    refine zx_callV_v (T := zx_TRef) E [] (fun rZ eZ => zt_Ref_fillList _ _ h _ eZ) zg_24 Nat.zero_lt_one rfl zc_Ref_354 ⟨by decide, by decide⟩ (Nat.zero_le _) (Nat.zero_le _) rfl rfl (Nat.le_of_ble_eq_true rfl) dd_Ref_map_125 (fun r1 => ?_)
    refine zx_goto E 96 dd_Ref_map_128 rfl ?_
    exact hk96 x3 x4 r1
  refine zx_aload_n E 0 dd_Ref_map_131 rfl rfl ?_
  refine zx_callV_v (T := zx_TRef) E [] (fun rZ eZ => zt_Ref_fillBean _ _ h _ eZ) zg_24 Nat.zero_lt_one rfl zc_Ref_357 ⟨by decide, by decide⟩ (Nat.zero_le _) (Nat.zero_le _) rfl rfl (Nat.le_of_ble_eq_true rfl) dd_Ref_map_132 (fun r2 => ?_)
  refine zx_goto E 96 dd_Ref_map_135 rfl ?_
  exact hk96 x3 x4 r2
theorem zj_Ref_map_96 {B : zx_B} (E : zx_E B zm_Ref_map)  : ∀ (x3 : Int32) (x4 : Int64) (h : zx_H), zx_X B zm_Ref_map (zx_QM B (fun r => ((some (Value.int r.1) : Option Value), r.2))) (zs_Ref_map_L96  x3 x4 h) 0 0 96 [(0, zx_rV (zx_BK B) 24 0), (3, .int x3), (4, .long x4)] [] h := by
  unfold zs_Ref_map_L96
  generalize zx_fuel = n
  induction n with
  | zero => intros; exact zx_non
  | succ n ih => intro x3 x4 h; exact zb_Ref_map_96 E  _ ih x3 x4 h
set_option maxHeartbeats 4000000 in
set_option maxRecDepth 20000 in
theorem zj_Ref_map_34 {B : zx_B} (E : zx_E B zm_Ref_map)  (x1 : Int32) (x2 : Int32) (s2 : Int32) (h : zx_H) : zx_X B zm_Ref_map (zx_QM B (fun r => ((some (Value.int r.1) : Option Value), r.2))) (zs_Ref_map_J34  x1 x2 s2 h) 0 0 34 [(0, zx_rV (zx_BK B) 24 0), (1, .int x1), (2, .int x2)] [.int s2, zx_rV (zx_BK B) 30 0, zx_rV (zx_BK B) 24 0] h := by
  unfold zs_Ref_map_J34
  refine zx_iald E zg_30 Nat.zero_lt_one dd_Ref_map_34 ?_
  refine zx_iload_n E 2 dd_Ref_map_35 rfl rfl ?_
  refine zx_i2l E dd_Ref_map_36 ?_
  refine zx_callV_z (T := zx_TRef) E [.int (h.1 30 0 s2.toNatClampNeg), .long (x2.toInt64)] (fun rZ eZ => zt_Ref_isValue _ _ (h.1 30 0 s2.toNatClampNeg) (x2.toInt64) h _ eZ) zg_24 Nat.zero_lt_one rfl zc_Ref_235 ⟨by decide, by decide⟩ (Nat.zero_le _) (Nat.zero_le _) rfl rfl (Nat.le_of_ble_eq_true rfl) dd_Ref_map_37 (fun r1 => ?_)
  refine zx_ifb_ne E (x := r1) 49 dd_Ref_map_40 rfl ?_ ?_
  · refine zx_sub [0] rfl ?_
    exact zj_Ref_map_43 E h
  refine zx_aload_n E 0 dd_Ref_map_49 rfl rfl ?_
  refine zx_getI E zd_Ref_built zg_24 Nat.zero_lt_one zw_1108 dd_Ref_map_50 ?_
  refine zx_if_ne E 62 dd_Ref_map_53 rfl ?_ ?_
  · refine zx_aload_n E 0 dd_Ref_map_56 rfl rfl ?_
    refine zx_iconst E (2 : Int32) dd_Ref_map_57 (by decide) ?_
    refine zx_callV_iw (T := zx_TRef) E [.int (2 : Int32)] (fun rZ eZ => zt_Ref_fails _ _ (2 : Int32) h _ eZ) zg_24 Nat.zero_lt_one rfl zc_Ref_109 ⟨by decide, by decide⟩ (Nat.zero_le _) (Nat.zero_le _) rfl rfl (Nat.le_of_ble_eq_true rfl) dd_Ref_map_58 (fun r2 => ?_)
    exact zx_iret E rfl rfl dd_Ref_map_61
  refine zx_aload_n E 0 dd_Ref_map_62 rfl rfl ?_
  refine zx_iconst E (0 : Int32) dd_Ref_map_63 (by decide) ?_
  refine zx_putI E zd_Ref_thrown zp_Ref_thrown zg_24 Nat.zero_lt_one rfl rfl zw_1107 dd_Ref_map_64 ?_
  refine zx_letH (fun h3 => ?_)
  refine zx_aload_n E 0 dd_Ref_map_67 rfl rfl ?_
  refine zx_getI E zd_Ref_objects zg_24 Nat.zero_lt_one zw_1130 dd_Ref_map_68 ?_
  refine zx_leti (fun y4 => ?_)
  refine zx_istore_n E (lv1 := [(3, .int y4), (0, zx_rV (zx_BK B) 24 0), (1, .int x1), (2, .int x2)]) dd_Ref_map_71 rfl (by decide) rfl ?_
  refine zx_aload_n E 1 dd_Ref_map_72 rfl rfl ?_
  refine zx_iconst E (0 : Int32) dd_Ref_map_73 (by decide) ?_
  refine zx_putI E zd_Ref_known zp_Ref_known zg_24 Nat.zero_lt_one rfl rfl zw_1135 dd_Ref_map_74 ?_
  refine zx_letH (fun h5 => ?_)
  refine zx_aload_n E 1 dd_Ref_map_77 rfl rfl ?_
  refine zx_iconst E (0 : Int32) dd_Ref_map_78 (by decide) ?_
  refine zx_putI E zd_Ref_deep zp_Ref_deep zg_24 Nat.zero_lt_one rfl rfl zw_1139 dd_Ref_map_79 ?_
  refine zx_letH (fun h6 => ?_)
  refine zx_aload_n E 1 dd_Ref_map_82 rfl rfl ?_
  refine zx_iconst E (0 : Int32) dd_Ref_map_83 (by decide) ?_
  refine zx_putI E zd_Ref_failed zp_Ref_failed zg_24 Nat.zero_lt_one rfl rfl zw_1144 dd_Ref_map_84 ?_
  refine zx_letH (fun h7 => ?_)
  refine zx_aload_n E 1 dd_Ref_map_87 rfl rfl ?_
  refine zx_iload_n E 2 dd_Ref_map_88 rfl rfl ?_
  refine zx_iload_n E 3 dd_Ref_map_89 rfl rfl ?_
  refine zx_i2l E dd_Ref_map_90 ?_
  refine zx_callV_lw (T := zx_TRef) E [.int x1, .long (x2.toInt64)] (fun rZ eZ => zt_Ref_mapped _ _ x1 (x2.toInt64) h7 _ eZ) zg_24 Nat.zero_lt_one rfl zc_Ref_320 ⟨by decide, by decide⟩ (Nat.zero_le _) (Nat.zero_le _) rfl rfl (Nat.le_of_ble_eq_true rfl) dd_Ref_map_91 (fun r8 => ?_)
  refine zx_lstore E (lv1 := [(4, .long r8.1), (3, .int y4), (0, zx_rV (zx_BK B) 24 0), (1, .int x1), (2, .int x2)]) dd_Ref_map_94 (by decide) rfl ?_
  refine zx_sub [2, 1, 0] rfl ?_
  exact zj_Ref_map_96 E y4 r8.1 r8.2
set_option maxHeartbeats 4000000 in
set_option maxRecDepth 20000 in
theorem zj_Ref_map_29 {B : zx_B} (E : zx_E B zm_Ref_map)  (x1 : Int32) (x2 : Int32) (h : zx_H) : zx_X B zm_Ref_map (zx_QM B (fun r => ((some (Value.int r.1) : Option Value), r.2))) (zs_Ref_map_J29  x1 x2 h) 0 0 29 [(0, zx_rV (zx_BK B) 24 0), (1, .int x1), (2, .int x2)] [zx_rV (zx_BK B) 30 0, zx_rV (zx_BK B) 24 0] h := by
  unfold zs_Ref_map_J29
  refine zx_iconst E (0 : Int32) dd_Ref_map_29 (by decide) ?_
  refine zx_goto E 34 dd_Ref_map_30 rfl ?_
  exact zj_Ref_map_34 E x1 x2 (0 : Int32) h
set_option maxHeartbeats 4000000 in
set_option maxRecDepth 20000 in
theorem zt_Ref_map (l : Launch) (K : zx_K) (a1 : Int32) (a2 : Int32) (h : zx_H) (r : (Int32 × zx_H)) (hf : zs_Ref_map a1 a2 h = some r) : zx_MR l zm_Ref_map zy_Ref_map K [zx_rV K 24 0, .int a1, .int a2] h (some (.int r.1)) r.2 := by
  refine zx_ofM (M := zm_Ref_map) (y := zy_Ref_map) (r := r) (as := [zx_rV K 24 0, .int a1, .int a2]) (ρ := (fun r => ((some (Value.int r.1) : Option Value), r.2))) (by decide) rfl hf (Nat.le_of_ble_eq_true rfl) ?_
  intro B hl hK E
  subst hK
  subst hl
  show zx_X B zm_Ref_map _ _ 0 0 0 [(0, zx_rV (zx_BK B) 24 0), (1, .int a1), (2, .int a2)] [] h
  unfold zs_Ref_map
  refine zx_iload_n E 1 dd_Ref_map_0 rfl rfl ?_
  refine zx_if_lt E 43 dd_Ref_map_1 rfl ?_ ?_
  rotate_left
  · refine zx_sub [0] rfl ?_
    exact zj_Ref_map_43 E h
  refine zx_iload_n E 1 dd_Ref_map_4 rfl rfl ?_
  refine zx_aload_n E 0 dd_Ref_map_5 rfl rfl ?_
  refine zx_getI E zd_Ref_methods zg_24 Nat.zero_lt_one zw_1115 dd_Ref_map_6 ?_
  refine zx_icmp_ge E 43 dd_Ref_map_9 rfl ?_ ?_
  rotate_left
  · refine zx_sub [0] rfl ?_
    exact zj_Ref_map_43 E h
  refine zx_aload_n E 0 dd_Ref_map_12 rfl rfl ?_
  refine zx_aload_n E 0 dd_Ref_map_13 rfl rfl ?_
  refine zx_getR E 30 0 zd_Ref_methodFrom zg_24 Nat.zero_lt_one (zr_Ref_methodFrom _) zw_1116 dd_Ref_map_14 ?_
  refine zx_iload_n E 1 dd_Ref_map_17 rfl rfl ?_
  refine zx_if_lt E 29 dd_Ref_map_18 rfl ?_ ?_
  rotate_left
  · exact zj_Ref_map_29 E a1 a2 h
  refine zx_iload_n E 1 dd_Ref_map_21 rfl rfl ?_
  refine zx_aload_n E 0 dd_Ref_map_22 rfl rfl ?_
  refine zx_getI E zd_Ref_methods zg_24 Nat.zero_lt_one zw_1115 dd_Ref_map_23 ?_
  refine zx_icmp_lt E 33 dd_Ref_map_26 rfl ?_ ?_
  · exact zj_Ref_map_29 E a1 a2 h
  refine zx_iload_n E 1 dd_Ref_map_33 rfl rfl ?_
  exact zj_Ref_map_34 E a1 a2 a1 h
set_option maxHeartbeats 4000000 in
set_option maxRecDepth 20000 in
theorem zj_Ref_get_34 {B : zx_B} (E : zx_E B zm_Ref_get)   (h : zx_H) : zx_X B zm_Ref_get (zx_QM B (fun r => ((some (Value.long r.1) : Option Value), r.2))) (zs_Ref_get_J34  h) 0 0 34 [(0, zx_rV (zx_BK B) 24 0)] [] h := by
  unfold zs_Ref_get_J34
  refine zx_aload_n E 0 dd_Ref_get_34 rfl rfl ?_
  refine zx_iconst E (1 : Int32) dd_Ref_get_35 (by decide) ?_
  refine zx_callV_iw (T := zx_TRef) E [.int (1 : Int32)] (fun rZ eZ => zt_Ref_fails _ _ (1 : Int32) h _ eZ) zg_24 Nat.zero_lt_one rfl zc_Ref_109 ⟨by decide, by decide⟩ (Nat.zero_le _) (Nat.zero_le _) rfl rfl (Nat.le_of_ble_eq_true rfl) dd_Ref_get_36 (fun r1 => ?_)
  refine zx_i2l E dd_Ref_get_39 ?_
  exact zx_lret E rfl rfl dd_Ref_get_40
set_option maxHeartbeats 4000000 in
set_option maxRecDepth 20000 in
theorem zj_Ref_get_30 {B : zx_B} (E : zx_E B zm_Ref_get)  (x1 : Int32) (x2 : Int32) (s0 : Int32) (s2 : Int32) (h : zx_H) : zx_X B zm_Ref_get (zx_QM B (fun r => ((some (Value.long r.1) : Option Value), r.2))) (zs_Ref_get_J30  x1 x2 s0 s2 h) 0 0 30 [(0, zx_rV (zx_BK B) 24 0), (1, .int x1), (2, .int x2)] [.int s2, zx_rV (zx_BK B) 41 0, .int s0] h := by
  unfold zs_Ref_get_J30
  refine zx_iald E zg_41 Nat.zero_lt_one dd_Ref_get_30 ?_
  refine zx_icmp_lt E 41 dd_Ref_get_31 rfl ?_ ?_
  · refine zx_sub [0] rfl ?_
    exact zj_Ref_get_34 E h
  refine zx_aload_n E 0 dd_Ref_get_41 rfl rfl ?_
  refine zx_iconst E (0 : Int32) dd_Ref_get_42 (by decide) ?_
  refine zx_putI E zd_Ref_thrown zp_Ref_thrown zg_24 Nat.zero_lt_one rfl rfl zw_1107 dd_Ref_get_43 ?_
  refine zx_letH (fun h1 => ?_)
  refine zx_aload_n E 0 dd_Ref_get_46 rfl rfl ?_
  refine zx_getR E 40 0 zd_Ref_type zg_24 Nat.zero_lt_one (zr_Ref_type _) zw_1131 dd_Ref_get_47 ?_
  refine zx_iload_n E 1 dd_Ref_get_50 rfl rfl ?_
  refine zx_iald E zg_40 Nat.zero_lt_one dd_Ref_get_51 ?_
  refine zx_bipush E (14 : Int32) dd_Ref_get_52 (by decide) ?_
  refine zx_icmp_ne E 72 dd_Ref_get_54 rfl ?_ ?_
  rotate_left
  · refine zx_aload_n E 0 dd_Ref_get_72 rfl rfl ?_
    refine zx_getR E 42 0 zd_Ref_values zg_24 Nat.zero_lt_one (zr_Ref_values _) zw_1133 dd_Ref_get_73 ?_
    refine zx_bipush E (16 : Int32) dd_Ref_get_76 (by decide) ?_
    refine zx_iload_n E 1 dd_Ref_get_78 rfl rfl ?_
    refine zx_imul E dd_Ref_get_79 ?_
    refine zx_iload_n E 2 dd_Ref_get_80 rfl rfl ?_
    refine zx_iadd E dd_Ref_get_81 ?_
    refine zx_lald E zg_42 Nat.zero_lt_one dd_Ref_get_82 ?_
    exact zx_lret E rfl rfl dd_Ref_get_83
  refine zx_aload_n E 0 dd_Ref_get_57 rfl rfl ?_
  refine zx_getR E 43 0 zd_Ref_characters zg_24 Nat.zero_lt_one (zr_Ref_characters _) zw_1134 dd_Ref_get_58 ?_
  refine zx_bipush E (24 : Int32) dd_Ref_get_61 (by decide) ?_
  refine zx_iload_n E 1 dd_Ref_get_63 rfl rfl ?_
  refine zx_imul E dd_Ref_get_64 ?_
  refine zx_iload_n E 2 dd_Ref_get_65 rfl rfl ?_
  refine zx_iadd E dd_Ref_get_66 ?_
  refine zx_iald E zg_43 Nat.zero_lt_one dd_Ref_get_67 ?_
  refine zx_i2l E dd_Ref_get_68 ?_
  refine zx_goto E 83 dd_Ref_get_69 rfl ?_
  exact zx_lret E rfl rfl dd_Ref_get_83
set_option maxHeartbeats 4000000 in
set_option maxRecDepth 20000 in
theorem zt_Ref_get (l : Launch) (K : zx_K) (a1 : Int32) (a2 : Int32) (h : zx_H) (r : (Int64 × zx_H)) (hf : zs_Ref_get a1 a2 h = some r) : zx_MR l zm_Ref_get zy_Ref_get K [zx_rV K 24 0, .int a1, .int a2] h (some (.long r.1)) r.2 := by
  refine zx_ofM (M := zm_Ref_get) (y := zy_Ref_get) (r := r) (as := [zx_rV K 24 0, .int a1, .int a2]) (ρ := (fun r => ((some (Value.long r.1) : Option Value), r.2))) (by decide) rfl hf (Nat.le_of_ble_eq_true rfl) ?_
  intro B hl hK E
  subst hK
  subst hl
  show zx_X B zm_Ref_get _ _ 0 0 0 [(0, zx_rV (zx_BK B) 24 0), (1, .int a1), (2, .int a2)] [] h
  unfold zs_Ref_get
  refine zx_aload_n E 0 dd_Ref_get_0 rfl rfl ?_
  refine zx_iload_n E 1 dd_Ref_get_1 rfl rfl ?_
  refine zx_callV_z (T := zx_TRef) E [.int a1] (fun rZ eZ => zt_Ref_isObject _ _ a1 h _ eZ) zg_24 Nat.zero_lt_one rfl zc_Ref_242 ⟨by decide, by decide⟩ (Nat.zero_le _) (Nat.zero_le _) rfl rfl (Nat.le_of_ble_eq_true rfl) dd_Ref_get_2 (fun r1 => ?_)
  refine zx_ifb_eq E (x := r1) 34 dd_Ref_get_5 rfl ?_ ?_
  rotate_left
  · refine zx_sub [0] rfl ?_
    exact zj_Ref_get_34 E h
  refine zx_iload_n E 2 dd_Ref_get_8 rfl rfl ?_
  refine zx_if_lt E 34 dd_Ref_get_9 rfl ?_ ?_
  rotate_left
  · refine zx_sub [0] rfl ?_
    exact zj_Ref_get_34 E h
  refine zx_iload_n E 2 dd_Ref_get_12 rfl rfl ?_
  refine zx_aload_n E 0 dd_Ref_get_13 rfl rfl ?_
  refine zx_getR E 41 0 zd_Ref_count zg_24 Nat.zero_lt_one (zr_Ref_count _) zw_1132 dd_Ref_get_14 ?_
  refine zx_aload_n E 0 dd_Ref_get_17 rfl rfl ?_
  refine zx_iload_n E 1 dd_Ref_get_18 rfl rfl ?_
  refine zx_callV_z (T := zx_TRef) E [.int a1] (fun rZ eZ => zt_Ref_isObject _ _ a1 h _ eZ) zg_24 Nat.zero_lt_one rfl zc_Ref_242 ⟨by decide, by decide⟩ (Nat.zero_le _) (Nat.zero_le _) rfl rfl (Nat.le_of_ble_eq_true rfl) dd_Ref_get_19 (fun r2 => ?_)
  refine zx_ifb_eq E (x := r2) 29 dd_Ref_get_22 rfl ?_ ?_
  rotate_left
  · refine zx_iconst E (0 : Int32) dd_Ref_get_29 (by decide) ?_
    exact zj_Ref_get_30 E a1 a2 a2 (0 : Int32) h
  refine zx_iload_n E 1 dd_Ref_get_25 rfl rfl ?_
  refine zx_goto E 30 dd_Ref_get_26 rfl ?_
  exact zj_Ref_get_30 E a1 a2 a2 a1 h
set_option maxHeartbeats 4000000 in
set_option maxRecDepth 20000 in
theorem zj_Ref_about_17 {B : zx_B} (E : zx_E B zm_Ref_about)   (h : zx_H) : zx_X B zm_Ref_about (zx_QM B (fun r => ((some (Value.int r.1) : Option Value), r.2))) (zs_Ref_about_J17  h) 0 0 17 [(0, zx_rV (zx_BK B) 24 0)] [] h := by
  unfold zs_Ref_about_J17
  refine zx_aload_n E 0 dd_Ref_about_17 rfl rfl ?_
  refine zx_iconst E (1 : Int32) dd_Ref_about_18 (by decide) ?_
  refine zx_callV_iw (T := zx_TRef) E [.int (1 : Int32)] (fun rZ eZ => zt_Ref_fails _ _ (1 : Int32) h _ eZ) zg_24 Nat.zero_lt_one rfl zc_Ref_109 ⟨by decide, by decide⟩ (Nat.zero_le _) (Nat.zero_le _) rfl rfl (Nat.le_of_ble_eq_true rfl) dd_Ref_about_19 (fun r1 => ?_)
  exact zx_iret E rfl rfl dd_Ref_about_22
set_option maxHeartbeats 4000000 in
set_option maxRecDepth 20000 in
theorem zt_Ref_about (l : Launch) (K : zx_K) (a1 : Int32) (a2 : Int32) (h : zx_H) (r : (Int32 × zx_H)) (hf : zs_Ref_about a1 a2 h = some r) : zx_MR l zm_Ref_about zy_Ref_about K [zx_rV K 24 0, .int a1, .int a2] h (some (.int r.1)) r.2 := by
  refine zx_ofM (M := zm_Ref_about) (y := zy_Ref_about) (r := r) (as := [zx_rV K 24 0, .int a1, .int a2]) (ρ := (fun r => ((some (Value.int r.1) : Option Value), r.2))) (by decide) rfl hf (Nat.le_of_ble_eq_true rfl) ?_
  intro B hl hK E
  subst hK
  subst hl
  show zx_X B zm_Ref_about _ _ 0 0 0 [(0, zx_rV (zx_BK B) 24 0), (1, .int a1), (2, .int a2)] [] h
  unfold zs_Ref_about
  refine zx_aload_n E 0 dd_Ref_about_0 rfl rfl ?_
  refine zx_iload_n E 1 dd_Ref_about_1 rfl rfl ?_
  refine zx_callV_z (T := zx_TRef) E [.int a1] (fun rZ eZ => zt_Ref_isObject _ _ a1 h _ eZ) zg_24 Nat.zero_lt_one rfl zc_Ref_242 ⟨by decide, by decide⟩ (Nat.zero_le _) (Nat.zero_le _) rfl rfl (Nat.le_of_ble_eq_true rfl) dd_Ref_about_2 (fun r1 => ?_)
  refine zx_ifb_eq E (x := r1) 17 dd_Ref_about_5 rfl ?_ ?_
  rotate_left
  · refine zx_sub [0] rfl ?_
    exact zj_Ref_about_17 E h
  refine zx_iload_n E 2 dd_Ref_about_8 rfl rfl ?_
  refine zx_if_lt E 17 dd_Ref_about_9 rfl ?_ ?_
  rotate_left
  · refine zx_sub [0] rfl ?_
    exact zj_Ref_about_17 E h
  refine zx_iload_n E 2 dd_Ref_about_12 rfl rfl ?_
  refine zx_iconst E (1 : Int32) dd_Ref_about_13 (by decide) ?_
  refine zx_icmp_le E 23 dd_Ref_about_14 rfl ?_ ?_
  · refine zx_sub [0] rfl ?_
    exact zj_Ref_about_17 E h
  refine zx_aload_n E 0 dd_Ref_about_23 rfl rfl ?_
  refine zx_iconst E (0 : Int32) dd_Ref_about_24 (by decide) ?_
  refine zx_putI E zd_Ref_thrown zp_Ref_thrown zg_24 Nat.zero_lt_one rfl rfl zw_1107 dd_Ref_about_25 ?_
  refine zx_letH (fun h2 => ?_)
  refine zx_iload_n E 2 dd_Ref_about_28 rfl rfl ?_
  refine zx_if_ne E 41 dd_Ref_about_29 rfl ?_ ?_
  rotate_left
  · refine zx_aload_n E 0 dd_Ref_about_41 rfl rfl ?_
    refine zx_getR E 41 0 zd_Ref_count zg_24 Nat.zero_lt_one (zr_Ref_count _) zw_1132 dd_Ref_about_42 ?_
    refine zx_iload_n E 1 dd_Ref_about_45 rfl rfl ?_
    refine zx_iald E zg_41 Nat.zero_lt_one dd_Ref_about_46 ?_
    exact zx_iret E rfl rfl dd_Ref_about_47
  refine zx_aload_n E 0 dd_Ref_about_32 rfl rfl ?_
  refine zx_getR E 40 0 zd_Ref_type zg_24 Nat.zero_lt_one (zr_Ref_type _) zw_1131 dd_Ref_about_33 ?_
  refine zx_iload_n E 1 dd_Ref_about_36 rfl rfl ?_
  refine zx_iald E zg_40 Nat.zero_lt_one dd_Ref_about_37 ?_
  refine zx_goto E 47 dd_Ref_about_38 rfl ?_
  exact zx_iret E rfl rfl dd_Ref_about_47
set_option maxHeartbeats 4000000 in
set_option maxRecDepth 20000 in
theorem zt_Ref_count (l : Launch) (K : zx_K) (a1 : Int32) (h : zx_H) (r : (Int32 × zx_H)) (hf : zs_Ref_count a1 h = some r) : zx_MR l zm_Ref_count zy_Ref_count K [zx_rV K 24 0, .int a1] h (some (.int r.1)) r.2 := by
  refine zx_ofM (M := zm_Ref_count) (y := zy_Ref_count) (r := r) (as := [zx_rV K 24 0, .int a1]) (ρ := (fun r => ((some (Value.int r.1) : Option Value), r.2))) (by decide) rfl hf (Nat.le_of_ble_eq_true rfl) ?_
  intro B hl hK E
  subst hK
  subst hl
  show zx_X B zm_Ref_count _ _ 0 0 0 [(0, zx_rV (zx_BK B) 24 0), (1, .int a1)] [] h
  unfold zs_Ref_count
  refine zx_aload_n E 0 dd_Ref_count_0 rfl rfl ?_
  refine zx_iconst E (0 : Int32) dd_Ref_count_1 (by decide) ?_
  refine zx_putI E zd_Ref_thrown zp_Ref_thrown zg_24 Nat.zero_lt_one rfl rfl zw_1107 dd_Ref_count_2 ?_
  refine zx_letH (fun h1 => ?_)
  refine zx_iload_n E 1 dd_Ref_count_5 rfl rfl ?_
  refine zx_if_ne E 16 dd_Ref_count_6 rfl ?_ ?_
  · refine zx_aload_n E 0 dd_Ref_count_9 rfl rfl ?_
    refine zx_getI E zd_Ref_types zg_24 Nat.zero_lt_one zw_1109 dd_Ref_count_10 ?_
    refine zx_goto E 73 dd_Ref_count_13 rfl ?_
    exact zx_iret E rfl rfl dd_Ref_count_73
  refine zx_iload_n E 1 dd_Ref_count_16 rfl rfl ?_
  refine zx_iconst E (1 : Int32) dd_Ref_count_17 (by decide) ?_
  refine zx_icmp_ne E 28 dd_Ref_count_18 rfl ?_ ?_
  · refine zx_aload_n E 0 dd_Ref_count_21 rfl rfl ?_
    refine zx_getI E zd_Ref_methods zg_24 Nat.zero_lt_one zw_1115 dd_Ref_count_22 ?_
    refine zx_goto E 73 dd_Ref_count_25 rfl ?_
    exact zx_iret E rfl rfl dd_Ref_count_73
  refine zx_iload_n E 1 dd_Ref_count_28 rfl rfl ?_
  refine zx_iconst E (2 : Int32) dd_Ref_count_29 (by decide) ?_
  refine zx_icmp_ne E 40 dd_Ref_count_30 rfl ?_ ?_
  · refine zx_aload_n E 0 dd_Ref_count_33 rfl rfl ?_
    refine zx_getI E zd_Ref_functions zg_24 Nat.zero_lt_one zw_1122 dd_Ref_count_34 ?_
    refine zx_goto E 73 dd_Ref_count_37 rfl ?_
    exact zx_iret E rfl rfl dd_Ref_count_73
  refine zx_iload_n E 1 dd_Ref_count_40 rfl rfl ?_
  refine zx_iconst E (3 : Int32) dd_Ref_count_41 (by decide) ?_
  refine zx_icmp_ne E 52 dd_Ref_count_42 rfl ?_ ?_
  · refine zx_aload_n E 0 dd_Ref_count_45 rfl rfl ?_
    refine zx_getI E zd_Ref_objects zg_24 Nat.zero_lt_one zw_1130 dd_Ref_count_46 ?_
    refine zx_goto E 73 dd_Ref_count_49 rfl ?_
    exact zx_iret E rfl rfl dd_Ref_count_73
  refine zx_iload_n E 1 dd_Ref_count_52 rfl rfl ?_
  refine zx_iconst E (4 : Int32) dd_Ref_count_53 (by decide) ?_
  refine zx_icmp_ne E 72 dd_Ref_count_54 rfl ?_ ?_
  rotate_left
  · refine zx_iconst E (-1 : Int32) dd_Ref_count_72 (by decide) ?_
    exact zx_iret E rfl rfl dd_Ref_count_73
  refine zx_aload_n E 0 dd_Ref_count_57 rfl rfl ?_
  refine zx_getI E zd_Ref_built zg_24 Nat.zero_lt_one zw_1108 dd_Ref_count_58 ?_
  refine zx_if_eq E 68 dd_Ref_count_61 rfl ?_ ?_
  · refine zx_iconst E (1 : Int32) dd_Ref_count_64 (by decide) ?_
    refine zx_goto E 73 dd_Ref_count_65 rfl ?_
    exact zx_iret E rfl rfl dd_Ref_count_73
  refine zx_iconst E (0 : Int32) dd_Ref_count_68 (by decide) ?_
  refine zx_goto E 73 dd_Ref_count_69 rfl ?_
  exact zx_iret E rfl rfl dd_Ref_count_73
set_option maxHeartbeats 4000000 in
set_option maxRecDepth 20000 in
theorem zj_Basics_isBox_16 {B : zx_B} (E : zx_E B zm_Basics_isBox) (h : zx_H)   : zx_X B zm_Basics_isBox (zx_QM B (fun r => ((some (Value.int (zx_b r)) : Option Value), h))) (zs_Basics_isBox_J16 h  ) 0 0 16 [] [] h := by
  unfold zs_Basics_isBox_J16
  refine zx_iconst E (0 : Int32) dd_Basics_isBox_16 (by decide) ?_
  exact zx_zret E false rfl rfl rfl dd_Basics_isBox_17
set_option maxHeartbeats 4000000 in
set_option maxRecDepth 20000 in
theorem zt_Basics_isBox (l : Launch) (K : zx_K) (a0 : Int32) (h : zx_H) (r : Bool) (hf : zs_Basics_isBox a0 h = some r) : zx_MR l zm_Basics_isBox zy_Basics_isBox K [.int a0] h (some (.int (zx_b r))) h := by
  refine zx_ofM (M := zm_Basics_isBox) (y := zy_Basics_isBox) (r := r) (as := [.int a0]) (ρ := (fun r => ((some (Value.int (zx_b r)) : Option Value), h))) (by decide) rfl hf (Nat.le_of_ble_eq_true rfl) ?_
  intro B hl hK E
  subst hK
  subst hl
  show zx_X B zm_Basics_isBox _ _ 0 0 0 [(0, .int a0)] [] h
  unfold zs_Basics_isBox
  refine zx_iload_n E 0 dd_Basics_isBox_0 rfl rfl ?_
  refine zx_bipush E (7 : Int32) dd_Basics_isBox_1 (by decide) ?_
  refine zx_icmp_lt E 16 dd_Basics_isBox_3 rfl ?_ ?_
  rotate_left
  · refine zx_sub [] rfl ?_
    exact zj_Basics_isBox_16 E h
  refine zx_iload_n E 0 dd_Basics_isBox_6 rfl rfl ?_
  refine zx_bipush E (14 : Int32) dd_Basics_isBox_7 (by decide) ?_
  refine zx_icmp_ge E 16 dd_Basics_isBox_9 rfl ?_ ?_
  rotate_left
  · refine zx_sub [] rfl ?_
    exact zj_Basics_isBox_16 E h
  refine zx_iconst E (1 : Int32) dd_Basics_isBox_12 (by decide) ?_
  refine zx_goto E 17 dd_Basics_isBox_13 rfl ?_
  exact zx_zret E true rfl rfl rfl dd_Basics_isBox_17
set_option maxHeartbeats 4000000 in
set_option maxRecDepth 20000 in
theorem zj_Basics_isBasic_14 {B : zx_B} (E : zx_E B zm_Basics_isBasic) (h : zx_H)   : zx_X B zm_Basics_isBasic (zx_QM B (fun r => ((some (Value.int (zx_b r)) : Option Value), h))) (zs_Basics_isBasic_J14 h  ) 0 0 14 [] [] h := by
  unfold zs_Basics_isBasic_J14
  refine zx_iconst E (0 : Int32) dd_Basics_isBasic_14 (by decide) ?_
  exact zx_zret E false rfl rfl rfl dd_Basics_isBasic_15
set_option maxHeartbeats 4000000 in
set_option maxRecDepth 20000 in
theorem zt_Basics_isBasic (l : Launch) (K : zx_K) (a0 : Int32) (h : zx_H) (r : Bool) (hf : zs_Basics_isBasic a0 h = some r) : zx_MR l zm_Basics_isBasic zy_Basics_isBasic K [.int a0] h (some (.int (zx_b r))) h := by
  refine zx_ofM (M := zm_Basics_isBasic) (y := zy_Basics_isBasic) (r := r) (as := [.int a0]) (ρ := (fun r => ((some (Value.int (zx_b r)) : Option Value), h))) (by decide) rfl hf (Nat.le_of_ble_eq_true rfl) ?_
  intro B hl hK E
  subst hK
  subst hl
  show zx_X B zm_Basics_isBasic _ _ 0 0 0 [(0, .int a0)] [] h
  unfold zs_Basics_isBasic
  refine zx_iload_n E 0 dd_Basics_isBasic_0 rfl rfl ?_
  refine zx_if_lt E 14 dd_Basics_isBasic_1 rfl ?_ ?_
  rotate_left
  · refine zx_sub [] rfl ?_
    exact zj_Basics_isBasic_14 E h
  refine zx_iload_n E 0 dd_Basics_isBasic_4 rfl rfl ?_
  refine zx_bipush E (14 : Int32) dd_Basics_isBasic_5 (by decide) ?_
  refine zx_icmp_ge E 14 dd_Basics_isBasic_7 rfl ?_ ?_
  rotate_left
  · refine zx_sub [] rfl ?_
    exact zj_Basics_isBasic_14 E h
  refine zx_iconst E (1 : Int32) dd_Basics_isBasic_10 (by decide) ?_
  refine zx_goto E 15 dd_Basics_isBasic_11 rfl ?_
  exact zx_zret E true rfl rfl rfl dd_Basics_isBasic_15
set_option maxHeartbeats 4000000 in
set_option maxRecDepth 20000 in
theorem zt_Basics_kindOf (l : Launch) (K : zx_K) (a0 : Int32) (h : zx_H) (r : Int32) (hf : zs_Basics_kindOf a0 h = some r) : zx_MR l zm_Basics_kindOf zy_Basics_kindOf K [.int a0] h (some (.int r)) h := by
  refine zx_ofM (M := zm_Basics_kindOf) (y := zy_Basics_kindOf) (r := r) (as := [.int a0]) (ρ := (fun r => ((some (Value.int r) : Option Value), h))) (by decide) rfl hf (Nat.le_of_ble_eq_true rfl) ?_
  intro B hl hK E
  subst hK
  subst hl
  show zx_X B zm_Basics_kindOf _ _ 0 0 0 [(0, .int a0)] [] h
  unfold zs_Basics_kindOf
  refine zx_iload_n E 0 dd_Basics_kindOf_0 rfl rfl ?_
  refine zx_bipush E (7 : Int32) dd_Basics_kindOf_1 (by decide) ?_
  refine zx_icmp_ge E 10 dd_Basics_kindOf_3 rfl ?_ ?_
  · refine zx_iload_n E 0 dd_Basics_kindOf_6 rfl rfl ?_
    refine zx_goto E 14 dd_Basics_kindOf_7 rfl ?_
    exact zx_iret E rfl rfl dd_Basics_kindOf_14
  refine zx_iload_n E 0 dd_Basics_kindOf_10 rfl rfl ?_
  refine zx_bipush E (7 : Int32) dd_Basics_kindOf_11 (by decide) ?_
  refine zx_isub E dd_Basics_kindOf_13 ?_
  exact zx_iret E rfl rfl dd_Basics_kindOf_14
set_option maxHeartbeats 4000000 in
set_option maxRecDepth 20000 in
theorem zj_Basics_isWhole_26 {B : zx_B} (E : zx_E B zm_Basics_isWhole) (h : zx_H)   : zx_X B zm_Basics_isWhole (zx_QM B (fun r => ((some (Value.int (zx_b r)) : Option Value), h))) (zs_Basics_isWhole_J26 h  ) 0 0 26 [] [] h := by
  unfold zs_Basics_isWhole_J26
  refine zx_iconst E (0 : Int32) dd_Basics_isWhole_26 (by decide) ?_
  exact zx_zret E false rfl rfl rfl dd_Basics_isWhole_27
set_option maxHeartbeats 4000000 in
set_option maxRecDepth 20000 in
theorem zt_Basics_isWhole (l : Launch) (K : zx_K) (a0 : Int32) (h : zx_H) (r : Bool) (hf : zs_Basics_isWhole a0 h = some r) : zx_MR l zm_Basics_isWhole zy_Basics_isWhole K [.int a0] h (some (.int (zx_b r))) h := by
  refine zx_ofM (M := zm_Basics_isWhole) (y := zy_Basics_isWhole) (r := r) (as := [.int a0]) (ρ := (fun r => ((some (Value.int (zx_b r)) : Option Value), h))) (by decide) rfl hf (Nat.le_of_ble_eq_true rfl) ?_
  intro B hl hK E
  subst hK
  subst hl
  show zx_X B zm_Basics_isWhole _ _ 0 0 0 [(0, .int a0)] [] h
  unfold zs_Basics_isWhole
  refine zx_iload_n E 0 dd_Basics_isWhole_0 rfl rfl ?_
  refine zx_if_lt E 26 dd_Basics_isWhole_1 rfl ?_ ?_
  rotate_left
  · refine zx_sub [] rfl ?_
    exact zj_Basics_isWhole_26 E h
  refine zx_iload_n E 0 dd_Basics_isWhole_4 rfl rfl ?_
  refine zx_bipush E (14 : Int32) dd_Basics_isWhole_5 (by decide) ?_
  refine zx_icmp_ge E 26 dd_Basics_isWhole_7 rfl ?_ ?_
  rotate_left
  · refine zx_sub [] rfl ?_
    exact zj_Basics_isWhole_26 E h
  refine zx_iload_n E 0 dd_Basics_isWhole_10 rfl rfl ?_
  refine zx_bipush E (6 : Int32) dd_Basics_isWhole_11 (by decide) ?_
  refine zx_icmp_eq E 26 dd_Basics_isWhole_13 rfl ?_ ?_
  rotate_left
  · refine zx_sub [] rfl ?_
    exact zj_Basics_isWhole_26 E h
  refine zx_iload_n E 0 dd_Basics_isWhole_16 rfl rfl ?_
  refine zx_bipush E (13 : Int32) dd_Basics_isWhole_17 (by decide) ?_
  refine zx_icmp_eq E 26 dd_Basics_isWhole_19 rfl ?_ ?_
  rotate_left
  · refine zx_sub [] rfl ?_
    exact zj_Basics_isWhole_26 E h
  refine zx_iconst E (1 : Int32) dd_Basics_isWhole_22 (by decide) ?_
  refine zx_goto E 27 dd_Basics_isWhole_23 rfl ?_
  exact zx_zret E true rfl rfl rfl dd_Basics_isWhole_27
set_option maxHeartbeats 4000000 in
set_option maxRecDepth 20000 in
theorem zj_Basics_isNull_18 {B : zx_B} (E : zx_E B zm_Basics_isNull) (h : zx_H)   : zx_X B zm_Basics_isNull (zx_QM B (fun r => ((some (Value.int (zx_b r)) : Option Value), h))) (zs_Basics_isNull_J18 h  ) 0 0 18 [] [] h := by
  unfold zs_Basics_isNull_J18
  refine zx_iconst E (0 : Int32) dd_Basics_isNull_18 (by decide) ?_
  exact zx_zret E false rfl rfl rfl dd_Basics_isNull_19
set_option maxHeartbeats 4000000 in
set_option maxRecDepth 20000 in
theorem zt_Basics_isNull (l : Launch) (K : zx_K) (a0 : Int32) (a1 : Int64) (h : zx_H) (r : Bool) (hf : zs_Basics_isNull a0 a1 h = some r) : zx_MR l zm_Basics_isNull zy_Basics_isNull K [.int a0, .long a1] h (some (.int (zx_b r))) h := by
  refine zx_ofM (M := zm_Basics_isNull) (y := zy_Basics_isNull) (r := r) (as := [.int a0, .long a1]) (ρ := (fun r => ((some (Value.int (zx_b r)) : Option Value), h))) (by decide) rfl hf (Nat.le_of_ble_eq_true rfl) ?_
  intro B hl hK E
  subst hK
  subst hl
  show zx_X B zm_Basics_isNull _ _ 0 0 0 [(0, .int a0), (1, .long a1)] [] h
  unfold zs_Basics_isNull
  refine zx_iload_n E 0 dd_Basics_isNull_0 rfl rfl ?_
  refine zx_bipush E (7 : Int32) dd_Basics_isNull_1 (by decide) ?_
  refine zx_icmp_lt E 18 dd_Basics_isNull_3 rfl ?_ ?_
  rotate_left
  · refine zx_sub [] rfl ?_
    exact zj_Basics_isNull_18 E h
  refine zx_lload_n E 1 dd_Basics_isNull_6 rfl rfl ?_
  refine zx_ldc2 E (-1 : Int64) zw_817 dd_Basics_isNull_7 ?_
  refine zx_lcmp_ne E 18 dd_Basics_isNull_10 dd_Basics_isNull_11 rfl ?_ ?_
  rotate_left
  · refine zx_sub [] rfl ?_
    exact zj_Basics_isNull_18 E h
  refine zx_iconst E (1 : Int32) dd_Basics_isNull_14 (by decide) ?_
  refine zx_goto E 19 dd_Basics_isNull_15 rfl ?_
  exact zx_zret E true rfl rfl rfl dd_Basics_isNull_19
set_option maxHeartbeats 4000000 in
set_option maxRecDepth 20000 in
theorem zt_Basics_emptyOf (l : Launch) (K : zx_K) (a0 : Int32) (h : zx_H) (r : Int64) (hf : zs_Basics_emptyOf a0 h = some r) : zx_MR l zm_Basics_emptyOf zy_Basics_emptyOf K [.int a0] h (some (.long r)) h := by
  refine zx_ofM (M := zm_Basics_emptyOf) (y := zy_Basics_emptyOf) (r := r) (as := [.int a0]) (ρ := (fun r => ((some (Value.long r) : Option Value), h))) (by decide) rfl hf (Nat.le_of_ble_eq_true rfl) ?_
  intro B hl hK E
  subst hK
  subst hl
  show zx_X B zm_Basics_emptyOf _ _ 0 0 0 [(0, .int a0)] [] h
  unfold zs_Basics_emptyOf
  refine zx_iload_n E 0 dd_Basics_emptyOf_0 rfl rfl ?_
  refine zx_bipush E (7 : Int32) dd_Basics_emptyOf_1 (by decide) ?_
  refine zx_icmp_ge E 10 dd_Basics_emptyOf_3 rfl ?_ ?_
  rotate_left
  · refine zx_ldc2 E (-1 : Int64) zw_817 dd_Basics_emptyOf_10 ?_
    exact zx_lret E rfl rfl dd_Basics_emptyOf_13
  refine zx_lconst E (0 : Int64) dd_Basics_emptyOf_6 rfl ?_
  refine zx_goto E 13 dd_Basics_emptyOf_7 rfl ?_
  exact zx_lret E rfl rfl dd_Basics_emptyOf_13
set_option maxHeartbeats 4000000 in
set_option maxRecDepth 20000 in
theorem zj_Basics_wholeOf_78 {B : zx_B} (E : zx_E B zm_Basics_wholeOf) (h : zx_H)  (x0 : Int64) (s0 : Int64) : zx_X B zm_Basics_wholeOf (zx_QM B (fun r => ((some (Value.long r) : Option Value), h))) (zs_Basics_wholeOf_J78 h  x0 s0) 0 0 78 [(0, .long x0)] [.long s0] h := by
  unfold zs_Basics_wholeOf_J78
  refine zx_lstore E (lv1 := [(7, .long s0), (0, .long x0)]) dd_Basics_wholeOf_78 (by decide) rfl ?_
  refine zx_lload_n E 1 dd_Basics_wholeOf_80 rfl rfl ?_
  refine zx_lconst E (0 : Int64) dd_Basics_wholeOf_81 rfl ?_
  refine zx_lcmp_ge E 92 dd_Basics_wholeOf_82 dd_Basics_wholeOf_83 rfl ?_ ?_
  rotate_left
  · refine zx_lload E 0 dd_Basics_wholeOf_92 rfl ?_
    exact zx_lret E rfl rfl dd_Basics_wholeOf_94
  refine zx_lload E 0 dd_Basics_wholeOf_86 rfl ?_
  refine zx_lneg E dd_Basics_wholeOf_88 ?_
  refine zx_goto E 94 dd_Basics_wholeOf_89 rfl ?_
  exact zx_lret E rfl rfl dd_Basics_wholeOf_94
set_option maxHeartbeats 4000000 in
set_option maxRecDepth 20000 in
theorem zt_Basics_wholeOf (l : Launch) (K : zx_K) (a0 : Int64) (h : zx_H) (r : Int64) (hf : zs_Basics_wholeOf a0 h = some r) : zx_MR l zm_Basics_wholeOf zy_Basics_wholeOf K [.long a0] h (some (.long r)) h := by
  refine zx_ofM (M := zm_Basics_wholeOf) (y := zy_Basics_wholeOf) (r := r) (as := [.long a0]) (ρ := (fun r => ((some (Value.long r) : Option Value), h))) (by decide) rfl hf (Nat.le_of_ble_eq_true rfl) ?_
  intro B hl hK E
  subst hK
  subst hl
  show zx_X B zm_Basics_wholeOf _ _ 0 0 0 [(0, .long a0)] [] h
  unfold zs_Basics_wholeOf
  refine zx_lload_n E 0 dd_Basics_wholeOf_0 rfl rfl ?_
  refine zx_bipush E (52 : Int32) dd_Basics_wholeOf_1 (by decide) ?_
  refine zx_lshr E dd_Basics_wholeOf_3 ?_
  refine zx_ldc2 E (2047 : Int64) zw_908 dd_Basics_wholeOf_4 ?_
  refine zx_land E dd_Basics_wholeOf_7 ?_
  refine zx_l2i E dd_Basics_wholeOf_8 ?_
  refine zx_sipush E (1023 : Int32) dd_Basics_wholeOf_9 (by decide) ?_
  refine zx_isub E dd_Basics_wholeOf_12 ?_
  refine zx_leti (fun y1 => ?_)
  refine zx_istore_n E (lv1 := [(2, .int y1), (0, .long a0)]) dd_Basics_wholeOf_13 rfl (by decide) rfl ?_
  refine zx_iload_n E 0 dd_Basics_wholeOf_14 rfl rfl ?_
  refine zx_if_ge E 20 dd_Basics_wholeOf_15 rfl ?_ ?_
  · refine zx_lconst E (0 : Int64) dd_Basics_wholeOf_18 rfl ?_
    exact zx_lret E rfl rfl dd_Basics_wholeOf_19
  refine zx_iload_n E 0 dd_Basics_wholeOf_20 rfl rfl ?_
  refine zx_bipush E (62 : Int32) dd_Basics_wholeOf_21 (by decide) ?_
  refine zx_icmp_le E 42 dd_Basics_wholeOf_23 rfl ?_ ?_
  · refine zx_lload_n E 1 dd_Basics_wholeOf_26 rfl rfl ?_
    refine zx_lconst E (0 : Int64) dd_Basics_wholeOf_27 rfl ?_
    refine zx_lcmp_ge E 38 dd_Basics_wholeOf_28 dd_Basics_wholeOf_29 rfl ?_ ?_
    rotate_left
    · refine zx_ldc2 E (9223372036854775807 : Int64) zw_408 dd_Basics_wholeOf_38 ?_
      exact zx_lret E rfl rfl dd_Basics_wholeOf_41
    refine zx_ldc2 E (-9223372036854775808 : Int64) zw_909 dd_Basics_wholeOf_32 ?_
    refine zx_goto E 41 dd_Basics_wholeOf_35 rfl ?_
    exact zx_lret E rfl rfl dd_Basics_wholeOf_41
  refine zx_ldc2 E (4503599627370496 : Int64) zw_910 dd_Basics_wholeOf_42 ?_
  refine zx_lstore_n E (lv1 := [(3, .long (4503599627370496 : Int64)), (2, .int y1), (0, .long a0)]) dd_Basics_wholeOf_45 rfl (by decide) rfl ?_
  refine zx_lload_n E 2 dd_Basics_wholeOf_46 rfl rfl ?_
  refine zx_lload_n E 0 dd_Basics_wholeOf_47 rfl rfl ?_
  refine zx_lconst E (1 : Int64) dd_Basics_wholeOf_48 rfl ?_
  refine zx_lsub E dd_Basics_wholeOf_49 ?_
  refine zx_land E dd_Basics_wholeOf_50 ?_
  refine zx_lload_n E 0 dd_Basics_wholeOf_51 rfl rfl ?_
  refine zx_lor E dd_Basics_wholeOf_52 ?_
  refine zx_letl (fun y2 => ?_)
  refine zx_lstore E (lv1 := [(5, .long y2), (3, .long (4503599627370496 : Int64)), (2, .int y1), (0, .long a0)]) dd_Basics_wholeOf_53 (by decide) rfl ?_
  refine zx_iload_n E 2 dd_Basics_wholeOf_55 rfl rfl ?_
  refine zx_bipush E (52 : Int32) dd_Basics_wholeOf_56 (by decide) ?_
  refine zx_icmp_ge E 71 dd_Basics_wholeOf_58 rfl ?_ ?_
  rotate_left
  · refine zx_lload E 0 dd_Basics_wholeOf_71 rfl ?_
    refine zx_iload_n E 2 dd_Basics_wholeOf_73 rfl rfl ?_
    refine zx_bipush E (52 : Int32) dd_Basics_wholeOf_74 (by decide) ?_
    refine zx_isub E dd_Basics_wholeOf_76 ?_
    refine zx_lshl E dd_Basics_wholeOf_77 ?_
    refine zx_sub [3] rfl ?_
    exact zj_Basics_wholeOf_78 E h a0 (zx_clshl y2 (y1 - (52 : Int32)))
  refine zx_lload E 0 dd_Basics_wholeOf_61 rfl ?_
  refine zx_bipush E (52 : Int32) dd_Basics_wholeOf_63 (by decide) ?_
  refine zx_iload_n E 2 dd_Basics_wholeOf_65 rfl rfl ?_
  refine zx_isub E dd_Basics_wholeOf_66 ?_
  refine zx_lshr E dd_Basics_wholeOf_67 ?_
  refine zx_goto E 78 dd_Basics_wholeOf_68 rfl ?_
  refine zx_sub [3] rfl ?_
  exact zj_Basics_wholeOf_78 E h a0 (zx_clshr y2 ((52 : Int32) - y1))
set_option maxHeartbeats 4000000 in
set_option maxRecDepth 20000 in
theorem zj_Basics_nearestDouble_150 {B : zx_B} (E : zx_E B zm_Basics_nearestDouble) (h : zx_H)  (x0 : Int64) (x4 : Int32) (x5 : Int64) : zx_X B zm_Basics_nearestDouble (zx_QM B (fun r => ((some (Value.long r) : Option Value), h))) (zs_Basics_nearestDouble_J150 h  x0 x4 x5) 0 0 150 [(0, .long x0), (4, .int x4), (5, .long x5)] [] h := by
  unfold zs_Basics_nearestDouble_J150
  refine zx_iload E 1 dd_Basics_nearestDouble_150 rfl ?_
  refine zx_sipush E (1023 : Int32) dd_Basics_nearestDouble_152 (by decide) ?_
  refine zx_iadd E dd_Basics_nearestDouble_155 ?_
  refine zx_iconst E (1 : Int32) dd_Basics_nearestDouble_156 (by decide) ?_
  refine zx_isub E dd_Basics_nearestDouble_157 ?_
  refine zx_i2l E dd_Basics_nearestDouble_158 ?_
  refine zx_bipush E (52 : Int32) dd_Basics_nearestDouble_159 (by decide) ?_
  refine zx_lshl E dd_Basics_nearestDouble_161 ?_
  refine zx_lload E 2 dd_Basics_nearestDouble_162 rfl ?_
  refine zx_ladd E dd_Basics_nearestDouble_164 ?_
  refine zx_letl (fun y1 => ?_)
  refine zx_lstore E (lv1 := [(7, .long y1), (0, .long x0), (4, .int x4), (5, .long x5)]) dd_Basics_nearestDouble_165 (by decide) rfl ?_
  refine zx_lload_n E 1 dd_Basics_nearestDouble_167 rfl rfl ?_
  refine zx_lconst E (0 : Int64) dd_Basics_nearestDouble_168 rfl ?_
  refine zx_lcmp_ge E 182 dd_Basics_nearestDouble_169 dd_Basics_nearestDouble_170 rfl ?_ ?_
  rotate_left
  · refine zx_lload E 0 dd_Basics_nearestDouble_182 rfl ?_
    exact zx_lret E rfl rfl dd_Basics_nearestDouble_184
  refine zx_lload E 0 dd_Basics_nearestDouble_173 rfl ?_
  refine zx_ldc2 E (-9223372036854775808 : Int64) zw_909 dd_Basics_nearestDouble_175 ?_
  refine zx_lor E dd_Basics_nearestDouble_178 ?_
  refine zx_goto E 184 dd_Basics_nearestDouble_179 rfl ?_
  exact zx_lret E rfl rfl dd_Basics_nearestDouble_184
set_option maxHeartbeats 4000000 in
set_option maxRecDepth 20000 in
theorem zj_Basics_nearestDouble_147 {B : zx_B} (E : zx_E B zm_Basics_nearestDouble) (h : zx_H)  (x0 : Int64) (x4 : Int32) (s0 : Int64) (s1 : Int64) : zx_X B zm_Basics_nearestDouble (zx_QM B (fun r => ((some (Value.long r) : Option Value), h))) (zs_Basics_nearestDouble_J147 h  x0 x4 s0 s1) 0 0 147 [(0, .long x0), (4, .int x4)] [.long s1, .long s0] h := by
  unfold zs_Basics_nearestDouble_J147
  refine zx_ladd E dd_Basics_nearestDouble_147 ?_
  refine zx_letl (fun y1 => ?_)
  refine zx_lstore E (lv1 := [(5, .long y1), (0, .long x0), (4, .int x4)]) dd_Basics_nearestDouble_148 (by decide) rfl ?_
  refine zx_sub [1, 2, 0] rfl ?_
  exact zj_Basics_nearestDouble_150 E h x0 x4 y1
set_option maxHeartbeats 4000000 in
set_option maxRecDepth 20000 in
theorem zj_Basics_nearestDouble_133 {B : zx_B} (E : zx_E B zm_Basics_nearestDouble) (h : zx_H)  (x0 : Int64) (x4 : Int32) (x5 : Int64) (s0 : Bool) : zx_X B zm_Basics_nearestDouble (zx_QM B (fun r => ((some (Value.long r) : Option Value), h))) (zs_Basics_nearestDouble_J133 h  x0 x4 x5 s0) 0 0 133 [(0, .long x0), (4, .int x4), (5, .long x5)] [.int (zx_b s0)] h := by
  unfold zs_Basics_nearestDouble_J133
  refine zx_istore E (lv1 := [(12, .int (zx_b s0)), (0, .long x0), (4, .int x4), (5, .long x5)]) dd_Basics_nearestDouble_133 (by decide) rfl ?_
  refine zx_lload E 3 dd_Basics_nearestDouble_135 rfl ?_
  refine zx_iload E 0 dd_Basics_nearestDouble_137 rfl ?_
  refine zx_ifb_eq E (x := s0) 146 dd_Basics_nearestDouble_139 rfl ?_ ?_
  rotate_left
  · refine zx_lconst E (0 : Int64) dd_Basics_nearestDouble_146 rfl ?_
    refine zx_sub [1, 2] rfl ?_
    exact zj_Basics_nearestDouble_147 E h x0 x4 x5 (0 : Int64)
  refine zx_lconst E (1 : Int64) dd_Basics_nearestDouble_142 rfl ?_
  refine zx_goto E 147 dd_Basics_nearestDouble_143 rfl ?_
  refine zx_sub [1, 2] rfl ?_
  exact zj_Basics_nearestDouble_147 E h x0 x4 x5 (1 : Int64)
set_option maxHeartbeats 4000000 in
set_option maxRecDepth 20000 in
theorem zj_Basics_nearestDouble_128 {B : zx_B} (E : zx_E B zm_Basics_nearestDouble) (h : zx_H)  (x0 : Int64) (x4 : Int32) (x5 : Int64) : zx_X B zm_Basics_nearestDouble (zx_QM B (fun r => ((some (Value.long r) : Option Value), h))) (zs_Basics_nearestDouble_J128 h  x0 x4 x5) 0 0 128 [(0, .long x0), (4, .int x4), (5, .long x5)] [] h := by
  unfold zs_Basics_nearestDouble_J128
  refine zx_iconst E (1 : Int32) dd_Basics_nearestDouble_128 (by decide) ?_
  refine zx_goto E 133 dd_Basics_nearestDouble_129 rfl ?_
  exact zj_Basics_nearestDouble_133 E h x0 x4 x5 true
set_option maxHeartbeats 4000000 in
set_option maxRecDepth 20000 in
theorem zj_Basics_nearestDouble_132 {B : zx_B} (E : zx_E B zm_Basics_nearestDouble) (h : zx_H)  (x0 : Int64) (x4 : Int32) (x5 : Int64) : zx_X B zm_Basics_nearestDouble (zx_QM B (fun r => ((some (Value.long r) : Option Value), h))) (zs_Basics_nearestDouble_J132 h  x0 x4 x5) 0 0 132 [(0, .long x0), (4, .int x4), (5, .long x5)] [] h := by
  unfold zs_Basics_nearestDouble_J132
  refine zx_iconst E (0 : Int32) dd_Basics_nearestDouble_132 (by decide) ?_
  exact zj_Basics_nearestDouble_133 E h x0 x4 x5 false
set_option maxHeartbeats 4000000 in
set_option maxRecDepth 20000 in
theorem zj_Basics_nearestDouble_63 {B : zx_B} (E : zx_E B zm_Basics_nearestDouble) (h : zx_H)  (x0 : Int64) (x2 : Int64) (x4 : Int32) (s0 : Int64) : zx_X B zm_Basics_nearestDouble (zx_QM B (fun r => ((some (Value.long r) : Option Value), h))) (zs_Basics_nearestDouble_J63 h  x0 x2 x4 s0) 0 0 63 [(0, .long x0), (2, .long x2), (4, .int x4)] [.long s0] h := by
  unfold zs_Basics_nearestDouble_J63
  refine zx_lstore E (lv1 := [(5, .long s0), (0, .long x0), (2, .long x2), (4, .int x4)]) dd_Basics_nearestDouble_63 (by decide) rfl ?_
  refine zx_iload E 3 dd_Basics_nearestDouble_65 rfl ?_
  refine zx_bipush E (52 : Int32) dd_Basics_nearestDouble_67 (by decide) ?_
  refine zx_icmp_le E 150 dd_Basics_nearestDouble_69 rfl ?_ ?_
  rotate_left
  · refine zx_sub [1, 3, 0] rfl ?_
    exact zj_Basics_nearestDouble_150 E h x0 x4 s0
  refine zx_iload E 3 dd_Basics_nearestDouble_72 rfl ?_
  refine zx_bipush E (52 : Int32) dd_Basics_nearestDouble_74 (by decide) ?_
  refine zx_isub E dd_Basics_nearestDouble_76 ?_
  refine zx_leti (fun y1 => ?_)
  refine zx_istore E (lv1 := [(7, .int y1), (5, .long s0), (0, .long x0), (2, .long x2), (4, .int x4)]) dd_Basics_nearestDouble_77 (by decide) rfl ?_
  refine zx_lload_n E 3 dd_Basics_nearestDouble_79 rfl rfl ?_
  refine zx_lconst E (1 : Int64) dd_Basics_nearestDouble_80 rfl ?_
  refine zx_iload E 0 dd_Basics_nearestDouble_81 rfl ?_
  refine zx_lshl E dd_Basics_nearestDouble_83 ?_
  refine zx_lconst E (1 : Int64) dd_Basics_nearestDouble_84 rfl ?_
  refine zx_lsub E dd_Basics_nearestDouble_85 ?_
  refine zx_land E dd_Basics_nearestDouble_86 ?_
  refine zx_letl (fun y2 => ?_)
  refine zx_lstore E (lv1 := [(8, .long y2), (7, .int y1), (5, .long s0), (0, .long x0), (2, .long x2), (4, .int x4)]) dd_Basics_nearestDouble_87 (by decide) rfl ?_
  refine zx_lconst E (1 : Int64) dd_Basics_nearestDouble_89 rfl ?_
  refine zx_iload E 1 dd_Basics_nearestDouble_90 rfl ?_
  refine zx_iconst E (1 : Int32) dd_Basics_nearestDouble_92 (by decide) ?_
  refine zx_isub E dd_Basics_nearestDouble_93 ?_
  refine zx_lshl E dd_Basics_nearestDouble_94 ?_
  refine zx_letl (fun y3 => ?_)
  refine zx_lstore E (lv1 := [(10, .long y3), (8, .long y2), (7, .int y1), (5, .long s0), (0, .long x0), (2, .long x2), (4, .int x4)]) dd_Basics_nearestDouble_95 (by decide) rfl ?_
  refine zx_lload_n E 5 dd_Basics_nearestDouble_97 rfl rfl ?_
  refine zx_iload E 2 dd_Basics_nearestDouble_98 rfl ?_
  refine zx_lushr E dd_Basics_nearestDouble_100 ?_
  refine zx_letl (fun y4 => ?_)
  refine zx_lstore E (lv1 := [(5, .long y4), (10, .long y3), (8, .long y2), (7, .int y1), (0, .long x0), (2, .long x2), (4, .int x4)]) dd_Basics_nearestDouble_101 (by decide) rfl ?_
  refine zx_lload E 2 dd_Basics_nearestDouble_103 rfl ?_
  refine zx_lload E 1 dd_Basics_nearestDouble_105 rfl ?_
  refine zx_lcmp_gt E 128 dd_Basics_nearestDouble_107 dd_Basics_nearestDouble_108 rfl ?_ ?_
  rotate_left
  · refine zx_sub [4, 6, 0] rfl ?_
    exact zj_Basics_nearestDouble_128 E h x0 x4 y4
  refine zx_lload E 2 dd_Basics_nearestDouble_111 rfl ?_
  refine zx_lload E 1 dd_Basics_nearestDouble_113 rfl ?_
  refine zx_lcmp_ne E 132 dd_Basics_nearestDouble_115 dd_Basics_nearestDouble_116 rfl ?_ ?_
  rotate_left
  · refine zx_sub [4, 6, 0] rfl ?_
    exact zj_Basics_nearestDouble_132 E h x0 x4 y4
  refine zx_lload E 0 dd_Basics_nearestDouble_119 rfl ?_
  refine zx_lconst E (1 : Int64) dd_Basics_nearestDouble_121 rfl ?_
  refine zx_land E dd_Basics_nearestDouble_122 ?_
  refine zx_lconst E (1 : Int64) dd_Basics_nearestDouble_123 rfl ?_
  refine zx_lcmp_ne E 132 dd_Basics_nearestDouble_124 dd_Basics_nearestDouble_125 rfl ?_ ?_
  · refine zx_sub [4, 6, 0] rfl ?_
    exact zj_Basics_nearestDouble_128 E h x0 x4 y4
  refine zx_sub [4, 6, 0] rfl ?_
  exact zj_Basics_nearestDouble_132 E h x0 x4 y4
set_option maxHeartbeats 4000000 in
set_option maxRecDepth 20000 in
theorem zj_Basics_nearestDouble_45 {B : zx_B} (E : zx_E B zm_Basics_nearestDouble) (h : zx_H)  (x0 : Int64) (x2 : Int64) (x4 : Int32) : zx_X B zm_Basics_nearestDouble (zx_QM B (fun r => ((some (Value.long r) : Option Value), h))) (zs_Basics_nearestDouble_J45 h  x0 x2 x4) 0 0 45 [(0, .long x0), (2, .long x2), (4, .int x4)] [] h := by
  unfold zs_Basics_nearestDouble_J45
  refine zx_iload E 2 dd_Basics_nearestDouble_45 rfl ?_
  refine zx_bipush E (52 : Int32) dd_Basics_nearestDouble_47 (by decide) ?_
  refine zx_icmp_le E 56 dd_Basics_nearestDouble_49 rfl ?_ ?_
  · refine zx_lload_n E 1 dd_Basics_nearestDouble_52 rfl rfl ?_
    refine zx_goto E 63 dd_Basics_nearestDouble_53 rfl ?_
    exact zj_Basics_nearestDouble_63 E h x0 x2 x4 x2
  refine zx_lload_n E 1 dd_Basics_nearestDouble_56 rfl rfl ?_
  refine zx_bipush E (52 : Int32) dd_Basics_nearestDouble_57 (by decide) ?_
  refine zx_iload E 2 dd_Basics_nearestDouble_59 rfl ?_
  refine zx_isub E dd_Basics_nearestDouble_61 ?_
  refine zx_lshl E dd_Basics_nearestDouble_62 ?_
  exact zj_Basics_nearestDouble_63 E h x0 x2 x4 (zx_clshl x2 ((52 : Int32) - x4))
set_option maxHeartbeats 4000000 in
set_option maxRecDepth 20000 in
theorem zb_Basics_nearestDouble_25 {B : zx_B} (E : zx_E B zm_Basics_nearestDouble) (h : zx_H)  (k25 : (Int64 → Int64 → Int32 → Option Int64)) (hk25 : ∀ (x0 : Int64) (x2 : Int64) (x4 : Int32), zx_X B zm_Basics_nearestDouble (zx_QM B (fun r => ((some (Value.long r) : Option Value), h))) (k25 x0 x2 x4) 0 0 25 [(0, .long x0), (2, .long x2), (4, .int x4)] [] h) (x0 : Int64) (x2 : Int64) (x4 : Int32) : zx_X B zm_Basics_nearestDouble (zx_QM B (fun r => ((some (Value.long r) : Option Value), h))) (zs_Basics_nearestDouble_L25_body h  k25 x0 x2 x4) 0 0 25 [(0, .long x0), (2, .long x2), (4, .int x4)] [] h := by
  unfold zs_Basics_nearestDouble_L25_body
  refine zx_iload E 2 dd_Basics_nearestDouble_25 rfl ?_
  refine zx_if_le E 45 dd_Basics_nearestDouble_27 rfl ?_ ?_
  rotate_left
  · exact zj_Basics_nearestDouble_45 E h x0 x2 x4
  refine zx_lload_n E 1 dd_Basics_nearestDouble_30 rfl rfl ?_
  refine zx_iload E 2 dd_Basics_nearestDouble_31 rfl ?_
  refine zx_lushr E dd_Basics_nearestDouble_33 ?_
  refine zx_lconst E (0 : Int64) dd_Basics_nearestDouble_34 rfl ?_
  refine zx_lcmp_ne E 45 dd_Basics_nearestDouble_35 dd_Basics_nearestDouble_36 rfl ?_ ?_
  rotate_left
  · exact zj_Basics_nearestDouble_45 E h x0 x2 x4
  refine zx_iinc E 2 (x4 + (-1 : Int32)) (lv1 := [(4, .int (x4 + (-1 : Int32))), (0, .long x0), (2, .long x2)]) dd_Basics_nearestDouble_39 rfl rfl (by decide) rfl ?_
  refine zx_goto E 25 dd_Basics_nearestDouble_42 rfl ?_
  refine zx_sub [1, 2, 0] rfl ?_
  exact hk25 x0 x2 (x4 + (-1 : Int32))
theorem zj_Basics_nearestDouble_25 {B : zx_B} (E : zx_E B zm_Basics_nearestDouble) (h : zx_H)  : ∀ (x0 : Int64) (x2 : Int64) (x4 : Int32), zx_X B zm_Basics_nearestDouble (zx_QM B (fun r => ((some (Value.long r) : Option Value), h))) (zs_Basics_nearestDouble_L25 h  x0 x2 x4) 0 0 25 [(0, .long x0), (2, .long x2), (4, .int x4)] [] h := by
  unfold zs_Basics_nearestDouble_L25
  generalize zx_fuel = n
  induction n with
  | zero => intros; exact zx_non
  | succ n ih => intro x0 x2 x4; exact zb_Basics_nearestDouble_25 E h  _ ih x0 x2 x4
set_option maxHeartbeats 4000000 in
set_option maxRecDepth 20000 in
theorem zj_Basics_nearestDouble_20 {B : zx_B} (E : zx_E B zm_Basics_nearestDouble) (h : zx_H)  (x0 : Int64) (s0 : Int64) : zx_X B zm_Basics_nearestDouble (zx_QM B (fun r => ((some (Value.long r) : Option Value), h))) (zs_Basics_nearestDouble_J20 h  x0 s0) 0 0 20 [(0, .long x0)] [.long s0] h := by
  unfold zs_Basics_nearestDouble_J20
  refine zx_lstore_n E (lv1 := [(2, .long s0), (0, .long x0)]) dd_Basics_nearestDouble_20 rfl (by decide) rfl ?_
  refine zx_bipush E (63 : Int32) dd_Basics_nearestDouble_21 (by decide) ?_
  refine zx_istore E (lv1 := [(4, .int (63 : Int32)), (2, .long s0), (0, .long x0)]) dd_Basics_nearestDouble_23 (by decide) rfl ?_
  refine zx_sub [2, 1, 0] rfl ?_
  exact zj_Basics_nearestDouble_25 E h x0 s0 (63 : Int32)
set_option maxHeartbeats 4000000 in
set_option maxRecDepth 20000 in
theorem zt_Basics_nearestDouble (l : Launch) (K : zx_K) (a0 : Int64) (h : zx_H) (r : Int64) (hf : zs_Basics_nearestDouble a0 h = some r) : zx_MR l zm_Basics_nearestDouble zy_Basics_nearestDouble K [.long a0] h (some (.long r)) h := by
  refine zx_ofM (M := zm_Basics_nearestDouble) (y := zy_Basics_nearestDouble) (r := r) (as := [.long a0]) (ρ := (fun r => ((some (Value.long r) : Option Value), h))) (by decide) rfl hf (Nat.le_of_ble_eq_true rfl) ?_
  intro B hl hK E
  subst hK
  subst hl
  show zx_X B zm_Basics_nearestDouble _ _ 0 0 0 [(0, .long a0)] [] h
  unfold zs_Basics_nearestDouble
  refine zx_lload_n E 0 dd_Basics_nearestDouble_0 rfl rfl ?_
  refine zx_lconst E (0 : Int64) dd_Basics_nearestDouble_1 rfl ?_
  refine zx_lcmp_ne E 8 dd_Basics_nearestDouble_2 dd_Basics_nearestDouble_3 rfl ?_ ?_
  · refine zx_lconst E (0 : Int64) dd_Basics_nearestDouble_6 rfl ?_
    exact zx_lret E rfl rfl dd_Basics_nearestDouble_7
  refine zx_lload_n E 0 dd_Basics_nearestDouble_8 rfl rfl ?_
  refine zx_lconst E (0 : Int64) dd_Basics_nearestDouble_9 rfl ?_
  refine zx_lcmp_ge E 19 dd_Basics_nearestDouble_10 dd_Basics_nearestDouble_11 rfl ?_ ?_
  rotate_left
  · refine zx_lload_n E 0 dd_Basics_nearestDouble_19 rfl rfl ?_
    exact zj_Basics_nearestDouble_20 E h a0 a0
  refine zx_lload_n E 0 dd_Basics_nearestDouble_14 rfl rfl ?_
  refine zx_lneg E dd_Basics_nearestDouble_15 ?_
  refine zx_goto E 20 dd_Basics_nearestDouble_16 rfl ?_
  exact zj_Basics_nearestDouble_20 E h a0 (-a0)
set_option maxHeartbeats 4000000 in
set_option maxRecDepth 20000 in
theorem zj_Basics_cast_61 {B : zx_B} (E : zx_E B zm_Basics_cast) (h : zx_H)  (x1 : Int32) (x4 : Int64) : zx_X B zm_Basics_cast (zx_QM B (fun r => ((some (Value.long r) : Option Value), h))) (zs_Basics_cast_J61 h  x1 x4) 0 0 61 [(1, .int x1), (4, .long x4)] [] h := by
  unfold zs_Basics_cast_J61
  refine zx_iload_n E 0 dd_Basics_cast_61 rfl rfl ?_
  refine zx_tsw E [104, 110, 116, 123, 139, 128, 133] 139 dd_Basics_cast_62 (by decide) rfl (zx_keys _ _ [0, 1, 2, 3, 4, 5, 6] rfl (by decide)) rfl (by decide) (by decide) ?_ ⟨?_, ?_, ?_, ?_, ?_, ?_, ?_, trivial⟩
  · refine zx_lload E 1 dd_Basics_cast_139 rfl ?_
    exact zx_lret E rfl rfl dd_Basics_cast_141
  · refine zx_lload E 1 dd_Basics_cast_104 rfl ?_
    refine zx_l2i E dd_Basics_cast_106 ?_
    refine zx_i2b E dd_Basics_cast_107 ?_
    refine zx_i2l E dd_Basics_cast_108 ?_
    exact zx_lret E rfl rfl dd_Basics_cast_109
  · refine zx_lload E 1 dd_Basics_cast_110 rfl ?_
    refine zx_l2i E dd_Basics_cast_112 ?_
    refine zx_i2s E dd_Basics_cast_113 ?_
    refine zx_i2l E dd_Basics_cast_114 ?_
    exact zx_lret E rfl rfl dd_Basics_cast_115
  · refine zx_lload E 1 dd_Basics_cast_116 rfl ?_
    refine zx_ldc2 E (65535 : Int64) zw_917 dd_Basics_cast_118 ?_
    refine zx_land E dd_Basics_cast_121 ?_
    exact zx_lret E rfl rfl dd_Basics_cast_122
  · refine zx_lload E 1 dd_Basics_cast_123 rfl ?_
    refine zx_l2i E dd_Basics_cast_125 ?_
    refine zx_i2l E dd_Basics_cast_126 ?_
    exact zx_lret E rfl rfl dd_Basics_cast_127
  · refine zx_lload E 1 dd_Basics_cast_139 rfl ?_
    exact zx_lret E rfl rfl dd_Basics_cast_141
  · refine zx_lload E 1 dd_Basics_cast_128 rfl ?_
    refine zx_lconst E (1 : Int64) dd_Basics_cast_130 rfl ?_
    refine zx_land E dd_Basics_cast_131 ?_
    exact zx_lret E rfl rfl dd_Basics_cast_132
  · refine zx_lload E 1 dd_Basics_cast_133 rfl ?_
    refine zx_callS_l E [.long x4] (fun rZ eZ => zt_Basics_nearestDouble _ _ x4 h _ eZ) zc_Basics_39 ⟨by decide, by decide⟩ (Nat.zero_le _) (Nat.zero_le _) rfl rfl (Nat.le_of_ble_eq_true rfl) dd_Basics_cast_135 (fun r1 => ?_)
    exact zx_lret E rfl rfl dd_Basics_cast_138
set_option maxHeartbeats 4000000 in
set_option maxRecDepth 20000 in
theorem zj_Basics_cast_28 {B : zx_B} (E : zx_E B zm_Basics_cast) (h : zx_H)  (x0 : Int32) (x1 : Int32) (s0 : Int64) : zx_X B zm_Basics_cast (zx_QM B (fun r => ((some (Value.long r) : Option Value), h))) (zs_Basics_cast_J28 h  x0 x1 s0) 0 0 28 [(0, .int x0), (1, .int x1)] [.long s0] h := by
  unfold zs_Basics_cast_J28
  refine zx_lstore E (lv1 := [(4, .long s0), (0, .int x0), (1, .int x1)]) dd_Basics_cast_28 (by decide) rfl ?_
  refine zx_iload_n E 1 dd_Basics_cast_30 rfl rfl ?_
  refine zx_bipush E (6 : Int32) dd_Basics_cast_31 (by decide) ?_
  refine zx_icmp_ne E 61 dd_Basics_cast_33 rfl ?_ ?_
  rotate_left
  · refine zx_sub [2, 0] rfl ?_
    exact zj_Basics_cast_61 E h x1 s0
  refine zx_iload_n E 2 dd_Basics_cast_36 rfl rfl ?_
  refine zx_iconst E (4 : Int32) dd_Basics_cast_37 (by decide) ?_
  refine zx_icmp_eq E 61 dd_Basics_cast_38 rfl ?_ ?_
  rotate_left
  · refine zx_sub [2, 0] rfl ?_
    exact zj_Basics_cast_61 E h x1 s0
  refine zx_getsL E zw_410 dd_Basics_cast_41 ?_
  refine zx_iconst E (3 : Int32) dd_Basics_cast_44 (by decide) ?_
  refine zx_slaldL E dd_Basics_cast_45 ?_
  refine zx_getsM E zw_412 dd_Basics_cast_46 ?_
  refine zx_iconst E (3 : Int32) dd_Basics_cast_49 (by decide) ?_
  refine zx_slaldM E dd_Basics_cast_50 ?_
  refine zx_lload E 0 dd_Basics_cast_51 rfl ?_
  refine zx_mmin E zw_911 zw_912 zw_20 zw_913 ⟨by decide, by decide⟩ (Nat.zero_le _) (Nat.zero_le _) dd_Basics_cast_53 ?_
  refine zx_mmax E zw_914 zw_915 zw_20 zw_916 ⟨by decide, by decide⟩ (Nat.zero_le _) (Nat.zero_le _) dd_Basics_cast_56 ?_
  refine zx_letl (fun y1 => ?_)
  refine zx_lstore E (lv1 := [(4, .long y1), (0, .int x0), (1, .int x1)]) dd_Basics_cast_59 (by decide) rfl ?_
  refine zx_sub [2, 0] rfl ?_
  exact zj_Basics_cast_61 E h x1 y1
set_option maxHeartbeats 4000000 in
set_option maxRecDepth 20000 in
theorem zj_Basics_cast_14 {B : zx_B} (E : zx_E B zm_Basics_cast) (h : zx_H)  (x0 : Int32) (x1 : Int32) (x2 : Int64) : zx_X B zm_Basics_cast (zx_QM B (fun r => ((some (Value.long r) : Option Value), h))) (zs_Basics_cast_J14 h  x0 x1 x2) 0 0 14 [(0, .int x0), (1, .int x1), (2, .long x2)] [] h := by
  unfold zs_Basics_cast_J14
  refine zx_iload_n E 0 dd_Basics_cast_14 rfl rfl ?_
  refine zx_bipush E (6 : Int32) dd_Basics_cast_15 (by decide) ?_
  refine zx_icmp_ne E 27 dd_Basics_cast_17 rfl ?_ ?_
  rotate_left
  · refine zx_lload_n E 2 dd_Basics_cast_27 rfl rfl ?_
    refine zx_sub [0, 1] rfl ?_
    exact zj_Basics_cast_28 E h x0 x1 x2
  refine zx_lload_n E 2 dd_Basics_cast_20 rfl rfl ?_
  refine zx_callS_l E [.long x2] (fun rZ eZ => zt_Basics_wholeOf _ _ x2 h _ eZ) zc_Basics_24 ⟨by decide, by decide⟩ (Nat.zero_le _) (Nat.zero_le _) rfl rfl (Nat.le_of_ble_eq_true rfl) dd_Basics_cast_21 (fun r1 => ?_)
  refine zx_goto E 28 dd_Basics_cast_24 rfl ?_
  refine zx_sub [0, 1] rfl ?_
  exact zj_Basics_cast_28 E h x0 x1 r1
set_option maxHeartbeats 4000000 in
set_option maxRecDepth 20000 in
theorem zt_Basics_cast (l : Launch) (K : zx_K) (a0 : Int32) (a1 : Int32) (a2 : Int64) (h : zx_H) (r : Int64) (hf : zs_Basics_cast a0 a1 a2 h = some r) : zx_MR l zm_Basics_cast zy_Basics_cast K [.int a0, .int a1, .long a2] h (some (.long r)) h := by
  refine zx_ofM (M := zm_Basics_cast) (y := zy_Basics_cast) (r := r) (as := [.int a0, .int a1, .long a2]) (ρ := (fun r => ((some (Value.long r) : Option Value), h))) (by decide) rfl hf (Nat.le_of_ble_eq_true rfl) ?_
  intro B hl hK E
  subst hK
  subst hl
  show zx_X B zm_Basics_cast _ _ 0 0 0 [(0, .int a0), (1, .int a1), (2, .long a2)] [] h
  unfold zs_Basics_cast
  refine zx_iload_n E 0 dd_Basics_cast_0 rfl rfl ?_
  refine zx_bipush E (6 : Int32) dd_Basics_cast_1 (by decide) ?_
  refine zx_icmp_ne E 14 dd_Basics_cast_3 rfl ?_ ?_
  rotate_left
  · exact zj_Basics_cast_14 E h a0 a1 a2
  refine zx_iload_n E 1 dd_Basics_cast_6 rfl rfl ?_
  refine zx_bipush E (6 : Int32) dd_Basics_cast_7 (by decide) ?_
  refine zx_icmp_ne E 14 dd_Basics_cast_9 rfl ?_ ?_
  rotate_left
  · exact zj_Basics_cast_14 E h a0 a1 a2
  refine zx_lload_n E 2 dd_Basics_cast_12 rfl rfl ?_
  exact zx_lret E rfl rfl dd_Basics_cast_13
set_option maxHeartbeats 4000000 in
set_option maxRecDepth 20000 in
theorem zt_Store_create (l : Launch) (K : zx_K) (a1 : Int32) (h : zx_H) (r : (Int32 × zx_H)) (hf : zs_Store_create a1 h = some r) : zx_MR l zm_Store_create zy_Store_create K [zx_rV K 7 0, .int a1] h (some (.int r.1)) r.2 := by
  refine zx_ofM (M := zm_Store_create) (y := zy_Store_create) (r := r) (as := [zx_rV K 7 0, .int a1]) (ρ := (fun r => ((some (Value.int r.1) : Option Value), r.2))) (by decide) rfl hf (Nat.le_of_ble_eq_true rfl) ?_
  intro B hl hK E
  subst hK
  subst hl
  show zx_X B zm_Store_create _ _ 0 0 0 [(0, zx_rV (zx_BK B) 7 0), (1, .int a1)] [] h
  unfold zs_Store_create
  refine zx_aload_n E 0 dd_Store_create_0 rfl rfl ?_
  refine zx_getI E zd_Store_size zg_7 Nat.zero_lt_one zw_237 dd_Store_create_1 ?_
  refine zx_sipush E (400 : Int32) dd_Store_create_4 (by decide) ?_
  refine zx_icmp_lt E 12 dd_Store_create_7 rfl ?_ ?_
  · refine zx_iconst E (-1 : Int32) dd_Store_create_10 (by decide) ?_
    exact zx_iret E rfl rfl dd_Store_create_11
  refine zx_aload_n E 0 dd_Store_create_12 rfl rfl ?_
  refine zx_getI E zd_Store_size zg_7 Nat.zero_lt_one zw_237 dd_Store_create_13 ?_
  refine zx_leti (fun y1 => ?_)
  refine zx_istore_n E (lv1 := [(2, .int y1), (0, zx_rV (zx_BK B) 7 0), (1, .int a1)]) dd_Store_create_16 rfl (by decide) rfl ?_
  refine zx_aload_n E 1 dd_Store_create_17 rfl rfl ?_
  refine zx_dup E dd_Store_create_18 rfl ?_
  refine zx_getI E zd_Store_size zg_7 Nat.zero_lt_one zw_237 dd_Store_create_19 ?_
  refine zx_iconst E (1 : Int32) dd_Store_create_22 (by decide) ?_
  refine zx_iadd E dd_Store_create_23 ?_
  refine zx_putI E zd_Store_size zp_Store_size zg_7 Nat.zero_lt_one rfl rfl zw_237 dd_Store_create_24 ?_
  refine zx_letH (fun h2 => ?_)
  refine zx_aload_n E 1 dd_Store_create_27 rfl rfl ?_
  refine zx_getR E 8 0 zd_Store_objectTypes zg_7 Nat.zero_lt_one (zr_Store_objectTypes _) zw_234 dd_Store_create_28 ?_
  refine zx_iload_n E 0 dd_Store_create_31 rfl rfl ?_
  refine zx_iload_n E 2 dd_Store_create_32 rfl rfl ?_
  refine zx_iast E zg_8 Nat.zero_lt_one dd_Store_create_33 ?_
  refine zx_letH (fun h3 => ?_)
  refine zx_aload_n E 1 dd_Store_create_34 rfl rfl ?_
  refine zx_getR E 9 0 zd_Store_lengths zg_7 Nat.zero_lt_one (zr_Store_lengths _) zw_235 dd_Store_create_35 ?_
  refine zx_iload_n E 0 dd_Store_create_38 rfl rfl ?_
  refine zx_iconst E (0 : Int32) dd_Store_create_39 (by decide) ?_
  refine zx_iast E zg_9 Nat.zero_lt_one dd_Store_create_40 ?_
  refine zx_letH (fun h4 => ?_)
  refine zx_iload_n E 0 dd_Store_create_41 rfl rfl ?_
  exact zx_iret E rfl rfl dd_Store_create_42
set_option maxHeartbeats 4000000 in
set_option maxRecDepth 20000 in
theorem zj_Converter_created_22 {B : zx_B} (E : zx_E B zm_Converter_created)  (x2 : Int32) (h : zx_H) : zx_X B zm_Converter_created (zx_QM B (fun r => ((some (Value.int r.1) : Option Value), r.2))) (zs_Converter_created_J22  x2 h) 0 0 22 [(2, .int x2)] [zx_rV (zx_BK B) 23 0] h := by
  unfold zs_Converter_created_J22
  refine zx_iconst E (1 : Int32) dd_Converter_created_22 (by decide) ?_
  refine zx_goto E 27 dd_Converter_created_23 rfl ?_
  refine zx_putI E zd_Converter_failed zp_Converter_failed zg_23 Nat.zero_lt_one rfl rfl zw_313 dd_Converter_created_27 ?_
  refine zx_letH (fun h1 => ?_)
  refine zx_iload_n E 0 dd_Converter_created_30 rfl rfl ?_
  exact zx_iret E rfl rfl dd_Converter_created_31
set_option maxHeartbeats 4000000 in
set_option maxRecDepth 20000 in
theorem zt_Converter_created (l : Launch) (K : zx_K) (a1 : Int32) (h : zx_H) (r : (Int32 × zx_H)) (hf : zs_Converter_created a1 h = some r) : zx_MR l zm_Converter_created zy_Converter_created K [zx_rV K 23 0, .int a1] h (some (.int r.1)) r.2 := by
  refine zx_ofM (M := zm_Converter_created) (y := zy_Converter_created) (r := r) (as := [zx_rV K 23 0, .int a1]) (ρ := (fun r => ((some (Value.int r.1) : Option Value), r.2))) (by decide) rfl hf (Nat.le_of_ble_eq_true rfl) ?_
  intro B hl hK E
  subst hK
  subst hl
  show zx_X B zm_Converter_created _ _ 0 0 0 [(0, zx_rV (zx_BK B) 23 0), (1, .int a1)] [] h
  unfold zs_Converter_created
  refine zx_aload_n E 0 dd_Converter_created_0 rfl rfl ?_
  refine zx_getR E 7 0 zd_Converter_store zg_23 Nat.zero_lt_one (zr_Converter_store _) zw_311 dd_Converter_created_1 ?_
  refine zx_iload_n E 1 dd_Converter_created_4 rfl rfl ?_
  refine zx_callV_iw (T := zx_TStore) E [.int a1] (fun rZ eZ => zt_Store_create _ _ a1 h _ eZ) zg_7 Nat.zero_lt_one rfl zc_Converter_88 ⟨by decide, by decide⟩ (Nat.zero_le _) (Nat.zero_le _) rfl rfl (Nat.le_of_ble_eq_true rfl) dd_Converter_created_5 (fun r1 => ?_)
  refine zx_istore_n E (lv1 := [(2, .int r1.1), (0, zx_rV (zx_BK B) 23 0), (1, .int a1)]) dd_Converter_created_8 rfl (by decide) rfl ?_
  refine zx_aload_n E 1 dd_Converter_created_9 rfl rfl ?_
  refine zx_aload_n E 1 dd_Converter_created_10 rfl rfl ?_
  refine zx_getI E zd_Converter_failed zg_23 Nat.zero_lt_one zw_313 dd_Converter_created_11 ?_
  refine zx_if_ne E 22 dd_Converter_created_14 rfl ?_ ?_
  rotate_left
  · refine zx_sub [0] rfl ?_
    exact zj_Converter_created_22 E r1.1 r1.2
  refine zx_iload_n E 0 dd_Converter_created_17 rfl rfl ?_
  refine zx_iconst E (-1 : Int32) dd_Converter_created_18 (by decide) ?_
  refine zx_icmp_ne E 26 dd_Converter_created_19 rfl ?_ ?_
  · refine zx_sub [0] rfl ?_
    exact zj_Converter_created_22 E r1.1 r1.2
  refine zx_iconst E (0 : Int32) dd_Converter_created_26 (by decide) ?_
  refine zx_putI E zd_Converter_failed zp_Converter_failed zg_23 Nat.zero_lt_one rfl rfl zw_313 dd_Converter_created_27 ?_
  refine zx_letH (fun h2 => ?_)
  refine zx_iload_n E 0 dd_Converter_created_30 rfl rfl ?_
  exact zx_iret E rfl rfl dd_Converter_created_31
set_option maxHeartbeats 4000000 in
set_option maxRecDepth 20000 in
theorem zj_Types_nameAt_31 {B : zx_B} (E : zx_E B zm_Types_nameAt) (h : zx_H)  (x1 : Int32) (x2 : Int32) (s0 : Bool) : zx_X B zm_Types_nameAt (zx_QM B (fun r => ((some (Value.int r) : Option Value), h))) (zs_Types_nameAt_J31 h  x1 x2 s0) 0 0 31 [(0, zx_rV (zx_BK B) 1 0), (1, .int x1), (2, .int x2)] [.int (zx_b s0)] h := by
  unfold zs_Types_nameAt_J31
  refine zx_istore_n E (lv1 := [(3, .int (zx_b s0)), (0, zx_rV (zx_BK B) 1 0), (1, .int x1), (2, .int x2)]) dd_Types_nameAt_31 rfl (by decide) rfl ?_
  refine zx_iload_n E 0 dd_Types_nameAt_32 rfl rfl ?_
  refine zx_ifb_eq E (x := s0) 50 dd_Types_nameAt_33 rfl ?_ ?_
  rotate_left
  · refine zx_iconst E (-1 : Int32) dd_Types_nameAt_50 (by decide) ?_
    exact zx_iret E rfl rfl dd_Types_nameAt_51
  refine zx_aload_n E 1 dd_Types_nameAt_36 rfl rfl ?_
  refine zx_getR E 5 0 zd_Types_names zg_1 Nat.zero_lt_one (zr_Types_names _) zw_44 dd_Types_nameAt_37 ?_
  refine zx_iload_n E 2 dd_Types_nameAt_40 rfl rfl ?_
  refine zx_bipush E (8 : Int32) dd_Types_nameAt_41 (by decide) ?_
  refine zx_imul E dd_Types_nameAt_43 ?_
  refine zx_iload_n E 3 dd_Types_nameAt_44 rfl rfl ?_
  refine zx_iadd E dd_Types_nameAt_45 ?_
  refine zx_iald E zg_5 Nat.zero_lt_one dd_Types_nameAt_46 ?_
  refine zx_goto E 51 dd_Types_nameAt_47 rfl ?_
  exact zx_iret E rfl rfl dd_Types_nameAt_51
set_option maxHeartbeats 4000000 in
set_option maxRecDepth 20000 in
theorem zj_Types_nameAt_30 {B : zx_B} (E : zx_E B zm_Types_nameAt) (h : zx_H)  (x1 : Int32) (x2 : Int32) : zx_X B zm_Types_nameAt (zx_QM B (fun r => ((some (Value.int r) : Option Value), h))) (zs_Types_nameAt_J30 h  x1 x2) 0 0 30 [(0, zx_rV (zx_BK B) 1 0), (1, .int x1), (2, .int x2)] [] h := by
  unfold zs_Types_nameAt_J30
  refine zx_iconst E (0 : Int32) dd_Types_nameAt_30 (by decide) ?_
  exact zj_Types_nameAt_31 E h x1 x2 false
set_option maxHeartbeats 4000000 in
set_option maxRecDepth 20000 in
theorem zt_Types_nameAt (l : Launch) (K : zx_K) (a1 : Int32) (a2 : Int32) (h : zx_H) (r : Int32) (hf : zs_Types_nameAt a1 a2 h = some r) : zx_MR l zm_Types_nameAt zy_Types_nameAt K [zx_rV K 1 0, .int a1, .int a2] h (some (.int r)) h := by
  refine zx_ofM (M := zm_Types_nameAt) (y := zy_Types_nameAt) (r := r) (as := [zx_rV K 1 0, .int a1, .int a2]) (ρ := (fun r => ((some (Value.int r) : Option Value), h))) (by decide) rfl hf (Nat.le_of_ble_eq_true rfl) ?_
  intro B hl hK E
  subst hK
  subst hl
  show zx_X B zm_Types_nameAt _ _ 0 0 0 [(0, zx_rV (zx_BK B) 1 0), (1, .int a1), (2, .int a2)] [] h
  unfold zs_Types_nameAt
  refine zx_iload_n E 1 dd_Types_nameAt_0 rfl rfl ?_
  refine zx_if_lt E 30 dd_Types_nameAt_1 rfl ?_ ?_
  rotate_left
  · exact zj_Types_nameAt_30 E h a1 a2
  refine zx_iload_n E 1 dd_Types_nameAt_4 rfl rfl ?_
  refine zx_aload_n E 0 dd_Types_nameAt_5 rfl rfl ?_
  refine zx_getI E zd_Types_size zg_1 Nat.zero_lt_one zw_46 dd_Types_nameAt_6 ?_
  refine zx_icmp_ge E 30 dd_Types_nameAt_9 rfl ?_ ?_
  rotate_left
  · exact zj_Types_nameAt_30 E h a1 a2
  refine zx_iload_n E 2 dd_Types_nameAt_12 rfl rfl ?_
  refine zx_if_lt E 30 dd_Types_nameAt_13 rfl ?_ ?_
  rotate_left
  · exact zj_Types_nameAt_30 E h a1 a2
  refine zx_iload_n E 2 dd_Types_nameAt_16 rfl rfl ?_
  refine zx_aload_n E 0 dd_Types_nameAt_17 rfl rfl ?_
  refine zx_getR E 4 0 zd_Types_memberCounts zg_1 Nat.zero_lt_one (zr_Types_memberCounts _) zw_43 dd_Types_nameAt_18 ?_
  refine zx_iload_n E 1 dd_Types_nameAt_21 rfl rfl ?_
  refine zx_iald E zg_4 Nat.zero_lt_one dd_Types_nameAt_22 ?_
  refine zx_icmp_ge E 30 dd_Types_nameAt_23 rfl ?_ ?_
  rotate_left
  · exact zj_Types_nameAt_30 E h a1 a2
  refine zx_iconst E (1 : Int32) dd_Types_nameAt_26 (by decide) ?_
  refine zx_goto E 31 dd_Types_nameAt_27 rfl ?_
  exact zj_Types_nameAt_31 E h a1 a2 true
set_option maxHeartbeats 4000000 in
set_option maxRecDepth 20000 in
theorem zj_Converter_writeNumber_55 {B : zx_B} (E : zx_E B zm_Converter_writeNumber) (k36 : (Int32 → Int64 → Int32 → Int64 → zx_H → Option zx_H)) (hk36 : ∀ (x1 : Int32) (x5 : Int64) (x7 : Int32) (x8 : Int64) (h : zx_H), zx_X B zm_Converter_writeNumber (zx_QM B (fun r => ((none : Option Value), r))) (k36 x1 x5 x7 x8 h) 0 0 36 [(0, zx_rV (zx_BK B) 23 0), (1, .int x1), (5, .long x5), (7, .int x7), (8, .long x8)] [] h) (x1 : Int32) (x5 : Int64) (x7 : Int32) (x8 : Int64) (h : zx_H) : zx_X B zm_Converter_writeNumber (zx_QM B (fun r => ((none : Option Value), r))) (zs_Converter_writeNumber_J55 k36 x1 x5 x7 x8 h) 0 0 55 [(0, zx_rV (zx_BK B) 23 0), (1, .int x1), (5, .long x5), (7, .int x7), (8, .long x8)] [] h := by
  unfold zs_Converter_writeNumber_J55
  refine zx_aload_n E 0 dd_Converter_writeNumber_55 rfl rfl ?_
  refine zx_getR E 7 0 zd_Converter_store zg_23 Nat.zero_lt_one (zr_Converter_store _) zw_311 dd_Converter_writeNumber_56 ?_
  refine zx_iload_n E 1 dd_Converter_writeNumber_59 rfl rfl ?_
  refine zx_ldc2 E (48 : Int64) zw_935 dd_Converter_writeNumber_60 ?_
  refine zx_callV_zw (T := zx_TStore) E [.int x1, .long (48 : Int64)] (fun rZ eZ => zt_Store_append _ _ x1 (48 : Int64) h _ eZ) zg_7 Nat.zero_lt_one rfl zc_Converter_103 ⟨by decide, by decide⟩ (Nat.zero_le _) (Nat.zero_le _) rfl rfl (Nat.le_of_ble_eq_true rfl) dd_Converter_writeNumber_63 (fun r1 => ?_)
  refine zx_pop E dd_Converter_writeNumber_66 rfl ?_
  refine zx_iinc E 3 (x7 + (1 : Int32)) (lv1 := [(7, .int (x7 + (1 : Int32))), (0, zx_rV (zx_BK B) 23 0), (1, .int x1), (5, .long x5), (8, .long x8)]) dd_Converter_writeNumber_67 rfl rfl (by decide) rfl ?_
  refine zx_lload E 4 dd_Converter_writeNumber_70 rfl ?_
  refine zx_ldc2 E (10 : Int64) zw_938 dd_Converter_writeNumber_72 ?_
  refine zx_ldivN E dd_Converter_writeNumber_75 (by decide) ?_
  refine zx_letl (fun y3 => ?_)
  refine zx_lstore E (lv1 := [(8, .long y3), (7, .int (x7 + (1 : Int32))), (0, zx_rV (zx_BK B) 23 0), (1, .int x1), (5, .long x5)]) dd_Converter_writeNumber_76 (by decide) rfl ?_
  refine zx_goto E 36 dd_Converter_writeNumber_78 rfl ?_
  refine zx_sub [2, 3, 4, 1, 0] rfl ?_
  exact hk36 x1 x5 (x7 + (1 : Int32)) y3 r1.2
set_option maxHeartbeats 4000000 in
set_option maxRecDepth 20000 in
theorem zb_Converter_writeNumber_96 {B : zx_B} (E : zx_E B zm_Converter_writeNumber)  (k96 : (Int32 → Int64 → Int32 → Int32 → Int32 → zx_H → Option zx_H)) (hk96 : ∀ (x1 : Int32) (x5 : Int64) (x7 : Int32) (x8 : Int32) (x9 : Int32) (h : zx_H), zx_X B zm_Converter_writeNumber (zx_QM B (fun r => ((none : Option Value), r))) (k96 x1 x5 x7 x8 x9 h) 0 0 96 [(0, zx_rV (zx_BK B) 23 0), (1, .int x1), (5, .long x5), (7, .int x7), (8, .int x8), (9, .int x9)] [] h) (x1 : Int32) (x5 : Int64) (x7 : Int32) (x8 : Int32) (x9 : Int32) (h : zx_H) : zx_X B zm_Converter_writeNumber (zx_QM B (fun r => ((none : Option Value), r))) (zs_Converter_writeNumber_L96_body  k96 x1 x5 x7 x8 x9 h) 0 0 96 [(0, zx_rV (zx_BK B) 23 0), (1, .int x1), (5, .long x5), (7, .int x7), (8, .int x8), (9, .int x9)] [] h := by
  unfold zs_Converter_writeNumber_L96_body
  refine zx_iload E 5 dd_Converter_writeNumber_96 rfl ?_
  refine zx_iload E 3 dd_Converter_writeNumber_98 rfl ?_
  refine zx_icmp_ge E 141 dd_Converter_writeNumber_100 rfl ?_ ?_
  rotate_left
  · exact zx_vret E rfl rfl dd_Converter_writeNumber_141
  refine zx_aload_n E 0 dd_Converter_writeNumber_103 rfl rfl ?_
  refine zx_getR E 7 0 zd_Converter_store zg_23 Nat.zero_lt_one (zr_Converter_store _) zw_311 dd_Converter_writeNumber_104 ?_
  refine zx_iload_n E 1 dd_Converter_writeNumber_107 rfl rfl ?_
  refine zx_iload E 4 dd_Converter_writeNumber_108 rfl ?_
  refine zx_iload E 5 dd_Converter_writeNumber_110 rfl ?_
  refine zx_isub E dd_Converter_writeNumber_112 ?_
  refine zx_ldc2 E (48 : Int64) zw_935 dd_Converter_writeNumber_113 ?_
  refine zx_lload E 2 dd_Converter_writeNumber_116 rfl ?_
  refine zx_ldc2 E (10 : Int64) zw_938 dd_Converter_writeNumber_118 ?_
  refine zx_lremN E dd_Converter_writeNumber_121 (by decide) ?_
  refine zx_lsub E dd_Converter_writeNumber_122 ?_
  refine zx_callV_zw (T := zx_TStore) E [.int x1, .int (x8 - x9), .long ((48 : Int64) - (x5 - x5 / (10 : Int64) * (10 : Int64)))] (fun rZ eZ => zt_Store_set _ _ x1 (x8 - x9) ((48 : Int64) - (x5 - x5 / (10 : Int64) * (10 : Int64))) h _ eZ) zg_7 Nat.zero_lt_one rfl zc_Converter_153 ⟨by decide, by decide⟩ (Nat.zero_le _) (Nat.zero_le _) rfl rfl (Nat.le_of_ble_eq_true rfl) dd_Converter_writeNumber_123 (fun r1 => ?_)
  refine zx_pop E dd_Converter_writeNumber_126 rfl ?_
  refine zx_lload E 2 dd_Converter_writeNumber_127 rfl ?_
  refine zx_ldc2 E (10 : Int64) zw_938 dd_Converter_writeNumber_129 ?_
  refine zx_ldivN E dd_Converter_writeNumber_132 (by decide) ?_
  refine zx_letl (fun y2 => ?_)
  refine zx_lstore E (lv1 := [(5, .long y2), (0, zx_rV (zx_BK B) 23 0), (1, .int x1), (7, .int x7), (8, .int x8), (9, .int x9)]) dd_Converter_writeNumber_133 (by decide) rfl ?_
  refine zx_iinc E 5 (x9 + (1 : Int32)) (lv1 := [(9, .int (x9 + (1 : Int32))), (5, .long y2), (0, zx_rV (zx_BK B) 23 0), (1, .int x1), (7, .int x7), (8, .int x8)]) dd_Converter_writeNumber_135 rfl rfl (by decide) rfl ?_
  refine zx_goto E 96 dd_Converter_writeNumber_138 rfl ?_
  refine zx_sub [2, 3, 1, 4, 5, 0] rfl ?_
  exact hk96 x1 y2 x7 x8 (x9 + (1 : Int32)) r1.2
theorem zj_Converter_writeNumber_96 {B : zx_B} (E : zx_E B zm_Converter_writeNumber)  : ∀ (x1 : Int32) (x5 : Int64) (x7 : Int32) (x8 : Int32) (x9 : Int32) (h : zx_H), zx_X B zm_Converter_writeNumber (zx_QM B (fun r => ((none : Option Value), r))) (zs_Converter_writeNumber_L96  x1 x5 x7 x8 x9 h) 0 0 96 [(0, zx_rV (zx_BK B) 23 0), (1, .int x1), (5, .long x5), (7, .int x7), (8, .int x8), (9, .int x9)] [] h := by
  unfold zs_Converter_writeNumber_L96
  generalize zx_fuel = n
  induction n with
  | zero => intros; exact zx_non
  | succ n ih => intro x1 x5 x7 x8 x9 h; exact zb_Converter_writeNumber_96 E  _ ih x1 x5 x7 x8 x9 h
set_option maxHeartbeats 4000000 in
set_option maxRecDepth 20000 in
theorem zj_Converter_writeNumber_81 {B : zx_B} (E : zx_E B zm_Converter_writeNumber)  (x1 : Int32) (x5 : Int64) (x7 : Int32) (h : zx_H) : zx_X B zm_Converter_writeNumber (zx_QM B (fun r => ((none : Option Value), r))) (zs_Converter_writeNumber_J81  x1 x5 x7 h) 0 0 81 [(0, zx_rV (zx_BK B) 23 0), (1, .int x1), (5, .long x5), (7, .int x7)] [] h := by
  unfold zs_Converter_writeNumber_J81
  refine zx_aload_n E 0 dd_Converter_writeNumber_81 rfl rfl ?_
  refine zx_getR E 7 0 zd_Converter_store zg_23 Nat.zero_lt_one (zr_Converter_store _) zw_311 dd_Converter_writeNumber_82 ?_
  refine zx_iload_n E 1 dd_Converter_writeNumber_85 rfl rfl ?_
  refine zx_callV_i (T := zx_TStore) E [.int x1] (fun rZ eZ => zt_Store_length _ _ x1 h _ eZ) zg_7 Nat.zero_lt_one rfl zc_Converter_109 ⟨by decide, by decide⟩ (Nat.zero_le _) (Nat.zero_le _) rfl rfl (Nat.le_of_ble_eq_true rfl) dd_Converter_writeNumber_86 (fun r1 => ?_)
  refine zx_iconst E (1 : Int32) dd_Converter_writeNumber_89 (by decide) ?_
  refine zx_isub E dd_Converter_writeNumber_90 ?_
  refine zx_leti (fun y2 => ?_)
  refine zx_istore E (lv1 := [(8, .int y2), (0, zx_rV (zx_BK B) 23 0), (1, .int x1), (5, .long x5), (7, .int x7)]) dd_Converter_writeNumber_91 (by decide) rfl ?_
  refine zx_iconst E (0 : Int32) dd_Converter_writeNumber_93 (by decide) ?_
  refine zx_istore E (lv1 := [(9, .int (0 : Int32)), (8, .int y2), (0, zx_rV (zx_BK B) 23 0), (1, .int x1), (5, .long x5), (7, .int x7)]) dd_Converter_writeNumber_94 (by decide) rfl ?_
  refine zx_sub [2, 3, 4, 5, 1, 0] rfl ?_
  exact zj_Converter_writeNumber_96 E x1 x5 x7 y2 (0 : Int32) h
set_option maxHeartbeats 4000000 in
set_option maxRecDepth 20000 in
theorem zb_Converter_writeNumber_36 {B : zx_B} (E : zx_E B zm_Converter_writeNumber)  (k36 : (Int32 → Int64 → Int32 → Int64 → zx_H → Option zx_H)) (hk36 : ∀ (x1 : Int32) (x5 : Int64) (x7 : Int32) (x8 : Int64) (h : zx_H), zx_X B zm_Converter_writeNumber (zx_QM B (fun r => ((none : Option Value), r))) (k36 x1 x5 x7 x8 h) 0 0 36 [(0, zx_rV (zx_BK B) 23 0), (1, .int x1), (5, .long x5), (7, .int x7), (8, .long x8)] [] h) (x1 : Int32) (x5 : Int64) (x7 : Int32) (x8 : Int64) (h : zx_H) : zx_X B zm_Converter_writeNumber (zx_QM B (fun r => ((none : Option Value), r))) (zs_Converter_writeNumber_L36_body  k36 x1 x5 x7 x8 h) 0 0 36 [(0, zx_rV (zx_BK B) 23 0), (1, .int x1), (5, .long x5), (7, .int x7), (8, .long x8)] [] h := by
  unfold zs_Converter_writeNumber_L36_body
  refine zx_iload E 3 dd_Converter_writeNumber_36 rfl ?_
  refine zx_if_eq E 55 dd_Converter_writeNumber_38 rfl ?_ ?_
  rotate_left
  · exact zj_Converter_writeNumber_55 E k36 hk36 x1 x5 x7 x8 h
  refine zx_lload E 4 dd_Converter_writeNumber_41 rfl ?_
  refine zx_lconst E (0 : Int64) dd_Converter_writeNumber_43 rfl ?_
  refine zx_lcmp_eq E 81 dd_Converter_writeNumber_44 dd_Converter_writeNumber_45 rfl ?_ ?_
  rotate_left
  · refine zx_sub [0, 1, 2, 3] rfl ?_
    exact zj_Converter_writeNumber_81 E x1 x5 x7 h
  refine zx_iload E 3 dd_Converter_writeNumber_48 rfl ?_
  refine zx_bipush E (24 : Int32) dd_Converter_writeNumber_50 (by decide) ?_
  refine zx_icmp_ge E 81 dd_Converter_writeNumber_52 rfl ?_ ?_
  · exact zj_Converter_writeNumber_55 E k36 hk36 x1 x5 x7 x8 h
  refine zx_sub [0, 1, 2, 3] rfl ?_
  exact zj_Converter_writeNumber_81 E x1 x5 x7 h
theorem zj_Converter_writeNumber_36 {B : zx_B} (E : zx_E B zm_Converter_writeNumber)  : ∀ (x1 : Int32) (x5 : Int64) (x7 : Int32) (x8 : Int64) (h : zx_H), zx_X B zm_Converter_writeNumber (zx_QM B (fun r => ((none : Option Value), r))) (zs_Converter_writeNumber_L36  x1 x5 x7 x8 h) 0 0 36 [(0, zx_rV (zx_BK B) 23 0), (1, .int x1), (5, .long x5), (7, .int x7), (8, .long x8)] [] h := by
  unfold zs_Converter_writeNumber_L36
  generalize zx_fuel = n
  induction n with
  | zero => intros; exact zx_non
  | succ n ih => intro x1 x5 x7 x8 h; exact zb_Converter_writeNumber_36 E  _ ih x1 x5 x7 x8 h
set_option maxHeartbeats 4000000 in
set_option maxRecDepth 20000 in
theorem zj_Converter_writeNumber_27 {B : zx_B} (E : zx_E B zm_Converter_writeNumber)  (x1 : Int32) (s0 : Int64) (h : zx_H) : zx_X B zm_Converter_writeNumber (zx_QM B (fun r => ((none : Option Value), r))) (zs_Converter_writeNumber_J27  x1 s0 h) 0 0 27 [(0, zx_rV (zx_BK B) 23 0), (1, .int x1)] [.long s0] h := by
  unfold zs_Converter_writeNumber_J27
  refine zx_lstore E (lv1 := [(5, .long s0), (0, zx_rV (zx_BK B) 23 0), (1, .int x1)]) dd_Converter_writeNumber_27 (by decide) rfl ?_
  refine zx_iconst E (0 : Int32) dd_Converter_writeNumber_29 (by decide) ?_
  refine zx_istore E (lv1 := [(7, .int (0 : Int32)), (5, .long s0), (0, zx_rV (zx_BK B) 23 0), (1, .int x1)]) dd_Converter_writeNumber_30 (by decide) rfl ?_
  refine zx_lload E 1 dd_Converter_writeNumber_32 rfl ?_
  refine zx_lstore E (lv1 := [(8, .long s0), (7, .int (0 : Int32)), (5, .long s0), (0, zx_rV (zx_BK B) 23 0), (1, .int x1)]) dd_Converter_writeNumber_34 (by decide) rfl ?_
  refine zx_sub [3, 4, 2, 1, 0] rfl ?_
  exact zj_Converter_writeNumber_36 E x1 s0 (0 : Int32) s0 h
set_option maxHeartbeats 4000000 in
set_option maxRecDepth 20000 in
theorem zj_Converter_writeNumber_15 {B : zx_B} (E : zx_E B zm_Converter_writeNumber)  (x1 : Int32) (x3 : Int64) (h : zx_H) : zx_X B zm_Converter_writeNumber (zx_QM B (fun r => ((none : Option Value), r))) (zs_Converter_writeNumber_J15  x1 x3 h) 0 0 15 [(0, zx_rV (zx_BK B) 23 0), (1, .int x1), (3, .long x3)] [] h := by
  unfold zs_Converter_writeNumber_J15
  refine zx_lload_n E 2 dd_Converter_writeNumber_15 rfl rfl ?_
  refine zx_lconst E (0 : Int64) dd_Converter_writeNumber_16 rfl ?_
  refine zx_lcmp_ge E 25 dd_Converter_writeNumber_17 dd_Converter_writeNumber_18 rfl ?_ ?_
  · refine zx_lload_n E 2 dd_Converter_writeNumber_21 rfl rfl ?_
    refine zx_goto E 27 dd_Converter_writeNumber_22 rfl ?_
    refine zx_sub [0, 1] rfl ?_
    exact zj_Converter_writeNumber_27 E x1 x3 h
  refine zx_lload_n E 2 dd_Converter_writeNumber_25 rfl rfl ?_
  refine zx_lneg E dd_Converter_writeNumber_26 ?_
  refine zx_sub [0, 1] rfl ?_
  exact zj_Converter_writeNumber_27 E x1 (-x3) h
set_option maxHeartbeats 4000000 in
set_option maxRecDepth 20000 in
theorem zt_Converter_writeNumber (l : Launch) (K : zx_K) (a1 : Int32) (a2 : Int32) (a3 : Int64) (h : zx_H) (r : zx_H) (hf : zs_Converter_writeNumber a1 a2 a3 h = some r) : zx_MR l zm_Converter_writeNumber zy_Converter_writeNumber K [zx_rV K 23 0, .int a1, .int a2, .long a3] h none r := by
  refine zx_ofM (M := zm_Converter_writeNumber) (y := zy_Converter_writeNumber) (r := r) (as := [zx_rV K 23 0, .int a1, .int a2, .long a3]) (ρ := (fun r => ((none : Option Value), r))) (by decide) rfl hf (Nat.le_of_ble_eq_true rfl) ?_
  intro B hl hK E
  subst hK
  subst hl
  show zx_X B zm_Converter_writeNumber _ _ 0 0 0 [(0, zx_rV (zx_BK B) 23 0), (1, .int a1), (2, .int a2), (3, .long a3)] [] h
  unfold zs_Converter_writeNumber
  refine zx_iload_n E 2 dd_Converter_writeNumber_0 rfl rfl ?_
  refine zx_if_eq E 15 dd_Converter_writeNumber_1 rfl ?_ ?_
  rotate_left
  · refine zx_sub [0, 1, 3] rfl ?_
    exact zj_Converter_writeNumber_15 E a1 a3 h
  refine zx_aload_n E 0 dd_Converter_writeNumber_4 rfl rfl ?_
  refine zx_getR E 7 0 zd_Converter_store zg_23 Nat.zero_lt_one (zr_Converter_store _) zw_311 dd_Converter_writeNumber_5 ?_
  refine zx_iload_n E 1 dd_Converter_writeNumber_8 rfl rfl ?_
  refine zx_iload_n E 2 dd_Converter_writeNumber_9 rfl rfl ?_
  refine zx_i2l E dd_Converter_writeNumber_10 ?_
  refine zx_callV_zw (T := zx_TStore) E [.int a1, .long (a2.toInt64)] (fun rZ eZ => zt_Store_append _ _ a1 (a2.toInt64) h _ eZ) zg_7 Nat.zero_lt_one rfl zc_Converter_103 ⟨by decide, by decide⟩ (Nat.zero_le _) (Nat.zero_le _) rfl rfl (Nat.le_of_ble_eq_true rfl) dd_Converter_writeNumber_11 (fun r1 => ?_)
  refine zx_pop E dd_Converter_writeNumber_14 rfl ?_
  refine zx_sub [0, 1, 3] rfl ?_
  exact zj_Converter_writeNumber_15 E a1 a3 r1.2
